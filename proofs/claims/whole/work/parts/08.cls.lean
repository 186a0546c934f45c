/-! CLS: what the class holds, and what its methods answer -/
abbrev AS : Type := (Nat → Int32) × (Nat → Int32) × Int32 × (Nat → Int32)
abbrev TS : Type := (Nat → Int32) × (Nat → Int32) × (Nat → Int32)
abbrev LS4 : Type := Nat × (Nat → Nat) × (Nat → Nat)
abbrev KS : Type := (Nat → Option Nat) × Int32 × Int32
def rvL (l : List Value) : Nat → Value := fun i => l.getD (i - 5) .null
theorem va_rf_s (a : Nat) : va_rf (some a) = .ref a := rfl
theorem va_rf_n : va_rf none = .null := rfl
/-- the first link from l on, of rem, that goes from i -/
def geL (fr : Nat → Nat) (i : Nat) : Nat → Nat → Option Nat
  | 0, _ => none
  | rem + 1, l => if fr l = i then some l else geL fr i rem (l + 1)
def lstL (fr : Nat → Nat) (i : Nat) : Nat → Option Nat
  | 0 => none
  | m + 1 => if fr m = i then some m else lstL fr i m
def cntL (fr : Nat → Nat) (i : Nat) : Nat → Nat
  | 0 => 0
  | m + 1 => cntL fr i m + (if fr m = i then 1 else 0)
def lkF (ad : Nat → Nat) (o : Option Nat) : Option Nat := o.map (fun j => ad (101 + 2 * j))
def dvF (ad : Nat → Nat) (n : Nat) : Nat → Option Nat := fun i => if i < n then some (ad (100 + 2 * i)) else none
def DC (ad : Nat → Nat) (ty : Nat → Int32) (A : AS) (T : TS) (L : LS4) (i : Nat) : List Value :=
  [.ref (ad 1), .ref (ad 2), .int (ty i), .int (takActF (ty i)), .int (A.1 i), .int (A.2.1 i), va_rf (lkF ad (geL L.2.1 i L.1 0)), va_rf (lkF ad (lstL L.2.1 i L.1)), .int (nI (cntL L.2.1 i L.1)), .int (nI (cntL L.2.2 i L.1)), .int (T.1 i), .int (T.2.1 i), .int (T.2.2 i)]
def RC (fr : Nat → Option va_E) (G : hG) (ad : Nat → Nat) (ct : Nat → Option va_E) (n : Nat) (ty : Nat → Int32) (A : AS) (T : TS) (L : LS4) (K : KS) (st : Int32) : Prop :=
  ct 0 = some (.inr (4, [.ref (ad 1), .ref (ad 2), .ref (ad 6), .ref (ad 7), .int (nI n), .int (nI L.1), .int K.2.1, .int K.2.2, .int st])) ∧
  ct 1 = some (.inr (1, [.ref (ad 4), .ref (ad 5)])) ∧ ct 2 = some (.inr (3, [.ref (ad 3), .int A.2.2.1])) ∧ ct 3 = some (.inl (G.2.1.1, 64, .inl A.2.2.2)) ∧
  ct 4 = some (.inl (G.2.1.1, 18, .inl borT)) ∧ ct 5 = some (.inl (G.2.1.1, 216, .inl selT)) ∧
  ct 6 = some (.inl (G.2.1.2.2, 300, .inr (.inr (.inr (.inr (dvF ad n)))))) ∧ ct 7 = some (.inl (G.2.1.2.2, 300, .inr (.inr (.inr (.inr K.1))))) ∧
  (∀ i, i < n → ct (100 + 2 * i) = some (.inr (0, DC ad ty A T L i))) ∧
  (∀ j, j < L.1 → ct (101 + 2 * j) = some (.inr (2, [.ref (ad (100 + 2 * L.2.2 j)), va_rf (lkF ad (geL L.2.1 (L.2.1 j) (L.1 - (j + 1)) (j + 1)))]))) ∧
  (∀ j, 8 ≤ j → j ≤ 35 → ct j = fr j) ∧ n ≤ 300 ∧ L.1 ≤ 400 ∧ (∀ j, j < L.1 → L.2.1 j < n ∧ L.2.2 j < n) ∧ ∀ i, i < n → ∃ k, k < 11 ∧ ty i = nI (7 + k)
def putD (i : Nat) (A : AS) (q : St) : AS := (upd A.1 i q.1, upd A.2.1 i q.2.1, q.2.2.1, q.2.2.2)
def getD (i : Nat) (A : AS) : St := (A.1 i, A.2.1 i, A.2.2.1, A.2.2.2)
def clrA (A : AS) : AS := (A.1, A.2.1, 0, A.2.2.2)
theorem RC_o {fr : Nat → Option va_E} {G : hG} {ad : Nat → Nat} {ct ct1 : Nat → Option va_E} {n : Nat} {ty : Nat → Int32} {A : AS} {T : TS} {L : LS4} {K : KS} {st tc pl st1 : Int32} (h : RC fr G ad ct n ty A T L K st) (h0 : ct1 0 = some (.inr (4, [.ref (ad 1), .ref (ad 2), .ref (ad 6), .ref (ad 7), .int (nI n), .int (nI L.1), .int tc, .int pl, .int st1]))) (hg : ∀ j, j ≠ 0 → ct1 j = ct j) : RC fr G ad ct1 n ty A T L (K.1, tc, pl) st1 := by
  obtain ⟨a0, a1, a2, a3, a4, a5, a6, a7, a8, a9, a10, a11⟩ := h
  exact ⟨h0, (hg 1 (by omega)).trans a1, (hg 2 (by omega)).trans a2, (hg 3 (by omega)).trans a3, (hg 4 (by omega)).trans a4, (hg 5 (by omega)).trans a5, (hg 6 (by omega)).trans a6, (hg 7 (by omega)).trans a7, fun i hi => (hg _ (by omega)).trans (a8 i hi), fun j hj => (hg _ (by omega)).trans (a9 j hj), fun j h1 h2 => (hg j (by omega)).trans (a10 j h1 h2), a11⟩
theorem RC_t {fr : Nat → Option va_E} {G : hG} {ad : Nat → Nat} {ct ct1 : Nat → Option va_E} {n : Nat} {ty : Nat → Int32} {A : AS} {T : TS} {L : LS4} {K : KS} {st : Int32} (h : RC fr G ad ct n ty A T L K st) (h2 : ct1 2 = some (.inr (3, [.ref (ad 3), .int 0]))) (hg : ∀ j, j ≠ 2 → ct1 j = ct j) : RC fr G ad ct1 n ty (clrA A) T L K st := by
  obtain ⟨a0, a1, a2, a3, a4, a5, a6, a7, a8, a9, a10, a11⟩ := h
  exact ⟨(hg 0 (by omega)).trans a0, (hg 1 (by omega)).trans a1, h2, (hg 3 (by omega)).trans a3, (hg 4 (by omega)).trans a4, (hg 5 (by omega)).trans a5, (hg 6 (by omega)).trans a6, (hg 7 (by omega)).trans a7, fun i hi => (hg _ (by omega)).trans (a8 i hi), fun j hj => (hg _ (by omega)).trans (a9 j hj), fun j h1 h2 => (hg j (by omega)).trans (a10 j h1 h2), a11⟩
theorem RC_7 {fr : Nat → Option va_E} {G : hG} {ad : Nat → Nat} {ct ct1 : Nat → Option va_E} {n : Nat} {ty : Nat → Int32} {A : AS} {T : TS} {L : LS4} {K : KS} {st : Int32} {tkr : Nat → Option Nat} (h : RC fr G ad ct n ty A T L K st) (h7 : ct1 7 = some (.inl (G.2.1.2.2, 300, .inr (.inr (.inr (.inr tkr)))))) (hg : ∀ j, j ≠ 7 → ct1 j = ct j) : RC fr G ad ct1 n ty A T L (tkr, K.2) st := by
  obtain ⟨a0, a1, a2, a3, a4, a5, a6, a7, a8, a9, a10, a11⟩ := h
  exact ⟨(hg 0 (by omega)).trans a0, (hg 1 (by omega)).trans a1, (hg 2 (by omega)).trans a2, (hg 3 (by omega)).trans a3, (hg 4 (by omega)).trans a4, (hg 5 (by omega)).trans a5, (hg 6 (by omega)).trans a6, h7, fun i hi => (hg _ (by omega)).trans (a8 i hi), fun j hj => (hg _ (by omega)).trans (a9 j hj), fun j h1 h2 => (hg j (by omega)).trans (a10 j h1 h2), a11⟩
theorem DC_ne {ad : Nat → Nat} {ty : Nat → Int32} {A : AS} {T : TS} {L : LS4} {i j : Nat} (q : St) (x1 x2 x3 : Int32) (h : j ≠ i) : DC ad ty (putD i A q) (upd T.1 i x1, upd T.2.1 i x2, upd T.2.2 i x3) L j = DC ad ty A T L j := by
  unfold DC putD
  simp only [pk_un h]
theorem DC_ne0 {ad : Nat → Nat} {ty : Nat → Int32} {A : AS} {T : TS} {L : LS4} {i j : Nat} (q : St) (h : j ≠ i) : DC ad ty (putD i A q) T L j = DC ad ty A T L j := by
  unfold DC putD
  simp only [pk_un h]
theorem RC_d {fr : Nat → Option va_E} {G : hG} {ad : Nat → Nat} {ct ct1 : Nat → Option va_E} {n : Nat} {ty : Nat → Int32} {A : AS} {T : TS} {L : LS4} {K : KS} {st : Int32} {i : Nat} {q : St} (h : RC fr G ad ct n ty A T L K st) (hi : i < n) (hk : ct1 (100 + 2 * i) = some (.inr (0, [.ref (ad 1), .ref (ad 2), .int (ty i), .int (takActF (ty i)), .int q.1, .int q.2.1, va_rf (lkF ad (geL L.2.1 i L.1 0)), va_rf (lkF ad (lstL L.2.1 i L.1)), .int (nI (cntL L.2.1 i L.1)), .int (nI (cntL L.2.2 i L.1)), .int (T.1 i), .int (T.2.1 i), .int (T.2.2 i)]))) (h2 : ct1 2 = some (.inr (3, [.ref (ad 3), .int q.2.2.1]))) (h3 : ct1 3 = some (.inl (G.2.1.1, 64, .inl q.2.2.2))) (hg : ∀ j, j ≠ 100 + 2 * i → j ≠ 2 → j ≠ 3 → ct1 j = ct j) : RC fr G ad ct1 n ty (putD i A q) T L K st := by
  obtain ⟨a0, a1, a2, a3, a4, a5, a6, a7, a8, a9, a10, a11⟩ := h
  refine ⟨(hg 0 (by omega) (by omega) (by omega)).trans a0, (hg 1 (by omega) (by omega) (by omega)).trans a1, h2, h3, (hg 4 (by omega) (by omega) (by omega)).trans a4, (hg 5 (by omega) (by omega) (by omega)).trans a5, (hg 6 (by omega) (by omega) (by omega)).trans a6, (hg 7 (by omega) (by omega) (by omega)).trans a7, fun j hj => ?_, fun j hj => (hg _ (by omega) (by omega) (by omega)).trans (a9 j hj), fun j h1 h2 => (hg j (by omega) (by omega) (by omega)).trans (a10 j h1 h2), a11⟩
  by_cases hji : j = i
  · subst hji
    rw [hk]
    unfold DC putD
    simp only [pk_us]
  · rw [hg _ (by omega) (by omega) (by omega), a8 j hj, DC_ne0 q hji]
theorem RC_k {fr : Nat → Option va_E} {G : hG} {ad : Nat → Nat} {ct ct1 : Nat → Option va_E} {n : Nat} {ty : Nat → Int32} {A : AS} {T : TS} {L : LS4} {K : KS} {st x1 x2 x3 : Int32} {i : Nat} {q : St} (h : RC fr G ad ct n ty A T L K st) (hi : i < n) (hk : ct1 (100 + 2 * i) = some (.inr (0, [.ref (ad 1), .ref (ad 2), .int (ty i), .int (takActF (ty i)), .int q.1, .int q.2.1, va_rf (lkF ad (geL L.2.1 i L.1 0)), va_rf (lkF ad (lstL L.2.1 i L.1)), .int (nI (cntL L.2.1 i L.1)), .int (nI (cntL L.2.2 i L.1)), .int x1, .int x2, .int x3]))) (h2 : ct1 2 = some (.inr (3, [.ref (ad 3), .int q.2.2.1]))) (h3 : ct1 3 = some (.inl (G.2.1.1, 64, .inl q.2.2.2))) (hg : ∀ j, j ≠ 100 + 2 * i → j ≠ 2 → j ≠ 3 → ct1 j = ct j) : RC fr G ad ct1 n ty (putD i A q) (upd T.1 i x1, upd T.2.1 i x2, upd T.2.2 i x3) L K st := by
  obtain ⟨a0, a1, a2, a3, a4, a5, a6, a7, a8, a9, a10, a11⟩ := h
  refine ⟨(hg 0 (by omega) (by omega) (by omega)).trans a0, (hg 1 (by omega) (by omega) (by omega)).trans a1, h2, h3, (hg 4 (by omega) (by omega) (by omega)).trans a4, (hg 5 (by omega) (by omega) (by omega)).trans a5, (hg 6 (by omega) (by omega) (by omega)).trans a6, (hg 7 (by omega) (by omega) (by omega)).trans a7, fun j hj => ?_, fun j hj => (hg _ (by omega) (by omega) (by omega)).trans (a9 j hj), fun j h1 h2 => (hg j (by omega) (by omega) (by omega)).trans (a10 j h1 h2), a11⟩
  by_cases hji : j = i
  · subst hji
    rw [hk]
    unfold DC putD
    simp only [pk_us]
  · rw [hg _ (by omega) (by omega) (by omega), a8 j hj, DC_ne q x1 x2 x3 hji]
def findF (n : Int32) (dv : Nat → Option Nat) (d : Int32) : Option Nat := if d < 0 then none else if n ≤ d then none else if 300 ≤ d then none else dv d.toNatClampNeg
theorem findF_ok {ad : Nat → Nat} {n i : Nat} (hn : n ≤ 300) (hi : i < n) : findF (nI n) (dvF ad n) (nI i) = some (ad (100 + 2 * i)) := by
  unfold findF
  rw [if_neg (nI_pos (by omega)), if_neg (nI_ge hi (by omega)), if_neg (show ¬ (300 : Int32) ≤ nI i from nI_ge (b := 300) (by omega) (by omega)), nI_clamp (by omega)]
  unfold dvF
  rw [if_pos hi]
theorem findF_no {ad : Nat → Nat} {n : Nat} {d : Int32} (hn : n ≤ 300) (hd : ∀ i, i < n → d ≠ nI i) : findF (nI n) (dvF ad n) d = none := by
  unfold findF
  by_cases h0 : d < 0
  · rw [if_pos h0]
  · rw [if_neg h0]
    obtain ⟨j, hj, rfl⟩ := nI_of h0
    by_cases h1 : nI n ≤ nI j
    · rw [if_pos h1]
    · exact absurd rfl (hd j (Nat.not_le.mp fun q => h1 ((nI_leI (by omega) hj).mpr q)))
theorem dev_cases (n : Nat) (d : Int32) : (∃ i, i < n ∧ d = nI i) ∨ ∀ i, i < n → d ≠ nI i := by
  by_cases h : ∃ i, i < n ∧ d = nI i
  · exact Or.inl h
  · exact Or.inr fun i hi hd => h ⟨i, hi, hd⟩
def rfF (t act way : Int32) : Int32 := if isActF act = 0 then 1 else if isWayF way = 0 then 1 else if bearsF borT t way = 0 then 2 else if devHasF t way act = 0 then 3 else 0
def rfAllF (act way : Int32) : Int32 := if isActF act = 0 then 1 else if isWayF way = 0 then 1 else if way = 0 then 0 else if hasActF way act = 0 then 3 else 0
def atbX (code so : Int32) : Int32 := if code < 128 then so else 0 - so
def atbF (t code so : Int32) (q : St) : Int32 × St := if rfF t (code &&& 15) (code >>> (4 &&& 31) &&& 7) = 0 then runS 40 t (selOfF selT t (code &&& 15)) (atbX code so) q else (0, q)
def actD (ty : Nat → Int32) (i : Nat) (a x : Int32) (A : AS) : Int32 × AS := ((runS 40 (ty i) (selOfF selT (ty i) a) x (getD i A)).1, putD i A (runS 40 (ty i) (selOfF selT (ty i) a) x (getD i A)).2)
def evL (ty : Nat → Int32) (act way x : Int32) : Nat → Nat → Int32 → AS → Int32 × AS
  | 0, _, s, A => (s, A)
  | k + 1, d, s, A => if rfF (ty d) act way = 0 then evL ty act way x k (d + 1) (s + (actD ty d act x A).1) (actD ty d act x A).2 else evL ty act way x k (d + 1) s A
def byteF (bytes sh : Int32) : Int32 := (bytes.toUInt32 >>> (sh.toUInt32 &&& Int32.toUInt32 31)).toInt32 &&& 255
def fdD (ty : Nat → Int32) (i : Nat) (code so : Int32) (A : AS) : Int32 × AS := ((atbF (ty i) code so (getD i A)).1, putD i A (atbF (ty i) code so (getD i A)).2)
def fdL (ty : Nat → Int32) (i : Nat) (bytes : Int32) : Nat → Int32 → AS → Int32 × AS
  | 0, s, A => (s, A)
  | k + 1, s, A => fdL ty i bytes k (s + (fdD ty i (byteF bytes (nI (8 * k))) s A).1) (fdD ty i (byteF bytes (nI (8 * k))) s A).2
/-- a pulse: which have taken (marks), who took in which order, what each answered -/
abbrev PS : Type := AS × TS × (Nat → Option Nat) × Nat
def takD (ad : Nat → Nat) (ty : Nat → Int32) (pl : Int32) (i : Nat) (x : Int32) (P : PS) : PS :=
  ((actD ty i (takActF (ty i)) x P.1).2, (upd P.2.1.1 i (P.2.1.1 i + 1), upd P.2.1.2.1 i pl, upd P.2.1.2.2 i (actD ty i (takActF (ty i)) x P.1).1), va_up P.2.2.1 P.2.2.2 (some (ad (100 + 2 * i))), P.2.2.2 + 1)
