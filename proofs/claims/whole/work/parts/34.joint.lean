/-! JOINT: the class's world and the model's, side by side; what an iteration of the law needs -/
theorem geL_lt (fr : Nat → Nat) (i : Nat) : ∀ rem l y, geL fr i rem l = some y → y < l + rem
  | 0, _, _, h => by cases h
  | rem + 1, l, y, h => by
    rw [geL] at h
    by_cases e : fr l = i
    · rw [if_pos e] at h; cases h; omega
    · rw [if_neg e] at h
      have := geL_lt fr i rem (l + 1) y h
      omega
theorem lkF_eq {ad ad' : Nat → Nat} {o : Option Nat} {m : Nat} (ho : ∀ y, o = some y → y < m) (h : ∀ j, j < m → ad' (101 + 2 * j) = ad (101 + 2 * j)) : lkF ad' o = lkF ad o := by
  cases o with
  | none => rfl
  | some y =>
    show some (ad' (101 + 2 * y)) = some (ad (101 + 2 * y))
    rw [h y (ho y rfl)]
theorem RC_tr {fr : Nat → Option va_E} {G : hG} {ad : Nat → Nat} {ct ct1 : Nat → Option va_E} {n : Nat} {ty : Nat → Int32} {A : AS} {T : TS} {L : LS4} {K : KS} {st : Int32} (h : RC fr G ad ct n ty A T L K st) (hg : agX ct1 ct) : RC ct1 G ad ct1 n ty A T L K st := by
  obtain ⟨a0, a1, a2, a3, a4, a5, a6, a7, a8, a9, a10, a11⟩ := h
  exact ⟨(hg 0 (by omega)).trans a0, (hg 1 (by omega)).trans a1, (hg 2 (by omega)).trans a2, (hg 3 (by omega)).trans a3, (hg 4 (by omega)).trans a4, (hg 5 (by omega)).trans a5, (hg 6 (by omega)).trans a6, (hg 7 (by omega)).trans a7, fun i hi => (hg _ (by omega)).trans (a8 i hi), fun j hj => (hg _ (by omega)).trans (a9 j hj), fun j _ _ => rfl, a11⟩
theorem RC_fr {fr : Nat → Option va_E} {G : hG} {ad : Nat → Nat} {ct : Nat → Option va_E} {n : Nat} {ty : Nat → Int32} {A : AS} {T : TS} {L : LS4} {K : KS} {st : Int32} (h : RC fr G ad ct n ty A T L K st) : ∀ j, 8 ≤ j → j ≤ 35 → ct j = fr j := h.2.2.2.2.2.2.2.2.2.2.1
theorem RC_ty {fr : Nat → Option va_E} {G : hG} {ad : Nat → Nat} {ct : Nat → Option va_E} {n : Nat} {ty ty' : Nat → Int32} {A : AS} {T : TS} {L : LS4} {K : KS} {st : Int32} (h : RC fr G ad ct n ty A T L K st) (ht : ∀ i, i < n → ty' i = ty i) : RC fr G ad ct n ty' A T L K st := by
  obtain ⟨a0, a1, a2, a3, a4, a5, a6, a7, a8, a9, a10, a11, a12, a13, a14⟩ := h
  refine ⟨a0, a1, a2, a3, a4, a5, a6, a7, fun i hi => ?_, a9, a10, a11, a12, a13, fun i hi => ?_⟩
  · rw [a8 i hi]; unfold DC; rw [ht i hi]
  · rw [ht i hi]; exact a14 i hi
theorem RM_tr {G : hG} {ad : Nat → Nat} {ct ct1 : Nat → Option va_E} {n : Nat} {ks : Nat → Nat} {A : AS} {tk : Nat → Int32} {L : LS4} {st : Int32} (h : RM G ad ct n ks A tk L st) (hg : ∀ j, 8 ≤ j → j ≤ 35 → ct1 j = ct j) : RM G ad ct1 n ks A tk L st := by
  obtain ⟨⟨fr, pd, fb, fa, fx, pl, h8, h19, h20, h29, h32, h33, h34, h35⟩, ⟨h10, h11, h12, h15, h18⟩, ⟨h13, h16, h17, h21, h23, h24, rw_, an, ii, h26, h27, h28⟩, hr⟩ := h
  exact ⟨⟨fr, pd, fb, fa, fx, pl, (hg _ (by omega) (by omega)).trans h8, (hg _ (by omega) (by omega)).trans h19, (hg _ (by omega) (by omega)).trans h20, (hg _ (by omega) (by omega)).trans h29, (hg _ (by omega) (by omega)).trans h32, (hg _ (by omega) (by omega)).trans h33, (hg _ (by omega) (by omega)).trans h34, (hg _ (by omega) (by omega)).trans h35⟩, ⟨(hg _ (by omega) (by omega)).trans h10, (hg _ (by omega) (by omega)).trans h11, (hg _ (by omega) (by omega)).trans h12, (hg _ (by omega) (by omega)).trans h15, (hg _ (by omega) (by omega)).trans h18⟩, ⟨(hg _ (by omega) (by omega)).trans h13, (hg _ (by omega) (by omega)).trans h16, (hg _ (by omega) (by omega)).trans h17, (hg _ (by omega) (by omega)).trans h21, (hg _ (by omega) (by omega)).trans h23, (hg _ (by omega) (by omega)).trans h24, rw_, an, ii, (hg _ (by omega) (by omega)).trans h26, (hg _ (by omega) (by omega)).trans h27, (hg _ (by omega) (by omega)).trans h28⟩, hr⟩
/-- the places that are in use -/
def useW (n m : Nat) (k : Nat) : Prop := k < 36 ∨ (∃ i, i < n ∧ k = 100 + 2 * i) ∨ ∃ j, j < m ∧ k = 101 + 2 * j
noncomputable def cutW (n m : Nat) (ct : Nat → Option va_E) : Nat → Option va_E := fun k => @ite _ (useW n m k) (Classical.propDecidable _) (ct k) none
theorem cutW_in {n m k : Nat} {ct : Nat → Option va_E} (h : useW n m k) : cutW n m ct k = ct k := by
  unfold cutW
  rw [if_pos h]
theorem cutW_some {n m k : Nat} {ct : Nat → Option va_E} {e : va_E} (h : cutW n m ct k = some e) : useW n m k ∧ ct k = some e := by
  by_cases q : useW n m k
  · rw [cutW_in q] at h; exact ⟨q, h⟩
  · unfold cutW at h
    rw [if_neg q] at h
    cases h
theorem hw_cut {G : hG} {ad ad' : Nat → Nat} {ct : Nat → Option va_E} {H : Heap} {n m : Nat} (h : hw G ad ct H) (ha : ∀ k, useW n m k → ad' k = ad k) : hw G ad' (cutW n m ct) H := by
  refine ⟨fun k e hk => ?_, fun j k e f hj hk hjk => ?_⟩
  · obtain ⟨q, h1⟩ := cutW_some hk
    rw [ha k q]; exact h.1 k e h1
  · obtain ⟨q1, h1⟩ := cutW_some hj
    obtain ⟨q2, h2⟩ := cutW_some hk
    rw [ha j q1, ha k q2] at hjk
    exact h.2 j k e f h1 h2 hjk
theorem MO_eq {ad ad' : Nat → Nat} (h : ∀ k, k < 36 → ad' k = ad k) (a b c d e f : Int32) : MO ad' a b c d e f = MO ad a b c d e f := by
  unfold MO
  rw [h 10 (by omega), h 11 (by omega), h 12 (by omega), h 13 (by omega), h 14 (by omega), h 15 (by omega), h 16 (by omega), h 17 (by omega), h 18 (by omega), h 19 (by omega), h 20 (by omega), h 21 (by omega), h 23 (by omega), h 24 (by omega), h 26 (by omega), h 27 (by omega), h 28 (by omega), h 29 (by omega), h 32 (by omega), h 33 (by omega), h 34 (by omega), h 35 (by omega)]
theorem RM_ad {G : hG} {ad ad' : Nat → Nat} {ct : Nat → Option va_E} {n : Nat} {ks : Nat → Nat} {A : AS} {tk : Nat → Int32} {L : LS4} {st : Int32} (h : RM G ad ct n ks A tk L st) (ha : ∀ k, k < 36 → ad' k = ad k) : RM G ad' ct n ks A tk L st := by
  obtain ⟨⟨fr, pd, fb, fa, fx, pl, h8, hr1⟩, hr⟩ := h
  exact ⟨⟨fr, pd, fb, fa, fx, pl, by rw [MO_eq ha]; exact h8, hr1⟩, hr⟩
theorem RC_ad {fr : Nat → Option va_E} {G : hG} {ad ad' : Nat → Nat} {ct : Nat → Option va_E} {n : Nat} {ty : Nat → Int32} {A : AS} {T : TS} {L : LS4} {K : KS} {st : Int32} (h : RC fr G ad ct n ty A T L K st) (ha : ∀ k, useW n L.1 k → ad' k = ad k) : RC fr G ad' ct n ty A T L K st := by
  have h36 : ∀ k, k < 36 → ad' k = ad k := fun k hk => ha k (Or.inl hk)
  have hd : ∀ i, i < n → ad' (100 + 2 * i) = ad (100 + 2 * i) := fun i hi => ha _ (Or.inr (Or.inl ⟨i, hi, rfl⟩))
  have hk : ∀ j, j < L.1 → ad' (101 + 2 * j) = ad (101 + 2 * j) := fun j hj => ha _ (Or.inr (Or.inr ⟨j, hj, rfl⟩))
  obtain ⟨a0, a1, a2, a3, a4, a5, a6, a7, a8, a9, a10, a11, a12, a13, a14⟩ := h
  refine ⟨?_, ?_, ?_, a3, a4, a5, ?_, a7, fun i hi => ?_, fun j hj => ?_, a10, a11, a12, a13, a14⟩
  · rw [h36 1 (by omega), h36 2 (by omega), h36 6 (by omega), h36 7 (by omega)]; exact a0
  · rw [h36 4 (by omega), h36 5 (by omega)]; exact a1
  · rw [h36 3 (by omega)]; exact a2
  · have e : dvF ad' n = dvF ad n := by
      funext i
      unfold dvF
      by_cases q : i < n
      · rw [if_pos q, if_pos q, hd i q]
      · rw [if_neg q, if_neg q]
    rw [e]; exact a6
  · rw [a8 i hi]
    unfold DC
    rw [h36 1 (by omega), h36 2 (by omega), lkF_eq (ad := ad) (ad' := ad') (fun y hy => by have := geL_lt _ _ _ _ _ hy; omega) hk, lkF_eq (ad := ad) (ad' := ad') (fun y hy => (lstL_some _ _ hy).1) hk]
  · rw [a9 j hj, hd _ (a13 j hj).2, lkF_eq (ad := ad) (ad' := ad') (fun y hy => by have := geL_lt _ _ _ _ _ hy; omega) hk]
theorem RC_cut {fr : Nat → Option va_E} {G : hG} {ad : Nat → Nat} {ct : Nat → Option va_E} {n : Nat} {ty : Nat → Int32} {A : AS} {T : TS} {L : LS4} {K : KS} {st : Int32} (h : RC fr G ad ct n ty A T L K st) : RC (cutW n L.1 ct) G ad (cutW n L.1 ct) n ty A T L K st := by
  obtain ⟨a0, a1, a2, a3, a4, a5, a6, a7, a8, a9, a10, a11⟩ := h
  have hg : ∀ k, k < 36 → cutW n L.1 ct k = ct k := fun k hk => cutW_in (Or.inl hk)
  exact ⟨(hg 0 (by omega)).trans a0, (hg 1 (by omega)).trans a1, (hg 2 (by omega)).trans a2, (hg 3 (by omega)).trans a3, (hg 4 (by omega)).trans a4, (hg 5 (by omega)).trans a5, (hg 6 (by omega)).trans a6, (hg 7 (by omega)).trans a7, fun i hi => (cutW_in (Or.inr (Or.inl ⟨i, hi, rfl⟩))).trans (a8 i hi), fun j hj => (cutW_in (Or.inr (Or.inr ⟨j, hj, rfl⟩))).trans (a9 j hj), fun j _ _ => rfl, a11⟩
/-- both worlds over one heap; B: how many calls there were -/
def JI (G : hG) (ad : Nat → Nat) (ct : Nat → Option va_E) (B n : Nat) (ks : Nat → Nat) (A : AS) (T : TS) (L : LS4) (K : KS) (st : Int32) : Prop :=
  RC ct G ad ct n (tyM ks) A T L K st ∧ RM G ad ct n ks A T.1 L st ∧ (∀ i, n ≤ i → A.2.1 i = 0 ∧ T.1 i = 0) ∧ (∃ pp, K.2.2 = nI pp ∧ pp ≤ B ∧ ∀ d, ∃ q, q ≤ pp ∧ T.2.1 d = nI q) ∧ n + L.1 ≤ B
theorem JI_fresh {G : hG} {ad : Nat → Nat} {ct : Nat → Option va_E} {B n : Nat} {ks : Nat → Nat} {A : AS} {T : TS} {L : LS4} {K : KS} {st : Int32} {H : Heap} (h : JI G ad ct B n ks A T L K st) (hW : hw G ad ct H) : ∃ (ad' : Nat → Nat) (ct' : Nat → Option va_E), JI G ad' ct' B n ks A T L K st ∧ hw G ad' ct' H ∧ ad' 0 = ad 0 ∧ ad' 8 = ad 8 ∧ ad' (100 + 2 * n) = H.size ∧ ad' (101 + 2 * L.1) = H.size := by
  have ha : ∀ k, useW n L.1 k → (fun k => if k = 100 + 2 * n then H.size else if k = 101 + 2 * L.1 then H.size else ad k) k = ad k := by
    intro k hk
    have h1 : k ≠ 100 + 2 * n := by
      rcases hk with q | ⟨i, hi, q⟩ | ⟨j, hj, q⟩ <;> omega
    have h2 : k ≠ 101 + 2 * L.1 := by
      rcases hk with q | ⟨i, hi, q⟩ | ⟨j, hj, q⟩ <;> omega
    show (if k = 100 + 2 * n then H.size else if k = 101 + 2 * L.1 then H.size else ad k) = ad k
    rw [if_neg h1, if_neg h2]
  refine ⟨fun k => if k = 100 + 2 * n then H.size else if k = 101 + 2 * L.1 then H.size else ad k, cutW n L.1 ct, ⟨(RC_cut (RC_ad h.1 ha)), RM_ad (RM_tr h.2.1 (fun j _ hj => cutW_in (Or.inl (by omega)))) (fun k hk => ha k (Or.inl hk)), h.2.2⟩, hw_cut hW ha, ha 0 (Or.inl (by omega)), ha 8 (Or.inl (by omega)), if_pos rfl, ?_⟩
  show (if 101 + 2 * L.1 = 100 + 2 * n then H.size else if 101 + 2 * L.1 = 101 + 2 * L.1 then H.size else ad (101 + 2 * L.1)) = H.size
  rw [if_neg (by omega), if_pos rfl]
/-- behind both calls: the class's world is ct1, the model's then ct2 -/
theorem JI_next {G : hG} {ad : Nat → Nat} {ct ct1 ct2 : Nat → Option va_E} {B n n' : Nat} {ks ks' : Nat → Nat} {A A' : AS} {T T' : TS} {L L' : LS4} {K K' : KS} {st st' : Int32} (_ : JI G ad ct B n ks A T L K st) (hC : RC ct G ad ct1 n' (tyM ks') A' T' L' K' st') (hM : RM G ad ct2 n' ks' A' T'.1 L' st') (hg : agX ct2 ct1) (hz : ∀ i, n' ≤ i → A'.2.1 i = 0 ∧ T'.1 i = 0) (hp : ∃ pp, K'.2.2 = nI pp ∧ pp ≤ B + 1 ∧ ∀ d, ∃ q, q ≤ pp ∧ T'.2.1 d = nI q) (hn : n' + L'.1 ≤ B + 1) : JI G ad ct2 (B + 1) n' ks' A' T' L' K' st' :=
  ⟨RC_tr hC hg, hM, hz, hp, hn⟩
/-- a call of the class that only reads, or none at all -/
theorem JI_up {G : hG} {ad : Nat → Nat} {ct : Nat → Option va_E} {B n : Nat} {ks : Nat → Nat} {A : AS} {T : TS} {L : LS4} {K : KS} {st : Int32} (h : JI G ad ct B n ks A T L K st) : JI G ad ct (B + 1) n ks A T L K st := by
  obtain ⟨a, b, c, ⟨pp, d, e, f⟩, g⟩ := h
  exact ⟨a, b, c, ⟨pp, d, by omega, f⟩, by omega⟩
theorem hp_up {K : KS} {T : TS} {B : Nat} (h : ∃ pp, K.2.2 = nI pp ∧ pp ≤ B ∧ ∀ d, ∃ q, q ≤ pp ∧ T.2.1 d = nI q) : ∃ pp, K.2.2 = nI pp ∧ pp ≤ B + 1 ∧ ∀ d, ∃ q, q ≤ pp ∧ T.2.1 d = nI q := by
  obtain ⟨pp, d, e, f⟩ := h
  exact ⟨pp, d, by omega, f⟩
/-! what the acts leave alone -/
theorem actD_o {ty : Nat → Int32} {i j : Nat} {a x : Int32} {A : AS} (h : j ≠ i) : (actD ty i a x A).2.2.1 j = A.2.1 j := pk_un h
theorem callR_o {ty : Nat → Int32} {i j : Nat} {a w x : Int32} {A : AS} (h : j ≠ i) : (callR ty i a w x A).2.1.2.1 j = A.2.1 j := by
  unfold callR
  by_cases q : rfF (ty i) a w = 0
  · rw [if_pos q]; exact actD_o h
  · rw [if_neg q]
theorem evL_o {ty : Nat → Int32} {a w x : Int32} {j : Nat} : ∀ k d z A, d + k ≤ j → (evL ty a w x k d z A).2.2.1 j = A.2.1 j
  | 0, _, _, _, _ => rfl
  | k + 1, d, z, A, h => by
    rw [evL]
    by_cases q : rfF (ty d) a w = 0
    · rw [if_pos q, evL_o k (d + 1) _ _ (by omega)]; exact actD_o (by omega)
    · rw [if_neg q, evL_o k (d + 1) _ _ (by omega)]
theorem everyR_o {n : Nat} {ty : Nat → Int32} {a w x : Int32} {A : AS} {j : Nat} (h : n ≤ j) : (everyR n ty a w x A).2.1.2.1 j = A.2.1 j := by
  unfold everyR
  by_cases q : rfAllF a w = 0
  · rw [if_pos q]; exact evL_o n 0 0 (clrA A) (by omega)
  · rw [if_neg q]
theorem fdL_o {ty : Nat → Int32} {i j : Nat} {by0 : Int32} (h : j ≠ i) : ∀ k z A, (fdL ty i by0 k z A).2.2.1 j = A.2.1 j
  | 0, _, _ => rfl
  | k + 1, z, A => by
    rw [fdL, fdL_o h k]
    exact pk_un h
/-- a pulse: those beyond n stay; the marks are of this pulse or older -/
def PZ (n pp : Nat) (P : P2) : Prop := (∀ i, n ≤ i → P.1.2.1 i = 0 ∧ P.2.1.1 i = 0) ∧ ∀ d, ∃ q, q ≤ pp ∧ P.2.1.2.1 d = nI q
theorem PZ_tak {n pp d : Nat} {ty : Nat → Int32} {x : Int32} {P : P2} (h : PZ n pp P) (hd : d < n) : PZ n pp (takP ty (nI pp) d x P) := by
  refine ⟨fun i hi => ⟨?_, ?_⟩, fun e => ?_⟩
  · show (actD ty d (takActF (ty d)) x P.1).2.2.1 i = 0
    rw [actD_o (by omega)]; exact (h.1 i hi).1
  · show upd P.2.1.1 d (P.2.1.1 d + 1) i = 0
    rw [pk_un (by omega)]; exact (h.1 i hi).2
  · show ∃ q, q ≤ pp ∧ upd P.2.1.2.1 d (nI pp) e = nI q
    by_cases q : e = d
    · rw [q, pk_us]; exact ⟨pp, Nat.le_refl _, rfl⟩
    · rw [pk_un q]; exact h.2 e
theorem PZ_pn {n pp : Nat} {ty : Nat → Int32} {L : LS4} {i : Nat} (hft : ∀ j, j < L.1 → L.2.1 j < n ∧ L.2.2 j < n) : ∀ rem l (P : P2), l + rem = L.1 → PZ n pp P → PZ n pp (pnL ty (nI pp) L i rem l P)
  | 0, _, P, _, h => h
  | rem + 1, l, P, hl, h => by
    rw [pnL]
    by_cases e1 : L.2.1 l = i
    · rw [if_pos e1]
      by_cases e2 : P.2.1.2.1 (L.2.2 l) = nI pp
      · rw [if_pos e2]; exact PZ_pn hft rem (l + 1) P (by omega) h
      · rw [if_neg e2]; exact PZ_pn hft rem (l + 1) _ (by omega) (PZ_tak h (hft l (by omega)).2)
    · rw [if_neg e1]; exact PZ_pn hft rem (l + 1) P (by omega) h
theorem PZ_ps {n pp : Nat} {ty : Nat → Int32} {L : LS4} (hft : ∀ j, j < L.1 → L.2.1 j < n ∧ L.2.2 j < n) : ∀ rem k (P : P2), PZ n pp P → PZ n pp (psL ty (nI pp) L rem k P)
  | 0, _, P, h => h
  | rem + 1, k, P, h => by
    rw [psL]
    by_cases e : k < P.2.2.2
    · rw [if_pos e]; exact PZ_ps hft rem (k + 1) _ (PZ_pn hft _ _ _ (by omega) h)
    · rw [if_neg e]; exact h
theorem PZ_R {n pp : Nat} {ty : Nat → Int32} {L : LS4} {i : Nat} {x : Int32} {A : AS} {T : TS} (hft : ∀ j, j < L.1 → L.2.1 j < n ∧ L.2.2 j < n) (hi : i < n) (hz : ∀ i, n ≤ i → A.2.1 i = 0 ∧ T.1 i = 0) (hp : ∀ d, ∃ q, q ≤ pp ∧ T.2.1 d = nI q) : PZ n pp (psR ty (nI pp) n L i x A T) :=
  PZ_ps hft _ _ _ (PZ_tak ⟨hz, hp⟩ hi)
/-! small things of the law -/
theorem and15 (x : Int32) : ∃ c, c < 16 ∧ x &&& 15 = nI c := ⟨x.toBitVec.toNat % 2 ^ 4, Nat.mod_lt _ (by decide), pk_and x 4 rfl⟩
theorem tyM_up (ks : Nat → Nat) (n kd : Nat) : upd (tyM ks) n (7 + nI kd) = tyM (va_up ks n kd) := by
  funext j
  by_cases h : j = n
  · rw [h, pk_us, tyM_at, va_up_self]; exact nI_add 7 kd
  · rw [pk_un h, tyM_at, tyM_at, va_up_ne _ _ h]
theorem kd_cases (x : Int32) : (∃ kd, kd < 11 ∧ x = nI kd) ∨ (x < 0 ∨ 11 ≤ x) := by
  by_cases h0 : x < 0
  · exact Or.inr (Or.inl h0)
  · obtain ⟨j, hj, rfl⟩ := nI_of h0
    by_cases h1 : j < 11
    · exact Or.inl ⟨j, h1, rfl⟩
    · exact Or.inr (Or.inr (nI_le (a := 11) (by omega) hj))
theorem law_more {L k : Nat} (h : 5 * k + 5 ≤ L) (hL : L ≤ 320) : ¬ Int32.ofNat L - 5 < nI (5 * k) := by
  rw [show Int32.ofNat L - 5 = nI (L - 5) from pk_sub (a := L) (b := 5) (by omega)]
  exact nI_nlt (by omega) (by omega)
theorem law_done {L k : Nat} (h : ¬ 5 * k + 5 ≤ L) (hL : L ≤ 320) (hk : k ≤ 65) : Int32.ofNat L - 5 < nI (5 * k) := by
  by_cases h5 : 5 ≤ L
  · rw [show Int32.ofNat L - 5 = nI (L - 5) from pk_sub (a := L) (b := 5) h5]
    exact nI_lt (by omega) (by omega)
  · have h0 : (0 : Int32) ≤ nI (5 * k) := nI_le (a := 0) (by omega) (by omega)
    have h1 : ∀ L, L < 5 → Int32.ofNat L - 5 < 0 := by decide
    rw [Int32.lt_iff_toInt_lt]
    have q1 := Int32.lt_iff_toInt_lt.mp (h1 L (by omega))
    have q2 := Int32.le_iff_toInt_le.mp h0
    omega
