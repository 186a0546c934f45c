/-! links and new devices, in what the class holds -/
theorem geL_congr {fr fr' : Nat → Nat} (i : Nat) : ∀ rem l, (∀ x, l ≤ x → x < l + rem → fr x = fr' x) → geL fr i rem l = geL fr' i rem l
  | 0, _, _ => rfl
  | rem + 1, l, h => by
    rw [geL, geL, h l (Nat.le_refl _) (by omega), geL_congr i rem (l + 1) (fun x h1 h2 => h x (by omega) (by omega))]
theorem geL_snoc (fr : Nat → Nat) (i : Nat) : ∀ rem l, geL fr i (rem + 1) l = match geL fr i rem l with | some x => some x | none => if fr (l + rem) = i then some (l + rem) else none
  | 0, l => rfl
  | rem + 1, l => by
    rw [geL, geL_snoc fr i rem (l + 1), geL]
    by_cases h : fr l = i
    · rw [if_pos h, if_pos h]
    · rw [if_neg h, if_neg h, show l + 1 + rem = l + (rem + 1) by omega]
theorem geL_none {fr : Nat → Nat} {i : Nat} : ∀ rem l, (∀ x, l ≤ x → x < l + rem → fr x ≠ i) → geL fr i rem l = none
  | 0, _, _ => rfl
  | rem + 1, l, h => by
    rw [geL, if_neg (h l (Nat.le_refl _) (by omega)), geL_none rem (l + 1) (fun x h1 h2 => h x (by omega) (by omega))]
theorem geL_some {fr : Nat → Nat} {i : Nat} : ∀ rem l x, l ≤ x → x < l + rem → fr x = i → ∃ y, geL fr i rem l = some y
  | 0, l, x, h1, h2, _ => by omega
  | rem + 1, l, x, h1, h2, h3 => by
    rw [geL]
    by_cases h : fr l = i
    · exact ⟨l, if_pos h⟩
    · rw [if_neg h]
      have : x ≠ l := fun q => h (q ▸ h3)
      exact geL_some rem (l + 1) x (by omega) (by omega) h3
theorem lstL_none {fr : Nat → Nat} {i : Nat} : ∀ m, lstL fr i m = none → ∀ x, x < m → fr x ≠ i
  | 0, _, x, hx => by omega
  | m + 1, h, x, hx => by
    rw [lstL] at h
    by_cases hm : fr m = i
    · rw [if_pos hm] at h; cases h
    · rw [if_neg hm] at h
      by_cases hxm : x = m
      · rw [hxm]; exact hm
      · exact lstL_none m h x (by omega)
theorem lstL_some {fr : Nat → Nat} {i : Nat} : ∀ m j, lstL fr i m = some j → j < m ∧ fr j = i ∧ ∀ x, j < x → x < m → fr x ≠ i
  | 0, j, h => by cases h
  | m + 1, j, h => by
    rw [lstL] at h
    by_cases hm : fr m = i
    · rw [if_pos hm] at h
      cases h
      exact ⟨by omega, hm, fun x h1 h2 => by omega⟩
    · rw [if_neg hm] at h
      obtain ⟨a, b, c⟩ := lstL_some m j h
      refine ⟨by omega, b, fun x h1 h2 => ?_⟩
      by_cases hxm : x = m
      · rw [hxm]; exact hm
      · exact c x h1 (by omega)
theorem lstL_congr {fr fr' : Nat → Nat} (i : Nat) : ∀ m, (∀ x, x < m → fr x = fr' x) → lstL fr i m = lstL fr' i m
  | 0, _ => rfl
  | m + 1, h => by rw [lstL, lstL, h m (by omega), lstL_congr i m (fun x hx => h x (by omega))]
theorem cntL_congr {fr fr' : Nat → Nat} (i : Nat) : ∀ m, (∀ x, x < m → fr x = fr' x) → cntL fr i m = cntL fr' i m
  | 0, _ => rfl
  | m + 1, h => by rw [cntL, cntL, h m (by omega), cntL_congr i m (fun x hx => h x (by omega))]
theorem cntL_none {fr : Nat → Nat} {i : Nat} : ∀ m, (∀ x, x < m → fr x ≠ i) → cntL fr i m = 0
  | 0, _ => rfl
  | m + 1, h => by rw [cntL, if_neg (h m (by omega)), cntL_none m (fun x hx => h x (by omega))]
theorem lstL_none' {fr : Nat → Nat} {i : Nat} : ∀ m, (∀ x, x < m → fr x ≠ i) → lstL fr i m = none
  | 0, _ => rfl
  | m + 1, h => by rw [lstL, if_neg (h m (by omega)), lstL_none' m (fun x hx => h x (by omega))]
theorem up_lt {α : Type} {f : Nat → α} {m x : Nat} {v : α} (h : x < m) : va_up f m v x = f x := va_up_ne _ _ (by omega)
def newL (L : LS4) (i j : Nat) : LS4 := (L.1 + 1, va_up L.2.1 L.1 i, va_up L.2.2 L.1 j)
theorem nl_geo {L : LS4} {i j d : Nat} (h : d ≠ i) : geL (newL L i j).2.1 d (L.1 + 1) 0 = geL L.2.1 d L.1 0 := by
  rw [geL_snoc, show geL (newL L i j).2.1 d L.1 0 = geL L.2.1 d L.1 0 from geL_congr d _ _ (fun x _ h2 => up_lt (by omega)), if_neg (by rw [Nat.zero_add]; show ¬ va_up L.2.1 L.1 i L.1 = d; rw [va_up_self]; exact fun q => h q.symm)]
  cases geL L.2.1 d L.1 0 <;> rfl
theorem nl_gen {L : LS4} {i j : Nat} (h : lstL L.2.1 i L.1 = none) : geL (newL L i j).2.1 i (L.1 + 1) 0 = some L.1 := by
  rw [geL_snoc, show geL (newL L i j).2.1 i L.1 0 = none from geL_none _ _ (fun x _ h2 => by rw [show (newL L i j).2.1 x = L.2.1 x from up_lt (by omega)]; exact lstL_none _ h x (by omega)), Nat.zero_add]
  show (if va_up L.2.1 L.1 i L.1 = i then some L.1 else none) = some L.1
  rw [va_up_self, if_pos rfl]
theorem nl_ges {L : LS4} {i j y : Nat} (h : lstL L.2.1 i L.1 = some y) : geL (newL L i j).2.1 i (L.1 + 1) 0 = geL L.2.1 i L.1 0 := by
  obtain ⟨a, b, -⟩ := lstL_some _ _ h
  obtain ⟨z, hz⟩ := geL_some (fr := L.2.1) (i := i) L.1 0 y (by omega) (by omega) b
  rw [geL_snoc, show geL (newL L i j).2.1 i L.1 0 = geL L.2.1 i L.1 0 from geL_congr i _ _ (fun x _ h2 => up_lt (by omega)), hz]
theorem nl_lso {L : LS4} {i j d : Nat} (h : d ≠ i) : lstL (newL L i j).2.1 d (L.1 + 1) = lstL L.2.1 d L.1 := by
  rw [lstL, if_neg (by show ¬ va_up L.2.1 L.1 i L.1 = d; rw [va_up_self]; exact fun q => h q.symm)]
  exact lstL_congr d _ (fun x h2 => up_lt h2)
theorem nl_lsi {L : LS4} {i j : Nat} : lstL (newL L i j).2.1 i (L.1 + 1) = some L.1 := by
  rw [lstL, if_pos (by show va_up L.2.1 L.1 i L.1 = i; rw [va_up_self])]
theorem nl_co {L : LS4} {i j d : Nat} (h : d ≠ i) : cntL (newL L i j).2.1 d (L.1 + 1) = cntL L.2.1 d L.1 := by
  rw [cntL, if_neg (by show ¬ va_up L.2.1 L.1 i L.1 = d; rw [va_up_self]; exact fun q => h q.symm)]
  exact cntL_congr d _ (fun x h2 => up_lt h2)
theorem nl_ci {L : LS4} {i j : Nat} : cntL (newL L i j).2.1 i (L.1 + 1) = cntL L.2.1 i L.1 + 1 := by
  rw [cntL, if_pos (by show va_up L.2.1 L.1 i L.1 = i; rw [va_up_self]), cntL_congr i L.1 (fun x h2 => show (newL L i j).2.1 x = L.2.1 x from up_lt h2)]
theorem nl_to {L : LS4} {i j d : Nat} (h : d ≠ j) : cntL (newL L i j).2.2 d (L.1 + 1) = cntL L.2.2 d L.1 := by
  rw [cntL, if_neg (by show ¬ va_up L.2.2 L.1 j L.1 = d; rw [va_up_self]; exact fun q => h q.symm)]
  exact cntL_congr d _ (fun x h2 => up_lt h2)
theorem nl_tj {L : LS4} {i j : Nat} : cntL (newL L i j).2.2 j (L.1 + 1) = cntL L.2.2 j L.1 + 1 := by
  rw [cntL, if_pos (by show va_up L.2.2 L.1 j L.1 = j; rw [va_up_self]), cntL_congr j L.1 (fun x h2 => show (newL L i j).2.2 x = L.2.2 x from up_lt h2)]
/-- a link's next: unchanged, but of the last one of i -/
theorem nl_nx {L : LS4} {i j x : Nat} (hx : x < L.1) (h : lstL L.2.1 i L.1 ≠ some x) : geL (newL L i j).2.1 ((newL L i j).2.1 x) (L.1 + 1 - (x + 1)) (x + 1) = geL L.2.1 (L.2.1 x) (L.1 - (x + 1)) (x + 1) := by
  rw [show (newL L i j).2.1 x = L.2.1 x from up_lt hx, show L.1 + 1 - (x + 1) = (L.1 - (x + 1)) + 1 by omega, geL_snoc, show geL (newL L i j).2.1 (L.2.1 x) (L.1 - (x + 1)) (x + 1) = geL L.2.1 (L.2.1 x) (L.1 - (x + 1)) (x + 1) from geL_congr _ _ _ (fun y _ h2 => up_lt (by omega)), show x + 1 + (L.1 - (x + 1)) = L.1 by omega]
  show (match geL L.2.1 (L.2.1 x) (L.1 - (x + 1)) (x + 1) with | some y => some y | none => if va_up L.2.1 L.1 i L.1 = L.2.1 x then some L.1 else none) = _
  rw [va_up_self]
  cases hg : geL L.2.1 (L.2.1 x) (L.1 - (x + 1)) (x + 1) with
  | some y => rfl
  | none =>
    by_cases hi : i = L.2.1 x
    · exfalso
      cases hl : lstL L.2.1 i L.1 with
      | none => exact lstL_none _ hl x hx hi.symm
      | some z =>
        obtain ⟨a, b, c⟩ := lstL_some _ _ hl
        have hzx : z ≠ x := fun q => h (by rw [hl, q])
        by_cases hlt : z < x
        · exact c x hlt hx hi.symm
        · obtain ⟨y, hy⟩ := geL_some (fr := L.2.1) (i := L.2.1 x) (L.1 - (x + 1)) (x + 1) z (by omega) (by omega) (b.trans hi)
          rw [hy] at hg; cases hg
    · exact if_neg hi
theorem nl_nxl {L : LS4} {i j x : Nat} (h : lstL L.2.1 i L.1 = some x) : geL (newL L i j).2.1 ((newL L i j).2.1 x) (L.1 + 1 - (x + 1)) (x + 1) = some L.1 := by
  obtain ⟨a, b, c⟩ := lstL_some _ _ h
  rw [show (newL L i j).2.1 x = L.2.1 x from up_lt a, b, show L.1 + 1 - (x + 1) = (L.1 - (x + 1)) + 1 by omega, geL_snoc, show geL (newL L i j).2.1 i (L.1 - (x + 1)) (x + 1) = none from geL_none _ _ (fun y h1 h2 => by rw [show (newL L i j).2.1 y = L.2.1 y from up_lt (by omega)]; exact c y (by omega) (by omega)), show x + 1 + (L.1 - (x + 1)) = L.1 by omega]
  show (if va_up L.2.1 L.1 i L.1 = i then some L.1 else none) = some L.1
  rw [va_up_self, if_pos rfl]
theorem nl_nxm {L : LS4} {i j : Nat} : geL (newL L i j).2.1 ((newL L i j).2.1 L.1) (L.1 + 1 - (L.1 + 1)) (L.1 + 1) = none := by
  rw [Nat.sub_self]; rfl
/-- what a link makes of the devices' cells -/
theorem DC_lo {ad : Nat → Nat} {ty : Nat → Int32} {A : AS} {T : TS} {L : LS4} {i j d : Nat} (h1 : d ≠ i) (h2 : d ≠ j) : DC ad ty A T (newL L i j) d = DC ad ty A T L d := by
  unfold DC
  rw [show (newL L i j).1 = L.1 + 1 from rfl, nl_geo h1, nl_lso h1, nl_co h1, nl_to h2]
theorem RC_link {fr : Nat → Option va_E} {G : hG} {ad : Nat → Nat} {ct ct1 : Nat → Option va_E} {n : Nat} {ty : Nat → Int32} {A : AS} {T : TS} {L : LS4} {K : KS} {st st1 : Int32} {i j : Nat} (h : RC fr G ad ct n ty A T L K st) (hi : i < n) (hj : j < n) (hm : L.1 < 400)
    (h0 : ct1 0 = some (.inr (4, [.ref (ad 1), .ref (ad 2), .ref (ad 6), .ref (ad 7), .int (nI n), .int (nI (L.1 + 1)), .int K.2.1, .int K.2.2, .int st1])))
    (hd : ∀ d, d < n → d = i ∨ d = j → ct1 (100 + 2 * d) = some (.inr (0, DC ad ty A T (newL L i j) d)))
    (hk : ∀ x, x < L.1 + 1 → x = L.1 ∨ lstL L.2.1 i L.1 = some x → ct1 (101 + 2 * x) = some (.inr (2, [.ref (ad (100 + 2 * (newL L i j).2.2 x)), va_rf (lkF ad (geL (newL L i j).2.1 ((newL L i j).2.1 x) (L.1 + 1 - (x + 1)) (x + 1)))])))
    (hg : ∀ y, y ≠ 0 → y ≠ 100 + 2 * i → y ≠ 100 + 2 * j → y ≠ 101 + 2 * L.1 → (∀ x, lstL L.2.1 i L.1 = some x → y ≠ 101 + 2 * x) → ct1 y = ct y) : RC fr G ad ct1 n ty A T (newL L i j) K st1 := by
  obtain ⟨a0, a1, a2, a3, a4, a5, a6, a7, a8, a9, afr, a10, a11, a12, a13⟩ := h
  have hlo : ∀ x, lstL L.2.1 i L.1 = some x → x < L.1 := fun x hx => (lstL_some _ _ hx).1
  have g : ∀ y, y < 100 → y ≠ 0 → ct1 y = ct y := fun y h1 h2 => hg y h2 (by omega) (by omega) (by omega) (fun x _ => by omega)
  refine ⟨h0, (g 1 (by omega) (by omega)).trans a1, (g 2 (by omega) (by omega)).trans a2, (g 3 (by omega) (by omega)).trans a3, (g 4 (by omega) (by omega)).trans a4, (g 5 (by omega) (by omega)).trans a5, (g 6 (by omega) (by omega)).trans a6, (g 7 (by omega) (by omega)).trans a7, fun d hd1 => ?_, fun x hx => ?_, fun y h1 h2 => (g y (by omega) (by omega)).trans (afr y h1 h2), a10, by show L.1 + 1 ≤ 400; omega, fun x hx => ?_, a13⟩
  · by_cases e1 : d = i
    · exact hd d hd1 (Or.inl e1)
    · by_cases e2 : d = j
      · exact hd d hd1 (Or.inr e2)
      · rw [hg _ (by omega) (by omega) (by omega) (by omega) (fun x _ => by omega), a8 d hd1, DC_lo e1 e2]
  · have hx' : x < L.1 + 1 := hx
    by_cases e1 : x = L.1
    · exact hk x hx' (Or.inl e1)
    · by_cases e2 : lstL L.2.1 i L.1 = some x
      · exact hk x hx' (Or.inr e2)
      · rw [hg _ (by omega) (by omega) (by omega) (by omega) (fun z hz => by intro q; exact e2 (by rw [hz, show z = x by omega])), a9 x (by omega)]
        show _ = some (Sum.inr (2, [Value.ref (ad (100 + 2 * (newL L i j).2.2 x)), va_rf (lkF ad (geL (newL L i j).2.1 ((newL L i j).2.1 x) (L.1 + 1 - (x + 1)) (x + 1)))]))
        rw [nl_nx (by omega) e2, show (newL L i j).2.2 x = L.2.2 x from up_lt (by omega)]
  · have hx' : x < L.1 + 1 := hx
    show va_up L.2.1 L.1 i x < n ∧ va_up L.2.2 L.1 j x < n
    by_cases e1 : x = L.1
    · rw [e1, va_up_self, va_up_self]; exact ⟨hi, hj⟩
    · rw [up_lt (by omega), up_lt (by omega)]; exact a12 x (by omega)
theorem dvF_up {ad : Nat → Nat} {n : Nat} : va_up (dvF ad n) n (some (ad (100 + 2 * n))) = dvF ad (n + 1) := by
  funext i
  unfold dvF va_up
  by_cases h : i = n
  · subst h; simp
  · by_cases h2 : i < n
    · simp [h, h2, Nat.lt_succ_of_lt h2]
    · simp [h, h2, show ¬ i < n + 1 by omega]
theorem RC_dev {fr : Nat → Option va_E} {G : hG} {ad : Nat → Nat} {ct ct1 : Nat → Option va_E} {n : Nat} {ty : Nat → Int32} {A : AS} {T : TS} {L : LS4} {K : KS} {st st1 t v : Int32} {kd : Nat} (h : RC fr G ad ct n ty A T L K st) (hn : n < 300) (hkd : kd < 11) (ht : t = nI (7 + kd))
    (h0 : ct1 0 = some (.inr (4, [.ref (ad 1), .ref (ad 2), .ref (ad 6), .ref (ad 7), .int (nI (n + 1)), .int (nI L.1), .int K.2.1, .int K.2.2, .int st1])))
    (h6 : ct1 6 = some (.inl (G.2.1.2.2, 300, .inr (.inr (.inr (.inr (va_up (dvF ad n) n (some (ad (100 + 2 * n))))))))))
    (hd : ct1 (100 + 2 * n) = some (.inr (0, [.ref (ad 1), .ref (ad 2), .int t, .int (takActF t), .int v, .int 0, .null, .null, .int 0, .int 0, .int 0, .int 0, .int 0])))
    (hg : ∀ y, y ≠ 0 → y ≠ 6 → y ≠ 100 + 2 * n → ct1 y = ct y) : RC fr G ad ct1 (n + 1) (upd ty n t) (upd A.1 n v, upd A.2.1 n 0, A.2.2) (upd T.1 n 0, upd T.2.1 n 0, upd T.2.2 n 0) L K st1 := by
  obtain ⟨a0, a1, a2, a3, a4, a5, a6, a7, a8, a9, afr, a10, a11, a12, a13⟩ := h
  rw [dvF_up] at h6
  refine ⟨h0, (hg 1 (by omega) (by omega) (by omega)).trans a1, (hg 2 (by omega) (by omega) (by omega)).trans a2, (hg 3 (by omega) (by omega) (by omega)).trans a3, (hg 4 (by omega) (by omega) (by omega)).trans a4, (hg 5 (by omega) (by omega) (by omega)).trans a5, h6, (hg 7 (by omega) (by omega) (by omega)).trans a7, fun d hd1 => ?_, fun x hx => (hg _ (by omega) (by omega) (by omega)).trans (a9 x hx), fun y h1 h2 => (hg y (by omega) (by omega) (by omega)).trans (afr y h1 h2), by omega, a11, fun x hx => ⟨Nat.lt_succ_of_lt (a12 x hx).1, Nat.lt_succ_of_lt (a12 x hx).2⟩, fun d hd1 => ?_⟩
  · by_cases e : d = n
    · subst e
      rw [hd]
      unfold DC
      have hf : ∀ x, x < L.1 → L.2.1 x ≠ d := fun x hx => by have := (a12 x hx).1; omega
      have hto : ∀ x, x < L.1 → L.2.2 x ≠ d := fun x hx => by have := (a12 x hx).2; omega
      rw [geL_none _ _ (fun x _ h2 => hf x (by omega)), lstL_none' _ hf, cntL_none _ hf, cntL_none _ hto]
      simp only [pk_us]
      rfl
    · rw [hg _ (by omega) (by omega) (by omega), a8 d (by omega)]
      unfold DC
      simp only [pk_un e]
  · by_cases e : d = n
    · subst e; exact ⟨kd, hkd, by rw [pk_us]; exact ht⟩
    · rw [pk_un e]; exact a13 d (by omega)
