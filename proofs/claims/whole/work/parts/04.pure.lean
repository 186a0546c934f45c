/-! PURE: what the class's tables and their readers answer -/
def isTypeF (x : Int32) : Int32 := if x < 0 then 0 else if 18 ≤ x then 0 else 1
def isActF (x : Int32) : Int32 := if x < 0 then 0 else if 12 ≤ x then 0 else 1
def isWayF (x : Int32) : Int32 := if x < 0 then 0 else if 7 ≤ x then 0 else 1
def isIfcF (x : Int32) : Int32 := if x < 2 then 0 else if 6 < x then 0 else 1
def holdsF (b n : Int32) : Int32 := if b >>> (n &&& 31) &&& 1 = 1 then 1 else 0
def parentF (t : Int32) : Int32 := if isTypeF t = 0 then -1 else tab tabPl t.toNatClampNeg
def bodyF (t a : Int32) : Int32 := if isTypeF t = 0 then 0 else if isActF a = 0 then 0 else tab tabBl (t * 12 + a).toNatClampNeg
def ifcL (f : Nat → Int32) (t : Int32) : Nat → Nat → Int32 → Int32
  | 0, _, b => b
  | n + 1, k, b => ifcL f t n (k + 1) (if holdsF (tab tabNl t.toNatClampNeg) (nI k) = 0 then b else b ||| f k)
def ifcU (t : Int32) : Int32 := if isIfcF t = 0 then 0 else 1 <<< (t &&& 31)
def ifcB (f : Nat → Int32) (t : Int32) : Int32 := if isTypeF (parentF t) = 0 then ifcU t else ifcU t ||| f (parentF t).toNatClampNeg
def ifcF (f : Nat → Int32) (t : Int32) : Int32 := if isTypeF t = 0 then 0 else ifcL f t 5 2 (ifcB f t)
def bolF (a : Int32) : Nat → Int32 → Int32
  | 0, _ => 0
  | n + 1, h => if isTypeF h = 0 then 0 else if bodyF h a = 0 then bolF a n (parentF h) else bodyF h a
def bearOneF (f : Nat → Int32) (t n : Int32) : Int32 := if isTypeF t = 0 then 0 else if holdsF (f t.toNatClampNeg) n = 0 then 0 else 1
def ovL (f : Nat → Int32) (one t a : Int32) : Nat → Nat → Int32
  | 0, _ => 0
  | n + 1, k => if (if nI k = one then (0 : Int32) else if bearOneF f (nI k) one = 0 then 0 else 1) = 0 then ovL f one t a n (k + 1) else if bearOneF f t (nI k) = 0 then ovL f one t a n (k + 1) else if bodyF (nI k) a = 0 then ovL f one t a n (k + 1) else 1
def boiL (f : Nat → Int32) (t a : Int32) : Nat → Nat → Int32
  | 0, _ => 0
  | n + 1, k => if (if bearOneF f t (nI k) = 0 then (0 : Int32) else if bodyF (nI k) a = 0 then 0 else 1) = 0 then boiL f t a n (k + 1) else if ovL f (nI k) t a 5 2 = 0 then bodyF (nI k) a else boiL f t a n (k + 1)
def selF (f : Nat → Int32) (t a : Int32) : Int32 := if bolF a 18 t = 0 then boiL f t a 5 2 else bolF a 18 t
def selOfF (f : Nat → Int32) (t a : Int32) : Int32 := if isTypeF t = 0 then 0 else if isActF a = 0 then 0 else f (t * 12 + a).toNatClampNeg
def bearsF (f : Nat → Int32) (t w : Int32) : Int32 := if isTypeF t = 0 then 0 else if isWayF w = 0 then 0 else if w ≤ 1 then 1 else if holdsF (f t.toNatClampNeg) w = 0 then 0 else 1
def hasActF (w a : Int32) : Int32 := if isWayF w = 0 then 0 else if isActF a = 0 then 0 else if holdsF (tab tabWl w.toNatClampNeg) a = 0 then 0 else 1
def khaL (f : Nat → Int32) (t a : Int32) : Nat → Nat → Int32
  | 0, _ => 0
  | n + 1, k => if bearsF f t (nI k) = 0 then khaL f t a n (k + 1) else if hasActF (nI k) a = 0 then khaL f t a n (k + 1) else 1
theorem isTypeF_b (x : Int32) : isTypeF x = 0 ∨ isTypeF x = 1 := by unfold isTypeF; split; exact Or.inl rfl; split; exact Or.inl rfl; exact Or.inr rfl
theorem isActF_b (x : Int32) : isActF x = 0 ∨ isActF x = 1 := by unfold isActF; split; exact Or.inl rfl; split; exact Or.inl rfl; exact Or.inr rfl
theorem isWayF_b (x : Int32) : isWayF x = 0 ∨ isWayF x = 1 := by unfold isWayF; split; exact Or.inl rfl; split; exact Or.inl rfl; exact Or.inr rfl
theorem isIfcF_b (x : Int32) : isIfcF x = 0 ∨ isIfcF x = 1 := by unfold isIfcF; split; exact Or.inl rfl; split; exact Or.inl rfl; exact Or.inr rfl
theorem holdsF_b (b n : Int32) : holdsF b n = 0 ∨ holdsF b n = 1 := by unfold holdsF; split; exact Or.inr rfl; exact Or.inl rfl
theorem bearOneF_b (f : Nat → Int32) (t n : Int32) : bearOneF f t n = 0 ∨ bearOneF f t n = 1 := by
  unfold bearOneF
  (repeat' split) <;> first | exact Or.inl rfl | exact Or.inr rfl
theorem ovL_b (f : Nat → Int32) (one t a : Int32) : ∀ n k, ovL f one t a n k = 0 ∨ ovL f one t a n k = 1
  | 0, _ => Or.inl rfl
  | n + 1, k => by
    have ih := ovL_b f one t a n (k + 1)
    rw [ovL]
    generalize ovL f one t a n (k + 1) = r at ih
    (repeat' split) <;> first | exact ih | exact Or.inr rfl
theorem bearsF_b (f : Nat → Int32) (t w : Int32) : bearsF f t w = 0 ∨ bearsF f t w = 1 := by
  unfold bearsF
  (repeat' split) <;> first | exact Or.inl rfl | exact Or.inr rfl
theorem hasActF_b (w a : Int32) : hasActF w a = 0 ∨ hasActF w a = 1 := by
  unfold hasActF
  (repeat' split) <;> first | exact Or.inl rfl | exact Or.inr rfl
theorem khaL_b (f : Nat → Int32) (t a : Int32) : ∀ n k, khaL f t a n k = 0 ∨ khaL f t a n k = 1
  | 0, _ => Or.inl rfl
  | n + 1, k => by
    have ih := khaL_b f t a n (k + 1)
    rw [khaL]
    generalize khaL f t a n (k + 1) = r at ih
    (repeat' split) <;> first | exact ih | exact Or.inr rfl
theorem in_lt {x n : Int32} {N : Nat} (hN : N < 2 ^ 31) (hn : n = nI N) (h0 : ¬ x < 0) (h1 : ¬ n ≤ x) : vp_in x N := by
  rw [vp_in_iff]
  rw [Int32.lt_iff_toInt_lt] at h0
  rw [Int32.le_iff_toInt_le, hn, nI_toInt hN] at h1
  have e : (0 : Int32).toInt = 0 := rfl
  rw [e] at h0
  omega
theorem isTypeF_in {x : Int32} (h : ¬ isTypeF x = 0) : vp_in x 18 := by
  unfold isTypeF at h
  by_cases h0 : x < 0
  · rw [if_pos h0] at h; exact absurd rfl h
  · rw [if_neg h0] at h
    by_cases h1 : 18 ≤ x
    · rw [if_pos h1] at h; exact absurd rfl h
    · exact in_lt (by omega) rfl h0 h1
theorem isActF_in {x : Int32} (h : ¬ isActF x = 0) : vp_in x 12 := by
  unfold isActF at h
  by_cases h0 : x < 0
  · rw [if_pos h0] at h; exact absurd rfl h
  · rw [if_neg h0] at h
    by_cases h1 : 12 ≤ x
    · rw [if_pos h1] at h; exact absurd rfl h
    · exact in_lt (by omega) rfl h0 h1
theorem isWayF_in {x : Int32} (h : ¬ isWayF x = 0) : vp_in x 7 := by
  unfold isWayF at h
  by_cases h0 : x < 0
  · rw [if_pos h0] at h; exact absurd rfl h
  · rw [if_neg h0] at h
    by_cases h1 : 7 ≤ x
    · rw [if_pos h1] at h; exact absurd rfl h
    · exact in_lt (by omega) rfl h0 h1
theorem in_ta {t a : Int32} (h : vp_in t 18) (g : vp_in a 12) : vp_in (t * 12 + a) 216 := by
  obtain ⟨i, hi, rfl⟩ := vp_in_of h (by omega)
  obtain ⟨j, hj, rfl⟩ := vp_in_of g (by omega)
  rw [show (12 : Int32) = nI 12 from rfl, pk_mul, nI_add]
  exact vp_in_nI (by omega) (by omega)
theorem le6 {k : Nat} (h : k ≤ 6) : ¬ (6 : Int32) < nI k := nI_nlt (a := 6) (b := k) h (by omega)
theorem typeF_nI {k : Nat} (h : k < 18) : isTypeF (nI k) = 1 := by
  unfold isTypeF
  rw [if_neg (nI_pos (by omega)), if_neg (show ¬ (18 : Int32) ≤ nI k from nI_ge (b := 18) h (by omega))]
theorem actF_nI {k : Nat} (h : k < 12) : isActF (nI k) = 1 := by
  unfold isActF
  rw [if_neg (nI_pos (by omega)), if_neg (show ¬ (12 : Int32) ≤ nI k from nI_ge (b := 12) h (by omega))]
theorem wayF_nI {k : Nat} (h : k < 7) : isWayF (nI k) = 1 := by
  unfold isWayF
  rw [if_neg (nI_pos (by omega)), if_neg (show ¬ (7 : Int32) ≤ nI k from nI_ge (b := 7) h (by omega))]
