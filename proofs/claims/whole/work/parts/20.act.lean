/-! ACT: fuel does not matter past what a body needs; the model's act -/
theorem rok_10 {kk : Nat} (hk11 : kk < 11) {n m : Nat} (hnm : n ≤ m) (ih : ∀ b, okM kk n b = true → ∀ m, n ≤ m → ∀ x q, runS m (nI (7 + kk)) (nI b) x q = runS n (nI (7 + kk)) (nI b) x q) (hok : okM kk (n + 1) 10 = true) (x : Int32) (q : St) : runS (m + 1) (nI (7 + kk)) (nI 10) x q = runS (n + 1) (nI (7 + kk)) (nI 10) x q := by
  rw [okM_s, Bool.and_eq_true, callsT_10] at hok
  have hok2 := List.all_eq_true.mp hok.2
  have hx0 : (vdT kk 0 && okM kk n (doB kk 0)) = true := hok2 (0, 0) (by decide)
  rw [Bool.and_eq_true] at hx0
  have hr0 := ih _ hx0.2 m hnm
  have hl0 : selOfF selT (nI (7 + kk)) 0 = nI (doB kk 0) := (do_val kk hk11 0 (by omega) hx0.1).2.2.2
  rw [runS, runS, if_neg (show ¬ nI 10 = 0 by decide), if_neg (show ¬ nI 10 = 0 by decide)]
  rw [show bodyS (runS m (nI (7 + kk))) (nI (7 + kk)) (nI 10) x (bgS (nI 10) q) = _ from bodyS_10 _ _ _ _, show bodyS (runS n (nI (7 + kk))) (nI (7 + kk)) (nI 10) x (bgS (nI 10) q) = _ from bodyS_10 _ _ _ _]
  simp only [hl0, hr0]
theorem rok_11 {kk : Nat} (hk11 : kk < 11) {n m : Nat} (hnm : n ≤ m) (ih : ∀ b, okM kk n b = true → ∀ m, n ≤ m → ∀ x q, runS m (nI (7 + kk)) (nI b) x q = runS n (nI (7 + kk)) (nI b) x q) (hok : okM kk (n + 1) 11 = true) (x : Int32) (q : St) : runS (m + 1) (nI (7 + kk)) (nI 11) x q = runS (n + 1) (nI (7 + kk)) (nI 11) x q := by
  rw [okM_s, Bool.and_eq_true, callsT_11] at hok
  have hok2 := List.all_eq_true.mp hok.2
  have hx0 : (vdT kk 1 && okM kk n (doB kk 1)) = true := hok2 (0, 1) (by decide)
  rw [Bool.and_eq_true] at hx0
  have hr0 := ih _ hx0.2 m hnm
  have hl0 : selOfF selT (nI (7 + kk)) 1 = nI (doB kk 1) := (do_val kk hk11 1 (by omega) hx0.1).2.2.2
  have hx1 : (vdT kk 0 && okM kk n (doB kk 0)) = true := hok2 (0, 0) (by decide)
  rw [Bool.and_eq_true] at hx1
  have hr1 := ih _ hx1.2 m hnm
  have hl1 : selOfF selT (nI (7 + kk)) 0 = nI (doB kk 0) := (do_val kk hk11 0 (by omega) hx1.1).2.2.2
  rw [runS, runS, if_neg (show ¬ nI 11 = 0 by decide), if_neg (show ¬ nI 11 = 0 by decide)]
  rw [show bodyS (runS m (nI (7 + kk))) (nI (7 + kk)) (nI 11) x (bgS (nI 11) q) = _ from bodyS_11 _ _ _ _, show bodyS (runS n (nI (7 + kk))) (nI (7 + kk)) (nI 11) x (bgS (nI 11) q) = _ from bodyS_11 _ _ _ _]
  simp only [hl0, hr0, hl1, hr1]
theorem rok_20 {kk : Nat} (hk11 : kk < 11) {n m : Nat} (hnm : n ≤ m) (ih : ∀ b, okM kk n b = true → ∀ m, n ≤ m → ∀ x q, runS m (nI (7 + kk)) (nI b) x q = runS n (nI (7 + kk)) (nI b) x q) (hok : okM kk (n + 1) 20 = true) (x : Int32) (q : St) : runS (m + 1) (nI (7 + kk)) (nI 20) x q = runS (n + 1) (nI (7 + kk)) (nI 20) x q := by
  rw [okM_s, Bool.and_eq_true, callsT_20] at hok
  have hok2 := List.all_eq_true.mp hok.2
  have hx0 : (vdT kk 3 && okM kk n (doB kk 3)) = true := hok2 (0, 3) (by decide)
  rw [Bool.and_eq_true] at hx0
  have hr0 := ih _ hx0.2 m hnm
  have hl0 : selOfF selT (nI (7 + kk)) 3 = nI (doB kk 3) := (do_val kk hk11 3 (by omega) hx0.1).2.2.2
  rw [runS, runS, if_neg (show ¬ nI 20 = 0 by decide), if_neg (show ¬ nI 20 = 0 by decide)]
  rw [show bodyS (runS m (nI (7 + kk))) (nI (7 + kk)) (nI 20) x (bgS (nI 20) q) = _ from bodyS_20 _ _ _ _, show bodyS (runS n (nI (7 + kk))) (nI (7 + kk)) (nI 20) x (bgS (nI 20) q) = _ from bodyS_20 _ _ _ _]
  simp only [hl0, hr0]
theorem rok_21 {kk : Nat} (hk11 : kk < 11) {n m : Nat} (hnm : n ≤ m) (ih : ∀ b, okM kk n b = true → ∀ m, n ≤ m → ∀ x q, runS m (nI (7 + kk)) (nI b) x q = runS n (nI (7 + kk)) (nI b) x q) (hok : okM kk (n + 1) 21 = true) (x : Int32) (q : St) : runS (m + 1) (nI (7 + kk)) (nI 21) x q = runS (n + 1) (nI (7 + kk)) (nI 21) x q := by
  rw [okM_s, Bool.and_eq_true, callsT_21] at hok
  have hok2 := List.all_eq_true.mp hok.2
  have hx0 : (vdT kk 4 && okM kk n (doB kk 4)) = true := hok2 (0, 4) (by decide)
  rw [Bool.and_eq_true] at hx0
  have hr0 := ih _ hx0.2 m hnm
  have hl0 : selOfF selT (nI (7 + kk)) 4 = nI (doB kk 4) := (do_val kk hk11 4 (by omega) hx0.1).2.2.2
  rw [runS, runS, if_neg (show ¬ nI 21 = 0 by decide), if_neg (show ¬ nI 21 = 0 by decide)]
  rw [show bodyS (runS m (nI (7 + kk))) (nI (7 + kk)) (nI 21) x (bgS (nI 21) q) = _ from bodyS_21 _ _ _ _, show bodyS (runS n (nI (7 + kk))) (nI (7 + kk)) (nI 21) x (bgS (nI 21) q) = _ from bodyS_21 _ _ _ _]
  simp only [hl0, hr0]
theorem rok_30 {kk : Nat} (hk11 : kk < 11) {n m : Nat} (hnm : n ≤ m) (ih : ∀ b, okM kk n b = true → ∀ m, n ≤ m → ∀ x q, runS m (nI (7 + kk)) (nI b) x q = runS n (nI (7 + kk)) (nI b) x q) (hok : okM kk (n + 1) 30 = true) (x : Int32) (q : St) : runS (m + 1) (nI (7 + kk)) (nI 30) x q = runS (n + 1) (nI (7 + kk)) (nI 30) x q := by
  rw [okM_s, Bool.and_eq_true, callsT_30] at hok
  have hok2 := List.all_eq_true.mp hok.2
  have hr0 := ih 11 (hok2 (1, 11) (by decide)) m hnm
  have hl0 : selOfF selT 2 2 = nI 11 := by decide +kernel
  have hr1 := ih 21 (hok2 (1, 21) (by decide)) m hnm
  have hl1 : selOfF selT 3 2 = nI 21 := by decide +kernel
  rw [runS, runS, if_neg (show ¬ nI 30 = 0 by decide), if_neg (show ¬ nI 30 = 0 by decide)]
  rw [show bodyS (runS m (nI (7 + kk))) (nI (7 + kk)) (nI 30) x (bgS (nI 30) q) = _ from bodyS_30 _ _ _ _, show bodyS (runS n (nI (7 + kk))) (nI (7 + kk)) (nI 30) x (bgS (nI 30) q) = _ from bodyS_30 _ _ _ _]
  simp only [hl0, hr0, hl1, hr1]
theorem rok_40 {kk : Nat} (hk11 : kk < 11) {n m : Nat} (hnm : n ≤ m) (ih : ∀ b, okM kk n b = true → ∀ m, n ≤ m → ∀ x q, runS m (nI (7 + kk)) (nI b) x q = runS n (nI (7 + kk)) (nI b) x q) (hok : okM kk (n + 1) 40 = true) (x : Int32) (q : St) : runS (m + 1) (nI (7 + kk)) (nI 40) x q = runS (n + 1) (nI (7 + kk)) (nI 40) x q := by
  rw [okM_s, Bool.and_eq_true, callsT_40] at hok
  have hok2 := List.all_eq_true.mp hok.2
  have hx0 : (vdT kk 5 && okM kk n (doB kk 5)) = true := hok2 (0, 5) (by decide)
  rw [Bool.and_eq_true] at hx0
  have hr0 := ih _ hx0.2 m hnm
  have hl0 : selOfF selT (nI (7 + kk)) 5 = nI (doB kk 5) := (do_val kk hk11 5 (by omega) hx0.1).2.2.2
  rw [runS, runS, if_neg (show ¬ nI 40 = 0 by decide), if_neg (show ¬ nI 40 = 0 by decide)]
  rw [show bodyS (runS m (nI (7 + kk))) (nI (7 + kk)) (nI 40) x (bgS (nI 40) q) = _ from bodyS_40 _ _ _ _, show bodyS (runS n (nI (7 + kk))) (nI (7 + kk)) (nI 40) x (bgS (nI 40) q) = _ from bodyS_40 _ _ _ _]
  simp only [hl0, hr0]
theorem rok_41 {kk : Nat} (hk11 : kk < 11) {n m : Nat} (hnm : n ≤ m) (ih : ∀ b, okM kk n b = true → ∀ m, n ≤ m → ∀ x q, runS m (nI (7 + kk)) (nI b) x q = runS n (nI (7 + kk)) (nI b) x q) (hok : okM kk (n + 1) 41 = true) (x : Int32) (q : St) : runS (m + 1) (nI (7 + kk)) (nI 41) x q = runS (n + 1) (nI (7 + kk)) (nI 41) x q := by
  rw [okM_s, Bool.and_eq_true, callsT_41] at hok
  have hok2 := List.all_eq_true.mp hok.2
  have hx0 : (vdT kk 6 && okM kk n (doB kk 6)) = true := hok2 (0, 6) (by decide)
  rw [Bool.and_eq_true] at hx0
  have hr0 := ih _ hx0.2 m hnm
  have hl0 : selOfF selT (nI (7 + kk)) 6 = nI (doB kk 6) := (do_val kk hk11 6 (by omega) hx0.1).2.2.2
  rw [runS, runS, if_neg (show ¬ nI 41 = 0 by decide), if_neg (show ¬ nI 41 = 0 by decide)]
  rw [show bodyS (runS m (nI (7 + kk))) (nI (7 + kk)) (nI 41) x (bgS (nI 41) q) = _ from bodyS_41 _ _ _ _, show bodyS (runS n (nI (7 + kk))) (nI (7 + kk)) (nI 41) x (bgS (nI 41) q) = _ from bodyS_41 _ _ _ _]
  simp only [hl0, hr0]
theorem rok_50 {kk : Nat} (hk11 : kk < 11) {n m : Nat} (hnm : n ≤ m) (ih : ∀ b, okM kk n b = true → ∀ m, n ≤ m → ∀ x q, runS m (nI (7 + kk)) (nI b) x q = runS n (nI (7 + kk)) (nI b) x q) (hok : okM kk (n + 1) 50 = true) (x : Int32) (q : St) : runS (m + 1) (nI (7 + kk)) (nI 50) x q = runS (n + 1) (nI (7 + kk)) (nI 50) x q := by
  rw [okM_s, Bool.and_eq_true, callsT_50] at hok
  have hok2 := List.all_eq_true.mp hok.2
  have hr0 := ih 41 (hok2 (1, 41) (by decide)) m hnm
  have hl0 : selOfF selT 5 7 = nI 41 := by decide +kernel
  have hx1 : (vdT kk 8 && okM kk n (doB kk 8)) = true := hok2 (0, 8) (by decide)
  rw [Bool.and_eq_true] at hx1
  have hr1 := ih _ hx1.2 m hnm
  have hl1 : selOfF selT (nI (7 + kk)) 8 = nI (doB kk 8) := (do_val kk hk11 8 (by omega) hx1.1).2.2.2
  rw [runS, runS, if_neg (show ¬ nI 50 = 0 by decide), if_neg (show ¬ nI 50 = 0 by decide)]
  rw [show bodyS (runS m (nI (7 + kk))) (nI (7 + kk)) (nI 50) x (bgS (nI 50) q) = _ from bodyS_50 _ _ _ _, show bodyS (runS n (nI (7 + kk))) (nI (7 + kk)) (nI 50) x (bgS (nI 50) q) = _ from bodyS_50 _ _ _ _]
  simp only [hl0, hr0, hl1, hr1]
theorem rok_51 {kk : Nat} (hk11 : kk < 11) {n m : Nat} (hnm : n ≤ m) (ih : ∀ b, okM kk n b = true → ∀ m, n ≤ m → ∀ x q, runS m (nI (7 + kk)) (nI b) x q = runS n (nI (7 + kk)) (nI b) x q) (hok : okM kk (n + 1) 51 = true) (x : Int32) (q : St) : runS (m + 1) (nI (7 + kk)) (nI 51) x q = runS (n + 1) (nI (7 + kk)) (nI 51) x q := by
  rw [okM_s, Bool.and_eq_true, callsT_51] at hok
  have hok2 := List.all_eq_true.mp hok.2
  have hr0 := ih 52 (hok2 (1, 52) (by decide)) m hnm
  have hl0 : (52 : Int32) = nI 52 := rfl
  have hx1 : (vdT kk 5 && okM kk n (doB kk 5)) = true := hok2 (0, 5) (by decide)
  rw [Bool.and_eq_true] at hx1
  have hr1 := ih _ hx1.2 m hnm
  have hl1 : selOfF selT (nI (7 + kk)) 5 = nI (doB kk 5) := (do_val kk hk11 5 (by omega) hx1.1).2.2.2
  rw [runS, runS, if_neg (show ¬ nI 51 = 0 by decide), if_neg (show ¬ nI 51 = 0 by decide)]
  rw [show bodyS (runS m (nI (7 + kk))) (nI (7 + kk)) (nI 51) x (bgS (nI 51) q) = _ from bodyS_51 _ _ _ _, show bodyS (runS n (nI (7 + kk))) (nI (7 + kk)) (nI 51) x (bgS (nI 51) q) = _ from bodyS_51 _ _ _ _]
  simp only [hl0, hr0, hl1, hr1]
theorem rok_52 {kk : Nat} (hk11 : kk < 11) {n m : Nat} (hnm : n ≤ m) (ih : ∀ b, okM kk n b = true → ∀ m, n ≤ m → ∀ x q, runS m (nI (7 + kk)) (nI b) x q = runS n (nI (7 + kk)) (nI b) x q) (hok : okM kk (n + 1) 52 = true) (x : Int32) (q : St) : runS (m + 1) (nI (7 + kk)) (nI 52) x q = runS (n + 1) (nI (7 + kk)) (nI 52) x q := by
  rw [okM_s, Bool.and_eq_true, callsT_52] at hok
  have hok2 := List.all_eq_true.mp hok.2
  have hx0 : (vdT kk 5 && okM kk n (doB kk 5)) = true := hok2 (0, 5) (by decide)
  rw [Bool.and_eq_true] at hx0
  have hr0 := ih _ hx0.2 m hnm
  have hl0 : selOfF selT (nI (7 + kk)) 5 = nI (doB kk 5) := (do_val kk hk11 5 (by omega) hx0.1).2.2.2
  rw [runS, runS, if_neg (show ¬ nI 52 = 0 by decide), if_neg (show ¬ nI 52 = 0 by decide)]
  rw [show bodyS (runS m (nI (7 + kk))) (nI (7 + kk)) (nI 52) x (bgS (nI 52) q) = _ from bodyS_52 _ _ _ _, show bodyS (runS n (nI (7 + kk))) (nI (7 + kk)) (nI 52) x (bgS (nI 52) q) = _ from bodyS_52 _ _ _ _]
  simp only [hl0, hr0]
theorem rok_60 {kk : Nat} (hk11 : kk < 11) {n m : Nat} (hnm : n ≤ m) (ih : ∀ b, okM kk n b = true → ∀ m, n ≤ m → ∀ x q, runS m (nI (7 + kk)) (nI b) x q = runS n (nI (7 + kk)) (nI b) x q) (hok : okM kk (n + 1) 60 = true) (x : Int32) (q : St) : runS (m + 1) (nI (7 + kk)) (nI 60) x q = runS (n + 1) (nI (7 + kk)) (nI 60) x q := by
  rw [okM_s, Bool.and_eq_true, callsT_60] at hok
  have hok2 := List.all_eq_true.mp hok.2
  rw [runS, runS, if_neg (show ¬ nI 60 = 0 by decide), if_neg (show ¬ nI 60 = 0 by decide)]
  rw [show bodyS (runS m (nI (7 + kk))) (nI (7 + kk)) (nI 60) x (bgS (nI 60) q) = _ from bodyS_60 _ _ _ _, show bodyS (runS n (nI (7 + kk))) (nI (7 + kk)) (nI 60) x (bgS (nI 60) q) = _ from bodyS_60 _ _ _ _]
theorem rok_61 {kk : Nat} (hk11 : kk < 11) {n m : Nat} (hnm : n ≤ m) (ih : ∀ b, okM kk n b = true → ∀ m, n ≤ m → ∀ x q, runS m (nI (7 + kk)) (nI b) x q = runS n (nI (7 + kk)) (nI b) x q) (hok : okM kk (n + 1) 61 = true) (x : Int32) (q : St) : runS (m + 1) (nI (7 + kk)) (nI 61) x q = runS (n + 1) (nI (7 + kk)) (nI 61) x q := by
  rw [okM_s, Bool.and_eq_true, callsT_61] at hok
  have hok2 := List.all_eq_true.mp hok.2
  rw [runS, runS, if_neg (show ¬ nI 61 = 0 by decide), if_neg (show ¬ nI 61 = 0 by decide)]
  rw [show bodyS (runS m (nI (7 + kk))) (nI (7 + kk)) (nI 61) x (bgS (nI 61) q) = _ from bodyS_61 _ _ _ _, show bodyS (runS n (nI (7 + kk))) (nI (7 + kk)) (nI 61) x (bgS (nI 61) q) = _ from bodyS_61 _ _ _ _]
theorem rok_62 {kk : Nat} (hk11 : kk < 11) {n m : Nat} (hnm : n ≤ m) (ih : ∀ b, okM kk n b = true → ∀ m, n ≤ m → ∀ x q, runS m (nI (7 + kk)) (nI b) x q = runS n (nI (7 + kk)) (nI b) x q) (hok : okM kk (n + 1) 62 = true) (x : Int32) (q : St) : runS (m + 1) (nI (7 + kk)) (nI 62) x q = runS (n + 1) (nI (7 + kk)) (nI 62) x q := by
  rw [okM_s, Bool.and_eq_true, callsT_62] at hok
  have hok2 := List.all_eq_true.mp hok.2
  rw [runS, runS, if_neg (show ¬ nI 62 = 0 by decide), if_neg (show ¬ nI 62 = 0 by decide)]
  rw [show bodyS (runS m (nI (7 + kk))) (nI (7 + kk)) (nI 62) x (bgS (nI 62) q) = _ from bodyS_62 _ _ _ _, show bodyS (runS n (nI (7 + kk))) (nI (7 + kk)) (nI 62) x (bgS (nI 62) q) = _ from bodyS_62 _ _ _ _]
theorem rok_63 {kk : Nat} (hk11 : kk < 11) {n m : Nat} (hnm : n ≤ m) (ih : ∀ b, okM kk n b = true → ∀ m, n ≤ m → ∀ x q, runS m (nI (7 + kk)) (nI b) x q = runS n (nI (7 + kk)) (nI b) x q) (hok : okM kk (n + 1) 63 = true) (x : Int32) (q : St) : runS (m + 1) (nI (7 + kk)) (nI 63) x q = runS (n + 1) (nI (7 + kk)) (nI 63) x q := by
  rw [okM_s, Bool.and_eq_true, callsT_63] at hok
  have hok2 := List.all_eq_true.mp hok.2
  rw [runS, runS, if_neg (show ¬ nI 63 = 0 by decide), if_neg (show ¬ nI 63 = 0 by decide)]
  rw [show bodyS (runS m (nI (7 + kk))) (nI (7 + kk)) (nI 63) x (bgS (nI 63) q) = _ from bodyS_63 _ _ _ _, show bodyS (runS n (nI (7 + kk))) (nI (7 + kk)) (nI 63) x (bgS (nI 63) q) = _ from bodyS_63 _ _ _ _]
theorem rok_64 {kk : Nat} (hk11 : kk < 11) {n m : Nat} (hnm : n ≤ m) (ih : ∀ b, okM kk n b = true → ∀ m, n ≤ m → ∀ x q, runS m (nI (7 + kk)) (nI b) x q = runS n (nI (7 + kk)) (nI b) x q) (hok : okM kk (n + 1) 64 = true) (x : Int32) (q : St) : runS (m + 1) (nI (7 + kk)) (nI 64) x q = runS (n + 1) (nI (7 + kk)) (nI 64) x q := by
  rw [okM_s, Bool.and_eq_true, callsT_64] at hok
  have hok2 := List.all_eq_true.mp hok.2
  have hx0 : (vdT kk 9 && okM kk n (doB kk 9)) = true := hok2 (0, 9) (by decide)
  rw [Bool.and_eq_true] at hx0
  have hr0 := ih _ hx0.2 m hnm
  have hl0 : selOfF selT (nI (7 + kk)) 9 = nI (doB kk 9) := (do_val kk hk11 9 (by omega) hx0.1).2.2.2
  have hx1 : (vdT kk 10 && okM kk n (doB kk 10)) = true := hok2 (0, 10) (by decide)
  rw [Bool.and_eq_true] at hx1
  have hr1 := ih _ hx1.2 m hnm
  have hl1 : selOfF selT (nI (7 + kk)) 10 = nI (doB kk 10) := (do_val kk hk11 10 (by omega) hx1.1).2.2.2
  have hr2 := ih 63 (hok2 (1, 63) (by decide)) m hnm
  have hl2 : (63 : Int32) = nI 63 := rfl
  rw [runS, runS, if_neg (show ¬ nI 64 = 0 by decide), if_neg (show ¬ nI 64 = 0 by decide)]
  rw [show bodyS (runS m (nI (7 + kk))) (nI (7 + kk)) (nI 64) x (bgS (nI 64) q) = _ from bodyS_64 _ _ _ _, show bodyS (runS n (nI (7 + kk))) (nI (7 + kk)) (nI 64) x (bgS (nI 64) q) = _ from bodyS_64 _ _ _ _]
  simp only [hl0, hr0, hl1, hr1, hl2, hr2]
theorem rok_70 {kk : Nat} (hk11 : kk < 11) {n m : Nat} (hnm : n ≤ m) (ih : ∀ b, okM kk n b = true → ∀ m, n ≤ m → ∀ x q, runS m (nI (7 + kk)) (nI b) x q = runS n (nI (7 + kk)) (nI b) x q) (hok : okM kk (n + 1) 70 = true) (x : Int32) (q : St) : runS (m + 1) (nI (7 + kk)) (nI 70) x q = runS (n + 1) (nI (7 + kk)) (nI 70) x q := by
  rw [okM_s, Bool.and_eq_true, callsT_70] at hok
  have hok2 := List.all_eq_true.mp hok.2
  rw [runS, runS, if_neg (show ¬ nI 70 = 0 by decide), if_neg (show ¬ nI 70 = 0 by decide)]
  rw [show bodyS (runS m (nI (7 + kk))) (nI (7 + kk)) (nI 70) x (bgS (nI 70) q) = _ from bodyS_70 _ _ _ _, show bodyS (runS n (nI (7 + kk))) (nI (7 + kk)) (nI 70) x (bgS (nI 70) q) = _ from bodyS_70 _ _ _ _]
theorem rok_100 {kk : Nat} (hk11 : kk < 11) {n m : Nat} (hnm : n ≤ m) (ih : ∀ b, okM kk n b = true → ∀ m, n ≤ m → ∀ x q, runS m (nI (7 + kk)) (nI b) x q = runS n (nI (7 + kk)) (nI b) x q) (hok : okM kk (n + 1) 100 = true) (x : Int32) (q : St) : runS (m + 1) (nI (7 + kk)) (nI 100) x q = runS (n + 1) (nI (7 + kk)) (nI 100) x q := by
  rw [okM_s, Bool.and_eq_true, callsT_100] at hok
  have hok2 := List.all_eq_true.mp hok.2
  rw [runS, runS, if_neg (show ¬ nI 100 = 0 by decide), if_neg (show ¬ nI 100 = 0 by decide)]
  rw [show bodyS (runS m (nI (7 + kk))) (nI (7 + kk)) (nI 100) x (bgS (nI 100) q) = _ from bodyS_100 _ _ _ _, show bodyS (runS n (nI (7 + kk))) (nI (7 + kk)) (nI 100) x (bgS (nI 100) q) = _ from bodyS_100 _ _ _ _]
theorem rok_101 {kk : Nat} (hk11 : kk < 11) {n m : Nat} (hnm : n ≤ m) (ih : ∀ b, okM kk n b = true → ∀ m, n ≤ m → ∀ x q, runS m (nI (7 + kk)) (nI b) x q = runS n (nI (7 + kk)) (nI b) x q) (hok : okM kk (n + 1) 101 = true) (x : Int32) (q : St) : runS (m + 1) (nI (7 + kk)) (nI 101) x q = runS (n + 1) (nI (7 + kk)) (nI 101) x q := by
  rw [okM_s, Bool.and_eq_true, callsT_101] at hok
  have hok2 := List.all_eq_true.mp hok.2
  have hr0 := ih 60 (hok2 (1, 60) (by decide)) m hnm
  have hl0 : selOfF selT (parentF 7) 9 = nI 60 := by decide +kernel
  rw [runS, runS, if_neg (show ¬ nI 101 = 0 by decide), if_neg (show ¬ nI 101 = 0 by decide)]
  rw [show bodyS (runS m (nI (7 + kk))) (nI (7 + kk)) (nI 101) x (bgS (nI 101) q) = _ from bodyS_101 _ _ _ _, show bodyS (runS n (nI (7 + kk))) (nI (7 + kk)) (nI 101) x (bgS (nI 101) q) = _ from bodyS_101 _ _ _ _]
  simp only [hl0, hr0]
theorem rok_110 {kk : Nat} (hk11 : kk < 11) {n m : Nat} (hnm : n ≤ m) (ih : ∀ b, okM kk n b = true → ∀ m, n ≤ m → ∀ x q, runS m (nI (7 + kk)) (nI b) x q = runS n (nI (7 + kk)) (nI b) x q) (hok : okM kk (n + 1) 110 = true) (x : Int32) (q : St) : runS (m + 1) (nI (7 + kk)) (nI 110) x q = runS (n + 1) (nI (7 + kk)) (nI 110) x q := by
  rw [okM_s, Bool.and_eq_true, callsT_110] at hok
  have hok2 := List.all_eq_true.mp hok.2
  have hr0 := ih 61 (hok2 (1, 61) (by decide)) m hnm
  have hl0 : selOfF selT (parentF 8) 10 = nI 61 := by decide +kernel
  have hr1 := ih 112 (hok2 (1, 112) (by decide)) m hnm
  have hl1 : (112 : Int32) = nI 112 := rfl
  rw [runS, runS, if_neg (show ¬ nI 110 = 0 by decide), if_neg (show ¬ nI 110 = 0 by decide)]
  rw [show bodyS (runS m (nI (7 + kk))) (nI (7 + kk)) (nI 110) x (bgS (nI 110) q) = _ from bodyS_110 _ _ _ _, show bodyS (runS n (nI (7 + kk))) (nI (7 + kk)) (nI 110) x (bgS (nI 110) q) = _ from bodyS_110 _ _ _ _]
  simp only [hl0, hr0, hl1, hr1]
theorem rok_111 {kk : Nat} (hk11 : kk < 11) {n m : Nat} (hnm : n ≤ m) (ih : ∀ b, okM kk n b = true → ∀ m, n ≤ m → ∀ x q, runS m (nI (7 + kk)) (nI b) x q = runS n (nI (7 + kk)) (nI b) x q) (hok : okM kk (n + 1) 111 = true) (x : Int32) (q : St) : runS (m + 1) (nI (7 + kk)) (nI 111) x q = runS (n + 1) (nI (7 + kk)) (nI 111) x q := by
  rw [okM_s, Bool.and_eq_true, callsT_111] at hok
  have hok2 := List.all_eq_true.mp hok.2
  have hr0 := ih 20 (hok2 (1, 20) (by decide)) m hnm
  have hl0 : selOfF selT 3 4 = nI 20 := by decide +kernel
  rw [runS, runS, if_neg (show ¬ nI 111 = 0 by decide), if_neg (show ¬ nI 111 = 0 by decide)]
  rw [show bodyS (runS m (nI (7 + kk))) (nI (7 + kk)) (nI 111) x (bgS (nI 111) q) = _ from bodyS_111 _ _ _ _, show bodyS (runS n (nI (7 + kk))) (nI (7 + kk)) (nI 111) x (bgS (nI 111) q) = _ from bodyS_111 _ _ _ _]
  simp only [hl0, hr0]
theorem rok_112 {kk : Nat} (hk11 : kk < 11) {n m : Nat} (hnm : n ≤ m) (ih : ∀ b, okM kk n b = true → ∀ m, n ≤ m → ∀ x q, runS m (nI (7 + kk)) (nI b) x q = runS n (nI (7 + kk)) (nI b) x q) (hok : okM kk (n + 1) 112 = true) (x : Int32) (q : St) : runS (m + 1) (nI (7 + kk)) (nI 112) x q = runS (n + 1) (nI (7 + kk)) (nI 112) x q := by
  rw [okM_s, Bool.and_eq_true, callsT_112] at hok
  have hok2 := List.all_eq_true.mp hok.2
  rw [runS, runS, if_neg (show ¬ nI 112 = 0 by decide), if_neg (show ¬ nI 112 = 0 by decide)]
  rw [show bodyS (runS m (nI (7 + kk))) (nI (7 + kk)) (nI 112) x (bgS (nI 112) q) = _ from bodyS_112 _ _ _ _, show bodyS (runS n (nI (7 + kk))) (nI (7 + kk)) (nI 112) x (bgS (nI 112) q) = _ from bodyS_112 _ _ _ _]
theorem rok_120 {kk : Nat} (hk11 : kk < 11) {n m : Nat} (hnm : n ≤ m) (ih : ∀ b, okM kk n b = true → ∀ m, n ≤ m → ∀ x q, runS m (nI (7 + kk)) (nI b) x q = runS n (nI (7 + kk)) (nI b) x q) (hok : okM kk (n + 1) 120 = true) (x : Int32) (q : St) : runS (m + 1) (nI (7 + kk)) (nI 120) x q = runS (n + 1) (nI (7 + kk)) (nI 120) x q := by
  rw [okM_s, Bool.and_eq_true, callsT_120] at hok
  have hok2 := List.all_eq_true.mp hok.2
  have hx0 : (vdT kk 5 && okM kk n (doB kk 5)) = true := hok2 (0, 5) (by decide)
  rw [Bool.and_eq_true] at hx0
  have hr0 := ih _ hx0.2 m hnm
  have hl0 : selOfF selT (nI (7 + kk)) 5 = nI (doB kk 5) := (do_val kk hk11 5 (by omega) hx0.1).2.2.2
  rw [runS, runS, if_neg (show ¬ nI 120 = 0 by decide), if_neg (show ¬ nI 120 = 0 by decide)]
  rw [show bodyS (runS m (nI (7 + kk))) (nI (7 + kk)) (nI 120) x (bgS (nI 120) q) = _ from bodyS_120 _ _ _ _, show bodyS (runS n (nI (7 + kk))) (nI (7 + kk)) (nI 120) x (bgS (nI 120) q) = _ from bodyS_120 _ _ _ _]
  simp only [hl0, hr0]
theorem rok_130 {kk : Nat} (hk11 : kk < 11) {n m : Nat} (hnm : n ≤ m) (ih : ∀ b, okM kk n b = true → ∀ m, n ≤ m → ∀ x q, runS m (nI (7 + kk)) (nI b) x q = runS n (nI (7 + kk)) (nI b) x q) (hok : okM kk (n + 1) 130 = true) (x : Int32) (q : St) : runS (m + 1) (nI (7 + kk)) (nI 130) x q = runS (n + 1) (nI (7 + kk)) (nI 130) x q := by
  rw [okM_s, Bool.and_eq_true, callsT_130] at hok
  have hok2 := List.all_eq_true.mp hok.2
  have hr0 := ih 100 (hok2 (1, 100) (by decide)) m hnm
  have hl0 : selOfF selT (parentF 10) 0 = nI 100 := by decide +kernel
  rw [runS, runS, if_neg (show ¬ nI 130 = 0 by decide), if_neg (show ¬ nI 130 = 0 by decide)]
  rw [show bodyS (runS m (nI (7 + kk))) (nI (7 + kk)) (nI 130) x (bgS (nI 130) q) = _ from bodyS_130 _ _ _ _, show bodyS (runS n (nI (7 + kk))) (nI (7 + kk)) (nI 130) x (bgS (nI 130) q) = _ from bodyS_130 _ _ _ _]
  simp only [hl0, hr0]
theorem rok_131 {kk : Nat} (hk11 : kk < 11) {n m : Nat} (hnm : n ≤ m) (ih : ∀ b, okM kk n b = true → ∀ m, n ≤ m → ∀ x q, runS m (nI (7 + kk)) (nI b) x q = runS n (nI (7 + kk)) (nI b) x q) (hok : okM kk (n + 1) 131 = true) (x : Int32) (q : St) : runS (m + 1) (nI (7 + kk)) (nI 131) x q = runS (n + 1) (nI (7 + kk)) (nI 131) x q := by
  rw [okM_s, Bool.and_eq_true, callsT_131] at hok
  have hok2 := List.all_eq_true.mp hok.2
  have hr0 := ih 10 (hok2 (1, 10) (by decide)) m hnm
  have hl0 : selOfF selT (parentF 10) 1 = nI 10 := by decide +kernel
  rw [runS, runS, if_neg (show ¬ nI 131 = 0 by decide), if_neg (show ¬ nI 131 = 0 by decide)]
  rw [show bodyS (runS m (nI (7 + kk))) (nI (7 + kk)) (nI 131) x (bgS (nI 131) q) = _ from bodyS_131 _ _ _ _, show bodyS (runS n (nI (7 + kk))) (nI (7 + kk)) (nI 131) x (bgS (nI 131) q) = _ from bodyS_131 _ _ _ _]
  simp only [hl0, hr0]
theorem rok_140 {kk : Nat} (hk11 : kk < 11) {n m : Nat} (hnm : n ≤ m) (ih : ∀ b, okM kk n b = true → ∀ m, n ≤ m → ∀ x q, runS m (nI (7 + kk)) (nI b) x q = runS n (nI (7 + kk)) (nI b) x q) (hok : okM kk (n + 1) 140 = true) (x : Int32) (q : St) : runS (m + 1) (nI (7 + kk)) (nI 140) x q = runS (n + 1) (nI (7 + kk)) (nI 140) x q := by
  rw [okM_s, Bool.and_eq_true, callsT_140] at hok
  have hok2 := List.all_eq_true.mp hok.2
  rw [runS, runS, if_neg (show ¬ nI 140 = 0 by decide), if_neg (show ¬ nI 140 = 0 by decide)]
  rw [show bodyS (runS m (nI (7 + kk))) (nI (7 + kk)) (nI 140) x (bgS (nI 140) q) = _ from bodyS_140 _ _ _ _, show bodyS (runS n (nI (7 + kk))) (nI (7 + kk)) (nI 140) x (bgS (nI 140) q) = _ from bodyS_140 _ _ _ _]
theorem rok_141 {kk : Nat} (hk11 : kk < 11) {n m : Nat} (hnm : n ≤ m) (ih : ∀ b, okM kk n b = true → ∀ m, n ≤ m → ∀ x q, runS m (nI (7 + kk)) (nI b) x q = runS n (nI (7 + kk)) (nI b) x q) (hok : okM kk (n + 1) 141 = true) (x : Int32) (q : St) : runS (m + 1) (nI (7 + kk)) (nI 141) x q = runS (n + 1) (nI (7 + kk)) (nI 141) x q := by
  rw [okM_s, Bool.and_eq_true, callsT_141] at hok
  have hok2 := List.all_eq_true.mp hok.2
  have hr0 := ih 21 (hok2 (1, 21) (by decide)) m hnm
  have hl0 : selOfF selT (parentF 11) 2 = nI 21 := by decide +kernel
  have hr1 := ih 11 (hok2 (1, 11) (by decide)) m hnm
  have hl1 : selOfF selT 2 2 = nI 11 := by decide +kernel
  rw [runS, runS, if_neg (show ¬ nI 141 = 0 by decide), if_neg (show ¬ nI 141 = 0 by decide)]
  rw [show bodyS (runS m (nI (7 + kk))) (nI (7 + kk)) (nI 141) x (bgS (nI 141) q) = _ from bodyS_141 _ _ _ _, show bodyS (runS n (nI (7 + kk))) (nI (7 + kk)) (nI 141) x (bgS (nI 141) q) = _ from bodyS_141 _ _ _ _]
  simp only [hl0, hr0, hl1, hr1]
theorem rok_142 {kk : Nat} (hk11 : kk < 11) {n m : Nat} (hnm : n ≤ m) (ih : ∀ b, okM kk n b = true → ∀ m, n ≤ m → ∀ x q, runS m (nI (7 + kk)) (nI b) x q = runS n (nI (7 + kk)) (nI b) x q) (hok : okM kk (n + 1) 142 = true) (x : Int32) (q : St) : runS (m + 1) (nI (7 + kk)) (nI 142) x q = runS (n + 1) (nI (7 + kk)) (nI 142) x q := by
  rw [okM_s, Bool.and_eq_true, callsT_142] at hok
  have hok2 := List.all_eq_true.mp hok.2
  have hr0 := ih 110 (hok2 (1, 110) (by decide)) m hnm
  have hl0 : selOfF selT (parentF 11) 10 = nI 110 := by decide +kernel
  rw [runS, runS, if_neg (show ¬ nI 142 = 0 by decide), if_neg (show ¬ nI 142 = 0 by decide)]
  rw [show bodyS (runS m (nI (7 + kk))) (nI (7 + kk)) (nI 142) x (bgS (nI 142) q) = _ from bodyS_142 _ _ _ _, show bodyS (runS n (nI (7 + kk))) (nI (7 + kk)) (nI 142) x (bgS (nI 142) q) = _ from bodyS_142 _ _ _ _]
  simp only [hl0, hr0]
theorem rok_150 {kk : Nat} (hk11 : kk < 11) {n m : Nat} (hnm : n ≤ m) (ih : ∀ b, okM kk n b = true → ∀ m, n ≤ m → ∀ x q, runS m (nI (7 + kk)) (nI b) x q = runS n (nI (7 + kk)) (nI b) x q) (hok : okM kk (n + 1) 150 = true) (x : Int32) (q : St) : runS (m + 1) (nI (7 + kk)) (nI 150) x q = runS (n + 1) (nI (7 + kk)) (nI 150) x q := by
  rw [okM_s, Bool.and_eq_true, callsT_150] at hok
  have hok2 := List.all_eq_true.mp hok.2
  have hx0 : (vdT kk 5 && okM kk n (doB kk 5)) = true := hok2 (0, 5) (by decide)
  rw [Bool.and_eq_true] at hx0
  have hr0 := ih _ hx0.2 m hnm
  have hl0 : selOfF selT (nI (7 + kk)) 5 = nI (doB kk 5) := (do_val kk hk11 5 (by omega) hx0.1).2.2.2
  rw [runS, runS, if_neg (show ¬ nI 150 = 0 by decide), if_neg (show ¬ nI 150 = 0 by decide)]
  rw [show bodyS (runS m (nI (7 + kk))) (nI (7 + kk)) (nI 150) x (bgS (nI 150) q) = _ from bodyS_150 _ _ _ _, show bodyS (runS n (nI (7 + kk))) (nI (7 + kk)) (nI 150) x (bgS (nI 150) q) = _ from bodyS_150 _ _ _ _]
  simp only [hl0, hr0]
theorem rok_151 {kk : Nat} (hk11 : kk < 11) {n m : Nat} (hnm : n ≤ m) (ih : ∀ b, okM kk n b = true → ∀ m, n ≤ m → ∀ x q, runS m (nI (7 + kk)) (nI b) x q = runS n (nI (7 + kk)) (nI b) x q) (hok : okM kk (n + 1) 151 = true) (x : Int32) (q : St) : runS (m + 1) (nI (7 + kk)) (nI 151) x q = runS (n + 1) (nI (7 + kk)) (nI 151) x q := by
  rw [okM_s, Bool.and_eq_true, callsT_151] at hok
  have hok2 := List.all_eq_true.mp hok.2
  have hr0 := ih 60 (hok2 (1, 60) (by decide)) m hnm
  have hl0 : selOfF selT (parentF 12) 9 = nI 60 := by decide +kernel
  have hx1 : (vdT kk 2 && okM kk n (doB kk 2)) = true := hok2 (0, 2) (by decide)
  rw [Bool.and_eq_true] at hx1
  have hr1 := ih _ hx1.2 m hnm
  have hl1 : selOfF selT (nI (7 + kk)) 2 = nI (doB kk 2) := (do_val kk hk11 2 (by omega) hx1.1).2.2.2
  rw [runS, runS, if_neg (show ¬ nI 151 = 0 by decide), if_neg (show ¬ nI 151 = 0 by decide)]
  rw [show bodyS (runS m (nI (7 + kk))) (nI (7 + kk)) (nI 151) x (bgS (nI 151) q) = _ from bodyS_151 _ _ _ _, show bodyS (runS n (nI (7 + kk))) (nI (7 + kk)) (nI 151) x (bgS (nI 151) q) = _ from bodyS_151 _ _ _ _]
  simp only [hl0, hr0, hl1, hr1]
theorem rok_152 {kk : Nat} (hk11 : kk < 11) {n m : Nat} (hnm : n ≤ m) (ih : ∀ b, okM kk n b = true → ∀ m, n ≤ m → ∀ x q, runS m (nI (7 + kk)) (nI b) x q = runS n (nI (7 + kk)) (nI b) x q) (hok : okM kk (n + 1) 152 = true) (x : Int32) (q : St) : runS (m + 1) (nI (7 + kk)) (nI 152) x q = runS (n + 1) (nI (7 + kk)) (nI 152) x q := by
  rw [okM_s, Bool.and_eq_true, callsT_152] at hok
  have hok2 := List.all_eq_true.mp hok.2
  have hr0 := ih 20 (hok2 (1, 20) (by decide)) m hnm
  have hl0 : selOfF selT 4 4 = nI 20 := by decide +kernel
  rw [runS, runS, if_neg (show ¬ nI 152 = 0 by decide), if_neg (show ¬ nI 152 = 0 by decide)]
  rw [show bodyS (runS m (nI (7 + kk))) (nI (7 + kk)) (nI 152) x (bgS (nI 152) q) = _ from bodyS_152 _ _ _ _, show bodyS (runS n (nI (7 + kk))) (nI (7 + kk)) (nI 152) x (bgS (nI 152) q) = _ from bodyS_152 _ _ _ _]
  simp only [hl0, hr0]
theorem rok_160 {kk : Nat} (hk11 : kk < 11) {n m : Nat} (hnm : n ≤ m) (ih : ∀ b, okM kk n b = true → ∀ m, n ≤ m → ∀ x q, runS m (nI (7 + kk)) (nI b) x q = runS n (nI (7 + kk)) (nI b) x q) (hok : okM kk (n + 1) 160 = true) (x : Int32) (q : St) : runS (m + 1) (nI (7 + kk)) (nI 160) x q = runS (n + 1) (nI (7 + kk)) (nI 160) x q := by
  rw [okM_s, Bool.and_eq_true, callsT_160] at hok
  have hok2 := List.all_eq_true.mp hok.2
  rw [runS, runS, if_neg (show ¬ nI 160 = 0 by decide), if_neg (show ¬ nI 160 = 0 by decide)]
  rw [show bodyS (runS m (nI (7 + kk))) (nI (7 + kk)) (nI 160) x (bgS (nI 160) q) = _ from bodyS_160 _ _ _ _, show bodyS (runS n (nI (7 + kk))) (nI (7 + kk)) (nI 160) x (bgS (nI 160) q) = _ from bodyS_160 _ _ _ _]
theorem rok_161 {kk : Nat} (hk11 : kk < 11) {n m : Nat} (hnm : n ≤ m) (ih : ∀ b, okM kk n b = true → ∀ m, n ≤ m → ∀ x q, runS m (nI (7 + kk)) (nI b) x q = runS n (nI (7 + kk)) (nI b) x q) (hok : okM kk (n + 1) 161 = true) (x : Int32) (q : St) : runS (m + 1) (nI (7 + kk)) (nI 161) x q = runS (n + 1) (nI (7 + kk)) (nI 161) x q := by
  rw [okM_s, Bool.and_eq_true, callsT_161] at hok
  have hok2 := List.all_eq_true.mp hok.2
  have hr0 := ih 51 (hok2 (1, 51) (by decide)) m hnm
  have hl0 : selOfF selT 6 8 = nI 51 := by decide +kernel
  rw [runS, runS, if_neg (show ¬ nI 161 = 0 by decide), if_neg (show ¬ nI 161 = 0 by decide)]
  rw [show bodyS (runS m (nI (7 + kk))) (nI (7 + kk)) (nI 161) x (bgS (nI 161) q) = _ from bodyS_161 _ _ _ _, show bodyS (runS n (nI (7 + kk))) (nI (7 + kk)) (nI 161) x (bgS (nI 161) q) = _ from bodyS_161 _ _ _ _]
  simp only [hl0, hr0]
theorem rok_162 {kk : Nat} (hk11 : kk < 11) {n m : Nat} (hnm : n ≤ m) (ih : ∀ b, okM kk n b = true → ∀ m, n ≤ m → ∀ x q, runS m (nI (7 + kk)) (nI b) x q = runS n (nI (7 + kk)) (nI b) x q) (hok : okM kk (n + 1) 162 = true) (x : Int32) (q : St) : runS (m + 1) (nI (7 + kk)) (nI 162) x q = runS (n + 1) (nI (7 + kk)) (nI 162) x q := by
  rw [okM_s, Bool.and_eq_true, callsT_162] at hok
  have hok2 := List.all_eq_true.mp hok.2
  rw [runS, runS, if_neg (show ¬ nI 162 = 0 by decide), if_neg (show ¬ nI 162 = 0 by decide)]
  rw [show bodyS (runS m (nI (7 + kk))) (nI (7 + kk)) (nI 162) x (bgS (nI 162) q) = _ from bodyS_162 _ _ _ _, show bodyS (runS n (nI (7 + kk))) (nI (7 + kk)) (nI 162) x (bgS (nI 162) q) = _ from bodyS_162 _ _ _ _]
theorem rok_163 {kk : Nat} (hk11 : kk < 11) {n m : Nat} (hnm : n ≤ m) (ih : ∀ b, okM kk n b = true → ∀ m, n ≤ m → ∀ x q, runS m (nI (7 + kk)) (nI b) x q = runS n (nI (7 + kk)) (nI b) x q) (hok : okM kk (n + 1) 163 = true) (x : Int32) (q : St) : runS (m + 1) (nI (7 + kk)) (nI 163) x q = runS (n + 1) (nI (7 + kk)) (nI 163) x q := by
  rw [okM_s, Bool.and_eq_true, callsT_163] at hok
  have hok2 := List.all_eq_true.mp hok.2
  have hr0 := ih 162 (hok2 (1, 162) (by decide)) m hnm
  have hl0 : (162 : Int32) = nI 162 := rfl
  have hr1 := ih 60 (hok2 (1, 60) (by decide)) m hnm
  have hl1 : selOfF selT (parentF 13) 9 = nI 60 := by decide +kernel
  rw [runS, runS, if_neg (show ¬ nI 163 = 0 by decide), if_neg (show ¬ nI 163 = 0 by decide)]
  rw [show bodyS (runS m (nI (7 + kk))) (nI (7 + kk)) (nI 163) x (bgS (nI 163) q) = _ from bodyS_163 _ _ _ _, show bodyS (runS n (nI (7 + kk))) (nI (7 + kk)) (nI 163) x (bgS (nI 163) q) = _ from bodyS_163 _ _ _ _]
  simp only [hl0, hr0, hl1, hr1]
theorem rok_180 {kk : Nat} (hk11 : kk < 11) {n m : Nat} (hnm : n ≤ m) (ih : ∀ b, okM kk n b = true → ∀ m, n ≤ m → ∀ x q, runS m (nI (7 + kk)) (nI b) x q = runS n (nI (7 + kk)) (nI b) x q) (hok : okM kk (n + 1) 180 = true) (x : Int32) (q : St) : runS (m + 1) (nI (7 + kk)) (nI 180) x q = runS (n + 1) (nI (7 + kk)) (nI 180) x q := by
  rw [okM_s, Bool.and_eq_true, callsT_180] at hok
  have hok2 := List.all_eq_true.mp hok.2
  have hr0 := ih 101 (hok2 (1, 101) (by decide)) m hnm
  have hl0 : selOfF selT (parentF 15) 9 = nI 101 := by decide +kernel
  rw [runS, runS, if_neg (show ¬ nI 180 = 0 by decide), if_neg (show ¬ nI 180 = 0 by decide)]
  rw [show bodyS (runS m (nI (7 + kk))) (nI (7 + kk)) (nI 180) x (bgS (nI 180) q) = _ from bodyS_180 _ _ _ _, show bodyS (runS n (nI (7 + kk))) (nI (7 + kk)) (nI 180) x (bgS (nI 180) q) = _ from bodyS_180 _ _ _ _]
  simp only [hl0, hr0]
theorem rok_181 {kk : Nat} (hk11 : kk < 11) {n m : Nat} (hnm : n ≤ m) (ih : ∀ b, okM kk n b = true → ∀ m, n ≤ m → ∀ x q, runS m (nI (7 + kk)) (nI b) x q = runS n (nI (7 + kk)) (nI b) x q) (hok : okM kk (n + 1) 181 = true) (x : Int32) (q : St) : runS (m + 1) (nI (7 + kk)) (nI 181) x q = runS (n + 1) (nI (7 + kk)) (nI 181) x q := by
  rw [okM_s, Bool.and_eq_true, callsT_181] at hok
  have hok2 := List.all_eq_true.mp hok.2
  have hr0 := ih 11 (hok2 (1, 11) (by decide)) m hnm
  have hl0 : selOfF selT (parentF 15) 2 = nI 11 := by decide +kernel
  have hx1 : (vdT kk 1 && okM kk n (doB kk 1)) = true := hok2 (0, 1) (by decide)
  rw [Bool.and_eq_true] at hx1
  have hr1 := ih _ hx1.2 m hnm
  have hl1 : selOfF selT (nI (7 + kk)) 1 = nI (doB kk 1) := (do_val kk hk11 1 (by omega) hx1.1).2.2.2
  rw [runS, runS, if_neg (show ¬ nI 181 = 0 by decide), if_neg (show ¬ nI 181 = 0 by decide)]
  rw [show bodyS (runS m (nI (7 + kk))) (nI (7 + kk)) (nI 181) x (bgS (nI 181) q) = _ from bodyS_181 _ _ _ _, show bodyS (runS n (nI (7 + kk))) (nI (7 + kk)) (nI 181) x (bgS (nI 181) q) = _ from bodyS_181 _ _ _ _]
  simp only [hl0, hr0, hl1, hr1]
theorem rok_190 {kk : Nat} (hk11 : kk < 11) {n m : Nat} (hnm : n ≤ m) (ih : ∀ b, okM kk n b = true → ∀ m, n ≤ m → ∀ x q, runS m (nI (7 + kk)) (nI b) x q = runS n (nI (7 + kk)) (nI b) x q) (hok : okM kk (n + 1) 190 = true) (x : Int32) (q : St) : runS (m + 1) (nI (7 + kk)) (nI 190) x q = runS (n + 1) (nI (7 + kk)) (nI 190) x q := by
  rw [okM_s, Bool.and_eq_true, callsT_190] at hok
  have hok2 := List.all_eq_true.mp hok.2
  have hx0 : (vdT kk 10 && okM kk n (doB kk 10)) = true := hok2 (0, 10) (by decide)
  rw [Bool.and_eq_true] at hx0
  have hr0 := ih _ hx0.2 m hnm
  have hl0 : selOfF selT (nI (7 + kk)) 10 = nI (doB kk 10) := (do_val kk hk11 10 (by omega) hx0.1).2.2.2
  rw [runS, runS, if_neg (show ¬ nI 190 = 0 by decide), if_neg (show ¬ nI 190 = 0 by decide)]
  rw [show bodyS (runS m (nI (7 + kk))) (nI (7 + kk)) (nI 190) x (bgS (nI 190) q) = _ from bodyS_190 _ _ _ _, show bodyS (runS n (nI (7 + kk))) (nI (7 + kk)) (nI 190) x (bgS (nI 190) q) = _ from bodyS_190 _ _ _ _]
  simp only [hl0, hr0]
theorem rok_200 {kk : Nat} (hk11 : kk < 11) {n m : Nat} (hnm : n ≤ m) (ih : ∀ b, okM kk n b = true → ∀ m, n ≤ m → ∀ x q, runS m (nI (7 + kk)) (nI b) x q = runS n (nI (7 + kk)) (nI b) x q) (hok : okM kk (n + 1) 200 = true) (x : Int32) (q : St) : runS (m + 1) (nI (7 + kk)) (nI 200) x q = runS (n + 1) (nI (7 + kk)) (nI 200) x q := by
  rw [okM_s, Bool.and_eq_true, callsT_200] at hok
  have hok2 := List.all_eq_true.mp hok.2
  rw [runS, runS, if_neg (show ¬ nI 200 = 0 by decide), if_neg (show ¬ nI 200 = 0 by decide)]
  rw [show bodyS (runS m (nI (7 + kk))) (nI (7 + kk)) (nI 200) x (bgS (nI 200) q) = _ from bodyS_200 _ _ _ _, show bodyS (runS n (nI (7 + kk))) (nI (7 + kk)) (nI 200) x (bgS (nI 200) q) = _ from bodyS_200 _ _ _ _]
theorem rok_201 {kk : Nat} (hk11 : kk < 11) {n m : Nat} (hnm : n ≤ m) (ih : ∀ b, okM kk n b = true → ∀ m, n ≤ m → ∀ x q, runS m (nI (7 + kk)) (nI b) x q = runS n (nI (7 + kk)) (nI b) x q) (hok : okM kk (n + 1) 201 = true) (x : Int32) (q : St) : runS (m + 1) (nI (7 + kk)) (nI 201) x q = runS (n + 1) (nI (7 + kk)) (nI 201) x q := by
  rw [okM_s, Bool.and_eq_true, callsT_201] at hok
  have hok2 := List.all_eq_true.mp hok.2
  have hr0 := ih 50 (hok2 (1, 50) (by decide)) m hnm
  have hl0 : selOfF selT 6 7 = nI 50 := by decide +kernel
  have hr1 := ih 200 (hok2 (1, 200) (by decide)) m hnm
  have hl1 : (200 : Int32) = nI 200 := rfl
  rw [runS, runS, if_neg (show ¬ nI 201 = 0 by decide), if_neg (show ¬ nI 201 = 0 by decide)]
  rw [show bodyS (runS m (nI (7 + kk))) (nI (7 + kk)) (nI 201) x (bgS (nI 201) q) = _ from bodyS_201 _ _ _ _, show bodyS (runS n (nI (7 + kk))) (nI (7 + kk)) (nI 201) x (bgS (nI 201) q) = _ from bodyS_201 _ _ _ _]
  simp only [hl0, hr0, hl1, hr1]
theorem rok_202 {kk : Nat} (hk11 : kk < 11) {n m : Nat} (hnm : n ≤ m) (ih : ∀ b, okM kk n b = true → ∀ m, n ≤ m → ∀ x q, runS m (nI (7 + kk)) (nI b) x q = runS n (nI (7 + kk)) (nI b) x q) (hok : okM kk (n + 1) 202 = true) (x : Int32) (q : St) : runS (m + 1) (nI (7 + kk)) (nI 202) x q = runS (n + 1) (nI (7 + kk)) (nI 202) x q := by
  rw [okM_s, Bool.and_eq_true, callsT_202] at hok
  have hok2 := List.all_eq_true.mp hok.2
  have hr0 := ih 30 (hok2 (1, 30) (by decide)) m hnm
  have hl0 : selOfF selT 4 2 = nI 30 := by decide +kernel
  have hr1 := ih 141 (hok2 (1, 141) (by decide)) m hnm
  have hl1 : selOfF selT (parentF 17) 2 = nI 141 := by decide +kernel
  rw [runS, runS, if_neg (show ¬ nI 202 = 0 by decide), if_neg (show ¬ nI 202 = 0 by decide)]
  rw [show bodyS (runS m (nI (7 + kk))) (nI (7 + kk)) (nI 202) x (bgS (nI 202) q) = _ from bodyS_202 _ _ _ _, show bodyS (runS n (nI (7 + kk))) (nI (7 + kk)) (nI 202) x (bgS (nI 202) q) = _ from bodyS_202 _ _ _ _]
  simp only [hl0, hr0, hl1, hr1]
theorem rok_204 {kk : Nat} (hk11 : kk < 11) {n m : Nat} (hnm : n ≤ m) (ih : ∀ b, okM kk n b = true → ∀ m, n ≤ m → ∀ x q, runS m (nI (7 + kk)) (nI b) x q = runS n (nI (7 + kk)) (nI b) x q) (hok : okM kk (n + 1) 204 = true) (x : Int32) (q : St) : runS (m + 1) (nI (7 + kk)) (nI 204) x q = runS (n + 1) (nI (7 + kk)) (nI 204) x q := by
  rw [okM_s, Bool.and_eq_true, callsT_204] at hok
  have hok2 := List.all_eq_true.mp hok.2
  have hr0 := ih 70 (hok2 (1, 70) (by decide)) m hnm
  have hl0 : selOfF selT (parentF 17) 5 = nI 70 := by decide +kernel
  rw [runS, runS, if_neg (show ¬ nI 204 = 0 by decide), if_neg (show ¬ nI 204 = 0 by decide)]
  rw [show bodyS (runS m (nI (7 + kk))) (nI (7 + kk)) (nI 204) x (bgS (nI 204) q) = _ from bodyS_204 _ _ _ _, show bodyS (runS n (nI (7 + kk))) (nI (7 + kk)) (nI 204) x (bgS (nI 204) q) = _ from bodyS_204 _ _ _ _]
  simp only [hl0, hr0]
theorem rok_all {kk : Nat} (hk11 : kk < 11) : ∀ n b, okM kk n b = true → ∀ m, n ≤ m → ∀ x q, runS m (nI (7 + kk)) (nI b) x q = runS n (nI (7 + kk)) (nI b) x q
  | 0, b, h, _, _, _, _ => absurd h (by rw [okM_0]; decide)
  | n + 1, b, h, 0, hm, _, _ => absurd hm (by omega)
  | n + 1, b, h, m + 1, hm, x, q => by
    have ih := rok_all hk11 n
    have hb := okM_mem h
    unfold bodyNl at hb
    simp only [List.mem_cons, List.not_mem_nil, or_false] at hb
    rcases hb with rfl | rfl | rfl | rfl | rfl | rfl | rfl | rfl | rfl | rfl | rfl | rfl | rfl | rfl | rfl | rfl | rfl | rfl | rfl | rfl | rfl | rfl | rfl | rfl | rfl | rfl | rfl | rfl | rfl | rfl | rfl | rfl | rfl | rfl | rfl | rfl | rfl | rfl | rfl | rfl | rfl
    · exact rok_10 hk11 (by omega) ih h x q
    · exact rok_11 hk11 (by omega) ih h x q
    · exact rok_20 hk11 (by omega) ih h x q
    · exact rok_21 hk11 (by omega) ih h x q
    · exact rok_30 hk11 (by omega) ih h x q
    · exact rok_40 hk11 (by omega) ih h x q
    · exact rok_41 hk11 (by omega) ih h x q
    · exact rok_50 hk11 (by omega) ih h x q
    · exact rok_51 hk11 (by omega) ih h x q
    · exact rok_52 hk11 (by omega) ih h x q
    · exact rok_60 hk11 (by omega) ih h x q
    · exact rok_61 hk11 (by omega) ih h x q
    · exact rok_62 hk11 (by omega) ih h x q
    · exact rok_63 hk11 (by omega) ih h x q
    · exact rok_64 hk11 (by omega) ih h x q
    · exact rok_70 hk11 (by omega) ih h x q
    · exact rok_100 hk11 (by omega) ih h x q
    · exact rok_101 hk11 (by omega) ih h x q
    · exact rok_110 hk11 (by omega) ih h x q
    · exact rok_111 hk11 (by omega) ih h x q
    · exact rok_112 hk11 (by omega) ih h x q
    · exact rok_120 hk11 (by omega) ih h x q
    · exact rok_130 hk11 (by omega) ih h x q
    · exact rok_131 hk11 (by omega) ih h x q
    · exact rok_140 hk11 (by omega) ih h x q
    · exact rok_141 hk11 (by omega) ih h x q
    · exact rok_142 hk11 (by omega) ih h x q
    · exact rok_150 hk11 (by omega) ih h x q
    · exact rok_151 hk11 (by omega) ih h x q
    · exact rok_152 hk11 (by omega) ih h x q
    · exact rok_160 hk11 (by omega) ih h x q
    · exact rok_161 hk11 (by omega) ih h x q
    · exact rok_162 hk11 (by omega) ih h x q
    · exact rok_163 hk11 (by omega) ih h x q
    · exact rok_180 hk11 (by omega) ih h x q
    · exact rok_181 hk11 (by omega) ih h x q
    · exact rok_190 hk11 (by omega) ih h x q
    · exact rok_200 hk11 (by omega) ih h x q
    · exact rok_201 hk11 (by omega) ih h x q
    · exact rok_202 hk11 (by omega) ih h x q
    · exact rok_204 hk11 (by omega) ih h x q
def ablM (t w : Nat) : Int32 := if nI w ≤ 1 then 1 else if beaT t &&& (1 <<< ((nI w - 1) &&& 31)) = 0 then 0 else 1
def isoM (kk a w : Nat) : Int32 := if (if nI w = 0 then akT kk else aoT w) &&& (1 <<< (nI a &&& 31)) = 0 then 0 else 1
set_option maxRecDepth 100000 in
theorem act_okB : ∀ kk, kk < 11 → ∀ a, a < 12 → ∀ w, w < 7 → (decide (ablM (10 + kk) w = 1) && decide (isoM kk a w = 1) && !(vdT kk a && okM kk 8 (doB kk a))) = false := by decide +kernel
theorem act_ok {kk : Nat} (hk : kk < 11) {a : Nat} (ha : a < 12) {w : Nat} (hw : w < 7) (h1 : ablM (10 + kk) w = 1) (h2 : isoM kk a w = 1) : vdT kk a = true ∧ okM kk 8 (doB kk a) = true := by
  have h := act_okB kk hk a ha w hw
  rw [decide_eq_true h1, decide_eq_true h2] at h
  rw [← Bool.and_eq_true]
  generalize (vdT kk a && okM kk 8 (doB kk a)) = z at h ⊢
  cases z with
  | true => rfl
  | false => exact absurd h (by decide)
set_option maxRecDepth 100000 in
theorem able_eq : ∀ kk, kk < 11 → ∀ w, w < 7 → bearsF borT (nI (7 + kk)) (nI w) = ablM (10 + kk) w := by decide +kernel
set_option maxRecDepth 100000 in
theorem of_eq : ∀ kk, kk < 11 → ∀ a, a < 12 → ∀ w, w < 7 → devHasF (nI (7 + kk)) (nI w) (nI a) = isoM kk a w := by decide +kernel
def putA (kk : Nat) : Nat := if ablM (10 + kk) 3 = 1 then 4 else if ablM (10 + kk) 2 = 1 then 1 else 6
theorem put_ok : ∀ kk, kk < 11 → putA kk < 12 ∧ vdT kk (putA kk) = true ∧ okM kk 8 (doB kk (putA kk)) = true := by decide +kernel
/-- the machine at rest: the object, the values, the counts, the first of the bodies -/
def MX (G : hG) (ad : Nat → Nat) (ct : Nat → Option va_E) (dn lk st : Int32) (v c : Nat → Int32) (b : Int32) (kp : Nat → Int32) : Prop :=
  ∃ (fr pd : Int32) (fb fa fx pl : Nat → Int32), ct 8 = some (.inr (5, MO ad dn lk b st fr pd)) ∧ ct 19 = some (.inl (G.2.1.1, 300, .inl v)) ∧ ct 20 = some (.inl (G.2.1.1, 300, .inl c)) ∧ ct 29 = some (.inl (G.2.1.1, 64, .inl kp)) ∧
    ct 32 = some (.inl (G.2.1.1, 100, .inl fb)) ∧ ct 33 = some (.inl (G.2.1.1, 100, .inl fa)) ∧ ct 34 = some (.inl (G.2.1.1, 100, .inl fx)) ∧ ct 35 = some (.inl (G.2.1.1, 300, .inl pl))
theorem MX_MC {G : hG} {ad : Nat → Nat} {ct : Nat → Option va_E} {dn lk st : Int32} {i : Nat} {vv cv : Nat → Int32} {q : St} (h : MC G ad ct dn lk st i vv cv [] [] q) : MX G ad ct dn lk st (upd vv i q.1) (upd cv i q.2.1) q.2.2.1 q.2.2.2 := by
  obtain ⟨fb, fa, fx, pl, h8, h19, h20, h29, h32, h33, h34, h35, _, _⟩ := h
  exact ⟨_, _, fb, fa, fx, pl, h8, h19, h20, h29, h32, h33, h34, h35⟩
theorem act_ix (kk a : Nat) : (10 + nI kk) * 12 + nI a = nI ((10 + kk) * 12 + a) := by
  rw [show (12 : Int32) = nI 12 from rfl, show (10 : Int32) = nI 10 from rfl, nI_add, pk_mul, nI_add]
set_option maxRecDepth 100000 in
set_option maxHeartbeats 4000000 in
theorem c_X5_act (l : Launch) (G : hG) (ad : Nat → Nat) (ct : Nat → Option va_E) {dn lk st0 : Int32} {v w : Nat → Int32} {b : Int32} {kp kdf : Nat → Int32} (hX : MX G ad ct dn lk st0 v w b kp) (hT : MTab G ct kdf) {i kk a bb : Nat} (hi : i < 300) (hkk : kdf i = nI kk) (hk11 : kk < 11) (ha : a < 12) (hv : vdT kk a = true) (hok : okM kk 8 (doB kk a) = true) (hqb : b = nI bb) (hbb : bb < 2 ^ 29) (x : Int32)  : Met l yX5_act wzX5_act { frames := 2, cells := 0, slots := 0, locals := 46 } (hPw [.ref (ad 8), .int (nI i), .int (nI a), .int x] G ad ct) (hQi (fun r ct1 => r = (runS 8 (nI (7 + kk)) (nI (doB kk a)) x (v i, w i, b, kp)).1 ∧ MC G ad ct1 dn lk st0 i v w [] [] (runS 8 (nI (7 + kk)) (nI (doB kk a)) x (v i, w i, b, kp)).2 ∧ agM ct1 ct) G ad) 0 0 (hA G.2.2.2) := by
  refine hMetw (by decide) (Nat.le_of_ble_eq_true rfl) (fun p e s m below meth c ls S hr hlk hE hW hl => ?_)
  obtain ⟨hx, hb, hml, hown, hts⟩ := id S
  have hS : va_S (hA G.2.2.2) s.heap s.heap [] := va_S.rf
  have hl : lv_has ls 6 [(0, .ref (ad 8)), (1, .int (nI i)), (2, .int (nI a)), (3, .int x)] := hl
  obtain ⟨fr, pd, fb, fa, fx, pl, h8, h19, h20, h29, h32, h33, h34, h35⟩ := id hX
  obtain ⟨h10, h11, h12, h15, h18⟩ := id hT
  obtain ⟨hdv, hd2, hd3, _⟩ := do_val kk hk11 a ha hv
  have hbb30 : bb < 2 ^ 30 := by omega
  refine lv_aload_n hx hb dX5_act_0 rfl (lv_at hl 0 rfl) ?_
  refine lv_iconst (v := 0) hx hb dX5_act_1 (by decide) ?_
  refine hr_put S hE hW hS h8 inX5 (C := RX5) (T := TX5) (N := 28) tyX5_ok nmX5 rfl 26 (by decide) q_f_5_105 rfl rfl rfl (Nat.le_of_ble_eq_true rfl) dX5_act_2 (fun H locs ct_1 hW hk_2 hg_3 hz hS => ?_)
  have h_4 := (hg_3 10 (by decide)).trans h10
  have h_5 := (hg_3 11 (by decide)).trans h11
  have h_6 := (hg_3 12 (by decide)).trans h12
  have h_7 := (hg_3 15 (by decide)).trans h15
  have h_8 := (hg_3 18 (by decide)).trans h18
  have h_9 := (hg_3 19 (by decide)).trans h19
  have h_10 := (hg_3 20 (by decide)).trans h20
  have h_11 := (hg_3 29 (by decide)).trans h29
  have h_12 := (hg_3 32 (by decide)).trans h32
  have h_13 := (hg_3 33 (by decide)).trans h33
  have h_14 := (hg_3 34 (by decide)).trans h34
  have h_15 := (hg_3 35 (by decide)).trans h35
  have h_16 : ct_1 8 = some (.inr (5, [.ref (ad 10), .ref (ad 11), .ref (ad 12), .ref (ad 13), .ref (ad 14), .ref (ad 15), .ref (ad 16), .ref (ad 17), .ref (ad 18), .ref (ad 19), .ref (ad 20), .ref (ad 21), .int dn, .ref (ad 23), .ref (ad 24), .int lk, .ref (ad 26), .ref (ad 27), .ref (ad 28), .ref (ad 29), .int b, .int st0, .ref (ad 32), .ref (ad 33), .ref (ad 34), .ref (ad 35), .int 0, .int pd])) := hk_2
  refine lv_aload_n hx hb dX5_act_5 rfl (lv_at hl 0 rfl) ?_
  refine lv_iconst (v := 0) hx hb dX5_act_6 (by decide) ?_
  refine hr_put S hE hW hS h_16 inX5 (C := RX5) (T := TX5) (N := 28) tyX5_ok nmX5 rfl 27 (by decide) q_f_5_98 rfl rfl rfl (Nat.le_of_ble_eq_true rfl) dX5_act_7 (fun H locs ct_17 hW hk_18 hg_19 hz hS => ?_)
  have h_20 := (hg_19 10 (by decide)).trans h_4
  have h_21 := (hg_19 11 (by decide)).trans h_5
  have h_22 := (hg_19 12 (by decide)).trans h_6
  have h_23 := (hg_19 15 (by decide)).trans h_7
  have h_24 := (hg_19 18 (by decide)).trans h_8
  have h_25 := (hg_19 19 (by decide)).trans h_9
  have h_26 := (hg_19 20 (by decide)).trans h_10
  have h_27 := (hg_19 29 (by decide)).trans h_11
  have h_28 := (hg_19 32 (by decide)).trans h_12
  have h_29 := (hg_19 33 (by decide)).trans h_13
  have h_30 := (hg_19 34 (by decide)).trans h_14
  have h_31 := (hg_19 35 (by decide)).trans h_15
  have h_32 : ct_17 8 = some (.inr (5, [.ref (ad 10), .ref (ad 11), .ref (ad 12), .ref (ad 13), .ref (ad 14), .ref (ad 15), .ref (ad 16), .ref (ad 17), .ref (ad 18), .ref (ad 19), .ref (ad 20), .ref (ad 21), .int dn, .ref (ad 23), .ref (ad 24), .int lk, .ref (ad 26), .ref (ad 27), .ref (ad 28), .ref (ad 29), .int b, .int st0, .ref (ad 32), .ref (ad 33), .ref (ad 34), .ref (ad 35), .int 0, .int 0])) := hk_18
  refine lv_aload_n hx hb dX5_act_10 rfl (lv_at hl 0 rfl) ?_
  refine lv_aload_n hx hb dX5_act_11 rfl (lv_at hl 0 rfl) ?_
  refine hr_get S hE hW h_32 inX5 (C := RX5) (T := TX5) (N := 28) rfl 5 (by decide) q_f_5_25 rfl dX5_act_12 ?_
  refine lv_bipush (v := 10) hx hb dX5_act_15 (by decide) ?_
  refine lv_aload_n hx hb dX5_act_17 rfl (lv_at hl 0 rfl) ?_
  refine hr_get S hE hW h_32 inX5 (C := RX5) (T := TX5) (N := 28) rfl 8 (by decide) q_f_5_34 rfl dX5_act_18 ?_
  refine lv_iload_n hx hb dX5_act_21 rfl (lv_at hl 1 rfl) ?_
  refine hr_ialdk S hE hW h_24 (j := i) rfl hi (by decide) dX5_act_22 ?_
  rw [hkk]
  refine lv_iadd hx hb dX5_act_23 ?_
  refine lv_bipush (v := 12) hx hb dX5_act_24 (by decide) ?_
  refine lv_imul hx hb dX5_act_26 ?_
  refine lv_iload_n hx hb dX5_act_27 rfl (lv_at hl 2 rfl) ?_
  refine lv_iadd hx hb dX5_act_28 ?_
  rw [show (10 + nI kk) * 12 + nI a = nI ((10 + kk) * 12 + a) from act_ix kk a]
  refine hr_ialdk S hE hW h_23 (j := ((10 + kk) * 12 + a)) rfl (by omega) (by decide) dX5_act_29 ?_
  rw [hdv]
  refine lv_iload_n hx hb dX5_act_30 rfl (lv_at hl 3 rfl) ?_
  have hM : MC G ad ct_17 dn lk st0 i v w [] [] (v i, w i, b, kp) := ⟨fb, fa, fx, pl, h_32, (by rw [upd_self]; exact h_25), (by rw [upd_self]; exact h_26), h_27, h_28, h_29, h_30, h_31, trivial, trivial⟩
  have hFl : ([] : List (Nat × Nat × Int32)).length < 100 := by decide
  obtain ⟨fb, fa, fx, pl, h8, h19, h20, h29, h32, h33, h34, h35, hF, hL⟩ := id hM
  refine hc_v (va_runV (As := [.int (nI (doB kk a)), .int x]) (rest := []) S (c_X5_enter l G ad _ hM h_21 hqb hbb30 hd2 hd3 hFl x) (cwV 2 hts (gWSV q_l_5_108 q_im_X5_enter q_se_X5_enter q_in_5 q_co_X5_enter) rfl rfl rfl (by decide +kernel) ⟨Nat.le_of_ble_eq_true rfl, Nat.le_of_ble_eq_true rfl⟩) (hPreVw hE hS (hrecv hE hW h8 (q := (RX5, TX5, 28)) rfl) hW) rfl rfl hl.1 rfl (lv_room (Nat.le_of_ble_eq_true rfl)) dX5_act_31 ⟨Nat.le_of_ble_eq_true rfl, Nat.le_of_ble_eq_true rfl⟩) hS (fun ct_33 H locs hp hW hS => ?_)
  obtain ⟨hM, hag_34⟩ := hp
  have h_35 := (hag_34 10 (by omega)).trans h_20
  have h_36 := (hag_34 11 (by omega)).trans h_21
  have h_37 := (hag_34 12 (by omega)).trans h_22
  have h_38 := (hag_34 15 (by omega)).trans h_23
  have h_39 := (hag_34 18 (by omega)).trans h_24
  obtain ⟨fb, fa, fx, pl, h8, h19, h20, h29, h32, h33, h34, h35, hF, hL⟩ := id hM
  refine mrun_all S hE hT hi hk11 hkk 8 (doB kk a) hok x [] [] (v i, w i, b, kp) bb hqb (by rw [show cB 8 = 3280 from rfl]; omega) (by decide) (by decide) ?_ _ H locs ls hM (fun j hj => ((hag_34 j hj)).trans (((hg_19 j (by omega))).trans ((hg_3 j (by omega))))) hW hS (lv_sub hl [0, 1] rfl)
  clear hM
  intro ct1 H locs ls hM hagc hW hS hl
  obtain ⟨fb, fa, fx, pl, h8, h19, h20, h29, h32, h33, h34, h35, hF, hL⟩ := id hM
  refine lv_aload_n hx hb dX5_act_34 rfl (lv_at hl 0 rfl) ?_
  refine hr_get S hE hW h8 inX5 (C := RX5) (T := TX5) (N := 28) rfl 26 (by decide) q_f_5_105 rfl dX5_act_35 ?_
  refine lv_if_le (tgt := 262) hx hb dX5_act_38 (by decide) (fun _ => ?_) (fun q => absurd (show nI ([] : List (Nat × Nat × Int32)).length ≤ 0 by decide) q)
  refine lv_aload_n hx hb dX5_act_262 rfl (lv_at hl 0 rfl) ?_
  refine hc_i (va_runV (As := []) (rest := []) S (c_X5_pop l G ad _ hM (by decide)) (cwV 0 hts (gWSV q_l_5_112 q_im_X5_pop q_se_X5_pop q_in_5 q_co_X5_pop) rfl rfl rfl (by decide +kernel) ⟨Nat.le_of_ble_eq_true rfl, Nat.le_of_ble_eq_true rfl⟩) (hPreVw hE hS (hrecv hE hW h8 (q := (RX5, TX5, 28)) rfl) hW) rfl rfl hl.1 rfl (lv_room (Nat.le_of_ble_eq_true rfl)) dX5_act_263 ⟨Nat.le_of_ble_eq_true rfl, Nat.le_of_ble_eq_true rfl⟩) hS (fun rv_42 ct_40 H locs hp hW hS => ?_)
  obtain ⟨ev_43, hM, hag_41⟩ := hp
  rw [ev_43]
  obtain ⟨fb, fa, fx, pl, h8, h19, h20, h29, h32, h33, h34, h35, hF, hL⟩ := id hM
  exact h_iret S hr hlk hS hW dX5_act_266 ⟨rfl, hM, (fun j hj => ((hag_41 j hj)).trans ((hagc j hj)))⟩
