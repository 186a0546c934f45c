def zTS (tk : Nat → Int32) : TS := (tk, fun _ => 0, fun _ => 0)
theorem stateR_in {ty : Nat → Int32} {A : AS} {T : TS} {L : LS4} {i : Nat} {w : Int32} (h0 : ¬ w < 0) (h6 : w < 6) : stateR ty A T L i w = (factD ty A T L i w, 0) := by rw [stateR, if_neg h0, if_pos h6]
theorem nI_eqN {a b : Nat} (ha : a < 2 ^ 31) (hb : b < 2 ^ 31) (h : nI a = nI b) : a = b := by
  have q := congrArg Int32.toNatClampNeg h
  rw [nI_clamp ha, nI_clamp hb] at q
  exact q
theorem sR_0 {ty : Nat → Int32} {A : AS} {tk : Nat → Int32} {L : LS4} {i : Nat} : (stateR ty A (zTS tk) L i 0).1 = ty i - 7 := by
  rw [stateR_in (w := 0) (by decide) (by decide)]
  show factF 0 (ty i) (A.1 i) (A.2.1 i) (nI (cntL L.2.1 i L.1)) (nI (cntL L.2.2 i L.1)) (tk i) = _
  rw [factF, if_pos rfl]
theorem sR_1 {ty : Nat → Int32} {A : AS} {tk : Nat → Int32} {L : LS4} {i : Nat} : (stateR ty A (zTS tk) L i 1).1 = A.1 i := by
  rw [stateR_in (w := 1) (by decide) (by decide)]
  show factF 1 (ty i) (A.1 i) (A.2.1 i) (nI (cntL L.2.1 i L.1)) (nI (cntL L.2.2 i L.1)) (tk i) = _
  rw [factF, if_neg (show ¬ (1 : Int32) = 0 by decide), if_pos rfl]
theorem sR_2 {ty : Nat → Int32} {A : AS} {tk : Nat → Int32} {L : LS4} {i : Nat} : (stateR ty A (zTS tk) L i 2).1 = A.2.1 i := by
  rw [stateR_in (w := 2) (by decide) (by decide)]
  show factF 2 (ty i) (A.1 i) (A.2.1 i) (nI (cntL L.2.1 i L.1)) (nI (cntL L.2.2 i L.1)) (tk i) = _
  rw [factF, if_neg (show ¬ (2 : Int32) = 0 by decide), if_neg (show ¬ (2 : Int32) = 1 by decide), if_pos rfl]
theorem sR_3 {ty : Nat → Int32} {A : AS} {tk : Nat → Int32} {L : LS4} {i : Nat} : (stateR ty A (zTS tk) L i 3).1 = nI (cntL L.2.1 i L.1) := by
  rw [stateR_in (w := 3) (by decide) (by decide)]
  show factF 3 (ty i) (A.1 i) (A.2.1 i) (nI (cntL L.2.1 i L.1)) (nI (cntL L.2.2 i L.1)) (tk i) = _
  rw [factF, if_neg (show ¬ (3 : Int32) = 0 by decide), if_neg (show ¬ (3 : Int32) = 1 by decide), if_neg (show ¬ (3 : Int32) = 2 by decide), if_pos rfl]
theorem sR_4 {ty : Nat → Int32} {A : AS} {tk : Nat → Int32} {L : LS4} {i : Nat} : (stateR ty A (zTS tk) L i 4).1 = nI (cntL L.2.2 i L.1) := by
  rw [stateR_in (w := 4) (by decide) (by decide)]
  show factF 4 (ty i) (A.1 i) (A.2.1 i) (nI (cntL L.2.1 i L.1)) (nI (cntL L.2.2 i L.1)) (tk i) = _
  rw [factF, if_neg (show ¬ (4 : Int32) = 0 by decide), if_neg (show ¬ (4 : Int32) = 1 by decide), if_neg (show ¬ (4 : Int32) = 2 by decide), if_neg (show ¬ (4 : Int32) = 3 by decide), if_pos rfl]
theorem sR_5 {ty : Nat → Int32} {A : AS} {tk : Nat → Int32} {L : LS4} {i : Nat} : (stateR ty A (zTS tk) L i 5).1 = tk i := by
  rw [stateR_in (w := 5) (by decide) (by decide)]
  show factF 5 (ty i) (A.1 i) (A.2.1 i) (nI (cntL L.2.1 i L.1)) (nI (cntL L.2.2 i L.1)) (tk i) = _
  rw [factF, if_neg (show ¬ (5 : Int32) = 0 by decide), if_neg (show ¬ (5 : Int32) = 1 by decide), if_neg (show ¬ (5 : Int32) = 2 by decide), if_neg (show ¬ (5 : Int32) = 3 by decide), if_neg (show ¬ (5 : Int32) = 4 by decide), if_pos rfl]
theorem st_no {x : Int32} (h : 5 < x) : ¬ x < 6 := by
  intro h6
  have h0 : ¬ x < 0 := fun q => absurd (Int32.lt_trans h q) (by decide)
  obtain ⟨j, hj, rfl⟩ := nI_of h0
  have a : ¬ j ≤ 5 := fun q => absurd (Int32.le_trans (nI_le (a := j) (b := 5) q (by decide)) (Int32.not_lt.mp (fun z => absurd (Int32.lt_trans h z) (by decide)))) (fun _ => absurd h (Int32.not_lt.mpr (nI_le (a := j) (b := 5) q (by decide))))
  exact absurd h6 (Int32.not_lt.mpr (nI_le (a := 6) (b := j) (by omega) hj))
set_option maxRecDepth 100000 in
set_option maxHeartbeats 4000000 in
theorem c_X5_state_ok (l : Launch) (G : hG) (ad : Nat → Nat) (ct : Nat → Option va_E) {n : Nat} {ks : Nat → Nat} {A : AS} {tk : Nat → Int32} {L : LS4} {st0 : Int32} (hR : RM G ad ct n ks A tk L st0) {i : Nat} (hi : i < n) (what : Int32)  : Met l yX5_state wzX5_state { frames := 1, cells := 0, slots := 0, locals := 21 } (hPw [.ref (ad 8), .int (nI i), .int what] G ad ct) (hQi (fun r ct1 => r = (stateR (tyM ks) A (zTS tk) L i what).1 ∧ RM G ad ct1 n ks A tk L ((stateR (tyM ks) A (zTS tk) L i what).2) ∧ agX ct1 ct) G ad) 0 0 (hA G.2.2.2) := by
  refine hMetw (by decide) (Nat.le_of_ble_eq_true rfl) (fun p e s m below meth c ls S hr hlk hE hW hl => ?_)
  obtain ⟨hx, hb, hml, hown, hts⟩ := id S
  have hS : va_S (hA G.2.2.2) s.heap s.heap [] := va_S.rf
  have hl : lv_has ls 5 [(0, .ref (ad 8)), (1, .int (nI i)), (2, .int what)] := hl
  obtain ⟨⟨fr, pd, fb, fa, fx, pl, h8, h19, h20, h29, h32, h33, h34, h35⟩, ⟨h10, h11, h12, h15, h18⟩, ⟨h13, h16, h17, h21, h23, h24, rw_, an, ii, h26, h27, h28⟩, hn300, hm400, hlks, hks⟩ := id hR
  refine lv_aload_n hx hb dX5_state_0 rfl (lv_at hl 0 rfl) ?_
  refine lv_iload_n hx hb dX5_state_1 rfl (lv_at hl 1 rfl) ?_
  refine hc_r (va_runV (As := [.int (nI i)]) (rest := []) S (c_X5_isDevice l G _ hW hR (nI i)) (cwV 1 hts (gWSV q_l_5_129 q_im_X5_isDevice q_se_X5_isDevice q_in_5 q_co_X5_isDevice) rfl rfl rfl (by decide +kernel) ⟨Nat.le_of_ble_eq_true rfl, Nat.le_of_ble_eq_true rfl⟩) (hPreVr hE hS (hrecv hE hW h8 (q := (RX5, TX5, 28)) rfl)) rfl rfl hl.1 rfl (lv_room (Nat.le_of_ble_eq_true rfl)) dX5_state_2 ⟨Nat.le_of_ble_eq_true rfl, Nat.le_of_ble_eq_true rfl⟩) hS (fun locs hS => ?_)
  refine lv_if_eq (tgt := 17) hx hb dX5_state_5 (by decide) (fun q => absurd q (fun q : isDevF (nI n) (nI i) = 0 => absurd ((isDevF_ok hn300 hi).symm.trans q) (by decide))) (fun _ => ?_)
  refine lv_iload_n hx hb dX5_state_8 rfl (lv_at hl 2 rfl) ?_
  refine lv_if_lt (tgt := 17) hx hb dX5_state_9 (by decide) (fun c_9 => ?_) (fun c_9 => ?_)
  · refine lv_aload_n hx hb dX5_state_17 rfl (lv_at hl 0 rfl) ?_
    refine lv_iconst (v := 1) hx hb dX5_state_18 (by decide) ?_
    refine hc_i (va_runV (As := [.int 1]) (rest := []) S (c_X5_refused l G ad _ hR 1) (cwV 1 hts (gWSV q_l_5_151 q_im_X5_refused q_se_X5_refused q_in_5 q_co_X5_refused) rfl rfl rfl (by decide +kernel) ⟨Nat.le_of_ble_eq_true rfl, Nat.le_of_ble_eq_true rfl⟩) (hPreVw hE hS (hrecv hE hW h8 (q := (RX5, TX5, 28)) rfl) hW) rfl rfl hl.1 rfl (lv_room (Nat.le_of_ble_eq_true rfl)) dX5_state_19 ⟨Nat.le_of_ble_eq_true rfl, Nat.le_of_ble_eq_true rfl⟩) hS (fun rv_3 ct_1 H locs hp hW hS => ?_)
    obtain ⟨ev_4, hR, hag_2⟩ := hp
    rw [ev_4]
    obtain ⟨⟨fr, pd, fb, fa, fx, pl, h8, h19, h20, h29, h32, h33, h34, h35⟩, ⟨h10, h11, h12, h15, h18⟩, ⟨h13, h16, h17, h21, h23, h24, rw_, an, ii, h26, h27, h28⟩, hn300, hm400, hlks, hks⟩ := id hR
    exact h_iret S hr hlk hS hW dX5_state_22 ⟨by rw [stateR, if_pos c_9], by rw [stateR, if_pos c_9]; exact hR, (fun j hj => (hag_2 j hj))⟩
  · refine lv_iload_n hx hb dX5_state_12 rfl (lv_at hl 2 rfl) ?_
    refine lv_iconst (v := 5) hx hb dX5_state_13 (by decide) ?_
    refine lv_icmp_le (tgt := 23) hx hb dX5_state_14 (by decide) (fun c_14 => ?_) (fun c_14 => ?_)
    · rcases in6 what c_9 (Int32.not_le.mp (fun q => absurd (Int32.le_trans q c_14) (by decide))) with rfl | rfl | rfl | rfl | rfl | rfl
      · refine lv_aload_n hx hb dX5_state_23 rfl (lv_at hl 0 rfl) ?_
        refine lv_iconst (v := 0) hx hb dX5_state_24 (by decide) ?_
        refine hr_put S hE hW hS h8 inX5 (C := RX5) (T := TX5) (N := 28) tyX5_ok nmX5 rfl 21 (by decide) q_f_5_126 rfl rfl rfl (Nat.le_of_ble_eq_true rfl) dX5_state_25 (fun H locs ct_5 hW hk_6 hg_7 hz hS => ?_)
        have h_8 := (hg_7 10 (by decide)).trans h10
        have h_9 := (hg_7 11 (by decide)).trans h11
        have h_10 := (hg_7 12 (by decide)).trans h12
        have h_11 := (hg_7 13 (by decide)).trans h13
        have h_12 := (hg_7 15 (by decide)).trans h15
        have h_13 := (hg_7 16 (by decide)).trans h16
        have h_14 := (hg_7 17 (by decide)).trans h17
        have h_15 := (hg_7 18 (by decide)).trans h18
        have h_16 := (hg_7 19 (by decide)).trans h19
        have h_17 := (hg_7 20 (by decide)).trans h20
        have h_18 := (hg_7 21 (by decide)).trans h21
        have h_19 := (hg_7 23 (by decide)).trans h23
        have h_20 := (hg_7 24 (by decide)).trans h24
        have h_21 := (hg_7 26 (by decide)).trans h26
        have h_22 := (hg_7 27 (by decide)).trans h27
        have h_23 := (hg_7 28 (by decide)).trans h28
        have h_24 := (hg_7 29 (by decide)).trans h29
        have h_25 := (hg_7 32 (by decide)).trans h32
        have h_26 := (hg_7 33 (by decide)).trans h33
        have h_27 := (hg_7 34 (by decide)).trans h34
        have h_28 := (hg_7 35 (by decide)).trans h35
        have h_29 : ct_5 8 = some (.inr (5, [.ref (ad 10), .ref (ad 11), .ref (ad 12), .ref (ad 13), .ref (ad 14), .ref (ad 15), .ref (ad 16), .ref (ad 17), .ref (ad 18), .ref (ad 19), .ref (ad 20), .ref (ad 21), .int (nI n), .ref (ad 23), .ref (ad 24), .int (nI L.1), .ref (ad 26), .ref (ad 27), .ref (ad 28), .ref (ad 29), .int A.2.2.1, .int 0, .ref (ad 32), .ref (ad 33), .ref (ad 34), .ref (ad 35), .int fr, .int pd])) := hk_6
        refine lv_iload_n hx hb dX5_state_28 rfl (lv_at hl 2 rfl) ?_
        refine lv_if_ne (tgt := 39) hx hb dX5_state_29 (by decide) (fun q => absurd (by decide) q) (fun _ => ?_)
        refine lv_aload_n hx hb dX5_state_32 rfl (lv_at hl 0 rfl) ?_
        refine hr_get S hE hW h_29 inX5 (C := RX5) (T := TX5) (N := 28) rfl 8 (by decide) q_f_5_34 rfl dX5_state_33 ?_
        refine lv_iload_n hx hb dX5_state_36 rfl (lv_at hl 1 rfl) ?_
        refine hr_ialdk S hE hW h_15 (j := i) rfl (show i < 300 by omega) (by decide) dX5_state_37 ?_
        rw [kdM_at]
        exact h_iret S hr hlk hS hW dX5_state_38 ⟨by rw [sR_0, tyM_at]; exact (sub_nI 7 _).symm, by rw [stateR_in (w := 0) (by decide) (by decide)]; exact ⟨⟨_, _, _, _, _, _, h_29, h_16, h_17, h_24, h_25, h_26, h_27, h_28⟩, ⟨h_8, h_9, h_10, h_12, h_15⟩, ⟨h_11, h_13, h_14, h_18, h_19, h_20, _, _, _, h_21, h_22, h_23⟩, hn300, hm400, hlks, hks⟩, (fun j hj => (hg_7 j (by omega)))⟩
      · refine lv_aload_n hx hb dX5_state_23 rfl (lv_at hl 0 rfl) ?_
        refine lv_iconst (v := 0) hx hb dX5_state_24 (by decide) ?_
        refine hr_put S hE hW hS h8 inX5 (C := RX5) (T := TX5) (N := 28) tyX5_ok nmX5 rfl 21 (by decide) q_f_5_126 rfl rfl rfl (Nat.le_of_ble_eq_true rfl) dX5_state_25 (fun H locs ct_30 hW hk_31 hg_32 hz hS => ?_)
        have h_33 := (hg_32 10 (by decide)).trans h10
        have h_34 := (hg_32 11 (by decide)).trans h11
        have h_35 := (hg_32 12 (by decide)).trans h12
        have h_36 := (hg_32 13 (by decide)).trans h13
        have h_37 := (hg_32 15 (by decide)).trans h15
        have h_38 := (hg_32 16 (by decide)).trans h16
        have h_39 := (hg_32 17 (by decide)).trans h17
        have h_40 := (hg_32 18 (by decide)).trans h18
        have h_41 := (hg_32 19 (by decide)).trans h19
        have h_42 := (hg_32 20 (by decide)).trans h20
        have h_43 := (hg_32 21 (by decide)).trans h21
        have h_44 := (hg_32 23 (by decide)).trans h23
        have h_45 := (hg_32 24 (by decide)).trans h24
        have h_46 := (hg_32 26 (by decide)).trans h26
        have h_47 := (hg_32 27 (by decide)).trans h27
        have h_48 := (hg_32 28 (by decide)).trans h28
        have h_49 := (hg_32 29 (by decide)).trans h29
        have h_50 := (hg_32 32 (by decide)).trans h32
        have h_51 := (hg_32 33 (by decide)).trans h33
        have h_52 := (hg_32 34 (by decide)).trans h34
        have h_53 := (hg_32 35 (by decide)).trans h35
        have h_54 : ct_30 8 = some (.inr (5, [.ref (ad 10), .ref (ad 11), .ref (ad 12), .ref (ad 13), .ref (ad 14), .ref (ad 15), .ref (ad 16), .ref (ad 17), .ref (ad 18), .ref (ad 19), .ref (ad 20), .ref (ad 21), .int (nI n), .ref (ad 23), .ref (ad 24), .int (nI L.1), .ref (ad 26), .ref (ad 27), .ref (ad 28), .ref (ad 29), .int A.2.2.1, .int 0, .ref (ad 32), .ref (ad 33), .ref (ad 34), .ref (ad 35), .int fr, .int pd])) := hk_31
        refine lv_iload_n hx hb dX5_state_28 rfl (lv_at hl 2 rfl) ?_
        refine lv_if_ne (tgt := 39) hx hb dX5_state_29 (by decide) (fun _ => ?_) (fun q => absurd q (by decide))
        refine lv_iload_n hx hb dX5_state_39 rfl (lv_at hl 2 rfl) ?_
        refine lv_iconst (v := 1) hx hb dX5_state_40 (by decide) ?_
        refine lv_icmp_ne (tgt := 51) hx hb dX5_state_41 (by decide) (fun q => absurd (by decide) q) (fun _ => ?_)
        refine lv_aload_n hx hb dX5_state_44 rfl (lv_at hl 0 rfl) ?_
        refine hr_get S hE hW h_54 inX5 (C := RX5) (T := TX5) (N := 28) rfl 9 (by decide) q_f_5_37 rfl dX5_state_45 ?_
        refine lv_iload_n hx hb dX5_state_48 rfl (lv_at hl 1 rfl) ?_
        refine hr_ialdk S hE hW h_41 (j := i) rfl (show i < 300 by omega) (by decide) dX5_state_49 ?_
        exact h_iret S hr hlk hS hW dX5_state_50 ⟨sR_1.symm, by rw [stateR_in (w := 1) (by decide) (by decide)]; exact ⟨⟨_, _, _, _, _, _, h_54, h_41, h_42, h_49, h_50, h_51, h_52, h_53⟩, ⟨h_33, h_34, h_35, h_37, h_40⟩, ⟨h_36, h_38, h_39, h_43, h_44, h_45, _, _, _, h_46, h_47, h_48⟩, hn300, hm400, hlks, hks⟩, (fun j hj => (hg_32 j (by omega)))⟩
      · refine lv_aload_n hx hb dX5_state_23 rfl (lv_at hl 0 rfl) ?_
        refine lv_iconst (v := 0) hx hb dX5_state_24 (by decide) ?_
        refine hr_put S hE hW hS h8 inX5 (C := RX5) (T := TX5) (N := 28) tyX5_ok nmX5 rfl 21 (by decide) q_f_5_126 rfl rfl rfl (Nat.le_of_ble_eq_true rfl) dX5_state_25 (fun H locs ct_55 hW hk_56 hg_57 hz hS => ?_)
        have h_58 := (hg_57 10 (by decide)).trans h10
        have h_59 := (hg_57 11 (by decide)).trans h11
        have h_60 := (hg_57 12 (by decide)).trans h12
        have h_61 := (hg_57 13 (by decide)).trans h13
        have h_62 := (hg_57 15 (by decide)).trans h15
        have h_63 := (hg_57 16 (by decide)).trans h16
        have h_64 := (hg_57 17 (by decide)).trans h17
        have h_65 := (hg_57 18 (by decide)).trans h18
        have h_66 := (hg_57 19 (by decide)).trans h19
        have h_67 := (hg_57 20 (by decide)).trans h20
        have h_68 := (hg_57 21 (by decide)).trans h21
        have h_69 := (hg_57 23 (by decide)).trans h23
        have h_70 := (hg_57 24 (by decide)).trans h24
        have h_71 := (hg_57 26 (by decide)).trans h26
        have h_72 := (hg_57 27 (by decide)).trans h27
        have h_73 := (hg_57 28 (by decide)).trans h28
        have h_74 := (hg_57 29 (by decide)).trans h29
        have h_75 := (hg_57 32 (by decide)).trans h32
        have h_76 := (hg_57 33 (by decide)).trans h33
        have h_77 := (hg_57 34 (by decide)).trans h34
        have h_78 := (hg_57 35 (by decide)).trans h35
        have h_79 : ct_55 8 = some (.inr (5, [.ref (ad 10), .ref (ad 11), .ref (ad 12), .ref (ad 13), .ref (ad 14), .ref (ad 15), .ref (ad 16), .ref (ad 17), .ref (ad 18), .ref (ad 19), .ref (ad 20), .ref (ad 21), .int (nI n), .ref (ad 23), .ref (ad 24), .int (nI L.1), .ref (ad 26), .ref (ad 27), .ref (ad 28), .ref (ad 29), .int A.2.2.1, .int 0, .ref (ad 32), .ref (ad 33), .ref (ad 34), .ref (ad 35), .int fr, .int pd])) := hk_56
        refine lv_iload_n hx hb dX5_state_28 rfl (lv_at hl 2 rfl) ?_
        refine lv_if_ne (tgt := 39) hx hb dX5_state_29 (by decide) (fun _ => ?_) (fun q => absurd q (by decide))
        refine lv_iload_n hx hb dX5_state_39 rfl (lv_at hl 2 rfl) ?_
        refine lv_iconst (v := 1) hx hb dX5_state_40 (by decide) ?_
        refine lv_icmp_ne (tgt := 51) hx hb dX5_state_41 (by decide) (fun _ => ?_) (fun q => absurd q (by decide))
        refine lv_iload_n hx hb dX5_state_51 rfl (lv_at hl 2 rfl) ?_
        refine lv_iconst (v := 2) hx hb dX5_state_52 (by decide) ?_
        refine lv_icmp_ne (tgt := 63) hx hb dX5_state_53 (by decide) (fun q => absurd (by decide) q) (fun _ => ?_)
        refine lv_aload_n hx hb dX5_state_56 rfl (lv_at hl 0 rfl) ?_
        refine hr_get S hE hW h_79 inX5 (C := RX5) (T := TX5) (N := 28) rfl 10 (by decide) q_f_5_40 rfl dX5_state_57 ?_
        refine lv_iload_n hx hb dX5_state_60 rfl (lv_at hl 1 rfl) ?_
        refine hr_ialdk S hE hW h_67 (j := i) rfl (show i < 300 by omega) (by decide) dX5_state_61 ?_
        exact h_iret S hr hlk hS hW dX5_state_62 ⟨sR_2.symm, by rw [stateR_in (w := 2) (by decide) (by decide)]; exact ⟨⟨_, _, _, _, _, _, h_79, h_66, h_67, h_74, h_75, h_76, h_77, h_78⟩, ⟨h_58, h_59, h_60, h_62, h_65⟩, ⟨h_61, h_63, h_64, h_68, h_69, h_70, _, _, _, h_71, h_72, h_73⟩, hn300, hm400, hlks, hks⟩, (fun j hj => (hg_57 j (by omega)))⟩
      · refine lv_aload_n hx hb dX5_state_23 rfl (lv_at hl 0 rfl) ?_
        refine lv_iconst (v := 0) hx hb dX5_state_24 (by decide) ?_
        refine hr_put S hE hW hS h8 inX5 (C := RX5) (T := TX5) (N := 28) tyX5_ok nmX5 rfl 21 (by decide) q_f_5_126 rfl rfl rfl (Nat.le_of_ble_eq_true rfl) dX5_state_25 (fun H locs ct_80 hW hk_81 hg_82 hz hS => ?_)
        have h_83 := (hg_82 10 (by decide)).trans h10
        have h_84 := (hg_82 11 (by decide)).trans h11
        have h_85 := (hg_82 12 (by decide)).trans h12
        have h_86 := (hg_82 13 (by decide)).trans h13
        have h_87 := (hg_82 15 (by decide)).trans h15
        have h_88 := (hg_82 16 (by decide)).trans h16
        have h_89 := (hg_82 17 (by decide)).trans h17
        have h_90 := (hg_82 18 (by decide)).trans h18
        have h_91 := (hg_82 19 (by decide)).trans h19
        have h_92 := (hg_82 20 (by decide)).trans h20
        have h_93 := (hg_82 21 (by decide)).trans h21
        have h_94 := (hg_82 23 (by decide)).trans h23
        have h_95 := (hg_82 24 (by decide)).trans h24
        have h_96 := (hg_82 26 (by decide)).trans h26
        have h_97 := (hg_82 27 (by decide)).trans h27
        have h_98 := (hg_82 28 (by decide)).trans h28
        have h_99 := (hg_82 29 (by decide)).trans h29
        have h_100 := (hg_82 32 (by decide)).trans h32
        have h_101 := (hg_82 33 (by decide)).trans h33
        have h_102 := (hg_82 34 (by decide)).trans h34
        have h_103 := (hg_82 35 (by decide)).trans h35
        have h_104 : ct_80 8 = some (.inr (5, [.ref (ad 10), .ref (ad 11), .ref (ad 12), .ref (ad 13), .ref (ad 14), .ref (ad 15), .ref (ad 16), .ref (ad 17), .ref (ad 18), .ref (ad 19), .ref (ad 20), .ref (ad 21), .int (nI n), .ref (ad 23), .ref (ad 24), .int (nI L.1), .ref (ad 26), .ref (ad 27), .ref (ad 28), .ref (ad 29), .int A.2.2.1, .int 0, .ref (ad 32), .ref (ad 33), .ref (ad 34), .ref (ad 35), .int fr, .int pd])) := hk_81
        refine lv_iload_n hx hb dX5_state_28 rfl (lv_at hl 2 rfl) ?_
        refine lv_if_ne (tgt := 39) hx hb dX5_state_29 (by decide) (fun _ => ?_) (fun q => absurd q (by decide))
        refine lv_iload_n hx hb dX5_state_39 rfl (lv_at hl 2 rfl) ?_
        refine lv_iconst (v := 1) hx hb dX5_state_40 (by decide) ?_
        refine lv_icmp_ne (tgt := 51) hx hb dX5_state_41 (by decide) (fun _ => ?_) (fun q => absurd q (by decide))
        refine lv_iload_n hx hb dX5_state_51 rfl (lv_at hl 2 rfl) ?_
        refine lv_iconst (v := 2) hx hb dX5_state_52 (by decide) ?_
        refine lv_icmp_ne (tgt := 63) hx hb dX5_state_53 (by decide) (fun _ => ?_) (fun q => absurd q (by decide))
        refine lv_iload_n hx hb dX5_state_63 rfl (lv_at hl 2 rfl) ?_
        refine lv_iconst (v := 5) hx hb dX5_state_64 (by decide) ?_
        refine lv_icmp_ne (tgt := 75) hx hb dX5_state_65 (by decide) (fun _ => ?_) (fun q => absurd q (by decide))
        refine lv_iconst (v := 0) hx hb dX5_state_75 (by decide) ?_
        refine lv_istore_n (lv' := [(3, .int 0), (0, .ref (ad 8)), (1, .int (nI i)), (2, .int 3)]) hx hb dX5_state_76 rfl hl (by decide) rfl (fun ls hl => ?_)
        refine lv_iconst (v := 0) hx hb dX5_state_77 (by decide) ?_
        refine lv_istore (lv' := [(4, .int 0), (3, .int 0), (0, .ref (ad 8)), (1, .int (nI i)), (2, .int 3)]) hx hb dX5_state_78 hl (by decide) rfl (fun ls hl => ?_)
        have hR0 : RM G ad ct_80 n ks A tk L 0 := ⟨⟨_, _, _, _, _, _, h_104, h_91, h_92, h_99, h_100, h_101, h_102, h_103⟩, ⟨h_83, h_84, h_85, h_87, h_90⟩, ⟨h_86, h_88, h_89, h_93, h_94, h_95, _, _, _, h_96, h_97, h_98⟩, hn300, hm400, hlks, hks⟩
        replace hR := hR0
        have loop : ∀ (rem k : Nat) (z : Int32) (ct1 : Nat → Option va_E) (H : Heap) (locs : List Loc) (ls : Array Slot), k + rem = L.1 → (z = nI (cntL L.2.1 i k)) → RM G ad ct1 n ks A tk L 0 → agX ct1 ct → hw G ad ct1 H → va_S (hA G.2.2.2) s.heap H locs → lv_has ls 5 [(4, .int (nI k)), (3, .int z), (0, .ref (ad 8)), (1, .int (nI i)), (2, .int 3)] → W p l e { frames := 1, cells := 0, slots := 0, locals := 21 } s m ([.ref (ad 8), .int (nI i), .int 3] : List Value).toArray below meth c H locs 0 0 (MQ below (hQi (fun r ct1 => r = (stateR (tyM ks) A (zTS tk) L i (3)).1 ∧ RM G ad ct1 n ks A tk L ((stateR (tyM ks) A (zTS tk) L i (3)).2) ∧ agX ct1 ct) G ad) ([.ref (ad 8), .int (nI i), .int 3] : List Value).toArray s 0 0 (hA G.2.2.2)) (F0 m 80 ls []) := by
          intro rem
          induction rem with
          | zero =>
            intro k z ct1 H locs ls hnk hv hR hag0 hW hS hl
            obtain ⟨⟨fr, pd, fb, fa, fx, pl, h8, h19, h20, h29, h32, h33, h34, h35⟩, ⟨h10, h11, h12, h15, h18⟩, ⟨h13, h16, h17, h21, h23, h24, rw_, an, ii, h26, h27, h28⟩, hn300, hm400, hlks, hks⟩ := id hR
            refine lv_iload hx hb dX5_state_80 (lv_at hl 0 rfl) ?_
            refine lv_aload_n hx hb dX5_state_82 rfl (lv_at hl 2 rfl) ?_
            refine hr_get S hE hW h8 inX5 (C := RX5) (T := TX5) (N := 28) rfl 15 (by decide) q_f_5_160 rfl dX5_state_83 ?_
            refine lv_icmp_ge (tgt := 124) hx hb dX5_state_86 (by decide) (fun _ => ?_) (fun q => absurd (nI_le (by omega) (by omega)) q)
            refine lv_iload_n hx hb dX5_state_124 rfl (lv_at hl 1 rfl) ?_
            exact h_iret S hr hlk hS hW dX5_state_125 ⟨by rw [sR_3, hv, show k = L.1 by omega], by rw [stateR_in (w := 3) (by decide) (by decide)]; exact ⟨⟨_, _, _, _, _, _, h8, h19, h20, h29, h32, h33, h34, h35⟩, ⟨h10, h11, h12, h15, h18⟩, ⟨h13, h16, h17, h21, h23, h24, _, _, _, h26, h27, h28⟩, hn300, hm400, hlks, hks⟩, (fun j hj => (hag0 j hj))⟩
          | succ rem ih =>
            intro k z ct1 H locs ls hnk hv hR hag0 hW hS hl
            obtain ⟨⟨fr, pd, fb, fa, fx, pl, h8, h19, h20, h29, h32, h33, h34, h35⟩, ⟨h10, h11, h12, h15, h18⟩, ⟨h13, h16, h17, h21, h23, h24, rw_, an, ii, h26, h27, h28⟩, hn300, hm400, hlks, hks⟩ := id hR
            refine lv_iload hx hb dX5_state_80 (lv_at hl 0 rfl) ?_
            refine lv_aload_n hx hb dX5_state_82 rfl (lv_at hl 2 rfl) ?_
            refine hr_get S hE hW h8 inX5 (C := RX5) (T := TX5) (N := 28) rfl 15 (by decide) q_f_5_160 rfl dX5_state_83 ?_
            refine lv_icmp_ge (tgt := 124) hx hb dX5_state_86 (by decide) (fun q => absurd q (nI_ge (by omega) (by omega))) (fun _ => ?_)
            refine lv_iload_n hx hb dX5_state_89 rfl (lv_at hl 4 rfl) ?_
            refine lv_iconst (v := 3) hx hb dX5_state_90 (by decide) ?_
            refine lv_icmp_ne (tgt := 104) hx hb dX5_state_91 (by decide) (fun q => absurd (by decide) q) (fun _ => ?_)
            refine lv_aload_n hx hb dX5_state_94 rfl (lv_at hl 2 rfl) ?_
            refine hr_get S hE hW h8 inX5 (C := RX5) (T := TX5) (N := 28) rfl 13 (by decide) q_f_5_46 rfl dX5_state_95 ?_
            refine lv_iload hx hb dX5_state_98 (lv_at hl 0 rfl) ?_
            refine hr_ialdk S hE hW h23 (j := k) rfl (by omega) (by decide) dX5_state_100 ?_
            rw [kdM_at]
            refine lv_goto (tgt := 111) hx hb dX5_state_101 (by decide) ?_
            refine lv_iload_n hx hb dX5_state_111 rfl (lv_at hl 3 rfl) ?_
            refine lv_icmp_ne (tgt := 118) hx hb dX5_state_112 (by decide) (fun c_112 => ?_) (fun c_112 => ?_)
            · refine lv_iinc (v := (nI (k + 1))) (lv' := [(4, .int (nI (k + 1))), (3, .int z), (0, .ref (ad 8)), (1, .int (nI i)), (2, .int 3)]) hx hb dX5_state_118 hl (k := 0) rfl (nI_1 k) (by decide) rfl (fun ls hl => ?_)
              refine lv_goto (tgt := 80) hx hb dX5_state_121 (by decide) ?_
              exact ih (k + 1) z _ _ _ _ (by omega) (by show _ = nI (cntL L.2.1 i k + (if L.2.1 k = i then 1 else 0)); rw [if_neg (fun q => c_112 (by rw [q])), hv]; rfl) hR (fun j hj => (hag0 j hj)) hW hS (lv_sub hl [0, 1, 2, 3, 4] rfl)
            · refine lv_iinc (v := (z + 1)) (lv' := [(3, .int (z + 1)), (4, .int (nI k)), (0, .ref (ad 8)), (1, .int (nI i)), (2, .int 3)]) hx hb dX5_state_115 hl (k := 1) rfl rfl (by decide) rfl (fun ls hl => ?_)
              refine lv_iinc (v := (nI (k + 1))) (lv' := [(4, .int (nI (k + 1))), (3, .int (z + 1)), (0, .ref (ad 8)), (1, .int (nI i)), (2, .int 3)]) hx hb dX5_state_118 hl (k := 1) rfl (nI_1 k) (by decide) rfl (fun ls hl => ?_)
              refine lv_goto (tgt := 80) hx hb dX5_state_121 (by decide) ?_
              exact ih (k + 1) (z + 1) _ _ _ _ (by omega) (by show _ = nI (cntL L.2.1 i k + (if L.2.1 k = i then 1 else 0)); rw [if_pos (nI_eqN (by have := hlks k (by omega); omega) (by omega) c_112), hv, nI_1]) hR (fun j hj => (hag0 j hj)) hW hS (lv_sub hl [0, 1, 2, 3, 4] rfl)
        exact loop L.1 0 0 _ _ _ _ (by omega) rfl hR (fun j hj => (hg_82 j (by omega))) hW hS (lv_sub hl [0, 1, 2, 3, 4] rfl)
      · refine lv_aload_n hx hb dX5_state_23 rfl (lv_at hl 0 rfl) ?_
        refine lv_iconst (v := 0) hx hb dX5_state_24 (by decide) ?_
        refine hr_put S hE hW hS h8 inX5 (C := RX5) (T := TX5) (N := 28) tyX5_ok nmX5 rfl 21 (by decide) q_f_5_126 rfl rfl rfl (Nat.le_of_ble_eq_true rfl) dX5_state_25 (fun H locs ct_105 hW hk_106 hg_107 hz hS => ?_)
        have h_108 := (hg_107 10 (by decide)).trans h10
        have h_109 := (hg_107 11 (by decide)).trans h11
        have h_110 := (hg_107 12 (by decide)).trans h12
        have h_111 := (hg_107 13 (by decide)).trans h13
        have h_112 := (hg_107 15 (by decide)).trans h15
        have h_113 := (hg_107 16 (by decide)).trans h16
        have h_114 := (hg_107 17 (by decide)).trans h17
        have h_115 := (hg_107 18 (by decide)).trans h18
        have h_116 := (hg_107 19 (by decide)).trans h19
        have h_117 := (hg_107 20 (by decide)).trans h20
        have h_118 := (hg_107 21 (by decide)).trans h21
        have h_119 := (hg_107 23 (by decide)).trans h23
        have h_120 := (hg_107 24 (by decide)).trans h24
        have h_121 := (hg_107 26 (by decide)).trans h26
        have h_122 := (hg_107 27 (by decide)).trans h27
        have h_123 := (hg_107 28 (by decide)).trans h28
        have h_124 := (hg_107 29 (by decide)).trans h29
        have h_125 := (hg_107 32 (by decide)).trans h32
        have h_126 := (hg_107 33 (by decide)).trans h33
        have h_127 := (hg_107 34 (by decide)).trans h34
        have h_128 := (hg_107 35 (by decide)).trans h35
        have h_129 : ct_105 8 = some (.inr (5, [.ref (ad 10), .ref (ad 11), .ref (ad 12), .ref (ad 13), .ref (ad 14), .ref (ad 15), .ref (ad 16), .ref (ad 17), .ref (ad 18), .ref (ad 19), .ref (ad 20), .ref (ad 21), .int (nI n), .ref (ad 23), .ref (ad 24), .int (nI L.1), .ref (ad 26), .ref (ad 27), .ref (ad 28), .ref (ad 29), .int A.2.2.1, .int 0, .ref (ad 32), .ref (ad 33), .ref (ad 34), .ref (ad 35), .int fr, .int pd])) := hk_106
        refine lv_iload_n hx hb dX5_state_28 rfl (lv_at hl 2 rfl) ?_
        refine lv_if_ne (tgt := 39) hx hb dX5_state_29 (by decide) (fun _ => ?_) (fun q => absurd q (by decide))
        refine lv_iload_n hx hb dX5_state_39 rfl (lv_at hl 2 rfl) ?_
        refine lv_iconst (v := 1) hx hb dX5_state_40 (by decide) ?_
        refine lv_icmp_ne (tgt := 51) hx hb dX5_state_41 (by decide) (fun _ => ?_) (fun q => absurd q (by decide))
        refine lv_iload_n hx hb dX5_state_51 rfl (lv_at hl 2 rfl) ?_
        refine lv_iconst (v := 2) hx hb dX5_state_52 (by decide) ?_
        refine lv_icmp_ne (tgt := 63) hx hb dX5_state_53 (by decide) (fun _ => ?_) (fun q => absurd q (by decide))
        refine lv_iload_n hx hb dX5_state_63 rfl (lv_at hl 2 rfl) ?_
        refine lv_iconst (v := 5) hx hb dX5_state_64 (by decide) ?_
        refine lv_icmp_ne (tgt := 75) hx hb dX5_state_65 (by decide) (fun _ => ?_) (fun q => absurd q (by decide))
        refine lv_iconst (v := 0) hx hb dX5_state_75 (by decide) ?_
        refine lv_istore_n (lv' := [(3, .int 0), (0, .ref (ad 8)), (1, .int (nI i)), (2, .int 4)]) hx hb dX5_state_76 rfl hl (by decide) rfl (fun ls hl => ?_)
        refine lv_iconst (v := 0) hx hb dX5_state_77 (by decide) ?_
        refine lv_istore (lv' := [(4, .int 0), (3, .int 0), (0, .ref (ad 8)), (1, .int (nI i)), (2, .int 4)]) hx hb dX5_state_78 hl (by decide) rfl (fun ls hl => ?_)
        have hR0 : RM G ad ct_105 n ks A tk L 0 := ⟨⟨_, _, _, _, _, _, h_129, h_116, h_117, h_124, h_125, h_126, h_127, h_128⟩, ⟨h_108, h_109, h_110, h_112, h_115⟩, ⟨h_111, h_113, h_114, h_118, h_119, h_120, _, _, _, h_121, h_122, h_123⟩, hn300, hm400, hlks, hks⟩
        replace hR := hR0
        have loop : ∀ (rem k : Nat) (z : Int32) (ct1 : Nat → Option va_E) (H : Heap) (locs : List Loc) (ls : Array Slot), k + rem = L.1 → (z = nI (cntL L.2.2 i k)) → RM G ad ct1 n ks A tk L 0 → agX ct1 ct → hw G ad ct1 H → va_S (hA G.2.2.2) s.heap H locs → lv_has ls 5 [(4, .int (nI k)), (3, .int z), (0, .ref (ad 8)), (1, .int (nI i)), (2, .int 4)] → W p l e { frames := 1, cells := 0, slots := 0, locals := 21 } s m ([.ref (ad 8), .int (nI i), .int 4] : List Value).toArray below meth c H locs 0 0 (MQ below (hQi (fun r ct1 => r = (stateR (tyM ks) A (zTS tk) L i (4)).1 ∧ RM G ad ct1 n ks A tk L ((stateR (tyM ks) A (zTS tk) L i (4)).2) ∧ agX ct1 ct) G ad) ([.ref (ad 8), .int (nI i), .int 4] : List Value).toArray s 0 0 (hA G.2.2.2)) (F0 m 80 ls []) := by
          intro rem
          induction rem with
          | zero =>
            intro k z ct1 H locs ls hnk hv hR hag0 hW hS hl
            obtain ⟨⟨fr, pd, fb, fa, fx, pl, h8, h19, h20, h29, h32, h33, h34, h35⟩, ⟨h10, h11, h12, h15, h18⟩, ⟨h13, h16, h17, h21, h23, h24, rw_, an, ii, h26, h27, h28⟩, hn300, hm400, hlks, hks⟩ := id hR
            refine lv_iload hx hb dX5_state_80 (lv_at hl 0 rfl) ?_
            refine lv_aload_n hx hb dX5_state_82 rfl (lv_at hl 2 rfl) ?_
            refine hr_get S hE hW h8 inX5 (C := RX5) (T := TX5) (N := 28) rfl 15 (by decide) q_f_5_160 rfl dX5_state_83 ?_
            refine lv_icmp_ge (tgt := 124) hx hb dX5_state_86 (by decide) (fun _ => ?_) (fun q => absurd (nI_le (by omega) (by omega)) q)
            refine lv_iload_n hx hb dX5_state_124 rfl (lv_at hl 1 rfl) ?_
            exact h_iret S hr hlk hS hW dX5_state_125 ⟨by rw [sR_4, hv, show k = L.1 by omega], by rw [stateR_in (w := 4) (by decide) (by decide)]; exact ⟨⟨_, _, _, _, _, _, h8, h19, h20, h29, h32, h33, h34, h35⟩, ⟨h10, h11, h12, h15, h18⟩, ⟨h13, h16, h17, h21, h23, h24, _, _, _, h26, h27, h28⟩, hn300, hm400, hlks, hks⟩, (fun j hj => (hag0 j hj))⟩
          | succ rem ih =>
            intro k z ct1 H locs ls hnk hv hR hag0 hW hS hl
            obtain ⟨⟨fr, pd, fb, fa, fx, pl, h8, h19, h20, h29, h32, h33, h34, h35⟩, ⟨h10, h11, h12, h15, h18⟩, ⟨h13, h16, h17, h21, h23, h24, rw_, an, ii, h26, h27, h28⟩, hn300, hm400, hlks, hks⟩ := id hR
            refine lv_iload hx hb dX5_state_80 (lv_at hl 0 rfl) ?_
            refine lv_aload_n hx hb dX5_state_82 rfl (lv_at hl 2 rfl) ?_
            refine hr_get S hE hW h8 inX5 (C := RX5) (T := TX5) (N := 28) rfl 15 (by decide) q_f_5_160 rfl dX5_state_83 ?_
            refine lv_icmp_ge (tgt := 124) hx hb dX5_state_86 (by decide) (fun q => absurd q (nI_ge (by omega) (by omega))) (fun _ => ?_)
            refine lv_iload_n hx hb dX5_state_89 rfl (lv_at hl 4 rfl) ?_
            refine lv_iconst (v := 3) hx hb dX5_state_90 (by decide) ?_
            refine lv_icmp_ne (tgt := 104) hx hb dX5_state_91 (by decide) (fun _ => ?_) (fun q => absurd q (by decide))
            refine lv_aload_n hx hb dX5_state_104 rfl (lv_at hl 2 rfl) ?_
            refine hr_get S hE hW h8 inX5 (C := RX5) (T := TX5) (N := 28) rfl 14 (by decide) q_f_5_49 rfl dX5_state_105 ?_
            refine lv_iload hx hb dX5_state_108 (lv_at hl 0 rfl) ?_
            refine hr_ialdk S hE hW h24 (j := k) rfl (by omega) (by decide) dX5_state_110 ?_
            rw [kdM_at]
            refine lv_iload_n hx hb dX5_state_111 rfl (lv_at hl 3 rfl) ?_
            refine lv_icmp_ne (tgt := 118) hx hb dX5_state_112 (by decide) (fun c_112 => ?_) (fun c_112 => ?_)
            · refine lv_iinc (v := (nI (k + 1))) (lv' := [(4, .int (nI (k + 1))), (3, .int z), (0, .ref (ad 8)), (1, .int (nI i)), (2, .int 4)]) hx hb dX5_state_118 hl (k := 0) rfl (nI_1 k) (by decide) rfl (fun ls hl => ?_)
              refine lv_goto (tgt := 80) hx hb dX5_state_121 (by decide) ?_
              exact ih (k + 1) z _ _ _ _ (by omega) (by show _ = nI (cntL L.2.2 i k + (if L.2.2 k = i then 1 else 0)); rw [if_neg (fun q => c_112 (by rw [q])), hv]; rfl) hR (fun j hj => (hag0 j hj)) hW hS (lv_sub hl [0, 1, 2, 3, 4] rfl)
            · refine lv_iinc (v := (z + 1)) (lv' := [(3, .int (z + 1)), (4, .int (nI k)), (0, .ref (ad 8)), (1, .int (nI i)), (2, .int 4)]) hx hb dX5_state_115 hl (k := 1) rfl rfl (by decide) rfl (fun ls hl => ?_)
              refine lv_iinc (v := (nI (k + 1))) (lv' := [(4, .int (nI (k + 1))), (3, .int (z + 1)), (0, .ref (ad 8)), (1, .int (nI i)), (2, .int 4)]) hx hb dX5_state_118 hl (k := 1) rfl (nI_1 k) (by decide) rfl (fun ls hl => ?_)
              refine lv_goto (tgt := 80) hx hb dX5_state_121 (by decide) ?_
              exact ih (k + 1) (z + 1) _ _ _ _ (by omega) (by show _ = nI (cntL L.2.2 i k + (if L.2.2 k = i then 1 else 0)); rw [if_pos (nI_eqN (by have := hlks k (by omega); omega) (by omega) c_112), hv, nI_1]) hR (fun j hj => (hag0 j hj)) hW hS (lv_sub hl [0, 1, 2, 3, 4] rfl)
        exact loop L.1 0 0 _ _ _ _ (by omega) rfl hR (fun j hj => (hg_107 j (by omega))) hW hS (lv_sub hl [0, 1, 2, 3, 4] rfl)
      · refine lv_aload_n hx hb dX5_state_23 rfl (lv_at hl 0 rfl) ?_
        refine lv_iconst (v := 0) hx hb dX5_state_24 (by decide) ?_
        refine hr_put S hE hW hS h8 inX5 (C := RX5) (T := TX5) (N := 28) tyX5_ok nmX5 rfl 21 (by decide) q_f_5_126 rfl rfl rfl (Nat.le_of_ble_eq_true rfl) dX5_state_25 (fun H locs ct_130 hW hk_131 hg_132 hz hS => ?_)
        have h_133 := (hg_132 10 (by decide)).trans h10
        have h_134 := (hg_132 11 (by decide)).trans h11
        have h_135 := (hg_132 12 (by decide)).trans h12
        have h_136 := (hg_132 13 (by decide)).trans h13
        have h_137 := (hg_132 15 (by decide)).trans h15
        have h_138 := (hg_132 16 (by decide)).trans h16
        have h_139 := (hg_132 17 (by decide)).trans h17
        have h_140 := (hg_132 18 (by decide)).trans h18
        have h_141 := (hg_132 19 (by decide)).trans h19
        have h_142 := (hg_132 20 (by decide)).trans h20
        have h_143 := (hg_132 21 (by decide)).trans h21
        have h_144 := (hg_132 23 (by decide)).trans h23
        have h_145 := (hg_132 24 (by decide)).trans h24
        have h_146 := (hg_132 26 (by decide)).trans h26
        have h_147 := (hg_132 27 (by decide)).trans h27
        have h_148 := (hg_132 28 (by decide)).trans h28
        have h_149 := (hg_132 29 (by decide)).trans h29
        have h_150 := (hg_132 32 (by decide)).trans h32
        have h_151 := (hg_132 33 (by decide)).trans h33
        have h_152 := (hg_132 34 (by decide)).trans h34
        have h_153 := (hg_132 35 (by decide)).trans h35
        have h_154 : ct_130 8 = some (.inr (5, [.ref (ad 10), .ref (ad 11), .ref (ad 12), .ref (ad 13), .ref (ad 14), .ref (ad 15), .ref (ad 16), .ref (ad 17), .ref (ad 18), .ref (ad 19), .ref (ad 20), .ref (ad 21), .int (nI n), .ref (ad 23), .ref (ad 24), .int (nI L.1), .ref (ad 26), .ref (ad 27), .ref (ad 28), .ref (ad 29), .int A.2.2.1, .int 0, .ref (ad 32), .ref (ad 33), .ref (ad 34), .ref (ad 35), .int fr, .int pd])) := hk_131
        refine lv_iload_n hx hb dX5_state_28 rfl (lv_at hl 2 rfl) ?_
        refine lv_if_ne (tgt := 39) hx hb dX5_state_29 (by decide) (fun _ => ?_) (fun q => absurd q (by decide))
        refine lv_iload_n hx hb dX5_state_39 rfl (lv_at hl 2 rfl) ?_
        refine lv_iconst (v := 1) hx hb dX5_state_40 (by decide) ?_
        refine lv_icmp_ne (tgt := 51) hx hb dX5_state_41 (by decide) (fun _ => ?_) (fun q => absurd q (by decide))
        refine lv_iload_n hx hb dX5_state_51 rfl (lv_at hl 2 rfl) ?_
        refine lv_iconst (v := 2) hx hb dX5_state_52 (by decide) ?_
        refine lv_icmp_ne (tgt := 63) hx hb dX5_state_53 (by decide) (fun _ => ?_) (fun q => absurd q (by decide))
        refine lv_iload_n hx hb dX5_state_63 rfl (lv_at hl 2 rfl) ?_
        refine lv_iconst (v := 5) hx hb dX5_state_64 (by decide) ?_
        refine lv_icmp_ne (tgt := 75) hx hb dX5_state_65 (by decide) (fun q => absurd (by decide) q) (fun _ => ?_)
        refine lv_aload_n hx hb dX5_state_68 rfl (lv_at hl 0 rfl) ?_
        refine hr_get S hE hW h_154 inX5 (C := RX5) (T := TX5) (N := 28) rfl 11 (by decide) q_f_5_43 rfl dX5_state_69 ?_
        refine lv_iload_n hx hb dX5_state_72 rfl (lv_at hl 1 rfl) ?_
        refine hr_ialdk S hE hW h_143 (j := i) rfl (show i < 300 by omega) (by decide) dX5_state_73 ?_
        exact h_iret S hr hlk hS hW dX5_state_74 ⟨sR_5.symm, by rw [stateR_in (w := 5) (by decide) (by decide)]; exact ⟨⟨_, _, _, _, _, _, h_154, h_141, h_142, h_149, h_150, h_151, h_152, h_153⟩, ⟨h_133, h_134, h_135, h_137, h_140⟩, ⟨h_136, h_138, h_139, h_143, h_144, h_145, _, _, _, h_146, h_147, h_148⟩, hn300, hm400, hlks, hks⟩, (fun j hj => (hg_132 j (by omega)))⟩
    · refine lv_aload_n hx hb dX5_state_17 rfl (lv_at hl 0 rfl) ?_
      refine lv_iconst (v := 1) hx hb dX5_state_18 (by decide) ?_
      refine hc_i (va_runV (As := [.int 1]) (rest := []) S (c_X5_refused l G ad _ hR 1) (cwV 1 hts (gWSV q_l_5_151 q_im_X5_refused q_se_X5_refused q_in_5 q_co_X5_refused) rfl rfl rfl (by decide +kernel) ⟨Nat.le_of_ble_eq_true rfl, Nat.le_of_ble_eq_true rfl⟩) (hPreVw hE hS (hrecv hE hW h8 (q := (RX5, TX5, 28)) rfl) hW) rfl rfl hl.1 rfl (lv_room (Nat.le_of_ble_eq_true rfl)) dX5_state_19 ⟨Nat.le_of_ble_eq_true rfl, Nat.le_of_ble_eq_true rfl⟩) hS (fun rv_157 ct_155 H locs hp hW hS => ?_)
      obtain ⟨ev_158, hR, hag_156⟩ := hp
      rw [ev_158]
      obtain ⟨⟨fr, pd, fb, fa, fx, pl, h8, h19, h20, h29, h32, h33, h34, h35⟩, ⟨h10, h11, h12, h15, h18⟩, ⟨h13, h16, h17, h21, h23, h24, rw_, an, ii, h26, h27, h28⟩, hn300, hm400, hlks, hks⟩ := id hR
      exact h_iret S hr hlk hS hW dX5_state_22 ⟨by rw [stateR, if_neg c_9, if_neg (fun q : what < 6 => c_14 (Int32.not_lt.mp (fun q2 => absurd q (st_no q2))))], by rw [stateR, if_neg c_9, if_neg (fun q : what < 6 => c_14 (Int32.not_lt.mp (fun q2 => absurd q (st_no q2))))]; exact hR, (fun j hj => (hag_156 j hj))⟩
set_option maxRecDepth 100000 in
set_option maxHeartbeats 4000000 in
theorem c_X5_state_no (l : Launch) (G : hG) (ad : Nat → Nat) (ct : Nat → Option va_E) {n : Nat} {ks : Nat → Nat} {A : AS} {tk : Nat → Int32} {L : LS4} {st0 : Int32} (hR : RM G ad ct n ks A tk L st0) {d : Int32} (hd : ∀ i, i < n → d ≠ nI i) (what : Int32)  : Met l yX5_state wzX5_state { frames := 1, cells := 0, slots := 0, locals := 21 } (hPw [.ref (ad 8), .int d, .int what] G ad ct) (hQi (fun r ct1 => r = 0 ∧ RM G ad ct1 n ks A tk L 1 ∧ agX ct1 ct) G ad) 0 0 (hA G.2.2.2) := by
  refine hMetw (by decide) (Nat.le_of_ble_eq_true rfl) (fun p e s m below meth c ls S hr hlk hE hW hl => ?_)
  obtain ⟨hx, hb, hml, hown, hts⟩ := id S
  have hS : va_S (hA G.2.2.2) s.heap s.heap [] := va_S.rf
  have hl : lv_has ls 5 [(0, .ref (ad 8)), (1, .int d), (2, .int what)] := hl
  obtain ⟨⟨fr, pd, fb, fa, fx, pl, h8, h19, h20, h29, h32, h33, h34, h35⟩, ⟨h10, h11, h12, h15, h18⟩, ⟨h13, h16, h17, h21, h23, h24, rw_, an, ii, h26, h27, h28⟩, hn300, hm400, hlks, hks⟩ := id hR
  refine lv_aload_n hx hb dX5_state_0 rfl (lv_at hl 0 rfl) ?_
  refine lv_iload_n hx hb dX5_state_1 rfl (lv_at hl 1 rfl) ?_
  refine hc_r (va_runV (As := [.int d]) (rest := []) S (c_X5_isDevice l G _ hW hR d) (cwV 1 hts (gWSV q_l_5_129 q_im_X5_isDevice q_se_X5_isDevice q_in_5 q_co_X5_isDevice) rfl rfl rfl (by decide +kernel) ⟨Nat.le_of_ble_eq_true rfl, Nat.le_of_ble_eq_true rfl⟩) (hPreVr hE hS (hrecv hE hW h8 (q := (RX5, TX5, 28)) rfl)) rfl rfl hl.1 rfl (lv_room (Nat.le_of_ble_eq_true rfl)) dX5_state_2 ⟨Nat.le_of_ble_eq_true rfl, Nat.le_of_ble_eq_true rfl⟩) hS (fun locs hS => ?_)
  refine lv_if_eq (tgt := 17) hx hb dX5_state_5 (by decide) (fun _ => ?_) (fun q => absurd (isDevF_no hn300 hd) q)
  refine lv_aload_n hx hb dX5_state_17 rfl (lv_at hl 0 rfl) ?_
  refine lv_iconst (v := 1) hx hb dX5_state_18 (by decide) ?_
  refine hc_i (va_runV (As := [.int 1]) (rest := []) S (c_X5_refused l G ad _ hR 1) (cwV 1 hts (gWSV q_l_5_151 q_im_X5_refused q_se_X5_refused q_in_5 q_co_X5_refused) rfl rfl rfl (by decide +kernel) ⟨Nat.le_of_ble_eq_true rfl, Nat.le_of_ble_eq_true rfl⟩) (hPreVw hE hS (hrecv hE hW h8 (q := (RX5, TX5, 28)) rfl) hW) rfl rfl hl.1 rfl (lv_room (Nat.le_of_ble_eq_true rfl)) dX5_state_19 ⟨Nat.le_of_ble_eq_true rfl, Nat.le_of_ble_eq_true rfl⟩) hS (fun rv_3 ct_1 H locs hp hW hS => ?_)
  obtain ⟨ev_4, hR, hag_2⟩ := hp
  rw [ev_4]
  obtain ⟨⟨fr, pd, fb, fa, fx, pl, h8, h19, h20, h29, h32, h33, h34, h35⟩, ⟨h10, h11, h12, h15, h18⟩, ⟨h13, h16, h17, h21, h23, h24, rw_, an, ii, h26, h27, h28⟩, hn300, hm400, hlks, hks⟩ := id hR
  exact h_iret S hr hlk hS hW dX5_state_22 ⟨rfl, hR, (fun j hj => (hag_2 j hj))⟩
