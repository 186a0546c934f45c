set_option maxRecDepth 100000 in
set_option maxHeartbeats 4000000 in
theorem c_X5_refused (l : Launch) (G : hG) (ad : Nat → Nat) (ct : Nat → Option va_E) {n : Nat} {ks : Nat → Nat} {A : AS} {tk : Nat → Int32} {L : LS4} {st0 : Int32} (hR : RM G ad ct n ks A tk L st0) (why : Int32)  : Met l yX5_refused wzX5_refused { frames := 0, cells := 0, slots := 0, locals := 0 } (hPw [.ref (ad 8), .int why] G ad ct) (hQi (fun r ct1 => r = 0 ∧ RM G ad ct1 n ks A tk L why ∧ agX ct1 ct) G ad) 0 0 (hA G.2.2.2) := by
  refine hMetw (by decide) (Nat.le_of_ble_eq_true rfl) (fun p e s m below meth c ls S hr hlk hE hW hl => ?_)
  obtain ⟨hx, hb, hml, hown, hts⟩ := id S
  have hS : va_S (hA G.2.2.2) s.heap s.heap [] := va_S.rf
  have hl : lv_has ls 2 [(0, .ref (ad 8)), (1, .int why)] := hl
  obtain ⟨⟨fr, pd, fb, fa, fx, pl, h8, h19, h20, h29, h32, h33, h34, h35⟩, ⟨h10, h11, h12, h15, h18⟩, ⟨h13, h16, h17, h21, h23, h24, rw_, an, ii, h26, h27, h28⟩, hn300, hm400, hlks, hks⟩ := id hR
  refine lv_aload_n hx hb dX5_refused_0 rfl (lv_at hl 0 rfl) ?_
  refine lv_iload_n hx hb dX5_refused_1 rfl (lv_at hl 1 rfl) ?_
  refine hr_put S hE hW hS h8 inX5 (C := RX5) (T := TX5) (N := 28) tyX5_ok nmX5 rfl 21 (by decide) q_f_5_126 rfl rfl rfl (Nat.le_of_ble_eq_true rfl) dX5_refused_2 (fun H locs ct_1 hW hk_2 hg_3 hz hS => ?_)
  have h_4 := (hg_3 10 (by decide)).trans h10
  have h_5 := (hg_3 11 (by decide)).trans h11
  have h_6 := (hg_3 12 (by decide)).trans h12
  have h_7 := (hg_3 13 (by decide)).trans h13
  have h_8 := (hg_3 15 (by decide)).trans h15
  have h_9 := (hg_3 16 (by decide)).trans h16
  have h_10 := (hg_3 17 (by decide)).trans h17
  have h_11 := (hg_3 18 (by decide)).trans h18
  have h_12 := (hg_3 19 (by decide)).trans h19
  have h_13 := (hg_3 20 (by decide)).trans h20
  have h_14 := (hg_3 21 (by decide)).trans h21
  have h_15 := (hg_3 23 (by decide)).trans h23
  have h_16 := (hg_3 24 (by decide)).trans h24
  have h_17 := (hg_3 26 (by decide)).trans h26
  have h_18 := (hg_3 27 (by decide)).trans h27
  have h_19 := (hg_3 28 (by decide)).trans h28
  have h_20 := (hg_3 29 (by decide)).trans h29
  have h_21 := (hg_3 32 (by decide)).trans h32
  have h_22 := (hg_3 33 (by decide)).trans h33
  have h_23 := (hg_3 34 (by decide)).trans h34
  have h_24 := (hg_3 35 (by decide)).trans h35
  have h_25 : ct_1 8 = some (.inr (5, [.ref (ad 10), .ref (ad 11), .ref (ad 12), .ref (ad 13), .ref (ad 14), .ref (ad 15), .ref (ad 16), .ref (ad 17), .ref (ad 18), .ref (ad 19), .ref (ad 20), .ref (ad 21), .int (nI n), .ref (ad 23), .ref (ad 24), .int (nI L.1), .ref (ad 26), .ref (ad 27), .ref (ad 28), .ref (ad 29), .int A.2.2.1, .int why, .ref (ad 32), .ref (ad 33), .ref (ad 34), .ref (ad 35), .int fr, .int pd])) := hk_2
  refine lv_iconst (v := 0) hx hb dX5_refused_5 (by decide) ?_
  exact h_iret S hr hlk hS hW dX5_refused_6 ⟨rfl, ⟨⟨_, _, _, _, _, _, h_25, h_12, h_13, h_20, h_21, h_22, h_23, h_24⟩, ⟨h_4, h_5, h_6, h_8, h_11⟩, ⟨h_7, h_9, h_10, h_14, h_15, h_16, _, _, _, h_17, h_18, h_19⟩, hn300, hm400, hlks, hks⟩, (fun j hj => (hg_3 j (by omega)))⟩
set_option maxRecDepth 100000 in
set_option maxHeartbeats 4000000 in
theorem c_X5_begin (l : Launch) (G : hG) (ad : Nat → Nat) (ct : Nat → Option va_E) {n : Nat} {ks : Nat → Nat} {A : AS} {tk : Nat → Int32} {L : LS4} {st0 : Int32} (hR : RM G ad ct n ks A tk L st0)   : Met l yX5_begin wzX5_begin { frames := 0, cells := 0, slots := 0, locals := 0 } (hPw [.ref (ad 8)] G ad ct) (hQv (fun ct1 => RM G ad ct1 n ks (clrA A) tk L 0 ∧ agX ct1 ct) G ad) 0 0 (hA G.2.2.2) := by
  refine hMetw (by decide) (Nat.le_of_ble_eq_true rfl) (fun p e s m below meth c ls S hr hlk hE hW hl => ?_)
  obtain ⟨hx, hb, hml, hown, hts⟩ := id S
  have hS : va_S (hA G.2.2.2) s.heap s.heap [] := va_S.rf
  have hl : lv_has ls 1 [(0, .ref (ad 8))] := hl
  obtain ⟨⟨fr, pd, fb, fa, fx, pl, h8, h19, h20, h29, h32, h33, h34, h35⟩, ⟨h10, h11, h12, h15, h18⟩, ⟨h13, h16, h17, h21, h23, h24, rw_, an, ii, h26, h27, h28⟩, hn300, hm400, hlks, hks⟩ := id hR
  refine lv_aload_n hx hb dX5_begin_0 rfl (lv_at hl 0 rfl) ?_
  refine lv_iconst (v := 0) hx hb dX5_begin_1 (by decide) ?_
  refine hr_put S hE hW hS h8 inX5 (C := RX5) (T := TX5) (N := 28) tyX5_ok nmX5 rfl 21 (by decide) q_f_5_126 rfl rfl rfl (Nat.le_of_ble_eq_true rfl) dX5_begin_2 (fun H locs ct_1 hW hk_2 hg_3 hz hS => ?_)
  have h_4 := (hg_3 10 (by decide)).trans h10
  have h_5 := (hg_3 11 (by decide)).trans h11
  have h_6 := (hg_3 12 (by decide)).trans h12
  have h_7 := (hg_3 13 (by decide)).trans h13
  have h_8 := (hg_3 15 (by decide)).trans h15
  have h_9 := (hg_3 16 (by decide)).trans h16
  have h_10 := (hg_3 17 (by decide)).trans h17
  have h_11 := (hg_3 18 (by decide)).trans h18
  have h_12 := (hg_3 19 (by decide)).trans h19
  have h_13 := (hg_3 20 (by decide)).trans h20
  have h_14 := (hg_3 21 (by decide)).trans h21
  have h_15 := (hg_3 23 (by decide)).trans h23
  have h_16 := (hg_3 24 (by decide)).trans h24
  have h_17 := (hg_3 26 (by decide)).trans h26
  have h_18 := (hg_3 27 (by decide)).trans h27
  have h_19 := (hg_3 28 (by decide)).trans h28
  have h_20 := (hg_3 29 (by decide)).trans h29
  have h_21 := (hg_3 32 (by decide)).trans h32
  have h_22 := (hg_3 33 (by decide)).trans h33
  have h_23 := (hg_3 34 (by decide)).trans h34
  have h_24 := (hg_3 35 (by decide)).trans h35
  have h_25 : ct_1 8 = some (.inr (5, [.ref (ad 10), .ref (ad 11), .ref (ad 12), .ref (ad 13), .ref (ad 14), .ref (ad 15), .ref (ad 16), .ref (ad 17), .ref (ad 18), .ref (ad 19), .ref (ad 20), .ref (ad 21), .int (nI n), .ref (ad 23), .ref (ad 24), .int (nI L.1), .ref (ad 26), .ref (ad 27), .ref (ad 28), .ref (ad 29), .int A.2.2.1, .int 0, .ref (ad 32), .ref (ad 33), .ref (ad 34), .ref (ad 35), .int fr, .int pd])) := hk_2
  refine lv_aload_n hx hb dX5_begin_5 rfl (lv_at hl 0 rfl) ?_
  refine lv_iconst (v := 0) hx hb dX5_begin_6 (by decide) ?_
  refine hr_put S hE hW hS h_25 inX5 (C := RX5) (T := TX5) (N := 28) tyX5_ok nmX5 rfl 20 (by decide) q_f_5_102 rfl rfl rfl (Nat.le_of_ble_eq_true rfl) dX5_begin_7 (fun H locs ct_26 hW hk_27 hg_28 hz hS => ?_)
  have h_29 := (hg_28 10 (by decide)).trans h_4
  have h_30 := (hg_28 11 (by decide)).trans h_5
  have h_31 := (hg_28 12 (by decide)).trans h_6
  have h_32 := (hg_28 13 (by decide)).trans h_7
  have h_33 := (hg_28 15 (by decide)).trans h_8
  have h_34 := (hg_28 16 (by decide)).trans h_9
  have h_35 := (hg_28 17 (by decide)).trans h_10
  have h_36 := (hg_28 18 (by decide)).trans h_11
  have h_37 := (hg_28 19 (by decide)).trans h_12
  have h_38 := (hg_28 20 (by decide)).trans h_13
  have h_39 := (hg_28 21 (by decide)).trans h_14
  have h_40 := (hg_28 23 (by decide)).trans h_15
  have h_41 := (hg_28 24 (by decide)).trans h_16
  have h_42 := (hg_28 26 (by decide)).trans h_17
  have h_43 := (hg_28 27 (by decide)).trans h_18
  have h_44 := (hg_28 28 (by decide)).trans h_19
  have h_45 := (hg_28 29 (by decide)).trans h_20
  have h_46 := (hg_28 32 (by decide)).trans h_21
  have h_47 := (hg_28 33 (by decide)).trans h_22
  have h_48 := (hg_28 34 (by decide)).trans h_23
  have h_49 := (hg_28 35 (by decide)).trans h_24
  have h_50 : ct_26 8 = some (.inr (5, [.ref (ad 10), .ref (ad 11), .ref (ad 12), .ref (ad 13), .ref (ad 14), .ref (ad 15), .ref (ad 16), .ref (ad 17), .ref (ad 18), .ref (ad 19), .ref (ad 20), .ref (ad 21), .int (nI n), .ref (ad 23), .ref (ad 24), .int (nI L.1), .ref (ad 26), .ref (ad 27), .ref (ad 28), .ref (ad 29), .int 0, .int 0, .ref (ad 32), .ref (ad 33), .ref (ad 34), .ref (ad 35), .int fr, .int pd])) := hk_27
  exact h_vret S hr hlk hS hW dX5_begin_10 ⟨⟨⟨_, _, _, _, _, _, h_50, h_37, h_38, h_45, h_46, h_47, h_48, h_49⟩, ⟨h_29, h_30, h_31, h_33, h_36⟩, ⟨h_32, h_34, h_35, h_39, h_40, h_41, _, _, _, h_42, h_43, h_44⟩, hn300, hm400, hlks, hks⟩, (fun j hj => ((hg_28 j (by omega))).trans ((hg_3 j (by omega))))⟩
set_option maxRecDepth 100000 in
set_option maxHeartbeats 4000000 in
theorem c_X5_able_ok (l : Launch) (G : hG) (H : Heap) {ad : Nat → Nat} {ct : Nat → Option va_E} (hW : hw G ad ct H) {n : Nat} {ks : Nat → Nat} {A : AS} {tk : Nat → Int32} {L : LS4} {st0 : Int32} (hR : RM G ad ct n ks A tk L st0) {i : Nat} (hi : i < n) (way : Int32)  : Met l yX5_able wzX5_able { frames := 2, cells := 0, slots := 0, locals := 42 } (hPr [.ref (ad 8), .int (nI i), .int way] G H) (hQr (ableF (tyM ks i) way) H G.2.2.2) 0 0 (hA G.2.2.2) := by
  refine hMetr (Qc := fun H => hQr (ableF (tyM ks i) way) H G.2.2.2) (by decide) (Nat.le_of_ble_eq_true rfl) (fun p e s m below meth c ls S hr hlk hE hH hl => ?_)
  subst hH
  obtain ⟨hx, hb, hml, hown, hts⟩ := id S
  have hS : va_S (hA G.2.2.2) s.heap s.heap [] := va_S.rf
  have hl : lv_has ls 3 [(0, .ref (ad 8)), (1, .int (nI i)), (2, .int way)] := hl
  obtain ⟨⟨fr, pd, fb, fa, fx, pl, h8, h19, h20, h29, h32, h33, h34, h35⟩, ⟨h10, h11, h12, h15, h18⟩, ⟨h13, h16, h17, h21, h23, h24, rw_, an, ii, h26, h27, h28⟩, hn300, hm400, hlks, hks⟩ := id hR
  refine lv_aload_n hx hb dX5_able_0 rfl (lv_at hl 0 rfl) ?_
  refine lv_iload_n hx hb dX5_able_1 rfl (lv_at hl 1 rfl) ?_
  refine hc_r (va_runV (As := [.int (nI i)]) (rest := []) S (c_X5_isDevice l G _ hW hR (nI i)) (cwV 1 hts (gWSV q_l_5_129 q_im_X5_isDevice q_se_X5_isDevice q_in_5 q_co_X5_isDevice) rfl rfl rfl (by decide +kernel) ⟨Nat.le_of_ble_eq_true rfl, Nat.le_of_ble_eq_true rfl⟩) (hPreVr hE hS (hrecv hE hW h8 (q := (RX5, TX5, 28)) rfl)) rfl rfl hl.1 rfl (lv_room (Nat.le_of_ble_eq_true rfl)) dX5_able_2 ⟨Nat.le_of_ble_eq_true rfl, Nat.le_of_ble_eq_true rfl⟩) hS (fun locs hS => ?_)
  refine lv_if_eq (tgt := 15) hx hb dX5_able_5 (by decide) (fun q => absurd q (fun q : isDevF (nI n) (nI i) = 0 => absurd ((isDevF_ok hn300 hi).symm.trans q) (by decide))) (fun _ => ?_)
  refine lv_iload_n hx hb dX5_able_8 rfl (lv_at hl 2 rfl) ?_
  refine hc_r (va_runS (As := [.int way]) (rest := []) S (c_X5_isWay l G _ way) (va_cwS 1 hts (gWSS q_l_5_136 q_st_X5_isWay q_in_5 q_co_X5_isWay) rfl rfl rfl (by decide +kernel) ⟨Nat.le_of_ble_eq_true rfl, Nat.le_of_ble_eq_true rfl⟩) (hPreSr hE hS) rfl rfl hl.1 rfl (lv_room (Nat.le_of_ble_eq_true rfl)) dX5_able_9 ⟨Nat.le_of_ble_eq_true rfl, Nat.le_of_ble_eq_true rfl⟩) hS (fun locs hS => ?_)
  refine lv_if_ne (tgt := 19) hx hb dX5_able_12 (by decide) (fun c_12 => ?_) (fun c_12 => ?_)
  · obtain ⟨w, hw, rfl⟩ := way_nat c_12
    refine lv_aload_n hx hb dX5_able_19 rfl (lv_at hl 0 rfl) ?_
    refine lv_iload_n hx hb dX5_able_20 rfl (lv_at hl 1 rfl) ?_
    refine lv_iload_n hx hb dX5_able_21 rfl (lv_at hl 2 rfl) ?_
    refine hc_r (va_runV (As := [.int (nI i), .int (nI w)]) (rest := []) S (c_X5_isAble l G _ hW hR (i := i) (w := w) (by omega) (by omega)) (cwV 2 hts (gWSV q_l_5_139 q_im_X5_isAble q_se_X5_isAble q_in_5 q_co_X5_isAble) rfl rfl rfl (by decide +kernel) ⟨Nat.le_of_ble_eq_true rfl, Nat.le_of_ble_eq_true rfl⟩) (hPreVr hE hS (hrecv hE hW h8 (q := (RX5, TX5, 28)) rfl)) rfl rfl hl.1 rfl (lv_room (Nat.le_of_ble_eq_true rfl)) dX5_able_22 ⟨Nat.le_of_ble_eq_true rfl, Nat.le_of_ble_eq_true rfl⟩) hS (fun locs hS => ?_)
    refine lv_if_eq (tgt := 32) hx hb dX5_able_25 (by decide) (fun c_25 => ?_) (fun c_25 => ?_)
    · refine lv_iconst (v := 0) hx hb dX5_able_32 (by decide) ?_
      exact h_rret S hr hlk hS dX5_able_33 (by rw [ableF, if_neg c_12, tyM_at, able_eq _ (hks i) _ hw, if_pos c_25])
    · refine lv_iconst (v := 1) hx hb dX5_able_28 (by decide) ?_
      refine lv_goto (tgt := 33) hx hb dX5_able_29 (by decide) ?_
      exact h_rret S hr hlk hS dX5_able_33 (by rw [ableF, if_neg c_12, tyM_at, able_eq _ (hks i) _ hw, if_neg c_25])
  · refine lv_iconst (v := (-1)) hx hb dX5_able_15 (by decide) ?_
    refine lv_goto (tgt := 33) hx hb dX5_able_16 (by decide) ?_
    exact h_rret S hr hlk hS dX5_able_33 (by rw [ableF, if_pos c_12])
set_option maxRecDepth 100000 in
set_option maxHeartbeats 4000000 in
theorem c_X5_able_no (l : Launch) (G : hG) (H : Heap) {ad : Nat → Nat} {ct : Nat → Option va_E} (hW : hw G ad ct H) {n : Nat} {ks : Nat → Nat} {A : AS} {tk : Nat → Int32} {L : LS4} {st0 : Int32} (hR : RM G ad ct n ks A tk L st0) {d : Int32} (hd : ∀ i, i < n → d ≠ nI i) (way : Int32)  : Met l yX5_able wzX5_able { frames := 2, cells := 0, slots := 0, locals := 42 } (hPr [.ref (ad 8), .int d, .int way] G H) (hQr (-1) H G.2.2.2) 0 0 (hA G.2.2.2) := by
  refine hMetr (Qc := fun H => hQr (-1) H G.2.2.2) (by decide) (Nat.le_of_ble_eq_true rfl) (fun p e s m below meth c ls S hr hlk hE hH hl => ?_)
  subst hH
  obtain ⟨hx, hb, hml, hown, hts⟩ := id S
  have hS : va_S (hA G.2.2.2) s.heap s.heap [] := va_S.rf
  have hl : lv_has ls 3 [(0, .ref (ad 8)), (1, .int d), (2, .int way)] := hl
  obtain ⟨⟨fr, pd, fb, fa, fx, pl, h8, h19, h20, h29, h32, h33, h34, h35⟩, ⟨h10, h11, h12, h15, h18⟩, ⟨h13, h16, h17, h21, h23, h24, rw_, an, ii, h26, h27, h28⟩, hn300, hm400, hlks, hks⟩ := id hR
  refine lv_aload_n hx hb dX5_able_0 rfl (lv_at hl 0 rfl) ?_
  refine lv_iload_n hx hb dX5_able_1 rfl (lv_at hl 1 rfl) ?_
  refine hc_r (va_runV (As := [.int d]) (rest := []) S (c_X5_isDevice l G _ hW hR d) (cwV 1 hts (gWSV q_l_5_129 q_im_X5_isDevice q_se_X5_isDevice q_in_5 q_co_X5_isDevice) rfl rfl rfl (by decide +kernel) ⟨Nat.le_of_ble_eq_true rfl, Nat.le_of_ble_eq_true rfl⟩) (hPreVr hE hS (hrecv hE hW h8 (q := (RX5, TX5, 28)) rfl)) rfl rfl hl.1 rfl (lv_room (Nat.le_of_ble_eq_true rfl)) dX5_able_2 ⟨Nat.le_of_ble_eq_true rfl, Nat.le_of_ble_eq_true rfl⟩) hS (fun locs hS => ?_)
  refine lv_if_eq (tgt := 15) hx hb dX5_able_5 (by decide) (fun _ => ?_) (fun q => absurd (isDevF_no hn300 hd) q)
  refine lv_iconst (v := (-1)) hx hb dX5_able_15 (by decide) ?_
  refine lv_goto (tgt := 33) hx hb dX5_able_16 (by decide) ?_
  exact h_rret S hr hlk hS dX5_able_33 rfl
set_option maxRecDepth 100000 in
set_option maxHeartbeats 4000000 in
theorem c_X5_chain (l : Launch) (G : hG) (H : Heap) {ad : Nat → Nat} {ct : Nat → Option va_E} (hW : hw G ad ct H) {n : Nat} {ks : Nat → Nat} {A : AS} {tk : Nat → Int32} {L : LS4} {st0 : Int32} (hR : RM G ad ct n ks A tk L st0) (i : Int32)  : Met l yX5_chain wzX5_chain { frames := 0, cells := 0, slots := 0, locals := 0 } (hPr [.ref (ad 8), .int i] G H) (hQr (keptF A.2.2.1 A.2.2.2 i) H G.2.2.2) 0 0 (hA G.2.2.2) := by
  refine hMetr (Qc := fun H => hQr (keptF A.2.2.1 A.2.2.2 i) H G.2.2.2) (by decide) (Nat.le_of_ble_eq_true rfl) (fun p e s m below meth c ls S hr hlk hE hH hl => ?_)
  subst hH
  obtain ⟨hx, hb, hml, hown, hts⟩ := id S
  have hS : va_S (hA G.2.2.2) s.heap s.heap [] := va_S.rf
  have hl : lv_has ls 2 [(0, .ref (ad 8)), (1, .int i)] := hl
  obtain ⟨⟨fr, pd, fb, fa, fx, pl, h8, h19, h20, h29, h32, h33, h34, h35⟩, ⟨h10, h11, h12, h15, h18⟩, ⟨h13, h16, h17, h21, h23, h24, rw_, an, ii, h26, h27, h28⟩, hn300, hm400, hlks, hks⟩ := id hR
  refine lv_iload_n hx hb dX5_chain_0 rfl (lv_at hl 1 rfl) ?_
  refine lv_if_lt (tgt := 18) hx hb dX5_chain_1 (by decide) (fun c_1 => ?_) (fun c_1 => ?_)
  · refine lv_iconst (v := (-1)) hx hb dX5_chain_18 (by decide) ?_
    refine lv_goto (tgt := 28) hx hb dX5_chain_19 (by decide) ?_
    exact h_rret S hr hlk hS dX5_chain_28 (by rw [keptF, if_pos c_1])
  · refine lv_iload_n hx hb dX5_chain_4 rfl (lv_at hl 1 rfl) ?_
    refine lv_bipush (v := 64) hx hb dX5_chain_5 (by decide) ?_
    refine lv_icmp_ge (tgt := 18) hx hb dX5_chain_7 (by decide) (fun c_7 => ?_) (fun c_7 => ?_)
    · refine lv_iconst (v := (-1)) hx hb dX5_chain_18 (by decide) ?_
      refine lv_goto (tgt := 28) hx hb dX5_chain_19 (by decide) ?_
      exact h_rret S hr hlk hS dX5_chain_28 (by rw [keptF, if_neg c_1, if_pos c_7, ite_self])
    · refine lv_iload_n hx hb dX5_chain_10 rfl (lv_at hl 1 rfl) ?_
      refine lv_aload_n hx hb dX5_chain_11 rfl (lv_at hl 0 rfl) ?_
      refine hr_get S hE hW h8 inX5 (C := RX5) (T := TX5) (N := 28) rfl 20 (by decide) q_f_5_102 rfl dX5_chain_12 ?_
      refine lv_icmp_lt (tgt := 22) hx hb dX5_chain_15 (by decide) (fun c_15 => ?_) (fun c_15 => ?_)
      · obtain ⟨j, hj, rfl⟩ := nI_of c_1
        have hj64 : j < 64 := lt64 rfl hj c_7
        refine lv_aload_n hx hb dX5_chain_22 rfl (lv_at hl 0 rfl) ?_
        refine hr_get S hE hW h8 inX5 (C := RX5) (T := TX5) (N := 28) rfl 19 (by decide) q_f_5_62 rfl dX5_chain_23 ?_
        refine lv_iload_n hx hb dX5_chain_26 rfl (lv_at hl 1 rfl) ?_
        refine hr_ialdk S hE hW h29 (j := j) rfl hj64 (by decide) dX5_chain_27 ?_
        exact h_rret S hr hlk hS dX5_chain_28 (by rw [keptF, if_neg c_1, if_neg (Int32.not_le.mpr c_15), if_neg c_7, nI_clamp hj])
      · refine lv_iconst (v := (-1)) hx hb dX5_chain_18 (by decide) ?_
        refine lv_goto (tgt := 28) hx hb dX5_chain_19 (by decide) ?_
        exact h_rret S hr hlk hS dX5_chain_28 (by rw [keptF, if_neg c_1, if_pos (Int32.not_lt.mp c_15)])
theorem size_no {n m : Nat} {ty : Nat → Int32} {w : Int32} (h : isWayF w = 0) : sizeF n m ty w = -1 := by
  have h0 : ¬ w = 0 := fun q => by subst q; exact absurd h (by decide)
  have h1 : ¬ w = 1 := fun q => by subst q; exact absurd h (by decide)
  rw [sizeF, if_neg h0, if_neg h1]
  by_cases h2 : w < 2
  · rw [if_pos h2]
  · rw [if_neg h2]
    by_cases h3 : w ≤ 6
    · exfalso
      have a1 : ¬ w < 0 := fun q => h2 (Int32.lt_trans q (by decide))
      have a2 : ¬ (7 : Int32) ≤ w := fun q => absurd (Int32.le_trans q h3) (by decide)
      rw [isWayF, if_neg a1, if_neg a2] at h
      exact absurd h (by decide)
    · rw [if_neg h3]
theorem size_01 {n m k : Nat} {ty : Nat → Int32} (hk : k < 7) (h : ¬ (2 : Int32) ≤ nI k) : sizeF n m ty (nI k) = if nI k = 0 then nI n else nI m := by
  have h2 : k < 2 := Nat.not_le.mp fun q => h (nI_le (a := 2) q (by omega))
  rcases k with _ | _ | k
  · rw [sizeF, if_pos (show nI 0 = 0 by decide), if_pos (show nI 0 = 0 by decide)]
  · rw [sizeF, if_neg (show ¬ nI (0 + 1) = 0 by decide), if_pos (show nI (0 + 1) = 1 by decide), if_neg (show ¬ nI (0 + 1) = 0 by decide)]
  · omega
theorem size_x : ∀ k, k < 7 → (2 : Int32) ≤ nI k → ¬ nI k = 0 ∧ ¬ nI k = 1 ∧ ¬ nI k < 2 ∧ nI k ≤ 6 := by decide
theorem size_2 {n m k : Nat} {ty : Nat → Int32} (hk : k < 7) (h : (2 : Int32) ≤ nI k) : sizeF n m ty (nI k) = cbL ty (nI k) n 0 0 := by
  obtain ⟨a, b, c, d⟩ := size_x k hk h
  rw [sizeF, if_neg a, if_neg b, if_neg c, if_pos d]
set_option maxRecDepth 100000 in
set_option maxHeartbeats 4000000 in
theorem c_X5_size (l : Launch) (G : hG) (H : Heap) {ad : Nat → Nat} {ct : Nat → Option va_E} (hW : hw G ad ct H) {n : Nat} {ks : Nat → Nat} {A : AS} {tk : Nat → Int32} {L : LS4} {st0 : Int32} (hR : RM G ad ct n ks A tk L st0) (way : Int32)  : Met l yX5_size wzX5_size { frames := 2, cells := 0, slots := 0, locals := 42 } (hPr [.ref (ad 8), .int way] G H) (hQr (sizeF n L.1 (tyM ks) way) H G.2.2.2) 0 0 (hA G.2.2.2) := by
  refine hMetr (Qc := fun H => hQr (sizeF n L.1 (tyM ks) way) H G.2.2.2) (by decide) (Nat.le_of_ble_eq_true rfl) (fun p e s m below meth c ls S hr hlk hE hH hl => ?_)
  subst hH
  obtain ⟨hx, hb, hml, hown, hts⟩ := id S
  have hS : va_S (hA G.2.2.2) s.heap s.heap [] := va_S.rf
  have hl : lv_has ls 4 [(0, .ref (ad 8)), (1, .int way)] := hl
  obtain ⟨⟨fr, pd, fb, fa, fx, pl, h8, h19, h20, h29, h32, h33, h34, h35⟩, ⟨h10, h11, h12, h15, h18⟩, ⟨h13, h16, h17, h21, h23, h24, rw_, an, ii, h26, h27, h28⟩, hn300, hm400, hlks, hks⟩ := id hR
  refine lv_iload_n hx hb dX5_size_0 rfl (lv_at hl 1 rfl) ?_
  refine lv_if_lt (tgt := 10) hx hb dX5_size_1 (by decide) (fun c_1 => ?_) (fun c_1 => ?_)
  · refine lv_iconst (v := (-1)) hx hb dX5_size_10 (by decide) ?_
    exact h_rret S hr hlk hS dX5_size_11 (size_no (by rw [isWayF, if_pos c_1])).symm
  · refine lv_iload_n hx hb dX5_size_4 rfl (lv_at hl 1 rfl) ?_
    refine lv_bipush (v := 7) hx hb dX5_size_5 (by decide) ?_
    refine lv_icmp_lt (tgt := 12) hx hb dX5_size_7 (by decide) (fun c_7 => ?_) (fun c_7 => ?_)
    · obtain ⟨w, hw, rfl⟩ := way_nat (x := way) (by rw [isWayF, if_neg c_1, if_neg (Int32.not_le.mpr c_7)]; decide)
      refine lv_iload_n hx hb dX5_size_12 rfl (lv_at hl 1 rfl) ?_
      refine lv_iconst (v := 2) hx hb dX5_size_13 (by decide) ?_
      refine lv_icmp_ge (tgt := 33) hx hb dX5_size_14 (by decide) (fun c_14 => ?_) (fun c_14 => ?_)
      · refine lv_iconst (v := 0) hx hb dX5_size_33 (by decide) ?_
        refine lv_istore_n (lv' := [(2, .int 0), (0, .ref (ad 8)), (1, .int (nI w))]) hx hb dX5_size_34 rfl hl (by decide) rfl (fun ls hl => ?_)
        refine lv_iconst (v := 0) hx hb dX5_size_35 (by decide) ?_
        refine lv_istore_n (lv' := [(3, .int 0), (2, .int 0), (0, .ref (ad 8)), (1, .int (nI w))]) hx hb dX5_size_36 rfl hl (by decide) rfl (fun ls hl => ?_)
        have loop : ∀ (rem k : Nat) (a : Int32) (locs : List Loc) (ls : Array Slot), k + rem = n → (sizeF n L.1 (tyM ks) (nI w) = cbL (tyM ks) (nI w) rem k a) → va_S (hA G.2.2.2) s.heap s.heap locs → lv_has ls 4 [(3, .int (nI k)), (2, .int a), (0, .ref (ad 8)), (1, .int (nI w))] → W p l e { frames := 2, cells := 0, slots := 0, locals := 42 } s m ([.ref (ad 8), .int (nI w)] : List Value).toArray below meth c s.heap locs 0 0 (MQ below (hQr (sizeF n L.1 (tyM ks) (nI w)) s.heap G.2.2.2) ([.ref (ad 8), .int (nI w)] : List Value).toArray s 0 0 (hA G.2.2.2)) (F0 m 37 ls []) := by
          intro rem
          induction rem with
          | zero =>
            intro k a locs ls hnk hv hS hl
            refine lv_iload_n hx hb dX5_size_37 rfl (lv_at hl 0 rfl) ?_
            refine lv_aload_n hx hb dX5_size_38 rfl (lv_at hl 2 rfl) ?_
            refine hr_get S hE hW h8 inX5 (C := RX5) (T := TX5) (N := 28) rfl 12 (by decide) q_f_5_123 rfl dX5_size_39 ?_
            refine lv_icmp_ge (tgt := 63) hx hb dX5_size_42 (by decide) (fun _ => ?_) (fun q => absurd (nI_le (by omega) (by omega)) q)
            refine lv_iload_n hx hb dX5_size_63 rfl (lv_at hl 1 rfl) ?_
            exact h_rret S hr hlk hS dX5_size_64 (by rw [hv]; rfl)
          | succ rem ih =>
            intro k a locs ls hnk hv hS hl
            refine lv_iload_n hx hb dX5_size_37 rfl (lv_at hl 0 rfl) ?_
            refine lv_aload_n hx hb dX5_size_38 rfl (lv_at hl 2 rfl) ?_
            refine hr_get S hE hW h8 inX5 (C := RX5) (T := TX5) (N := 28) rfl 12 (by decide) q_f_5_123 rfl dX5_size_39 ?_
            refine lv_icmp_ge (tgt := 63) hx hb dX5_size_42 (by decide) (fun q => absurd q (nI_ge (by omega) (by omega))) (fun _ => ?_)
            refine lv_aload_n hx hb dX5_size_45 rfl (lv_at hl 2 rfl) ?_
            refine lv_iload_n hx hb dX5_size_46 rfl (lv_at hl 0 rfl) ?_
            refine lv_iload_n hx hb dX5_size_47 rfl (lv_at hl 3 rfl) ?_
            refine hc_r (va_runV (As := [.int (nI k), .int (nI w)]) (rest := []) S (c_X5_isAble l G _ hW hR (i := k) (w := w) (by omega) (by omega)) (cwV 2 hts (gWSV q_l_5_139 q_im_X5_isAble q_se_X5_isAble q_in_5 q_co_X5_isAble) rfl rfl rfl (by decide +kernel) ⟨Nat.le_of_ble_eq_true rfl, Nat.le_of_ble_eq_true rfl⟩) (hPreVr hE hS (hrecv hE hW h8 (q := (RX5, TX5, 28)) rfl)) rfl rfl hl.1 rfl (lv_room (Nat.le_of_ble_eq_true rfl)) dX5_size_48 ⟨Nat.le_of_ble_eq_true rfl, Nat.le_of_ble_eq_true rfl⟩) hS (fun locs hS => ?_)
            refine lv_if_eq (tgt := 57) hx hb dX5_size_51 (by decide) (fun c_51 => ?_) (fun c_51 => ?_)
            · refine lv_iinc (v := (nI (k + 1))) (lv' := [(3, .int (nI (k + 1))), (2, .int a), (0, .ref (ad 8)), (1, .int (nI w))]) hx hb dX5_size_57 hl (k := 0) rfl (nI_1 k) (by decide) rfl (fun ls hl => ?_)
              refine lv_goto (tgt := 37) hx hb dX5_size_60 (by decide) ?_
              exact ih (k + 1) a _ _ (by omega) (by rw [hv, cbL, tyM_at, able_eq _ (hks k) _ hw, if_pos c_51]) hS (lv_sub hl [0, 1, 2, 3] rfl)
            · refine lv_iinc (v := (a + 1)) (lv' := [(2, .int (a + 1)), (3, .int (nI k)), (0, .ref (ad 8)), (1, .int (nI w))]) hx hb dX5_size_54 hl (k := 1) rfl rfl (by decide) rfl (fun ls hl => ?_)
              refine lv_iinc (v := (nI (k + 1))) (lv' := [(3, .int (nI (k + 1))), (2, .int (a + 1)), (0, .ref (ad 8)), (1, .int (nI w))]) hx hb dX5_size_57 hl (k := 1) rfl (nI_1 k) (by decide) rfl (fun ls hl => ?_)
              refine lv_goto (tgt := 37) hx hb dX5_size_60 (by decide) ?_
              exact ih (k + 1) (a + 1) _ _ (by omega) (by rw [hv, cbL, tyM_at, able_eq _ (hks k) _ hw, if_neg c_51]) hS (lv_sub hl [0, 1, 2, 3] rfl)
        exact loop n 0 0 _ _ (by omega) (size_2 hw c_14) hS (lv_sub hl [0, 1, 2, 3] rfl)
      · refine lv_iload_n hx hb dX5_size_17 rfl (lv_at hl 1 rfl) ?_
        refine lv_if_ne (tgt := 28) hx hb dX5_size_18 (by decide) (fun c_18 => ?_) (fun c_18 => ?_)
        · refine lv_aload_n hx hb dX5_size_28 rfl (lv_at hl 0 rfl) ?_
          refine hr_get S hE hW h8 inX5 (C := RX5) (T := TX5) (N := 28) rfl 15 (by decide) q_f_5_160 rfl dX5_size_29 ?_
          exact h_rret S hr hlk hS dX5_size_32 (by rw [size_01 hw c_14, if_neg c_18])
        · refine lv_aload_n hx hb dX5_size_21 rfl (lv_at hl 0 rfl) ?_
          refine hr_get S hE hW h8 inX5 (C := RX5) (T := TX5) (N := 28) rfl 12 (by decide) q_f_5_123 rfl dX5_size_22 ?_
          refine lv_goto (tgt := 32) hx hb dX5_size_25 (by decide) ?_
          exact h_rret S hr hlk hS dX5_size_32 (by rw [size_01 hw c_14, if_pos c_18])
    · refine lv_iconst (v := (-1)) hx hb dX5_size_10 (by decide) ?_
      exact h_rret S hr hlk hS dX5_size_11 (size_no (by rw [isWayF, if_neg c_1, if_pos (Int32.not_lt.mp c_7)])).symm
theorem rf_good {kk : Nat} (hk : kk < 11) {act way : Int32} (h : rfF (nI (7 + kk)) act way = 0) : ∃ a w, a < 12 ∧ w < 7 ∧ act = nI a ∧ way = nI w ∧ (vdT kk a = true ∧ okM kk 8 (doB kk a) = true) := by
  have h1 : ¬ isActF act = 0 := fun q => by rw [rfF, if_pos q] at h; exact absurd h (by decide)
  have h2 : ¬ isWayF way = 0 := fun q => by rw [rfF, if_neg h1, if_pos q] at h; exact absurd h (by decide)
  obtain ⟨a, ha, rfl⟩ := act_nat h1
  obtain ⟨w, hw, rfl⟩ := way_nat h2
  rw [rf_ok hk ha hw] at h
  rcases ablM_b (10 + kk) w with e1 | e1
  · rw [if_pos e1] at h; exact absurd h (by decide)
  · rcases isoM_b kk a w with e2 | e2
    · rw [if_neg (by rw [e1]; decide), if_pos e2] at h; exact absurd h (by decide)
    · exact ⟨a, w, ha, hw, rfl, rfl, act_ok hk ha hw e1 e2⟩
set_option maxRecDepth 100000 in
set_option maxHeartbeats 4000000 in
theorem c_X5_call_ok (l : Launch) (G : hG) (ad : Nat → Nat) (ct : Nat → Option va_E) {n : Nat} {ks : Nat → Nat} {A : AS} {tk : Nat → Int32} {L : LS4} {st0 : Int32} (hR : RM G ad ct n ks A tk L st0) {i : Nat} (hi : i < n) (act way x : Int32)  : Met l yX5_call wzX5_call { frames := 3, cells := 0, slots := 0, locals := 71 } (hPw [.ref (ad 8), .int (nI i), .int act, .int way, .int x] G ad ct) (hQi (fun r ct1 => r = (callR (tyM ks) i act way x A).1 ∧ RM G ad ct1 n ks ((callR (tyM ks) i act way x A).2.1) tk L ((callR (tyM ks) i act way x A).2.2) ∧ agX ct1 ct) G ad) 0 0 (hA G.2.2.2) := by
  refine hMetw (by decide) (Nat.le_of_ble_eq_true rfl) (fun p e s m below meth c ls S hr hlk hE hW hl => ?_)
  obtain ⟨hx, hb, hml, hown, hts⟩ := id S
  have hS : va_S (hA G.2.2.2) s.heap s.heap [] := va_S.rf
  have hl : lv_has ls 6 [(0, .ref (ad 8)), (1, .int (nI i)), (2, .int act), (3, .int way), (4, .int x)] := hl
  obtain ⟨⟨fr, pd, fb, fa, fx, pl, h8, h19, h20, h29, h32, h33, h34, h35⟩, ⟨h10, h11, h12, h15, h18⟩, ⟨h13, h16, h17, h21, h23, h24, rw_, an, ii, h26, h27, h28⟩, hn300, hm400, hlks, hks⟩ := id hR
  refine lv_aload_n hx hb dX5_call_0 rfl (lv_at hl 0 rfl) ?_
  refine lv_iload_n hx hb dX5_call_1 rfl (lv_at hl 1 rfl) ?_
  refine lv_iload_n hx hb dX5_call_2 rfl (lv_at hl 2 rfl) ?_
  refine lv_iload_n hx hb dX5_call_3 rfl (lv_at hl 3 rfl) ?_
  refine hc_r (va_runV (As := [.int (nI i), .int act, .int way]) (rest := []) S (c_X5_why_ok l G _ hW hR hi act way) (cwV 3 hts (gWSV q_l_5_147 q_im_X5_why q_se_X5_why q_in_5 q_co_X5_why) rfl rfl rfl (by decide +kernel) ⟨Nat.le_of_ble_eq_true rfl, Nat.le_of_ble_eq_true rfl⟩) (hPreVr hE hS (hrecv hE hW h8 (q := (RX5, TX5, 28)) rfl)) rfl rfl hl.1 rfl (lv_room (Nat.le_of_ble_eq_true rfl)) dX5_call_4 ⟨Nat.le_of_ble_eq_true rfl, Nat.le_of_ble_eq_true rfl⟩) hS (fun locs hS => ?_)
  refine lv_istore (lv' := [(5, .int (rfF (tyM ks i) act way)), (0, .ref (ad 8)), (1, .int (nI i)), (2, .int act), (3, .int way), (4, .int x)]) hx hb dX5_call_7 hl (by decide) rfl (fun ls hl => ?_)
  refine lv_iload hx hb dX5_call_9 (lv_at hl 0 rfl) ?_
  refine lv_if_eq (tgt := 21) hx hb dX5_call_11 (by decide) (fun c_11 => ?_) (fun c_11 => ?_)
  · have hrf : rfF (tyM ks i) act way = 0 := c_11
    obtain ⟨a, w, ha, hw, rfl, rfl, hok⟩ := rf_good (hks i) hrf
    refine lv_aload_n hx hb dX5_call_21 rfl (lv_at hl 1 rfl) ?_
    refine hc_v (va_runV (As := []) (rest := []) S (c_X5_begin l G ad _ hR ) (cwV 0 hts (gWSV q_l_5_154 q_im_X5_begin q_se_X5_begin q_in_5 q_co_X5_begin) rfl rfl rfl (by decide +kernel) ⟨Nat.le_of_ble_eq_true rfl, Nat.le_of_ble_eq_true rfl⟩) (hPreVw hE hS (hrecv hE hW h8 (q := (RX5, TX5, 28)) rfl) hW) rfl rfl hl.1 rfl (lv_room (Nat.le_of_ble_eq_true rfl)) dX5_call_22 ⟨Nat.le_of_ble_eq_true rfl, Nat.le_of_ble_eq_true rfl⟩) hS (fun ct_1 H locs hp hW hS => ?_)
    obtain ⟨hR, hag_2⟩ := hp
    obtain ⟨⟨fr, pd, fb, fa, fx, pl, h8, h19, h20, h29, h32, h33, h34, h35⟩, ⟨h10, h11, h12, h15, h18⟩, ⟨h13, h16, h17, h21, h23, h24, rw_, an, ii, h26, h27, h28⟩, hn300, hm400, hlks, hks⟩ := id hR
    refine lv_aload_n hx hb dX5_call_25 rfl (lv_at hl 1 rfl) ?_
    refine lv_iload_n hx hb dX5_call_26 rfl (lv_at hl 2 rfl) ?_
    refine lv_iload_n hx hb dX5_call_27 rfl (lv_at hl 3 rfl) ?_
    refine lv_iload hx hb dX5_call_28 (lv_at hl 5 rfl) ?_
    refine hc_i (va_runV (As := [.int (nI i), .int (nI a), .int x]) (rest := []) S (c_X5_act l G ad _ hR.1 hR.2.1 (i := i) (kk := ks i) (a := a) (bb := 0) (by omega) rfl (hks _) ha hok.1 hok.2 rfl (by decide) x) (cwV 3 hts (gWSV q_l_5_157 q_im_X5_act q_se_X5_act q_in_5 q_co_X5_act) rfl rfl rfl (by decide +kernel) ⟨Nat.le_of_ble_eq_true rfl, Nat.le_of_ble_eq_true rfl⟩) (hPreVw hE hS (hrecv hE hW h8 (q := (RX5, TX5, 28)) rfl) hW) rfl rfl hl.1 rfl (lv_room (Nat.le_of_ble_eq_true rfl)) dX5_call_30 ⟨Nat.le_of_ble_eq_true rfl, Nat.le_of_ble_eq_true rfl⟩) hS (fun rv_5 ct_3 H locs hp hW hS => ?_)
    obtain ⟨ev_6, hM, hag_4⟩ := hp
    have hD := actD_eq (hks i) ha hok.1 hok.2 x (clrA A)
    have hR := RM_act hR hM hag_4
    rw [show rv_5 = (actD (tyM ks) i (nI a) x (clrA A)).1 from ev_6.trans (congrArg Prod.fst hD).symm]
    replace hR : RM G ad ct_3 n ks (actD (tyM ks) i (nI a) x (clrA A)).2 tk L 0 := by rw [hD]; exact hR
    obtain ⟨⟨fr, pd, fb, fa, fx, pl, h8, h19, h20, h29, h32, h33, h34, h35⟩, ⟨h10, h11, h12, h15, h18⟩, ⟨h13, h16, h17, h21, h23, h24, rw_, an, ii, h26, h27, h28⟩, hn300, hm400, hlks, hks⟩ := id hR
    exact h_iret S hr hlk hS hW dX5_call_33 ⟨(by rw [callR, if_pos hrf]), (by rw [callR, if_pos hrf]; exact hR), (fun j hj => ((hag_4 j (by omega))).trans ((hag_2 j hj)))⟩
  · refine lv_aload_n hx hb dX5_call_14 rfl (lv_at hl 1 rfl) ?_
    refine lv_iload hx hb dX5_call_15 (lv_at hl 0 rfl) ?_
    refine hc_i (va_runV (As := [.int (rfF (tyM ks i) act way)]) (rest := []) S (c_X5_refused l G ad _ hR (rfF (tyM ks i) act way)) (cwV 1 hts (gWSV q_l_5_151 q_im_X5_refused q_se_X5_refused q_in_5 q_co_X5_refused) rfl rfl rfl (by decide +kernel) ⟨Nat.le_of_ble_eq_true rfl, Nat.le_of_ble_eq_true rfl⟩) (hPreVw hE hS (hrecv hE hW h8 (q := (RX5, TX5, 28)) rfl) hW) rfl rfl hl.1 rfl (lv_room (Nat.le_of_ble_eq_true rfl)) dX5_call_17 ⟨Nat.le_of_ble_eq_true rfl, Nat.le_of_ble_eq_true rfl⟩) hS (fun rv_9 ct_7 H locs hp hW hS => ?_)
    obtain ⟨ev_10, hR, hag_8⟩ := hp
    rw [ev_10]
    obtain ⟨⟨fr, pd, fb, fa, fx, pl, h8, h19, h20, h29, h32, h33, h34, h35⟩, ⟨h10, h11, h12, h15, h18⟩, ⟨h13, h16, h17, h21, h23, h24, rw_, an, ii, h26, h27, h28⟩, hn300, hm400, hlks, hks⟩ := id hR
    exact h_iret S hr hlk hS hW dX5_call_20 ⟨(by rw [callR, if_neg c_11]), (by rw [callR, if_neg c_11]; exact hR), (fun j hj => (hag_8 j hj))⟩
set_option maxRecDepth 100000 in
set_option maxHeartbeats 4000000 in
theorem c_X5_call_no (l : Launch) (G : hG) (ad : Nat → Nat) (ct : Nat → Option va_E) {n : Nat} {ks : Nat → Nat} {A : AS} {tk : Nat → Int32} {L : LS4} {st0 : Int32} (hR : RM G ad ct n ks A tk L st0) {d : Int32} (hd : ∀ i, i < n → d ≠ nI i) (act way x : Int32)  : Met l yX5_call wzX5_call { frames := 3, cells := 0, slots := 0, locals := 71 } (hPw [.ref (ad 8), .int d, .int act, .int way, .int x] G ad ct) (hQi (fun r ct1 => r = 0 ∧ RM G ad ct1 n ks A tk L 1 ∧ agX ct1 ct) G ad) 0 0 (hA G.2.2.2) := by
  refine hMetw (by decide) (Nat.le_of_ble_eq_true rfl) (fun p e s m below meth c ls S hr hlk hE hW hl => ?_)
  obtain ⟨hx, hb, hml, hown, hts⟩ := id S
  have hS : va_S (hA G.2.2.2) s.heap s.heap [] := va_S.rf
  have hl : lv_has ls 6 [(0, .ref (ad 8)), (1, .int d), (2, .int act), (3, .int way), (4, .int x)] := hl
  obtain ⟨⟨fr, pd, fb, fa, fx, pl, h8, h19, h20, h29, h32, h33, h34, h35⟩, ⟨h10, h11, h12, h15, h18⟩, ⟨h13, h16, h17, h21, h23, h24, rw_, an, ii, h26, h27, h28⟩, hn300, hm400, hlks, hks⟩ := id hR
  refine lv_aload_n hx hb dX5_call_0 rfl (lv_at hl 0 rfl) ?_
  refine lv_iload_n hx hb dX5_call_1 rfl (lv_at hl 1 rfl) ?_
  refine lv_iload_n hx hb dX5_call_2 rfl (lv_at hl 2 rfl) ?_
  refine lv_iload_n hx hb dX5_call_3 rfl (lv_at hl 3 rfl) ?_
  refine hc_r (va_runV (As := [.int d, .int act, .int way]) (rest := []) S (c_X5_why_no l G _ hW hR hd act way) (cwV 3 hts (gWSV q_l_5_147 q_im_X5_why q_se_X5_why q_in_5 q_co_X5_why) rfl rfl rfl (by decide +kernel) ⟨Nat.le_of_ble_eq_true rfl, Nat.le_of_ble_eq_true rfl⟩) (hPreVr hE hS (hrecv hE hW h8 (q := (RX5, TX5, 28)) rfl)) rfl rfl hl.1 rfl (lv_room (Nat.le_of_ble_eq_true rfl)) dX5_call_4 ⟨Nat.le_of_ble_eq_true rfl, Nat.le_of_ble_eq_true rfl⟩) hS (fun locs hS => ?_)
  refine lv_istore (lv' := [(5, .int 1), (0, .ref (ad 8)), (1, .int d), (2, .int act), (3, .int way), (4, .int x)]) hx hb dX5_call_7 hl (by decide) rfl (fun ls hl => ?_)
  refine lv_iload hx hb dX5_call_9 (lv_at hl 0 rfl) ?_
  refine lv_if_eq (tgt := 21) hx hb dX5_call_11 (by decide) (fun q => absurd q (by decide)) (fun _ => ?_)
  refine lv_aload_n hx hb dX5_call_14 rfl (lv_at hl 1 rfl) ?_
  refine lv_iload hx hb dX5_call_15 (lv_at hl 0 rfl) ?_
  refine hc_i (va_runV (As := [.int 1]) (rest := []) S (c_X5_refused l G ad _ hR 1) (cwV 1 hts (gWSV q_l_5_151 q_im_X5_refused q_se_X5_refused q_in_5 q_co_X5_refused) rfl rfl rfl (by decide +kernel) ⟨Nat.le_of_ble_eq_true rfl, Nat.le_of_ble_eq_true rfl⟩) (hPreVw hE hS (hrecv hE hW h8 (q := (RX5, TX5, 28)) rfl) hW) rfl rfl hl.1 rfl (lv_room (Nat.le_of_ble_eq_true rfl)) dX5_call_17 ⟨Nat.le_of_ble_eq_true rfl, Nat.le_of_ble_eq_true rfl⟩) hS (fun rv_3 ct_1 H locs hp hW hS => ?_)
  obtain ⟨ev_4, hR, hag_2⟩ := hp
  rw [ev_4]
  obtain ⟨⟨fr, pd, fb, fa, fx, pl, h8, h19, h20, h29, h32, h33, h34, h35⟩, ⟨h10, h11, h12, h15, h18⟩, ⟨h13, h16, h17, h21, h23, h24, rw_, an, ii, h26, h27, h28⟩, hn300, hm400, hlks, hks⟩ := id hR
  exact h_iret S hr hlk hS hW dX5_call_20 ⟨rfl, hR, (fun j hj => (hag_2 j hj))⟩
