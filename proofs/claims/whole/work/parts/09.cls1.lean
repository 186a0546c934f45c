set_option maxRecDepth 100000 in
set_option maxHeartbeats 4000000 in
theorem c_X0_answer (l : Launch) (G : hG) (ad : Nat → Nat) (ct : Nat → Option va_E) {k : Nat} {t : Int32} {r : Nat → Value} {q : St} (hk100 : 100 ≤ k) (h1 : ct 1 = some (.inr (1, [.ref (ad 4), .ref (ad 5)]))) (h5 : ct 5 = some (.inl (G.2.1.1, 216, .inl selT))) (hd : dW G ad ct k t r q) (a x : Int32)  : Met l yX0_answer wzX0_answer { frames := 124, cells := 0, slots := 0, locals := 2866 } (hPw [.ref (ad k), .int a, .int x] G ad ct) (hQi (fun rr ct1 => rr = (runS 40 t (selOfF selT t a) x q).1 ∧ dW G ad ct1 k t r (runS 40 t (selOfF selT t a) x q).2 ∧ ∀ j, j ≠ k → j ≠ 2 → j ≠ 3 → ct1 j = ct j) G ad) 0 0 (hA G.2.2.2) := by
  refine hMetw (by decide) (Nat.le_of_ble_eq_true rfl) (fun p e s m below meth c ls S hr hlk hE hW hl => ?_)
  obtain ⟨hx, hb, hml, hown, hts⟩ := id S
  have hS : va_S (hA G.2.2.2) s.heap s.heap [] := va_S.rf
  have hl : lv_has ls 3 [(0, .ref (ad k)), (1, .int a), (2, .int x)] := hl
  obtain ⟨hk, h2, h3⟩ := hd
  refine lv_aload_n hx hb dX0_answer_0 rfl (lv_at hl 0 rfl) ?_
  refine lv_iload_n hx hb dX0_answer_1 rfl (lv_at hl 1 rfl) ?_
  refine lv_iload_n hx hb dX0_answer_2 rfl (lv_at hl 2 rfl) ?_
  refine lv_iconst (v := 0) hx hb dX0_answer_3 (by decide) ?_
  refine hc_i (va_runV (As := [.int a, .int x, .int 0]) (rest := []) S (c_X0_act l G ad _ 40 (RunC_all l G 40) (k := k) (t := t) (r := r) (q := q) hk100 h1 h5 ⟨hk, h2, h3⟩ 0 rfl a x) (cwV 3 hts (gWSV q_l_0_72 q_im_X0_act q_se_X0_act q_in_0 q_co_X0_act) rfl rfl rfl (by decide +kernel) ⟨Nat.le_of_ble_eq_true rfl, Nat.le_of_ble_eq_true rfl⟩) (hPreVw hE hS (hrecv hE hW hk (q := (RX0, TX0, 13)) rfl) hW) rfl rfl hl.1 rfl (lv_room (Nat.le_of_ble_eq_true rfl)) dX0_answer_4 ⟨Nat.le_of_ble_eq_true rfl, Nat.le_of_ble_eq_true rfl⟩) hS (fun rv_7 ct_1 H locs hp hW hS => ?_)
  obtain ⟨ev_6, ⟨h_2, h_3, h_4⟩, hg_5⟩ := hp
  subst ev_6
  have h_8 := (hg_5 1 (by omega) (by decide) (by decide)).trans h1
  have h_9 := (hg_5 5 (by omega) (by decide) (by decide)).trans h5
  exact h_iret S hr hlk hS hW dX0_answer_7 ⟨rfl, ⟨h_2, h_3, h_4⟩, (fun j q0 q1 q2 => hg_5 j q0 q1 q2)⟩
set_option maxRecDepth 100000 in
set_option maxHeartbeats 4000000 in
theorem c_X4_refusal (l : Launch) (G : hG) (H : Heap) {ad : Nat → Nat} {ct : Nat → Option va_E} (hW : hw G ad ct H) {k : Nat} {t v c0 : Int32} {r : Nat → Value} (hk : ct k = some (.inr (0, [.ref (ad 1), .ref (ad 2), .int t, .int (takActF t), .int v, .int c0, r 5, r 6, r 7, r 8, r 9, r 10, r 11]))) (h1 : ct 1 = some (.inr (1, [.ref (ad 4), .ref (ad 5)]))) (h4 : ct 4 = some (.inl (G.2.1.1, 18, .inl borT))) (a w : Int32)  : Met l yX4_refusal wzX4_refusal { frames := 4, cells := 0, slots := 0, locals := 88 } (hPr [.ref (ad k), .int a, .int w] G H) (hQr (rfF t a w) H G.2.2.2) 0 0 (hA G.2.2.2) := by
  refine hMetr (Qc := fun H => hQr (rfF t a w) H G.2.2.2) (by decide) (Nat.le_of_ble_eq_true rfl) (fun p e s m below meth c ls S hr hlk hE hH hl => ?_)
  subst hH
  obtain ⟨hx, hb, hml, hown, hts⟩ := id S
  have hS : va_S (hA G.2.2.2) s.heap s.heap [] := va_S.rf
  have hl : lv_has ls 3 [(0, .ref (ad k)), (1, .int a), (2, .int w)] := hl
  refine lv_aload_n hx hb dX4_refusal_0 rfl (lv_at hl 0 rfl) ?_
  refine lv_ifnull hx hb dX4_refusal_1 ?_
  refine lv_iload_n hx hb dX4_refusal_4 rfl (lv_at hl 1 rfl) ?_
  refine hc_r (va_runS (As := [.int a]) (rest := []) S (c_X4_isAct l G _ a) (va_cwS 1 hts (gWSS q_l_4_111 q_st_X4_isAct q_in_4 q_co_X4_isAct) rfl rfl rfl (by decide +kernel) ⟨Nat.le_of_ble_eq_true rfl, Nat.le_of_ble_eq_true rfl⟩) (hPreSr hE hS) rfl rfl hl.1 rfl (lv_room (Nat.le_of_ble_eq_true rfl)) dX4_refusal_5 ⟨Nat.le_of_ble_eq_true rfl, Nat.le_of_ble_eq_true rfl⟩) hS (fun locs hS => ?_)
  refine lv_if_eq (tgt := 18) hx hb dX4_refusal_8 (by decide) (fun c_8 => ?_) (fun c_8 => ?_)
  · refine lv_iconst (v := 1) hx hb dX4_refusal_18 (by decide) ?_
    exact h_rret S hr hlk hS dX4_refusal_19 (by simp [rfF, c_8])
  · refine lv_iload_n hx hb dX4_refusal_11 rfl (lv_at hl 2 rfl) ?_
    refine hc_r (va_runS (As := [.int w]) (rest := []) S (c_X4_isWay l G _ w) (va_cwS 1 hts (gWSS q_l_4_91 q_st_X4_isWay q_in_4 q_co_X4_isWay) rfl rfl rfl (by decide +kernel) ⟨Nat.le_of_ble_eq_true rfl, Nat.le_of_ble_eq_true rfl⟩) (hPreSr hE hS) rfl rfl hl.1 rfl (lv_room (Nat.le_of_ble_eq_true rfl)) dX4_refusal_12 ⟨Nat.le_of_ble_eq_true rfl, Nat.le_of_ble_eq_true rfl⟩) hS (fun locs hS => ?_)
    refine lv_if_ne (tgt := 20) hx hb dX4_refusal_15 (by decide) (fun c_15 => ?_) (fun c_15 => ?_)
    · refine lv_aload_n hx hb dX4_refusal_20 rfl (lv_at hl 0 rfl) ?_
      refine lv_iload_n hx hb dX4_refusal_21 rfl (lv_at hl 2 rfl) ?_
      refine hc_r (va_runVN (As := [.int w]) (rest := []) S (c_X0_bears l G _ hW hk h1 h4 w) ⟨va_cnB 1 hts (gWS q_co_X0_bears) rfl rfl rfl (hE.nest 14 rfl) (hts _ q_in_0) (by decide +kernel) ⟨Nat.le_of_ble_eq_true rfl, Nat.le_of_ble_eq_true rfl⟩, hts _ q_im_X0_bears, hts _ q_se_X0_bears⟩ (hPreVr hE hS (hrecv hE hW hk (q := (RX0, TX0, 13)) rfl)) rfl rfl hl.1 rfl (lv_room (Nat.le_of_ble_eq_true rfl)) dX4_refusal_22 ⟨Nat.le_of_ble_eq_true rfl, Nat.le_of_ble_eq_true rfl⟩) hS (fun locs hS => ?_)
      refine lv_if_ne (tgt := 30) hx hb dX4_refusal_25 (by decide) (fun c_25 => ?_) (fun c_25 => ?_)
      · refine lv_aload_n hx hb dX4_refusal_30 rfl (lv_at hl 0 rfl) ?_
        refine lv_iload_n hx hb dX4_refusal_31 rfl (lv_at hl 2 rfl) ?_
        refine lv_iload_n hx hb dX4_refusal_32 rfl (lv_at hl 1 rfl) ?_
        refine hc_r (va_runVN (As := [.int w, .int a]) (rest := []) S (c_X0_hasAct l G _ hW hk h1 h4 w a) ⟨va_cnB 2 hts (gWS q_co_X0_hasAct) rfl rfl rfl (hE.nest 16 rfl) (hts _ q_in_0) (by decide +kernel) ⟨Nat.le_of_ble_eq_true rfl, Nat.le_of_ble_eq_true rfl⟩, hts _ q_im_X0_hasAct, hts _ q_se_X0_hasAct⟩ (hPreVr hE hS (hrecv hE hW hk (q := (RX0, TX0, 13)) rfl)) rfl rfl hl.1 rfl (lv_room (Nat.le_of_ble_eq_true rfl)) dX4_refusal_33 ⟨Nat.le_of_ble_eq_true rfl, Nat.le_of_ble_eq_true rfl⟩) hS (fun locs hS => ?_)
        refine lv_if_eq (tgt := 43) hx hb dX4_refusal_36 (by decide) (fun c_36 => ?_) (fun c_36 => ?_)
        · refine lv_iconst (v := 3) hx hb dX4_refusal_43 (by decide) ?_
          exact h_rret S hr hlk hS dX4_refusal_44 (by simp [rfF, c_8, c_15, c_25, c_36])
        · refine lv_iconst (v := 0) hx hb dX4_refusal_39 (by decide) ?_
          refine lv_goto (tgt := 44) hx hb dX4_refusal_40 (by decide) ?_
          exact h_rret S hr hlk hS dX4_refusal_44 (by simp [rfF, c_8, c_15, c_25, c_36])
      · refine lv_iconst (v := 2) hx hb dX4_refusal_28 (by decide) ?_
        exact h_rret S hr hlk hS dX4_refusal_29 (by simp [rfF, c_8, c_15, c_25])
    · refine lv_iconst (v := 1) hx hb dX4_refusal_18 (by decide) ?_
      exact h_rret S hr hlk hS dX4_refusal_19 (by simp [rfF, c_8, c_15])
set_option maxRecDepth 100000 in
set_option maxHeartbeats 4000000 in
theorem c_X4_refusal_n (l : Launch) (G : hG) (H : Heap) (a w : Int32)  : Met l yX4_refusal wzX4_refusal { frames := 4, cells := 0, slots := 0, locals := 88 } (hPr [.null, .int a, .int w] G H) (hQr (1) H G.2.2.2) 0 0 (hA G.2.2.2) := by
  refine hMetr (Qc := fun H => hQr (1) H G.2.2.2) (by decide) (Nat.le_of_ble_eq_true rfl) (fun p e s m below meth c ls S hr hlk hE hH hl => ?_)
  subst hH
  obtain ⟨hx, hb, hml, hown, hts⟩ := id S
  have hS : va_S (hA G.2.2.2) s.heap s.heap [] := va_S.rf
  have hl : lv_has ls 3 [(0, .null), (1, .int a), (2, .int w)] := hl
  refine lv_aload_nN hx hb dX4_refusal_0 rfl (lv_at hl 0 rfl) ?_
  refine lv_ifnullN (tgt := 18) hx hb dX4_refusal_1 (by decide) ?_
  refine lv_iconst (v := 1) hx hb dX4_refusal_18 (by decide) ?_
  exact h_rret S hr hlk hS dX4_refusal_19 rfl
set_option maxRecDepth 100000 in
set_option maxHeartbeats 4000000 in
theorem c_X4_refusalOfAll (l : Launch) (G : hG) (H : Heap) {ad : Nat → Nat} {ct : Nat → Option va_E} (hW : hw G ad ct H) {n0 m0 tc pl st0 : Int32} (h0 : ct 0 = some (.inr (4, [.ref (ad 1), .ref (ad 2), .ref (ad 6), .ref (ad 7), .int n0, .int m0, .int tc, .int pl, .int st0]))) (h1 : ct 1 = some (.inr (1, [.ref (ad 4), .ref (ad 5)]))) (a w : Int32)  : Met l yX4_refusalOfAll wzX4_refusalOfAll { frames := 2, cells := 0, slots := 0, locals := 43 } (hPr [.ref (ad 0), .int a, .int w] G H) (hQr (rfAllF a w) H G.2.2.2) 0 0 (hA G.2.2.2) := by
  refine hMetr (Qc := fun H => hQr (rfAllF a w) H G.2.2.2) (by decide) (Nat.le_of_ble_eq_true rfl) (fun p e s m below meth c ls S hr hlk hE hH hl => ?_)
  subst hH
  obtain ⟨hx, hb, hml, hown, hts⟩ := id S
  have hS : va_S (hA G.2.2.2) s.heap s.heap [] := va_S.rf
  have hl : lv_has ls 3 [(0, .ref (ad 0)), (1, .int a), (2, .int w)] := hl
  refine lv_iload_n hx hb dX4_refusalOfAll_0 rfl (lv_at hl 1 rfl) ?_
  refine hc_r (va_runS (As := [.int a]) (rest := []) S (c_X4_isAct l G _ a) (va_cwS 1 hts (gWSS q_l_4_111 q_st_X4_isAct q_in_4 q_co_X4_isAct) rfl rfl rfl (by decide +kernel) ⟨Nat.le_of_ble_eq_true rfl, Nat.le_of_ble_eq_true rfl⟩) (hPreSr hE hS) rfl rfl hl.1 rfl (lv_room (Nat.le_of_ble_eq_true rfl)) dX4_refusalOfAll_1 ⟨Nat.le_of_ble_eq_true rfl, Nat.le_of_ble_eq_true rfl⟩) hS (fun locs hS => ?_)
  refine lv_if_eq (tgt := 14) hx hb dX4_refusalOfAll_4 (by decide) (fun c_4 => ?_) (fun c_4 => ?_)
  · refine lv_iconst (v := 1) hx hb dX4_refusalOfAll_14 (by decide) ?_
    exact h_rret S hr hlk hS dX4_refusalOfAll_15 (by rw [rfAllF, if_pos c_4])
  · refine lv_iload_n hx hb dX4_refusalOfAll_7 rfl (lv_at hl 2 rfl) ?_
    refine hc_r (va_runS (As := [.int w]) (rest := []) S (c_X4_isWay l G _ w) (va_cwS 1 hts (gWSS q_l_4_91 q_st_X4_isWay q_in_4 q_co_X4_isWay) rfl rfl rfl (by decide +kernel) ⟨Nat.le_of_ble_eq_true rfl, Nat.le_of_ble_eq_true rfl⟩) (hPreSr hE hS) rfl rfl hl.1 rfl (lv_room (Nat.le_of_ble_eq_true rfl)) dX4_refusalOfAll_8 ⟨Nat.le_of_ble_eq_true rfl, Nat.le_of_ble_eq_true rfl⟩) hS (fun locs hS => ?_)
    refine lv_if_ne (tgt := 16) hx hb dX4_refusalOfAll_11 (by decide) (fun c_11 => ?_) (fun c_11 => ?_)
    · refine lv_iload_n hx hb dX4_refusalOfAll_16 rfl (lv_at hl 2 rfl) ?_
      refine lv_if_eq (tgt := 32) hx hb dX4_refusalOfAll_17 (by decide) (fun c_17 => ?_) (fun c_17 => ?_)
      · refine lv_iconst (v := 0) hx hb dX4_refusalOfAll_32 (by decide) ?_
        refine lv_goto (tgt := 37) hx hb dX4_refusalOfAll_33 (by decide) ?_
        exact h_rret S hr hlk hS dX4_refusalOfAll_37 (by rw [rfAllF, if_neg c_4, if_neg c_11, if_pos c_17])
      · refine lv_aload_n hx hb dX4_refusalOfAll_20 rfl (lv_at hl 0 rfl) ?_
        refine hr_get S hE hW h0 inX4 (C := RX4) (T := TX4) (N := 9) rfl 0 (by decide) q_f_4_12 rfl dX4_refusalOfAll_21 ?_
        refine lv_iload_n hx hb dX4_refusalOfAll_24 rfl (lv_at hl 2 rfl) ?_
        refine lv_iload_n hx hb dX4_refusalOfAll_25 rfl (lv_at hl 1 rfl) ?_
        refine hc_r (va_runVN (As := [.int w, .int a]) (rest := []) S (c_X1_hasAct l G _ hW h1 w a) ⟨va_cnB 2 hts (gWS q_co_X1_hasAct) rfl rfl rfl (hE.nest 24 rfl) (hts _ q_in_1) (by decide +kernel) ⟨Nat.le_of_ble_eq_true rfl, Nat.le_of_ble_eq_true rfl⟩, hts _ q_im_X1_hasAct, hts _ q_se_X1_hasAct⟩ (hPreVr hE hS (hrecv hE hW h1 (q := (RX1, TX1, 2)) rfl)) rfl rfl hl.1 rfl (lv_room (Nat.le_of_ble_eq_true rfl)) dX4_refusalOfAll_26 ⟨Nat.le_of_ble_eq_true rfl, Nat.le_of_ble_eq_true rfl⟩) hS (fun locs hS => ?_)
        refine lv_if_eq (tgt := 36) hx hb dX4_refusalOfAll_29 (by decide) (fun c_29 => ?_) (fun c_29 => ?_)
        · refine lv_iconst (v := 3) hx hb dX4_refusalOfAll_36 (by decide) ?_
          exact h_rret S hr hlk hS dX4_refusalOfAll_37 (by rw [rfAllF, if_neg c_4, if_neg c_11, if_neg c_17, if_pos c_29])
        · refine lv_iconst (v := 0) hx hb dX4_refusalOfAll_32 (by decide) ?_
          refine lv_goto (tgt := 37) hx hb dX4_refusalOfAll_33 (by decide) ?_
          exact h_rret S hr hlk hS dX4_refusalOfAll_37 (by rw [rfAllF, if_neg c_4, if_neg c_11, if_neg c_17, if_neg c_29])
    · refine lv_iconst (v := 1) hx hb dX4_refusalOfAll_14 (by decide) ?_
      exact h_rret S hr hlk hS dX4_refusalOfAll_15 (by rw [rfAllF, if_neg c_4, if_pos c_11])
set_option maxRecDepth 100000 in
set_option maxHeartbeats 4000000 in
theorem c_X4_find (l : Launch) (G : hG) (H : Heap) {ad : Nat → Nat} {ct : Nat → Option va_E} (hW : hw G ad ct H) {n0 m0 tc pl st0 : Int32} {dv : Nat → Option Nat} (h0 : ct 0 = some (.inr (4, [.ref (ad 1), .ref (ad 2), .ref (ad 6), .ref (ad 7), .int n0, .int m0, .int tc, .int pl, .int st0]))) (h6 : ct 6 = some (.inl (G.2.1.2.2, 300, .inr (.inr (.inr (.inr dv)))))) (d : Int32)  : Met l yX4_find wzX4_find { frames := 0, cells := 0, slots := 0, locals := 0 } (hPr [.ref (ad 0), .int d] G H) (hQq (findF n0 dv d) H G.2.2.2) 0 0 (hA G.2.2.2) := by
  refine hMetr (Qc := fun H => hQq (findF n0 dv d) H G.2.2.2) (by decide) (Nat.le_of_ble_eq_true rfl) (fun p e s m below meth c ls S hr hlk hE hH hl => ?_)
  subst hH
  obtain ⟨hx, hb, hml, hown, hts⟩ := id S
  have hS : va_S (hA G.2.2.2) s.heap s.heap [] := va_S.rf
  have hl : lv_has ls 2 [(0, .ref (ad 0)), (1, .int d)] := hl
  refine lv_iload_n hx hb dX4_find_0 rfl (lv_at hl 1 rfl) ?_
  refine lv_if_lt (tgt := 30) hx hb dX4_find_1 (by decide) (fun c_1 => ?_) (fun c_1 => ?_)
  · refine lv_null hx hb dX4_find_30 ?_
    exact h_rqret S hr hlk hS dX4_find_31 (by simp [findF, va_rf, c_1])
  · refine lv_iload_n hx hb dX4_find_4 rfl (lv_at hl 1 rfl) ?_
    refine lv_aload_n hx hb dX4_find_5 rfl (lv_at hl 0 rfl) ?_
    refine hr_get S hE hW h0 inX4 (C := RX4) (T := TX4) (N := 9) rfl 4 (by decide) q_f_4_36 rfl dX4_find_6 ?_
    refine lv_icmp_ge (tgt := 30) hx hb dX4_find_9 (by decide) (fun c_9 => ?_) (fun c_9 => ?_)
    · refine lv_null hx hb dX4_find_30 ?_
      exact h_rqret S hr hlk hS dX4_find_31 (by simp [findF, va_rf, c_1, c_9])
    · refine lv_iload_n hx hb dX4_find_12 rfl (lv_at hl 1 rfl) ?_
      refine lv_aload_n hx hb dX4_find_13 rfl (lv_at hl 0 rfl) ?_
      refine hr_get S hE hW h0 inX4 (C := RX4) (T := TX4) (N := 9) rfl 2 (by decide) q_f_4_25 rfl dX4_find_14 ?_
      refine hr_alen S hE hW h6 2 rfl (v := 300) rfl dX4_find_17 ?_
      refine lv_icmp_ge (tgt := 30) hx hb dX4_find_18 (by decide) (fun c_18 => ?_) (fun c_18 => ?_)
      · refine lv_null hx hb dX4_find_30 ?_
        exact h_rqret S hr hlk hS dX4_find_31 (by simp [findF, va_rf, c_1, c_9, c_18])
      · refine lv_aload_n hx hb dX4_find_21 rfl (lv_at hl 0 rfl) ?_
        refine hr_get S hE hW h0 inX4 (C := RX4) (T := TX4) (N := 9) rfl 2 (by decide) q_f_4_25 rfl dX4_find_22 ?_
        refine lv_iload_n hx hb dX4_find_25 rfl (lv_at hl 1 rfl) ?_
        refine hr_aald S hE hW h6 (in_lt (N := 300) (by omega) rfl c_1 c_18) dX4_find_26 ?_
        refine lv_goto (tgt := 31) hx hb dX4_find_27 (by decide) ?_
        exact h_rqret S hr hlk hS dX4_find_31 (by simp [findF, va_rf, c_1, c_9, c_18])
set_option maxRecDepth 100000 in
set_option maxHeartbeats 4000000 in
theorem c_X4_answerToByte (l : Launch) (G : hG) (ad : Nat → Nat) (ct : Nat → Option va_E) {k : Nat} {t : Int32} {r : Nat → Value} {q : St} (hk100 : 100 ≤ k) (h1 : ct 1 = some (.inr (1, [.ref (ad 4), .ref (ad 5)]))) (h5 : ct 5 = some (.inl (G.2.1.1, 216, .inl selT))) (hd : dW G ad ct k t r q) (h4 : ct 4 = some (.inl (G.2.1.1, 18, .inl borT))) (co so : Int32)  : Met l yX4_answerToByte wzX4_answerToByte { frames := 125, cells := 0, slots := 0, locals := 2888 } (hPw [.ref (ad k), .int co, .int so] G ad ct) (hQi (fun rr ct1 => rr = (atbF t co so q).1 ∧ dW G ad ct1 k t r (atbF t co so q).2 ∧ ∀ j, j ≠ k → j ≠ 2 → j ≠ 3 → ct1 j = ct j) G ad) 0 0 (hA G.2.2.2) := by
  refine hMetw (by decide) (Nat.le_of_ble_eq_true rfl) (fun p e s m below meth c ls S hr hlk hE hW hl => ?_)
  obtain ⟨hx, hb, hml, hown, hts⟩ := id S
  have hS : va_S (hA G.2.2.2) s.heap s.heap [] := va_S.rf
  have hl : lv_has ls 5 [(0, .ref (ad k)), (1, .int co), (2, .int so)] := hl
  obtain ⟨hk, h2, h3⟩ := hd
  refine lv_iload_n hx hb dX4_answerToByte_0 rfl (lv_at hl 1 rfl) ?_
  refine lv_bipush (v := 15) hx hb dX4_answerToByte_1 (by decide) ?_
  refine lv_iand hx hb dX4_answerToByte_3 ?_
  refine lv_istore_n (lv' := [(3, .int (co &&& 15)), (0, .ref (ad k)), (1, .int co), (2, .int so)]) hx hb dX4_answerToByte_4 rfl hl (by decide) rfl (fun ls hl => ?_)
  refine lv_iload_n hx hb dX4_answerToByte_5 rfl (lv_at hl 2 rfl) ?_
  refine lv_iconst (v := 4) hx hb dX4_answerToByte_6 (by decide) ?_
  refine lv_ishr hx hb dX4_answerToByte_7 ?_
  refine lv_bipush (v := 7) hx hb dX4_answerToByte_8 (by decide) ?_
  refine lv_iand hx hb dX4_answerToByte_10 ?_
  refine lv_istore (lv' := [(4, .int ((co >>> (4 &&& 31)) &&& 7)), (3, .int (co &&& 15)), (0, .ref (ad k)), (1, .int co), (2, .int so)]) hx hb dX4_answerToByte_11 hl (by decide) rfl (fun ls hl => ?_)
  refine lv_aload_n hx hb dX4_answerToByte_13 rfl (lv_at hl 2 rfl) ?_
  refine lv_iload_n hx hb dX4_answerToByte_14 rfl (lv_at hl 1 rfl) ?_
  refine lv_iload hx hb dX4_answerToByte_15 (lv_at hl 0 rfl) ?_
  refine hc_r (va_runS (As := [.ref (ad k), .int (co &&& 15), .int ((co >>> (4 &&& 31)) &&& 7)]) (rest := []) S (c_X4_refusal l G _ hW (r := r) hk h1 h4 (co &&& 15) ((co >>> (4 &&& 31)) &&& 7)) (va_cwS 3 hts (gWSS q_l_4_46 q_st_X4_refusal q_in_4 q_co_X4_refusal) rfl rfl rfl (by decide +kernel) ⟨Nat.le_of_ble_eq_true rfl, Nat.le_of_ble_eq_true rfl⟩) (hPreSr hE hS) rfl rfl hl.1 rfl (lv_room (Nat.le_of_ble_eq_true rfl)) dX4_answerToByte_17 ⟨Nat.le_of_ble_eq_true rfl, Nat.le_of_ble_eq_true rfl⟩) hS (fun locs hS => ?_)
  refine lv_if_eq (tgt := 25) hx hb dX4_answerToByte_20 (by decide) (fun c_20 => ?_) (fun c_20 => ?_)
  · refine lv_aload_n hx hb dX4_answerToByte_25 rfl (lv_at hl 2 rfl) ?_
    refine lv_iload_n hx hb dX4_answerToByte_26 rfl (lv_at hl 1 rfl) ?_
    refine lv_iload_n hx hb dX4_answerToByte_27 rfl (lv_at hl 3 rfl) ?_
    refine lv_sipush (v := 128) hx hb dX4_answerToByte_28 (by decide) ?_
    refine lv_icmp_lt (tgt := 40) hx hb dX4_answerToByte_31 (by decide) (fun c_31 => ?_) (fun c_31 => ?_)
    · refine lv_iload_n hx hb dX4_answerToByte_40 rfl (lv_at hl 4 rfl) ?_
      refine hc_i (va_runVN (As := [.int (co &&& 15), .int so]) (rest := []) S (c_X0_answer l G ad _ (k := k) (t := t) (r := r) (q := q) hk100 h1 h5 ⟨hk, h2, h3⟩ (co &&& 15) so) ⟨va_cnB 2 hts (gWS q_co_X0_answer) rfl rfl rfl (hE.nest 20 rfl) (hts _ q_in_0) (by decide +kernel) ⟨Nat.le_of_ble_eq_true rfl, Nat.le_of_ble_eq_true rfl⟩, hts _ q_im_X0_answer, hts _ q_se_X0_answer⟩ (hPreVw hE hS (hrecv hE hW hk (q := (RX0, TX0, 13)) rfl) hW) rfl rfl hl.1 rfl (lv_room (Nat.le_of_ble_eq_true rfl)) dX4_answerToByte_41 ⟨Nat.le_of_ble_eq_true rfl, Nat.le_of_ble_eq_true rfl⟩) hS (fun rv_7 ct_1 H locs hp hW hS => ?_)
      obtain ⟨ev_6, ⟨h_2, h_3, h_4⟩, hg_5⟩ := hp
      subst ev_6
      have h_8 := (hg_5 1 (by omega) (by decide) (by decide)).trans h1
      have h_9 := (hg_5 5 (by omega) (by decide) (by decide)).trans h5
      have h_10 := (hg_5 4 (by omega) (by decide) (by decide)).trans h4
      exact h_iret S hr hlk hS hW dX4_answerToByte_44 (by rw [atbF, if_pos c_20, atbX, if_pos c_31]; exact ⟨rfl, ⟨h_2, h_3, h_4⟩, (fun j q0 q1 q2 => hg_5 j q0 q1 q2)⟩)
    · refine lv_iconst (v := 0) hx hb dX4_answerToByte_34 (by decide) ?_
      refine lv_iload_n hx hb dX4_answerToByte_35 rfl (lv_at hl 4 rfl) ?_
      refine lv_isub hx hb dX4_answerToByte_36 ?_
      refine lv_goto (tgt := 41) hx hb dX4_answerToByte_37 (by decide) ?_
      refine hc_i (va_runVN (As := [.int (co &&& 15), .int (0 - so)]) (rest := []) S (c_X0_answer l G ad _ (k := k) (t := t) (r := r) (q := q) hk100 h1 h5 ⟨hk, h2, h3⟩ (co &&& 15) (0 - so)) ⟨va_cnB 2 hts (gWS q_co_X0_answer) rfl rfl rfl (hE.nest 20 rfl) (hts _ q_in_0) (by decide +kernel) ⟨Nat.le_of_ble_eq_true rfl, Nat.le_of_ble_eq_true rfl⟩, hts _ q_im_X0_answer, hts _ q_se_X0_answer⟩ (hPreVw hE hS (hrecv hE hW hk (q := (RX0, TX0, 13)) rfl) hW) rfl rfl hl.1 rfl (lv_room (Nat.le_of_ble_eq_true rfl)) dX4_answerToByte_41 ⟨Nat.le_of_ble_eq_true rfl, Nat.le_of_ble_eq_true rfl⟩) hS (fun rv_17 ct_11 H locs hp hW hS => ?_)
      obtain ⟨ev_16, ⟨h_12, h_13, h_14⟩, hg_15⟩ := hp
      subst ev_16
      have h_18 := (hg_15 1 (by omega) (by decide) (by decide)).trans h1
      have h_19 := (hg_15 5 (by omega) (by decide) (by decide)).trans h5
      have h_20 := (hg_15 4 (by omega) (by decide) (by decide)).trans h4
      exact h_iret S hr hlk hS hW dX4_answerToByte_44 (by rw [atbF, if_pos c_20, atbX, if_neg c_31]; exact ⟨rfl, ⟨h_12, h_13, h_14⟩, (fun j q0 q1 q2 => hg_15 j q0 q1 q2)⟩)
  · refine lv_iconst (v := 0) hx hb dX4_answerToByte_23 (by decide) ?_
    exact h_iret S hr hlk hS hW dX4_answerToByte_24 (by rw [atbF, if_neg c_20]; exact ⟨rfl, ⟨hk, h2, h3⟩, (fun j q0 q1 q2 => rfl)⟩)
set_option maxRecDepth 100000 in
set_option maxHeartbeats 4000000 in
theorem c_X0_take (l : Launch) (G : hG) (ad : Nat → Nat) (ct : Nat → Option va_E) {k : Nat} {t tk lp ta : Int32} {r : Nat → Value} {q : St} (hk100 : 100 ≤ k) (h1 : ct 1 = some (.inr (1, [.ref (ad 4), .ref (ad 5)]))) (h5 : ct 5 = some (.inl (G.2.1.1, 216, .inl selT))) (h4 : ct 4 = some (.inl (G.2.1.1, 18, .inl borT))) (hk : ct k = some (.inr (0, [.ref (ad 1), .ref (ad 2), .int t, .int (takActF t), .int q.1, .int q.2.1, r 5, r 6, r 7, r 8, .int tk, .int lp, .int ta]))) (h2 : ct 2 = some (.inr (3, [.ref (ad 3), .int q.2.2.1]))) (h3 : ct 3 = some (.inl (G.2.1.1, 64, .inl q.2.2.2))) (x pu : Int32)  : Met l yX0_take wzX0_take { frames := 124, cells := 0, slots := 0, locals := 2866 } (hPw [.ref (ad k), .int x, .int pu] G ad ct) (hQv (fun ct1 => ct1 k = some (.inr (0, [.ref (ad 1), .ref (ad 2), .int t, .int (takActF t), .int (runS 40 t (selOfF selT t (takActF t)) x q).2.1, .int (runS 40 t (selOfF selT t (takActF t)) x q).2.2.1, r 5, r 6, r 7, r 8, .int (tk + 1), .int pu, .int (runS 40 t (selOfF selT t (takActF t)) x q).1])) ∧ ct1 2 = some (.inr (3, [.ref (ad 3), .int (runS 40 t (selOfF selT t (takActF t)) x q).2.2.2.1])) ∧ ct1 3 = some (.inl (G.2.1.1, 64, .inl (runS 40 t (selOfF selT t (takActF t)) x q).2.2.2.2)) ∧ ∀ j, j ≠ k → j ≠ 2 → j ≠ 3 → ct1 j = ct j) G ad) 0 0 (hA G.2.2.2) := by
  refine hMetw (by decide) (Nat.le_of_ble_eq_true rfl) (fun p e s m below meth c ls S hr hlk hE hW hl => ?_)
  obtain ⟨hx, hb, hml, hown, hts⟩ := id S
  have hS : va_S (hA G.2.2.2) s.heap s.heap [] := va_S.rf
  have hl : lv_has ls 3 [(0, .ref (ad k)), (1, .int x), (2, .int pu)] := hl
  refine lv_aload_n hx hb dX0_take_0 rfl (lv_at hl 0 rfl) ?_
  refine lv_dup hx hb dX0_take_1 rfl ?_
  refine hr_get S hE hW hk inX0 (C := RX0) (T := TX0) (N := 13) rfl 10 (by decide) q_f_0_54 rfl dX0_take_2 ?_
  refine lv_iconst (v := 1) hx hb dX0_take_5 (by decide) ?_
  refine lv_iadd hx hb dX0_take_6 ?_
  refine hr_put S hE hW hS hk inX0 (C := RX0) (T := TX0) (N := 13) tyX0_ok nmX0 rfl 10 (by decide) q_f_0_54 rfl rfl rfl (Nat.le_of_ble_eq_true rfl) dX0_take_7 (fun H locs ct_1 hW hk_2 hg_3 hz hS => ?_)
  have h_4 := (hg_3 1 (by omega)).trans h1
  have h_5 := (hg_3 5 (by omega)).trans h5
  have h_6 := (hg_3 4 (by omega)).trans h4
  have h_7 := (hg_3 2 (by omega)).trans h2
  have h_8 := (hg_3 3 (by omega)).trans h3
  have h_9 : ct_1 k = some (.inr (0, [.ref (ad 1), .ref (ad 2), .int t, .int (takActF t), .int q.1, .int q.2.1, r 5, r 6, r 7, r 8, .int (tk + 1), .int lp, .int ta])) := hk_2
  refine lv_aload_n hx hb dX0_take_10 rfl (lv_at hl 0 rfl) ?_
  refine lv_iload_n hx hb dX0_take_11 rfl (lv_at hl 2 rfl) ?_
  refine hr_put S hE hW hS h_9 inX0 (C := RX0) (T := TX0) (N := 13) tyX0_ok nmX0 rfl 11 (by decide) q_f_0_69 rfl rfl rfl (Nat.le_of_ble_eq_true rfl) dX0_take_12 (fun H locs ct_10 hW hk_11 hg_12 hz hS => ?_)
  have h_13 := (hg_12 1 (by omega)).trans h_4
  have h_14 := (hg_12 5 (by omega)).trans h_5
  have h_15 := (hg_12 4 (by omega)).trans h_6
  have h_16 := (hg_12 2 (by omega)).trans h_7
  have h_17 := (hg_12 3 (by omega)).trans h_8
  have h_18 : ct_10 k = some (.inr (0, [.ref (ad 1), .ref (ad 2), .int t, .int (takActF t), .int q.1, .int q.2.1, r 5, r 6, r 7, r 8, .int (tk + 1), .int pu, .int ta])) := hk_11
  refine lv_aload_n hx hb dX0_take_15 rfl (lv_at hl 0 rfl) ?_
  refine lv_aload_n hx hb dX0_take_16 rfl (lv_at hl 0 rfl) ?_
  refine lv_aload_n hx hb dX0_take_17 rfl (lv_at hl 0 rfl) ?_
  refine hr_get S hE hW h_18 inX0 (C := RX0) (T := TX0) (N := 13) rfl 3 (by decide) q_f_0_29 rfl dX0_take_18 ?_
  refine lv_iload_n hx hb dX0_take_21 rfl (lv_at hl 1 rfl) ?_
  refine lv_iconst (v := 0) hx hb dX0_take_22 (by decide) ?_
  refine hc_i (va_runV (As := [.int (takActF t), .int x, .int 0]) (rest := [.ref (ad k)]) S (c_X0_act l G ad _ 40 (RunC_all l G 40) (k := k) (t := t) (r := (rvL [r 5, r 6, r 7, r 8, .int (tk + 1), .int pu, .int ta])) (q := q) hk100 h_13 h_14 ⟨h_18, h_16, h_17⟩ 0 rfl (takActF t) x) (cwV 3 hts (gWSV q_l_0_72 q_im_X0_act q_se_X0_act q_in_0 q_co_X0_act) rfl rfl rfl (by decide +kernel) ⟨Nat.le_of_ble_eq_true rfl, Nat.le_of_ble_eq_true rfl⟩) (hPreVw hE hS (hrecv hE hW h_18 (q := (RX0, TX0, 13)) rfl) hW) rfl rfl hl.1 rfl (lv_room (Nat.le_of_ble_eq_true rfl)) dX0_take_23 ⟨Nat.le_of_ble_eq_true rfl, Nat.le_of_ble_eq_true rfl⟩) hS (fun rv_25 ct_19 H locs hp hW hS => ?_)
  obtain ⟨ev_24, ⟨h_20, h_21, h_22⟩, hg_23⟩ := hp
  subst ev_24
  have h_26 := (hg_23 1 (by omega) (by decide) (by decide)).trans h_13
  have h_27 := (hg_23 5 (by omega) (by decide) (by decide)).trans h_14
  have h_28 := (hg_23 4 (by omega) (by decide) (by decide)).trans h_15
  refine hr_put S hE hW hS h_20 inX0 (C := RX0) (T := TX0) (N := 13) tyX0_ok nmX0 rfl 12 (by decide) q_f_0_76 rfl rfl rfl (Nat.le_of_ble_eq_true rfl) dX0_take_26 (fun H locs ct_29 hW hk_30 hg_31 hz hS => ?_)
  have h_32 := (hg_31 2 (by omega)).trans h_21
  have h_33 := (hg_31 3 (by omega)).trans h_22
  have h_34 := (hg_31 1 (by omega)).trans h_26
  have h_35 := (hg_31 5 (by omega)).trans h_27
  have h_36 := (hg_31 4 (by omega)).trans h_28
  have h_37 : ct_29 k = some (.inr (0, [.ref (ad 1), .ref (ad 2), .int t, .int (takActF t), .int ((runS 40 t (selOfF selT t (takActF t)) x q).2.1), .int ((runS 40 t (selOfF selT t (takActF t)) x q).2.2.1), r 5, r 6, r 7, r 8, .int (tk + 1), .int pu, .int ((runS 40 t (selOfF selT t (takActF t)) x q).1)])) := hk_30
  exact h_vret S hr hlk hS hW dX0_take_29 ⟨h_37, h_32, h_33, (fun j q0 q1 q2 => (hg_31 j q0).trans ((hg_23 j q0 q1 q2).trans ((hg_12 j q0).trans (hg_3 j q0))))⟩
