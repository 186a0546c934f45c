set_option maxRecDepth 100000 in
set_option maxHeartbeats 4000000 in
theorem c_X1_isType (l : Launch) (G : hG) (H : Heap) (x : Int32)  : Met l yX1_isType wzX1_isType { frames := 0, cells := 0, slots := 0, locals := 0 } (hPr [.int x] G H) (hQr (isTypeF x) H G.2.2.2) 0 0 (hA G.2.2.2) := by
  refine hMetr (Qc := fun H => hQr (isTypeF x) H G.2.2.2) (by decide) (Nat.le_of_ble_eq_true rfl) (fun p e s m below meth c ls S hr hlk hE hH hl => ?_)
  subst hH
  obtain ⟨hx, hb, hml, hown, hts⟩ := id S
  have hS : va_S (hA G.2.2.2) s.heap s.heap [] := va_S.rf
  have hl : lv_has ls 1 [(0, .int x)] := hl
  refine lv_iload_n hx hb dX1_isType_0 rfl (lv_at hl 0 rfl) ?_
  refine lv_if_lt (tgt := 14) hx hb dX1_isType_1 (by decide) (fun c_1 => ?_) (fun c_1 => ?_)
  · refine lv_iconst (v := 0) hx hb dX1_isType_14 (by decide) ?_
    exact h_rzret S hr hlk hS dX1_isType_15 (isTypeF_b x) (by simp [isTypeF, c_1])
  · refine lv_iload_n hx hb dX1_isType_4 rfl (lv_at hl 0 rfl) ?_
    refine lv_bipush (v := 18) hx hb dX1_isType_5 (by decide) ?_
    refine lv_icmp_ge (tgt := 14) hx hb dX1_isType_7 (by decide) (fun c_7 => ?_) (fun c_7 => ?_)
    · refine lv_iconst (v := 0) hx hb dX1_isType_14 (by decide) ?_
      exact h_rzret S hr hlk hS dX1_isType_15 (isTypeF_b x) (by simp [isTypeF, c_1, c_7])
    · refine lv_iconst (v := 1) hx hb dX1_isType_10 (by decide) ?_
      refine lv_goto (tgt := 15) hx hb dX1_isType_11 (by decide) ?_
      exact h_rzret S hr hlk hS dX1_isType_15 (isTypeF_b x) (by simp [isTypeF, c_1, c_7])
set_option maxRecDepth 100000 in
set_option maxHeartbeats 4000000 in
theorem c_X1_isInterface (l : Launch) (G : hG) (H : Heap) (x : Int32)  : Met l yX1_isInterface wzX1_isInterface { frames := 0, cells := 0, slots := 0, locals := 0 } (hPr [.int x] G H) (hQr (isIfcF x) H G.2.2.2) 0 0 (hA G.2.2.2) := by
  refine hMetr (Qc := fun H => hQr (isIfcF x) H G.2.2.2) (by decide) (Nat.le_of_ble_eq_true rfl) (fun p e s m below meth c ls S hr hlk hE hH hl => ?_)
  subst hH
  obtain ⟨hx, hb, hml, hown, hts⟩ := id S
  have hS : va_S (hA G.2.2.2) s.heap s.heap [] := va_S.rf
  have hl : lv_has ls 1 [(0, .int x)] := hl
  refine lv_iload_n hx hb dX1_isInterface_0 rfl (lv_at hl 0 rfl) ?_
  refine lv_iconst (v := 2) hx hb dX1_isInterface_1 (by decide) ?_
  refine lv_icmp_lt (tgt := 15) hx hb dX1_isInterface_2 (by decide) (fun c_2 => ?_) (fun c_2 => ?_)
  · refine lv_iconst (v := 0) hx hb dX1_isInterface_15 (by decide) ?_
    exact h_rzret S hr hlk hS dX1_isInterface_16 (isIfcF_b x) (by simp [isIfcF, c_2])
  · refine lv_iload_n hx hb dX1_isInterface_5 rfl (lv_at hl 0 rfl) ?_
    refine lv_bipush (v := 6) hx hb dX1_isInterface_6 (by decide) ?_
    refine lv_icmp_gt (tgt := 15) hx hb dX1_isInterface_8 (by decide) (fun c_8 => ?_) (fun c_8 => ?_)
    · refine lv_iconst (v := 0) hx hb dX1_isInterface_15 (by decide) ?_
      exact h_rzret S hr hlk hS dX1_isInterface_16 (isIfcF_b x) (by simp [isIfcF, c_2, c_8])
    · refine lv_iconst (v := 1) hx hb dX1_isInterface_11 (by decide) ?_
      refine lv_goto (tgt := 16) hx hb dX1_isInterface_12 (by decide) ?_
      exact h_rzret S hr hlk hS dX1_isInterface_16 (isIfcF_b x) (by simp [isIfcF, c_2, c_8])
set_option maxRecDepth 100000 in
set_option maxHeartbeats 4000000 in
theorem c_X1_holds (l : Launch) (G : hG) (H : Heap) (b n : Int32)  : Met l yX1_holds wzX1_holds { frames := 0, cells := 0, slots := 0, locals := 0 } (hPr [.int b, .int n] G H) (hQr (holdsF b n) H G.2.2.2) 0 0 (hA G.2.2.2) := by
  refine hMetr (Qc := fun H => hQr (holdsF b n) H G.2.2.2) (by decide) (Nat.le_of_ble_eq_true rfl) (fun p e s m below meth c ls S hr hlk hE hH hl => ?_)
  subst hH
  obtain ⟨hx, hb, hml, hown, hts⟩ := id S
  have hS : va_S (hA G.2.2.2) s.heap s.heap [] := va_S.rf
  have hl : lv_has ls 2 [(0, .int b), (1, .int n)] := hl
  refine lv_iload_n hx hb dX1_holds_0 rfl (lv_at hl 0 rfl) ?_
  refine lv_iload_n hx hb dX1_holds_1 rfl (lv_at hl 1 rfl) ?_
  refine lv_ishr hx hb dX1_holds_2 ?_
  refine lv_iconst (v := 1) hx hb dX1_holds_3 (by decide) ?_
  refine lv_iand hx hb dX1_holds_4 ?_
  refine lv_iconst (v := 1) hx hb dX1_holds_5 (by decide) ?_
  refine lv_icmp_ne (tgt := 13) hx hb dX1_holds_6 (by decide) (fun c_6 => ?_) (fun c_6 => ?_)
  · refine lv_iconst (v := 0) hx hb dX1_holds_13 (by decide) ?_
    exact h_rzret S hr hlk hS dX1_holds_14 (holdsF_b b n) (by simp [holdsF, c_6])
  · refine lv_iconst (v := 1) hx hb dX1_holds_9 (by decide) ?_
    refine lv_goto (tgt := 14) hx hb dX1_holds_10 (by decide) ?_
    exact h_rzret S hr hlk hS dX1_holds_14 (holdsF_b b n) (by simp [holdsF, c_6])
set_option maxRecDepth 100000 in
set_option maxHeartbeats 4000000 in
theorem c_X4_isAct (l : Launch) (G : hG) (H : Heap) (x : Int32)  : Met l yX4_isAct wzX4_isAct { frames := 0, cells := 0, slots := 0, locals := 0 } (hPr [.int x] G H) (hQr (isActF x) H G.2.2.2) 0 0 (hA G.2.2.2) := by
  refine hMetr (Qc := fun H => hQr (isActF x) H G.2.2.2) (by decide) (Nat.le_of_ble_eq_true rfl) (fun p e s m below meth c ls S hr hlk hE hH hl => ?_)
  subst hH
  obtain ⟨hx, hb, hml, hown, hts⟩ := id S
  have hS : va_S (hA G.2.2.2) s.heap s.heap [] := va_S.rf
  have hl : lv_has ls 1 [(0, .int x)] := hl
  refine lv_iload_n hx hb dX4_isAct_0 rfl (lv_at hl 0 rfl) ?_
  refine lv_if_lt (tgt := 14) hx hb dX4_isAct_1 (by decide) (fun c_1 => ?_) (fun c_1 => ?_)
  · refine lv_iconst (v := 0) hx hb dX4_isAct_14 (by decide) ?_
    exact h_rzret S hr hlk hS dX4_isAct_15 (isActF_b x) (by simp [isActF, c_1])
  · refine lv_iload_n hx hb dX4_isAct_4 rfl (lv_at hl 0 rfl) ?_
    refine lv_bipush (v := 12) hx hb dX4_isAct_5 (by decide) ?_
    refine lv_icmp_ge (tgt := 14) hx hb dX4_isAct_7 (by decide) (fun c_7 => ?_) (fun c_7 => ?_)
    · refine lv_iconst (v := 0) hx hb dX4_isAct_14 (by decide) ?_
      exact h_rzret S hr hlk hS dX4_isAct_15 (isActF_b x) (by simp [isActF, c_1, c_7])
    · refine lv_iconst (v := 1) hx hb dX4_isAct_10 (by decide) ?_
      refine lv_goto (tgt := 15) hx hb dX4_isAct_11 (by decide) ?_
      exact h_rzret S hr hlk hS dX4_isAct_15 (isActF_b x) (by simp [isActF, c_1, c_7])
set_option maxRecDepth 100000 in
set_option maxHeartbeats 4000000 in
theorem c_X4_isWay (l : Launch) (G : hG) (H : Heap) (x : Int32)  : Met l yX4_isWay wzX4_isWay { frames := 0, cells := 0, slots := 0, locals := 0 } (hPr [.int x] G H) (hQr (isWayF x) H G.2.2.2) 0 0 (hA G.2.2.2) := by
  refine hMetr (Qc := fun H => hQr (isWayF x) H G.2.2.2) (by decide) (Nat.le_of_ble_eq_true rfl) (fun p e s m below meth c ls S hr hlk hE hH hl => ?_)
  subst hH
  obtain ⟨hx, hb, hml, hown, hts⟩ := id S
  have hS : va_S (hA G.2.2.2) s.heap s.heap [] := va_S.rf
  have hl : lv_has ls 1 [(0, .int x)] := hl
  refine lv_iload_n hx hb dX4_isWay_0 rfl (lv_at hl 0 rfl) ?_
  refine lv_if_lt (tgt := 14) hx hb dX4_isWay_1 (by decide) (fun c_1 => ?_) (fun c_1 => ?_)
  · refine lv_iconst (v := 0) hx hb dX4_isWay_14 (by decide) ?_
    exact h_rzret S hr hlk hS dX4_isWay_15 (isWayF_b x) (by simp [isWayF, c_1])
  · refine lv_iload_n hx hb dX4_isWay_4 rfl (lv_at hl 0 rfl) ?_
    refine lv_bipush (v := 7) hx hb dX4_isWay_5 (by decide) ?_
    refine lv_icmp_ge (tgt := 14) hx hb dX4_isWay_7 (by decide) (fun c_7 => ?_) (fun c_7 => ?_)
    · refine lv_iconst (v := 0) hx hb dX4_isWay_14 (by decide) ?_
      exact h_rzret S hr hlk hS dX4_isWay_15 (isWayF_b x) (by simp [isWayF, c_1, c_7])
    · refine lv_iconst (v := 1) hx hb dX4_isWay_10 (by decide) ?_
      refine lv_goto (tgt := 15) hx hb dX4_isWay_11 (by decide) ?_
      exact h_rzret S hr hlk hS dX4_isWay_15 (isWayF_b x) (by simp [isWayF, c_1, c_7])
set_option maxRecDepth 100000 in
set_option maxHeartbeats 4000000 in
theorem c_X1_parentOf (l : Launch) (G : hG) (H : Heap) (t : Int32)  : Met l yX1_parentOf wzX1_parentOf { frames := 1, cells := 0, slots := 0, locals := 20 } (hPr [.int t] G H) (hQr (parentF t) H G.2.2.2) 0 0 (hA G.2.2.2) := by
  refine hMetr (Qc := fun H => hQr (parentF t) H G.2.2.2) (by decide) (Nat.le_of_ble_eq_true rfl) (fun p e s m below meth c ls S hr hlk hE hH hl => ?_)
  subst hH
  obtain ⟨hx, hb, hml, hown, hts⟩ := id S
  have hS : va_S (hA G.2.2.2) s.heap s.heap [] := va_S.rf
  have hl : lv_has ls 1 [(0, .int t)] := hl
  refine lv_iload_n hx hb dX1_parentOf_0 rfl (lv_at hl 0 rfl) ?_
  refine hc_r (va_runS (As := [.int t]) (rest := []) S (c_X1_isType l G _ t) (va_cwS 1 hts (gWSS q_l_1_26 q_st_X1_isType q_in_1 q_co_X1_isType) rfl rfl rfl (by decide +kernel) ⟨Nat.le_of_ble_eq_true rfl, Nat.le_of_ble_eq_true rfl⟩) (hPreSr hE hS) rfl rfl hl.1 rfl (lv_room (Nat.le_of_ble_eq_true rfl)) dX1_parentOf_1 ⟨Nat.le_of_ble_eq_true rfl, Nat.le_of_ble_eq_true rfl⟩) hS (fun locs hS => ?_)
  refine lv_if_eq (tgt := 15) hx hb dX1_parentOf_4 (by decide) (fun c_4 => ?_) (fun c_4 => ?_)
  · refine lv_iconst (v := (-1)) hx hb dX1_parentOf_15 (by decide) ?_
    exact h_rret S hr hlk hS dX1_parentOf_16 (by simp [parentF, c_4])
  · refine va_gets hx hb hE.2.2.2.1.1 hS hown (hts _ q_f_1_30) (fun _ h => h) dX1_parentOf_7 ?_
    refine lv_iload_n hx hb dX1_parentOf_10 rfl (lv_at hl 0 rfl) ?_
    refine va_ti hx hb hE.2.2.2.1.2 hS (isTypeF_in c_4) (v := .int (tab tabPl (t).toNatClampNeg)) rfl dX1_parentOf_11 ?_
    refine lv_goto (tgt := 16) hx hb dX1_parentOf_12 (by decide) ?_
    exact h_rret S hr hlk hS dX1_parentOf_16 (by simp [parentF, c_4])
set_option maxRecDepth 100000 in
set_option maxHeartbeats 4000000 in
theorem c_X1_bodyOf (l : Launch) (G : hG) (H : Heap) (t a : Int32)  : Met l yX1_bodyOf wzX1_bodyOf { frames := 1, cells := 0, slots := 0, locals := 20 } (hPr [.int t, .int a] G H) (hQr (bodyF t a) H G.2.2.2) 0 0 (hA G.2.2.2) := by
  refine hMetr (Qc := fun H => hQr (bodyF t a) H G.2.2.2) (by decide) (Nat.le_of_ble_eq_true rfl) (fun p e s m below meth c ls S hr hlk hE hH hl => ?_)
  subst hH
  obtain ⟨hx, hb, hml, hown, hts⟩ := id S
  have hS : va_S (hA G.2.2.2) s.heap s.heap [] := va_S.rf
  have hl : lv_has ls 2 [(0, .int t), (1, .int a)] := hl
  refine lv_iload_n hx hb dX1_bodyOf_0 rfl (lv_at hl 0 rfl) ?_
  refine hc_r (va_runS (As := [.int t]) (rest := []) S (c_X1_isType l G _ t) (va_cwS 1 hts (gWSS q_l_1_26 q_st_X1_isType q_in_1 q_co_X1_isType) rfl rfl rfl (by decide +kernel) ⟨Nat.le_of_ble_eq_true rfl, Nat.le_of_ble_eq_true rfl⟩) (hPreSr hE hS) rfl rfl hl.1 rfl (lv_room (Nat.le_of_ble_eq_true rfl)) dX1_bodyOf_1 ⟨Nat.le_of_ble_eq_true rfl, Nat.le_of_ble_eq_true rfl⟩) hS (fun locs hS => ?_)
  refine lv_if_eq (tgt := 27) hx hb dX1_bodyOf_4 (by decide) (fun c_4 => ?_) (fun c_4 => ?_)
  · refine lv_iconst (v := 0) hx hb dX1_bodyOf_27 (by decide) ?_
    exact h_rret S hr hlk hS dX1_bodyOf_28 (by simp [bodyF, c_4])
  · refine lv_iload_n hx hb dX1_bodyOf_7 rfl (lv_at hl 1 rfl) ?_
    refine hc_r (va_runSN (As := [.int a]) (rest := []) S (c_X4_isAct l G _ a) ⟨va_cnB 1 hts (gWS q_co_X4_isAct) rfl rfl rfl (hE.nest 9 rfl) (hts _ q_in_4) (by decide +kernel) ⟨Nat.le_of_ble_eq_true rfl, Nat.le_of_ble_eq_true rfl⟩, hts _ q_st_X4_isAct, trivial⟩ (hPreSr hE hS) rfl rfl hl.1 rfl (lv_room (Nat.le_of_ble_eq_true rfl)) dX1_bodyOf_8 ⟨Nat.le_of_ble_eq_true rfl, Nat.le_of_ble_eq_true rfl⟩) hS (fun locs hS => ?_)
    refine lv_if_eq (tgt := 27) hx hb dX1_bodyOf_11 (by decide) (fun c_11 => ?_) (fun c_11 => ?_)
    · refine lv_iconst (v := 0) hx hb dX1_bodyOf_27 (by decide) ?_
      exact h_rret S hr hlk hS dX1_bodyOf_28 (by simp [bodyF, c_4, c_11])
    · refine va_gets hx hb hE.2.2.2.2.2.2.1 hS hown (hts _ q_f_1_36) (fun _ h => h) dX1_bodyOf_14 ?_
      refine lv_iload_n hx hb dX1_bodyOf_17 rfl (lv_at hl 0 rfl) ?_
      refine lv_bipush (v := 12) hx hb dX1_bodyOf_18 (by decide) ?_
      refine lv_imul hx hb dX1_bodyOf_20 ?_
      refine lv_iload_n hx hb dX1_bodyOf_21 rfl (lv_at hl 1 rfl) ?_
      refine lv_iadd hx hb dX1_bodyOf_22 ?_
      refine va_ti hx hb hE.2.2.2.2.2.2.2 hS (in_ta (isTypeF_in c_4) (isActF_in c_11)) (v := .int (tab tabBl ((t * 12) + a).toNatClampNeg)) rfl dX1_bodyOf_23 ?_
      refine lv_goto (tgt := 28) hx hb dX1_bodyOf_24 (by decide) ?_
      exact h_rret S hr hlk hS dX1_bodyOf_28 (by simp [bodyF, c_4, c_11])
set_option maxRecDepth 100000 in
set_option maxHeartbeats 4000000 in
theorem c_X1_interfacesOf (l : Launch) (G : hG) (H : Heap) {ad : Nat → Nat} {ct : Nat → Option va_E} (hW : hw G ad ct H) {f : Nat → Int32} (h4 : ct 4 = some (.inl (G.2.1.1, 18, .inl f))) (t : Int32)  : Met l yX1_interfacesOf wzX1_interfacesOf { frames := 2, cells := 0, slots := 0, locals := 40 } (hPr [.int t, .ref (ad 4)] G H) (hQr (ifcF f t) H G.2.2.2) 0 0 (hA G.2.2.2) := by
  refine hMetr (Qc := fun H => hQr (ifcF f t) H G.2.2.2) (by decide) (Nat.le_of_ble_eq_true rfl) (fun p e s m below meth c ls S hr hlk hE hH hl => ?_)
  subst hH
  obtain ⟨hx, hb, hml, hown, hts⟩ := id S
  have hS : va_S (hA G.2.2.2) s.heap s.heap [] := va_S.rf
  have hl : lv_has ls 5 [(0, .int t), (1, .ref (ad 4))] := hl
  refine lv_iload_n hx hb dX1_interfacesOf_0 rfl (lv_at hl 0 rfl) ?_
  refine hc_r (va_runS (As := [.int t]) (rest := []) S (c_X1_isType l G _ t) (va_cwS 1 hts (gWSS q_l_1_26 q_st_X1_isType q_in_1 q_co_X1_isType) rfl rfl rfl (by decide +kernel) ⟨Nat.le_of_ble_eq_true rfl, Nat.le_of_ble_eq_true rfl⟩) (hPreSr hE hS) rfl rfl hl.1 rfl (lv_room (Nat.le_of_ble_eq_true rfl)) dX1_interfacesOf_1 ⟨Nat.le_of_ble_eq_true rfl, Nat.le_of_ble_eq_true rfl⟩) hS (fun locs hS => ?_)
  refine lv_if_ne (tgt := 9) hx hb dX1_interfacesOf_4 (by decide) (fun c_4 => ?_) (fun c_4 => ?_)
  · refine lv_iload_n hx hb dX1_interfacesOf_9 rfl (lv_at hl 0 rfl) ?_
    refine hc_r (va_runS (As := [.int t]) (rest := []) S (c_X1_parentOf l G _ t) (va_cwS 1 hts (gWSS q_l_1_43 q_st_X1_parentOf q_in_1 q_co_X1_parentOf) rfl rfl rfl (by decide +kernel) ⟨Nat.le_of_ble_eq_true rfl, Nat.le_of_ble_eq_true rfl⟩) (hPreSr hE hS) rfl rfl hl.1 rfl (lv_room (Nat.le_of_ble_eq_true rfl)) dX1_interfacesOf_10 ⟨Nat.le_of_ble_eq_true rfl, Nat.le_of_ble_eq_true rfl⟩) hS (fun locs hS => ?_)
    refine lv_istore_n (lv' := [(2, .int (parentF t)), (0, .int t), (1, .ref (ad 4))]) hx hb dX1_interfacesOf_13 rfl hl (by decide) rfl (fun ls hl => ?_)
    refine lv_iload_n hx hb dX1_interfacesOf_14 rfl (lv_at hl 1 rfl) ?_
    refine hc_r (va_runS (As := [.int t]) (rest := []) S (c_X1_isInterface l G _ t) (va_cwS 1 hts (gWSS q_l_1_47 q_st_X1_isInterface q_in_1 q_co_X1_isInterface) rfl rfl rfl (by decide +kernel) ⟨Nat.le_of_ble_eq_true rfl, Nat.le_of_ble_eq_true rfl⟩) (hPreSr hE hS) rfl rfl hl.1 rfl (lv_room (Nat.le_of_ble_eq_true rfl)) dX1_interfacesOf_15 ⟨Nat.le_of_ble_eq_true rfl, Nat.le_of_ble_eq_true rfl⟩) hS (fun locs hS => ?_)
    refine lv_if_eq (tgt := 27) hx hb dX1_interfacesOf_18 (by decide) (fun c_18 => ?_) (fun c_18 => ?_)
    · refine lv_iconst (v := 0) hx hb dX1_interfacesOf_27 (by decide) ?_
      refine lv_istore_n (lv' := [(3, .int 0), (2, .int (parentF t)), (0, .int t), (1, .ref (ad 4))]) hx hb dX1_interfacesOf_28 rfl hl (by decide) rfl (fun ls hl => ?_)
      refine lv_iload_n hx hb dX1_interfacesOf_29 rfl (lv_at hl 1 rfl) ?_
      refine hc_r (va_runS (As := [.int (parentF t)]) (rest := []) S (c_X1_isType l G _ (parentF t)) (va_cwS 1 hts (gWSS q_l_1_26 q_st_X1_isType q_in_1 q_co_X1_isType) rfl rfl rfl (by decide +kernel) ⟨Nat.le_of_ble_eq_true rfl, Nat.le_of_ble_eq_true rfl⟩) (hPreSr hE hS) rfl rfl hl.1 rfl (lv_room (Nat.le_of_ble_eq_true rfl)) dX1_interfacesOf_30 ⟨Nat.le_of_ble_eq_true rfl, Nat.le_of_ble_eq_true rfl⟩) hS (fun locs hS => ?_)
      refine lv_if_eq (tgt := 42) hx hb dX1_interfacesOf_33 (by decide) (fun c_33 => ?_) (fun c_33 => ?_)
      · refine lv_iconst (v := 2) hx hb dX1_interfacesOf_42 (by decide) ?_
        refine lv_istore (lv' := [(4, .int 2), (3, .int 0), (2, .int (parentF t)), (0, .int t), (1, .ref (ad 4))]) hx hb dX1_interfacesOf_43 hl (by decide) rfl (fun ls hl => ?_)
        have loop : ∀ (n k : Nat) (b : Int32) (locs : List Loc) (ls : Array Slot), n + k = 7 → (ifcF f t = ifcL f t n k b) → va_S (hA G.2.2.2) s.heap s.heap locs → lv_has ls 5 [(4, .int (nI k)), (3, .int b), (0, .int t), (1, .ref (ad 4))] → W p l e { frames := 2, cells := 0, slots := 0, locals := 40 } s m ([.int t, .ref (ad 4)] : List Value).toArray below meth c s.heap locs 0 0 (MQ below (hQr (ifcF f t) s.heap G.2.2.2) ([.int t, .ref (ad 4)] : List Value).toArray s 0 0 (hA G.2.2.2)) (F0 m 45 ls []) := by
          intro n
          induction n with
          | zero =>
            intro k b locs ls hnk hv hS hl
            have hk : k = 7 := by omega
            subst hk
            refine lv_iload hx hb dX1_interfacesOf_45 (lv_at hl 0 rfl) ?_
            refine lv_bipush (v := 6) hx hb dX1_interfacesOf_47 (by decide) ?_
            refine lv_icmp_gt (tgt := 78) hx hb dX1_interfacesOf_49 (by decide) (fun _ => ?_) (fun q => absurd (by decide) q)
            refine lv_iload_n hx hb dX1_interfacesOf_78 rfl (lv_at hl 1 rfl) ?_
            exact h_rret S hr hlk hS dX1_interfacesOf_79 (by rw [hv]; simp [ifcL, c_4, c_18, c_33])
          | succ n ih =>
            intro k b locs ls hnk hv hS hl
            refine lv_iload hx hb dX1_interfacesOf_45 (lv_at hl 0 rfl) ?_
            refine lv_bipush (v := 6) hx hb dX1_interfacesOf_47 (by decide) ?_
            refine lv_icmp_gt (tgt := 78) hx hb dX1_interfacesOf_49 (by decide) (fun q => absurd q (le6 (by omega))) (fun _ => ?_)
            refine va_gets hx hb hE.2.2.2.2.1.1 hS hown (hts _ q_f_1_50) (fun _ h => h) dX1_interfacesOf_52 ?_
            refine lv_iload_n hx hb dX1_interfacesOf_55 rfl (lv_at hl 2 rfl) ?_
            refine va_ti hx hb hE.2.2.2.2.1.2 hS (isTypeF_in c_4) (v := .int (tab tabNl (t).toNatClampNeg)) rfl dX1_interfacesOf_56 ?_
            refine lv_iload hx hb dX1_interfacesOf_57 (lv_at hl 0 rfl) ?_
            refine hc_r (va_runS (As := [.int (tab tabNl (t).toNatClampNeg), .int (nI k)]) (rest := []) S (c_X1_holds l G _ (tab tabNl (t).toNatClampNeg) (nI k)) (va_cwS 2 hts (gWSS q_l_1_39 q_st_X1_holds q_in_1 q_co_X1_holds) rfl rfl rfl (by decide +kernel) ⟨Nat.le_of_ble_eq_true rfl, Nat.le_of_ble_eq_true rfl⟩) (hPreSr hE hS) rfl rfl hl.1 rfl (lv_room (Nat.le_of_ble_eq_true rfl)) dX1_interfacesOf_59 ⟨Nat.le_of_ble_eq_true rfl, Nat.le_of_ble_eq_true rfl⟩) hS (fun locs hS => ?_)
            refine lv_if_eq (tgt := 72) hx hb dX1_interfacesOf_62 (by decide) (fun c_62 => ?_) (fun c_62 => ?_)
            · refine lv_iinc (v := (nI (k + 1))) (lv' := [(4, .int (nI (k + 1))), (3, .int b), (0, .int t), (1, .ref (ad 4))]) hx hb dX1_interfacesOf_72 hl (k := 0) rfl (nI_1 k) (by decide) rfl (fun ls hl => ?_)
              refine lv_goto (tgt := 45) hx hb dX1_interfacesOf_75 (by decide) ?_
              exact ih (k + 1) b _ _ (by omega) (by rw [hv]; simp [ifcL, c_62]) hS (lv_sub hl [0, 1, 2, 3] rfl)
            · refine lv_iload_n hx hb dX1_interfacesOf_65 rfl (lv_at hl 1 rfl) ?_
              refine lv_aload_n hx hb dX1_interfacesOf_66 rfl (lv_at hl 3 rfl) ?_
              refine lv_iload hx hb dX1_interfacesOf_67 (lv_at hl 0 rfl) ?_
              refine hr_ialdk S hE hW h4 (j := k) rfl (by omega) (by decide) dX1_interfacesOf_69 ?_
              refine lv_ior hx hb dX1_interfacesOf_70 ?_
              refine lv_istore_n (lv' := [(3, .int (b ||| (f k))), (4, .int (nI k)), (0, .int t), (1, .ref (ad 4))]) hx hb dX1_interfacesOf_71 rfl hl (by decide) rfl (fun ls hl => ?_)
              refine lv_iinc (v := (nI (k + 1))) (lv' := [(4, .int (nI (k + 1))), (3, .int (b ||| (f k))), (0, .int t), (1, .ref (ad 4))]) hx hb dX1_interfacesOf_72 hl (k := 1) rfl (nI_1 k) (by decide) rfl (fun ls hl => ?_)
              refine lv_goto (tgt := 45) hx hb dX1_interfacesOf_75 (by decide) ?_
              exact ih (k + 1) (b ||| (f k)) _ _ (by omega) (by rw [hv]; simp [ifcL, c_62]) hS (lv_sub hl [0, 1, 2, 3] rfl)
        exact loop 5 2 0 _ _ (by decide) (by simp [ifcF, ifcB, ifcU, c_4, c_18, c_33]) hS (lv_sub hl [0, 1, 3, 4] rfl)
      · refine lv_iload_n hx hb dX1_interfacesOf_36 rfl (lv_at hl 0 rfl) ?_
        refine lv_aload_n hx hb dX1_interfacesOf_37 rfl (lv_at hl 3 rfl) ?_
        refine lv_iload_n hx hb dX1_interfacesOf_38 rfl (lv_at hl 1 rfl) ?_
        refine hr_iald S hE hW h4 (isTypeF_in c_33) dX1_interfacesOf_39 ?_
        refine lv_ior hx hb dX1_interfacesOf_40 ?_
        refine lv_istore_n (lv' := [(3, .int (0 ||| (f (parentF t).toNatClampNeg))), (2, .int (parentF t)), (0, .int t), (1, .ref (ad 4))]) hx hb dX1_interfacesOf_41 rfl hl (by decide) rfl (fun ls hl => ?_)
        refine lv_iconst (v := 2) hx hb dX1_interfacesOf_42 (by decide) ?_
        refine lv_istore (lv' := [(4, .int 2), (3, .int (0 ||| (f (parentF t).toNatClampNeg))), (2, .int (parentF t)), (0, .int t), (1, .ref (ad 4))]) hx hb dX1_interfacesOf_43 hl (by decide) rfl (fun ls hl => ?_)
        have loop : ∀ (n k : Nat) (b : Int32) (locs : List Loc) (ls : Array Slot), n + k = 7 → (ifcF f t = ifcL f t n k b) → va_S (hA G.2.2.2) s.heap s.heap locs → lv_has ls 5 [(4, .int (nI k)), (3, .int b), (0, .int t), (1, .ref (ad 4))] → W p l e { frames := 2, cells := 0, slots := 0, locals := 40 } s m ([.int t, .ref (ad 4)] : List Value).toArray below meth c s.heap locs 0 0 (MQ below (hQr (ifcF f t) s.heap G.2.2.2) ([.int t, .ref (ad 4)] : List Value).toArray s 0 0 (hA G.2.2.2)) (F0 m 45 ls []) := by
          intro n
          induction n with
          | zero =>
            intro k b locs ls hnk hv hS hl
            have hk : k = 7 := by omega
            subst hk
            refine lv_iload hx hb dX1_interfacesOf_45 (lv_at hl 0 rfl) ?_
            refine lv_bipush (v := 6) hx hb dX1_interfacesOf_47 (by decide) ?_
            refine lv_icmp_gt (tgt := 78) hx hb dX1_interfacesOf_49 (by decide) (fun _ => ?_) (fun q => absurd (by decide) q)
            refine lv_iload_n hx hb dX1_interfacesOf_78 rfl (lv_at hl 1 rfl) ?_
            exact h_rret S hr hlk hS dX1_interfacesOf_79 (by rw [hv]; simp [ifcL, c_4, c_18, c_33])
          | succ n ih =>
            intro k b locs ls hnk hv hS hl
            refine lv_iload hx hb dX1_interfacesOf_45 (lv_at hl 0 rfl) ?_
            refine lv_bipush (v := 6) hx hb dX1_interfacesOf_47 (by decide) ?_
            refine lv_icmp_gt (tgt := 78) hx hb dX1_interfacesOf_49 (by decide) (fun q => absurd q (le6 (by omega))) (fun _ => ?_)
            refine va_gets hx hb hE.2.2.2.2.1.1 hS hown (hts _ q_f_1_50) (fun _ h => h) dX1_interfacesOf_52 ?_
            refine lv_iload_n hx hb dX1_interfacesOf_55 rfl (lv_at hl 2 rfl) ?_
            refine va_ti hx hb hE.2.2.2.2.1.2 hS (isTypeF_in c_4) (v := .int (tab tabNl (t).toNatClampNeg)) rfl dX1_interfacesOf_56 ?_
            refine lv_iload hx hb dX1_interfacesOf_57 (lv_at hl 0 rfl) ?_
            refine hc_r (va_runS (As := [.int (tab tabNl (t).toNatClampNeg), .int (nI k)]) (rest := []) S (c_X1_holds l G _ (tab tabNl (t).toNatClampNeg) (nI k)) (va_cwS 2 hts (gWSS q_l_1_39 q_st_X1_holds q_in_1 q_co_X1_holds) rfl rfl rfl (by decide +kernel) ⟨Nat.le_of_ble_eq_true rfl, Nat.le_of_ble_eq_true rfl⟩) (hPreSr hE hS) rfl rfl hl.1 rfl (lv_room (Nat.le_of_ble_eq_true rfl)) dX1_interfacesOf_59 ⟨Nat.le_of_ble_eq_true rfl, Nat.le_of_ble_eq_true rfl⟩) hS (fun locs hS => ?_)
            refine lv_if_eq (tgt := 72) hx hb dX1_interfacesOf_62 (by decide) (fun c_62 => ?_) (fun c_62 => ?_)
            · refine lv_iinc (v := (nI (k + 1))) (lv' := [(4, .int (nI (k + 1))), (3, .int b), (0, .int t), (1, .ref (ad 4))]) hx hb dX1_interfacesOf_72 hl (k := 0) rfl (nI_1 k) (by decide) rfl (fun ls hl => ?_)
              refine lv_goto (tgt := 45) hx hb dX1_interfacesOf_75 (by decide) ?_
              exact ih (k + 1) b _ _ (by omega) (by rw [hv]; simp [ifcL, c_62]) hS (lv_sub hl [0, 1, 2, 3] rfl)
            · refine lv_iload_n hx hb dX1_interfacesOf_65 rfl (lv_at hl 1 rfl) ?_
              refine lv_aload_n hx hb dX1_interfacesOf_66 rfl (lv_at hl 3 rfl) ?_
              refine lv_iload hx hb dX1_interfacesOf_67 (lv_at hl 0 rfl) ?_
              refine hr_ialdk S hE hW h4 (j := k) rfl (by omega) (by decide) dX1_interfacesOf_69 ?_
              refine lv_ior hx hb dX1_interfacesOf_70 ?_
              refine lv_istore_n (lv' := [(3, .int (b ||| (f k))), (4, .int (nI k)), (0, .int t), (1, .ref (ad 4))]) hx hb dX1_interfacesOf_71 rfl hl (by decide) rfl (fun ls hl => ?_)
              refine lv_iinc (v := (nI (k + 1))) (lv' := [(4, .int (nI (k + 1))), (3, .int (b ||| (f k))), (0, .int t), (1, .ref (ad 4))]) hx hb dX1_interfacesOf_72 hl (k := 1) rfl (nI_1 k) (by decide) rfl (fun ls hl => ?_)
              refine lv_goto (tgt := 45) hx hb dX1_interfacesOf_75 (by decide) ?_
              exact ih (k + 1) (b ||| (f k)) _ _ (by omega) (by rw [hv]; simp [ifcL, c_62]) hS (lv_sub hl [0, 1, 2, 3] rfl)
        exact loop 5 2 (0 ||| (f (parentF t).toNatClampNeg)) _ _ (by decide) (by simp [ifcF, ifcB, ifcU, c_4, c_18, c_33]) hS (lv_sub hl [0, 1, 3, 4] rfl)
    · refine lv_iconst (v := 1) hx hb dX1_interfacesOf_21 (by decide) ?_
      refine lv_iload_n hx hb dX1_interfacesOf_22 rfl (lv_at hl 1 rfl) ?_
      refine lv_ishl hx hb dX1_interfacesOf_23 ?_
      refine lv_goto (tgt := 28) hx hb dX1_interfacesOf_24 (by decide) ?_
      refine lv_istore_n (lv' := [(3, .int (1 <<< (t &&& 31))), (2, .int (parentF t)), (0, .int t), (1, .ref (ad 4))]) hx hb dX1_interfacesOf_28 rfl hl (by decide) rfl (fun ls hl => ?_)
      refine lv_iload_n hx hb dX1_interfacesOf_29 rfl (lv_at hl 1 rfl) ?_
      refine hc_r (va_runS (As := [.int (parentF t)]) (rest := []) S (c_X1_isType l G _ (parentF t)) (va_cwS 1 hts (gWSS q_l_1_26 q_st_X1_isType q_in_1 q_co_X1_isType) rfl rfl rfl (by decide +kernel) ⟨Nat.le_of_ble_eq_true rfl, Nat.le_of_ble_eq_true rfl⟩) (hPreSr hE hS) rfl rfl hl.1 rfl (lv_room (Nat.le_of_ble_eq_true rfl)) dX1_interfacesOf_30 ⟨Nat.le_of_ble_eq_true rfl, Nat.le_of_ble_eq_true rfl⟩) hS (fun locs hS => ?_)
      refine lv_if_eq (tgt := 42) hx hb dX1_interfacesOf_33 (by decide) (fun c_33 => ?_) (fun c_33 => ?_)
      · refine lv_iconst (v := 2) hx hb dX1_interfacesOf_42 (by decide) ?_
        refine lv_istore (lv' := [(4, .int 2), (3, .int (1 <<< (t &&& 31))), (2, .int (parentF t)), (0, .int t), (1, .ref (ad 4))]) hx hb dX1_interfacesOf_43 hl (by decide) rfl (fun ls hl => ?_)
        have loop : ∀ (n k : Nat) (b : Int32) (locs : List Loc) (ls : Array Slot), n + k = 7 → (ifcF f t = ifcL f t n k b) → va_S (hA G.2.2.2) s.heap s.heap locs → lv_has ls 5 [(4, .int (nI k)), (3, .int b), (0, .int t), (1, .ref (ad 4))] → W p l e { frames := 2, cells := 0, slots := 0, locals := 40 } s m ([.int t, .ref (ad 4)] : List Value).toArray below meth c s.heap locs 0 0 (MQ below (hQr (ifcF f t) s.heap G.2.2.2) ([.int t, .ref (ad 4)] : List Value).toArray s 0 0 (hA G.2.2.2)) (F0 m 45 ls []) := by
          intro n
          induction n with
          | zero =>
            intro k b locs ls hnk hv hS hl
            have hk : k = 7 := by omega
            subst hk
            refine lv_iload hx hb dX1_interfacesOf_45 (lv_at hl 0 rfl) ?_
            refine lv_bipush (v := 6) hx hb dX1_interfacesOf_47 (by decide) ?_
            refine lv_icmp_gt (tgt := 78) hx hb dX1_interfacesOf_49 (by decide) (fun _ => ?_) (fun q => absurd (by decide) q)
            refine lv_iload_n hx hb dX1_interfacesOf_78 rfl (lv_at hl 1 rfl) ?_
            exact h_rret S hr hlk hS dX1_interfacesOf_79 (by rw [hv]; simp [ifcL, c_4, c_18, c_33])
          | succ n ih =>
            intro k b locs ls hnk hv hS hl
            refine lv_iload hx hb dX1_interfacesOf_45 (lv_at hl 0 rfl) ?_
            refine lv_bipush (v := 6) hx hb dX1_interfacesOf_47 (by decide) ?_
            refine lv_icmp_gt (tgt := 78) hx hb dX1_interfacesOf_49 (by decide) (fun q => absurd q (le6 (by omega))) (fun _ => ?_)
            refine va_gets hx hb hE.2.2.2.2.1.1 hS hown (hts _ q_f_1_50) (fun _ h => h) dX1_interfacesOf_52 ?_
            refine lv_iload_n hx hb dX1_interfacesOf_55 rfl (lv_at hl 2 rfl) ?_
            refine va_ti hx hb hE.2.2.2.2.1.2 hS (isTypeF_in c_4) (v := .int (tab tabNl (t).toNatClampNeg)) rfl dX1_interfacesOf_56 ?_
            refine lv_iload hx hb dX1_interfacesOf_57 (lv_at hl 0 rfl) ?_
            refine hc_r (va_runS (As := [.int (tab tabNl (t).toNatClampNeg), .int (nI k)]) (rest := []) S (c_X1_holds l G _ (tab tabNl (t).toNatClampNeg) (nI k)) (va_cwS 2 hts (gWSS q_l_1_39 q_st_X1_holds q_in_1 q_co_X1_holds) rfl rfl rfl (by decide +kernel) ⟨Nat.le_of_ble_eq_true rfl, Nat.le_of_ble_eq_true rfl⟩) (hPreSr hE hS) rfl rfl hl.1 rfl (lv_room (Nat.le_of_ble_eq_true rfl)) dX1_interfacesOf_59 ⟨Nat.le_of_ble_eq_true rfl, Nat.le_of_ble_eq_true rfl⟩) hS (fun locs hS => ?_)
            refine lv_if_eq (tgt := 72) hx hb dX1_interfacesOf_62 (by decide) (fun c_62 => ?_) (fun c_62 => ?_)
            · refine lv_iinc (v := (nI (k + 1))) (lv' := [(4, .int (nI (k + 1))), (3, .int b), (0, .int t), (1, .ref (ad 4))]) hx hb dX1_interfacesOf_72 hl (k := 0) rfl (nI_1 k) (by decide) rfl (fun ls hl => ?_)
              refine lv_goto (tgt := 45) hx hb dX1_interfacesOf_75 (by decide) ?_
              exact ih (k + 1) b _ _ (by omega) (by rw [hv]; simp [ifcL, c_62]) hS (lv_sub hl [0, 1, 2, 3] rfl)
            · refine lv_iload_n hx hb dX1_interfacesOf_65 rfl (lv_at hl 1 rfl) ?_
              refine lv_aload_n hx hb dX1_interfacesOf_66 rfl (lv_at hl 3 rfl) ?_
              refine lv_iload hx hb dX1_interfacesOf_67 (lv_at hl 0 rfl) ?_
              refine hr_ialdk S hE hW h4 (j := k) rfl (by omega) (by decide) dX1_interfacesOf_69 ?_
              refine lv_ior hx hb dX1_interfacesOf_70 ?_
              refine lv_istore_n (lv' := [(3, .int (b ||| (f k))), (4, .int (nI k)), (0, .int t), (1, .ref (ad 4))]) hx hb dX1_interfacesOf_71 rfl hl (by decide) rfl (fun ls hl => ?_)
              refine lv_iinc (v := (nI (k + 1))) (lv' := [(4, .int (nI (k + 1))), (3, .int (b ||| (f k))), (0, .int t), (1, .ref (ad 4))]) hx hb dX1_interfacesOf_72 hl (k := 1) rfl (nI_1 k) (by decide) rfl (fun ls hl => ?_)
              refine lv_goto (tgt := 45) hx hb dX1_interfacesOf_75 (by decide) ?_
              exact ih (k + 1) (b ||| (f k)) _ _ (by omega) (by rw [hv]; simp [ifcL, c_62]) hS (lv_sub hl [0, 1, 2, 3] rfl)
        exact loop 5 2 (1 <<< (t &&& 31)) _ _ (by decide) (by simp [ifcF, ifcB, ifcU, c_4, c_18, c_33]) hS (lv_sub hl [0, 1, 3, 4] rfl)
      · refine lv_iload_n hx hb dX1_interfacesOf_36 rfl (lv_at hl 0 rfl) ?_
        refine lv_aload_n hx hb dX1_interfacesOf_37 rfl (lv_at hl 3 rfl) ?_
        refine lv_iload_n hx hb dX1_interfacesOf_38 rfl (lv_at hl 1 rfl) ?_
        refine hr_iald S hE hW h4 (isTypeF_in c_33) dX1_interfacesOf_39 ?_
        refine lv_ior hx hb dX1_interfacesOf_40 ?_
        refine lv_istore_n (lv' := [(3, .int ((1 <<< (t &&& 31)) ||| (f (parentF t).toNatClampNeg))), (2, .int (parentF t)), (0, .int t), (1, .ref (ad 4))]) hx hb dX1_interfacesOf_41 rfl hl (by decide) rfl (fun ls hl => ?_)
        refine lv_iconst (v := 2) hx hb dX1_interfacesOf_42 (by decide) ?_
        refine lv_istore (lv' := [(4, .int 2), (3, .int ((1 <<< (t &&& 31)) ||| (f (parentF t).toNatClampNeg))), (2, .int (parentF t)), (0, .int t), (1, .ref (ad 4))]) hx hb dX1_interfacesOf_43 hl (by decide) rfl (fun ls hl => ?_)
        have loop : ∀ (n k : Nat) (b : Int32) (locs : List Loc) (ls : Array Slot), n + k = 7 → (ifcF f t = ifcL f t n k b) → va_S (hA G.2.2.2) s.heap s.heap locs → lv_has ls 5 [(4, .int (nI k)), (3, .int b), (0, .int t), (1, .ref (ad 4))] → W p l e { frames := 2, cells := 0, slots := 0, locals := 40 } s m ([.int t, .ref (ad 4)] : List Value).toArray below meth c s.heap locs 0 0 (MQ below (hQr (ifcF f t) s.heap G.2.2.2) ([.int t, .ref (ad 4)] : List Value).toArray s 0 0 (hA G.2.2.2)) (F0 m 45 ls []) := by
          intro n
          induction n with
          | zero =>
            intro k b locs ls hnk hv hS hl
            have hk : k = 7 := by omega
            subst hk
            refine lv_iload hx hb dX1_interfacesOf_45 (lv_at hl 0 rfl) ?_
            refine lv_bipush (v := 6) hx hb dX1_interfacesOf_47 (by decide) ?_
            refine lv_icmp_gt (tgt := 78) hx hb dX1_interfacesOf_49 (by decide) (fun _ => ?_) (fun q => absurd (by decide) q)
            refine lv_iload_n hx hb dX1_interfacesOf_78 rfl (lv_at hl 1 rfl) ?_
            exact h_rret S hr hlk hS dX1_interfacesOf_79 (by rw [hv]; simp [ifcL, c_4, c_18, c_33])
          | succ n ih =>
            intro k b locs ls hnk hv hS hl
            refine lv_iload hx hb dX1_interfacesOf_45 (lv_at hl 0 rfl) ?_
            refine lv_bipush (v := 6) hx hb dX1_interfacesOf_47 (by decide) ?_
            refine lv_icmp_gt (tgt := 78) hx hb dX1_interfacesOf_49 (by decide) (fun q => absurd q (le6 (by omega))) (fun _ => ?_)
            refine va_gets hx hb hE.2.2.2.2.1.1 hS hown (hts _ q_f_1_50) (fun _ h => h) dX1_interfacesOf_52 ?_
            refine lv_iload_n hx hb dX1_interfacesOf_55 rfl (lv_at hl 2 rfl) ?_
            refine va_ti hx hb hE.2.2.2.2.1.2 hS (isTypeF_in c_4) (v := .int (tab tabNl (t).toNatClampNeg)) rfl dX1_interfacesOf_56 ?_
            refine lv_iload hx hb dX1_interfacesOf_57 (lv_at hl 0 rfl) ?_
            refine hc_r (va_runS (As := [.int (tab tabNl (t).toNatClampNeg), .int (nI k)]) (rest := []) S (c_X1_holds l G _ (tab tabNl (t).toNatClampNeg) (nI k)) (va_cwS 2 hts (gWSS q_l_1_39 q_st_X1_holds q_in_1 q_co_X1_holds) rfl rfl rfl (by decide +kernel) ⟨Nat.le_of_ble_eq_true rfl, Nat.le_of_ble_eq_true rfl⟩) (hPreSr hE hS) rfl rfl hl.1 rfl (lv_room (Nat.le_of_ble_eq_true rfl)) dX1_interfacesOf_59 ⟨Nat.le_of_ble_eq_true rfl, Nat.le_of_ble_eq_true rfl⟩) hS (fun locs hS => ?_)
            refine lv_if_eq (tgt := 72) hx hb dX1_interfacesOf_62 (by decide) (fun c_62 => ?_) (fun c_62 => ?_)
            · refine lv_iinc (v := (nI (k + 1))) (lv' := [(4, .int (nI (k + 1))), (3, .int b), (0, .int t), (1, .ref (ad 4))]) hx hb dX1_interfacesOf_72 hl (k := 0) rfl (nI_1 k) (by decide) rfl (fun ls hl => ?_)
              refine lv_goto (tgt := 45) hx hb dX1_interfacesOf_75 (by decide) ?_
              exact ih (k + 1) b _ _ (by omega) (by rw [hv]; simp [ifcL, c_62]) hS (lv_sub hl [0, 1, 2, 3] rfl)
            · refine lv_iload_n hx hb dX1_interfacesOf_65 rfl (lv_at hl 1 rfl) ?_
              refine lv_aload_n hx hb dX1_interfacesOf_66 rfl (lv_at hl 3 rfl) ?_
              refine lv_iload hx hb dX1_interfacesOf_67 (lv_at hl 0 rfl) ?_
              refine hr_ialdk S hE hW h4 (j := k) rfl (by omega) (by decide) dX1_interfacesOf_69 ?_
              refine lv_ior hx hb dX1_interfacesOf_70 ?_
              refine lv_istore_n (lv' := [(3, .int (b ||| (f k))), (4, .int (nI k)), (0, .int t), (1, .ref (ad 4))]) hx hb dX1_interfacesOf_71 rfl hl (by decide) rfl (fun ls hl => ?_)
              refine lv_iinc (v := (nI (k + 1))) (lv' := [(4, .int (nI (k + 1))), (3, .int (b ||| (f k))), (0, .int t), (1, .ref (ad 4))]) hx hb dX1_interfacesOf_72 hl (k := 1) rfl (nI_1 k) (by decide) rfl (fun ls hl => ?_)
              refine lv_goto (tgt := 45) hx hb dX1_interfacesOf_75 (by decide) ?_
              exact ih (k + 1) (b ||| (f k)) _ _ (by omega) (by rw [hv]; simp [ifcL, c_62]) hS (lv_sub hl [0, 1, 2, 3] rfl)
        exact loop 5 2 ((1 <<< (t &&& 31)) ||| (f (parentF t).toNatClampNeg)) _ _ (by decide) (by simp [ifcF, ifcB, ifcU, c_4, c_18, c_33]) hS (lv_sub hl [0, 1, 3, 4] rfl)
  · refine lv_iconst (v := 0) hx hb dX1_interfacesOf_7 (by decide) ?_
    exact h_rret S hr hlk hS dX1_interfacesOf_8 (by simp [ifcF, c_4])
set_option maxRecDepth 100000 in
set_option maxHeartbeats 4000000 in
theorem c_X1_bodyOfLine (l : Launch) (G : hG) (H : Heap) (t a : Int32)  : Met l yX1_bodyOfLine wzX1_bodyOfLine { frames := 2, cells := 0, slots := 0, locals := 41 } (hPr [.int t, .int a] G H) (hQr (bolF a 18 t) H G.2.2.2) 0 0 (hA G.2.2.2) := by
  refine hMetr (Qc := fun H => hQr (bolF a 18 t) H G.2.2.2) (by decide) (Nat.le_of_ble_eq_true rfl) (fun p e s m below meth c ls S hr hlk hE hH hl => ?_)
  subst hH
  obtain ⟨hx, hb, hml, hown, hts⟩ := id S
  have hS : va_S (hA G.2.2.2) s.heap s.heap [] := va_S.rf
  have hl : lv_has ls 5 [(0, .int t), (1, .int a)] := hl
  refine lv_iload_n hx hb dX1_bodyOfLine_0 rfl (lv_at hl 0 rfl) ?_
  refine lv_istore_n (lv' := [(2, .int t), (0, .int t), (1, .int a)]) hx hb dX1_bodyOfLine_1 rfl hl (by decide) rfl (fun ls hl => ?_)
  refine lv_iconst (v := 0) hx hb dX1_bodyOfLine_2 (by decide) ?_
  refine lv_istore_n (lv' := [(3, .int 0), (2, .int t), (0, .int t), (1, .int a)]) hx hb dX1_bodyOfLine_3 rfl hl (by decide) rfl (fun ls hl => ?_)
  have loop : ∀ (n k : Nat) (h : Int32) (locs : List Loc) (ls : Array Slot), n + k = 18 → (bolF a 18 t = bolF a n h) → va_S (hA G.2.2.2) s.heap s.heap locs → lv_has ls 5 [(3, .int (nI k)), (2, .int h), (1, .int a)] → W p l e { frames := 2, cells := 0, slots := 0, locals := 41 } s m ([.int t, .int a] : List Value).toArray below meth c s.heap locs 0 0 (MQ below (hQr (bolF a 18 t) s.heap G.2.2.2) ([.int t, .int a] : List Value).toArray s 0 0 (hA G.2.2.2)) (F0 m 4 ls []) := by
    intro n
    induction n with
    | zero =>
      intro k h locs ls hnk hv hS hl
      have hk : k = 18 := by omega
      subst hk
      refine lv_iload_n hx hb dX1_bodyOfLine_4 rfl (lv_at hl 0 rfl) ?_
      refine lv_bipush (v := 18) hx hb dX1_bodyOfLine_5 (by decide) ?_
      refine lv_icmp_ge (tgt := 43) hx hb dX1_bodyOfLine_7 (by decide) (fun _ => ?_) (fun q => absurd (by decide) q)
      refine lv_iconst (v := 0) hx hb dX1_bodyOfLine_43 (by decide) ?_
      exact h_rret S hr hlk hS dX1_bodyOfLine_44 (by rw [hv]; rfl)
    | succ n ih =>
      intro k h locs ls hnk hv hS hl
      refine lv_iload_n hx hb dX1_bodyOfLine_4 rfl (lv_at hl 0 rfl) ?_
      refine lv_bipush (v := 18) hx hb dX1_bodyOfLine_5 (by decide) ?_
      refine lv_icmp_ge (tgt := 43) hx hb dX1_bodyOfLine_7 (by decide) (fun q => absurd q (nI_ge (b := 18) (a := k) (by omega) (by omega))) (fun _ => ?_)
      refine lv_iload_n hx hb dX1_bodyOfLine_10 rfl (lv_at hl 1 rfl) ?_
      refine hc_r (va_runS (As := [.int h]) (rest := []) S (c_X1_isType l G _ h) (va_cwS 1 hts (gWSS q_l_1_26 q_st_X1_isType q_in_1 q_co_X1_isType) rfl rfl rfl (by decide +kernel) ⟨Nat.le_of_ble_eq_true rfl, Nat.le_of_ble_eq_true rfl⟩) (hPreSr hE hS) rfl rfl hl.1 rfl (lv_room (Nat.le_of_ble_eq_true rfl)) dX1_bodyOfLine_11 ⟨Nat.le_of_ble_eq_true rfl, Nat.le_of_ble_eq_true rfl⟩) hS (fun locs hS => ?_)
      refine lv_if_eq (tgt := 43) hx hb dX1_bodyOfLine_14 (by decide) (fun c_14 => ?_) (fun c_14 => ?_)
      · refine lv_iconst (v := 0) hx hb dX1_bodyOfLine_43 (by decide) ?_
        exact h_rret S hr hlk hS dX1_bodyOfLine_44 (by rw [hv]; simp [bolF, c_14])
      · refine lv_iload_n hx hb dX1_bodyOfLine_17 rfl (lv_at hl 1 rfl) ?_
        refine lv_iload_n hx hb dX1_bodyOfLine_18 rfl (lv_at hl 2 rfl) ?_
        refine hc_r (va_runS (As := [.int h, .int a]) (rest := []) S (c_X1_bodyOf l G _ h a) (va_cwS 2 hts (gWSS q_l_1_60 q_st_X1_bodyOf q_in_1 q_co_X1_bodyOf) rfl rfl rfl (by decide +kernel) ⟨Nat.le_of_ble_eq_true rfl, Nat.le_of_ble_eq_true rfl⟩) (hPreSr hE hS) rfl rfl hl.1 rfl (lv_room (Nat.le_of_ble_eq_true rfl)) dX1_bodyOfLine_19 ⟨Nat.le_of_ble_eq_true rfl, Nat.le_of_ble_eq_true rfl⟩) hS (fun locs hS => ?_)
        refine lv_istore (lv' := [(4, .int (bodyF h a)), (3, .int (nI k)), (2, .int h), (1, .int a)]) hx hb dX1_bodyOfLine_22 hl (by decide) rfl (fun ls hl => ?_)
        refine lv_iload hx hb dX1_bodyOfLine_24 (lv_at hl 0 rfl) ?_
        refine lv_if_eq (tgt := 32) hx hb dX1_bodyOfLine_26 (by decide) (fun c_26 => ?_) (fun c_26 => ?_)
        · refine lv_iload_n hx hb dX1_bodyOfLine_32 rfl (lv_at hl 2 rfl) ?_
          refine hc_r (va_runS (As := [.int h]) (rest := []) S (c_X1_parentOf l G _ h) (va_cwS 1 hts (gWSS q_l_1_43 q_st_X1_parentOf q_in_1 q_co_X1_parentOf) rfl rfl rfl (by decide +kernel) ⟨Nat.le_of_ble_eq_true rfl, Nat.le_of_ble_eq_true rfl⟩) (hPreSr hE hS) rfl rfl hl.1 rfl (lv_room (Nat.le_of_ble_eq_true rfl)) dX1_bodyOfLine_33 ⟨Nat.le_of_ble_eq_true rfl, Nat.le_of_ble_eq_true rfl⟩) hS (fun locs hS => ?_)
          refine lv_istore_n (lv' := [(2, .int (parentF h)), (4, .int (bodyF h a)), (3, .int (nI k)), (1, .int a)]) hx hb dX1_bodyOfLine_36 rfl hl (by decide) rfl (fun ls hl => ?_)
          refine lv_iinc (v := (nI (k + 1))) (lv' := [(3, .int (nI (k + 1))), (2, .int (parentF h)), (4, .int (bodyF h a)), (1, .int a)]) hx hb dX1_bodyOfLine_37 hl (k := 2) rfl (nI_1 k) (by decide) rfl (fun ls hl => ?_)
          refine lv_goto (tgt := 4) hx hb dX1_bodyOfLine_40 (by decide) ?_
          exact ih (k + 1) (parentF h) _ _ (by omega) (by rw [hv]; simp [bolF, c_14, c_26]) hS (lv_sub hl [0, 1, 3] rfl)
        · refine lv_iload hx hb dX1_bodyOfLine_29 (lv_at hl 0 rfl) ?_
          exact h_rret S hr hlk hS dX1_bodyOfLine_31 (by rw [hv]; simp [bolF, c_14, c_26])
  exact loop 18 0 t _ _ (by decide) rfl hS (lv_sub hl [0, 1, 3] rfl)
set_option maxRecDepth 100000 in
set_option maxHeartbeats 4000000 in
theorem c_X1_bearsOne (l : Launch) (G : hG) (H : Heap) {ad : Nat → Nat} {ct : Nat → Option va_E} (hW : hw G ad ct H) {f : Nat → Int32} (h4 : ct 4 = some (.inl (G.2.1.1, 18, .inl f))) (t n : Int32)  : Met l yX1_bearsOne wzX1_bearsOne { frames := 1, cells := 0, slots := 0, locals := 21 } (hPr [.int t, .int n, .ref (ad 4)] G H) (hQr (bearOneF f t n) H G.2.2.2) 0 0 (hA G.2.2.2) := by
  refine hMetr (Qc := fun H => hQr (bearOneF f t n) H G.2.2.2) (by decide) (Nat.le_of_ble_eq_true rfl) (fun p e s m below meth c ls S hr hlk hE hH hl => ?_)
  subst hH
  obtain ⟨hx, hb, hml, hown, hts⟩ := id S
  have hS : va_S (hA G.2.2.2) s.heap s.heap [] := va_S.rf
  have hl : lv_has ls 3 [(0, .int t), (1, .int n), (2, .ref (ad 4))] := hl
  refine lv_iload_n hx hb dX1_bearsOne_0 rfl (lv_at hl 0 rfl) ?_
  refine hc_r (va_runS (As := [.int t]) (rest := []) S (c_X1_isType l G _ t) (va_cwS 1 hts (gWSS q_l_1_26 q_st_X1_isType q_in_1 q_co_X1_isType) rfl rfl rfl (by decide +kernel) ⟨Nat.le_of_ble_eq_true rfl, Nat.le_of_ble_eq_true rfl⟩) (hPreSr hE hS) rfl rfl hl.1 rfl (lv_room (Nat.le_of_ble_eq_true rfl)) dX1_bearsOne_1 ⟨Nat.le_of_ble_eq_true rfl, Nat.le_of_ble_eq_true rfl⟩) hS (fun locs hS => ?_)
  refine lv_if_eq (tgt := 21) hx hb dX1_bearsOne_4 (by decide) (fun c_4 => ?_) (fun c_4 => ?_)
  · refine lv_iconst (v := 0) hx hb dX1_bearsOne_21 (by decide) ?_
    exact h_rzret S hr hlk hS dX1_bearsOne_22 (bearOneF_b f t n) (by simp [bearOneF, c_4])
  · refine lv_aload_n hx hb dX1_bearsOne_7 rfl (lv_at hl 2 rfl) ?_
    refine lv_iload_n hx hb dX1_bearsOne_8 rfl (lv_at hl 0 rfl) ?_
    refine hr_iald S hE hW h4 (isTypeF_in c_4) dX1_bearsOne_9 ?_
    refine lv_iload_n hx hb dX1_bearsOne_10 rfl (lv_at hl 1 rfl) ?_
    refine hc_r (va_runS (As := [.int (f (t).toNatClampNeg), .int n]) (rest := []) S (c_X1_holds l G _ (f (t).toNatClampNeg) n) (va_cwS 2 hts (gWSS q_l_1_39 q_st_X1_holds q_in_1 q_co_X1_holds) rfl rfl rfl (by decide +kernel) ⟨Nat.le_of_ble_eq_true rfl, Nat.le_of_ble_eq_true rfl⟩) (hPreSr hE hS) rfl rfl hl.1 rfl (lv_room (Nat.le_of_ble_eq_true rfl)) dX1_bearsOne_11 ⟨Nat.le_of_ble_eq_true rfl, Nat.le_of_ble_eq_true rfl⟩) hS (fun locs hS => ?_)
    refine lv_if_eq (tgt := 21) hx hb dX1_bearsOne_14 (by decide) (fun c_14 => ?_) (fun c_14 => ?_)
    · refine lv_iconst (v := 0) hx hb dX1_bearsOne_21 (by decide) ?_
      exact h_rzret S hr hlk hS dX1_bearsOne_22 (bearOneF_b f t n) (by simp [bearOneF, c_4, c_14])
    · refine lv_iconst (v := 1) hx hb dX1_bearsOne_17 (by decide) ?_
      refine lv_goto (tgt := 22) hx hb dX1_bearsOne_18 (by decide) ?_
      exact h_rzret S hr hlk hS dX1_bearsOne_22 (bearOneF_b f t n) (by simp [bearOneF, c_4, c_14])
set_option maxRecDepth 100000 in
set_option maxHeartbeats 4000000 in
theorem c_X1_isOvertaken (l : Launch) (G : hG) (H : Heap) {ad : Nat → Nat} {ct : Nat → Option va_E} (hW : hw G ad ct H) {f : Nat → Int32} (h4 : ct 4 = some (.inl (G.2.1.1, 18, .inl f))) (one t a : Int32) (ht : vp_in t 18)  : Met l yX1_isOvertaken wzX1_isOvertaken { frames := 2, cells := 0, slots := 0, locals := 43 } (hPr [.int one, .int t, .int a, .ref (ad 4)] G H) (hQr (ovL f one t a 5 2) H G.2.2.2) 0 0 (hA G.2.2.2) := by
  refine hMetr (Qc := fun H => hQr (ovL f one t a 5 2) H G.2.2.2) (by decide) (Nat.le_of_ble_eq_true rfl) (fun p e s m below meth c ls S hr hlk hE hH hl => ?_)
  subst hH
  obtain ⟨hx, hb, hml, hown, hts⟩ := id S
  have hS : va_S (hA G.2.2.2) s.heap s.heap [] := va_S.rf
  have hl : lv_has ls 6 [(0, .int one), (1, .int t), (2, .int a), (3, .ref (ad 4))] := hl
  refine lv_iconst (v := 2) hx hb dX1_isOvertaken_0 (by decide) ?_
  refine lv_istore (lv' := [(4, .int 2), (0, .int one), (1, .int t), (2, .int a), (3, .ref (ad 4))]) hx hb dX1_isOvertaken_1 hl (by decide) rfl (fun ls hl => ?_)
  have loop : ∀ (n k : Nat)  (locs : List Loc) (ls : Array Slot), n + k = 7 → (ovL f one t a 5 2 = ovL f one t a n k) → va_S (hA G.2.2.2) s.heap s.heap locs → lv_has ls 6 [(4, .int (nI k)), (0, .int one), (1, .int t), (2, .int a), (3, .ref (ad 4))] → W p l e { frames := 2, cells := 0, slots := 0, locals := 43 } s m ([.int one, .int t, .int a, .ref (ad 4)] : List Value).toArray below meth c s.heap locs 0 0 (MQ below (hQr (ovL f one t a 5 2) s.heap G.2.2.2) ([.int one, .int t, .int a, .ref (ad 4)] : List Value).toArray s 0 0 (hA G.2.2.2)) (F0 m 3 ls []) := by
    intro n
    induction n with
    | zero =>
      intro k  locs ls hnk hv hS hl
      have hk : k = 7 := by omega
      subst hk
      refine lv_iload hx hb dX1_isOvertaken_3 (lv_at hl 0 rfl) ?_
      refine lv_bipush (v := 6) hx hb dX1_isOvertaken_5 (by decide) ?_
      refine lv_icmp_gt (tgt := 65) hx hb dX1_isOvertaken_7 (by decide) (fun _ => ?_) (fun q => absurd (by decide) q)
      refine lv_iconst (v := 0) hx hb dX1_isOvertaken_65 (by decide) ?_
      exact h_rzret S hr hlk hS dX1_isOvertaken_66 (ovL_b f one t a 5 2) (by rw [hv]; rfl)
    | succ n ih =>
      intro k  locs ls hnk hv hS hl
      refine lv_iload hx hb dX1_isOvertaken_3 (lv_at hl 0 rfl) ?_
      refine lv_bipush (v := 6) hx hb dX1_isOvertaken_5 (by decide) ?_
      refine lv_icmp_gt (tgt := 65) hx hb dX1_isOvertaken_7 (by decide) (fun q => absurd q (le6 (by omega))) (fun _ => ?_)
      refine lv_iload hx hb dX1_isOvertaken_10 (lv_at hl 0 rfl) ?_
      refine lv_iload_n hx hb dX1_isOvertaken_12 rfl (lv_at hl 1 rfl) ?_
      refine lv_icmp_eq (tgt := 30) hx hb dX1_isOvertaken_13 (by decide) (fun c_13 => ?_) (fun c_13 => ?_)
      · refine lv_iconst (v := 0) hx hb dX1_isOvertaken_30 (by decide) ?_
        refine lv_istore (lv' := [(5, .int 0), (4, .int (nI k)), (0, .int one), (1, .int t), (2, .int a), (3, .ref (ad 4))]) hx hb dX1_isOvertaken_31 hl (by decide) rfl (fun ls hl => ?_)
        refine lv_iload hx hb dX1_isOvertaken_33 (lv_at hl 0 rfl) ?_
        refine lv_if_eq (tgt := 59) hx hb dX1_isOvertaken_35 (by decide) (fun _ => ?_) (fun q => absurd (by decide) q)
        refine lv_iinc (v := (nI (k + 1))) (lv' := [(4, .int (nI (k + 1))), (5, .int 0), (0, .int one), (1, .int t), (2, .int a), (3, .ref (ad 4))]) hx hb dX1_isOvertaken_59 hl (k := 1) rfl (nI_1 k) (by decide) rfl (fun ls hl => ?_)
        refine lv_goto (tgt := 3) hx hb dX1_isOvertaken_62 (by decide) ?_
        exact ih (k + 1)  _ _ (by omega) (by rw [hv]; simp [ovL, c_13]) hS (lv_sub hl [0, 2, 3, 4, 5] rfl)
      · refine lv_iload hx hb dX1_isOvertaken_16 (lv_at hl 0 rfl) ?_
        refine lv_iload_n hx hb dX1_isOvertaken_18 rfl (lv_at hl 1 rfl) ?_
        refine lv_aload_n hx hb dX1_isOvertaken_19 rfl (lv_at hl 4 rfl) ?_
        refine hc_r (va_runS (As := [.int (nI k), .int one, .ref (ad 4)]) (rest := []) S (c_X1_bearsOne l G _ hW h4 (nI k) one) (va_cwS 3 hts (gWSS q_l_1_63 q_st_X1_bearsOne q_in_1 q_co_X1_bearsOne) rfl rfl rfl (by decide +kernel) ⟨Nat.le_of_ble_eq_true rfl, Nat.le_of_ble_eq_true rfl⟩) (hPreSr hE hS) rfl rfl hl.1 rfl (lv_room (Nat.le_of_ble_eq_true rfl)) dX1_isOvertaken_20 ⟨Nat.le_of_ble_eq_true rfl, Nat.le_of_ble_eq_true rfl⟩) hS (fun locs hS => ?_)
        refine lv_if_eq (tgt := 30) hx hb dX1_isOvertaken_23 (by decide) (fun c_23 => ?_) (fun c_23 => ?_)
        · refine lv_iconst (v := 0) hx hb dX1_isOvertaken_30 (by decide) ?_
          refine lv_istore (lv' := [(5, .int 0), (4, .int (nI k)), (0, .int one), (1, .int t), (2, .int a), (3, .ref (ad 4))]) hx hb dX1_isOvertaken_31 hl (by decide) rfl (fun ls hl => ?_)
          refine lv_iload hx hb dX1_isOvertaken_33 (lv_at hl 0 rfl) ?_
          refine lv_if_eq (tgt := 59) hx hb dX1_isOvertaken_35 (by decide) (fun _ => ?_) (fun q => absurd (by decide) q)
          refine lv_iinc (v := (nI (k + 1))) (lv' := [(4, .int (nI (k + 1))), (5, .int 0), (0, .int one), (1, .int t), (2, .int a), (3, .ref (ad 4))]) hx hb dX1_isOvertaken_59 hl (k := 1) rfl (nI_1 k) (by decide) rfl (fun ls hl => ?_)
          refine lv_goto (tgt := 3) hx hb dX1_isOvertaken_62 (by decide) ?_
          exact ih (k + 1)  _ _ (by omega) (by rw [hv]; simp [ovL, c_13, c_23]) hS (lv_sub hl [0, 2, 3, 4, 5] rfl)
        · refine lv_iconst (v := 1) hx hb dX1_isOvertaken_26 (by decide) ?_
          refine lv_goto (tgt := 31) hx hb dX1_isOvertaken_27 (by decide) ?_
          refine lv_istore (lv' := [(5, .int 1), (4, .int (nI k)), (0, .int one), (1, .int t), (2, .int a), (3, .ref (ad 4))]) hx hb dX1_isOvertaken_31 hl (by decide) rfl (fun ls hl => ?_)
          refine lv_iload hx hb dX1_isOvertaken_33 (lv_at hl 0 rfl) ?_
          refine lv_if_eq (tgt := 59) hx hb dX1_isOvertaken_35 (by decide) (fun q => absurd q (by decide)) (fun _ => ?_)
          refine lv_iload_n hx hb dX1_isOvertaken_38 rfl (lv_at hl 3 rfl) ?_
          refine lv_iload hx hb dX1_isOvertaken_39 (lv_at hl 1 rfl) ?_
          refine lv_aload_n hx hb dX1_isOvertaken_41 rfl (lv_at hl 5 rfl) ?_
          refine hc_r (va_runS (As := [.int t, .int (nI k), .ref (ad 4)]) (rest := []) S (c_X1_bearsOne l G _ hW h4 t (nI k)) (va_cwS 3 hts (gWSS q_l_1_63 q_st_X1_bearsOne q_in_1 q_co_X1_bearsOne) rfl rfl rfl (by decide +kernel) ⟨Nat.le_of_ble_eq_true rfl, Nat.le_of_ble_eq_true rfl⟩) (hPreSr hE hS) rfl rfl hl.1 rfl (lv_room (Nat.le_of_ble_eq_true rfl)) dX1_isOvertaken_42 ⟨Nat.le_of_ble_eq_true rfl, Nat.le_of_ble_eq_true rfl⟩) hS (fun locs hS => ?_)
          refine lv_if_eq (tgt := 59) hx hb dX1_isOvertaken_45 (by decide) (fun c_45 => ?_) (fun c_45 => ?_)
          · refine lv_iinc (v := (nI (k + 1))) (lv' := [(4, .int (nI (k + 1))), (5, .int 1), (0, .int one), (1, .int t), (2, .int a), (3, .ref (ad 4))]) hx hb dX1_isOvertaken_59 hl (k := 1) rfl (nI_1 k) (by decide) rfl (fun ls hl => ?_)
            refine lv_goto (tgt := 3) hx hb dX1_isOvertaken_62 (by decide) ?_
            exact ih (k + 1)  _ _ (by omega) (by rw [hv]; simp [ovL, c_13, c_23, c_45]) hS (lv_sub hl [0, 2, 3, 4, 5] rfl)
          · refine lv_iload hx hb dX1_isOvertaken_48 (lv_at hl 1 rfl) ?_
            refine lv_iload_n hx hb dX1_isOvertaken_50 rfl (lv_at hl 4 rfl) ?_
            refine hc_r (va_runS (As := [.int (nI k), .int a]) (rest := []) S (c_X1_bodyOf l G _ (nI k) a) (va_cwS 2 hts (gWSS q_l_1_60 q_st_X1_bodyOf q_in_1 q_co_X1_bodyOf) rfl rfl rfl (by decide +kernel) ⟨Nat.le_of_ble_eq_true rfl, Nat.le_of_ble_eq_true rfl⟩) (hPreSr hE hS) rfl rfl hl.1 rfl (lv_room (Nat.le_of_ble_eq_true rfl)) dX1_isOvertaken_51 ⟨Nat.le_of_ble_eq_true rfl, Nat.le_of_ble_eq_true rfl⟩) hS (fun locs hS => ?_)
            refine lv_if_eq (tgt := 59) hx hb dX1_isOvertaken_54 (by decide) (fun c_54 => ?_) (fun c_54 => ?_)
            · refine lv_iinc (v := (nI (k + 1))) (lv' := [(4, .int (nI (k + 1))), (5, .int 1), (0, .int one), (1, .int t), (2, .int a), (3, .ref (ad 4))]) hx hb dX1_isOvertaken_59 hl (k := 1) rfl (nI_1 k) (by decide) rfl (fun ls hl => ?_)
              refine lv_goto (tgt := 3) hx hb dX1_isOvertaken_62 (by decide) ?_
              exact ih (k + 1)  _ _ (by omega) (by rw [hv]; simp [ovL, c_13, c_23, c_45, c_54]) hS (lv_sub hl [0, 2, 3, 4, 5] rfl)
            · refine lv_iconst (v := 1) hx hb dX1_isOvertaken_57 (by decide) ?_
              exact h_rzret S hr hlk hS dX1_isOvertaken_58 (ovL_b f one t a 5 2) (by rw [hv]; simp [ovL, c_13, c_23, c_45, c_54])
  exact loop 5 2 _ _ (by decide) rfl hS (lv_sub hl [0, 1, 2, 3, 4] rfl)
set_option maxRecDepth 100000 in
set_option maxHeartbeats 4000000 in
theorem c_X1_bodyOfInterfaces (l : Launch) (G : hG) (H : Heap) {ad : Nat → Nat} {ct : Nat → Option va_E} (hW : hw G ad ct H) {f : Nat → Int32} (h4 : ct 4 = some (.inl (G.2.1.1, 18, .inl f))) (t a : Int32) (ht : vp_in t 18)  : Met l yX1_bodyOfInterfaces wzX1_bodyOfInterfaces { frames := 3, cells := 0, slots := 0, locals := 68 } (hPr [.int t, .int a, .ref (ad 4)] G H) (hQr (boiL f t a 5 2) H G.2.2.2) 0 0 (hA G.2.2.2) := by
  refine hMetr (Qc := fun H => hQr (boiL f t a 5 2) H G.2.2.2) (by decide) (Nat.le_of_ble_eq_true rfl) (fun p e s m below meth c ls S hr hlk hE hH hl => ?_)
  subst hH
  obtain ⟨hx, hb, hml, hown, hts⟩ := id S
  have hS : va_S (hA G.2.2.2) s.heap s.heap [] := va_S.rf
  have hl : lv_has ls 5 [(0, .int t), (1, .int a), (2, .ref (ad 4))] := hl
  refine lv_iconst (v := 2) hx hb dX1_bodyOfInterfaces_0 (by decide) ?_
  refine lv_istore_n (lv' := [(3, .int 2), (0, .int t), (1, .int a), (2, .ref (ad 4))]) hx hb dX1_bodyOfInterfaces_1 rfl hl (by decide) rfl (fun ls hl => ?_)
  have loop : ∀ (n k : Nat)  (locs : List Loc) (ls : Array Slot), n + k = 7 → (boiL f t a 5 2 = boiL f t a n k) → va_S (hA G.2.2.2) s.heap s.heap locs → lv_has ls 5 [(3, .int (nI k)), (0, .int t), (1, .int a), (2, .ref (ad 4))] → W p l e { frames := 3, cells := 0, slots := 0, locals := 68 } s m ([.int t, .int a, .ref (ad 4)] : List Value).toArray below meth c s.heap locs 0 0 (MQ below (hQr (boiL f t a 5 2) s.heap G.2.2.2) ([.int t, .int a, .ref (ad 4)] : List Value).toArray s 0 0 (hA G.2.2.2)) (F0 m 2 ls []) := by
    intro n
    induction n with
    | zero =>
      intro k  locs ls hnk hv hS hl
      have hk : k = 7 := by omega
      subst hk
      refine lv_iload_n hx hb dX1_bodyOfInterfaces_2 rfl (lv_at hl 0 rfl) ?_
      refine lv_bipush (v := 6) hx hb dX1_bodyOfInterfaces_3 (by decide) ?_
      refine lv_icmp_gt (tgt := 59) hx hb dX1_bodyOfInterfaces_5 (by decide) (fun _ => ?_) (fun q => absurd (by decide) q)
      refine lv_iconst (v := 0) hx hb dX1_bodyOfInterfaces_59 (by decide) ?_
      exact h_rret S hr hlk hS dX1_bodyOfInterfaces_60 (by rw [hv]; rfl)
    | succ n ih =>
      intro k  locs ls hnk hv hS hl
      refine lv_iload_n hx hb dX1_bodyOfInterfaces_2 rfl (lv_at hl 0 rfl) ?_
      refine lv_bipush (v := 6) hx hb dX1_bodyOfInterfaces_3 (by decide) ?_
      refine lv_icmp_gt (tgt := 59) hx hb dX1_bodyOfInterfaces_5 (by decide) (fun q => absurd q (le6 (by omega))) (fun _ => ?_)
      refine lv_iload_n hx hb dX1_bodyOfInterfaces_8 rfl (lv_at hl 1 rfl) ?_
      refine lv_iload_n hx hb dX1_bodyOfInterfaces_9 rfl (lv_at hl 0 rfl) ?_
      refine lv_aload_n hx hb dX1_bodyOfInterfaces_10 rfl (lv_at hl 3 rfl) ?_
      refine hc_r (va_runS (As := [.int t, .int (nI k), .ref (ad 4)]) (rest := []) S (c_X1_bearsOne l G _ hW h4 t (nI k)) (va_cwS 3 hts (gWSS q_l_1_63 q_st_X1_bearsOne q_in_1 q_co_X1_bearsOne) rfl rfl rfl (by decide +kernel) ⟨Nat.le_of_ble_eq_true rfl, Nat.le_of_ble_eq_true rfl⟩) (hPreSr hE hS) rfl rfl hl.1 rfl (lv_room (Nat.le_of_ble_eq_true rfl)) dX1_bodyOfInterfaces_11 ⟨Nat.le_of_ble_eq_true rfl, Nat.le_of_ble_eq_true rfl⟩) hS (fun locs hS => ?_)
      refine lv_if_eq (tgt := 29) hx hb dX1_bodyOfInterfaces_14 (by decide) (fun c_14 => ?_) (fun c_14 => ?_)
      · refine lv_iconst (v := 0) hx hb dX1_bodyOfInterfaces_29 (by decide) ?_
        refine lv_istore (lv' := [(4, .int 0), (3, .int (nI k)), (0, .int t), (1, .int a), (2, .ref (ad 4))]) hx hb dX1_bodyOfInterfaces_30 hl (by decide) rfl (fun ls hl => ?_)
        refine lv_iload hx hb dX1_bodyOfInterfaces_32 (lv_at hl 0 rfl) ?_
        refine lv_if_eq (tgt := 53) hx hb dX1_bodyOfInterfaces_34 (by decide) (fun _ => ?_) (fun q => absurd (by decide) q)
        refine lv_iinc (v := (nI (k + 1))) (lv' := [(3, .int (nI (k + 1))), (4, .int 0), (0, .int t), (1, .int a), (2, .ref (ad 4))]) hx hb dX1_bodyOfInterfaces_53 hl (k := 1) rfl (nI_1 k) (by decide) rfl (fun ls hl => ?_)
        refine lv_goto (tgt := 2) hx hb dX1_bodyOfInterfaces_56 (by decide) ?_
        exact ih (k + 1)  _ _ (by omega) (by rw [hv]; simp [boiL, c_14]) hS (lv_sub hl [0, 2, 3, 4] rfl)
      · refine lv_iload_n hx hb dX1_bodyOfInterfaces_17 rfl (lv_at hl 0 rfl) ?_
        refine lv_iload_n hx hb dX1_bodyOfInterfaces_18 rfl (lv_at hl 2 rfl) ?_
        refine hc_r (va_runS (As := [.int (nI k), .int a]) (rest := []) S (c_X1_bodyOf l G _ (nI k) a) (va_cwS 2 hts (gWSS q_l_1_60 q_st_X1_bodyOf q_in_1 q_co_X1_bodyOf) rfl rfl rfl (by decide +kernel) ⟨Nat.le_of_ble_eq_true rfl, Nat.le_of_ble_eq_true rfl⟩) (hPreSr hE hS) rfl rfl hl.1 rfl (lv_room (Nat.le_of_ble_eq_true rfl)) dX1_bodyOfInterfaces_19 ⟨Nat.le_of_ble_eq_true rfl, Nat.le_of_ble_eq_true rfl⟩) hS (fun locs hS => ?_)
        refine lv_if_eq (tgt := 29) hx hb dX1_bodyOfInterfaces_22 (by decide) (fun c_22 => ?_) (fun c_22 => ?_)
        · refine lv_iconst (v := 0) hx hb dX1_bodyOfInterfaces_29 (by decide) ?_
          refine lv_istore (lv' := [(4, .int 0), (3, .int (nI k)), (0, .int t), (1, .int a), (2, .ref (ad 4))]) hx hb dX1_bodyOfInterfaces_30 hl (by decide) rfl (fun ls hl => ?_)
          refine lv_iload hx hb dX1_bodyOfInterfaces_32 (lv_at hl 0 rfl) ?_
          refine lv_if_eq (tgt := 53) hx hb dX1_bodyOfInterfaces_34 (by decide) (fun _ => ?_) (fun q => absurd (by decide) q)
          refine lv_iinc (v := (nI (k + 1))) (lv' := [(3, .int (nI (k + 1))), (4, .int 0), (0, .int t), (1, .int a), (2, .ref (ad 4))]) hx hb dX1_bodyOfInterfaces_53 hl (k := 1) rfl (nI_1 k) (by decide) rfl (fun ls hl => ?_)
          refine lv_goto (tgt := 2) hx hb dX1_bodyOfInterfaces_56 (by decide) ?_
          exact ih (k + 1)  _ _ (by omega) (by rw [hv]; simp [boiL, c_14, c_22]) hS (lv_sub hl [0, 2, 3, 4] rfl)
        · refine lv_iconst (v := 1) hx hb dX1_bodyOfInterfaces_25 (by decide) ?_
          refine lv_goto (tgt := 30) hx hb dX1_bodyOfInterfaces_26 (by decide) ?_
          refine lv_istore (lv' := [(4, .int 1), (3, .int (nI k)), (0, .int t), (1, .int a), (2, .ref (ad 4))]) hx hb dX1_bodyOfInterfaces_30 hl (by decide) rfl (fun ls hl => ?_)
          refine lv_iload hx hb dX1_bodyOfInterfaces_32 (lv_at hl 0 rfl) ?_
          refine lv_if_eq (tgt := 53) hx hb dX1_bodyOfInterfaces_34 (by decide) (fun q => absurd q (by decide)) (fun _ => ?_)
          refine lv_iload_n hx hb dX1_bodyOfInterfaces_37 rfl (lv_at hl 1 rfl) ?_
          refine lv_iload_n hx hb dX1_bodyOfInterfaces_38 rfl (lv_at hl 2 rfl) ?_
          refine lv_iload_n hx hb dX1_bodyOfInterfaces_39 rfl (lv_at hl 3 rfl) ?_
          refine lv_aload_n hx hb dX1_bodyOfInterfaces_40 rfl (lv_at hl 4 rfl) ?_
          refine hc_r (va_runS (As := [.int (nI k), .int t, .int a, .ref (ad 4)]) (rest := []) S (c_X1_isOvertaken l G _ hW h4 (nI k) t a ht) (va_cwS 4 hts (gWSS q_l_1_67 q_st_X1_isOvertaken q_in_1 q_co_X1_isOvertaken) rfl rfl rfl (by decide +kernel) ⟨Nat.le_of_ble_eq_true rfl, Nat.le_of_ble_eq_true rfl⟩) (hPreSr hE hS) rfl rfl hl.1 rfl (lv_room (Nat.le_of_ble_eq_true rfl)) dX1_bodyOfInterfaces_41 ⟨Nat.le_of_ble_eq_true rfl, Nat.le_of_ble_eq_true rfl⟩) hS (fun locs hS => ?_)
          refine lv_if_ne (tgt := 53) hx hb dX1_bodyOfInterfaces_44 (by decide) (fun c_44 => ?_) (fun c_44 => ?_)
          · refine lv_iinc (v := (nI (k + 1))) (lv' := [(3, .int (nI (k + 1))), (4, .int 1), (0, .int t), (1, .int a), (2, .ref (ad 4))]) hx hb dX1_bodyOfInterfaces_53 hl (k := 1) rfl (nI_1 k) (by decide) rfl (fun ls hl => ?_)
            refine lv_goto (tgt := 2) hx hb dX1_bodyOfInterfaces_56 (by decide) ?_
            exact ih (k + 1)  _ _ (by omega) (by rw [hv]; simp [boiL, c_14, c_22, c_44]) hS (lv_sub hl [0, 2, 3, 4] rfl)
          · refine lv_iload_n hx hb dX1_bodyOfInterfaces_47 rfl (lv_at hl 1 rfl) ?_
            refine lv_iload_n hx hb dX1_bodyOfInterfaces_48 rfl (lv_at hl 3 rfl) ?_
            refine hc_r (va_runS (As := [.int (nI k), .int a]) (rest := []) S (c_X1_bodyOf l G _ (nI k) a) (va_cwS 2 hts (gWSS q_l_1_60 q_st_X1_bodyOf q_in_1 q_co_X1_bodyOf) rfl rfl rfl (by decide +kernel) ⟨Nat.le_of_ble_eq_true rfl, Nat.le_of_ble_eq_true rfl⟩) (hPreSr hE hS) rfl rfl hl.1 rfl (lv_room (Nat.le_of_ble_eq_true rfl)) dX1_bodyOfInterfaces_49 ⟨Nat.le_of_ble_eq_true rfl, Nat.le_of_ble_eq_true rfl⟩) hS (fun locs hS => ?_)
            exact h_rret S hr hlk hS dX1_bodyOfInterfaces_52 (by rw [hv]; simp [boiL, c_14, c_22, c_44])
  exact loop 5 2 _ _ (by decide) rfl hS (lv_sub hl [0, 1, 2, 3] rfl)
set_option maxRecDepth 100000 in
set_option maxHeartbeats 4000000 in
theorem c_X1_select (l : Launch) (G : hG) (H : Heap) {ad : Nat → Nat} {ct : Nat → Option va_E} (hW : hw G ad ct H) {f : Nat → Int32} (h4 : ct 4 = some (.inl (G.2.1.1, 18, .inl f))) (t a : Int32) (ht : vp_in t 18)  : Met l yX1_select wzX1_select { frames := 4, cells := 0, slots := 0, locals := 92 } (hPr [.int t, .int a, .ref (ad 4)] G H) (hQr (selF f t a) H G.2.2.2) 0 0 (hA G.2.2.2) := by
  refine hMetr (Qc := fun H => hQr (selF f t a) H G.2.2.2) (by decide) (Nat.le_of_ble_eq_true rfl) (fun p e s m below meth c ls S hr hlk hE hH hl => ?_)
  subst hH
  obtain ⟨hx, hb, hml, hown, hts⟩ := id S
  have hS : va_S (hA G.2.2.2) s.heap s.heap [] := va_S.rf
  have hl : lv_has ls 4 [(0, .int t), (1, .int a), (2, .ref (ad 4))] := hl
  refine lv_iload_n hx hb dX1_select_0 rfl (lv_at hl 0 rfl) ?_
  refine lv_iload_n hx hb dX1_select_1 rfl (lv_at hl 1 rfl) ?_
  refine hc_r (va_runS (As := [.int t, .int a]) (rest := []) S (c_X1_bodyOfLine l G _ t a) (va_cwS 2 hts (gWSS q_l_1_53 q_st_X1_bodyOfLine q_in_1 q_co_X1_bodyOfLine) rfl rfl rfl (by decide +kernel) ⟨Nat.le_of_ble_eq_true rfl, Nat.le_of_ble_eq_true rfl⟩) (hPreSr hE hS) rfl rfl hl.1 rfl (lv_room (Nat.le_of_ble_eq_true rfl)) dX1_select_2 ⟨Nat.le_of_ble_eq_true rfl, Nat.le_of_ble_eq_true rfl⟩) hS (fun locs hS => ?_)
  refine lv_istore_n (lv' := [(3, .int (bolF a 18 t)), (0, .int t), (1, .int a), (2, .ref (ad 4))]) hx hb dX1_select_5 rfl hl (by decide) rfl (fun ls hl => ?_)
  refine lv_iload_n hx hb dX1_select_6 rfl (lv_at hl 0 rfl) ?_
  refine lv_if_eq (tgt := 14) hx hb dX1_select_7 (by decide) (fun c_7 => ?_) (fun c_7 => ?_)
  · refine lv_iload_n hx hb dX1_select_14 rfl (lv_at hl 1 rfl) ?_
    refine lv_iload_n hx hb dX1_select_15 rfl (lv_at hl 2 rfl) ?_
    refine lv_aload_n hx hb dX1_select_16 rfl (lv_at hl 3 rfl) ?_
    refine hc_r (va_runS (As := [.int t, .int a, .ref (ad 4)]) (rest := []) S (c_X1_bodyOfInterfaces l G _ hW h4 t a ht) (va_cwS 3 hts (gWSS q_l_1_57 q_st_X1_bodyOfInterfaces q_in_1 q_co_X1_bodyOfInterfaces) rfl rfl rfl (by decide +kernel) ⟨Nat.le_of_ble_eq_true rfl, Nat.le_of_ble_eq_true rfl⟩) (hPreSr hE hS) rfl rfl hl.1 rfl (lv_room (Nat.le_of_ble_eq_true rfl)) dX1_select_17 ⟨Nat.le_of_ble_eq_true rfl, Nat.le_of_ble_eq_true rfl⟩) hS (fun locs hS => ?_)
    exact h_rret S hr hlk hS dX1_select_20 (by simp [selF, c_7])
  · refine lv_iload_n hx hb dX1_select_10 rfl (lv_at hl 0 rfl) ?_
    refine lv_goto (tgt := 20) hx hb dX1_select_11 (by decide) ?_
    exact h_rret S hr hlk hS dX1_select_20 (by simp [selF, c_7])
set_option maxRecDepth 100000 in
set_option maxHeartbeats 4000000 in
theorem c_X1_selectedOf (l : Launch) (G : hG) (H : Heap) {ad : Nat → Nat} {ct : Nat → Option va_E} (hW : hw G ad ct H) {f5 : Nat → Int32} (h1 : ct 1 = some (.inr (1, [.ref (ad 4), .ref (ad 5)]))) (h5 : ct 5 = some (.inl (G.2.1.1, 216, .inl f5))) (t a : Int32)  : Met l yX1_selectedOf wzX1_selectedOf { frames := 1, cells := 0, slots := 0, locals := 20 } (hPr [.ref (ad 1), .int t, .int a] G H) (hQr (selOfF f5 t a) H G.2.2.2) 0 0 (hA G.2.2.2) := by
  refine hMetr (Qc := fun H => hQr (selOfF f5 t a) H G.2.2.2) (by decide) (Nat.le_of_ble_eq_true rfl) (fun p e s m below meth c ls S hr hlk hE hH hl => ?_)
  subst hH
  obtain ⟨hx, hb, hml, hown, hts⟩ := id S
  have hS : va_S (hA G.2.2.2) s.heap s.heap [] := va_S.rf
  have hl : lv_has ls 3 [(0, .ref (ad 1)), (1, .int t), (2, .int a)] := hl
  refine lv_iload_n hx hb dX1_selectedOf_0 rfl (lv_at hl 1 rfl) ?_
  refine hc_r (va_runS (As := [.int t]) (rest := []) S (c_X1_isType l G _ t) (va_cwS 1 hts (gWSS q_l_1_26 q_st_X1_isType q_in_1 q_co_X1_isType) rfl rfl rfl (by decide +kernel) ⟨Nat.le_of_ble_eq_true rfl, Nat.le_of_ble_eq_true rfl⟩) (hPreSr hE hS) rfl rfl hl.1 rfl (lv_room (Nat.le_of_ble_eq_true rfl)) dX1_selectedOf_1 ⟨Nat.le_of_ble_eq_true rfl, Nat.le_of_ble_eq_true rfl⟩) hS (fun locs hS => ?_)
  refine lv_if_eq (tgt := 28) hx hb dX1_selectedOf_4 (by decide) (fun c_4 => ?_) (fun c_4 => ?_)
  · refine lv_iconst (v := 0) hx hb dX1_selectedOf_28 (by decide) ?_
    exact h_rret S hr hlk hS dX1_selectedOf_29 (by simp [selOfF, c_4])
  · refine lv_iload_n hx hb dX1_selectedOf_7 rfl (lv_at hl 2 rfl) ?_
    refine hc_r (va_runSN (As := [.int a]) (rest := []) S (c_X4_isAct l G _ a) ⟨va_cnB 1 hts (gWS q_co_X4_isAct) rfl rfl rfl (hE.nest 9 rfl) (hts _ q_in_4) (by decide +kernel) ⟨Nat.le_of_ble_eq_true rfl, Nat.le_of_ble_eq_true rfl⟩, hts _ q_st_X4_isAct, trivial⟩ (hPreSr hE hS) rfl rfl hl.1 rfl (lv_room (Nat.le_of_ble_eq_true rfl)) dX1_selectedOf_8 ⟨Nat.le_of_ble_eq_true rfl, Nat.le_of_ble_eq_true rfl⟩) hS (fun locs hS => ?_)
    refine lv_if_eq (tgt := 28) hx hb dX1_selectedOf_11 (by decide) (fun c_11 => ?_) (fun c_11 => ?_)
    · refine lv_iconst (v := 0) hx hb dX1_selectedOf_28 (by decide) ?_
      exact h_rret S hr hlk hS dX1_selectedOf_29 (by simp [selOfF, c_4, c_11])
    · refine lv_aload_n hx hb dX1_selectedOf_14 rfl (lv_at hl 0 rfl) ?_
      refine hr_get S hE hW h1 inX1 (C := RX1) (T := TX1) (N := 2) rfl 1 (by decide) q_f_1_15 rfl dX1_selectedOf_15 ?_
      refine lv_iload_n hx hb dX1_selectedOf_18 rfl (lv_at hl 1 rfl) ?_
      refine lv_bipush (v := 12) hx hb dX1_selectedOf_19 (by decide) ?_
      refine lv_imul hx hb dX1_selectedOf_21 ?_
      refine lv_iload_n hx hb dX1_selectedOf_22 rfl (lv_at hl 2 rfl) ?_
      refine lv_iadd hx hb dX1_selectedOf_23 ?_
      refine hr_iald S hE hW h5 (in_ta (isTypeF_in c_4) (isActF_in c_11)) dX1_selectedOf_24 ?_
      refine lv_goto (tgt := 29) hx hb dX1_selectedOf_25 (by decide) ?_
      exact h_rret S hr hlk hS dX1_selectedOf_29 (by simp [selOfF, c_4, c_11])
set_option maxRecDepth 100000 in
set_option maxHeartbeats 4000000 in
theorem c_X1_bears (l : Launch) (G : hG) (H : Heap) {ad : Nat → Nat} {ct : Nat → Option va_E} (hW : hw G ad ct H) {f : Nat → Int32} (h1 : ct 1 = some (.inr (1, [.ref (ad 4), .ref (ad 5)]))) (h4 : ct 4 = some (.inl (G.2.1.1, 18, .inl f))) (t w : Int32)  : Met l yX1_bears wzX1_bears { frames := 1, cells := 0, slots := 0, locals := 21 } (hPr [.ref (ad 1), .int t, .int w] G H) (hQr (bearsF f t w) H G.2.2.2) 0 0 (hA G.2.2.2) := by
  refine hMetr (Qc := fun H => hQr (bearsF f t w) H G.2.2.2) (by decide) (Nat.le_of_ble_eq_true rfl) (fun p e s m below meth c ls S hr hlk hE hH hl => ?_)
  subst hH
  obtain ⟨hx, hb, hml, hown, hts⟩ := id S
  have hS : va_S (hA G.2.2.2) s.heap s.heap [] := va_S.rf
  have hl : lv_has ls 3 [(0, .ref (ad 1)), (1, .int t), (2, .int w)] := hl
  refine lv_iload_n hx hb dX1_bears_0 rfl (lv_at hl 1 rfl) ?_
  refine hc_r (va_runS (As := [.int t]) (rest := []) S (c_X1_isType l G _ t) (va_cwS 1 hts (gWSS q_l_1_26 q_st_X1_isType q_in_1 q_co_X1_isType) rfl rfl rfl (by decide +kernel) ⟨Nat.le_of_ble_eq_true rfl, Nat.le_of_ble_eq_true rfl⟩) (hPreSr hE hS) rfl rfl hl.1 rfl (lv_room (Nat.le_of_ble_eq_true rfl)) dX1_bears_1 ⟨Nat.le_of_ble_eq_true rfl, Nat.le_of_ble_eq_true rfl⟩) hS (fun locs hS => ?_)
  refine lv_if_eq (tgt := 36) hx hb dX1_bears_4 (by decide) (fun c_4 => ?_) (fun c_4 => ?_)
  · refine lv_iconst (v := 0) hx hb dX1_bears_36 (by decide) ?_
    exact h_rzret S hr hlk hS dX1_bears_37 (bearsF_b f t w) (by simp [bearsF, c_4])
  · refine lv_iload_n hx hb dX1_bears_7 rfl (lv_at hl 2 rfl) ?_
    refine hc_r (va_runSN (As := [.int w]) (rest := []) S (c_X4_isWay l G _ w) ⟨va_cnB 1 hts (gWS q_co_X4_isWay) rfl rfl rfl (hE.nest 13 rfl) (hts _ q_in_4) (by decide +kernel) ⟨Nat.le_of_ble_eq_true rfl, Nat.le_of_ble_eq_true rfl⟩, hts _ q_st_X4_isWay, trivial⟩ (hPreSr hE hS) rfl rfl hl.1 rfl (lv_room (Nat.le_of_ble_eq_true rfl)) dX1_bears_8 ⟨Nat.le_of_ble_eq_true rfl, Nat.le_of_ble_eq_true rfl⟩) hS (fun locs hS => ?_)
    refine lv_if_eq (tgt := 36) hx hb dX1_bears_11 (by decide) (fun c_11 => ?_) (fun c_11 => ?_)
    · refine lv_iconst (v := 0) hx hb dX1_bears_36 (by decide) ?_
      exact h_rzret S hr hlk hS dX1_bears_37 (bearsF_b f t w) (by simp [bearsF, c_4, c_11])
    · refine lv_iload_n hx hb dX1_bears_14 rfl (lv_at hl 2 rfl) ?_
      refine lv_iconst (v := 1) hx hb dX1_bears_15 (by decide) ?_
      refine lv_icmp_le (tgt := 32) hx hb dX1_bears_16 (by decide) (fun c_16 => ?_) (fun c_16 => ?_)
      · refine lv_iconst (v := 1) hx hb dX1_bears_32 (by decide) ?_
        refine lv_goto (tgt := 37) hx hb dX1_bears_33 (by decide) ?_
        exact h_rzret S hr hlk hS dX1_bears_37 (bearsF_b f t w) (by simp [bearsF, c_4, c_11, c_16])
      · refine lv_aload_n hx hb dX1_bears_19 rfl (lv_at hl 0 rfl) ?_
        refine hr_get S hE hW h1 inX1 (C := RX1) (T := TX1) (N := 2) rfl 0 (by decide) q_f_1_9 rfl dX1_bears_20 ?_
        refine lv_iload_n hx hb dX1_bears_23 rfl (lv_at hl 1 rfl) ?_
        refine hr_iald S hE hW h4 (isTypeF_in c_4) dX1_bears_24 ?_
        refine lv_iload_n hx hb dX1_bears_25 rfl (lv_at hl 2 rfl) ?_
        refine hc_r (va_runS (As := [.int (f (t).toNatClampNeg), .int w]) (rest := []) S (c_X1_holds l G _ (f (t).toNatClampNeg) w) (va_cwS 2 hts (gWSS q_l_1_39 q_st_X1_holds q_in_1 q_co_X1_holds) rfl rfl rfl (by decide +kernel) ⟨Nat.le_of_ble_eq_true rfl, Nat.le_of_ble_eq_true rfl⟩) (hPreSr hE hS) rfl rfl hl.1 rfl (lv_room (Nat.le_of_ble_eq_true rfl)) dX1_bears_26 ⟨Nat.le_of_ble_eq_true rfl, Nat.le_of_ble_eq_true rfl⟩) hS (fun locs hS => ?_)
        refine lv_if_eq (tgt := 36) hx hb dX1_bears_29 (by decide) (fun c_29 => ?_) (fun c_29 => ?_)
        · refine lv_iconst (v := 0) hx hb dX1_bears_36 (by decide) ?_
          exact h_rzret S hr hlk hS dX1_bears_37 (bearsF_b f t w) (by simp [bearsF, c_4, c_11, c_16, c_29])
        · refine lv_iconst (v := 1) hx hb dX1_bears_32 (by decide) ?_
          refine lv_goto (tgt := 37) hx hb dX1_bears_33 (by decide) ?_
          exact h_rzret S hr hlk hS dX1_bears_37 (bearsF_b f t w) (by simp [bearsF, c_4, c_11, c_16, c_29])
def takOfF (f : Nat → Int32) (t : Int32) : Int32 := if bearsF f t 3 = 0 then (if bearsF f t 2 = 0 then 6 else 1) else 4
set_option maxRecDepth 100000 in
set_option maxHeartbeats 4000000 in
theorem c_X1_takingActOf (l : Launch) (G : hG) (H : Heap) {ad : Nat → Nat} {ct : Nat → Option va_E} (hW : hw G ad ct H) {f : Nat → Int32} (h1 : ct 1 = some (.inr (1, [.ref (ad 4), .ref (ad 5)]))) (h4 : ct 4 = some (.inl (G.2.1.1, 18, .inl f))) (t : Int32)  : Met l yX1_takingActOf wzX1_takingActOf { frames := 2, cells := 0, slots := 0, locals := 43 } (hPr [.ref (ad 1), .int t] G H) (hQr (takOfF f t) H G.2.2.2) 0 0 (hA G.2.2.2) := by
  refine hMetr (Qc := fun H => hQr (takOfF f t) H G.2.2.2) (by decide) (Nat.le_of_ble_eq_true rfl) (fun p e s m below meth c ls S hr hlk hE hH hl => ?_)
  subst hH
  obtain ⟨hx, hb, hml, hown, hts⟩ := id S
  have hS : va_S (hA G.2.2.2) s.heap s.heap [] := va_S.rf
  have hl : lv_has ls 2 [(0, .ref (ad 1)), (1, .int t)] := hl
  refine lv_aload_n hx hb dX1_takingActOf_0 rfl (lv_at hl 0 rfl) ?_
  refine lv_iload_n hx hb dX1_takingActOf_1 rfl (lv_at hl 1 rfl) ?_
  refine lv_iconst (v := 3) hx hb dX1_takingActOf_2 (by decide) ?_
  refine hc_r (va_runV (As := [.int t, .int 3]) (rest := []) S (c_X1_bears l G _ hW h1 h4 t 3) (cwV 2 hts (gWSV q_l_1_74 q_im_X1_bears q_se_X1_bears q_in_1 q_co_X1_bears) rfl rfl rfl (by decide +kernel) ⟨Nat.le_of_ble_eq_true rfl, Nat.le_of_ble_eq_true rfl⟩) (hPreVr hE hS (hrecv hE hW h1 (q := (RX1, TX1, 2)) rfl)) rfl rfl hl.1 rfl (lv_room (Nat.le_of_ble_eq_true rfl)) dX1_takingActOf_3 ⟨Nat.le_of_ble_eq_true rfl, Nat.le_of_ble_eq_true rfl⟩) hS (fun locs hS => ?_)
  refine lv_if_eq (tgt := 11) hx hb dX1_takingActOf_6 (by decide) (fun c_6 => ?_) (fun c_6 => ?_)
  · refine lv_aload_n hx hb dX1_takingActOf_11 rfl (lv_at hl 0 rfl) ?_
    refine lv_iload_n hx hb dX1_takingActOf_12 rfl (lv_at hl 1 rfl) ?_
    refine lv_iconst (v := 2) hx hb dX1_takingActOf_13 (by decide) ?_
    refine hc_r (va_runV (As := [.int t, .int 2]) (rest := []) S (c_X1_bears l G _ hW h1 h4 t 2) (cwV 2 hts (gWSV q_l_1_74 q_im_X1_bears q_se_X1_bears q_in_1 q_co_X1_bears) rfl rfl rfl (by decide +kernel) ⟨Nat.le_of_ble_eq_true rfl, Nat.le_of_ble_eq_true rfl⟩) (hPreVr hE hS (hrecv hE hW h1 (q := (RX1, TX1, 2)) rfl)) rfl rfl hl.1 rfl (lv_room (Nat.le_of_ble_eq_true rfl)) dX1_takingActOf_14 ⟨Nat.le_of_ble_eq_true rfl, Nat.le_of_ble_eq_true rfl⟩) hS (fun locs hS => ?_)
    refine lv_if_eq (tgt := 24) hx hb dX1_takingActOf_17 (by decide) (fun c_17 => ?_) (fun c_17 => ?_)
    · refine lv_bipush (v := 6) hx hb dX1_takingActOf_24 (by decide) ?_
      exact h_rret S hr hlk hS dX1_takingActOf_26 (by simp [takOfF, c_6, c_17])
    · refine lv_iconst (v := 1) hx hb dX1_takingActOf_20 (by decide) ?_
      refine lv_goto (tgt := 26) hx hb dX1_takingActOf_21 (by decide) ?_
      exact h_rret S hr hlk hS dX1_takingActOf_26 (by simp [takOfF, c_6, c_17])
  · refine lv_iconst (v := 4) hx hb dX1_takingActOf_9 (by decide) ?_
    exact h_rret S hr hlk hS dX1_takingActOf_10 (by simp [takOfF, c_6])
set_option maxRecDepth 100000 in
set_option maxHeartbeats 4000000 in
theorem c_X1_hasAct (l : Launch) (G : hG) (H : Heap) {ad : Nat → Nat} {ct : Nat → Option va_E} (hW : hw G ad ct H) (h1 : ct 1 = some (.inr (1, [.ref (ad 4), .ref (ad 5)]))) (w a : Int32)  : Met l yX1_hasAct wzX1_hasAct { frames := 1, cells := 0, slots := 0, locals := 21 } (hPr [.ref (ad 1), .int w, .int a] G H) (hQr (hasActF w a) H G.2.2.2) 0 0 (hA G.2.2.2) := by
  refine hMetr (Qc := fun H => hQr (hasActF w a) H G.2.2.2) (by decide) (Nat.le_of_ble_eq_true rfl) (fun p e s m below meth c ls S hr hlk hE hH hl => ?_)
  subst hH
  obtain ⟨hx, hb, hml, hown, hts⟩ := id S
  have hS : va_S (hA G.2.2.2) s.heap s.heap [] := va_S.rf
  have hl : lv_has ls 3 [(0, .ref (ad 1)), (1, .int w), (2, .int a)] := hl
  refine lv_iload_n hx hb dX1_hasAct_0 rfl (lv_at hl 1 rfl) ?_
  refine hc_r (va_runSN (As := [.int w]) (rest := []) S (c_X4_isWay l G _ w) ⟨va_cnB 1 hts (gWS q_co_X4_isWay) rfl rfl rfl (hE.nest 13 rfl) (hts _ q_in_4) (by decide +kernel) ⟨Nat.le_of_ble_eq_true rfl, Nat.le_of_ble_eq_true rfl⟩, hts _ q_st_X4_isWay, trivial⟩ (hPreSr hE hS) rfl rfl hl.1 rfl (lv_room (Nat.le_of_ble_eq_true rfl)) dX1_hasAct_1 ⟨Nat.le_of_ble_eq_true rfl, Nat.le_of_ble_eq_true rfl⟩) hS (fun locs hS => ?_)
  refine lv_if_eq (tgt := 30) hx hb dX1_hasAct_4 (by decide) (fun c_4 => ?_) (fun c_4 => ?_)
  · refine lv_iconst (v := 0) hx hb dX1_hasAct_30 (by decide) ?_
    exact h_rzret S hr hlk hS dX1_hasAct_31 (hasActF_b w a) (by simp [hasActF, c_4])
  · refine lv_iload_n hx hb dX1_hasAct_7 rfl (lv_at hl 2 rfl) ?_
    refine hc_r (va_runSN (As := [.int a]) (rest := []) S (c_X4_isAct l G _ a) ⟨va_cnB 1 hts (gWS q_co_X4_isAct) rfl rfl rfl (hE.nest 9 rfl) (hts _ q_in_4) (by decide +kernel) ⟨Nat.le_of_ble_eq_true rfl, Nat.le_of_ble_eq_true rfl⟩, hts _ q_st_X4_isAct, trivial⟩ (hPreSr hE hS) rfl rfl hl.1 rfl (lv_room (Nat.le_of_ble_eq_true rfl)) dX1_hasAct_8 ⟨Nat.le_of_ble_eq_true rfl, Nat.le_of_ble_eq_true rfl⟩) hS (fun locs hS => ?_)
    refine lv_if_eq (tgt := 30) hx hb dX1_hasAct_11 (by decide) (fun c_11 => ?_) (fun c_11 => ?_)
    · refine lv_iconst (v := 0) hx hb dX1_hasAct_30 (by decide) ?_
      exact h_rzret S hr hlk hS dX1_hasAct_31 (hasActF_b w a) (by simp [hasActF, c_4, c_11])
    · refine va_gets hx hb hE.2.2.2.2.2.1.1 hS hown (hts _ q_f_1_77) (fun _ h => h) dX1_hasAct_14 ?_
      refine lv_iload_n hx hb dX1_hasAct_17 rfl (lv_at hl 1 rfl) ?_
      refine va_ti hx hb hE.2.2.2.2.2.1.2 hS (isWayF_in c_4) (v := .int (tab tabWl (w).toNatClampNeg)) rfl dX1_hasAct_18 ?_
      refine lv_iload_n hx hb dX1_hasAct_19 rfl (lv_at hl 2 rfl) ?_
      refine hc_r (va_runS (As := [.int (tab tabWl (w).toNatClampNeg), .int a]) (rest := []) S (c_X1_holds l G _ (tab tabWl (w).toNatClampNeg) a) (va_cwS 2 hts (gWSS q_l_1_39 q_st_X1_holds q_in_1 q_co_X1_holds) rfl rfl rfl (by decide +kernel) ⟨Nat.le_of_ble_eq_true rfl, Nat.le_of_ble_eq_true rfl⟩) (hPreSr hE hS) rfl rfl hl.1 rfl (lv_room (Nat.le_of_ble_eq_true rfl)) dX1_hasAct_20 ⟨Nat.le_of_ble_eq_true rfl, Nat.le_of_ble_eq_true rfl⟩) hS (fun locs hS => ?_)
      refine lv_if_eq (tgt := 30) hx hb dX1_hasAct_23 (by decide) (fun c_23 => ?_) (fun c_23 => ?_)
      · refine lv_iconst (v := 0) hx hb dX1_hasAct_30 (by decide) ?_
        exact h_rzret S hr hlk hS dX1_hasAct_31 (hasActF_b w a) (by simp [hasActF, c_4, c_11, c_23])
      · refine lv_iconst (v := 1) hx hb dX1_hasAct_26 (by decide) ?_
        refine lv_goto (tgt := 31) hx hb dX1_hasAct_27 (by decide) ?_
        exact h_rzret S hr hlk hS dX1_hasAct_31 (hasActF_b w a) (by simp [hasActF, c_4, c_11, c_23])
set_option maxRecDepth 100000 in
set_option maxHeartbeats 4000000 in
theorem c_X1_kindHasAct (l : Launch) (G : hG) (H : Heap) {ad : Nat → Nat} {ct : Nat → Option va_E} (hW : hw G ad ct H) {f : Nat → Int32} (h1 : ct 1 = some (.inr (1, [.ref (ad 4), .ref (ad 5)]))) (h4 : ct 4 = some (.inl (G.2.1.1, 18, .inl f))) (t a : Int32)  : Met l yX1_kindHasAct wzX1_kindHasAct { frames := 2, cells := 0, slots := 0, locals := 43 } (hPr [.ref (ad 1), .int t, .int a] G H) (hQr (khaL f t a 6 1) H G.2.2.2) 0 0 (hA G.2.2.2) := by
  refine hMetr (Qc := fun H => hQr (khaL f t a 6 1) H G.2.2.2) (by decide) (Nat.le_of_ble_eq_true rfl) (fun p e s m below meth c ls S hr hlk hE hH hl => ?_)
  subst hH
  obtain ⟨hx, hb, hml, hown, hts⟩ := id S
  have hS : va_S (hA G.2.2.2) s.heap s.heap [] := va_S.rf
  have hl : lv_has ls 4 [(0, .ref (ad 1)), (1, .int t), (2, .int a)] := hl
  refine lv_iconst (v := 1) hx hb dX1_kindHasAct_0 (by decide) ?_
  refine lv_istore_n (lv' := [(3, .int 1), (0, .ref (ad 1)), (1, .int t), (2, .int a)]) hx hb dX1_kindHasAct_1 rfl hl (by decide) rfl (fun ls hl => ?_)
  have loop : ∀ (n k : Nat)  (locs : List Loc) (ls : Array Slot), n + k = 7 → (khaL f t a 6 1 = khaL f t a n k) → va_S (hA G.2.2.2) s.heap s.heap locs → lv_has ls 4 [(3, .int (nI k)), (0, .ref (ad 1)), (1, .int t), (2, .int a)] → W p l e { frames := 2, cells := 0, slots := 0, locals := 43 } s m ([.ref (ad 1), .int t, .int a] : List Value).toArray below meth c s.heap locs 0 0 (MQ below (hQr (khaL f t a 6 1) s.heap G.2.2.2) ([.ref (ad 1), .int t, .int a] : List Value).toArray s 0 0 (hA G.2.2.2)) (F0 m 2 ls []) := by
    intro n
    induction n with
    | zero =>
      intro k  locs ls hnk hv hS hl
      have hk : k = 7 := by omega
      subst hk
      refine lv_iload_n hx hb dX1_kindHasAct_2 rfl (lv_at hl 0 rfl) ?_
      refine lv_bipush (v := 6) hx hb dX1_kindHasAct_3 (by decide) ?_
      refine lv_icmp_gt (tgt := 34) hx hb dX1_kindHasAct_5 (by decide) (fun _ => ?_) (fun q => absurd (by decide) q)
      refine lv_iconst (v := 0) hx hb dX1_kindHasAct_34 (by decide) ?_
      exact h_rzret S hr hlk hS dX1_kindHasAct_35 (khaL_b f t a 6 1) (by rw [hv]; rfl)
    | succ n ih =>
      intro k  locs ls hnk hv hS hl
      refine lv_iload_n hx hb dX1_kindHasAct_2 rfl (lv_at hl 0 rfl) ?_
      refine lv_bipush (v := 6) hx hb dX1_kindHasAct_3 (by decide) ?_
      refine lv_icmp_gt (tgt := 34) hx hb dX1_kindHasAct_5 (by decide) (fun q => absurd q (le6 (by omega))) (fun _ => ?_)
      refine lv_aload_n hx hb dX1_kindHasAct_8 rfl (lv_at hl 1 rfl) ?_
      refine lv_iload_n hx hb dX1_kindHasAct_9 rfl (lv_at hl 2 rfl) ?_
      refine lv_iload_n hx hb dX1_kindHasAct_10 rfl (lv_at hl 0 rfl) ?_
      refine hc_r (va_runV (As := [.int t, .int (nI k)]) (rest := []) S (c_X1_bears l G _ hW h1 h4 t (nI k)) (cwV 2 hts (gWSV q_l_1_74 q_im_X1_bears q_se_X1_bears q_in_1 q_co_X1_bears) rfl rfl rfl (by decide +kernel) ⟨Nat.le_of_ble_eq_true rfl, Nat.le_of_ble_eq_true rfl⟩) (hPreVr hE hS (hrecv hE hW h1 (q := (RX1, TX1, 2)) rfl)) rfl rfl hl.1 rfl (lv_room (Nat.le_of_ble_eq_true rfl)) dX1_kindHasAct_11 ⟨Nat.le_of_ble_eq_true rfl, Nat.le_of_ble_eq_true rfl⟩) hS (fun locs hS => ?_)
      refine lv_if_eq (tgt := 28) hx hb dX1_kindHasAct_14 (by decide) (fun c_14 => ?_) (fun c_14 => ?_)
      · refine lv_iinc (v := (nI (k + 1))) (lv' := [(3, .int (nI (k + 1))), (0, .ref (ad 1)), (1, .int t), (2, .int a)]) hx hb dX1_kindHasAct_28 hl (k := 0) rfl (nI_1 k) (by decide) rfl (fun ls hl => ?_)
        refine lv_goto (tgt := 2) hx hb dX1_kindHasAct_31 (by decide) ?_
        exact ih (k + 1)  _ _ (by omega) (by rw [hv]; simp [khaL, c_14]) hS (lv_sub hl [0, 1, 2, 3] rfl)
      · refine lv_aload_n hx hb dX1_kindHasAct_17 rfl (lv_at hl 1 rfl) ?_
        refine lv_iload_n hx hb dX1_kindHasAct_18 rfl (lv_at hl 0 rfl) ?_
        refine lv_iload_n hx hb dX1_kindHasAct_19 rfl (lv_at hl 3 rfl) ?_
        refine hc_r (va_runV (As := [.int (nI k), .int a]) (rest := []) S (c_X1_hasAct l G _ hW h1 (nI k) a) (cwV 2 hts (gWSV q_l_1_80 q_im_X1_hasAct q_se_X1_hasAct q_in_1 q_co_X1_hasAct) rfl rfl rfl (by decide +kernel) ⟨Nat.le_of_ble_eq_true rfl, Nat.le_of_ble_eq_true rfl⟩) (hPreVr hE hS (hrecv hE hW h1 (q := (RX1, TX1, 2)) rfl)) rfl rfl hl.1 rfl (lv_room (Nat.le_of_ble_eq_true rfl)) dX1_kindHasAct_20 ⟨Nat.le_of_ble_eq_true rfl, Nat.le_of_ble_eq_true rfl⟩) hS (fun locs hS => ?_)
        refine lv_if_eq (tgt := 28) hx hb dX1_kindHasAct_23 (by decide) (fun c_23 => ?_) (fun c_23 => ?_)
        · refine lv_iinc (v := (nI (k + 1))) (lv' := [(3, .int (nI (k + 1))), (0, .ref (ad 1)), (1, .int t), (2, .int a)]) hx hb dX1_kindHasAct_28 hl (k := 0) rfl (nI_1 k) (by decide) rfl (fun ls hl => ?_)
          refine lv_goto (tgt := 2) hx hb dX1_kindHasAct_31 (by decide) ?_
          exact ih (k + 1)  _ _ (by omega) (by rw [hv]; simp [khaL, c_14, c_23]) hS (lv_sub hl [0, 1, 2, 3] rfl)
        · refine lv_iconst (v := 1) hx hb dX1_kindHasAct_26 (by decide) ?_
          exact h_rzret S hr hlk hS dX1_kindHasAct_27 (khaL_b f t a 6 1) (by rw [hv]; simp [khaL, c_14, c_23])
  exact loop 6 1 _ _ (by decide) rfl hS (lv_sub hl [0, 1, 2, 3] rfl)
