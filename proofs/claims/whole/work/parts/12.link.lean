theorem DC_in {ad : Nat → Nat} {ty : Nat → Int32} {A : AS} {T : TS} {L : LS4} {i j : Nat} (hlo : lstL L.2.1 i L.1 = none) (hij : i ≠ j) : DC ad ty A T (newL L i j) i = [.ref (ad 1), .ref (ad 2), .int (ty i), .int (takActF (ty i)), .int (A.1 i), .int (A.2.1 i), .ref (ad (101 + 2 * L.1)), .ref (ad (101 + 2 * L.1)), .int ((nI (cntL L.2.1 i L.1)) + 1), .int (nI (cntL L.2.2 i L.1)), .int (T.1 i), .int (T.2.1 i), .int (T.2.2 i)] := by
  unfold DC
  rw [show (newL L i j).1 = L.1 + 1 from rfl, nl_gen hlo, nl_lsi, nl_ci, nl_to hij, nI_succ]; rfl
theorem DC_is {ad : Nat → Nat} {ty : Nat → Int32} {A : AS} {T : TS} {L : LS4} {i j : Nat} {y : Nat} (hlo : lstL L.2.1 i L.1 = some y) (hij : i ≠ j) : DC ad ty A T (newL L i j) i = [.ref (ad 1), .ref (ad 2), .int (ty i), .int (takActF (ty i)), .int (A.1 i), .int (A.2.1 i), va_rf (lkF ad (geL L.2.1 i L.1 0)), .ref (ad (101 + 2 * L.1)), .int ((nI (cntL L.2.1 i L.1)) + 1), .int (nI (cntL L.2.2 i L.1)), .int (T.1 i), .int (T.2.1 i), .int (T.2.2 i)] := by
  unfold DC
  rw [show (newL L i j).1 = L.1 + 1 from rfl, nl_ges hlo, nl_lsi, nl_ci, nl_to hij, nI_succ]; rfl
theorem DC_en {ad : Nat → Nat} {ty : Nat → Int32} {A : AS} {T : TS} {L : LS4} {i : Nat} (hlo : lstL L.2.1 i L.1 = none) : DC ad ty A T (newL L i i) i = [.ref (ad 1), .ref (ad 2), .int (ty i), .int (takActF (ty i)), .int (A.1 i), .int (A.2.1 i), .ref (ad (101 + 2 * L.1)), .ref (ad (101 + 2 * L.1)), .int ((nI (cntL L.2.1 i L.1)) + 1), .int ((nI (cntL L.2.2 i L.1)) + 1), .int (T.1 i), .int (T.2.1 i), .int (T.2.2 i)] := by
  unfold DC
  rw [show (newL L i i).1 = L.1 + 1 from rfl, nl_gen hlo, nl_lsi, nl_ci, nl_tj, nI_succ, nI_succ]; rfl
theorem DC_es {ad : Nat → Nat} {ty : Nat → Int32} {A : AS} {T : TS} {L : LS4} {i : Nat} {y : Nat} (hlo : lstL L.2.1 i L.1 = some y) : DC ad ty A T (newL L i i) i = [.ref (ad 1), .ref (ad 2), .int (ty i), .int (takActF (ty i)), .int (A.1 i), .int (A.2.1 i), va_rf (lkF ad (geL L.2.1 i L.1 0)), .ref (ad (101 + 2 * L.1)), .int ((nI (cntL L.2.1 i L.1)) + 1), .int ((nI (cntL L.2.2 i L.1)) + 1), .int (T.1 i), .int (T.2.1 i), .int (T.2.2 i)] := by
  unfold DC
  rw [show (newL L i i).1 = L.1 + 1 from rfl, nl_ges hlo, nl_lsi, nl_ci, nl_tj, nI_succ, nI_succ]; rfl
theorem DC_j {ad : Nat → Nat} {ty : Nat → Int32} {A : AS} {T : TS} {L : LS4} {i j : Nat} (hij : i ≠ j) : DC ad ty A T (newL L i j) j = [.ref (ad 1), .ref (ad 2), .int (ty j), .int (takActF (ty j)), .int (A.1 j), .int (A.2.1 j), va_rf (lkF ad (geL L.2.1 j L.1 0)), va_rf (lkF ad (lstL L.2.1 j L.1)), .int (nI (cntL L.2.1 j L.1)), .int ((nI (cntL L.2.2 j L.1)) + 1), .int (T.1 j), .int (T.2.1 j), .int (T.2.2 j)] := by
  unfold DC
  rw [show (newL L i j).1 = L.1 + 1 from rfl, nl_geo hij.symm, nl_lso hij.symm, nl_co hij.symm, nl_tj, nI_succ]
theorem hw_z {G : hG} {ad : Nat → Nat} {ct : Nat → Option va_E} {k : Nat} {e : va_E} {H : Heap} (h : hw G ad ct H) (hk : ct k = some e) : G.2.2.2 ≤ H.size := Nat.le_of_lt (Nat.lt_of_le_of_lt (h.1 k e hk).2 (h.1 k e hk).1.lt)
set_option maxRecDepth 100000 in
set_option maxHeartbeats 4000000 in
theorem c_X2_init (l : Launch) (G : hG) (ad : Nat → Nat) (ct : Nat → Option va_E) {k j N : Nat} (hk : ct k = some (.inr (2, [.null, .null])))  : Met l yX2_init wzX2_init { frames := 1, cells := 0, slots := 0, locals := 20 } (hPz [.ref (ad k), .ref (ad j)] G ad ct N) (hQzv (fun ct1 => ct1 k = some (.inr (2, [.ref (ad j), .null])) ∧ ∀ y, y ≠ k → ct1 y = ct y) G ad N) 0 0 (hA G.2.2.2) := by
  refine hMetz (by decide) (Nat.le_of_ble_eq_true rfl) (fun p e s m below meth c ls S hr hlk hin hE hW hsz hl => ?_)
  obtain ⟨hx, hb, hml, hown, hts⟩ := id S
  have hS : va_S (hA G.2.2.2) s.heap s.heap [] := va_S.rf
  have hl : lv_has ls 2 [(0, .ref (ad k)), (1, .ref (ad j))] := hl
  refine lv_aload_n hx hb dX2_init_0 rfl (lv_at hl 0 rfl) ?_
  refine W.objInit hx hb hown (hts _ q_l_2_1) (hts _ q_im_O) (hts _ q_co_O) rfl (by rw [hml]; exact hl.1) rfl dX2_init_1 (Nat.le_of_ble_eq_true rfl) (Nat.le_of_ble_eq_true rfl) ?_
  refine W.eq (g2 := F0 m 4 ls []) rfl ?_
  refine lv_aload_n hx hb dX2_init_4 rfl (lv_at hl 0 rfl) ?_
  refine lv_aload_n hx hb dX2_init_5 rfl (lv_at hl 1 rfl) ?_
  refine hr_putF S hE hW hS hk inX2 (C := RX2) (T := TX2) (N := 2) tyX2_ok nmX2 rfl 0 (by decide) q_f_2_7 rfl (hin rfl) rfl rfl rfl (Nat.le_of_ble_eq_true rfl) dX2_init_6 (fun H locs ct_1 hW hk_2 hg_3 hz hS => ?_)
  have hsz := hz.trans hsz
  have h_4 : ct_1 k = some (.inr (2, [.ref (ad j), .null])) := hk_2
  exact h_zvret S hr hlk hS hW hsz dX2_init_9 ⟨h_4, (fun j q0 => hg_3 j q0)⟩
set_option maxRecDepth 100000 in
set_option maxHeartbeats 4000000 in
theorem c_X0_addLink_n (l : Launch) (G : hG) (ad : Nat → Nat) (ct : Nat → Option va_E) {k z : Nat} {t ta0 v c0 lf : Int32} {f5 f8 f9 f10 f11 : Value} (hk : ct k = some (.inr (0, [.ref (ad 1), .ref (ad 2), .int t, .int ta0, .int v, .int c0, f5, .null, .int lf, f8, f9, f10, f11])))  : Met l yX0_addLink wzX0_addLink { frames := 0, cells := 0, slots := 0, locals := 0 } (hPw [.ref (ad k), .ref (ad z)] G ad ct) (hQv (fun ct1 => ct1 k = some (.inr (0, [.ref (ad 1), .ref (ad 2), .int t, .int ta0, .int v, .int c0, .ref (ad z), .ref (ad z), .int (lf + 1), f8, f9, f10, f11])) ∧ ∀ y, y ≠ k → ct1 y = ct y) G ad) 0 0 (hA G.2.2.2) := by
  refine hMetw (by decide) (Nat.le_of_ble_eq_true rfl) (fun p e s m below meth c ls S hr hlk hE hW hl => ?_)
  obtain ⟨hx, hb, hml, hown, hts⟩ := id S
  have hS : va_S (hA G.2.2.2) s.heap s.heap [] := va_S.rf
  have hl : lv_has ls 2 [(0, .ref (ad k)), (1, .ref (ad z))] := hl
  refine lv_aload_n hx hb dX0_addLink_0 rfl (lv_at hl 0 rfl) ?_
  refine hr_get S hE hW hk inX0 (C := RX0) (T := TX0) (N := 13) rfl 7 (by decide) q_f_0_57 rfl dX0_addLink_1 ?_
  refine lv_ifnonnullN hx hb dX0_addLink_4 ?_
  refine lv_aload_n hx hb dX0_addLink_7 rfl (lv_at hl 0 rfl) ?_
  refine lv_aload_n hx hb dX0_addLink_8 rfl (lv_at hl 1 rfl) ?_
  refine hr_put S hE hW hS hk inX0 (C := RX0) (T := TX0) (N := 13) tyX0_ok nmX0 rfl 6 (by decide) q_f_0_61 rfl rfl rfl (Nat.le_of_ble_eq_true rfl) dX0_addLink_9 (fun H locs ct_1 hW hk_2 hg_3 hz hS => ?_)
  have h_4 : ct_1 k = some (.inr (0, [.ref (ad 1), .ref (ad 2), .int t, .int ta0, .int v, .int c0, .ref (ad z), .null, .int lf, f8, f9, f10, f11])) := hk_2
  refine lv_goto (tgt := 23) hx hb dX0_addLink_12 (by decide) ?_
  refine lv_aload_n hx hb dX0_addLink_23 rfl (lv_at hl 0 rfl) ?_
  refine lv_aload_n hx hb dX0_addLink_24 rfl (lv_at hl 1 rfl) ?_
  refine hr_put S hE hW hS h_4 inX0 (C := RX0) (T := TX0) (N := 13) tyX0_ok nmX0 rfl 7 (by decide) q_f_0_57 rfl rfl rfl (Nat.le_of_ble_eq_true rfl) dX0_addLink_25 (fun H locs ct_5 hW hk_6 hg_7 hz hS => ?_)
  have h_8 : ct_5 k = some (.inr (0, [.ref (ad 1), .ref (ad 2), .int t, .int ta0, .int v, .int c0, .ref (ad z), .ref (ad z), .int lf, f8, f9, f10, f11])) := hk_6
  refine lv_aload_n hx hb dX0_addLink_28 rfl (lv_at hl 0 rfl) ?_
  refine lv_dup hx hb dX0_addLink_29 rfl ?_
  refine hr_get S hE hW h_8 inX0 (C := RX0) (T := TX0) (N := 13) rfl 8 (by decide) q_f_0_48 rfl dX0_addLink_30 ?_
  refine lv_iconst (v := 1) hx hb dX0_addLink_33 (by decide) ?_
  refine lv_iadd hx hb dX0_addLink_34 ?_
  refine hr_put S hE hW hS h_8 inX0 (C := RX0) (T := TX0) (N := 13) tyX0_ok nmX0 rfl 8 (by decide) q_f_0_48 rfl rfl rfl (Nat.le_of_ble_eq_true rfl) dX0_addLink_35 (fun H locs ct_9 hW hk_10 hg_11 hz hS => ?_)
  have h_12 : ct_9 k = some (.inr (0, [.ref (ad 1), .ref (ad 2), .int t, .int ta0, .int v, .int c0, .ref (ad z), .ref (ad z), .int (lf + 1), f8, f9, f10, f11])) := hk_10
  exact h_vret S hr hlk hS hW dX0_addLink_38 ⟨h_12, (fun j q0 => (hg_11 j q0).trans ((hg_7 j q0).trans (hg_3 j q0)))⟩
set_option maxRecDepth 100000 in
set_option maxHeartbeats 4000000 in
theorem c_X0_addLink_s (l : Launch) (G : hG) (ad : Nat → Nat) (ct : Nat → Option va_E) {k z : Nat} {t ta0 v c0 lf : Int32} {f5 f8 f9 f10 f11 : Value} {w : Nat} {x0 x1 : Value} (hkw : k ≠ w) (hk : ct k = some (.inr (0, [.ref (ad 1), .ref (ad 2), .int t, .int ta0, .int v, .int c0, f5, .ref (ad w), .int lf, f8, f9, f10, f11]))) (hw2 : ct w = some (.inr (2, [x0, x1])))  : Met l yX0_addLink wzX0_addLink { frames := 0, cells := 0, slots := 0, locals := 0 } (hPw [.ref (ad k), .ref (ad z)] G ad ct) (hQv (fun ct1 => ct1 k = some (.inr (0, [.ref (ad 1), .ref (ad 2), .int t, .int ta0, .int v, .int c0, f5, .ref (ad z), .int (lf + 1), f8, f9, f10, f11])) ∧ ct1 w = some (.inr (2, [x0, .ref (ad z)])) ∧ ∀ y, y ≠ k → y ≠ w → ct1 y = ct y) G ad) 0 0 (hA G.2.2.2) := by
  refine hMetw (by decide) (Nat.le_of_ble_eq_true rfl) (fun p e s m below meth c ls S hr hlk hE hW hl => ?_)
  obtain ⟨hx, hb, hml, hown, hts⟩ := id S
  have hS : va_S (hA G.2.2.2) s.heap s.heap [] := va_S.rf
  have hl : lv_has ls 2 [(0, .ref (ad k)), (1, .ref (ad z))] := hl
  refine lv_aload_n hx hb dX0_addLink_0 rfl (lv_at hl 0 rfl) ?_
  refine hr_get S hE hW hk inX0 (C := RX0) (T := TX0) (N := 13) rfl 7 (by decide) q_f_0_57 rfl dX0_addLink_1 ?_
  refine lv_ifnonnull (tgt := 15) hx hb dX0_addLink_4 (by decide) ?_
  refine lv_aload_n hx hb dX0_addLink_15 rfl (lv_at hl 0 rfl) ?_
  refine hr_get S hE hW hk inX0 (C := RX0) (T := TX0) (N := 13) rfl 7 (by decide) q_f_0_57 rfl dX0_addLink_16 ?_
  refine lv_aload_n hx hb dX0_addLink_19 rfl (lv_at hl 1 rfl) ?_
  refine hr_putN S hE hW hS hw2 inX2 (C := RX2) (T := TX2) (N := 2) tyX2_ok nmX2 rfl 1 (by decide) (hE.nest 6 rfl) rfl rfl rfl (Nat.le_of_ble_eq_true rfl) dX0_addLink_20 (fun H locs ct_1 hW hk_2 hg_3 hz hS => ?_)
  have h_4 := (hg_3 k (by omega)).trans hk
  have h_5 : ct_1 w = some (.inr (2, [x0, .ref (ad z)])) := hk_2
  refine lv_aload_n hx hb dX0_addLink_23 rfl (lv_at hl 0 rfl) ?_
  refine lv_aload_n hx hb dX0_addLink_24 rfl (lv_at hl 1 rfl) ?_
  refine hr_put S hE hW hS h_4 inX0 (C := RX0) (T := TX0) (N := 13) tyX0_ok nmX0 rfl 7 (by decide) q_f_0_57 rfl rfl rfl (Nat.le_of_ble_eq_true rfl) dX0_addLink_25 (fun H locs ct_6 hW hk_7 hg_8 hz hS => ?_)
  have h_9 := (hg_8 w (by omega)).trans h_5
  have h_10 : ct_6 k = some (.inr (0, [.ref (ad 1), .ref (ad 2), .int t, .int ta0, .int v, .int c0, f5, .ref (ad z), .int lf, f8, f9, f10, f11])) := hk_7
  refine lv_aload_n hx hb dX0_addLink_28 rfl (lv_at hl 0 rfl) ?_
  refine lv_dup hx hb dX0_addLink_29 rfl ?_
  refine hr_get S hE hW h_10 inX0 (C := RX0) (T := TX0) (N := 13) rfl 8 (by decide) q_f_0_48 rfl dX0_addLink_30 ?_
  refine lv_iconst (v := 1) hx hb dX0_addLink_33 (by decide) ?_
  refine lv_iadd hx hb dX0_addLink_34 ?_
  refine hr_put S hE hW hS h_10 inX0 (C := RX0) (T := TX0) (N := 13) tyX0_ok nmX0 rfl 8 (by decide) q_f_0_48 rfl rfl rfl (Nat.le_of_ble_eq_true rfl) dX0_addLink_35 (fun H locs ct_11 hW hk_12 hg_13 hz hS => ?_)
  have h_14 := (hg_13 w (by omega)).trans h_9
  have h_15 : ct_11 k = some (.inr (0, [.ref (ad 1), .ref (ad 2), .int t, .int ta0, .int v, .int c0, f5, .ref (ad z), .int (lf + 1), f8, f9, f10, f11])) := hk_12
  exact h_vret S hr hlk hS hW dX0_addLink_38 ⟨h_15, h_14, (fun j q0 q1 => (hg_13 j q0).trans ((hg_8 j q0).trans (hg_3 j q1)))⟩
set_option maxRecDepth 100000 in
set_option maxHeartbeats 4000000 in
theorem c_X4_link_nd (l : Launch) (G : hG) (ad : Nat → Nat) (ct : Nat → Option va_E) {fr : Nat → Option va_E} {n : Nat} {ty : Nat → Int32} {A : AS} {T : TS} {L : LS4} {K : KS} {st0 : Int32} (hR : RC fr G ad ct n ty A T L K st0) {N : Nat} {i : Nat} (hi : i < n) {j : Nat} (hj : j < n) (hij : i ≠ j) (hlo : lstL L.2.1 i L.1 = none) (hm4 : L.1 < 400) (hadk : ad (101 + 2 * L.1) = N)  : Met l yX4_link wzX4_link { frames := 2, cells := 1, slots := 2, locals := 41 } (hPz [.ref (ad 0), .int (nI i), .int (nI j)] G ad ct N) (hQi (fun r ct1 => r = nI L.1 ∧ RC fr G ad ct1 n ty A T (newL L i j) K 0) G ad) 1 2 (hA G.2.2.2) := by
  refine hMetz (by decide) (Nat.le_of_ble_eq_true rfl) (fun p e s m below meth c ls S hr hlk hin hE hW hsz hl => ?_)
  obtain ⟨hx, hb, hml, hown, hts⟩ := id S
  have hS : va_S (hA G.2.2.2) s.heap s.heap [] := va_S.rf
  have hl : lv_has ls 6 [(0, .ref (ad 0)), (1, .int (nI i)), (2, .int (nI j))] := hl
  obtain ⟨h0, h1, h2, h3, h4, h5, h6, h7, hdv, hlks, hfr, hn300, hm400, hft, hty⟩ := id hR
  have hd_i : ct (100 + 2 * i) = some (.inr (0, [.ref (ad 1), .ref (ad 2), .int (ty i), .int (takActF (ty i)), .int (A.1 i), .int (A.2.1 i), va_rf (lkF ad (geL L.2.1 i L.1 0)), .null, .int (nI (cntL L.2.1 i L.1)), .int (nI (cntL L.2.2 i L.1)), .int (T.1 i), .int (T.2.1 i), .int (T.2.2 i)])) := by
    rw [hdv i hi, DC, hlo]; rfl
  have hd_j := hdv j hj
  refine lv_aload_n hx hb dX4_link_0 rfl (lv_at hl 0 rfl) ?_
  refine lv_iload_n hx hb dX4_link_1 rfl (lv_at hl 1 rfl) ?_
  refine hc_rq (va_runV (As := [.int (nI i)]) (rest := []) S (c_X4_find l G _ hW h0 h6 (nI i)) (cwV 1 hts (gWSV q_l_4_42 q_im_X4_find q_se_X4_find q_in_4 q_co_X4_find) rfl rfl rfl (by decide +kernel) ⟨Nat.le_of_ble_eq_true rfl, Nat.le_of_ble_eq_true rfl⟩) (hPreVr hE hS (hrecv hE hW h0 (q := (RX4, TX4, 9)) rfl)) rfl rfl hl.1 rfl (lv_room (Nat.le_of_ble_eq_true rfl)) dX4_link_2 ⟨Nat.le_of_ble_eq_true rfl, Nat.le_of_ble_eq_true rfl⟩) hS (fun locs hS => ?_)
  rw [findF_ok hn300 hi, va_rf_s]
  refine lv_astore_n (lv' := [(3, .ref (ad (100 + 2 * i))), (0, .ref (ad 0)), (1, .int (nI i)), (2, .int (nI j))]) hx hb dX4_link_5 rfl hl (by decide) rfl (fun ls hl => ?_)
  refine lv_aload_n hx hb dX4_link_6 rfl (lv_at hl 1 rfl) ?_
  refine lv_iload_n hx hb dX4_link_7 rfl (lv_at hl 3 rfl) ?_
  refine hc_rq (va_runV (As := [.int (nI j)]) (rest := []) S (c_X4_find l G _ hW h0 h6 (nI j)) (cwV 1 hts (gWSV q_l_4_42 q_im_X4_find q_se_X4_find q_in_4 q_co_X4_find) rfl rfl rfl (by decide +kernel) ⟨Nat.le_of_ble_eq_true rfl, Nat.le_of_ble_eq_true rfl⟩) (hPreVr hE hS (hrecv hE hW h0 (q := (RX4, TX4, 9)) rfl)) rfl rfl hl.1 rfl (lv_room (Nat.le_of_ble_eq_true rfl)) dX4_link_8 ⟨Nat.le_of_ble_eq_true rfl, Nat.le_of_ble_eq_true rfl⟩) hS (fun locs hS => ?_)
  rw [findF_ok hn300 hj, va_rf_s]
  refine lv_astore (lv' := [(4, .ref (ad (100 + 2 * j))), (3, .ref (ad (100 + 2 * i))), (0, .ref (ad 0)), (1, .int (nI i)), (2, .int (nI j))]) hx hb dX4_link_11 hl (by decide) rfl (fun ls hl => ?_)
  refine lv_aload_n hx hb dX4_link_13 rfl (lv_at hl 1 rfl) ?_
  refine lv_ifnull hx hb dX4_link_14 ?_
  refine lv_aload hx hb dX4_link_17 (lv_at hl 0 rfl) ?_
  refine lv_ifnonnull (tgt := 29) hx hb dX4_link_19 (by decide) ?_
  refine lv_aload_n hx hb dX4_link_29 rfl (lv_at hl 2 rfl) ?_
  refine hr_get S hE hW h0 inX4 (C := RX4) (T := TX4) (N := 9) rfl 5 (by decide) q_f_4_63 rfl dX4_link_30 ?_
  refine lv_sipush (v := 400) hx hb dX4_link_33 (by decide) ?_
  refine lv_icmp_lt (tgt := 46) hx hb dX4_link_36 (by decide) (fun _ => ?_) (fun q => absurd (show nI L.1 < 400 from nI_lt (b := 400) hm4 (by omega)) q)
  refine lv_aload_n hx hb dX4_link_46 rfl (lv_at hl 2 rfl) ?_
  refine lv_iconst (v := 0) hx hb dX4_link_47 (by decide) ?_
  refine hr_put S hE hW hS h0 inX4 (C := RX4) (T := TX4) (N := 9) tyX4_ok nmX4 rfl 8 (by decide) q_f_4_32 rfl rfl rfl (Nat.le_of_ble_eq_true rfl) dX4_link_48 (fun H locs ct_1 hW hk_2 hg_3 hz hS => ?_)
  have hsz := hz.trans hsz
  have h_4 := (hg_3 1 (by decide)).trans h1
  have h_5 := (hg_3 2 (by decide)).trans h2
  have h_6 := (hg_3 3 (by decide)).trans h3
  have h_7 := (hg_3 4 (by decide)).trans h4
  have h_8 := (hg_3 5 (by decide)).trans h5
  have h_9 := (hg_3 6 (by decide)).trans h6
  have h_10 := (hg_3 7 (by decide)).trans h7
  have h_11 := (hg_3 (100 + 2 * i) (by omega)).trans hd_i
  have h_12 := (hg_3 (100 + 2 * j) (by omega)).trans hd_j
  have h_13 : ct_1 0 = some (.inr (4, [.ref (ad 1), .ref (ad 2), .ref (ad 6), .ref (ad 7), .int (nI n), .int (nI L.1), .int K.2.1, .int K.2.2, .int 0])) := hk_2
  refine lv_aload_n hx hb dX4_link_51 rfl (lv_at hl 1 rfl) ?_
  refine hr_new S hE hW hS (101 + 2 * L.1) (hadk.trans hsz.symm) (hw_z hW h_13) inX2 (ci := 2) (C := RX2) (T := TX2) (N := 2) tyX2_ok rfl q_cl_4_66 q_ia_2 q_in_2 (fs := [.null, .null]) (fun j hj => by rcases (show j = 0 ∨ j = 1 by omega) with rfl | rfl <;> rfl) (Nat.le_of_ble_eq_true rfl) (Nat.le_of_ble_eq_true rfl) dX4_link_52 (fun H ct_14 hW hk_15 hg_16 hz hS => ?_)
  have hsz := hz.trans (congrArg (· + 1) hsz)
  have h_17 := (hg_16 1 (by omega)).trans h_4
  have h_18 := (hg_16 2 (by omega)).trans h_5
  have h_19 := (hg_16 3 (by omega)).trans h_6
  have h_20 := (hg_16 4 (by omega)).trans h_7
  have h_21 := (hg_16 5 (by omega)).trans h_8
  have h_22 := (hg_16 6 (by omega)).trans h_9
  have h_23 := (hg_16 7 (by omega)).trans h_10
  have h_24 := (hg_16 (100 + 2 * i) (by omega)).trans h_11
  have h_25 := (hg_16 (100 + 2 * j) (by omega)).trans h_12
  have h_26 := (hg_16 0 (by omega)).trans h_13
  have h_27 : ct_14 (101 + 2 * L.1) = some (.inr (2, [.null, .null])) := hk_15
  refine lv_dup hx hb dX4_link_55 rfl ?_
  refine lv_aload hx hb dX4_link_56 (lv_at hl 0 rfl) ?_
  refine hc_zv (va_runIN (As := [.ref (ad (100 + 2 * j))]) (rest := [.ref (ad (101 + 2 * L.1)), .ref (ad (100 + 2 * i))]) S (c_X2_init l G ad _ (k := 101 + 2 * L.1) (j := 100 + 2 * j) h_27) ⟨va_cnB 1 hts (gWS q_co_X2_init) rfl rfl rfl (hE.nest 25 rfl) (hts _ q_in_2) (by decide +kernel) ⟨Nat.le_of_ble_eq_true rfl, Nat.le_of_ble_eq_true rfl⟩, rfl, hts _ q_im_X2_init⟩ (hPreSz hE hS hW hsz) rfl rfl hl.1 rfl (lv_room (Nat.le_of_ble_eq_true rfl)) dX4_link_58 ⟨Nat.le_of_ble_eq_true rfl, Nat.le_of_ble_eq_true rfl⟩) hS (fun ct_28 H locs hp hW hsz hS => ?_)
  obtain ⟨h_29, hg_30⟩ := hp
  have h_31 := (hg_30 1 (by omega)).trans h_17
  have h_32 := (hg_30 2 (by omega)).trans h_18
  have h_33 := (hg_30 3 (by omega)).trans h_19
  have h_34 := (hg_30 4 (by omega)).trans h_20
  have h_35 := (hg_30 5 (by omega)).trans h_21
  have h_36 := (hg_30 6 (by omega)).trans h_22
  have h_37 := (hg_30 7 (by omega)).trans h_23
  have h_38 := (hg_30 (100 + 2 * i) (by omega)).trans h_24
  have h_39 := (hg_30 (100 + 2 * j) (by omega)).trans h_25
  have h_40 := (hg_30 0 (by omega)).trans h_26
  refine hc_v (va_runVN (As := [.ref (ad (101 + 2 * L.1))]) (rest := []) S (c_X0_addLink_n l G ad _ (k := 100 + 2 * i) (z := 101 + 2 * L.1) h_38) ⟨va_cnB 1 hts (gWS q_co_X0_addLink) rfl rfl rfl (hE.nest 26 rfl) (hts _ q_in_0) (by decide +kernel) ⟨Nat.le_of_ble_eq_true rfl, Nat.le_of_ble_eq_true rfl⟩, hts _ q_im_X0_addLink, hts _ q_se_X0_addLink⟩ (hPreVw hE hS (hrecv hE hW h_38 (q := (RX0, TX0, 13)) rfl) hW) rfl rfl hl.1 rfl (lv_room (Nat.le_of_ble_eq_true rfl)) dX4_link_61 ⟨Nat.le_of_ble_eq_true rfl, Nat.le_of_ble_eq_true rfl⟩) hS (fun ct_41 H locs hp hW hS => ?_)
  obtain ⟨h_42, hg_44⟩ := hp
  have h_45 := (hg_44 (101 + 2 * L.1) (by omega)).trans h_29
  have h_46 := (hg_44 1 (by omega)).trans h_31
  have h_47 := (hg_44 2 (by omega)).trans h_32
  have h_48 := (hg_44 3 (by omega)).trans h_33
  have h_49 := (hg_44 4 (by omega)).trans h_34
  have h_50 := (hg_44 5 (by omega)).trans h_35
  have h_51 := (hg_44 6 (by omega)).trans h_36
  have h_52 := (hg_44 7 (by omega)).trans h_37
  have h_53 := (hg_44 (100 + 2 * j) (by omega)).trans h_39
  have h_54 := (hg_44 0 (by omega)).trans h_40
  refine lv_aload hx hb dX4_link_64 (lv_at hl 0 rfl) ?_
  refine lv_dup hx hb dX4_link_66 rfl ?_
  refine hr_getN S hE hW h_53 inX0 (C := RX0) (T := TX0) (N := 13) rfl 9 (by decide) (hE.nest 2 rfl) rfl dX4_link_67 ?_
  refine lv_iconst (v := 1) hx hb dX4_link_70 (by decide) ?_
  refine lv_iadd hx hb dX4_link_71 ?_
  refine hr_putN S hE hW hS h_53 inX0 (C := RX0) (T := TX0) (N := 13) tyX0_ok nmX0 rfl 9 (by decide) (hE.nest 2 rfl) rfl rfl rfl (Nat.le_of_ble_eq_true rfl) dX4_link_72 (fun H locs ct_55 hW hk_56 hg_57 hz hS => ?_)
  have h_58 := (hg_57 (100 + 2 * i) (by omega)).trans h_42
  have h_59 := (hg_57 (101 + 2 * L.1) (by omega)).trans h_45
  have h_60 := (hg_57 1 (by omega)).trans h_46
  have h_61 := (hg_57 2 (by omega)).trans h_47
  have h_62 := (hg_57 3 (by omega)).trans h_48
  have h_63 := (hg_57 4 (by omega)).trans h_49
  have h_64 := (hg_57 5 (by omega)).trans h_50
  have h_65 := (hg_57 6 (by omega)).trans h_51
  have h_66 := (hg_57 7 (by omega)).trans h_52
  have h_67 := (hg_57 0 (by omega)).trans h_54
  have h_68 : ct_55 (100 + 2 * j) = some (.inr (0, [.ref (ad 1), .ref (ad 2), .int (ty j), .int (takActF (ty j)), .int (A.1 j), .int (A.2.1 j), va_rf (lkF ad (geL L.2.1 j L.1 0)), va_rf (lkF ad (lstL L.2.1 j L.1)), .int (nI (cntL L.2.1 j L.1)), .int ((nI (cntL L.2.2 j L.1)) + 1), .int (T.1 j), .int (T.2.1 j), .int (T.2.2 j)])) := hk_56
  refine lv_aload_n hx hb dX4_link_75 rfl (lv_at hl 2 rfl) ?_
  refine hr_get S hE hW h_67 inX4 (C := RX4) (T := TX4) (N := 9) rfl 5 (by decide) q_f_4_63 rfl dX4_link_76 ?_
  refine lv_istore (lv' := [(5, .int (nI L.1)), (4, .ref (ad (100 + 2 * j))), (3, .ref (ad (100 + 2 * i))), (0, .ref (ad 0)), (1, .int (nI i)), (2, .int (nI j))]) hx hb dX4_link_79 hl (by decide) rfl (fun ls hl => ?_)
  refine lv_aload_n hx hb dX4_link_81 rfl (lv_at hl 3 rfl) ?_
  refine lv_dup hx hb dX4_link_82 rfl ?_
  refine hr_get S hE hW h_67 inX4 (C := RX4) (T := TX4) (N := 9) rfl 5 (by decide) q_f_4_63 rfl dX4_link_83 ?_
  refine lv_iconst (v := 1) hx hb dX4_link_86 (by decide) ?_
  refine lv_iadd hx hb dX4_link_87 ?_
  rw [nI_1]
  refine hr_put S hE hW hS h_67 inX4 (C := RX4) (T := TX4) (N := 9) tyX4_ok nmX4 rfl 5 (by decide) q_f_4_63 rfl rfl rfl (Nat.le_of_ble_eq_true rfl) dX4_link_88 (fun H locs ct_69 hW hk_70 hg_71 hz hS => ?_)
  have h_72 := (hg_71 (100 + 2 * i) (by omega)).trans h_58
  have h_73 := (hg_71 (101 + 2 * L.1) (by omega)).trans h_59
  have h_74 := (hg_71 1 (by decide)).trans h_60
  have h_75 := (hg_71 2 (by decide)).trans h_61
  have h_76 := (hg_71 3 (by decide)).trans h_62
  have h_77 := (hg_71 4 (by decide)).trans h_63
  have h_78 := (hg_71 5 (by decide)).trans h_64
  have h_79 := (hg_71 6 (by decide)).trans h_65
  have h_80 := (hg_71 7 (by decide)).trans h_66
  have h_81 := (hg_71 (100 + 2 * j) (by omega)).trans h_68
  have h_82 : ct_69 0 = some (.inr (4, [.ref (ad 1), .ref (ad 2), .ref (ad 6), .ref (ad 7), .int (nI n), .int (nI (L.1 + 1)), .int K.2.1, .int K.2.2, .int 0])) := hk_70
  refine lv_iload hx hb dX4_link_91 (lv_at hl 0 rfl) ?_
  exact h_iret S hr hlk hS hW dX4_link_93 ⟨rfl, RC_link hR hi hj hm4 h_82
     (fun d _ hor => by
      rcases hor with e | e
      · subst e; exact (h_72.trans (congrArg (fun x => some (Sum.inr (0, x))) (DC_in hlo hij).symm))
      · subst e; exact (h_81.trans (congrArg (fun x => some (Sum.inr (0, x))) (DC_j hij).symm)))
     (fun x _ hor => by
      rcases hor with e | e
      · subst e; exact (by rw [nl_nxm, show (newL L i j).2.2 L.1 = j from va_up_self _ _ _]; exact h_73)
      · rw [hlo] at e; cases e)
     (fun z q0 qi qj qm qy => (fun j q0 q1 q2 q3 => (hg_71 j q0).trans ((hg_57 j q2).trans ((hg_44 j q1).trans ((hg_30 j q3).trans ((hg_16 j q3).trans (hg_3 j q0)))))) z q0 qi qj qm)⟩
set_option maxRecDepth 100000 in
set_option maxHeartbeats 4000000 in
theorem c_X4_link_ne (l : Launch) (G : hG) (ad : Nat → Nat) (ct : Nat → Option va_E) {fr : Nat → Option va_E} {n : Nat} {ty : Nat → Int32} {A : AS} {T : TS} {L : LS4} {K : KS} {st0 : Int32} (hR : RC fr G ad ct n ty A T L K st0) {N : Nat} {i : Nat} (hi : i < n) (hlo : lstL L.2.1 i L.1 = none) (hm4 : L.1 < 400) (hadk : ad (101 + 2 * L.1) = N)  : Met l yX4_link wzX4_link { frames := 2, cells := 1, slots := 2, locals := 41 } (hPz [.ref (ad 0), .int (nI i), .int (nI i)] G ad ct N) (hQi (fun r ct1 => r = nI L.1 ∧ RC fr G ad ct1 n ty A T (newL L i i) K 0) G ad) 1 2 (hA G.2.2.2) := by
  refine hMetz (by decide) (Nat.le_of_ble_eq_true rfl) (fun p e s m below meth c ls S hr hlk hin hE hW hsz hl => ?_)
  obtain ⟨hx, hb, hml, hown, hts⟩ := id S
  have hS : va_S (hA G.2.2.2) s.heap s.heap [] := va_S.rf
  have hl : lv_has ls 6 [(0, .ref (ad 0)), (1, .int (nI i)), (2, .int (nI i))] := hl
  obtain ⟨h0, h1, h2, h3, h4, h5, h6, h7, hdv, hlks, hfr, hn300, hm400, hft, hty⟩ := id hR
  have hd_i : ct (100 + 2 * i) = some (.inr (0, [.ref (ad 1), .ref (ad 2), .int (ty i), .int (takActF (ty i)), .int (A.1 i), .int (A.2.1 i), va_rf (lkF ad (geL L.2.1 i L.1 0)), .null, .int (nI (cntL L.2.1 i L.1)), .int (nI (cntL L.2.2 i L.1)), .int (T.1 i), .int (T.2.1 i), .int (T.2.2 i)])) := by
    rw [hdv i hi, DC, hlo]; rfl
  refine lv_aload_n hx hb dX4_link_0 rfl (lv_at hl 0 rfl) ?_
  refine lv_iload_n hx hb dX4_link_1 rfl (lv_at hl 1 rfl) ?_
  refine hc_rq (va_runV (As := [.int (nI i)]) (rest := []) S (c_X4_find l G _ hW h0 h6 (nI i)) (cwV 1 hts (gWSV q_l_4_42 q_im_X4_find q_se_X4_find q_in_4 q_co_X4_find) rfl rfl rfl (by decide +kernel) ⟨Nat.le_of_ble_eq_true rfl, Nat.le_of_ble_eq_true rfl⟩) (hPreVr hE hS (hrecv hE hW h0 (q := (RX4, TX4, 9)) rfl)) rfl rfl hl.1 rfl (lv_room (Nat.le_of_ble_eq_true rfl)) dX4_link_2 ⟨Nat.le_of_ble_eq_true rfl, Nat.le_of_ble_eq_true rfl⟩) hS (fun locs hS => ?_)
  rw [findF_ok hn300 hi, va_rf_s]
  refine lv_astore_n (lv' := [(3, .ref (ad (100 + 2 * i))), (0, .ref (ad 0)), (1, .int (nI i)), (2, .int (nI i))]) hx hb dX4_link_5 rfl hl (by decide) rfl (fun ls hl => ?_)
  refine lv_aload_n hx hb dX4_link_6 rfl (lv_at hl 1 rfl) ?_
  refine lv_iload_n hx hb dX4_link_7 rfl (lv_at hl 3 rfl) ?_
  refine hc_rq (va_runV (As := [.int (nI i)]) (rest := []) S (c_X4_find l G _ hW h0 h6 (nI i)) (cwV 1 hts (gWSV q_l_4_42 q_im_X4_find q_se_X4_find q_in_4 q_co_X4_find) rfl rfl rfl (by decide +kernel) ⟨Nat.le_of_ble_eq_true rfl, Nat.le_of_ble_eq_true rfl⟩) (hPreVr hE hS (hrecv hE hW h0 (q := (RX4, TX4, 9)) rfl)) rfl rfl hl.1 rfl (lv_room (Nat.le_of_ble_eq_true rfl)) dX4_link_8 ⟨Nat.le_of_ble_eq_true rfl, Nat.le_of_ble_eq_true rfl⟩) hS (fun locs hS => ?_)
  rw [findF_ok hn300 hi, va_rf_s]
  refine lv_astore (lv' := [(4, .ref (ad (100 + 2 * i))), (3, .ref (ad (100 + 2 * i))), (0, .ref (ad 0)), (1, .int (nI i)), (2, .int (nI i))]) hx hb dX4_link_11 hl (by decide) rfl (fun ls hl => ?_)
  refine lv_aload_n hx hb dX4_link_13 rfl (lv_at hl 1 rfl) ?_
  refine lv_ifnull hx hb dX4_link_14 ?_
  refine lv_aload hx hb dX4_link_17 (lv_at hl 0 rfl) ?_
  refine lv_ifnonnull (tgt := 29) hx hb dX4_link_19 (by decide) ?_
  refine lv_aload_n hx hb dX4_link_29 rfl (lv_at hl 2 rfl) ?_
  refine hr_get S hE hW h0 inX4 (C := RX4) (T := TX4) (N := 9) rfl 5 (by decide) q_f_4_63 rfl dX4_link_30 ?_
  refine lv_sipush (v := 400) hx hb dX4_link_33 (by decide) ?_
  refine lv_icmp_lt (tgt := 46) hx hb dX4_link_36 (by decide) (fun _ => ?_) (fun q => absurd (show nI L.1 < 400 from nI_lt (b := 400) hm4 (by omega)) q)
  refine lv_aload_n hx hb dX4_link_46 rfl (lv_at hl 2 rfl) ?_
  refine lv_iconst (v := 0) hx hb dX4_link_47 (by decide) ?_
  refine hr_put S hE hW hS h0 inX4 (C := RX4) (T := TX4) (N := 9) tyX4_ok nmX4 rfl 8 (by decide) q_f_4_32 rfl rfl rfl (Nat.le_of_ble_eq_true rfl) dX4_link_48 (fun H locs ct_1 hW hk_2 hg_3 hz hS => ?_)
  have hsz := hz.trans hsz
  have h_4 := (hg_3 1 (by decide)).trans h1
  have h_5 := (hg_3 2 (by decide)).trans h2
  have h_6 := (hg_3 3 (by decide)).trans h3
  have h_7 := (hg_3 4 (by decide)).trans h4
  have h_8 := (hg_3 5 (by decide)).trans h5
  have h_9 := (hg_3 6 (by decide)).trans h6
  have h_10 := (hg_3 7 (by decide)).trans h7
  have h_11 := (hg_3 (100 + 2 * i) (by omega)).trans hd_i
  have h_12 : ct_1 0 = some (.inr (4, [.ref (ad 1), .ref (ad 2), .ref (ad 6), .ref (ad 7), .int (nI n), .int (nI L.1), .int K.2.1, .int K.2.2, .int 0])) := hk_2
  refine lv_aload_n hx hb dX4_link_51 rfl (lv_at hl 1 rfl) ?_
  refine hr_new S hE hW hS (101 + 2 * L.1) (hadk.trans hsz.symm) (hw_z hW h_12) inX2 (ci := 2) (C := RX2) (T := TX2) (N := 2) tyX2_ok rfl q_cl_4_66 q_ia_2 q_in_2 (fs := [.null, .null]) (fun j hj => by rcases (show j = 0 ∨ j = 1 by omega) with rfl | rfl <;> rfl) (Nat.le_of_ble_eq_true rfl) (Nat.le_of_ble_eq_true rfl) dX4_link_52 (fun H ct_13 hW hk_14 hg_15 hz hS => ?_)
  have hsz := hz.trans (congrArg (· + 1) hsz)
  have h_16 := (hg_15 1 (by omega)).trans h_4
  have h_17 := (hg_15 2 (by omega)).trans h_5
  have h_18 := (hg_15 3 (by omega)).trans h_6
  have h_19 := (hg_15 4 (by omega)).trans h_7
  have h_20 := (hg_15 5 (by omega)).trans h_8
  have h_21 := (hg_15 6 (by omega)).trans h_9
  have h_22 := (hg_15 7 (by omega)).trans h_10
  have h_23 := (hg_15 (100 + 2 * i) (by omega)).trans h_11
  have h_24 := (hg_15 0 (by omega)).trans h_12
  have h_25 : ct_13 (101 + 2 * L.1) = some (.inr (2, [.null, .null])) := hk_14
  refine lv_dup hx hb dX4_link_55 rfl ?_
  refine lv_aload hx hb dX4_link_56 (lv_at hl 0 rfl) ?_
  refine hc_zv (va_runIN (As := [.ref (ad (100 + 2 * i))]) (rest := [.ref (ad (101 + 2 * L.1)), .ref (ad (100 + 2 * i))]) S (c_X2_init l G ad _ (k := 101 + 2 * L.1) (j := 100 + 2 * i) h_25) ⟨va_cnB 1 hts (gWS q_co_X2_init) rfl rfl rfl (hE.nest 25 rfl) (hts _ q_in_2) (by decide +kernel) ⟨Nat.le_of_ble_eq_true rfl, Nat.le_of_ble_eq_true rfl⟩, rfl, hts _ q_im_X2_init⟩ (hPreSz hE hS hW hsz) rfl rfl hl.1 rfl (lv_room (Nat.le_of_ble_eq_true rfl)) dX4_link_58 ⟨Nat.le_of_ble_eq_true rfl, Nat.le_of_ble_eq_true rfl⟩) hS (fun ct_26 H locs hp hW hsz hS => ?_)
  obtain ⟨h_27, hg_28⟩ := hp
  have h_29 := (hg_28 1 (by omega)).trans h_16
  have h_30 := (hg_28 2 (by omega)).trans h_17
  have h_31 := (hg_28 3 (by omega)).trans h_18
  have h_32 := (hg_28 4 (by omega)).trans h_19
  have h_33 := (hg_28 5 (by omega)).trans h_20
  have h_34 := (hg_28 6 (by omega)).trans h_21
  have h_35 := (hg_28 7 (by omega)).trans h_22
  have h_36 := (hg_28 (100 + 2 * i) (by omega)).trans h_23
  have h_37 := (hg_28 0 (by omega)).trans h_24
  refine hc_v (va_runVN (As := [.ref (ad (101 + 2 * L.1))]) (rest := []) S (c_X0_addLink_n l G ad _ (k := 100 + 2 * i) (z := 101 + 2 * L.1) h_36) ⟨va_cnB 1 hts (gWS q_co_X0_addLink) rfl rfl rfl (hE.nest 26 rfl) (hts _ q_in_0) (by decide +kernel) ⟨Nat.le_of_ble_eq_true rfl, Nat.le_of_ble_eq_true rfl⟩, hts _ q_im_X0_addLink, hts _ q_se_X0_addLink⟩ (hPreVw hE hS (hrecv hE hW h_36 (q := (RX0, TX0, 13)) rfl) hW) rfl rfl hl.1 rfl (lv_room (Nat.le_of_ble_eq_true rfl)) dX4_link_61 ⟨Nat.le_of_ble_eq_true rfl, Nat.le_of_ble_eq_true rfl⟩) hS (fun ct_38 H locs hp hW hS => ?_)
  obtain ⟨h_39, hg_41⟩ := hp
  have h_42 := (hg_41 (101 + 2 * L.1) (by omega)).trans h_27
  have h_43 := (hg_41 1 (by omega)).trans h_29
  have h_44 := (hg_41 2 (by omega)).trans h_30
  have h_45 := (hg_41 3 (by omega)).trans h_31
  have h_46 := (hg_41 4 (by omega)).trans h_32
  have h_47 := (hg_41 5 (by omega)).trans h_33
  have h_48 := (hg_41 6 (by omega)).trans h_34
  have h_49 := (hg_41 7 (by omega)).trans h_35
  have h_50 := (hg_41 0 (by omega)).trans h_37
  refine lv_aload hx hb dX4_link_64 (lv_at hl 0 rfl) ?_
  refine lv_dup hx hb dX4_link_66 rfl ?_
  refine hr_getN S hE hW h_39 inX0 (C := RX0) (T := TX0) (N := 13) rfl 9 (by decide) (hE.nest 2 rfl) rfl dX4_link_67 ?_
  refine lv_iconst (v := 1) hx hb dX4_link_70 (by decide) ?_
  refine lv_iadd hx hb dX4_link_71 ?_
  refine hr_putN S hE hW hS h_39 inX0 (C := RX0) (T := TX0) (N := 13) tyX0_ok nmX0 rfl 9 (by decide) (hE.nest 2 rfl) rfl rfl rfl (Nat.le_of_ble_eq_true rfl) dX4_link_72 (fun H locs ct_51 hW hk_52 hg_53 hz hS => ?_)
  have h_54 := (hg_53 (101 + 2 * L.1) (by omega)).trans h_42
  have h_55 := (hg_53 1 (by omega)).trans h_43
  have h_56 := (hg_53 2 (by omega)).trans h_44
  have h_57 := (hg_53 3 (by omega)).trans h_45
  have h_58 := (hg_53 4 (by omega)).trans h_46
  have h_59 := (hg_53 5 (by omega)).trans h_47
  have h_60 := (hg_53 6 (by omega)).trans h_48
  have h_61 := (hg_53 7 (by omega)).trans h_49
  have h_62 := (hg_53 0 (by omega)).trans h_50
  have h_63 : ct_51 (100 + 2 * i) = some (.inr (0, [.ref (ad 1), .ref (ad 2), .int (ty i), .int (takActF (ty i)), .int (A.1 i), .int (A.2.1 i), .ref (ad (101 + 2 * L.1)), .ref (ad (101 + 2 * L.1)), .int ((nI (cntL L.2.1 i L.1)) + 1), .int ((nI (cntL L.2.2 i L.1)) + 1), .int (T.1 i), .int (T.2.1 i), .int (T.2.2 i)])) := hk_52
  refine lv_aload_n hx hb dX4_link_75 rfl (lv_at hl 2 rfl) ?_
  refine hr_get S hE hW h_62 inX4 (C := RX4) (T := TX4) (N := 9) rfl 5 (by decide) q_f_4_63 rfl dX4_link_76 ?_
  refine lv_istore (lv' := [(5, .int (nI L.1)), (4, .ref (ad (100 + 2 * i))), (3, .ref (ad (100 + 2 * i))), (0, .ref (ad 0)), (1, .int (nI i)), (2, .int (nI i))]) hx hb dX4_link_79 hl (by decide) rfl (fun ls hl => ?_)
  refine lv_aload_n hx hb dX4_link_81 rfl (lv_at hl 3 rfl) ?_
  refine lv_dup hx hb dX4_link_82 rfl ?_
  refine hr_get S hE hW h_62 inX4 (C := RX4) (T := TX4) (N := 9) rfl 5 (by decide) q_f_4_63 rfl dX4_link_83 ?_
  refine lv_iconst (v := 1) hx hb dX4_link_86 (by decide) ?_
  refine lv_iadd hx hb dX4_link_87 ?_
  rw [nI_1]
  refine hr_put S hE hW hS h_62 inX4 (C := RX4) (T := TX4) (N := 9) tyX4_ok nmX4 rfl 5 (by decide) q_f_4_63 rfl rfl rfl (Nat.le_of_ble_eq_true rfl) dX4_link_88 (fun H locs ct_64 hW hk_65 hg_66 hz hS => ?_)
  have h_67 := (hg_66 (101 + 2 * L.1) (by omega)).trans h_54
  have h_68 := (hg_66 1 (by decide)).trans h_55
  have h_69 := (hg_66 2 (by decide)).trans h_56
  have h_70 := (hg_66 3 (by decide)).trans h_57
  have h_71 := (hg_66 4 (by decide)).trans h_58
  have h_72 := (hg_66 5 (by decide)).trans h_59
  have h_73 := (hg_66 6 (by decide)).trans h_60
  have h_74 := (hg_66 7 (by decide)).trans h_61
  have h_75 := (hg_66 (100 + 2 * i) (by omega)).trans h_63
  have h_76 : ct_64 0 = some (.inr (4, [.ref (ad 1), .ref (ad 2), .ref (ad 6), .ref (ad 7), .int (nI n), .int (nI (L.1 + 1)), .int K.2.1, .int K.2.2, .int 0])) := hk_65
  refine lv_iload hx hb dX4_link_91 (lv_at hl 0 rfl) ?_
  exact h_iret S hr hlk hS hW dX4_link_93 ⟨rfl, RC_link hR hi hi hm4 h_76
     (fun d _ hor => by
      rcases hor with e | e
      · subst e; exact (h_75.trans (congrArg (fun x => some (Sum.inr (0, x))) (DC_en hlo).symm))
      · subst e; exact (h_75.trans (congrArg (fun x => some (Sum.inr (0, x))) (DC_en hlo).symm)))
     (fun x _ hor => by
      rcases hor with e | e
      · subst e; exact (by rw [nl_nxm, show (newL L i i).2.2 L.1 = i from va_up_self _ _ _]; exact h_67)
      · rw [hlo] at e; cases e)
     (fun z q0 qi qi2 qm qy => (fun j q0 q1 q2 => (hg_66 j q0).trans ((hg_53 j q1).trans ((hg_41 j q1).trans ((hg_28 j q2).trans ((hg_15 j q2).trans (hg_3 j q0)))))) z q0 qi qm)⟩
set_option maxRecDepth 100000 in
set_option maxHeartbeats 4000000 in
theorem c_X4_link_sd (l : Launch) (G : hG) (ad : Nat → Nat) (ct : Nat → Option va_E) {fr : Nat → Option va_E} {n : Nat} {ty : Nat → Int32} {A : AS} {T : TS} {L : LS4} {K : KS} {st0 : Int32} (hR : RC fr G ad ct n ty A T L K st0) {N : Nat} {i : Nat} (hi : i < n) {j : Nat} (hj : j < n) (hij : i ≠ j) {y : Nat} (hlo : lstL L.2.1 i L.1 = some y) (hm4 : L.1 < 400) (hadk : ad (101 + 2 * L.1) = N)  : Met l yX4_link wzX4_link { frames := 2, cells := 1, slots := 2, locals := 41 } (hPz [.ref (ad 0), .int (nI i), .int (nI j)] G ad ct N) (hQi (fun r ct1 => r = nI L.1 ∧ RC fr G ad ct1 n ty A T (newL L i j) K 0) G ad) 1 2 (hA G.2.2.2) := by
  refine hMetz (by decide) (Nat.le_of_ble_eq_true rfl) (fun p e s m below meth c ls S hr hlk hin hE hW hsz hl => ?_)
  obtain ⟨hx, hb, hml, hown, hts⟩ := id S
  have hS : va_S (hA G.2.2.2) s.heap s.heap [] := va_S.rf
  have hl : lv_has ls 6 [(0, .ref (ad 0)), (1, .int (nI i)), (2, .int (nI j))] := hl
  obtain ⟨h0, h1, h2, h3, h4, h5, h6, h7, hdv, hlks, hfr, hn300, hm400, hft, hty⟩ := id hR
  have hd_i : ct (100 + 2 * i) = some (.inr (0, [.ref (ad 1), .ref (ad 2), .int (ty i), .int (takActF (ty i)), .int (A.1 i), .int (A.2.1 i), va_rf (lkF ad (geL L.2.1 i L.1 0)), .ref (ad (101 + 2 * y)), .int (nI (cntL L.2.1 i L.1)), .int (nI (cntL L.2.2 i L.1)), .int (T.1 i), .int (T.2.1 i), .int (T.2.2 i)])) := by
    rw [hdv i hi, DC, hlo]; rfl
  have hd_j := hdv j hj
  have hy := (lstL_some _ _ hlo).1
  have hl_y := hlks y hy
  refine lv_aload_n hx hb dX4_link_0 rfl (lv_at hl 0 rfl) ?_
  refine lv_iload_n hx hb dX4_link_1 rfl (lv_at hl 1 rfl) ?_
  refine hc_rq (va_runV (As := [.int (nI i)]) (rest := []) S (c_X4_find l G _ hW h0 h6 (nI i)) (cwV 1 hts (gWSV q_l_4_42 q_im_X4_find q_se_X4_find q_in_4 q_co_X4_find) rfl rfl rfl (by decide +kernel) ⟨Nat.le_of_ble_eq_true rfl, Nat.le_of_ble_eq_true rfl⟩) (hPreVr hE hS (hrecv hE hW h0 (q := (RX4, TX4, 9)) rfl)) rfl rfl hl.1 rfl (lv_room (Nat.le_of_ble_eq_true rfl)) dX4_link_2 ⟨Nat.le_of_ble_eq_true rfl, Nat.le_of_ble_eq_true rfl⟩) hS (fun locs hS => ?_)
  rw [findF_ok hn300 hi, va_rf_s]
  refine lv_astore_n (lv' := [(3, .ref (ad (100 + 2 * i))), (0, .ref (ad 0)), (1, .int (nI i)), (2, .int (nI j))]) hx hb dX4_link_5 rfl hl (by decide) rfl (fun ls hl => ?_)
  refine lv_aload_n hx hb dX4_link_6 rfl (lv_at hl 1 rfl) ?_
  refine lv_iload_n hx hb dX4_link_7 rfl (lv_at hl 3 rfl) ?_
  refine hc_rq (va_runV (As := [.int (nI j)]) (rest := []) S (c_X4_find l G _ hW h0 h6 (nI j)) (cwV 1 hts (gWSV q_l_4_42 q_im_X4_find q_se_X4_find q_in_4 q_co_X4_find) rfl rfl rfl (by decide +kernel) ⟨Nat.le_of_ble_eq_true rfl, Nat.le_of_ble_eq_true rfl⟩) (hPreVr hE hS (hrecv hE hW h0 (q := (RX4, TX4, 9)) rfl)) rfl rfl hl.1 rfl (lv_room (Nat.le_of_ble_eq_true rfl)) dX4_link_8 ⟨Nat.le_of_ble_eq_true rfl, Nat.le_of_ble_eq_true rfl⟩) hS (fun locs hS => ?_)
  rw [findF_ok hn300 hj, va_rf_s]
  refine lv_astore (lv' := [(4, .ref (ad (100 + 2 * j))), (3, .ref (ad (100 + 2 * i))), (0, .ref (ad 0)), (1, .int (nI i)), (2, .int (nI j))]) hx hb dX4_link_11 hl (by decide) rfl (fun ls hl => ?_)
  refine lv_aload_n hx hb dX4_link_13 rfl (lv_at hl 1 rfl) ?_
  refine lv_ifnull hx hb dX4_link_14 ?_
  refine lv_aload hx hb dX4_link_17 (lv_at hl 0 rfl) ?_
  refine lv_ifnonnull (tgt := 29) hx hb dX4_link_19 (by decide) ?_
  refine lv_aload_n hx hb dX4_link_29 rfl (lv_at hl 2 rfl) ?_
  refine hr_get S hE hW h0 inX4 (C := RX4) (T := TX4) (N := 9) rfl 5 (by decide) q_f_4_63 rfl dX4_link_30 ?_
  refine lv_sipush (v := 400) hx hb dX4_link_33 (by decide) ?_
  refine lv_icmp_lt (tgt := 46) hx hb dX4_link_36 (by decide) (fun _ => ?_) (fun q => absurd (show nI L.1 < 400 from nI_lt (b := 400) hm4 (by omega)) q)
  refine lv_aload_n hx hb dX4_link_46 rfl (lv_at hl 2 rfl) ?_
  refine lv_iconst (v := 0) hx hb dX4_link_47 (by decide) ?_
  refine hr_put S hE hW hS h0 inX4 (C := RX4) (T := TX4) (N := 9) tyX4_ok nmX4 rfl 8 (by decide) q_f_4_32 rfl rfl rfl (Nat.le_of_ble_eq_true rfl) dX4_link_48 (fun H locs ct_1 hW hk_2 hg_3 hz hS => ?_)
  have hsz := hz.trans hsz
  have h_4 := (hg_3 1 (by decide)).trans h1
  have h_5 := (hg_3 2 (by decide)).trans h2
  have h_6 := (hg_3 3 (by decide)).trans h3
  have h_7 := (hg_3 4 (by decide)).trans h4
  have h_8 := (hg_3 5 (by decide)).trans h5
  have h_9 := (hg_3 6 (by decide)).trans h6
  have h_10 := (hg_3 7 (by decide)).trans h7
  have h_11 := (hg_3 (100 + 2 * i) (by omega)).trans hd_i
  have h_12 := (hg_3 (100 + 2 * j) (by omega)).trans hd_j
  have h_13 := (hg_3 (101 + 2 * y) (by omega)).trans hl_y
  have h_14 : ct_1 0 = some (.inr (4, [.ref (ad 1), .ref (ad 2), .ref (ad 6), .ref (ad 7), .int (nI n), .int (nI L.1), .int K.2.1, .int K.2.2, .int 0])) := hk_2
  refine lv_aload_n hx hb dX4_link_51 rfl (lv_at hl 1 rfl) ?_
  refine hr_new S hE hW hS (101 + 2 * L.1) (hadk.trans hsz.symm) (hw_z hW h_14) inX2 (ci := 2) (C := RX2) (T := TX2) (N := 2) tyX2_ok rfl q_cl_4_66 q_ia_2 q_in_2 (fs := [.null, .null]) (fun j hj => by rcases (show j = 0 ∨ j = 1 by omega) with rfl | rfl <;> rfl) (Nat.le_of_ble_eq_true rfl) (Nat.le_of_ble_eq_true rfl) dX4_link_52 (fun H ct_15 hW hk_16 hg_17 hz hS => ?_)
  have hsz := hz.trans (congrArg (· + 1) hsz)
  have h_18 := (hg_17 1 (by omega)).trans h_4
  have h_19 := (hg_17 2 (by omega)).trans h_5
  have h_20 := (hg_17 3 (by omega)).trans h_6
  have h_21 := (hg_17 4 (by omega)).trans h_7
  have h_22 := (hg_17 5 (by omega)).trans h_8
  have h_23 := (hg_17 6 (by omega)).trans h_9
  have h_24 := (hg_17 7 (by omega)).trans h_10
  have h_25 := (hg_17 (100 + 2 * i) (by omega)).trans h_11
  have h_26 := (hg_17 (100 + 2 * j) (by omega)).trans h_12
  have h_27 := (hg_17 (101 + 2 * y) (by omega)).trans h_13
  have h_28 := (hg_17 0 (by omega)).trans h_14
  have h_29 : ct_15 (101 + 2 * L.1) = some (.inr (2, [.null, .null])) := hk_16
  refine lv_dup hx hb dX4_link_55 rfl ?_
  refine lv_aload hx hb dX4_link_56 (lv_at hl 0 rfl) ?_
  refine hc_zv (va_runIN (As := [.ref (ad (100 + 2 * j))]) (rest := [.ref (ad (101 + 2 * L.1)), .ref (ad (100 + 2 * i))]) S (c_X2_init l G ad _ (k := 101 + 2 * L.1) (j := 100 + 2 * j) h_29) ⟨va_cnB 1 hts (gWS q_co_X2_init) rfl rfl rfl (hE.nest 25 rfl) (hts _ q_in_2) (by decide +kernel) ⟨Nat.le_of_ble_eq_true rfl, Nat.le_of_ble_eq_true rfl⟩, rfl, hts _ q_im_X2_init⟩ (hPreSz hE hS hW hsz) rfl rfl hl.1 rfl (lv_room (Nat.le_of_ble_eq_true rfl)) dX4_link_58 ⟨Nat.le_of_ble_eq_true rfl, Nat.le_of_ble_eq_true rfl⟩) hS (fun ct_30 H locs hp hW hsz hS => ?_)
  obtain ⟨h_31, hg_32⟩ := hp
  have h_33 := (hg_32 1 (by omega)).trans h_18
  have h_34 := (hg_32 2 (by omega)).trans h_19
  have h_35 := (hg_32 3 (by omega)).trans h_20
  have h_36 := (hg_32 4 (by omega)).trans h_21
  have h_37 := (hg_32 5 (by omega)).trans h_22
  have h_38 := (hg_32 6 (by omega)).trans h_23
  have h_39 := (hg_32 7 (by omega)).trans h_24
  have h_40 := (hg_32 (100 + 2 * i) (by omega)).trans h_25
  have h_41 := (hg_32 (100 + 2 * j) (by omega)).trans h_26
  have h_42 := (hg_32 (101 + 2 * y) (by omega)).trans h_27
  have h_43 := (hg_32 0 (by omega)).trans h_28
  refine hc_v (va_runVN (As := [.ref (ad (101 + 2 * L.1))]) (rest := []) S (c_X0_addLink_s l G ad _ (k := 100 + 2 * i) (z := 101 + 2 * L.1) (w := 101 + 2 * y) (by omega) h_40 h_42) ⟨va_cnB 1 hts (gWS q_co_X0_addLink) rfl rfl rfl (hE.nest 26 rfl) (hts _ q_in_0) (by decide +kernel) ⟨Nat.le_of_ble_eq_true rfl, Nat.le_of_ble_eq_true rfl⟩, hts _ q_im_X0_addLink, hts _ q_se_X0_addLink⟩ (hPreVw hE hS (hrecv hE hW h_40 (q := (RX0, TX0, 13)) rfl) hW) rfl rfl hl.1 rfl (lv_room (Nat.le_of_ble_eq_true rfl)) dX4_link_61 ⟨Nat.le_of_ble_eq_true rfl, Nat.le_of_ble_eq_true rfl⟩) hS (fun ct_44 H locs hp hW hS => ?_)
  obtain ⟨h_45, h_46, hg_47⟩ := hp
  have h_48 := (hg_47 (101 + 2 * L.1) (by omega) (by omega)).trans h_31
  have h_49 := (hg_47 1 (by omega) (by omega)).trans h_33
  have h_50 := (hg_47 2 (by omega) (by omega)).trans h_34
  have h_51 := (hg_47 3 (by omega) (by omega)).trans h_35
  have h_52 := (hg_47 4 (by omega) (by omega)).trans h_36
  have h_53 := (hg_47 5 (by omega) (by omega)).trans h_37
  have h_54 := (hg_47 6 (by omega) (by omega)).trans h_38
  have h_55 := (hg_47 7 (by omega) (by omega)).trans h_39
  have h_56 := (hg_47 (100 + 2 * j) (by omega) (by omega)).trans h_41
  have h_57 := (hg_47 0 (by omega) (by omega)).trans h_43
  refine lv_aload hx hb dX4_link_64 (lv_at hl 0 rfl) ?_
  refine lv_dup hx hb dX4_link_66 rfl ?_
  refine hr_getN S hE hW h_56 inX0 (C := RX0) (T := TX0) (N := 13) rfl 9 (by decide) (hE.nest 2 rfl) rfl dX4_link_67 ?_
  refine lv_iconst (v := 1) hx hb dX4_link_70 (by decide) ?_
  refine lv_iadd hx hb dX4_link_71 ?_
  refine hr_putN S hE hW hS h_56 inX0 (C := RX0) (T := TX0) (N := 13) tyX0_ok nmX0 rfl 9 (by decide) (hE.nest 2 rfl) rfl rfl rfl (Nat.le_of_ble_eq_true rfl) dX4_link_72 (fun H locs ct_58 hW hk_59 hg_60 hz hS => ?_)
  have h_61 := (hg_60 (100 + 2 * i) (by omega)).trans h_45
  have h_62 := (hg_60 (101 + 2 * y) (by omega)).trans h_46
  have h_63 := (hg_60 (101 + 2 * L.1) (by omega)).trans h_48
  have h_64 := (hg_60 1 (by omega)).trans h_49
  have h_65 := (hg_60 2 (by omega)).trans h_50
  have h_66 := (hg_60 3 (by omega)).trans h_51
  have h_67 := (hg_60 4 (by omega)).trans h_52
  have h_68 := (hg_60 5 (by omega)).trans h_53
  have h_69 := (hg_60 6 (by omega)).trans h_54
  have h_70 := (hg_60 7 (by omega)).trans h_55
  have h_71 := (hg_60 0 (by omega)).trans h_57
  have h_72 : ct_58 (100 + 2 * j) = some (.inr (0, [.ref (ad 1), .ref (ad 2), .int (ty j), .int (takActF (ty j)), .int (A.1 j), .int (A.2.1 j), va_rf (lkF ad (geL L.2.1 j L.1 0)), va_rf (lkF ad (lstL L.2.1 j L.1)), .int (nI (cntL L.2.1 j L.1)), .int ((nI (cntL L.2.2 j L.1)) + 1), .int (T.1 j), .int (T.2.1 j), .int (T.2.2 j)])) := hk_59
  refine lv_aload_n hx hb dX4_link_75 rfl (lv_at hl 2 rfl) ?_
  refine hr_get S hE hW h_71 inX4 (C := RX4) (T := TX4) (N := 9) rfl 5 (by decide) q_f_4_63 rfl dX4_link_76 ?_
  refine lv_istore (lv' := [(5, .int (nI L.1)), (4, .ref (ad (100 + 2 * j))), (3, .ref (ad (100 + 2 * i))), (0, .ref (ad 0)), (1, .int (nI i)), (2, .int (nI j))]) hx hb dX4_link_79 hl (by decide) rfl (fun ls hl => ?_)
  refine lv_aload_n hx hb dX4_link_81 rfl (lv_at hl 3 rfl) ?_
  refine lv_dup hx hb dX4_link_82 rfl ?_
  refine hr_get S hE hW h_71 inX4 (C := RX4) (T := TX4) (N := 9) rfl 5 (by decide) q_f_4_63 rfl dX4_link_83 ?_
  refine lv_iconst (v := 1) hx hb dX4_link_86 (by decide) ?_
  refine lv_iadd hx hb dX4_link_87 ?_
  rw [nI_1]
  refine hr_put S hE hW hS h_71 inX4 (C := RX4) (T := TX4) (N := 9) tyX4_ok nmX4 rfl 5 (by decide) q_f_4_63 rfl rfl rfl (Nat.le_of_ble_eq_true rfl) dX4_link_88 (fun H locs ct_73 hW hk_74 hg_75 hz hS => ?_)
  have h_76 := (hg_75 (100 + 2 * i) (by omega)).trans h_61
  have h_77 := (hg_75 (101 + 2 * y) (by omega)).trans h_62
  have h_78 := (hg_75 (101 + 2 * L.1) (by omega)).trans h_63
  have h_79 := (hg_75 1 (by decide)).trans h_64
  have h_80 := (hg_75 2 (by decide)).trans h_65
  have h_81 := (hg_75 3 (by decide)).trans h_66
  have h_82 := (hg_75 4 (by decide)).trans h_67
  have h_83 := (hg_75 5 (by decide)).trans h_68
  have h_84 := (hg_75 6 (by decide)).trans h_69
  have h_85 := (hg_75 7 (by decide)).trans h_70
  have h_86 := (hg_75 (100 + 2 * j) (by omega)).trans h_72
  have h_87 : ct_73 0 = some (.inr (4, [.ref (ad 1), .ref (ad 2), .ref (ad 6), .ref (ad 7), .int (nI n), .int (nI (L.1 + 1)), .int K.2.1, .int K.2.2, .int 0])) := hk_74
  refine lv_iload hx hb dX4_link_91 (lv_at hl 0 rfl) ?_
  exact h_iret S hr hlk hS hW dX4_link_93 ⟨rfl, RC_link hR hi hj hm4 h_87
     (fun d _ hor => by
      rcases hor with e | e
      · subst e; exact (h_76.trans (congrArg (fun x => some (Sum.inr (0, x))) (DC_is hlo hij).symm))
      · subst e; exact (h_86.trans (congrArg (fun x => some (Sum.inr (0, x))) (DC_j hij).symm)))
     (fun x _ hor => by
      rcases hor with e | e
      · subst e; exact (by rw [nl_nxm, show (newL L i j).2.2 L.1 = j from va_up_self _ _ _]; exact h_78)
      · have e2 : x = y := Option.some.inj (e.symm.trans hlo)
        rw [e2]; exact (by rw [nl_nxl hlo, show (newL L i j).2.2 y = L.2.2 y from up_lt hy]; exact h_77))
     (fun z q0 qi qj qm qy => (fun j q0 q1 q2 q3 q4 => (hg_75 j q0).trans ((hg_60 j q2).trans ((hg_47 j q1 q4).trans ((hg_32 j q3).trans ((hg_17 j q3).trans (hg_3 j q0)))))) z q0 qi qj qm (qy y hlo))⟩
set_option maxRecDepth 100000 in
set_option maxHeartbeats 4000000 in
theorem c_X4_link_se (l : Launch) (G : hG) (ad : Nat → Nat) (ct : Nat → Option va_E) {fr : Nat → Option va_E} {n : Nat} {ty : Nat → Int32} {A : AS} {T : TS} {L : LS4} {K : KS} {st0 : Int32} (hR : RC fr G ad ct n ty A T L K st0) {N : Nat} {i : Nat} (hi : i < n) {y : Nat} (hlo : lstL L.2.1 i L.1 = some y) (hm4 : L.1 < 400) (hadk : ad (101 + 2 * L.1) = N)  : Met l yX4_link wzX4_link { frames := 2, cells := 1, slots := 2, locals := 41 } (hPz [.ref (ad 0), .int (nI i), .int (nI i)] G ad ct N) (hQi (fun r ct1 => r = nI L.1 ∧ RC fr G ad ct1 n ty A T (newL L i i) K 0) G ad) 1 2 (hA G.2.2.2) := by
  refine hMetz (by decide) (Nat.le_of_ble_eq_true rfl) (fun p e s m below meth c ls S hr hlk hin hE hW hsz hl => ?_)
  obtain ⟨hx, hb, hml, hown, hts⟩ := id S
  have hS : va_S (hA G.2.2.2) s.heap s.heap [] := va_S.rf
  have hl : lv_has ls 6 [(0, .ref (ad 0)), (1, .int (nI i)), (2, .int (nI i))] := hl
  obtain ⟨h0, h1, h2, h3, h4, h5, h6, h7, hdv, hlks, hfr, hn300, hm400, hft, hty⟩ := id hR
  have hd_i : ct (100 + 2 * i) = some (.inr (0, [.ref (ad 1), .ref (ad 2), .int (ty i), .int (takActF (ty i)), .int (A.1 i), .int (A.2.1 i), va_rf (lkF ad (geL L.2.1 i L.1 0)), .ref (ad (101 + 2 * y)), .int (nI (cntL L.2.1 i L.1)), .int (nI (cntL L.2.2 i L.1)), .int (T.1 i), .int (T.2.1 i), .int (T.2.2 i)])) := by
    rw [hdv i hi, DC, hlo]; rfl
  have hy := (lstL_some _ _ hlo).1
  have hl_y := hlks y hy
  refine lv_aload_n hx hb dX4_link_0 rfl (lv_at hl 0 rfl) ?_
  refine lv_iload_n hx hb dX4_link_1 rfl (lv_at hl 1 rfl) ?_
  refine hc_rq (va_runV (As := [.int (nI i)]) (rest := []) S (c_X4_find l G _ hW h0 h6 (nI i)) (cwV 1 hts (gWSV q_l_4_42 q_im_X4_find q_se_X4_find q_in_4 q_co_X4_find) rfl rfl rfl (by decide +kernel) ⟨Nat.le_of_ble_eq_true rfl, Nat.le_of_ble_eq_true rfl⟩) (hPreVr hE hS (hrecv hE hW h0 (q := (RX4, TX4, 9)) rfl)) rfl rfl hl.1 rfl (lv_room (Nat.le_of_ble_eq_true rfl)) dX4_link_2 ⟨Nat.le_of_ble_eq_true rfl, Nat.le_of_ble_eq_true rfl⟩) hS (fun locs hS => ?_)
  rw [findF_ok hn300 hi, va_rf_s]
  refine lv_astore_n (lv' := [(3, .ref (ad (100 + 2 * i))), (0, .ref (ad 0)), (1, .int (nI i)), (2, .int (nI i))]) hx hb dX4_link_5 rfl hl (by decide) rfl (fun ls hl => ?_)
  refine lv_aload_n hx hb dX4_link_6 rfl (lv_at hl 1 rfl) ?_
  refine lv_iload_n hx hb dX4_link_7 rfl (lv_at hl 3 rfl) ?_
  refine hc_rq (va_runV (As := [.int (nI i)]) (rest := []) S (c_X4_find l G _ hW h0 h6 (nI i)) (cwV 1 hts (gWSV q_l_4_42 q_im_X4_find q_se_X4_find q_in_4 q_co_X4_find) rfl rfl rfl (by decide +kernel) ⟨Nat.le_of_ble_eq_true rfl, Nat.le_of_ble_eq_true rfl⟩) (hPreVr hE hS (hrecv hE hW h0 (q := (RX4, TX4, 9)) rfl)) rfl rfl hl.1 rfl (lv_room (Nat.le_of_ble_eq_true rfl)) dX4_link_8 ⟨Nat.le_of_ble_eq_true rfl, Nat.le_of_ble_eq_true rfl⟩) hS (fun locs hS => ?_)
  rw [findF_ok hn300 hi, va_rf_s]
  refine lv_astore (lv' := [(4, .ref (ad (100 + 2 * i))), (3, .ref (ad (100 + 2 * i))), (0, .ref (ad 0)), (1, .int (nI i)), (2, .int (nI i))]) hx hb dX4_link_11 hl (by decide) rfl (fun ls hl => ?_)
  refine lv_aload_n hx hb dX4_link_13 rfl (lv_at hl 1 rfl) ?_
  refine lv_ifnull hx hb dX4_link_14 ?_
  refine lv_aload hx hb dX4_link_17 (lv_at hl 0 rfl) ?_
  refine lv_ifnonnull (tgt := 29) hx hb dX4_link_19 (by decide) ?_
  refine lv_aload_n hx hb dX4_link_29 rfl (lv_at hl 2 rfl) ?_
  refine hr_get S hE hW h0 inX4 (C := RX4) (T := TX4) (N := 9) rfl 5 (by decide) q_f_4_63 rfl dX4_link_30 ?_
  refine lv_sipush (v := 400) hx hb dX4_link_33 (by decide) ?_
  refine lv_icmp_lt (tgt := 46) hx hb dX4_link_36 (by decide) (fun _ => ?_) (fun q => absurd (show nI L.1 < 400 from nI_lt (b := 400) hm4 (by omega)) q)
  refine lv_aload_n hx hb dX4_link_46 rfl (lv_at hl 2 rfl) ?_
  refine lv_iconst (v := 0) hx hb dX4_link_47 (by decide) ?_
  refine hr_put S hE hW hS h0 inX4 (C := RX4) (T := TX4) (N := 9) tyX4_ok nmX4 rfl 8 (by decide) q_f_4_32 rfl rfl rfl (Nat.le_of_ble_eq_true rfl) dX4_link_48 (fun H locs ct_1 hW hk_2 hg_3 hz hS => ?_)
  have hsz := hz.trans hsz
  have h_4 := (hg_3 1 (by decide)).trans h1
  have h_5 := (hg_3 2 (by decide)).trans h2
  have h_6 := (hg_3 3 (by decide)).trans h3
  have h_7 := (hg_3 4 (by decide)).trans h4
  have h_8 := (hg_3 5 (by decide)).trans h5
  have h_9 := (hg_3 6 (by decide)).trans h6
  have h_10 := (hg_3 7 (by decide)).trans h7
  have h_11 := (hg_3 (100 + 2 * i) (by omega)).trans hd_i
  have h_12 := (hg_3 (101 + 2 * y) (by omega)).trans hl_y
  have h_13 : ct_1 0 = some (.inr (4, [.ref (ad 1), .ref (ad 2), .ref (ad 6), .ref (ad 7), .int (nI n), .int (nI L.1), .int K.2.1, .int K.2.2, .int 0])) := hk_2
  refine lv_aload_n hx hb dX4_link_51 rfl (lv_at hl 1 rfl) ?_
  refine hr_new S hE hW hS (101 + 2 * L.1) (hadk.trans hsz.symm) (hw_z hW h_13) inX2 (ci := 2) (C := RX2) (T := TX2) (N := 2) tyX2_ok rfl q_cl_4_66 q_ia_2 q_in_2 (fs := [.null, .null]) (fun j hj => by rcases (show j = 0 ∨ j = 1 by omega) with rfl | rfl <;> rfl) (Nat.le_of_ble_eq_true rfl) (Nat.le_of_ble_eq_true rfl) dX4_link_52 (fun H ct_14 hW hk_15 hg_16 hz hS => ?_)
  have hsz := hz.trans (congrArg (· + 1) hsz)
  have h_17 := (hg_16 1 (by omega)).trans h_4
  have h_18 := (hg_16 2 (by omega)).trans h_5
  have h_19 := (hg_16 3 (by omega)).trans h_6
  have h_20 := (hg_16 4 (by omega)).trans h_7
  have h_21 := (hg_16 5 (by omega)).trans h_8
  have h_22 := (hg_16 6 (by omega)).trans h_9
  have h_23 := (hg_16 7 (by omega)).trans h_10
  have h_24 := (hg_16 (100 + 2 * i) (by omega)).trans h_11
  have h_25 := (hg_16 (101 + 2 * y) (by omega)).trans h_12
  have h_26 := (hg_16 0 (by omega)).trans h_13
  have h_27 : ct_14 (101 + 2 * L.1) = some (.inr (2, [.null, .null])) := hk_15
  refine lv_dup hx hb dX4_link_55 rfl ?_
  refine lv_aload hx hb dX4_link_56 (lv_at hl 0 rfl) ?_
  refine hc_zv (va_runIN (As := [.ref (ad (100 + 2 * i))]) (rest := [.ref (ad (101 + 2 * L.1)), .ref (ad (100 + 2 * i))]) S (c_X2_init l G ad _ (k := 101 + 2 * L.1) (j := 100 + 2 * i) h_27) ⟨va_cnB 1 hts (gWS q_co_X2_init) rfl rfl rfl (hE.nest 25 rfl) (hts _ q_in_2) (by decide +kernel) ⟨Nat.le_of_ble_eq_true rfl, Nat.le_of_ble_eq_true rfl⟩, rfl, hts _ q_im_X2_init⟩ (hPreSz hE hS hW hsz) rfl rfl hl.1 rfl (lv_room (Nat.le_of_ble_eq_true rfl)) dX4_link_58 ⟨Nat.le_of_ble_eq_true rfl, Nat.le_of_ble_eq_true rfl⟩) hS (fun ct_28 H locs hp hW hsz hS => ?_)
  obtain ⟨h_29, hg_30⟩ := hp
  have h_31 := (hg_30 1 (by omega)).trans h_17
  have h_32 := (hg_30 2 (by omega)).trans h_18
  have h_33 := (hg_30 3 (by omega)).trans h_19
  have h_34 := (hg_30 4 (by omega)).trans h_20
  have h_35 := (hg_30 5 (by omega)).trans h_21
  have h_36 := (hg_30 6 (by omega)).trans h_22
  have h_37 := (hg_30 7 (by omega)).trans h_23
  have h_38 := (hg_30 (100 + 2 * i) (by omega)).trans h_24
  have h_39 := (hg_30 (101 + 2 * y) (by omega)).trans h_25
  have h_40 := (hg_30 0 (by omega)).trans h_26
  refine hc_v (va_runVN (As := [.ref (ad (101 + 2 * L.1))]) (rest := []) S (c_X0_addLink_s l G ad _ (k := 100 + 2 * i) (z := 101 + 2 * L.1) (w := 101 + 2 * y) (by omega) h_38 h_39) ⟨va_cnB 1 hts (gWS q_co_X0_addLink) rfl rfl rfl (hE.nest 26 rfl) (hts _ q_in_0) (by decide +kernel) ⟨Nat.le_of_ble_eq_true rfl, Nat.le_of_ble_eq_true rfl⟩, hts _ q_im_X0_addLink, hts _ q_se_X0_addLink⟩ (hPreVw hE hS (hrecv hE hW h_38 (q := (RX0, TX0, 13)) rfl) hW) rfl rfl hl.1 rfl (lv_room (Nat.le_of_ble_eq_true rfl)) dX4_link_61 ⟨Nat.le_of_ble_eq_true rfl, Nat.le_of_ble_eq_true rfl⟩) hS (fun ct_41 H locs hp hW hS => ?_)
  obtain ⟨h_42, h_43, hg_44⟩ := hp
  have h_45 := (hg_44 (101 + 2 * L.1) (by omega) (by omega)).trans h_29
  have h_46 := (hg_44 1 (by omega) (by omega)).trans h_31
  have h_47 := (hg_44 2 (by omega) (by omega)).trans h_32
  have h_48 := (hg_44 3 (by omega) (by omega)).trans h_33
  have h_49 := (hg_44 4 (by omega) (by omega)).trans h_34
  have h_50 := (hg_44 5 (by omega) (by omega)).trans h_35
  have h_51 := (hg_44 6 (by omega) (by omega)).trans h_36
  have h_52 := (hg_44 7 (by omega) (by omega)).trans h_37
  have h_53 := (hg_44 0 (by omega) (by omega)).trans h_40
  refine lv_aload hx hb dX4_link_64 (lv_at hl 0 rfl) ?_
  refine lv_dup hx hb dX4_link_66 rfl ?_
  refine hr_getN S hE hW h_42 inX0 (C := RX0) (T := TX0) (N := 13) rfl 9 (by decide) (hE.nest 2 rfl) rfl dX4_link_67 ?_
  refine lv_iconst (v := 1) hx hb dX4_link_70 (by decide) ?_
  refine lv_iadd hx hb dX4_link_71 ?_
  refine hr_putN S hE hW hS h_42 inX0 (C := RX0) (T := TX0) (N := 13) tyX0_ok nmX0 rfl 9 (by decide) (hE.nest 2 rfl) rfl rfl rfl (Nat.le_of_ble_eq_true rfl) dX4_link_72 (fun H locs ct_54 hW hk_55 hg_56 hz hS => ?_)
  have h_57 := (hg_56 (101 + 2 * y) (by omega)).trans h_43
  have h_58 := (hg_56 (101 + 2 * L.1) (by omega)).trans h_45
  have h_59 := (hg_56 1 (by omega)).trans h_46
  have h_60 := (hg_56 2 (by omega)).trans h_47
  have h_61 := (hg_56 3 (by omega)).trans h_48
  have h_62 := (hg_56 4 (by omega)).trans h_49
  have h_63 := (hg_56 5 (by omega)).trans h_50
  have h_64 := (hg_56 6 (by omega)).trans h_51
  have h_65 := (hg_56 7 (by omega)).trans h_52
  have h_66 := (hg_56 0 (by omega)).trans h_53
  have h_67 : ct_54 (100 + 2 * i) = some (.inr (0, [.ref (ad 1), .ref (ad 2), .int (ty i), .int (takActF (ty i)), .int (A.1 i), .int (A.2.1 i), va_rf (lkF ad (geL L.2.1 i L.1 0)), .ref (ad (101 + 2 * L.1)), .int ((nI (cntL L.2.1 i L.1)) + 1), .int ((nI (cntL L.2.2 i L.1)) + 1), .int (T.1 i), .int (T.2.1 i), .int (T.2.2 i)])) := hk_55
  refine lv_aload_n hx hb dX4_link_75 rfl (lv_at hl 2 rfl) ?_
  refine hr_get S hE hW h_66 inX4 (C := RX4) (T := TX4) (N := 9) rfl 5 (by decide) q_f_4_63 rfl dX4_link_76 ?_
  refine lv_istore (lv' := [(5, .int (nI L.1)), (4, .ref (ad (100 + 2 * i))), (3, .ref (ad (100 + 2 * i))), (0, .ref (ad 0)), (1, .int (nI i)), (2, .int (nI i))]) hx hb dX4_link_79 hl (by decide) rfl (fun ls hl => ?_)
  refine lv_aload_n hx hb dX4_link_81 rfl (lv_at hl 3 rfl) ?_
  refine lv_dup hx hb dX4_link_82 rfl ?_
  refine hr_get S hE hW h_66 inX4 (C := RX4) (T := TX4) (N := 9) rfl 5 (by decide) q_f_4_63 rfl dX4_link_83 ?_
  refine lv_iconst (v := 1) hx hb dX4_link_86 (by decide) ?_
  refine lv_iadd hx hb dX4_link_87 ?_
  rw [nI_1]
  refine hr_put S hE hW hS h_66 inX4 (C := RX4) (T := TX4) (N := 9) tyX4_ok nmX4 rfl 5 (by decide) q_f_4_63 rfl rfl rfl (Nat.le_of_ble_eq_true rfl) dX4_link_88 (fun H locs ct_68 hW hk_69 hg_70 hz hS => ?_)
  have h_71 := (hg_70 (101 + 2 * y) (by omega)).trans h_57
  have h_72 := (hg_70 (101 + 2 * L.1) (by omega)).trans h_58
  have h_73 := (hg_70 1 (by decide)).trans h_59
  have h_74 := (hg_70 2 (by decide)).trans h_60
  have h_75 := (hg_70 3 (by decide)).trans h_61
  have h_76 := (hg_70 4 (by decide)).trans h_62
  have h_77 := (hg_70 5 (by decide)).trans h_63
  have h_78 := (hg_70 6 (by decide)).trans h_64
  have h_79 := (hg_70 7 (by decide)).trans h_65
  have h_80 := (hg_70 (100 + 2 * i) (by omega)).trans h_67
  have h_81 : ct_68 0 = some (.inr (4, [.ref (ad 1), .ref (ad 2), .ref (ad 6), .ref (ad 7), .int (nI n), .int (nI (L.1 + 1)), .int K.2.1, .int K.2.2, .int 0])) := hk_69
  refine lv_iload hx hb dX4_link_91 (lv_at hl 0 rfl) ?_
  exact h_iret S hr hlk hS hW dX4_link_93 ⟨rfl, RC_link hR hi hi hm4 h_81
     (fun d _ hor => by
      rcases hor with e | e
      · subst e; exact (h_80.trans (congrArg (fun x => some (Sum.inr (0, x))) (DC_es hlo).symm))
      · subst e; exact (h_80.trans (congrArg (fun x => some (Sum.inr (0, x))) (DC_es hlo).symm)))
     (fun x _ hor => by
      rcases hor with e | e
      · subst e; exact (by rw [nl_nxm, show (newL L i i).2.2 L.1 = i from va_up_self _ _ _]; exact h_72)
      · have e2 : x = y := Option.some.inj (e.symm.trans hlo)
        rw [e2]; exact (by rw [nl_nxl hlo, show (newL L i i).2.2 y = L.2.2 y from up_lt hy]; exact h_71))
     (fun z q0 qi qi2 qm qy => (fun j q0 q1 q2 q3 => (hg_70 j q0).trans ((hg_56 j q1).trans ((hg_44 j q1 q3).trans ((hg_30 j q2).trans ((hg_16 j q2).trans (hg_3 j q0)))))) z q0 qi qm (qy y hlo))⟩
set_option maxRecDepth 100000 in
set_option maxHeartbeats 4000000 in
theorem c_X4_link_a (l : Launch) (G : hG) (ad : Nat → Nat) (ct : Nat → Option va_E) {fr : Nat → Option va_E} {n : Nat} {ty : Nat → Int32} {A : AS} {T : TS} {L : LS4} {K : KS} {st0 : Int32} (hR : RC fr G ad ct n ty A T L K st0) {N : Nat} {d b0 : Int32} (hd : ∀ i, i < n → d ≠ nI i) (hb1 : ∀ i, i < n → b0 ≠ nI i)  : Met l yX4_link wzX4_link { frames := 1, cells := 1, slots := 2, locals := 21 } (hPz [.ref (ad 0), .int d, .int b0] G ad ct N) (hQi (fun r ct1 => r = -1 ∧ RC fr G ad ct1 n ty A T L K 1) G ad) 1 2 (hA G.2.2.2) := by
  refine hMetz (by decide) (Nat.le_of_ble_eq_true rfl) (fun p e s m below meth c ls S hr hlk hin hE hW hsz hl => ?_)
  obtain ⟨hx, hb, hml, hown, hts⟩ := id S
  have hS : va_S (hA G.2.2.2) s.heap s.heap [] := va_S.rf
  have hl : lv_has ls 6 [(0, .ref (ad 0)), (1, .int d), (2, .int b0)] := hl
  obtain ⟨h0, h1, h2, h3, h4, h5, h6, h7, hdv, hlks, hfr, hn300, hm400, hft, hty⟩ := id hR
  refine lv_aload_n hx hb dX4_link_0 rfl (lv_at hl 0 rfl) ?_
  refine lv_iload_n hx hb dX4_link_1 rfl (lv_at hl 1 rfl) ?_
  refine hc_rq (va_runV (As := [.int d]) (rest := []) S (c_X4_find l G _ hW h0 h6 d) (cwV 1 hts (gWSV q_l_4_42 q_im_X4_find q_se_X4_find q_in_4 q_co_X4_find) rfl rfl rfl (by decide +kernel) ⟨Nat.le_of_ble_eq_true rfl, Nat.le_of_ble_eq_true rfl⟩) (hPreVr hE hS (hrecv hE hW h0 (q := (RX4, TX4, 9)) rfl)) rfl rfl hl.1 rfl (lv_room (Nat.le_of_ble_eq_true rfl)) dX4_link_2 ⟨Nat.le_of_ble_eq_true rfl, Nat.le_of_ble_eq_true rfl⟩) hS (fun locs hS => ?_)
  rw [findF_no hn300 hd, va_rf_n]
  refine lv_astore_nN (lv' := [(3, .null), (0, .ref (ad 0)), (1, .int d), (2, .int b0)]) hx hb dX4_link_5 rfl hl (by decide) rfl (fun ls hl => ?_)
  refine lv_aload_n hx hb dX4_link_6 rfl (lv_at hl 1 rfl) ?_
  refine lv_iload_n hx hb dX4_link_7 rfl (lv_at hl 3 rfl) ?_
  refine hc_rq (va_runV (As := [.int b0]) (rest := []) S (c_X4_find l G _ hW h0 h6 b0) (cwV 1 hts (gWSV q_l_4_42 q_im_X4_find q_se_X4_find q_in_4 q_co_X4_find) rfl rfl rfl (by decide +kernel) ⟨Nat.le_of_ble_eq_true rfl, Nat.le_of_ble_eq_true rfl⟩) (hPreVr hE hS (hrecv hE hW h0 (q := (RX4, TX4, 9)) rfl)) rfl rfl hl.1 rfl (lv_room (Nat.le_of_ble_eq_true rfl)) dX4_link_8 ⟨Nat.le_of_ble_eq_true rfl, Nat.le_of_ble_eq_true rfl⟩) hS (fun locs hS => ?_)
  rw [findF_no hn300 hb1, va_rf_n]
  refine lv_astoreN (lv' := [(4, .null), (3, .null), (0, .ref (ad 0)), (1, .int d), (2, .int b0)]) hx hb dX4_link_11 hl (by decide) rfl (fun ls hl => ?_)
  refine lv_aload_nN hx hb dX4_link_13 rfl (lv_at hl 1 rfl) ?_
  refine lv_ifnullN (tgt := 22) hx hb dX4_link_14 (by decide) ?_
  refine lv_aload_n hx hb dX4_link_22 rfl (lv_at hl 2 rfl) ?_
  refine lv_iconst (v := 1) hx hb dX4_link_23 (by decide) ?_
  refine hr_put S hE hW hS h0 inX4 (C := RX4) (T := TX4) (N := 9) tyX4_ok nmX4 rfl 8 (by decide) q_f_4_32 rfl rfl rfl (Nat.le_of_ble_eq_true rfl) dX4_link_24 (fun H locs ct_1 hW hk_2 hg_3 hz hS => ?_)
  have hR := RC_o hR hk_2 hg_3
  obtain ⟨h0, h1, h2, h3, h4, h5, h6, h7, hdv, hlks, hfr, hn300, hm400, hft, hty⟩ := id hR
  refine lv_iconst (v := (-1)) hx hb dX4_link_27 (by decide) ?_
  refine W.widen (k := 1) (n := 2) (by omega) (by omega) ?_
  exact h_iret S hr hlk hS hW dX4_link_28 ⟨rfl, hR⟩
set_option maxRecDepth 100000 in
set_option maxHeartbeats 4000000 in
theorem c_X4_link_b (l : Launch) (G : hG) (ad : Nat → Nat) (ct : Nat → Option va_E) {fr : Nat → Option va_E} {n : Nat} {ty : Nat → Int32} {A : AS} {T : TS} {L : LS4} {K : KS} {st0 : Int32} (hR : RC fr G ad ct n ty A T L K st0) {N : Nat} {d : Int32} (hd : ∀ i, i < n → d ≠ nI i) {j : Nat} (hj : j < n)  : Met l yX4_link wzX4_link { frames := 1, cells := 1, slots := 2, locals := 21 } (hPz [.ref (ad 0), .int d, .int (nI j)] G ad ct N) (hQi (fun r ct1 => r = -1 ∧ RC fr G ad ct1 n ty A T L K 1) G ad) 1 2 (hA G.2.2.2) := by
  refine hMetz (by decide) (Nat.le_of_ble_eq_true rfl) (fun p e s m below meth c ls S hr hlk hin hE hW hsz hl => ?_)
  obtain ⟨hx, hb, hml, hown, hts⟩ := id S
  have hS : va_S (hA G.2.2.2) s.heap s.heap [] := va_S.rf
  have hl : lv_has ls 6 [(0, .ref (ad 0)), (1, .int d), (2, .int (nI j))] := hl
  obtain ⟨h0, h1, h2, h3, h4, h5, h6, h7, hdv, hlks, hfr, hn300, hm400, hft, hty⟩ := id hR
  refine lv_aload_n hx hb dX4_link_0 rfl (lv_at hl 0 rfl) ?_
  refine lv_iload_n hx hb dX4_link_1 rfl (lv_at hl 1 rfl) ?_
  refine hc_rq (va_runV (As := [.int d]) (rest := []) S (c_X4_find l G _ hW h0 h6 d) (cwV 1 hts (gWSV q_l_4_42 q_im_X4_find q_se_X4_find q_in_4 q_co_X4_find) rfl rfl rfl (by decide +kernel) ⟨Nat.le_of_ble_eq_true rfl, Nat.le_of_ble_eq_true rfl⟩) (hPreVr hE hS (hrecv hE hW h0 (q := (RX4, TX4, 9)) rfl)) rfl rfl hl.1 rfl (lv_room (Nat.le_of_ble_eq_true rfl)) dX4_link_2 ⟨Nat.le_of_ble_eq_true rfl, Nat.le_of_ble_eq_true rfl⟩) hS (fun locs hS => ?_)
  rw [findF_no hn300 hd, va_rf_n]
  refine lv_astore_nN (lv' := [(3, .null), (0, .ref (ad 0)), (1, .int d), (2, .int (nI j))]) hx hb dX4_link_5 rfl hl (by decide) rfl (fun ls hl => ?_)
  refine lv_aload_n hx hb dX4_link_6 rfl (lv_at hl 1 rfl) ?_
  refine lv_iload_n hx hb dX4_link_7 rfl (lv_at hl 3 rfl) ?_
  refine hc_rq (va_runV (As := [.int (nI j)]) (rest := []) S (c_X4_find l G _ hW h0 h6 (nI j)) (cwV 1 hts (gWSV q_l_4_42 q_im_X4_find q_se_X4_find q_in_4 q_co_X4_find) rfl rfl rfl (by decide +kernel) ⟨Nat.le_of_ble_eq_true rfl, Nat.le_of_ble_eq_true rfl⟩) (hPreVr hE hS (hrecv hE hW h0 (q := (RX4, TX4, 9)) rfl)) rfl rfl hl.1 rfl (lv_room (Nat.le_of_ble_eq_true rfl)) dX4_link_8 ⟨Nat.le_of_ble_eq_true rfl, Nat.le_of_ble_eq_true rfl⟩) hS (fun locs hS => ?_)
  rw [findF_ok hn300 hj, va_rf_s]
  refine lv_astore (lv' := [(4, .ref (ad (100 + 2 * j))), (3, .null), (0, .ref (ad 0)), (1, .int d), (2, .int (nI j))]) hx hb dX4_link_11 hl (by decide) rfl (fun ls hl => ?_)
  refine lv_aload_nN hx hb dX4_link_13 rfl (lv_at hl 1 rfl) ?_
  refine lv_ifnullN (tgt := 22) hx hb dX4_link_14 (by decide) ?_
  refine lv_aload_n hx hb dX4_link_22 rfl (lv_at hl 2 rfl) ?_
  refine lv_iconst (v := 1) hx hb dX4_link_23 (by decide) ?_
  refine hr_put S hE hW hS h0 inX4 (C := RX4) (T := TX4) (N := 9) tyX4_ok nmX4 rfl 8 (by decide) q_f_4_32 rfl rfl rfl (Nat.le_of_ble_eq_true rfl) dX4_link_24 (fun H locs ct_1 hW hk_2 hg_3 hz hS => ?_)
  have hR := RC_o hR hk_2 hg_3
  obtain ⟨h0, h1, h2, h3, h4, h5, h6, h7, hdv, hlks, hfr, hn300, hm400, hft, hty⟩ := id hR
  refine lv_iconst (v := (-1)) hx hb dX4_link_27 (by decide) ?_
  refine W.widen (k := 1) (n := 2) (by omega) (by omega) ?_
  exact h_iret S hr hlk hS hW dX4_link_28 ⟨rfl, hR⟩
set_option maxRecDepth 100000 in
set_option maxHeartbeats 4000000 in
theorem c_X4_link_c (l : Launch) (G : hG) (ad : Nat → Nat) (ct : Nat → Option va_E) {fr : Nat → Option va_E} {n : Nat} {ty : Nat → Int32} {A : AS} {T : TS} {L : LS4} {K : KS} {st0 : Int32} (hR : RC fr G ad ct n ty A T L K st0) {N : Nat} {i : Nat} (hi : i < n) {d : Int32} (hd : ∀ i, i < n → d ≠ nI i)  : Met l yX4_link wzX4_link { frames := 1, cells := 1, slots := 2, locals := 21 } (hPz [.ref (ad 0), .int (nI i), .int d] G ad ct N) (hQi (fun r ct1 => r = -1 ∧ RC fr G ad ct1 n ty A T L K 1) G ad) 1 2 (hA G.2.2.2) := by
  refine hMetz (by decide) (Nat.le_of_ble_eq_true rfl) (fun p e s m below meth c ls S hr hlk hin hE hW hsz hl => ?_)
  obtain ⟨hx, hb, hml, hown, hts⟩ := id S
  have hS : va_S (hA G.2.2.2) s.heap s.heap [] := va_S.rf
  have hl : lv_has ls 6 [(0, .ref (ad 0)), (1, .int (nI i)), (2, .int d)] := hl
  obtain ⟨h0, h1, h2, h3, h4, h5, h6, h7, hdv, hlks, hfr, hn300, hm400, hft, hty⟩ := id hR
  refine lv_aload_n hx hb dX4_link_0 rfl (lv_at hl 0 rfl) ?_
  refine lv_iload_n hx hb dX4_link_1 rfl (lv_at hl 1 rfl) ?_
  refine hc_rq (va_runV (As := [.int (nI i)]) (rest := []) S (c_X4_find l G _ hW h0 h6 (nI i)) (cwV 1 hts (gWSV q_l_4_42 q_im_X4_find q_se_X4_find q_in_4 q_co_X4_find) rfl rfl rfl (by decide +kernel) ⟨Nat.le_of_ble_eq_true rfl, Nat.le_of_ble_eq_true rfl⟩) (hPreVr hE hS (hrecv hE hW h0 (q := (RX4, TX4, 9)) rfl)) rfl rfl hl.1 rfl (lv_room (Nat.le_of_ble_eq_true rfl)) dX4_link_2 ⟨Nat.le_of_ble_eq_true rfl, Nat.le_of_ble_eq_true rfl⟩) hS (fun locs hS => ?_)
  rw [findF_ok hn300 hi, va_rf_s]
  refine lv_astore_n (lv' := [(3, .ref (ad (100 + 2 * i))), (0, .ref (ad 0)), (1, .int (nI i)), (2, .int d)]) hx hb dX4_link_5 rfl hl (by decide) rfl (fun ls hl => ?_)
  refine lv_aload_n hx hb dX4_link_6 rfl (lv_at hl 1 rfl) ?_
  refine lv_iload_n hx hb dX4_link_7 rfl (lv_at hl 3 rfl) ?_
  refine hc_rq (va_runV (As := [.int d]) (rest := []) S (c_X4_find l G _ hW h0 h6 d) (cwV 1 hts (gWSV q_l_4_42 q_im_X4_find q_se_X4_find q_in_4 q_co_X4_find) rfl rfl rfl (by decide +kernel) ⟨Nat.le_of_ble_eq_true rfl, Nat.le_of_ble_eq_true rfl⟩) (hPreVr hE hS (hrecv hE hW h0 (q := (RX4, TX4, 9)) rfl)) rfl rfl hl.1 rfl (lv_room (Nat.le_of_ble_eq_true rfl)) dX4_link_8 ⟨Nat.le_of_ble_eq_true rfl, Nat.le_of_ble_eq_true rfl⟩) hS (fun locs hS => ?_)
  rw [findF_no hn300 hd, va_rf_n]
  refine lv_astoreN (lv' := [(4, .null), (3, .ref (ad (100 + 2 * i))), (0, .ref (ad 0)), (1, .int (nI i)), (2, .int d)]) hx hb dX4_link_11 hl (by decide) rfl (fun ls hl => ?_)
  refine lv_aload_n hx hb dX4_link_13 rfl (lv_at hl 1 rfl) ?_
  refine lv_ifnull hx hb dX4_link_14 ?_
  refine lv_aloadN hx hb dX4_link_17 (lv_at hl 0 rfl) ?_
  refine lv_ifnonnullN hx hb dX4_link_19 ?_
  refine lv_aload_n hx hb dX4_link_22 rfl (lv_at hl 2 rfl) ?_
  refine lv_iconst (v := 1) hx hb dX4_link_23 (by decide) ?_
  refine hr_put S hE hW hS h0 inX4 (C := RX4) (T := TX4) (N := 9) tyX4_ok nmX4 rfl 8 (by decide) q_f_4_32 rfl rfl rfl (Nat.le_of_ble_eq_true rfl) dX4_link_24 (fun H locs ct_1 hW hk_2 hg_3 hz hS => ?_)
  have hR := RC_o hR hk_2 hg_3
  obtain ⟨h0, h1, h2, h3, h4, h5, h6, h7, hdv, hlks, hfr, hn300, hm400, hft, hty⟩ := id hR
  refine lv_iconst (v := (-1)) hx hb dX4_link_27 (by decide) ?_
  refine W.widen (k := 1) (n := 2) (by omega) (by omega) ?_
  exact h_iret S hr hlk hS hW dX4_link_28 ⟨rfl, hR⟩
set_option maxRecDepth 100000 in
set_option maxHeartbeats 4000000 in
theorem c_X4_link_f (l : Launch) (G : hG) (ad : Nat → Nat) (ct : Nat → Option va_E) {fr : Nat → Option va_E} {n : Nat} {ty : Nat → Int32} {A : AS} {T : TS} {L : LS4} {K : KS} {st0 : Int32} (hR : RC fr G ad ct n ty A T L K st0) {N : Nat} {i j : Nat} (hi : i < n) (hj : j < n) (hm4 : ¬ L.1 < 400)  : Met l yX4_link wzX4_link { frames := 1, cells := 1, slots := 2, locals := 21 } (hPz [.ref (ad 0), .int (nI i), .int (nI j)] G ad ct N) (hQi (fun r ct1 => r = -1 ∧ RC fr G ad ct1 n ty A T L K 5) G ad) 1 2 (hA G.2.2.2) := by
  refine hMetz (by decide) (Nat.le_of_ble_eq_true rfl) (fun p e s m below meth c ls S hr hlk hin hE hW hsz hl => ?_)
  obtain ⟨hx, hb, hml, hown, hts⟩ := id S
  have hS : va_S (hA G.2.2.2) s.heap s.heap [] := va_S.rf
  have hl : lv_has ls 6 [(0, .ref (ad 0)), (1, .int (nI i)), (2, .int (nI j))] := hl
  obtain ⟨h0, h1, h2, h3, h4, h5, h6, h7, hdv, hlks, hfr, hn300, hm400, hft, hty⟩ := id hR
  refine lv_aload_n hx hb dX4_link_0 rfl (lv_at hl 0 rfl) ?_
  refine lv_iload_n hx hb dX4_link_1 rfl (lv_at hl 1 rfl) ?_
  refine hc_rq (va_runV (As := [.int (nI i)]) (rest := []) S (c_X4_find l G _ hW h0 h6 (nI i)) (cwV 1 hts (gWSV q_l_4_42 q_im_X4_find q_se_X4_find q_in_4 q_co_X4_find) rfl rfl rfl (by decide +kernel) ⟨Nat.le_of_ble_eq_true rfl, Nat.le_of_ble_eq_true rfl⟩) (hPreVr hE hS (hrecv hE hW h0 (q := (RX4, TX4, 9)) rfl)) rfl rfl hl.1 rfl (lv_room (Nat.le_of_ble_eq_true rfl)) dX4_link_2 ⟨Nat.le_of_ble_eq_true rfl, Nat.le_of_ble_eq_true rfl⟩) hS (fun locs hS => ?_)
  rw [findF_ok hn300 hi, va_rf_s]
  refine lv_astore_n (lv' := [(3, .ref (ad (100 + 2 * i))), (0, .ref (ad 0)), (1, .int (nI i)), (2, .int (nI j))]) hx hb dX4_link_5 rfl hl (by decide) rfl (fun ls hl => ?_)
  refine lv_aload_n hx hb dX4_link_6 rfl (lv_at hl 1 rfl) ?_
  refine lv_iload_n hx hb dX4_link_7 rfl (lv_at hl 3 rfl) ?_
  refine hc_rq (va_runV (As := [.int (nI j)]) (rest := []) S (c_X4_find l G _ hW h0 h6 (nI j)) (cwV 1 hts (gWSV q_l_4_42 q_im_X4_find q_se_X4_find q_in_4 q_co_X4_find) rfl rfl rfl (by decide +kernel) ⟨Nat.le_of_ble_eq_true rfl, Nat.le_of_ble_eq_true rfl⟩) (hPreVr hE hS (hrecv hE hW h0 (q := (RX4, TX4, 9)) rfl)) rfl rfl hl.1 rfl (lv_room (Nat.le_of_ble_eq_true rfl)) dX4_link_8 ⟨Nat.le_of_ble_eq_true rfl, Nat.le_of_ble_eq_true rfl⟩) hS (fun locs hS => ?_)
  rw [findF_ok hn300 hj, va_rf_s]
  refine lv_astore (lv' := [(4, .ref (ad (100 + 2 * j))), (3, .ref (ad (100 + 2 * i))), (0, .ref (ad 0)), (1, .int (nI i)), (2, .int (nI j))]) hx hb dX4_link_11 hl (by decide) rfl (fun ls hl => ?_)
  refine lv_aload_n hx hb dX4_link_13 rfl (lv_at hl 1 rfl) ?_
  refine lv_ifnull hx hb dX4_link_14 ?_
  refine lv_aload hx hb dX4_link_17 (lv_at hl 0 rfl) ?_
  refine lv_ifnonnull (tgt := 29) hx hb dX4_link_19 (by decide) ?_
  refine lv_aload_n hx hb dX4_link_29 rfl (lv_at hl 2 rfl) ?_
  refine hr_get S hE hW h0 inX4 (C := RX4) (T := TX4) (N := 9) rfl 5 (by decide) q_f_4_63 rfl dX4_link_30 ?_
  refine lv_sipush (v := 400) hx hb dX4_link_33 (by decide) ?_
  refine lv_icmp_lt (tgt := 46) hx hb dX4_link_36 (by decide) (fun q => absurd q (show ¬ nI L.1 < 400 from nI_nlt (a := L.1) (b := 400) (by omega) (by omega))) (fun _ => ?_)
  refine lv_aload_n hx hb dX4_link_39 rfl (lv_at hl 2 rfl) ?_
  refine lv_iconst (v := 5) hx hb dX4_link_40 (by decide) ?_
  refine hr_put S hE hW hS h0 inX4 (C := RX4) (T := TX4) (N := 9) tyX4_ok nmX4 rfl 8 (by decide) q_f_4_32 rfl rfl rfl (Nat.le_of_ble_eq_true rfl) dX4_link_41 (fun H locs ct_1 hW hk_2 hg_3 hz hS => ?_)
  have hR := RC_o hR hk_2 hg_3
  obtain ⟨h0, h1, h2, h3, h4, h5, h6, h7, hdv, hlks, hfr, hn300, hm400, hft, hty⟩ := id hR
  refine lv_iconst (v := (-1)) hx hb dX4_link_44 (by decide) ?_
  refine W.widen (k := 1) (n := 2) (by omega) (by omega) ?_
  exact h_iret S hr hlk hS hW dX4_link_45 ⟨rfl, hR⟩
set_option maxRecDepth 100000 in
set_option maxHeartbeats 4000000 in
theorem c_X0_init (l : Launch) (G : hG) (ad : Nat → Nat) (ct : Nat → Option va_E) {k N : Nat} (hk100 : 100 ≤ k) (hk : ct k = some (.inr (0, [.null, .null, .int 0, .int 0, .int 0, .int 0, .null, .null, .int 0, .int 0, .int 0, .int 0, .int 0]))) (h1 : ct 1 = some (.inr (1, [.ref (ad 4), .ref (ad 5)]))) (h4 : ct 4 = some (.inl (G.2.1.1, 18, .inl borT))) (kd v : Int32)  : Met l yX0_init wzX0_init { frames := 3, cells := 0, slots := 0, locals := 64 } (hPz [.ref (ad k), .ref (ad 1), .ref (ad 2), .int kd, .int v] G ad ct N) (hQzv (fun ct1 => ct1 k = some (.inr (0, [.ref (ad 1), .ref (ad 2), .int (7 + kd), .int (takActF (7 + kd)), .int v, .int 0, .null, .null, .int 0, .int 0, .int 0, .int 0, .int 0])) ∧ ∀ y, y ≠ k → ct1 y = ct y) G ad N) 0 0 (hA G.2.2.2) := by
  refine hMetz (by decide) (Nat.le_of_ble_eq_true rfl) (fun p e s m below meth c ls S hr hlk hin hE hW hsz hl => ?_)
  obtain ⟨hx, hb, hml, hown, hts⟩ := id S
  have hS : va_S (hA G.2.2.2) s.heap s.heap [] := va_S.rf
  have hl : lv_has ls 5 [(0, .ref (ad k)), (1, .ref (ad 1)), (2, .ref (ad 2)), (3, .int kd), (4, .int v)] := hl
  refine lv_aload_n hx hb dX0_init_0 rfl (lv_at hl 0 rfl) ?_
  refine W.objInit hx hb hown (hts _ q_l_0_3) (hts _ q_im_O) (hts _ q_co_O) rfl (by rw [hml]; exact hl.1) rfl dX0_init_1 (Nat.le_of_ble_eq_true rfl) (Nat.le_of_ble_eq_true rfl) ?_
  refine W.eq (g2 := F0 m 4 ls []) rfl ?_
  refine lv_aload_n hx hb dX0_init_4 rfl (lv_at hl 0 rfl) ?_
  refine lv_aload_n hx hb dX0_init_5 rfl (lv_at hl 1 rfl) ?_
  refine hr_putF S hE hW hS hk inX0 (C := RX0) (T := TX0) (N := 13) tyX0_ok nmX0 rfl 0 (by decide) q_f_0_9 rfl (hin rfl) rfl rfl rfl (Nat.le_of_ble_eq_true rfl) dX0_init_6 (fun H locs ct_1 hW hk_2 hg_3 hz hS => ?_)
  have hsz := hz.trans hsz
  have h_4 := (hg_3 1 (by omega)).trans h1
  have h_5 := (hg_3 4 (by omega)).trans h4
  have h_6 : ct_1 k = some (.inr (0, [.ref (ad 1), .null, .int 0, .int 0, .int 0, .int 0, .null, .null, .int 0, .int 0, .int 0, .int 0, .int 0])) := hk_2
  refine lv_aload_n hx hb dX0_init_9 rfl (lv_at hl 0 rfl) ?_
  refine lv_aload_n hx hb dX0_init_10 rfl (lv_at hl 2 rfl) ?_
  refine hr_putF S hE hW hS h_6 inX0 (C := RX0) (T := TX0) (N := 13) tyX0_ok nmX0 rfl 1 (by decide) q_f_0_15 rfl (hin rfl) rfl rfl rfl (Nat.le_of_ble_eq_true rfl) dX0_init_11 (fun H locs ct_7 hW hk_8 hg_9 hz hS => ?_)
  have hsz := hz.trans hsz
  have h_10 := (hg_9 1 (by omega)).trans h_4
  have h_11 := (hg_9 4 (by omega)).trans h_5
  have h_12 : ct_7 k = some (.inr (0, [.ref (ad 1), .ref (ad 2), .int 0, .int 0, .int 0, .int 0, .null, .null, .int 0, .int 0, .int 0, .int 0, .int 0])) := hk_8
  refine lv_aload_n hx hb dX0_init_14 rfl (lv_at hl 0 rfl) ?_
  refine lv_bipush (v := 7) hx hb dX0_init_15 (by decide) ?_
  refine lv_iload_n hx hb dX0_init_17 rfl (lv_at hl 3 rfl) ?_
  refine lv_iadd hx hb dX0_init_18 ?_
  refine hr_putF S hE hW hS h_12 inX0 (C := RX0) (T := TX0) (N := 13) tyX0_ok nmX0 rfl 2 (by decide) q_f_0_19 rfl (hin rfl) rfl rfl rfl (Nat.le_of_ble_eq_true rfl) dX0_init_19 (fun H locs ct_13 hW hk_14 hg_15 hz hS => ?_)
  have hsz := hz.trans hsz
  have h_16 := (hg_15 1 (by omega)).trans h_10
  have h_17 := (hg_15 4 (by omega)).trans h_11
  have h_18 : ct_13 k = some (.inr (0, [.ref (ad 1), .ref (ad 2), .int (7 + kd), .int 0, .int 0, .int 0, .null, .null, .int 0, .int 0, .int 0, .int 0, .int 0])) := hk_14
  refine lv_aload_n hx hb dX0_init_22 rfl (lv_at hl 0 rfl) ?_
  refine lv_aload_n hx hb dX0_init_23 rfl (lv_at hl 1 rfl) ?_
  refine lv_aload_n hx hb dX0_init_24 rfl (lv_at hl 0 rfl) ?_
  refine hr_get S hE hW h_18 inX0 (C := RX0) (T := TX0) (N := 13) rfl 2 (by decide) q_f_0_19 rfl dX0_init_25 ?_
  refine hc_r (va_runVN (As := [.int (7 + kd)]) (rest := [.ref (ad k)]) S (c_X1_takingActOf l G _ hW h_16 h_17 (7 + kd)) ⟨va_cnB 1 hts (gWS q_co_X1_takingActOf) rfl rfl rfl (hE.nest 12 rfl) (hts _ q_in_1) (by decide +kernel) ⟨Nat.le_of_ble_eq_true rfl, Nat.le_of_ble_eq_true rfl⟩, hts _ q_im_X1_takingActOf, hts _ q_se_X1_takingActOf⟩ (hPreVr hE hS (hrecv hE hW h_16 (q := (RX1, TX1, 2)) rfl)) rfl rfl hl.1 rfl (lv_room (Nat.le_of_ble_eq_true rfl)) dX0_init_28 ⟨Nat.le_of_ble_eq_true rfl, Nat.le_of_ble_eq_true rfl⟩) hS (fun locs hS => ?_)
  refine hr_putF S hE hW hS h_18 inX0 (C := RX0) (T := TX0) (N := 13) tyX0_ok nmX0 rfl 3 (by decide) q_f_0_29 rfl (hin rfl) rfl rfl rfl (Nat.le_of_ble_eq_true rfl) dX0_init_31 (fun H locs ct_19 hW hk_20 hg_21 hz hS => ?_)
  have hsz := hz.trans hsz
  have h_22 := (hg_21 1 (by omega)).trans h_16
  have h_23 := (hg_21 4 (by omega)).trans h_17
  have h_24 : ct_19 k = some (.inr (0, [.ref (ad 1), .ref (ad 2), .int (7 + kd), .int (takOfF borT (7 + kd)), .int 0, .int 0, .null, .null, .int 0, .int 0, .int 0, .int 0, .int 0])) := hk_20
  refine lv_aload_n hx hb dX0_init_34 rfl (lv_at hl 0 rfl) ?_
  refine lv_iload hx hb dX0_init_35 (lv_at hl 4 rfl) ?_
  refine hr_put S hE hW hS h_24 inX0 (C := RX0) (T := TX0) (N := 13) tyX0_ok nmX0 rfl 4 (by decide) q_f_0_32 rfl rfl rfl (Nat.le_of_ble_eq_true rfl) dX0_init_37 (fun H locs ct_25 hW hk_26 hg_27 hz hS => ?_)
  have hsz := hz.trans hsz
  have h_28 := (hg_27 1 (by omega)).trans h_22
  have h_29 := (hg_27 4 (by omega)).trans h_23
  have h_30 : ct_25 k = some (.inr (0, [.ref (ad 1), .ref (ad 2), .int (7 + kd), .int (takOfF borT (7 + kd)), .int v, .int 0, .null, .null, .int 0, .int 0, .int 0, .int 0, .int 0])) := hk_26
  exact h_zvret S hr hlk hS hW hsz dX0_init_40 ⟨h_30, (fun j q0 => (hg_27 j q0).trans ((hg_21 j q0).trans ((hg_15 j q0).trans ((hg_9 j q0).trans (hg_3 j q0)))))⟩
set_option maxRecDepth 100000 in
set_option maxHeartbeats 4000000 in
theorem c_X4_device_ok (l : Launch) (G : hG) (ad : Nat → Nat) (ct : Nat → Option va_E) {fr : Nat → Option va_E} {n : Nat} {ty : Nat → Int32} {A : AS} {T : TS} {L : LS4} {K : KS} {st0 : Int32} (hR : RC fr G ad ct n ty A T L K st0) {N kd : Nat} (hkd : kd < 11) (v : Int32) (hn3 : n < 300) (hadk : ad (100 + 2 * n) = N)  : Met l yX4_device wzX4_device { frames := 4, cells := 1, slots := 13, locals := 88 } (hPz [.ref (ad 0), .int (nI kd), .int v] G ad ct N) (hQi (fun r ct1 => r = nI n ∧ RC fr G ad ct1 (n + 1) (upd ty n (7 + nI kd)) (upd A.1 n v, upd A.2.1 n 0, A.2.2) (upd T.1 n 0, upd T.2.1 n 0, upd T.2.2 n 0) L K 0) G ad) 1 13 (hA G.2.2.2) := by
  refine hMetz (by decide) (Nat.le_of_ble_eq_true rfl) (fun p e s m below meth c ls S hr hlk hin hE hW hsz hl => ?_)
  obtain ⟨hx, hb, hml, hown, hts⟩ := id S
  have hS : va_S (hA G.2.2.2) s.heap s.heap [] := va_S.rf
  have hl : lv_has ls 4 [(0, .ref (ad 0)), (1, .int (nI kd)), (2, .int v)] := hl
  obtain ⟨h0, h1, h2, h3, h4, h5, h6, h7, hdv, hlks, hfr, hn300, hm400, hft, hty⟩ := id hR
  refine lv_iload_n hx hb dX4_device_0 rfl (lv_at hl 1 rfl) ?_
  refine lv_if_lt (tgt := 10) hx hb dX4_device_1 (by decide) (fun q => absurd q (nI_pos (by omega))) (fun _ => ?_)
  refine lv_iload_n hx hb dX4_device_4 rfl (lv_at hl 1 rfl) ?_
  refine lv_bipush (v := 11) hx hb dX4_device_5 (by decide) ?_
  refine lv_icmp_lt (tgt := 17) hx hb dX4_device_7 (by decide) (fun _ => ?_) (fun q => absurd (show nI kd < 11 from nI_lt (b := 11) hkd (by omega)) q)
  refine lv_aload_n hx hb dX4_device_17 rfl (lv_at hl 0 rfl) ?_
  refine hr_get S hE hW h0 inX4 (C := RX4) (T := TX4) (N := 9) rfl 4 (by decide) q_f_4_36 rfl dX4_device_18 ?_
  refine lv_aload_n hx hb dX4_device_21 rfl (lv_at hl 0 rfl) ?_
  refine hr_get S hE hW h0 inX4 (C := RX4) (T := TX4) (N := 9) rfl 2 (by decide) q_f_4_25 rfl dX4_device_22 ?_
  refine hr_alen S hE hW h6 2 rfl (v := 300) rfl dX4_device_25 ?_
  refine lv_icmp_lt (tgt := 36) hx hb dX4_device_26 (by decide) (fun _ => ?_) (fun q => absurd (show nI n < 300 from nI_lt (b := 300) hn3 (by omega)) q)
  refine lv_aload_n hx hb dX4_device_36 rfl (lv_at hl 0 rfl) ?_
  refine lv_iconst (v := 0) hx hb dX4_device_37 (by decide) ?_
  refine hr_put S hE hW hS h0 inX4 (C := RX4) (T := TX4) (N := 9) tyX4_ok nmX4 rfl 8 (by decide) q_f_4_32 rfl rfl rfl (Nat.le_of_ble_eq_true rfl) dX4_device_38 (fun H locs ct_1 hW hk_2 hg_3 hz hS => ?_)
  have hsz := hz.trans hsz
  have h_4 := (hg_3 1 (by decide)).trans h1
  have h_5 := (hg_3 2 (by decide)).trans h2
  have h_6 := (hg_3 3 (by decide)).trans h3
  have h_7 := (hg_3 4 (by decide)).trans h4
  have h_8 := (hg_3 5 (by decide)).trans h5
  have h_9 := (hg_3 6 (by decide)).trans h6
  have h_10 := (hg_3 7 (by decide)).trans h7
  have h_11 : ct_1 0 = some (.inr (4, [.ref (ad 1), .ref (ad 2), .ref (ad 6), .ref (ad 7), .int (nI n), .int (nI L.1), .int K.2.1, .int K.2.2, .int 0])) := hk_2
  refine lv_aload_n hx hb dX4_device_41 rfl (lv_at hl 0 rfl) ?_
  refine hr_get S hE hW h_11 inX4 (C := RX4) (T := TX4) (N := 9) rfl 4 (by decide) q_f_4_36 rfl dX4_device_42 ?_
  refine lv_istore_n (lv' := [(3, .int (nI n)), (0, .ref (ad 0)), (1, .int (nI kd)), (2, .int v)]) hx hb dX4_device_45 rfl hl (by decide) rfl (fun ls hl => ?_)
  refine lv_aload_n hx hb dX4_device_46 rfl (lv_at hl 1 rfl) ?_
  refine hr_get S hE hW h_11 inX4 (C := RX4) (T := TX4) (N := 9) rfl 2 (by decide) q_f_4_25 rfl dX4_device_47 ?_
  refine lv_iload_n hx hb dX4_device_50 rfl (lv_at hl 0 rfl) ?_
  refine hr_new S hE hW hS (100 + 2 * n) (hadk.trans hsz.symm) (hw_z hW h_11) inX0 (ci := 0) (C := RX0) (T := TX0) (N := 13) tyX0_ok rfl q_cl_4_23 q_ia_0 q_in_0 (fs := [.null, .null, .int 0, .int 0, .int 0, .int 0, .null, .null, .int 0, .int 0, .int 0, .int 0, .int 0]) (fun j hj => by rcases (show j = 0 ∨ j = 1 ∨ j = 2 ∨ j = 3 ∨ j = 4 ∨ j = 5 ∨ j = 6 ∨ j = 7 ∨ j = 8 ∨ j = 9 ∨ j = 10 ∨ j = 11 ∨ j = 12 by omega) with rfl | rfl | rfl | rfl | rfl | rfl | rfl | rfl | rfl | rfl | rfl | rfl | rfl <;> rfl) (Nat.le_of_ble_eq_true rfl) (Nat.le_of_ble_eq_true rfl) dX4_device_51 (fun H ct_12 hW hk_13 hg_14 hz hS => ?_)
  have hsz := hz.trans (congrArg (· + 1) hsz)
  have h_15 := (hg_14 1 (by omega)).trans h_4
  have h_16 := (hg_14 2 (by omega)).trans h_5
  have h_17 := (hg_14 3 (by omega)).trans h_6
  have h_18 := (hg_14 4 (by omega)).trans h_7
  have h_19 := (hg_14 5 (by omega)).trans h_8
  have h_20 := (hg_14 6 (by omega)).trans h_9
  have h_21 := (hg_14 7 (by omega)).trans h_10
  have h_22 := (hg_14 0 (by omega)).trans h_11
  have h_23 : ct_12 (100 + 2 * n) = some (.inr (0, [.null, .null, .int 0, .int 0, .int 0, .int 0, .null, .null, .int 0, .int 0, .int 0, .int 0, .int 0])) := hk_13
  refine lv_dup hx hb dX4_device_54 rfl ?_
  refine lv_aload_n hx hb dX4_device_55 rfl (lv_at hl 1 rfl) ?_
  refine hr_get S hE hW h_22 inX4 (C := RX4) (T := TX4) (N := 9) rfl 0 (by decide) q_f_4_12 rfl dX4_device_56 ?_
  refine lv_aload_n hx hb dX4_device_59 rfl (lv_at hl 1 rfl) ?_
  refine hr_get S hE hW h_22 inX4 (C := RX4) (T := TX4) (N := 9) rfl 1 (by decide) q_f_4_19 rfl dX4_device_60 ?_
  refine lv_iload_n hx hb dX4_device_63 rfl (lv_at hl 2 rfl) ?_
  refine lv_iload_n hx hb dX4_device_64 rfl (lv_at hl 3 rfl) ?_
  refine hc_zv (va_runIN (As := [.ref (ad 1), .ref (ad 2), .int (nI kd), .int v]) (rest := [.ref (ad (100 + 2 * n)), .int (nI n), .ref (ad 6)]) S (c_X0_init l G ad _ (k := 100 + 2 * n) (by omega) h_23 h_15 h_18 (nI kd) v) ⟨va_cnB 4 hts (gWS q_co_X0_init) rfl rfl rfl (hE.nest 11 rfl) (hts _ q_in_0) (by decide +kernel) ⟨Nat.le_of_ble_eq_true rfl, Nat.le_of_ble_eq_true rfl⟩, rfl, hts _ q_im_X0_init⟩ (hPreSz hE hS hW hsz) rfl rfl hl.1 rfl (lv_room (Nat.le_of_ble_eq_true rfl)) dX4_device_65 ⟨Nat.le_of_ble_eq_true rfl, Nat.le_of_ble_eq_true rfl⟩) hS (fun ct_24 H locs hp hW hsz hS => ?_)
  obtain ⟨h_25, hg_26⟩ := hp
  have h_27 := (hg_26 1 (by omega)).trans h_15
  have h_28 := (hg_26 2 (by omega)).trans h_16
  have h_29 := (hg_26 3 (by omega)).trans h_17
  have h_30 := (hg_26 4 (by omega)).trans h_18
  have h_31 := (hg_26 5 (by omega)).trans h_19
  have h_32 := (hg_26 6 (by omega)).trans h_20
  have h_33 := (hg_26 7 (by omega)).trans h_21
  have h_34 := (hg_26 0 (by omega)).trans h_22
  refine hr_aastk S hE hW hS h_32 h_25 (j := n) rfl (by omega) (by decide) dX4_device_68 (fun H locs ct_35 hW hk_36 hg_37 hz hS => ?_)
  have h_38 := (hg_37 (100 + 2 * n) (by omega)).trans h_25
  have h_39 := (hg_37 1 (by decide)).trans h_27
  have h_40 := (hg_37 2 (by decide)).trans h_28
  have h_41 := (hg_37 3 (by decide)).trans h_29
  have h_42 := (hg_37 4 (by decide)).trans h_30
  have h_43 := (hg_37 5 (by decide)).trans h_31
  have h_44 := (hg_37 7 (by decide)).trans h_33
  have h_45 := (hg_37 0 (by decide)).trans h_34
  have h_46 : ct_35 6 = some (.inl (G.2.1.2.2, 300, .inr (.inr (.inr (.inr (va_up (dvF ad n) n (some (ad (100 + 2 * n))))))))) := hk_36
  refine lv_aload_n hx hb dX4_device_69 rfl (lv_at hl 1 rfl) ?_
  refine lv_dup hx hb dX4_device_70 rfl ?_
  refine hr_get S hE hW h_45 inX4 (C := RX4) (T := TX4) (N := 9) rfl 4 (by decide) q_f_4_36 rfl dX4_device_71 ?_
  refine lv_iconst (v := 1) hx hb dX4_device_74 (by decide) ?_
  refine lv_iadd hx hb dX4_device_75 ?_
  rw [nI_1]
  refine hr_put S hE hW hS h_45 inX4 (C := RX4) (T := TX4) (N := 9) tyX4_ok nmX4 rfl 4 (by decide) q_f_4_36 rfl rfl rfl (Nat.le_of_ble_eq_true rfl) dX4_device_76 (fun H locs ct_47 hW hk_48 hg_49 hz hS => ?_)
  have h_50 := (hg_49 (100 + 2 * n) (by omega)).trans h_38
  have h_51 := (hg_49 1 (by decide)).trans h_39
  have h_52 := (hg_49 2 (by decide)).trans h_40
  have h_53 := (hg_49 3 (by decide)).trans h_41
  have h_54 := (hg_49 4 (by decide)).trans h_42
  have h_55 := (hg_49 5 (by decide)).trans h_43
  have h_56 := (hg_49 7 (by decide)).trans h_44
  have h_57 := (hg_49 6 (by decide)).trans h_46
  have h_58 : ct_47 0 = some (.inr (4, [.ref (ad 1), .ref (ad 2), .ref (ad 6), .ref (ad 7), .int (nI (n + 1)), .int (nI L.1), .int K.2.1, .int K.2.2, .int 0])) := hk_48
  refine lv_iload_n hx hb dX4_device_79 rfl (lv_at hl 0 rfl) ?_
  exact h_iret S hr hlk hS hW dX4_device_80 ⟨rfl, RC_dev hR hn3 hkd (show 7 + nI kd = nI (7 + kd) from nI_add 7 kd) h_58 h_57 h_50 (fun j q0 q1 q2 => (hg_49 j q0).trans ((hg_37 j q1).trans ((hg_26 j q2).trans ((hg_14 j q2).trans (hg_3 j q0)))))⟩
set_option maxRecDepth 100000 in
set_option maxHeartbeats 4000000 in
theorem c_X4_device_no (l : Launch) (G : hG) (ad : Nat → Nat) (ct : Nat → Option va_E) {fr : Nat → Option va_E} {n : Nat} {ty : Nat → Int32} {A : AS} {T : TS} {L : LS4} {K : KS} {st0 : Int32} (hR : RC fr G ad ct n ty A T L K st0) {N : Nat} {kd : Int32} (hkd : kd < 0 ∨ 11 ≤ kd) (v : Int32)  : Met l yX4_device wzX4_device { frames := 0, cells := 1, slots := 13, locals := 0 } (hPz [.ref (ad 0), .int kd, .int v] G ad ct N) (hQi (fun r ct1 => r = -1 ∧ RC fr G ad ct1 n ty A T L K 1) G ad) 1 13 (hA G.2.2.2) := by
  refine hMetz (by decide) (Nat.le_of_ble_eq_true rfl) (fun p e s m below meth c ls S hr hlk hin hE hW hsz hl => ?_)
  obtain ⟨hx, hb, hml, hown, hts⟩ := id S
  have hS : va_S (hA G.2.2.2) s.heap s.heap [] := va_S.rf
  have hl : lv_has ls 4 [(0, .ref (ad 0)), (1, .int kd), (2, .int v)] := hl
  obtain ⟨h0, h1, h2, h3, h4, h5, h6, h7, hdv, hlks, hfr, hn300, hm400, hft, hty⟩ := id hR
  refine lv_iload_n hx hb dX4_device_0 rfl (lv_at hl 1 rfl) ?_
  refine lv_if_lt (tgt := 10) hx hb dX4_device_1 (by decide) (fun c_1 => ?_) (fun c_1 => ?_)
  · refine lv_aload_n hx hb dX4_device_10 rfl (lv_at hl 0 rfl) ?_
    refine lv_iconst (v := 1) hx hb dX4_device_11 (by decide) ?_
    refine hr_put S hE hW hS h0 inX4 (C := RX4) (T := TX4) (N := 9) tyX4_ok nmX4 rfl 8 (by decide) q_f_4_32 rfl rfl rfl (Nat.le_of_ble_eq_true rfl) dX4_device_12 (fun H locs ct_1 hW hk_2 hg_3 hz hS => ?_)
    have hR := RC_o hR hk_2 hg_3
    obtain ⟨h0, h1, h2, h3, h4, h5, h6, h7, hdv, hlks, hfr, hn300, hm400, hft, hty⟩ := id hR
    refine lv_iconst (v := (-1)) hx hb dX4_device_15 (by decide) ?_
    refine W.widen (k := 1) (n := 13) (by omega) (by omega) ?_
    exact h_iret S hr hlk hS hW dX4_device_16 ⟨rfl, hR⟩
  · refine lv_iload_n hx hb dX4_device_4 rfl (lv_at hl 1 rfl) ?_
    refine lv_bipush (v := 11) hx hb dX4_device_5 (by decide) ?_
    refine lv_icmp_lt (tgt := 17) hx hb dX4_device_7 (by decide) (fun c_7 => ?_) (fun c_7 => ?_)
    · exact absurd hkd (fun q => q.elim c_1 (fun q => Int32.not_le.mpr c_7 q))
    · refine lv_aload_n hx hb dX4_device_10 rfl (lv_at hl 0 rfl) ?_
      refine lv_iconst (v := 1) hx hb dX4_device_11 (by decide) ?_
      refine hr_put S hE hW hS h0 inX4 (C := RX4) (T := TX4) (N := 9) tyX4_ok nmX4 rfl 8 (by decide) q_f_4_32 rfl rfl rfl (Nat.le_of_ble_eq_true rfl) dX4_device_12 (fun H locs ct_4 hW hk_5 hg_6 hz hS => ?_)
      have hR := RC_o hR hk_5 hg_6
      obtain ⟨h0, h1, h2, h3, h4, h5, h6, h7, hdv, hlks, hfr, hn300, hm400, hft, hty⟩ := id hR
      refine lv_iconst (v := (-1)) hx hb dX4_device_15 (by decide) ?_
      refine W.widen (k := 1) (n := 13) (by omega) (by omega) ?_
      exact h_iret S hr hlk hS hW dX4_device_16 ⟨rfl, hR⟩
set_option maxRecDepth 100000 in
set_option maxHeartbeats 4000000 in
theorem c_X4_device_f (l : Launch) (G : hG) (ad : Nat → Nat) (ct : Nat → Option va_E) {fr : Nat → Option va_E} {n : Nat} {ty : Nat → Int32} {A : AS} {T : TS} {L : LS4} {K : KS} {st0 : Int32} (hR : RC fr G ad ct n ty A T L K st0) {N kd : Nat} (hkd : kd < 11) (v : Int32) (hn3 : ¬ n < 300)  : Met l yX4_device wzX4_device { frames := 0, cells := 1, slots := 13, locals := 0 } (hPz [.ref (ad 0), .int (nI kd), .int v] G ad ct N) (hQi (fun r ct1 => r = -1 ∧ RC fr G ad ct1 n ty A T L K 5) G ad) 1 13 (hA G.2.2.2) := by
  refine hMetz (by decide) (Nat.le_of_ble_eq_true rfl) (fun p e s m below meth c ls S hr hlk hin hE hW hsz hl => ?_)
  obtain ⟨hx, hb, hml, hown, hts⟩ := id S
  have hS : va_S (hA G.2.2.2) s.heap s.heap [] := va_S.rf
  have hl : lv_has ls 4 [(0, .ref (ad 0)), (1, .int (nI kd)), (2, .int v)] := hl
  obtain ⟨h0, h1, h2, h3, h4, h5, h6, h7, hdv, hlks, hfr, hn300, hm400, hft, hty⟩ := id hR
  refine lv_iload_n hx hb dX4_device_0 rfl (lv_at hl 1 rfl) ?_
  refine lv_if_lt (tgt := 10) hx hb dX4_device_1 (by decide) (fun q => absurd q (nI_pos (by omega))) (fun _ => ?_)
  refine lv_iload_n hx hb dX4_device_4 rfl (lv_at hl 1 rfl) ?_
  refine lv_bipush (v := 11) hx hb dX4_device_5 (by decide) ?_
  refine lv_icmp_lt (tgt := 17) hx hb dX4_device_7 (by decide) (fun _ => ?_) (fun q => absurd (show nI kd < 11 from nI_lt (b := 11) hkd (by omega)) q)
  refine lv_aload_n hx hb dX4_device_17 rfl (lv_at hl 0 rfl) ?_
  refine hr_get S hE hW h0 inX4 (C := RX4) (T := TX4) (N := 9) rfl 4 (by decide) q_f_4_36 rfl dX4_device_18 ?_
  refine lv_aload_n hx hb dX4_device_21 rfl (lv_at hl 0 rfl) ?_
  refine hr_get S hE hW h0 inX4 (C := RX4) (T := TX4) (N := 9) rfl 2 (by decide) q_f_4_25 rfl dX4_device_22 ?_
  refine hr_alen S hE hW h6 2 rfl (v := 300) rfl dX4_device_25 ?_
  refine lv_icmp_lt (tgt := 36) hx hb dX4_device_26 (by decide) (fun q => absurd q (show ¬ nI n < 300 from nI_nlt (a := n) (b := 300) (by omega) (by omega))) (fun _ => ?_)
  refine lv_aload_n hx hb dX4_device_29 rfl (lv_at hl 0 rfl) ?_
  refine lv_iconst (v := 5) hx hb dX4_device_30 (by decide) ?_
  refine hr_put S hE hW hS h0 inX4 (C := RX4) (T := TX4) (N := 9) tyX4_ok nmX4 rfl 8 (by decide) q_f_4_32 rfl rfl rfl (Nat.le_of_ble_eq_true rfl) dX4_device_31 (fun H locs ct_1 hW hk_2 hg_3 hz hS => ?_)
  have hR := RC_o hR hk_2 hg_3
  obtain ⟨h0, h1, h2, h3, h4, h5, h6, h7, hdv, hlks, hfr, hn300, hm400, hft, hty⟩ := id hR
  refine lv_iconst (v := (-1)) hx hb dX4_device_34 (by decide) ?_
  refine W.widen (k := 1) (n := 13) (by omega) (by omega) ?_
  exact h_iret S hr hlk hS hW dX4_device_35 ⟨rfl, hR⟩
