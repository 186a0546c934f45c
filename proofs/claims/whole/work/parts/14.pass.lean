set_option maxRecDepth 100000 in
set_option maxHeartbeats 4000000 in
theorem c_X4_letTake (l : Launch) (G : hG) (ad : Nat → Nat) (ct : Nat → Option va_E) {fr : Nat → Option va_E} {n : Nat} {ty : Nat → Int32} {L : LS4} {pl st0 : Int32} {P : P2} (hP : RCP fr G ad ct n ty L pl st0 P) {i : Nat} (hi : i < n) (hc3 : P.2.2.2 < 300) (x : Int32)  : Met l yX4_letTake wzX4_letTake { frames := 125, cells := 0, slots := 0, locals := 2888 } (hPw [.ref (ad 0), .ref (ad (100 + 2 * i)), .int x] G ad ct) (hQv (fun ct1 => RCP fr G ad ct1 n ty L pl st0 (takP ty pl i x P)) G ad) 0 0 (hA G.2.2.2) := by
  refine hMetw (by decide) (Nat.le_of_ble_eq_true rfl) (fun p e s m below meth c ls S hr hlk hE hW hl => ?_)
  obtain ⟨hx, hb, hml, hown, hts⟩ := id S
  have hS : va_S (hA G.2.2.2) s.heap s.heap [] := va_S.rf
  have hl : lv_has ls 3 [(0, .ref (ad 0)), (1, .ref (ad (100 + 2 * i))), (2, .int x)] := hl
  obtain ⟨tkr, hR, htk⟩ := hP
  obtain ⟨h0, h1, h2, h3, h4, h5, h6, h7, hdv, hlks, hfr, hn300, hm400, hft, hty⟩ := id hR
  have hd_i := hdv i hi
  refine lv_aload_n hx hb dX4_letTake_0 rfl (lv_at hl 0 rfl) ?_
  refine hr_get S hE hW h0 inX4 (C := RX4) (T := TX4) (N := 9) rfl 6 (by decide) q_f_4_81 rfl dX4_letTake_1 ?_
  refine lv_aload_n hx hb dX4_letTake_4 rfl (lv_at hl 0 rfl) ?_
  refine hr_get S hE hW h0 inX4 (C := RX4) (T := TX4) (N := 9) rfl 3 (by decide) q_f_4_29 rfl dX4_letTake_5 ?_
  refine hr_alen S hE hW h7 2 rfl (v := 300) rfl dX4_letTake_8 ?_
  refine lv_icmp_ge (tgt := 41) hx hb dX4_letTake_9 (by decide) (fun q => absurd q (nI_ge (b := 300) hc3 (by omega))) (fun _ => ?_)
  refine lv_aload_n hx hb dX4_letTake_12 rfl (lv_at hl 0 rfl) ?_
  refine hr_get S hE hW h0 inX4 (C := RX4) (T := TX4) (N := 9) rfl 3 (by decide) q_f_4_29 rfl dX4_letTake_13 ?_
  refine lv_aload_n hx hb dX4_letTake_16 rfl (lv_at hl 0 rfl) ?_
  refine hr_get S hE hW h0 inX4 (C := RX4) (T := TX4) (N := 9) rfl 6 (by decide) q_f_4_81 rfl dX4_letTake_17 ?_
  refine lv_aload_n hx hb dX4_letTake_20 rfl (lv_at hl 1 rfl) ?_
  refine hr_aastk S hE hW hS h7 hd_i (j := P.2.2.2) rfl hc3 (by decide) dX4_letTake_21 (fun H locs ct_1 hW hk_2 hg_3 hz hS => ?_)
  have hR := RC_7 hR hk_2 hg_3
  obtain ⟨h0, h1, h2, h3, h4, h5, h6, h7, hdv, hlks, hfr, hn300, hm400, hft, hty⟩ := id hR
  have hd_i := hdv i hi
  refine lv_aload_n hx hb dX4_letTake_22 rfl (lv_at hl 0 rfl) ?_
  refine lv_dup hx hb dX4_letTake_23 rfl ?_
  refine hr_get S hE hW h0 inX4 (C := RX4) (T := TX4) (N := 9) rfl 6 (by decide) q_f_4_81 rfl dX4_letTake_24 ?_
  refine lv_iconst (v := 1) hx hb dX4_letTake_27 (by decide) ?_
  refine lv_iadd hx hb dX4_letTake_28 ?_
  rw [nI_1]
  refine hr_put S hE hW hS h0 inX4 (C := RX4) (T := TX4) (N := 9) tyX4_ok nmX4 rfl 6 (by decide) q_f_4_81 rfl rfl rfl (Nat.le_of_ble_eq_true rfl) dX4_letTake_29 (fun H locs ct_4 hW hk_5 hg_6 hz hS => ?_)
  have hR := RC_o hR hk_5 hg_6
  obtain ⟨h0, h1, h2, h3, h4, h5, h6, h7, hdv, hlks, hfr, hn300, hm400, hft, hty⟩ := id hR
  have hd_i := hdv i hi
  refine lv_aload_n hx hb dX4_letTake_32 rfl (lv_at hl 1 rfl) ?_
  refine lv_iload_n hx hb dX4_letTake_33 rfl (lv_at hl 2 rfl) ?_
  refine lv_aload_n hx hb dX4_letTake_34 rfl (lv_at hl 0 rfl) ?_
  refine hr_get S hE hW h0 inX4 (C := RX4) (T := TX4) (N := 9) rfl 7 (by decide) q_f_4_78 rfl dX4_letTake_35 ?_
  refine hc_v (va_runVN (As := [.int x, .int pl]) (rest := []) S (c_X0_take l G ad _ (k := 100 + 2 * i) (t := ty i) (tk := (P.2.1.1 i)) (lp := (P.2.1.2.1 i)) (ta := (P.2.1.2.2 i)) (r := rvL [va_rf (lkF ad (geL L.2.1 i L.1 0)), va_rf (lkF ad (lstL L.2.1 i L.1)), .int (nI (cntL L.2.1 i L.1)), .int (nI (cntL L.2.2 i L.1)), .int (P.2.1.1 i), .int (P.2.1.2.1 i), .int (P.2.1.2.2 i)]) (q := getD i P.1) (by omega) h1 h5 h4 hd_i h2 h3 x pl) ⟨va_cnB 2 hts (gWS q_co_X0_take) rfl rfl rfl (hE.nest 27 rfl) (hts _ q_in_0) (by decide +kernel) ⟨Nat.le_of_ble_eq_true rfl, Nat.le_of_ble_eq_true rfl⟩, hts _ q_im_X0_take, hts _ q_se_X0_take⟩ (hPreVw hE hS (hrecv hE hW hd_i (q := (RX0, TX0, 13)) rfl) hW) rfl rfl hl.1 rfl (lv_room (Nat.le_of_ble_eq_true rfl)) dX4_letTake_38 ⟨Nat.le_of_ble_eq_true rfl, Nat.le_of_ble_eq_true rfl⟩) hS (fun ct_7 H locs hp hW hS => ?_)
  obtain ⟨h_8, h_9, h_10, hg_11⟩ := hp
  have hR := RC_k (q := (runS 40 (ty i) (selOfF selT (ty i) (takActF (ty i))) x (getD i P.1)).2) hR hi h_8 h_9 h_10 hg_11
  obtain ⟨h0, h1, h2, h3, h4, h5, h6, h7, hdv, hlks, hfr, hn300, hm400, hft, hty⟩ := id hR
  have hd_i := hdv i hi
  exact h_vret S hr hlk hS hW dX4_letTake_41 ⟨_, hR, tkr_up htk⟩
set_option maxRecDepth 100000 in
set_option maxHeartbeats 4000000 in
theorem c_X4_passOn (l : Launch) (G : hG) (ad : Nat → Nat) (ct : Nat → Option va_E) {fr : Nat → Option va_E} {n : Nat} {ty : Nat → Int32} {L : LS4} {pl st0 : Int32} {P0 : P2} (hP0 : RCP fr G ad ct n ty L pl st0 P0) {i : Nat} (hi : i < n) (hPI : PI n pl P0)  : Met l yX4_passOn wzX4_passOn { frames := 126, cells := 0, slots := 0, locals := 2910 } (hPw [.ref (ad 0), .ref (ad (100 + 2 * i))] G ad ct) (hQv (fun ct1 => RCP fr G ad ct1 n ty L pl st0 (pnL ty pl L i L.1 0 P0)) G ad) 0 0 (hA G.2.2.2) := by
  refine hMetw (by decide) (Nat.le_of_ble_eq_true rfl) (fun p e s m below meth c ls S hr hlk hE hW hl => ?_)
  obtain ⟨hx, hb, hml, hown, hts⟩ := id S
  have hS : va_S (hA G.2.2.2) s.heap s.heap [] := va_S.rf
  have hl : lv_has ls 3 [(0, .ref (ad 0)), (1, .ref (ad (100 + 2 * i)))] := hl
  obtain ⟨tkr, hR, htk⟩ := hP0
  obtain ⟨h0, h1, h2, h3, h4, h5, h6, h7, hdv, hlks, hfr, hn300, hm400, hft, hty⟩ := id hR
  have hd_i := hdv i hi
  refine lv_aload_n hx hb dX4_passOn_0 rfl (lv_at hl 1 rfl) ?_
  refine hr_getN S hE hW hd_i inX0 (C := RX0) (T := TX0) (N := 13) rfl 6 (by decide) (hE.nest 1 rfl) rfl dX4_passOn_1 ?_
  refine lv_astore_nq (lv' := [(2, va_rf (lkF ad (geL L.2.1 i L.1 0))), (0, .ref (ad 0)), (1, .ref (ad (100 + 2 * i)))]) hx hb dX4_passOn_4 rfl hl (by decide) rfl (fun ls hl => ?_)
  have loop : ∀ (rem y : Nat) (P : P2) (ct : Nat → Option va_E) (H : Heap) (locs : List Loc) (ls : Array Slot), y + rem = L.1 → pnL ty pl L i L.1 0 P0 = pnL ty pl L i rem y P → PI n pl P → RCP fr G ad ct n ty L pl st0 P → hw G ad ct H → va_S (hA G.2.2.2) s.heap H locs → lv_has ls 3 [(2, va_rf (lkF ad (geL L.2.1 i rem y))), (0, .ref (ad 0)), (1, .ref (ad (100 + 2 * i)))] → W p l e { frames := 126, cells := 0, slots := 0, locals := 2910 } s m ([.ref (ad 0), .ref (ad (100 + 2 * i))] : List Value).toArray below meth c H locs 0 0 (MQ below (hQv (fun ct1 => RCP fr G ad ct1 n ty L pl st0 (pnL ty pl L i L.1 0 P0)) G ad) ([.ref (ad 0), .ref (ad (100 + 2 * i))] : List Value).toArray s 0 0 (hA G.2.2.2)) (F0 m 5 ls []) := by
    intro rem
    induction rem with
    | zero =>
      intro y P ct H locs ls hnk hv hPI hP hW hS hl
      rw [geL, lkF, Option.map_none, va_rf_n] at hl
      refine lv_aload_nN hx hb dX4_passOn_5 rfl (lv_at hl 0 rfl) ?_
      refine lv_ifnullN (tgt := 43) hx hb dX4_passOn_6 (by decide) ?_
      exact h_vret S hr hlk hS hW dX4_passOn_43 (by rw [hv]; exact hP)
    | succ rem ih =>
      intro y P ct H locs ls hnk hv hPI hP hW hS hl
      by_cases e1 : L.2.1 y = i
      · rw [geL, if_pos e1, lkF, Option.map_some, va_rf_s] at hl
        obtain ⟨tkr, hR, htk⟩ := hP
        have hy : y < L.1 := by omega
        obtain ⟨h0, h1, h2, h3, h4, h5, h6, h7, hdv, hlks, hfr, hn300, hm400, hft, hty⟩ := id hR
        have hd_i := hdv i hi
        have hl_y := hlks y hy
        have ht_y := (hft y hy).2
        have hdt_y := hdv (L.2.2 y) ht_y
        refine lv_aload_n hx hb dX4_passOn_5 rfl (lv_at hl 0 rfl) ?_
        refine lv_ifnull hx hb dX4_passOn_6 ?_
        refine lv_aload_n hx hb dX4_passOn_9 rfl (lv_at hl 0 rfl) ?_
        refine hr_getN S hE hW hl_y inX2 (C := RX2) (T := TX2) (N := 2) rfl 0 (by decide) (hE.nest 5 rfl) rfl dX4_passOn_10 ?_
        refine hr_getN S hE hW hdt_y inX0 (C := RX0) (T := TX0) (N := 13) rfl 11 (by decide) (hE.nest 3 rfl) rfl dX4_passOn_13 ?_
        refine lv_aload_n hx hb dX4_passOn_16 rfl (lv_at hl 1 rfl) ?_
        refine hr_get S hE hW h0 inX4 (C := RX4) (T := TX4) (N := 9) rfl 7 (by decide) q_f_4_78 rfl dX4_passOn_17 ?_
        refine lv_icmp_eq (tgt := 35) hx hb dX4_passOn_20 (by decide) (fun c_20 => ?_) (fun c_20 => ?_)
        · refine lv_aload_n hx hb dX4_passOn_35 rfl (lv_at hl 0 rfl) ?_
          refine hr_getN S hE hW hl_y inX2 (C := RX2) (T := TX2) (N := 2) rfl 1 (by decide) (hE.nest 7 rfl) rfl dX4_passOn_36 ?_
          refine lv_astore_nq (lv' := [(2, va_rf (lkF ad (geL L.2.1 (L.2.1 y) (L.1 - (y + 1)) (y + 1)))), (0, .ref (ad 0)), (1, .ref (ad (100 + 2 * i)))]) hx hb dX4_passOn_39 rfl hl (by decide) rfl (fun ls hl => ?_)
          refine lv_goto (tgt := 5) hx hb dX4_passOn_40 (by decide) ?_
          have e3 : geL L.2.1 (L.2.1 y) (L.1 - (y + 1)) (y + 1) = geL L.2.1 i rem (y + 1) := by rw [e1, show L.1 - (y + 1) = rem by omega]
          rw [e3] at hl
          exact ih (y + 1) P _ _ _ _ (by omega) (by rw [hv, pnL, if_pos e1, if_pos c_20]) hPI ⟨tkr, hR, htk⟩ hW hS (lv_sub hl [0, 1, 2] rfl)
        · refine lv_aload_n hx hb dX4_passOn_23 rfl (lv_at hl 1 rfl) ?_
          refine lv_aload_n hx hb dX4_passOn_24 rfl (lv_at hl 0 rfl) ?_
          refine hr_getN S hE hW hl_y inX2 (C := RX2) (T := TX2) (N := 2) rfl 0 (by decide) (hE.nest 5 rfl) rfl dX4_passOn_25 ?_
          refine lv_aload_n hx hb dX4_passOn_28 rfl (lv_at hl 2 rfl) ?_
          refine hr_getN S hE hW hd_i inX0 (C := RX0) (T := TX0) (N := 13) rfl 12 (by decide) (hE.nest 4 rfl) rfl dX4_passOn_29 ?_
          refine hc_v (va_runV (As := [.ref (ad (100 + 2 * L.2.2 y)), .int (P.2.1.2.2 i)]) (rest := []) S (c_X4_letTake l G ad _ (pl := pl) (P := P) ⟨tkr, hR, htk⟩ (i := (L.2.2 y)) ht_y (Nat.lt_of_lt_of_le (PI_lt hPI ht_y c_20) hn300) (P.2.1.2.2 i)) (cwV 2 hts (gWSV q_l_4_84 q_im_X4_letTake q_se_X4_letTake q_in_4 q_co_X4_letTake) rfl rfl rfl (by decide +kernel) ⟨Nat.le_of_ble_eq_true rfl, Nat.le_of_ble_eq_true rfl⟩) (hPreVw hE hS (hrecv hE hW h0 (q := (RX4, TX4, 9)) rfl) hW) rfl rfl hl.1 rfl (lv_room (Nat.le_of_ble_eq_true rfl)) dX4_passOn_32 ⟨Nat.le_of_ble_eq_true rfl, Nat.le_of_ble_eq_true rfl⟩) hS (fun ct_1 H locs hP hW hS => ?_)
          obtain ⟨tkr, hR, htk⟩ := hP
          obtain ⟨h0, h1, h2, h3, h4, h5, h6, h7, hdv, hlks, hfr, hn300, hm400, hft, hty⟩ := id hR
          have hd_i := hdv i hi
          have hl_y := hlks y hy
          have ht_y := (hft y hy).2
          have hdt_y := hdv (L.2.2 y) ht_y
          refine lv_aload_n hx hb dX4_passOn_35 rfl (lv_at hl 0 rfl) ?_
          refine hr_getN S hE hW hl_y inX2 (C := RX2) (T := TX2) (N := 2) rfl 1 (by decide) (hE.nest 7 rfl) rfl dX4_passOn_36 ?_
          refine lv_astore_nq (lv' := [(2, va_rf (lkF ad (geL L.2.1 (L.2.1 y) (L.1 - (y + 1)) (y + 1)))), (0, .ref (ad 0)), (1, .ref (ad (100 + 2 * i)))]) hx hb dX4_passOn_39 rfl hl (by decide) rfl (fun ls hl => ?_)
          refine lv_goto (tgt := 5) hx hb dX4_passOn_40 (by decide) ?_
          have e3 : geL L.2.1 (L.2.1 y) (L.1 - (y + 1)) (y + 1) = geL L.2.1 i rem (y + 1) := by rw [e1, show L.1 - (y + 1) = rem by omega]
          rw [e3] at hl
          exact ih (y + 1) (takP ty pl (L.2.2 y) (P.2.1.2.2 i) P) _ _ _ _ (by omega) (by rw [hv, pnL, if_pos e1, if_neg c_20]) (PI_tak hPI (hft y hy).2 (Or.inr c_20)) ⟨tkr, hR, htk⟩ hW hS (lv_sub hl [0, 1, 2] rfl)
      · rw [geL, if_neg e1] at hl
        exact ih (y + 1) P _ _ _ _ (by omega) (by rw [hv, pnL, if_neg e1]) hPI hP hW hS hl
  exact loop L.1 0 P0 _ _ _ _ (by omega) rfl hPI ⟨tkr, hR, htk⟩ hW hS (lv_sub hl [0, 1, 2] rfl)
set_option maxRecDepth 100000 in
set_option maxHeartbeats 4000000 in
theorem c_X4_pass_no (l : Launch) (G : hG) (ad : Nat → Nat) (ct : Nat → Option va_E) {fr : Nat → Option va_E} {n : Nat} {ty : Nat → Int32} {A : AS} {T : TS} {L : LS4} {K : KS} {st0 : Int32} (hR : RC fr G ad ct n ty A T L K st0) {d : Int32} (hd : ∀ i, i < n → d ≠ nI i) (x : Int32)  : Met l yX4_pass wzX4_pass { frames := 1, cells := 0, slots := 0, locals := 21 } (hPw [.ref (ad 0), .int d, .int x] G ad ct) (hQi (fun r ct1 => r = 0 ∧ RC fr G ad ct1 n ty A T L K 1) G ad) 0 0 (hA G.2.2.2) := by
  refine hMetw (by decide) (Nat.le_of_ble_eq_true rfl) (fun p e s m below meth c ls S hr hlk hE hW hl => ?_)
  obtain ⟨hx, hb, hml, hown, hts⟩ := id S
  have hS : va_S (hA G.2.2.2) s.heap s.heap [] := va_S.rf
  have hl : lv_has ls 6 [(0, .ref (ad 0)), (1, .int d), (2, .int x)] := hl
  obtain ⟨h0, h1, h2, h3, h4, h5, h6, h7, hdv, hlks, hfr, hn300, hm400, hft, hty⟩ := id hR
  refine lv_aload_n hx hb dX4_pass_0 rfl (lv_at hl 0 rfl) ?_
  refine lv_iload_n hx hb dX4_pass_1 rfl (lv_at hl 1 rfl) ?_
  refine hc_rq (va_runV (As := [.int d]) (rest := []) S (c_X4_find l G _ hW h0 h6 d) (cwV 1 hts (gWSV q_l_4_42 q_im_X4_find q_se_X4_find q_in_4 q_co_X4_find) rfl rfl rfl (by decide +kernel) ⟨Nat.le_of_ble_eq_true rfl, Nat.le_of_ble_eq_true rfl⟩) (hPreVr hE hS (hrecv hE hW h0 (q := (RX4, TX4, 9)) rfl)) rfl rfl hl.1 rfl (lv_room (Nat.le_of_ble_eq_true rfl)) dX4_pass_2 ⟨Nat.le_of_ble_eq_true rfl, Nat.le_of_ble_eq_true rfl⟩) hS (fun locs hS => ?_)
  rw [findF_no hn300 hd, va_rf_n]
  refine lv_astore_nN (lv' := [(3, .null), (0, .ref (ad 0)), (1, .int d), (2, .int x)]) hx hb dX4_pass_5 rfl hl (by decide) rfl (fun ls hl => ?_)
  refine lv_aload_nN hx hb dX4_pass_6 rfl (lv_at hl 0 rfl) ?_
  refine lv_ifnonnullN hx hb dX4_pass_7 ?_
  refine lv_aload_n hx hb dX4_pass_10 rfl (lv_at hl 1 rfl) ?_
  refine lv_iconst (v := 1) hx hb dX4_pass_11 (by decide) ?_
  refine hr_put S hE hW hS h0 inX4 (C := RX4) (T := TX4) (N := 9) tyX4_ok nmX4 rfl 8 (by decide) q_f_4_32 rfl rfl rfl (Nat.le_of_ble_eq_true rfl) dX4_pass_12 (fun H locs ct_1 hW hk_2 hg_3 hz hS => ?_)
  have hR := RC_o hR hk_2 hg_3
  obtain ⟨h0, h1, h2, h3, h4, h5, h6, h7, hdv, hlks, hfr, hn300, hm400, hft, hty⟩ := id hR
  refine lv_iconst (v := 0) hx hb dX4_pass_15 (by decide) ?_
  exact h_iret S hr hlk hS hW dX4_pass_16 ⟨rfl, hR⟩
set_option maxRecDepth 100000 in
set_option maxHeartbeats 4000000 in
theorem c_X4_pass_ok (l : Launch) (G : hG) (ad : Nat → Nat) (ct : Nat → Option va_E) {fr : Nat → Option va_E} {n : Nat} {ty : Nat → Int32} {A : AS} {T : TS} {L : LS4} {K : KS} {st0 : Int32} (hR : RC fr G ad ct n ty A T L K st0) {i : Nat} (hi : i < n) (x : Int32)  : Met l yX4_pass wzX4_pass { frames := 127, cells := 0, slots := 0, locals := 2932 } (hPw [.ref (ad 0), .int (nI i), .int x] G ad ct) (hQi (fun r ct1 => r = nI (psR ty (K.2.2 + 1) n L i x A T).2.2.2 ∧ RCP fr G ad ct1 n ty L (K.2.2 + 1) 0 (psR ty (K.2.2 + 1) n L i x A T)) G ad) 0 0 (hA G.2.2.2) := by
  refine hMetw (by decide) (Nat.le_of_ble_eq_true rfl) (fun p e s m below meth c ls S hr hlk hE hW hl => ?_)
  obtain ⟨hx, hb, hml, hown, hts⟩ := id S
  have hS : va_S (hA G.2.2.2) s.heap s.heap [] := va_S.rf
  have hl : lv_has ls 6 [(0, .ref (ad 0)), (1, .int (nI i)), (2, .int x)] := hl
  obtain ⟨h0, h1, h2, h3, h4, h5, h6, h7, hdv, hlks, hfr, hn300, hm400, hft, hty⟩ := id hR
  have hd_i := hdv i hi
  refine lv_aload_n hx hb dX4_pass_0 rfl (lv_at hl 0 rfl) ?_
  refine lv_iload_n hx hb dX4_pass_1 rfl (lv_at hl 1 rfl) ?_
  refine hc_rq (va_runV (As := [.int (nI i)]) (rest := []) S (c_X4_find l G _ hW h0 h6 (nI i)) (cwV 1 hts (gWSV q_l_4_42 q_im_X4_find q_se_X4_find q_in_4 q_co_X4_find) rfl rfl rfl (by decide +kernel) ⟨Nat.le_of_ble_eq_true rfl, Nat.le_of_ble_eq_true rfl⟩) (hPreVr hE hS (hrecv hE hW h0 (q := (RX4, TX4, 9)) rfl)) rfl rfl hl.1 rfl (lv_room (Nat.le_of_ble_eq_true rfl)) dX4_pass_2 ⟨Nat.le_of_ble_eq_true rfl, Nat.le_of_ble_eq_true rfl⟩) hS (fun locs hS => ?_)
  rw [findF_ok hn300 hi, va_rf_s]
  refine lv_astore_n (lv' := [(3, .ref (ad (100 + 2 * i))), (0, .ref (ad 0)), (1, .int (nI i)), (2, .int x)]) hx hb dX4_pass_5 rfl hl (by decide) rfl (fun ls hl => ?_)
  refine lv_aload_n hx hb dX4_pass_6 rfl (lv_at hl 0 rfl) ?_
  refine lv_ifnonnull (tgt := 17) hx hb dX4_pass_7 (by decide) ?_
  refine lv_aload_n hx hb dX4_pass_17 rfl (lv_at hl 1 rfl) ?_
  refine lv_iconst (v := 0) hx hb dX4_pass_18 (by decide) ?_
  refine hr_put S hE hW hS h0 inX4 (C := RX4) (T := TX4) (N := 9) tyX4_ok nmX4 rfl 8 (by decide) q_f_4_32 rfl rfl rfl (Nat.le_of_ble_eq_true rfl) dX4_pass_19 (fun H locs ct_1 hW hk_2 hg_3 hz hS => ?_)
  have hR := RC_o hR hk_2 hg_3
  obtain ⟨h0, h1, h2, h3, h4, h5, h6, h7, hdv, hlks, hfr, hn300, hm400, hft, hty⟩ := id hR
  have hd_i := hdv i hi
  refine lv_aload_n hx hb dX4_pass_22 rfl (lv_at hl 1 rfl) ?_
  refine hr_get S hE hW h0 inX4 (C := RX4) (T := TX4) (N := 9) rfl 1 (by decide) q_f_4_19 rfl dX4_pass_23 ?_
  refine hc_v (va_runVN (As := []) (rest := []) S (c_X3_clear l G ad _ h2) ⟨va_cnB 0 hts (gWS q_co_X3_clear) rfl rfl rfl (hE.nest 19 rfl) (hts _ q_in_3) (by decide +kernel) ⟨Nat.le_of_ble_eq_true rfl, Nat.le_of_ble_eq_true rfl⟩, hts _ q_im_X3_clear, hts _ q_se_X3_clear⟩ (hPreVw hE hS (hrecv hE hW h2 (q := (RX3, TX3, 2)) rfl) hW) rfl rfl hl.1 rfl (lv_room (Nat.le_of_ble_eq_true rfl)) dX4_pass_26 ⟨Nat.le_of_ble_eq_true rfl, Nat.le_of_ble_eq_true rfl⟩) hS (fun ct_4 H locs hp hW hS => ?_)
  obtain ⟨h_5, hg_6⟩ := hp
  have hR := RC_t hR h_5 hg_6
  obtain ⟨h0, h1, h2, h3, h4, h5, h6, h7, hdv, hlks, hfr, hn300, hm400, hft, hty⟩ := id hR
  have hd_i := hdv i hi
  refine lv_aload_n hx hb dX4_pass_29 rfl (lv_at hl 1 rfl) ?_
  refine lv_dup hx hb dX4_pass_30 rfl ?_
  refine hr_get S hE hW h0 inX4 (C := RX4) (T := TX4) (N := 9) rfl 7 (by decide) q_f_4_78 rfl dX4_pass_31 ?_
  refine lv_iconst (v := 1) hx hb dX4_pass_34 (by decide) ?_
  refine lv_iadd hx hb dX4_pass_35 ?_
  refine hr_put S hE hW hS h0 inX4 (C := RX4) (T := TX4) (N := 9) tyX4_ok nmX4 rfl 7 (by decide) q_f_4_78 rfl rfl rfl (Nat.le_of_ble_eq_true rfl) dX4_pass_36 (fun H locs ct_7 hW hk_8 hg_9 hz hS => ?_)
  have hR := RC_o hR hk_8 hg_9
  obtain ⟨h0, h1, h2, h3, h4, h5, h6, h7, hdv, hlks, hfr, hn300, hm400, hft, hty⟩ := id hR
  have hd_i := hdv i hi
  refine lv_aload_n hx hb dX4_pass_39 rfl (lv_at hl 1 rfl) ?_
  refine lv_iconst (v := 0) hx hb dX4_pass_40 (by decide) ?_
  refine hr_put S hE hW hS h0 inX4 (C := RX4) (T := TX4) (N := 9) tyX4_ok nmX4 rfl 6 (by decide) q_f_4_81 rfl rfl rfl (Nat.le_of_ble_eq_true rfl) dX4_pass_41 (fun H locs ct_10 hW hk_11 hg_12 hz hS => ?_)
  have hR := RC_o hR hk_11 hg_12
  obtain ⟨h0, h1, h2, h3, h4, h5, h6, h7, hdv, hlks, hfr, hn300, hm400, hft, hty⟩ := id hR
  have hd_i := hdv i hi
  have htk : ∀ k, k < ((clrA A, T, (fun _ => 0), 0) : P2).2.2.2 → K.1 k = some (ad (100 + 2 * ((clrA A, T, (fun _ => 0), 0) : P2).2.2.1 k)) := fun k hk => absurd hk (Nat.not_lt_zero k)
  refine lv_aload_n hx hb dX4_pass_44 rfl (lv_at hl 1 rfl) ?_
  refine lv_aload_n hx hb dX4_pass_45 rfl (lv_at hl 0 rfl) ?_
  refine lv_iload_n hx hb dX4_pass_46 rfl (lv_at hl 3 rfl) ?_
  refine hc_v (va_runV (As := [.ref (ad (100 + 2 * i)), .int x]) (rest := []) S (c_X4_letTake l G ad _ (pl := (K.2.2 + 1)) (P := ((clrA A, T, (fun _ => 0), 0) : P2)) ⟨K.1, hR, htk⟩ (i := i) hi (show (0 : Nat) < 300 by omega) x) (cwV 2 hts (gWSV q_l_4_84 q_im_X4_letTake q_se_X4_letTake q_in_4 q_co_X4_letTake) rfl rfl rfl (by decide +kernel) ⟨Nat.le_of_ble_eq_true rfl, Nat.le_of_ble_eq_true rfl⟩) (hPreVw hE hS (hrecv hE hW h0 (q := (RX4, TX4, 9)) rfl) hW) rfl rfl hl.1 rfl (lv_room (Nat.le_of_ble_eq_true rfl)) dX4_pass_47 ⟨Nat.le_of_ble_eq_true rfl, Nat.le_of_ble_eq_true rfl⟩) hS (fun ct_13 H locs hP hW hS => ?_)
  obtain ⟨tkr, hR, htk⟩ := hP
  obtain ⟨h0, h1, h2, h3, h4, h5, h6, h7, hdv, hlks, hfr, hn300, hm400, hft, hty⟩ := id hR
  refine lv_iconst (v := 0) hx hb dX4_pass_50 (by decide) ?_
  refine lv_istore (lv' := [(4, .int 0), (3, .ref (ad (100 + 2 * i))), (0, .ref (ad 0)), (1, .int (nI i)), (2, .int x)]) hx hb dX4_pass_51 hl (by decide) rfl (fun ls hl => ?_)
  have loop : ∀ (rem k : Nat) (P : P2) (ct : Nat → Option va_E) (H : Heap) (locs : List Loc) (ls : Array Slot), k + rem = n + 1 → psR ty (K.2.2 + 1) n L i x A T = psL ty (K.2.2 + 1) L rem k P → PI n (K.2.2 + 1) P → RCP fr G ad ct n ty L (K.2.2 + 1) 0 P → hw G ad ct H → va_S (hA G.2.2.2) s.heap H locs → lv_has ls 6 [(4, .int (nI k)), (0, .ref (ad 0))] → W p l e { frames := 127, cells := 0, slots := 0, locals := 2932 } s m ([.ref (ad 0), .int (nI i), .int x] : List Value).toArray below meth c H locs 0 0 (MQ below (hQi (fun r ct1 => r = nI (psR ty (K.2.2 + 1) n L i x A T).2.2.2 ∧ RCP fr G ad ct1 n ty L (K.2.2 + 1) 0 (psR ty (K.2.2 + 1) n L i x A T)) G ad) ([.ref (ad 0), .int (nI i), .int x] : List Value).toArray s 0 0 (hA G.2.2.2)) (F0 m 53 ls []) := by
    intro rem
    induction rem with
    | zero =>
      intro k P ct H locs ls hnk hv hPI hP hW hS hl
      have hcn := PI_le hPI
      obtain ⟨tkr, hR, htk⟩ := hP
      obtain ⟨h0, h1, h2, h3, h4, h5, h6, h7, hdv, hlks, hfr, hn300, hm400, hft, hty⟩ := id hR
      refine lv_iload hx hb dX4_pass_53 (lv_at hl 0 rfl) ?_
      refine lv_aload_n hx hb dX4_pass_55 rfl (lv_at hl 1 rfl) ?_
      refine hr_get S hE hW h0 inX4 (C := RX4) (T := TX4) (N := 9) rfl 6 (by decide) q_f_4_81 rfl dX4_pass_56 ?_
      refine lv_icmp_ge (tgt := 98) hx hb dX4_pass_59 (by decide) (fun _ => ?_) (fun q => absurd (nI_le (by omega) (by omega)) q)
      refine lv_aload_n hx hb dX4_pass_98 rfl (lv_at hl 1 rfl) ?_
      refine hr_get S hE hW h0 inX4 (C := RX4) (T := TX4) (N := 9) rfl 6 (by decide) q_f_4_81 rfl dX4_pass_99 ?_
      exact h_iret S hr hlk hS hW dX4_pass_102 (by rw [hv]; exact ⟨rfl, tkr, hR, htk⟩)
    | succ rem ih =>
      intro k P ct H locs ls hnk hv hPI hP hW hS hl
      have hcn := PI_le hPI
      obtain ⟨tkr, hR, htk⟩ := hP
      by_cases hkc : k < P.2.2.2
      · have hrow := (hPI.1 k hkc).1
        obtain ⟨h0, h1, h2, h3, h4, h5, h6, h7, hdv, hlks, hfr, hn300, hm400, hft, hty⟩ := id hR
        have hd_r := hdv _ hrow
        refine lv_iload hx hb dX4_pass_53 (lv_at hl 0 rfl) ?_
        refine lv_aload_n hx hb dX4_pass_55 rfl (lv_at hl 1 rfl) ?_
        refine hr_get S hE hW h0 inX4 (C := RX4) (T := TX4) (N := 9) rfl 6 (by decide) q_f_4_81 rfl dX4_pass_56 ?_
        refine lv_icmp_ge (tgt := 98) hx hb dX4_pass_59 (by decide) (fun q => absurd q (nI_ge hkc (by omega))) (fun _ => ?_)
        refine lv_iload hx hb dX4_pass_62 (lv_at hl 0 rfl) ?_
        refine lv_aload_n hx hb dX4_pass_64 rfl (lv_at hl 1 rfl) ?_
        refine hr_get S hE hW h0 inX4 (C := RX4) (T := TX4) (N := 9) rfl 3 (by decide) q_f_4_29 rfl dX4_pass_65 ?_
        refine hr_alen S hE hW h7 2 rfl (v := 300) rfl dX4_pass_68 ?_
        refine lv_icmp_ge (tgt := 98) hx hb dX4_pass_69 (by decide) (fun q => absurd q (nI_ge (b := 300) (by omega) (by omega))) (fun _ => ?_)
        refine lv_aload_n hx hb dX4_pass_72 rfl (lv_at hl 1 rfl) ?_
        refine hr_get S hE hW h0 inX4 (C := RX4) (T := TX4) (N := 9) rfl 3 (by decide) q_f_4_29 rfl dX4_pass_73 ?_
        refine lv_iload hx hb dX4_pass_76 (lv_at hl 0 rfl) ?_
        refine hr_aaldk S hE hW h7 (j := k) rfl (by omega) (by decide) dX4_pass_78 ?_
        rw [show ((tkr, nI P.2.2.2, (K.2.2 + 1)) : KS).1 k = some (ad (100 + 2 * P.2.2.1 k)) from htk k hkc, va_rf_s]
        refine lv_astore (lv' := [(5, .ref (ad (100 + 2 * P.2.2.1 k))), (4, .int (nI k)), (0, .ref (ad 0))]) hx hb dX4_pass_79 hl (by decide) rfl (fun ls hl => ?_)
        refine lv_aload hx hb dX4_pass_81 (lv_at hl 0 rfl) ?_
        refine lv_ifnull hx hb dX4_pass_83 ?_
        refine lv_aload_n hx hb dX4_pass_86 rfl (lv_at hl 2 rfl) ?_
        refine lv_aload hx hb dX4_pass_87 (lv_at hl 0 rfl) ?_
        refine hc_v (va_runV (As := [.ref (ad (100 + 2 * P.2.2.1 k))]) (rest := []) S (c_X4_passOn l G ad _ (pl := (K.2.2 + 1)) (P0 := P) ⟨tkr, hR, htk⟩ (i := (P.2.2.1 k)) hrow hPI) (cwV 1 hts (gWSV q_l_4_88 q_im_X4_passOn q_se_X4_passOn q_in_4 q_co_X4_passOn) rfl rfl rfl (by decide +kernel) ⟨Nat.le_of_ble_eq_true rfl, Nat.le_of_ble_eq_true rfl⟩) (hPreVw hE hS (hrecv hE hW h0 (q := (RX4, TX4, 9)) rfl) hW) rfl rfl hl.1 rfl (lv_room (Nat.le_of_ble_eq_true rfl)) dX4_pass_89 ⟨Nat.le_of_ble_eq_true rfl, Nat.le_of_ble_eq_true rfl⟩) hS (fun ct_14 H locs hP hW hS => ?_)
        obtain ⟨tkr, hR, htk⟩ := hP
        obtain ⟨h0, h1, h2, h3, h4, h5, h6, h7, hdv, hlks, hfr, hn300, hm400, hft, hty⟩ := id hR
        refine lv_iinc (v := (nI (k + 1))) (lv' := [(4, .int (nI (k + 1))), (5, .ref (ad (100 + 2 * P.2.2.1 k))), (0, .ref (ad 0))]) hx hb dX4_pass_92 hl (k := 1) rfl (nI_1 k) (by decide) rfl (fun ls hl => ?_)
        refine lv_goto (tgt := 53) hx hb dX4_pass_95 (by decide) ?_
        exact ih (k + 1) (pnL ty (K.2.2 + 1) L (P.2.2.1 k) L.1 0 P) _ _ _ _ (by omega) (by rw [hv, psL, if_pos hkc]) (PI_pn hft _ _ _ (by omega) hPI) ⟨tkr, hR, htk⟩ hW hS (lv_sub hl [0, 2] rfl)
      · have hkc2 : P.2.2.2 ≤ k := by omega
        obtain ⟨h0, h1, h2, h3, h4, h5, h6, h7, hdv, hlks, hfr, hn300, hm400, hft, hty⟩ := id hR
        refine lv_iload hx hb dX4_pass_53 (lv_at hl 0 rfl) ?_
        refine lv_aload_n hx hb dX4_pass_55 rfl (lv_at hl 1 rfl) ?_
        refine hr_get S hE hW h0 inX4 (C := RX4) (T := TX4) (N := 9) rfl 6 (by decide) q_f_4_81 rfl dX4_pass_56 ?_
        refine lv_icmp_ge (tgt := 98) hx hb dX4_pass_59 (by decide) (fun _ => ?_) (fun q => absurd (nI_le hkc2 (by omega)) q)
        refine lv_aload_n hx hb dX4_pass_98 rfl (lv_at hl 1 rfl) ?_
        refine hr_get S hE hW h0 inX4 (C := RX4) (T := TX4) (N := 9) rfl 6 (by decide) q_f_4_81 rfl dX4_pass_99 ?_
        exact h_iret S hr hlk hS hW dX4_pass_102 (by rw [hv, psL, if_neg hkc]; exact ⟨rfl, tkr, hR, htk⟩)
  exact loop (n + 1) 0 (takP ty (K.2.2 + 1) i x ((clrA A, T, (fun _ => 0), 0) : P2)) _ _ _ _ (by omega) rfl (PI_tak ⟨fun k hk => absurd hk (Nat.not_lt_zero k), fun j k hj => absurd hj (Nat.not_lt_zero j)⟩ hi (Or.inl rfl)) ⟨tkr, hR, htk⟩ hW hS (lv_sub hl [0, 2] rfl)
