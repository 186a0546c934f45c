/-! the public methods' answers, on the class's side: a method's result is its answer, what the devices and the trail are then, and the status -/
def callR (ty : Nat → Int32) (i : Nat) (act way x : Int32) (A : AS) : Int32 × AS × Int32 := if rfF (ty i) act way = 0 then ((actD ty i act x (clrA A)).1, (actD ty i act x (clrA A)).2, 0) else (0, A, rfF (ty i) act way)
def everyR (n : Nat) (ty : Nat → Int32) (act way x : Int32) (A : AS) : Int32 × AS × Int32 := if rfAllF act way = 0 then ((evL ty act way x n 0 0 (clrA A)).1, (evL ty act way x n 0 0 (clrA A)).2, 0) else (0, A, rfAllF act way)
def shF : Nat → Int32
  | 0 => -8
  | k + 1 => nI (8 * k)
theorem shF_dec (k : Nat) : nI (8 * k) + (-8) = shF k := by
  cases k with
  | zero => rfl
  | succ k =>
    show nI (8 * (k + 1)) + (-8) = nI (8 * k)
    rw [show 8 * (k + 1) = 8 * k + 8 by omega, ← nI_add, Int32.add_assoc, show nI 8 + (-8) = 0 from rfl, Int32.add_zero]
def ableF (t w : Int32) : Int32 := if isWayF w = 0 then -1 else if bearsF borT t w = 0 then 0 else 1
def factF (w t v c lf lt tk : Int32) : Int32 := if w = 0 then t - 7 else if w = 1 then v else if w = 2 then c else if w = 3 then lf else if w = 4 then lt else if w = 5 then tk else 0
def factD (ty : Nat → Int32) (A : AS) (T : TS) (L : LS4) (i : Nat) (w : Int32) : Int32 := factF w (ty i) (A.1 i) (A.2.1 i) (nI (cntL L.2.1 i L.1)) (nI (cntL L.2.2 i L.1)) (T.1 i)
def stateR (ty : Nat → Int32) (A : AS) (T : TS) (L : LS4) (i : Nat) (w : Int32) : Int32 × Int32 := if w < 0 then (0, 1) else if w < 6 then (factD ty A T L i w, 0) else (0, 1)
def cbL (ty : Nat → Int32) (w : Int32) : Nat → Nat → Int32 → Int32
  | 0, _, s => s
  | r + 1, k, s => cbL ty w r (k + 1) (if bearsF borT (ty k) w = 0 then s else s + 1)
def sizeF (n m : Nat) (ty : Nat → Int32) (w : Int32) : Int32 := if w = 0 then nI n else if w = 1 then nI m else if w < 2 then -1 else if w ≤ 6 then cbL ty w n 0 0 else -1
set_option maxRecDepth 100000 in
set_option maxHeartbeats 4000000 in
theorem c_X4_able_ok (l : Launch) (G : hG) (H : Heap) {ad : Nat → Nat} {ct : Nat → Option va_E} (hW : hw G ad ct H) {fr : Nat → Option va_E} {n : Nat} {ty : Nat → Int32} {A : AS} {T : TS} {L : LS4} {K : KS} {st0 : Int32} (hR : RC fr G ad ct n ty A T L K st0) {i : Nat} (hi : i < n) (w : Int32)  : Met l yX4_able wzX4_able { frames := 3, cells := 0, slots := 0, locals := 64 } (hPr [.ref (ad 0), .int (nI i), .int w] G H) (hQr (ableF (ty i) w) H G.2.2.2) 0 0 (hA G.2.2.2) := by
  refine hMetr (Qc := fun H => hQr (ableF (ty i) w) H G.2.2.2) (by decide) (Nat.le_of_ble_eq_true rfl) (fun p e s m below meth c ls S hr hlk hE hH hl => ?_)
  subst hH
  obtain ⟨hx, hb, hml, hown, hts⟩ := id S
  have hS : va_S (hA G.2.2.2) s.heap s.heap [] := va_S.rf
  have hl : lv_has ls 4 [(0, .ref (ad 0)), (1, .int (nI i)), (2, .int w)] := hl
  obtain ⟨h0, h1, h2, h3, h4, h5, h6, h7, hdv, hlks, hfr, hn300, hm400, hft, hty⟩ := id hR
  have hd_i := hdv i hi
  refine lv_aload_n hx hb dX4_able_0 rfl (lv_at hl 0 rfl) ?_
  refine lv_iload_n hx hb dX4_able_1 rfl (lv_at hl 1 rfl) ?_
  refine hc_rq (va_runV (As := [.int (nI i)]) (rest := []) S (c_X4_find l G _ hW h0 h6 (nI i)) (cwV 1 hts (gWSV q_l_4_42 q_im_X4_find q_se_X4_find q_in_4 q_co_X4_find) rfl rfl rfl (by decide +kernel) ⟨Nat.le_of_ble_eq_true rfl, Nat.le_of_ble_eq_true rfl⟩) (hPreVr hE hS (hrecv hE hW h0 (q := (RX4, TX4, 9)) rfl)) rfl rfl hl.1 rfl (lv_room (Nat.le_of_ble_eq_true rfl)) dX4_able_2 ⟨Nat.le_of_ble_eq_true rfl, Nat.le_of_ble_eq_true rfl⟩) hS (fun locs hS => ?_)
  rw [findF_ok hn300 hi, va_rf_s]
  refine lv_astore_n (lv' := [(3, .ref (ad (100 + 2 * i))), (0, .ref (ad 0)), (1, .int (nI i)), (2, .int w)]) hx hb dX4_able_5 rfl hl (by decide) rfl (fun ls hl => ?_)
  refine lv_aload_n hx hb dX4_able_6 rfl (lv_at hl 0 rfl) ?_
  refine lv_ifnull hx hb dX4_able_7 ?_
  refine lv_iload_n hx hb dX4_able_10 rfl (lv_at hl 3 rfl) ?_
  refine hc_r (va_runS (As := [.int w]) (rest := []) S (c_X4_isWay l G _ w) (va_cwS 1 hts (gWSS q_l_4_91 q_st_X4_isWay q_in_4 q_co_X4_isWay) rfl rfl rfl (by decide +kernel) ⟨Nat.le_of_ble_eq_true rfl, Nat.le_of_ble_eq_true rfl⟩) (hPreSr hE hS) rfl rfl hl.1 rfl (lv_room (Nat.le_of_ble_eq_true rfl)) dX4_able_11 ⟨Nat.le_of_ble_eq_true rfl, Nat.le_of_ble_eq_true rfl⟩) hS (fun locs hS => ?_)
  refine lv_if_ne (tgt := 19) hx hb dX4_able_14 (by decide) (fun c_14 => ?_) (fun c_14 => ?_)
  · refine lv_aload_n hx hb dX4_able_19 rfl (lv_at hl 0 rfl) ?_
    refine lv_iload_n hx hb dX4_able_20 rfl (lv_at hl 3 rfl) ?_
    refine hc_r (va_runVN (As := [.int w]) (rest := []) S (c_X0_bears l G _ hW (r := (rvL [va_rf (lkF ad (geL L.2.1 i L.1 0)), va_rf (lkF ad (lstL L.2.1 i L.1)), .int (nI (cntL L.2.1 i L.1)), .int (nI (cntL L.2.2 i L.1)), .int (T.1 i), .int (T.2.1 i), .int (T.2.2 i)])) hd_i h1 h4 w) ⟨va_cnB 1 hts (gWS q_co_X0_bears) rfl rfl rfl (hE.nest 14 rfl) (hts _ q_in_0) (by decide +kernel) ⟨Nat.le_of_ble_eq_true rfl, Nat.le_of_ble_eq_true rfl⟩, hts _ q_im_X0_bears, hts _ q_se_X0_bears⟩ (hPreVr hE hS (hrecv hE hW hd_i (q := (RX0, TX0, 13)) rfl)) rfl rfl hl.1 rfl (lv_room (Nat.le_of_ble_eq_true rfl)) dX4_able_21 ⟨Nat.le_of_ble_eq_true rfl, Nat.le_of_ble_eq_true rfl⟩) hS (fun locs hS => ?_)
    refine lv_if_eq (tgt := 31) hx hb dX4_able_24 (by decide) (fun c_24 => ?_) (fun c_24 => ?_)
    · refine lv_iconst (v := 0) hx hb dX4_able_31 (by decide) ?_
      exact h_rret S hr hlk hS dX4_able_32 (by rw [ableF, if_neg c_14, if_pos c_24])
    · refine lv_iconst (v := 1) hx hb dX4_able_27 (by decide) ?_
      refine lv_goto (tgt := 32) hx hb dX4_able_28 (by decide) ?_
      exact h_rret S hr hlk hS dX4_able_32 (by rw [ableF, if_neg c_14, if_neg c_24])
  · refine lv_iconst (v := (-1)) hx hb dX4_able_17 (by decide) ?_
    exact h_rret S hr hlk hS dX4_able_18 (by rw [ableF, if_pos c_14])
set_option maxRecDepth 100000 in
set_option maxHeartbeats 4000000 in
theorem c_X4_able_no (l : Launch) (G : hG) (H : Heap) {ad : Nat → Nat} {ct : Nat → Option va_E} (hW : hw G ad ct H) {fr : Nat → Option va_E} {n : Nat} {ty : Nat → Int32} {A : AS} {T : TS} {L : LS4} {K : KS} {st0 : Int32} (hR : RC fr G ad ct n ty A T L K st0) {d : Int32} (hd : ∀ i, i < n → d ≠ nI i) (w : Int32)  : Met l yX4_able wzX4_able { frames := 1, cells := 0, slots := 0, locals := 21 } (hPr [.ref (ad 0), .int d, .int w] G H) (hQr (-1) H G.2.2.2) 0 0 (hA G.2.2.2) := by
  refine hMetr (Qc := fun H => hQr (-1) H G.2.2.2) (by decide) (Nat.le_of_ble_eq_true rfl) (fun p e s m below meth c ls S hr hlk hE hH hl => ?_)
  subst hH
  obtain ⟨hx, hb, hml, hown, hts⟩ := id S
  have hS : va_S (hA G.2.2.2) s.heap s.heap [] := va_S.rf
  have hl : lv_has ls 4 [(0, .ref (ad 0)), (1, .int d), (2, .int w)] := hl
  obtain ⟨h0, h1, h2, h3, h4, h5, h6, h7, hdv, hlks, hfr, hn300, hm400, hft, hty⟩ := id hR
  refine lv_aload_n hx hb dX4_able_0 rfl (lv_at hl 0 rfl) ?_
  refine lv_iload_n hx hb dX4_able_1 rfl (lv_at hl 1 rfl) ?_
  refine hc_rq (va_runV (As := [.int d]) (rest := []) S (c_X4_find l G _ hW h0 h6 d) (cwV 1 hts (gWSV q_l_4_42 q_im_X4_find q_se_X4_find q_in_4 q_co_X4_find) rfl rfl rfl (by decide +kernel) ⟨Nat.le_of_ble_eq_true rfl, Nat.le_of_ble_eq_true rfl⟩) (hPreVr hE hS (hrecv hE hW h0 (q := (RX4, TX4, 9)) rfl)) rfl rfl hl.1 rfl (lv_room (Nat.le_of_ble_eq_true rfl)) dX4_able_2 ⟨Nat.le_of_ble_eq_true rfl, Nat.le_of_ble_eq_true rfl⟩) hS (fun locs hS => ?_)
  rw [findF_no hn300 hd, va_rf_n]
  refine lv_astore_nN (lv' := [(3, .null), (0, .ref (ad 0)), (1, .int d), (2, .int w)]) hx hb dX4_able_5 rfl hl (by decide) rfl (fun ls hl => ?_)
  refine lv_aload_nN hx hb dX4_able_6 rfl (lv_at hl 0 rfl) ?_
  refine lv_ifnullN (tgt := 17) hx hb dX4_able_7 (by decide) ?_
  refine lv_iconst (v := (-1)) hx hb dX4_able_17 (by decide) ?_
  exact h_rret S hr hlk hS dX4_able_18 rfl
set_option maxRecDepth 100000 in
set_option maxHeartbeats 4000000 in
theorem c_X4_chain (l : Launch) (G : hG) (H : Heap) {ad : Nat → Nat} {ct : Nat → Option va_E} (hW : hw G ad ct H) {fr : Nat → Option va_E} {n : Nat} {ty : Nat → Int32} {A : AS} {T : TS} {L : LS4} {K : KS} {st0 : Int32} (hR : RC fr G ad ct n ty A T L K st0) (i : Int32)  : Met l yX4_chain wzX4_chain { frames := 1, cells := 0, slots := 0, locals := 21 } (hPr [.ref (ad 0), .int i] G H) (hQr (keptF A.2.2.1 A.2.2.2 i) H G.2.2.2) 0 0 (hA G.2.2.2) := by
  refine hMetr (Qc := fun H => hQr (keptF A.2.2.1 A.2.2.2 i) H G.2.2.2) (by decide) (Nat.le_of_ble_eq_true rfl) (fun p e s m below meth c ls S hr hlk hE hH hl => ?_)
  subst hH
  obtain ⟨hx, hb, hml, hown, hts⟩ := id S
  have hS : va_S (hA G.2.2.2) s.heap s.heap [] := va_S.rf
  have hl : lv_has ls 2 [(0, .ref (ad 0)), (1, .int i)] := hl
  obtain ⟨h0, h1, h2, h3, h4, h5, h6, h7, hdv, hlks, hfr, hn300, hm400, hft, hty⟩ := id hR
  refine lv_aload_n hx hb dX4_chain_0 rfl (lv_at hl 0 rfl) ?_
  refine hr_get S hE hW h0 inX4 (C := RX4) (T := TX4) (N := 9) rfl 1 (by decide) q_f_4_19 rfl dX4_chain_1 ?_
  refine lv_iload_n hx hb dX4_chain_4 rfl (lv_at hl 1 rfl) ?_
  refine hc_r (va_runVN (As := [.int i]) (rest := []) S (c_X3_keptAt l G _ hW h2 h3 i) ⟨va_cnB 1 hts (gWS q_co_X3_keptAt) rfl rfl rfl (hE.nest 28 rfl) (hts _ q_in_3) (by decide +kernel) ⟨Nat.le_of_ble_eq_true rfl, Nat.le_of_ble_eq_true rfl⟩, hts _ q_im_X3_keptAt, hts _ q_se_X3_keptAt⟩ (hPreVr hE hS (hrecv hE hW h2 (q := (RX3, TX3, 2)) rfl)) rfl rfl hl.1 rfl (lv_room (Nat.le_of_ble_eq_true rfl)) dX4_chain_5 ⟨Nat.le_of_ble_eq_true rfl, Nat.le_of_ble_eq_true rfl⟩) hS (fun locs hS => ?_)
  exact h_rret S hr hlk hS dX4_chain_8 rfl
set_option maxRecDepth 100000 in
set_option maxHeartbeats 4000000 in
theorem c_X4_ran (l : Launch) (G : hG) (H : Heap) {ad : Nat → Nat} {ct : Nat → Option va_E} (hW : hw G ad ct H) {fr : Nat → Option va_E} {n : Nat} {ty : Nat → Int32} {A : AS} {T : TS} {L : LS4} {K : KS} {st0 : Int32} (hR : RC fr G ad ct n ty A T L K st0)   : Met l yX4_ran wzX4_ran { frames := 0, cells := 0, slots := 0, locals := 0 } (hPr [.ref (ad 0)] G H) (hQr (A.2.2.1) H G.2.2.2) 0 0 (hA G.2.2.2) := by
  refine hMetr (Qc := fun H => hQr (A.2.2.1) H G.2.2.2) (by decide) (Nat.le_of_ble_eq_true rfl) (fun p e s m below meth c ls S hr hlk hE hH hl => ?_)
  subst hH
  obtain ⟨hx, hb, hml, hown, hts⟩ := id S
  have hS : va_S (hA G.2.2.2) s.heap s.heap [] := va_S.rf
  have hl : lv_has ls 1 [(0, .ref (ad 0))] := hl
  obtain ⟨h0, h1, h2, h3, h4, h5, h6, h7, hdv, hlks, hfr, hn300, hm400, hft, hty⟩ := id hR
  refine lv_aload_n hx hb dX4_ran_0 rfl (lv_at hl 0 rfl) ?_
  refine hr_get S hE hW h0 inX4 (C := RX4) (T := TX4) (N := 9) rfl 1 (by decide) q_f_4_19 rfl dX4_ran_1 ?_
  refine hr_getN S hE hW h2 inX3 (C := RX3) (T := TX3) (N := 2) rfl 1 (by decide) (hE.nest 0 rfl) rfl dX4_ran_4 ?_
  exact h_rret S hr hlk hS dX4_ran_7 rfl
set_option maxRecDepth 100000 in
set_option maxHeartbeats 4000000 in
theorem c_X4_status (l : Launch) (G : hG) (H : Heap) {ad : Nat → Nat} {ct : Nat → Option va_E} (hW : hw G ad ct H) {fr : Nat → Option va_E} {n : Nat} {ty : Nat → Int32} {A : AS} {T : TS} {L : LS4} {K : KS} {st0 : Int32} (hR : RC fr G ad ct n ty A T L K st0)   : Met l yX4_status wzX4_status { frames := 0, cells := 0, slots := 0, locals := 0 } (hPr [.ref (ad 0)] G H) (hQr (st0) H G.2.2.2) 0 0 (hA G.2.2.2) := by
  refine hMetr (Qc := fun H => hQr (st0) H G.2.2.2) (by decide) (Nat.le_of_ble_eq_true rfl) (fun p e s m below meth c ls S hr hlk hE hH hl => ?_)
  subst hH
  obtain ⟨hx, hb, hml, hown, hts⟩ := id S
  have hS : va_S (hA G.2.2.2) s.heap s.heap [] := va_S.rf
  have hl : lv_has ls 1 [(0, .ref (ad 0))] := hl
  obtain ⟨h0, h1, h2, h3, h4, h5, h6, h7, hdv, hlks, hfr, hn300, hm400, hft, hty⟩ := id hR
  refine lv_aload_n hx hb dX4_status_0 rfl (lv_at hl 0 rfl) ?_
  refine hr_get S hE hW h0 inX4 (C := RX4) (T := TX4) (N := 9) rfl 8 (by decide) q_f_4_32 rfl dX4_status_1 ?_
  exact h_rret S hr hlk hS dX4_status_4 rfl
set_option maxRecDepth 100000 in
set_option maxHeartbeats 4000000 in
theorem c_X4_countBearers (l : Launch) (G : hG) (H : Heap) {ad : Nat → Nat} {ct : Nat → Option va_E} (hW : hw G ad ct H) {fr : Nat → Option va_E} {n : Nat} {ty : Nat → Int32} {A : AS} {T : TS} {L : LS4} {K : KS} {st0 : Int32} (hR : RC fr G ad ct n ty A T L K st0) (w : Int32)  : Met l yX4_countBearers wzX4_countBearers { frames := 3, cells := 0, slots := 0, locals := 64 } (hPr [.ref (ad 0), .int w] G H) (hQr (cbL ty w n 0 0) H G.2.2.2) 0 0 (hA G.2.2.2) := by
  refine hMetr (Qc := fun H => hQr (cbL ty w n 0 0) H G.2.2.2) (by decide) (Nat.le_of_ble_eq_true rfl) (fun p e s m below meth c ls S hr hlk hE hH hl => ?_)
  subst hH
  obtain ⟨hx, hb, hml, hown, hts⟩ := id S
  have hS : va_S (hA G.2.2.2) s.heap s.heap [] := va_S.rf
  have hl : lv_has ls 5 [(0, .ref (ad 0)), (1, .int w)] := hl
  obtain ⟨h0, h1, h2, h3, h4, h5, h6, h7, hdv, hlks, hfr, hn300, hm400, hft, hty⟩ := id hR
  refine lv_iconst (v := 0) hx hb dX4_countBearers_0 (by decide) ?_
  refine lv_istore_n (lv' := [(2, .int 0), (0, .ref (ad 0)), (1, .int w)]) hx hb dX4_countBearers_1 rfl hl (by decide) rfl (fun ls hl => ?_)
  refine lv_iconst (v := 0) hx hb dX4_countBearers_2 (by decide) ?_
  refine lv_istore_n (lv' := [(3, .int 0), (2, .int 0), (0, .ref (ad 0)), (1, .int w)]) hx hb dX4_countBearers_3 rfl hl (by decide) rfl (fun ls hl => ?_)
  have loop : ∀ (rem k : Nat) (a : Int32) (locs : List Loc) (ls : Array Slot), k + rem = n → (cbL ty w n 0 0 = cbL ty w rem k a) → va_S (hA G.2.2.2) s.heap s.heap locs → lv_has ls 5 [(3, .int (nI k)), (2, .int a), (0, .ref (ad 0)), (1, .int w)] → W p l e { frames := 3, cells := 0, slots := 0, locals := 64 } s m ([.ref (ad 0), .int w] : List Value).toArray below meth c s.heap locs 0 0 (MQ below (hQr (cbL ty w n 0 0) s.heap G.2.2.2) ([.ref (ad 0), .int w] : List Value).toArray s 0 0 (hA G.2.2.2)) (F0 m 4 ls []) := by
    intro rem
    induction rem with
    | zero =>
      intro k a locs ls hnk hv hS hl
      refine lv_iload_n hx hb dX4_countBearers_4 rfl (lv_at hl 0 rfl) ?_
      refine lv_aload_n hx hb dX4_countBearers_5 rfl (lv_at hl 2 rfl) ?_
      refine hr_get S hE hW h0 inX4 (C := RX4) (T := TX4) (N := 9) rfl 4 (by decide) q_f_4_36 rfl dX4_countBearers_6 ?_
      refine lv_icmp_ge (tgt := 42) hx hb dX4_countBearers_9 (by decide) (fun _ => ?_) (fun q => absurd (nI_le (by omega) (by omega)) q)
      refine lv_iload_n hx hb dX4_countBearers_42 rfl (lv_at hl 1 rfl) ?_
      exact h_rret S hr hlk hS dX4_countBearers_43 (by rw [hv]; rfl)
    | succ rem ih =>
      intro k a locs ls hnk hv hS hl
      have hkn : k < n := by omega
      have hd_k := hdv k hkn
      refine lv_iload_n hx hb dX4_countBearers_4 rfl (lv_at hl 0 rfl) ?_
      refine lv_aload_n hx hb dX4_countBearers_5 rfl (lv_at hl 2 rfl) ?_
      refine hr_get S hE hW h0 inX4 (C := RX4) (T := TX4) (N := 9) rfl 4 (by decide) q_f_4_36 rfl dX4_countBearers_6 ?_
      refine lv_icmp_ge (tgt := 42) hx hb dX4_countBearers_9 (by decide) (fun q => absurd q (nI_ge (by omega) (by omega))) (fun _ => ?_)
      refine lv_aload_n hx hb dX4_countBearers_12 rfl (lv_at hl 2 rfl) ?_
      refine lv_iload_n hx hb dX4_countBearers_13 rfl (lv_at hl 0 rfl) ?_
      refine hc_rq (va_runV (As := [.int (nI k)]) (rest := []) S (c_X4_find l G _ hW h0 h6 (nI k)) (cwV 1 hts (gWSV q_l_4_42 q_im_X4_find q_se_X4_find q_in_4 q_co_X4_find) rfl rfl rfl (by decide +kernel) ⟨Nat.le_of_ble_eq_true rfl, Nat.le_of_ble_eq_true rfl⟩) (hPreVr hE hS (hrecv hE hW h0 (q := (RX4, TX4, 9)) rfl)) rfl rfl hl.1 rfl (lv_room (Nat.le_of_ble_eq_true rfl)) dX4_countBearers_14 ⟨Nat.le_of_ble_eq_true rfl, Nat.le_of_ble_eq_true rfl⟩) hS (fun locs hS => ?_)
      rw [findF_ok hn300 hkn, va_rf_s]
      refine lv_astore (lv' := [(4, .ref (ad (100 + 2 * k))), (3, .int (nI k)), (2, .int a), (0, .ref (ad 0)), (1, .int w)]) hx hb dX4_countBearers_17 hl (by decide) rfl (fun ls hl => ?_)
      refine lv_aload hx hb dX4_countBearers_19 (lv_at hl 0 rfl) ?_
      refine lv_ifnull hx hb dX4_countBearers_21 ?_
      refine lv_aload hx hb dX4_countBearers_24 (lv_at hl 0 rfl) ?_
      refine lv_iload_n hx hb dX4_countBearers_26 rfl (lv_at hl 4 rfl) ?_
      refine hc_r (va_runVN (As := [.int w]) (rest := []) S (c_X0_bears l G _ hW (r := (rvL [va_rf (lkF ad (geL L.2.1 k L.1 0)), va_rf (lkF ad (lstL L.2.1 k L.1)), .int (nI (cntL L.2.1 k L.1)), .int (nI (cntL L.2.2 k L.1)), .int (T.1 k), .int (T.2.1 k), .int (T.2.2 k)])) hd_k h1 h4 w) ⟨va_cnB 1 hts (gWS q_co_X0_bears) rfl rfl rfl (hE.nest 14 rfl) (hts _ q_in_0) (by decide +kernel) ⟨Nat.le_of_ble_eq_true rfl, Nat.le_of_ble_eq_true rfl⟩, hts _ q_im_X0_bears, hts _ q_se_X0_bears⟩ (hPreVr hE hS (hrecv hE hW hd_k (q := (RX0, TX0, 13)) rfl)) rfl rfl hl.1 rfl (lv_room (Nat.le_of_ble_eq_true rfl)) dX4_countBearers_27 ⟨Nat.le_of_ble_eq_true rfl, Nat.le_of_ble_eq_true rfl⟩) hS (fun locs hS => ?_)
      refine lv_if_eq (tgt := 36) hx hb dX4_countBearers_30 (by decide) (fun c_30 => ?_) (fun c_30 => ?_)
      · refine lv_iinc (v := (nI (k + 1))) (lv' := [(3, .int (nI (k + 1))), (4, .ref (ad (100 + 2 * k))), (2, .int a), (0, .ref (ad 0)), (1, .int w)]) hx hb dX4_countBearers_36 hl (k := 1) rfl (nI_1 k) (by decide) rfl (fun ls hl => ?_)
        refine lv_goto (tgt := 4) hx hb dX4_countBearers_39 (by decide) ?_
        exact ih (k + 1) a _ _ (by omega) (by rw [hv, cbL, if_pos c_30]) hS (lv_sub hl [0, 2, 3, 4] rfl)
      · refine lv_iinc (v := (a + 1)) (lv' := [(2, .int (a + 1)), (4, .ref (ad (100 + 2 * k))), (3, .int (nI k)), (0, .ref (ad 0)), (1, .int w)]) hx hb dX4_countBearers_33 hl (k := 2) rfl rfl (by decide) rfl (fun ls hl => ?_)
        refine lv_iinc (v := (nI (k + 1))) (lv' := [(3, .int (nI (k + 1))), (2, .int (a + 1)), (4, .ref (ad (100 + 2 * k))), (0, .ref (ad 0)), (1, .int w)]) hx hb dX4_countBearers_36 hl (k := 2) rfl (nI_1 k) (by decide) rfl (fun ls hl => ?_)
        refine lv_goto (tgt := 4) hx hb dX4_countBearers_39 (by decide) ?_
        exact ih (k + 1) (a + 1) _ _ (by omega) (by rw [hv, cbL, if_neg c_30]) hS (lv_sub hl [0, 1, 3, 4] rfl)
  exact loop n 0 0 _ _ (by omega) rfl hS (lv_sub hl [0, 1, 2, 3] rfl)
set_option maxRecDepth 100000 in
set_option maxHeartbeats 4000000 in
theorem c_X4_size (l : Launch) (G : hG) (H : Heap) {ad : Nat → Nat} {ct : Nat → Option va_E} (hW : hw G ad ct H) {fr : Nat → Option va_E} {n : Nat} {ty : Nat → Int32} {A : AS} {T : TS} {L : LS4} {K : KS} {st0 : Int32} (hR : RC fr G ad ct n ty A T L K st0) (w : Int32)  : Met l yX4_size wzX4_size { frames := 4, cells := 0, slots := 0, locals := 88 } (hPr [.ref (ad 0), .int w] G H) (hQr (sizeF n L.1 ty w) H G.2.2.2) 0 0 (hA G.2.2.2) := by
  refine hMetr (Qc := fun H => hQr (sizeF n L.1 ty w) H G.2.2.2) (by decide) (Nat.le_of_ble_eq_true rfl) (fun p e s m below meth c ls S hr hlk hE hH hl => ?_)
  subst hH
  obtain ⟨hx, hb, hml, hown, hts⟩ := id S
  have hS : va_S (hA G.2.2.2) s.heap s.heap [] := va_S.rf
  have hl : lv_has ls 2 [(0, .ref (ad 0)), (1, .int w)] := hl
  obtain ⟨h0, h1, h2, h3, h4, h5, h6, h7, hdv, hlks, hfr, hn300, hm400, hft, hty⟩ := id hR
  refine lv_iload_n hx hb dX4_size_0 rfl (lv_at hl 1 rfl) ?_
  refine lv_if_ne (tgt := 9) hx hb dX4_size_1 (by decide) (fun c_1 => ?_) (fun c_1 => ?_)
  · refine lv_iload_n hx hb dX4_size_9 rfl (lv_at hl 1 rfl) ?_
    refine lv_iconst (v := 1) hx hb dX4_size_10 (by decide) ?_
    refine lv_icmp_ne (tgt := 19) hx hb dX4_size_11 (by decide) (fun c_11 => ?_) (fun c_11 => ?_)
    · refine lv_iload_n hx hb dX4_size_19 rfl (lv_at hl 1 rfl) ?_
      refine lv_iconst (v := 2) hx hb dX4_size_20 (by decide) ?_
      refine lv_icmp_lt (tgt := 30) hx hb dX4_size_21 (by decide) (fun c_21 => ?_) (fun c_21 => ?_)
      · refine lv_iconst (v := (-1)) hx hb dX4_size_30 (by decide) ?_
        exact h_rret S hr hlk hS dX4_size_31 (by rw [sizeF, if_neg c_1, if_neg c_11, if_pos c_21])
      · refine lv_iload_n hx hb dX4_size_24 rfl (lv_at hl 1 rfl) ?_
        refine lv_bipush (v := 6) hx hb dX4_size_25 (by decide) ?_
        refine lv_icmp_le (tgt := 32) hx hb dX4_size_27 (by decide) (fun c_27 => ?_) (fun c_27 => ?_)
        · refine lv_aload_n hx hb dX4_size_32 rfl (lv_at hl 0 rfl) ?_
          refine lv_iload_n hx hb dX4_size_33 rfl (lv_at hl 1 rfl) ?_
          refine hc_r (va_runV (As := [.int w]) (rest := []) S (c_X4_countBearers l G _ hW hR w) (cwV 1 hts (gWSV q_l_4_108 q_im_X4_countBearers q_se_X4_countBearers q_in_4 q_co_X4_countBearers) rfl rfl rfl (by decide +kernel) ⟨Nat.le_of_ble_eq_true rfl, Nat.le_of_ble_eq_true rfl⟩) (hPreVr hE hS (hrecv hE hW h0 (q := (RX4, TX4, 9)) rfl)) rfl rfl hl.1 rfl (lv_room (Nat.le_of_ble_eq_true rfl)) dX4_size_34 ⟨Nat.le_of_ble_eq_true rfl, Nat.le_of_ble_eq_true rfl⟩) hS (fun locs hS => ?_)
          exact h_rret S hr hlk hS dX4_size_37 (by rw [sizeF, if_neg c_1, if_neg c_11, if_neg c_21, if_pos c_27])
        · refine lv_iconst (v := (-1)) hx hb dX4_size_30 (by decide) ?_
          exact h_rret S hr hlk hS dX4_size_31 (by rw [sizeF, if_neg c_1, if_neg c_11, if_neg c_21, if_neg c_27])
    · refine lv_aload_n hx hb dX4_size_14 rfl (lv_at hl 0 rfl) ?_
      refine hr_get S hE hW h0 inX4 (C := RX4) (T := TX4) (N := 9) rfl 5 (by decide) q_f_4_63 rfl dX4_size_15 ?_
      exact h_rret S hr hlk hS dX4_size_18 (by rw [sizeF, if_neg c_1, if_pos c_11])
  · refine lv_aload_n hx hb dX4_size_4 rfl (lv_at hl 0 rfl) ?_
    refine hr_get S hE hW h0 inX4 (C := RX4) (T := TX4) (N := 9) rfl 4 (by decide) q_f_4_36 rfl dX4_size_5 ?_
    exact h_rret S hr hlk hS dX4_size_8 (by rw [sizeF, if_pos c_1])
theorem in6 (w : Int32) (h0 : ¬ w < 0) (h1 : w < 6) : w = 0 ∨ w = 1 ∨ w = 2 ∨ w = 3 ∨ w = 4 ∨ w = 5 := by
  obtain ⟨j, hj, rfl⟩ := nI_of h0
  have h : j < 6 := (nI_ltI (b := 6) hj (by omega)).mp h1
  rcases (show j = 0 ∨ j = 1 ∨ j = 2 ∨ j = 3 ∨ j = 4 ∨ j = 5 by omega) with h | h | h | h | h | h <;> subst h
  · exact Or.inl rfl
  · exact Or.inr (Or.inl rfl)
  · exact Or.inr (Or.inr (Or.inl rfl))
  · exact Or.inr (Or.inr (Or.inr (Or.inl rfl)))
  · exact Or.inr (Or.inr (Or.inr (Or.inr (Or.inl rfl))))
  · exact Or.inr (Or.inr (Or.inr (Or.inr (Or.inr rfl))))
set_option maxRecDepth 100000 in
set_option maxHeartbeats 4000000 in
theorem c_X0_fact (l : Launch) (G : hG) (H : Heap) {ad : Nat → Nat} {ct : Nat → Option va_E} (hW : hw G ad ct H) {k : Nat} {t ta0 v c0 lf lt tk lp ta : Int32} {f5 f6 : Value} (hk : ct k = some (.inr (0, [.ref (ad 1), .ref (ad 2), .int t, .int ta0, .int v, .int c0, f5, f6, .int lf, .int lt, .int tk, .int lp, .int ta]))) (w : Int32) (hw6 : w = 0 ∨ w = 1 ∨ w = 2 ∨ w = 3 ∨ w = 4 ∨ w = 5)  : Met l yX0_fact wzX0_fact { frames := 0, cells := 0, slots := 0, locals := 0 } (hPr [.ref (ad k), .int w] G H) (hQr (factF w t v c0 lf lt tk) H G.2.2.2) 0 0 (hA G.2.2.2) := by
  refine hMetr (Qc := fun H => hQr (factF w t v c0 lf lt tk) H G.2.2.2) (by decide) (Nat.le_of_ble_eq_true rfl) (fun p e s m below meth c ls S hr hlk hE hH hl => ?_)
  subst hH
  obtain ⟨hx, hb, hml, hown, hts⟩ := id S
  have hS : va_S (hA G.2.2.2) s.heap s.heap [] := va_S.rf
  have hl : lv_has ls 2 [(0, .ref (ad k)), (1, .int w)] := hl
  refine lv_iload_n hx hb dX0_fact_0 rfl (lv_at hl 1 rfl) ?_
  rcases hw6 with rfl | rfl | rfl | rfl | rfl | rfl
  · refine lv_tableIn (off := 39) (tgt := 40) hx hb dX0_fact_1 (by decide) (by decide) (by decide) (by decide) ?_
    refine lv_aload_n hx hb dX0_fact_40 rfl (lv_at hl 0 rfl) ?_
    refine hr_get S hE hW hk inX0 (C := RX0) (T := TX0) (N := 13) rfl 2 (by decide) q_f_0_19 rfl dX0_fact_41 ?_
    refine lv_bipush (v := 7) hx hb dX0_fact_44 (by decide) ?_
    refine lv_isub hx hb dX0_fact_46 ?_
    exact h_rret S hr hlk hS dX0_fact_47 rfl
  · refine lv_tableIn (off := 47) (tgt := 48) hx hb dX0_fact_1 (by decide) (by decide) (by decide) (by decide) ?_
    refine lv_aload_n hx hb dX0_fact_48 rfl (lv_at hl 0 rfl) ?_
    refine hr_get S hE hW hk inX0 (C := RX0) (T := TX0) (N := 13) rfl 4 (by decide) q_f_0_32 rfl dX0_fact_49 ?_
    exact h_rret S hr hlk hS dX0_fact_52 rfl
  · refine lv_tableIn (off := 52) (tgt := 53) hx hb dX0_fact_1 (by decide) (by decide) (by decide) (by decide) ?_
    refine lv_aload_n hx hb dX0_fact_53 rfl (lv_at hl 0 rfl) ?_
    refine hr_get S hE hW hk inX0 (C := RX0) (T := TX0) (N := 13) rfl 5 (by decide) q_f_0_45 rfl dX0_fact_54 ?_
    exact h_rret S hr hlk hS dX0_fact_57 rfl
  · refine lv_tableIn (off := 57) (tgt := 58) hx hb dX0_fact_1 (by decide) (by decide) (by decide) (by decide) ?_
    refine lv_aload_n hx hb dX0_fact_58 rfl (lv_at hl 0 rfl) ?_
    refine hr_get S hE hW hk inX0 (C := RX0) (T := TX0) (N := 13) rfl 8 (by decide) q_f_0_48 rfl dX0_fact_59 ?_
    exact h_rret S hr hlk hS dX0_fact_62 rfl
  · refine lv_tableIn (off := 62) (tgt := 63) hx hb dX0_fact_1 (by decide) (by decide) (by decide) (by decide) ?_
    refine lv_aload_n hx hb dX0_fact_63 rfl (lv_at hl 0 rfl) ?_
    refine hr_get S hE hW hk inX0 (C := RX0) (T := TX0) (N := 13) rfl 9 (by decide) q_f_0_51 rfl dX0_fact_64 ?_
    exact h_rret S hr hlk hS dX0_fact_67 rfl
  · refine lv_tableIn (off := 67) (tgt := 68) hx hb dX0_fact_1 (by decide) (by decide) (by decide) (by decide) ?_
    refine lv_aload_n hx hb dX0_fact_68 rfl (lv_at hl 0 rfl) ?_
    refine hr_get S hE hW hk inX0 (C := RX0) (T := TX0) (N := 13) rfl 10 (by decide) q_f_0_54 rfl dX0_fact_69 ?_
    exact h_rret S hr hlk hS dX0_fact_72 rfl
set_option maxRecDepth 100000 in
set_option maxHeartbeats 4000000 in
theorem c_X4_state_no (l : Launch) (G : hG) (ad : Nat → Nat) (ct : Nat → Option va_E) {fr : Nat → Option va_E} {n : Nat} {ty : Nat → Int32} {A : AS} {T : TS} {L : LS4} {K : KS} {st0 : Int32} (hR : RC fr G ad ct n ty A T L K st0) {d : Int32} (hd : ∀ i, i < n → d ≠ nI i) (w : Int32)  : Met l yX4_state wzX4_state { frames := 1, cells := 0, slots := 0, locals := 21 } (hPw [.ref (ad 0), .int d, .int w] G ad ct) (hQi (fun r ct1 => r = 0 ∧ RC fr G ad ct1 n ty A T L K 1) G ad) 0 0 (hA G.2.2.2) := by
  refine hMetw (by decide) (Nat.le_of_ble_eq_true rfl) (fun p e s m below meth c ls S hr hlk hE hW hl => ?_)
  obtain ⟨hx, hb, hml, hown, hts⟩ := id S
  have hS : va_S (hA G.2.2.2) s.heap s.heap [] := va_S.rf
  have hl : lv_has ls 4 [(0, .ref (ad 0)), (1, .int d), (2, .int w)] := hl
  obtain ⟨h0, h1, h2, h3, h4, h5, h6, h7, hdv, hlks, hfr, hn300, hm400, hft, hty⟩ := id hR
  refine lv_aload_n hx hb dX4_state_0 rfl (lv_at hl 0 rfl) ?_
  refine lv_iload_n hx hb dX4_state_1 rfl (lv_at hl 1 rfl) ?_
  refine hc_rq (va_runV (As := [.int d]) (rest := []) S (c_X4_find l G _ hW h0 h6 d) (cwV 1 hts (gWSV q_l_4_42 q_im_X4_find q_se_X4_find q_in_4 q_co_X4_find) rfl rfl rfl (by decide +kernel) ⟨Nat.le_of_ble_eq_true rfl, Nat.le_of_ble_eq_true rfl⟩) (hPreVr hE hS (hrecv hE hW h0 (q := (RX4, TX4, 9)) rfl)) rfl rfl hl.1 rfl (lv_room (Nat.le_of_ble_eq_true rfl)) dX4_state_2 ⟨Nat.le_of_ble_eq_true rfl, Nat.le_of_ble_eq_true rfl⟩) hS (fun locs hS => ?_)
  rw [findF_no hn300 hd, va_rf_n]
  refine lv_astore_nN (lv' := [(3, .null), (0, .ref (ad 0)), (1, .int d), (2, .int w)]) hx hb dX4_state_5 rfl hl (by decide) rfl (fun ls hl => ?_)
  refine lv_aload_nN hx hb dX4_state_6 rfl (lv_at hl 0 rfl) ?_
  refine lv_ifnullN (tgt := 20) hx hb dX4_state_7 (by decide) ?_
  refine lv_aload_n hx hb dX4_state_20 rfl (lv_at hl 1 rfl) ?_
  refine lv_iconst (v := 1) hx hb dX4_state_21 (by decide) ?_
  refine hr_put S hE hW hS h0 inX4 (C := RX4) (T := TX4) (N := 9) tyX4_ok nmX4 rfl 8 (by decide) q_f_4_32 rfl rfl rfl (Nat.le_of_ble_eq_true rfl) dX4_state_22 (fun H locs ct_1 hW hk_2 hg_3 hz hS => ?_)
  have hR := RC_o hR hk_2 hg_3
  obtain ⟨h0, h1, h2, h3, h4, h5, h6, h7, hdv, hlks, hfr, hn300, hm400, hft, hty⟩ := id hR
  refine lv_iconst (v := 0) hx hb dX4_state_25 (by decide) ?_
  exact h_iret S hr hlk hS hW dX4_state_26 ⟨rfl, hR⟩
set_option maxRecDepth 100000 in
set_option maxHeartbeats 4000000 in
theorem c_X4_state_ok (l : Launch) (G : hG) (ad : Nat → Nat) (ct : Nat → Option va_E) {fr : Nat → Option va_E} {n : Nat} {ty : Nat → Int32} {A : AS} {T : TS} {L : LS4} {K : KS} {st0 : Int32} (hR : RC fr G ad ct n ty A T L K st0) {i : Nat} (hi : i < n) (w : Int32)  : Met l yX4_state wzX4_state { frames := 1, cells := 0, slots := 0, locals := 21 } (hPw [.ref (ad 0), .int (nI i), .int w] G ad ct) (hQi (fun r ct1 => r = (stateR ty A T L i w).1 ∧ RC fr G ad ct1 n ty A T L K ((stateR ty A T L i w).2)) G ad) 0 0 (hA G.2.2.2) := by
  refine hMetw (by decide) (Nat.le_of_ble_eq_true rfl) (fun p e s m below meth c ls S hr hlk hE hW hl => ?_)
  obtain ⟨hx, hb, hml, hown, hts⟩ := id S
  have hS : va_S (hA G.2.2.2) s.heap s.heap [] := va_S.rf
  have hl : lv_has ls 4 [(0, .ref (ad 0)), (1, .int (nI i)), (2, .int w)] := hl
  obtain ⟨h0, h1, h2, h3, h4, h5, h6, h7, hdv, hlks, hfr, hn300, hm400, hft, hty⟩ := id hR
  have hd_i := hdv i hi
  refine lv_aload_n hx hb dX4_state_0 rfl (lv_at hl 0 rfl) ?_
  refine lv_iload_n hx hb dX4_state_1 rfl (lv_at hl 1 rfl) ?_
  refine hc_rq (va_runV (As := [.int (nI i)]) (rest := []) S (c_X4_find l G _ hW h0 h6 (nI i)) (cwV 1 hts (gWSV q_l_4_42 q_im_X4_find q_se_X4_find q_in_4 q_co_X4_find) rfl rfl rfl (by decide +kernel) ⟨Nat.le_of_ble_eq_true rfl, Nat.le_of_ble_eq_true rfl⟩) (hPreVr hE hS (hrecv hE hW h0 (q := (RX4, TX4, 9)) rfl)) rfl rfl hl.1 rfl (lv_room (Nat.le_of_ble_eq_true rfl)) dX4_state_2 ⟨Nat.le_of_ble_eq_true rfl, Nat.le_of_ble_eq_true rfl⟩) hS (fun locs hS => ?_)
  rw [findF_ok hn300 hi, va_rf_s]
  refine lv_astore_n (lv' := [(3, .ref (ad (100 + 2 * i))), (0, .ref (ad 0)), (1, .int (nI i)), (2, .int w)]) hx hb dX4_state_5 rfl hl (by decide) rfl (fun ls hl => ?_)
  refine lv_aload_n hx hb dX4_state_6 rfl (lv_at hl 0 rfl) ?_
  refine lv_ifnull hx hb dX4_state_7 ?_
  refine lv_iload_n hx hb dX4_state_10 rfl (lv_at hl 3 rfl) ?_
  refine lv_if_lt (tgt := 20) hx hb dX4_state_11 (by decide) (fun c_11 => ?_) (fun c_11 => ?_)
  · refine lv_aload_n hx hb dX4_state_20 rfl (lv_at hl 1 rfl) ?_
    refine lv_iconst (v := 1) hx hb dX4_state_21 (by decide) ?_
    refine hr_put S hE hW hS h0 inX4 (C := RX4) (T := TX4) (N := 9) tyX4_ok nmX4 rfl 8 (by decide) q_f_4_32 rfl rfl rfl (Nat.le_of_ble_eq_true rfl) dX4_state_22 (fun H locs ct_1 hW hk_2 hg_3 hz hS => ?_)
    have hR := RC_o hR hk_2 hg_3
    obtain ⟨h0, h1, h2, h3, h4, h5, h6, h7, hdv, hlks, hfr, hn300, hm400, hft, hty⟩ := id hR
    have hd_i := hdv i hi
    refine lv_iconst (v := 0) hx hb dX4_state_25 (by decide) ?_
    exact h_iret S hr hlk hS hW dX4_state_26 (by rw [stateR, if_pos c_11]; exact ⟨rfl, hR⟩)
  · refine lv_iload_n hx hb dX4_state_14 rfl (lv_at hl 3 rfl) ?_
    refine lv_bipush (v := 6) hx hb dX4_state_15 (by decide) ?_
    refine lv_icmp_lt (tgt := 27) hx hb dX4_state_17 (by decide) (fun c_17 => ?_) (fun c_17 => ?_)
    · refine lv_aload_n hx hb dX4_state_27 rfl (lv_at hl 1 rfl) ?_
      refine lv_iconst (v := 0) hx hb dX4_state_28 (by decide) ?_
      refine hr_put S hE hW hS h0 inX4 (C := RX4) (T := TX4) (N := 9) tyX4_ok nmX4 rfl 8 (by decide) q_f_4_32 rfl rfl rfl (Nat.le_of_ble_eq_true rfl) dX4_state_29 (fun H locs ct_4 hW hk_5 hg_6 hz hS => ?_)
      have hR := RC_o hR hk_5 hg_6
      obtain ⟨h0, h1, h2, h3, h4, h5, h6, h7, hdv, hlks, hfr, hn300, hm400, hft, hty⟩ := id hR
      have hd_i := hdv i hi
      refine lv_aload_n hx hb dX4_state_32 rfl (lv_at hl 0 rfl) ?_
      refine lv_iload_n hx hb dX4_state_33 rfl (lv_at hl 3 rfl) ?_
      refine hc_r (va_runVN (As := [.int w]) (rest := []) S (c_X0_fact l G _ hW (k := 100 + 2 * i) hd_i w (in6 _ c_11 c_17)) ⟨va_cnB 1 hts (gWS q_co_X0_fact) rfl rfl rfl (hE.nest 29 rfl) (hts _ q_in_0) (by decide +kernel) ⟨Nat.le_of_ble_eq_true rfl, Nat.le_of_ble_eq_true rfl⟩, hts _ q_im_X0_fact, hts _ q_se_X0_fact⟩ (hPreVr hE hS (hrecv hE hW hd_i (q := (RX0, TX0, 13)) rfl)) rfl rfl hl.1 rfl (lv_room (Nat.le_of_ble_eq_true rfl)) dX4_state_34 ⟨Nat.le_of_ble_eq_true rfl, Nat.le_of_ble_eq_true rfl⟩) hS (fun locs hS => ?_)
      exact h_iret S hr hlk hS hW dX4_state_37 (by rw [stateR, if_neg c_11, if_pos c_17]; exact ⟨rfl, hR⟩)
    · refine lv_aload_n hx hb dX4_state_20 rfl (lv_at hl 1 rfl) ?_
      refine lv_iconst (v := 1) hx hb dX4_state_21 (by decide) ?_
      refine hr_put S hE hW hS h0 inX4 (C := RX4) (T := TX4) (N := 9) tyX4_ok nmX4 rfl 8 (by decide) q_f_4_32 rfl rfl rfl (Nat.le_of_ble_eq_true rfl) dX4_state_22 (fun H locs ct_7 hW hk_8 hg_9 hz hS => ?_)
      have hR := RC_o hR hk_8 hg_9
      obtain ⟨h0, h1, h2, h3, h4, h5, h6, h7, hdv, hlks, hfr, hn300, hm400, hft, hty⟩ := id hR
      have hd_i := hdv i hi
      refine lv_iconst (v := 0) hx hb dX4_state_25 (by decide) ?_
      exact h_iret S hr hlk hS hW dX4_state_26 (by rw [stateR, if_neg c_11, if_neg c_17]; exact ⟨rfl, hR⟩)
set_option maxRecDepth 100000 in
set_option maxHeartbeats 4000000 in
theorem c_X4_call_no (l : Launch) (G : hG) (ad : Nat → Nat) (ct : Nat → Option va_E) {fr : Nat → Option va_E} {n : Nat} {ty : Nat → Int32} {A : AS} {T : TS} {L : LS4} {K : KS} {st0 : Int32} (hR : RC fr G ad ct n ty A T L K st0) {d : Int32} (hd : ∀ i, i < n → d ≠ nI i) (a w x : Int32)  : Met l yX4_call wzX4_call { frames := 5, cells := 0, slots := 0, locals := 110 } (hPw [.ref (ad 0), .int d, .int a, .int w, .int x] G ad ct) (hQi (fun r ct1 => r = 0 ∧ RC fr G ad ct1 n ty A T L K 1) G ad) 0 0 (hA G.2.2.2) := by
  refine hMetw (by decide) (Nat.le_of_ble_eq_true rfl) (fun p e s m below meth c ls S hr hlk hE hW hl => ?_)
  obtain ⟨hx, hb, hml, hown, hts⟩ := id S
  have hS : va_S (hA G.2.2.2) s.heap s.heap [] := va_S.rf
  have hl : lv_has ls 6 [(0, .ref (ad 0)), (1, .int d), (2, .int a), (3, .int w), (4, .int x)] := hl
  obtain ⟨h0, h1, h2, h3, h4, h5, h6, h7, hdv, hlks, hfr, hn300, hm400, hft, hty⟩ := id hR
  refine lv_aload_n hx hb dX4_call_0 rfl (lv_at hl 0 rfl) ?_
  refine lv_iload_n hx hb dX4_call_1 rfl (lv_at hl 1 rfl) ?_
  refine hc_rq (va_runV (As := [.int d]) (rest := []) S (c_X4_find l G _ hW h0 h6 d) (cwV 1 hts (gWSV q_l_4_42 q_im_X4_find q_se_X4_find q_in_4 q_co_X4_find) rfl rfl rfl (by decide +kernel) ⟨Nat.le_of_ble_eq_true rfl, Nat.le_of_ble_eq_true rfl⟩) (hPreVr hE hS (hrecv hE hW h0 (q := (RX4, TX4, 9)) rfl)) rfl rfl hl.1 rfl (lv_room (Nat.le_of_ble_eq_true rfl)) dX4_call_2 ⟨Nat.le_of_ble_eq_true rfl, Nat.le_of_ble_eq_true rfl⟩) hS (fun locs hS => ?_)
  rw [findF_no hn300 hd, va_rf_n]
  refine lv_astoreN (lv' := [(5, .null), (0, .ref (ad 0)), (1, .int d), (2, .int a), (3, .int w), (4, .int x)]) hx hb dX4_call_5 hl (by decide) rfl (fun ls hl => ?_)
  refine lv_aload_n hx hb dX4_call_7 rfl (lv_at hl 1 rfl) ?_
  refine lv_aloadN hx hb dX4_call_8 (lv_at hl 0 rfl) ?_
  refine lv_iload_n hx hb dX4_call_10 rfl (lv_at hl 3 rfl) ?_
  refine lv_iload_n hx hb dX4_call_11 rfl (lv_at hl 4 rfl) ?_
  refine hc_r (va_runS (As := [.null, .int a, .int w]) (rest := [.ref (ad 0)]) S (c_X4_refusal_n l G _ a w) (va_cwS 3 hts (gWSS q_l_4_46 q_st_X4_refusal q_in_4 q_co_X4_refusal) rfl rfl rfl (by decide +kernel) ⟨Nat.le_of_ble_eq_true rfl, Nat.le_of_ble_eq_true rfl⟩) (hPreSr hE hS) rfl rfl hl.1 rfl (lv_room (Nat.le_of_ble_eq_true rfl)) dX4_call_12 ⟨Nat.le_of_ble_eq_true rfl, Nat.le_of_ble_eq_true rfl⟩) hS (fun locs hS => ?_)
  refine hr_put S hE hW hS h0 inX4 (C := RX4) (T := TX4) (N := 9) tyX4_ok nmX4 rfl 8 (by decide) q_f_4_32 rfl rfl rfl (Nat.le_of_ble_eq_true rfl) dX4_call_15 (fun H locs ct_1 hW hk_2 hg_3 hz hS => ?_)
  have hR := RC_o hR hk_2 hg_3
  obtain ⟨h0, h1, h2, h3, h4, h5, h6, h7, hdv, hlks, hfr, hn300, hm400, hft, hty⟩ := id hR
  refine lv_aloadN hx hb dX4_call_18 (lv_at hl 0 rfl) ?_
  refine lv_ifnullN (tgt := 30) hx hb dX4_call_20 (by decide) ?_
  refine lv_iconst (v := 0) hx hb dX4_call_30 (by decide) ?_
  exact h_iret S hr hlk hS hW dX4_call_31 ⟨rfl, hR⟩
set_option maxRecDepth 100000 in
set_option maxHeartbeats 4000000 in
theorem c_X4_call_ok (l : Launch) (G : hG) (ad : Nat → Nat) (ct : Nat → Option va_E) {fr : Nat → Option va_E} {n : Nat} {ty : Nat → Int32} {A : AS} {T : TS} {L : LS4} {K : KS} {st0 : Int32} (hR : RC fr G ad ct n ty A T L K st0) {i : Nat} (hi : i < n) (a w x : Int32)  : Met l yX4_call wzX4_call { frames := 125, cells := 0, slots := 0, locals := 2888 } (hPw [.ref (ad 0), .int (nI i), .int a, .int w, .int x] G ad ct) (hQi (fun r ct1 => r = (callR ty i a w x A).1 ∧ RC fr G ad ct1 n ty ((callR ty i a w x A).2.1) T L K ((callR ty i a w x A).2.2)) G ad) 0 0 (hA G.2.2.2) := by
  refine hMetw (by decide) (Nat.le_of_ble_eq_true rfl) (fun p e s m below meth c ls S hr hlk hE hW hl => ?_)
  obtain ⟨hx, hb, hml, hown, hts⟩ := id S
  have hS : va_S (hA G.2.2.2) s.heap s.heap [] := va_S.rf
  have hl : lv_has ls 6 [(0, .ref (ad 0)), (1, .int (nI i)), (2, .int a), (3, .int w), (4, .int x)] := hl
  obtain ⟨h0, h1, h2, h3, h4, h5, h6, h7, hdv, hlks, hfr, hn300, hm400, hft, hty⟩ := id hR
  have hd_i := hdv i hi
  refine lv_aload_n hx hb dX4_call_0 rfl (lv_at hl 0 rfl) ?_
  refine lv_iload_n hx hb dX4_call_1 rfl (lv_at hl 1 rfl) ?_
  refine hc_rq (va_runV (As := [.int (nI i)]) (rest := []) S (c_X4_find l G _ hW h0 h6 (nI i)) (cwV 1 hts (gWSV q_l_4_42 q_im_X4_find q_se_X4_find q_in_4 q_co_X4_find) rfl rfl rfl (by decide +kernel) ⟨Nat.le_of_ble_eq_true rfl, Nat.le_of_ble_eq_true rfl⟩) (hPreVr hE hS (hrecv hE hW h0 (q := (RX4, TX4, 9)) rfl)) rfl rfl hl.1 rfl (lv_room (Nat.le_of_ble_eq_true rfl)) dX4_call_2 ⟨Nat.le_of_ble_eq_true rfl, Nat.le_of_ble_eq_true rfl⟩) hS (fun locs hS => ?_)
  rw [findF_ok hn300 hi, va_rf_s]
  refine lv_astore (lv' := [(5, .ref (ad (100 + 2 * i))), (0, .ref (ad 0)), (1, .int (nI i)), (2, .int a), (3, .int w), (4, .int x)]) hx hb dX4_call_5 hl (by decide) rfl (fun ls hl => ?_)
  refine lv_aload_n hx hb dX4_call_7 rfl (lv_at hl 1 rfl) ?_
  refine lv_aload hx hb dX4_call_8 (lv_at hl 0 rfl) ?_
  refine lv_iload_n hx hb dX4_call_10 rfl (lv_at hl 3 rfl) ?_
  refine lv_iload_n hx hb dX4_call_11 rfl (lv_at hl 4 rfl) ?_
  refine hc_r (va_runS (As := [.ref (ad (100 + 2 * i)), .int a, .int w]) (rest := [.ref (ad 0)]) S (c_X4_refusal l G _ hW (r := (rvL [va_rf (lkF ad (geL L.2.1 i L.1 0)), va_rf (lkF ad (lstL L.2.1 i L.1)), .int (nI (cntL L.2.1 i L.1)), .int (nI (cntL L.2.2 i L.1)), .int (T.1 i), .int (T.2.1 i), .int (T.2.2 i)])) hd_i h1 h4 a w) (va_cwS 3 hts (gWSS q_l_4_46 q_st_X4_refusal q_in_4 q_co_X4_refusal) rfl rfl rfl (by decide +kernel) ⟨Nat.le_of_ble_eq_true rfl, Nat.le_of_ble_eq_true rfl⟩) (hPreSr hE hS) rfl rfl hl.1 rfl (lv_room (Nat.le_of_ble_eq_true rfl)) dX4_call_12 ⟨Nat.le_of_ble_eq_true rfl, Nat.le_of_ble_eq_true rfl⟩) hS (fun locs hS => ?_)
  refine hr_put S hE hW hS h0 inX4 (C := RX4) (T := TX4) (N := 9) tyX4_ok nmX4 rfl 8 (by decide) q_f_4_32 rfl rfl rfl (Nat.le_of_ble_eq_true rfl) dX4_call_15 (fun H locs ct_1 hW hk_2 hg_3 hz hS => ?_)
  have hR := RC_o hR hk_2 hg_3
  obtain ⟨h0, h1, h2, h3, h4, h5, h6, h7, hdv, hlks, hfr, hn300, hm400, hft, hty⟩ := id hR
  have hd_i := hdv i hi
  refine lv_aload hx hb dX4_call_18 (lv_at hl 0 rfl) ?_
  refine lv_ifnull hx hb dX4_call_20 ?_
  refine lv_aload_n hx hb dX4_call_23 rfl (lv_at hl 1 rfl) ?_
  refine hr_get S hE hW h0 inX4 (C := RX4) (T := TX4) (N := 9) rfl 8 (by decide) q_f_4_32 rfl dX4_call_24 ?_
  refine lv_if_eq (tgt := 32) hx hb dX4_call_27 (by decide) (fun c_27 => ?_) (fun c_27 => ?_)
  · refine lv_aload_n hx hb dX4_call_32 rfl (lv_at hl 1 rfl) ?_
    refine hr_get S hE hW h0 inX4 (C := RX4) (T := TX4) (N := 9) rfl 1 (by decide) q_f_4_19 rfl dX4_call_33 ?_
    refine hc_v (va_runVN (As := []) (rest := []) S (c_X3_clear l G ad _ h2) ⟨va_cnB 0 hts (gWS q_co_X3_clear) rfl rfl rfl (hE.nest 19 rfl) (hts _ q_in_3) (by decide +kernel) ⟨Nat.le_of_ble_eq_true rfl, Nat.le_of_ble_eq_true rfl⟩, hts _ q_im_X3_clear, hts _ q_se_X3_clear⟩ (hPreVw hE hS (hrecv hE hW h2 (q := (RX3, TX3, 2)) rfl) hW) rfl rfl hl.1 rfl (lv_room (Nat.le_of_ble_eq_true rfl)) dX4_call_36 ⟨Nat.le_of_ble_eq_true rfl, Nat.le_of_ble_eq_true rfl⟩) hS (fun ct_4 H locs hp hW hS => ?_)
    obtain ⟨h_5, hg_6⟩ := hp
    have hR := RC_t hR h_5 hg_6
    obtain ⟨h0, h1, h2, h3, h4, h5, h6, h7, hdv, hlks, hfr, hn300, hm400, hft, hty⟩ := id hR
    have hd_i := hdv i hi
    refine lv_aload hx hb dX4_call_39 (lv_at hl 0 rfl) ?_
    refine lv_iload_n hx hb dX4_call_41 rfl (lv_at hl 3 rfl) ?_
    refine lv_iload hx hb dX4_call_42 (lv_at hl 5 rfl) ?_
    refine hc_i (va_runVN (As := [.int a, .int x]) (rest := []) S (c_X0_answer l G ad _ (k := 100 + 2 * i) (t := ty i) (r := (rvL [va_rf (lkF ad (geL L.2.1 i L.1 0)), va_rf (lkF ad (lstL L.2.1 i L.1)), .int (nI (cntL L.2.1 i L.1)), .int (nI (cntL L.2.2 i L.1)), .int (T.1 i), .int (T.2.1 i), .int (T.2.2 i)])) (q := (getD i (clrA A))) (by omega) h1 h5 ⟨hd_i, h2, h3⟩ a x) ⟨va_cnB 2 hts (gWS q_co_X0_answer) rfl rfl rfl (hE.nest 20 rfl) (hts _ q_in_0) (by decide +kernel) ⟨Nat.le_of_ble_eq_true rfl, Nat.le_of_ble_eq_true rfl⟩, hts _ q_im_X0_answer, hts _ q_se_X0_answer⟩ (hPreVw hE hS (hrecv hE hW hd_i (q := (RX0, TX0, 13)) rfl) hW) rfl rfl hl.1 rfl (lv_room (Nat.le_of_ble_eq_true rfl)) dX4_call_44 ⟨Nat.le_of_ble_eq_true rfl, Nat.le_of_ble_eq_true rfl⟩) hS (fun rv_13 ct_7 H locs hp hW hS => ?_)
    obtain ⟨ev_12, ⟨h_8, h_9, h_10⟩, hg_11⟩ := hp
    subst ev_12
    have hR := RC_d (q := (runS 40 (ty i) (selOfF selT (ty i) a) x (getD i (clrA A))).2) hR hi h_8 h_9 h_10 hg_11
    obtain ⟨h0, h1, h2, h3, h4, h5, h6, h7, hdv, hlks, hfr, hn300, hm400, hft, hty⟩ := id hR
    have hd_i := hdv i hi
    exact h_iret S hr hlk hS hW dX4_call_47 (by rw [c_27] at hR; rw [callR, if_pos c_27]; exact ⟨rfl, hR⟩)
  · refine lv_iconst (v := 0) hx hb dX4_call_30 (by decide) ?_
    exact h_iret S hr hlk hS hW dX4_call_31 (by rw [callR, if_neg c_27]; exact ⟨rfl, hR⟩)
set_option maxRecDepth 100000 in
set_option maxHeartbeats 4000000 in
theorem c_X4_every (l : Launch) (G : hG) (ad : Nat → Nat) (ct : Nat → Option va_E) {fr : Nat → Option va_E} {n : Nat} {ty : Nat → Int32} {A : AS} {T : TS} {L : LS4} {K : KS} {st0 : Int32} (hR : RC fr G ad ct n ty A T L K st0) (a w x : Int32)  : Met l yX4_every wzX4_every { frames := 125, cells := 0, slots := 0, locals := 2888 } (hPw [.ref (ad 0), .int a, .int w, .int x] G ad ct) (hQi (fun r ct1 => r = (everyR n ty a w x A).1 ∧ RC fr G ad ct1 n ty ((everyR n ty a w x A).2.1) T L K ((everyR n ty a w x A).2.2)) G ad) 0 0 (hA G.2.2.2) := by
  refine hMetw (by decide) (Nat.le_of_ble_eq_true rfl) (fun p e s m below meth c ls S hr hlk hE hW hl => ?_)
  obtain ⟨hx, hb, hml, hown, hts⟩ := id S
  have hS : va_S (hA G.2.2.2) s.heap s.heap [] := va_S.rf
  have hl : lv_has ls 7 [(0, .ref (ad 0)), (1, .int a), (2, .int w), (3, .int x)] := hl
  obtain ⟨h0, h1, h2, h3, h4, h5, h6, h7, hdv, hlks, hfr, hn300, hm400, hft, hty⟩ := id hR
  refine lv_aload_n hx hb dX4_every_0 rfl (lv_at hl 0 rfl) ?_
  refine lv_aload_n hx hb dX4_every_1 rfl (lv_at hl 0 rfl) ?_
  refine lv_iload_n hx hb dX4_every_2 rfl (lv_at hl 1 rfl) ?_
  refine lv_iload_n hx hb dX4_every_3 rfl (lv_at hl 2 rfl) ?_
  refine hc_r (va_runV (As := [.int a, .int w]) (rest := [.ref (ad 0)]) S (c_X4_refusalOfAll l G _ hW h0 h1 a w) (cwV 2 hts (gWSV q_l_4_57 q_im_X4_refusalOfAll q_se_X4_refusalOfAll q_in_4 q_co_X4_refusalOfAll) rfl rfl rfl (by decide +kernel) ⟨Nat.le_of_ble_eq_true rfl, Nat.le_of_ble_eq_true rfl⟩) (hPreVr hE hS (hrecv hE hW h0 (q := (RX4, TX4, 9)) rfl)) rfl rfl hl.1 rfl (lv_room (Nat.le_of_ble_eq_true rfl)) dX4_every_4 ⟨Nat.le_of_ble_eq_true rfl, Nat.le_of_ble_eq_true rfl⟩) hS (fun locs hS => ?_)
  refine hr_put S hE hW hS h0 inX4 (C := RX4) (T := TX4) (N := 9) tyX4_ok nmX4 rfl 8 (by decide) q_f_4_32 rfl rfl rfl (Nat.le_of_ble_eq_true rfl) dX4_every_7 (fun H locs ct_1 hW hk_2 hg_3 hz hS => ?_)
  have hR := RC_o hR hk_2 hg_3
  obtain ⟨h0, h1, h2, h3, h4, h5, h6, h7, hdv, hlks, hfr, hn300, hm400, hft, hty⟩ := id hR
  refine lv_aload_n hx hb dX4_every_10 rfl (lv_at hl 0 rfl) ?_
  refine hr_get S hE hW h0 inX4 (C := RX4) (T := TX4) (N := 9) rfl 8 (by decide) q_f_4_32 rfl dX4_every_11 ?_
  refine lv_if_eq (tgt := 19) hx hb dX4_every_14 (by decide) (fun c_14 => ?_) (fun c_14 => ?_)
  · refine lv_aload_n hx hb dX4_every_19 rfl (lv_at hl 0 rfl) ?_
    refine hr_get S hE hW h0 inX4 (C := RX4) (T := TX4) (N := 9) rfl 1 (by decide) q_f_4_19 rfl dX4_every_20 ?_
    refine hc_v (va_runVN (As := []) (rest := []) S (c_X3_clear l G ad _ h2) ⟨va_cnB 0 hts (gWS q_co_X3_clear) rfl rfl rfl (hE.nest 19 rfl) (hts _ q_in_3) (by decide +kernel) ⟨Nat.le_of_ble_eq_true rfl, Nat.le_of_ble_eq_true rfl⟩, hts _ q_im_X3_clear, hts _ q_se_X3_clear⟩ (hPreVw hE hS (hrecv hE hW h2 (q := (RX3, TX3, 2)) rfl) hW) rfl rfl hl.1 rfl (lv_room (Nat.le_of_ble_eq_true rfl)) dX4_every_23 ⟨Nat.le_of_ble_eq_true rfl, Nat.le_of_ble_eq_true rfl⟩) hS (fun ct_4 H locs hp hW hS => ?_)
    obtain ⟨h_5, hg_6⟩ := hp
    have hR := RC_t hR h_5 hg_6
    obtain ⟨h0, h1, h2, h3, h4, h5, h6, h7, hdv, hlks, hfr, hn300, hm400, hft, hty⟩ := id hR
    refine lv_iconst (v := 0) hx hb dX4_every_26 (by decide) ?_
    refine lv_istore (lv' := [(4, .int 0), (0, .ref (ad 0)), (1, .int a), (2, .int w), (3, .int x)]) hx hb dX4_every_27 hl (by decide) rfl (fun ls hl => ?_)
    refine lv_iconst (v := 0) hx hb dX4_every_29 (by decide) ?_
    refine lv_istore (lv' := [(5, .int 0), (4, .int 0), (0, .ref (ad 0)), (1, .int a), (2, .int w), (3, .int x)]) hx hb dX4_every_30 hl (by decide) rfl (fun ls hl => ?_)
    rw [c_14] at hR
    have loop : ∀ (rem k : Nat) (z : Int32) (B : AS) (ct : Nat → Option va_E) (H : Heap) (locs : List Loc) (ls : Array Slot), k + rem = n → (everyR n ty a w x A = ((evL ty a w x rem k z B).1, (evL ty a w x rem k z B).2, 0)) → RC fr G ad ct n ty B T L (K.1, K.2.1, K.2.2) 0 → hw G ad ct H → va_S (hA G.2.2.2) s.heap H locs → lv_has ls 7 [(5, .int (nI k)), (4, .int z), (0, .ref (ad 0)), (1, .int a), (2, .int w), (3, .int x)] → W p l e { frames := 125, cells := 0, slots := 0, locals := 2888 } s m ([.ref (ad 0), .int a, .int w, .int x] : List Value).toArray below meth c H locs 0 0 (MQ below (hQi (fun r ct1 => r = (everyR n ty a w x A).1 ∧ RC fr G ad ct1 n ty ((everyR n ty a w x A).2.1) T L K ((everyR n ty a w x A).2.2)) G ad) ([.ref (ad 0), .int a, .int w, .int x] : List Value).toArray s 0 0 (hA G.2.2.2)) (F0 m 32 ls []) := by
      intro rem
      induction rem with
      | zero =>
        intro k z B ct H locs ls hnk hv hR hW hS hl
        obtain ⟨h0, h1, h2, h3, h4, h5, h6, h7, hdv, hlks, hfr, hn300, hm400, hft, hty⟩ := id hR
        refine lv_iload hx hb dX4_every_32 (lv_at hl 0 rfl) ?_
        refine lv_aload_n hx hb dX4_every_34 rfl (lv_at hl 2 rfl) ?_
        refine hr_get S hE hW h0 inX4 (C := RX4) (T := TX4) (N := 9) rfl 4 (by decide) q_f_4_36 rfl dX4_every_35 ?_
        refine lv_icmp_ge (tgt := 82) hx hb dX4_every_38 (by decide) (fun _ => ?_) (fun q => absurd (nI_le (by omega) (by omega)) q)
        refine lv_iload hx hb dX4_every_82 (lv_at hl 1 rfl) ?_
        exact h_iret S hr hlk hS hW dX4_every_84 (by rw [hv]; exact ⟨rfl, hR⟩)
      | succ rem ih =>
        intro k z B ct H locs ls hnk hv hR hW hS hl
        have hkn : k < n := by omega
        obtain ⟨h0, h1, h2, h3, h4, h5, h6, h7, hdv, hlks, hfr, hn300, hm400, hft, hty⟩ := id hR
        have hd_k := hdv k hkn
        refine lv_iload hx hb dX4_every_32 (lv_at hl 0 rfl) ?_
        refine lv_aload_n hx hb dX4_every_34 rfl (lv_at hl 2 rfl) ?_
        refine hr_get S hE hW h0 inX4 (C := RX4) (T := TX4) (N := 9) rfl 4 (by decide) q_f_4_36 rfl dX4_every_35 ?_
        refine lv_icmp_ge (tgt := 82) hx hb dX4_every_38 (by decide) (fun q => absurd q (nI_ge (by omega) (by omega))) (fun _ => ?_)
        refine lv_aload_n hx hb dX4_every_41 rfl (lv_at hl 2 rfl) ?_
        refine lv_iload hx hb dX4_every_42 (lv_at hl 0 rfl) ?_
        refine hc_rq (va_runV (As := [.int (nI k)]) (rest := []) S (c_X4_find l G _ hW h0 h6 (nI k)) (cwV 1 hts (gWSV q_l_4_42 q_im_X4_find q_se_X4_find q_in_4 q_co_X4_find) rfl rfl rfl (by decide +kernel) ⟨Nat.le_of_ble_eq_true rfl, Nat.le_of_ble_eq_true rfl⟩) (hPreVr hE hS (hrecv hE hW h0 (q := (RX4, TX4, 9)) rfl)) rfl rfl hl.1 rfl (lv_room (Nat.le_of_ble_eq_true rfl)) dX4_every_44 ⟨Nat.le_of_ble_eq_true rfl, Nat.le_of_ble_eq_true rfl⟩) hS (fun locs hS => ?_)
        rw [findF_ok hn300 hkn, va_rf_s]
        refine lv_astore (lv' := [(6, .ref (ad (100 + 2 * k))), (5, .int (nI k)), (4, .int z), (0, .ref (ad 0)), (1, .int a), (2, .int w), (3, .int x)]) hx hb dX4_every_47 hl (by decide) rfl (fun ls hl => ?_)
        refine lv_aload hx hb dX4_every_49 (lv_at hl 0 rfl) ?_
        refine lv_ifnull hx hb dX4_every_51 ?_
        refine lv_aload hx hb dX4_every_54 (lv_at hl 0 rfl) ?_
        refine lv_iload_n hx hb dX4_every_56 rfl (lv_at hl 4 rfl) ?_
        refine lv_iload_n hx hb dX4_every_57 rfl (lv_at hl 5 rfl) ?_
        refine hc_r (va_runS (As := [.ref (ad (100 + 2 * k)), .int a, .int w]) (rest := []) S (c_X4_refusal l G _ hW (r := (rvL [va_rf (lkF ad (geL L.2.1 k L.1 0)), va_rf (lkF ad (lstL L.2.1 k L.1)), .int (nI (cntL L.2.1 k L.1)), .int (nI (cntL L.2.2 k L.1)), .int (T.1 k), .int (T.2.1 k), .int (T.2.2 k)])) hd_k h1 h4 a w) (va_cwS 3 hts (gWSS q_l_4_46 q_st_X4_refusal q_in_4 q_co_X4_refusal) rfl rfl rfl (by decide +kernel) ⟨Nat.le_of_ble_eq_true rfl, Nat.le_of_ble_eq_true rfl⟩) (hPreSr hE hS) rfl rfl hl.1 rfl (lv_room (Nat.le_of_ble_eq_true rfl)) dX4_every_58 ⟨Nat.le_of_ble_eq_true rfl, Nat.le_of_ble_eq_true rfl⟩) hS (fun locs hS => ?_)
        refine lv_if_ne (tgt := 76) hx hb dX4_every_61 (by decide) (fun c_61 => ?_) (fun c_61 => ?_)
        · refine lv_iinc (v := (nI (k + 1))) (lv' := [(5, .int (nI (k + 1))), (6, .ref (ad (100 + 2 * k))), (4, .int z), (0, .ref (ad 0)), (1, .int a), (2, .int w), (3, .int x)]) hx hb dX4_every_76 hl (k := 1) rfl (nI_1 k) (by decide) rfl (fun ls hl => ?_)
          refine lv_goto (tgt := 32) hx hb dX4_every_79 (by decide) ?_
          exact ih (k + 1) z B _ _ _ _ (by omega) (by rw [hv, evL, if_neg c_61]) hR hW hS (lv_sub hl [0, 2, 3, 4, 5, 6] rfl)
        · refine lv_iload hx hb dX4_every_64 (lv_at hl 2 rfl) ?_
          refine lv_aload hx hb dX4_every_66 (lv_at hl 0 rfl) ?_
          refine lv_iload_n hx hb dX4_every_68 rfl (lv_at hl 4 rfl) ?_
          refine lv_iload_n hx hb dX4_every_69 rfl (lv_at hl 6 rfl) ?_
          refine hc_i (va_runVN (As := [.int a, .int x]) (rest := [.int z]) S (c_X0_answer l G ad _ (k := 100 + 2 * k) (t := ty k) (r := (rvL [va_rf (lkF ad (geL L.2.1 k L.1 0)), va_rf (lkF ad (lstL L.2.1 k L.1)), .int (nI (cntL L.2.1 k L.1)), .int (nI (cntL L.2.2 k L.1)), .int (T.1 k), .int (T.2.1 k), .int (T.2.2 k)])) (q := (getD k B)) (by omega) h1 h5 ⟨hd_k, h2, h3⟩ a x) ⟨va_cnB 2 hts (gWS q_co_X0_answer) rfl rfl rfl (hE.nest 20 rfl) (hts _ q_in_0) (by decide +kernel) ⟨Nat.le_of_ble_eq_true rfl, Nat.le_of_ble_eq_true rfl⟩, hts _ q_im_X0_answer, hts _ q_se_X0_answer⟩ (hPreVw hE hS (hrecv hE hW hd_k (q := (RX0, TX0, 13)) rfl) hW) rfl rfl hl.1 rfl (lv_room (Nat.le_of_ble_eq_true rfl)) dX4_every_70 ⟨Nat.le_of_ble_eq_true rfl, Nat.le_of_ble_eq_true rfl⟩) hS (fun rv_13 ct_7 H locs hp hW hS => ?_)
          obtain ⟨ev_12, ⟨h_8, h_9, h_10⟩, hg_11⟩ := hp
          subst ev_12
          have hR := RC_d (q := (runS 40 (ty k) (selOfF selT (ty k) a) x (getD k B)).2) hR hkn h_8 h_9 h_10 hg_11
          obtain ⟨h0, h1, h2, h3, h4, h5, h6, h7, hdv, hlks, hfr, hn300, hm400, hft, hty⟩ := id hR
          have hd_k := hdv k hkn
          refine lv_iadd hx hb dX4_every_73 ?_
          refine lv_istore (lv' := [(4, .int (z + ((runS 40 (ty k) (selOfF selT (ty k) a) x (getD k B)).1))), (6, .ref (ad (100 + 2 * k))), (5, .int (nI k)), (0, .ref (ad 0)), (1, .int a), (2, .int w), (3, .int x)]) hx hb dX4_every_74 hl (by decide) rfl (fun ls hl => ?_)
          refine lv_iinc (v := (nI (k + 1))) (lv' := [(5, .int (nI (k + 1))), (4, .int (z + ((runS 40 (ty k) (selOfF selT (ty k) a) x (getD k B)).1))), (6, .ref (ad (100 + 2 * k))), (0, .ref (ad 0)), (1, .int a), (2, .int w), (3, .int x)]) hx hb dX4_every_76 hl (k := 2) rfl (nI_1 k) (by decide) rfl (fun ls hl => ?_)
          refine lv_goto (tgt := 32) hx hb dX4_every_79 (by decide) ?_
          exact ih (k + 1) (z + ((runS 40 (ty k) (selOfF selT (ty k) a) x (getD k B)).1)) (putD k B ((runS 40 (ty k) (selOfF selT (ty k) a) x (getD k B)).2)) _ _ _ _ (by omega) (by rw [hv, evL, if_pos c_61]; rfl) hR hW hS (lv_sub hl [0, 1, 3, 4, 5, 6] rfl)
    exact loop n 0 0 (clrA A) _ _ _ _ (by omega) (by rw [everyR, if_pos c_14]) hR hW hS (lv_sub hl [0, 1, 2, 3, 4, 5] rfl)
  · refine lv_iconst (v := 0) hx hb dX4_every_17 (by decide) ?_
    exact h_iret S hr hlk hS hW dX4_every_18 (by rw [everyR, if_neg c_14]; exact ⟨rfl, hR⟩)
set_option maxRecDepth 100000 in
set_option maxHeartbeats 4000000 in
theorem c_X4_feed_no (l : Launch) (G : hG) (ad : Nat → Nat) (ct : Nat → Option va_E) {fr : Nat → Option va_E} {n : Nat} {ty : Nat → Int32} {A : AS} {T : TS} {L : LS4} {K : KS} {st0 : Int32} (hR : RC fr G ad ct n ty A T L K st0) {d : Int32} (hd : ∀ i, i < n → d ≠ nI i) (by0 : Int32)  : Met l yX4_feed wzX4_feed { frames := 1, cells := 0, slots := 0, locals := 21 } (hPw [.ref (ad 0), .int d, .int by0] G ad ct) (hQi (fun r ct1 => r = 0 ∧ RC fr G ad ct1 n ty A T L K 1) G ad) 0 0 (hA G.2.2.2) := by
  refine hMetw (by decide) (Nat.le_of_ble_eq_true rfl) (fun p e s m below meth c ls S hr hlk hE hW hl => ?_)
  obtain ⟨hx, hb, hml, hown, hts⟩ := id S
  have hS : va_S (hA G.2.2.2) s.heap s.heap [] := va_S.rf
  have hl : lv_has ls 6 [(0, .ref (ad 0)), (1, .int d), (2, .int by0)] := hl
  obtain ⟨h0, h1, h2, h3, h4, h5, h6, h7, hdv, hlks, hfr, hn300, hm400, hft, hty⟩ := id hR
  refine lv_aload_n hx hb dX4_feed_0 rfl (lv_at hl 0 rfl) ?_
  refine lv_iload_n hx hb dX4_feed_1 rfl (lv_at hl 1 rfl) ?_
  refine hc_rq (va_runV (As := [.int d]) (rest := []) S (c_X4_find l G _ hW h0 h6 d) (cwV 1 hts (gWSV q_l_4_42 q_im_X4_find q_se_X4_find q_in_4 q_co_X4_find) rfl rfl rfl (by decide +kernel) ⟨Nat.le_of_ble_eq_true rfl, Nat.le_of_ble_eq_true rfl⟩) (hPreVr hE hS (hrecv hE hW h0 (q := (RX4, TX4, 9)) rfl)) rfl rfl hl.1 rfl (lv_room (Nat.le_of_ble_eq_true rfl)) dX4_feed_2 ⟨Nat.le_of_ble_eq_true rfl, Nat.le_of_ble_eq_true rfl⟩) hS (fun locs hS => ?_)
  rw [findF_no hn300 hd, va_rf_n]
  refine lv_astore_nN (lv' := [(3, .null), (0, .ref (ad 0)), (1, .int d), (2, .int by0)]) hx hb dX4_feed_5 rfl hl (by decide) rfl (fun ls hl => ?_)
  refine lv_aload_nN hx hb dX4_feed_6 rfl (lv_at hl 0 rfl) ?_
  refine lv_ifnonnullN hx hb dX4_feed_7 ?_
  refine lv_aload_n hx hb dX4_feed_10 rfl (lv_at hl 1 rfl) ?_
  refine lv_iconst (v := 1) hx hb dX4_feed_11 (by decide) ?_
  refine hr_put S hE hW hS h0 inX4 (C := RX4) (T := TX4) (N := 9) tyX4_ok nmX4 rfl 8 (by decide) q_f_4_32 rfl rfl rfl (Nat.le_of_ble_eq_true rfl) dX4_feed_12 (fun H locs ct_1 hW hk_2 hg_3 hz hS => ?_)
  have hR := RC_o hR hk_2 hg_3
  obtain ⟨h0, h1, h2, h3, h4, h5, h6, h7, hdv, hlks, hfr, hn300, hm400, hft, hty⟩ := id hR
  refine lv_iconst (v := 0) hx hb dX4_feed_15 (by decide) ?_
  exact h_iret S hr hlk hS hW dX4_feed_16 ⟨rfl, hR⟩
set_option maxRecDepth 100000 in
set_option maxHeartbeats 4000000 in
theorem c_X4_feed_ok (l : Launch) (G : hG) (ad : Nat → Nat) (ct : Nat → Option va_E) {fr : Nat → Option va_E} {n : Nat} {ty : Nat → Int32} {A : AS} {T : TS} {L : LS4} {K : KS} {st0 : Int32} (hR : RC fr G ad ct n ty A T L K st0) {i : Nat} (hi : i < n) (by0 : Int32)  : Met l yX4_feed wzX4_feed { frames := 126, cells := 0, slots := 0, locals := 2912 } (hPw [.ref (ad 0), .int (nI i), .int by0] G ad ct) (hQi (fun r ct1 => r = (fdL ty i by0 4 0 (clrA A)).1 ∧ RC fr G ad ct1 n ty ((fdL ty i by0 4 0 (clrA A)).2) T L K 0) G ad) 0 0 (hA G.2.2.2) := by
  refine hMetw (by decide) (Nat.le_of_ble_eq_true rfl) (fun p e s m below meth c ls S hr hlk hE hW hl => ?_)
  obtain ⟨hx, hb, hml, hown, hts⟩ := id S
  have hS : va_S (hA G.2.2.2) s.heap s.heap [] := va_S.rf
  have hl : lv_has ls 6 [(0, .ref (ad 0)), (1, .int (nI i)), (2, .int by0)] := hl
  obtain ⟨h0, h1, h2, h3, h4, h5, h6, h7, hdv, hlks, hfr, hn300, hm400, hft, hty⟩ := id hR
  have hd_i := hdv i hi
  refine lv_aload_n hx hb dX4_feed_0 rfl (lv_at hl 0 rfl) ?_
  refine lv_iload_n hx hb dX4_feed_1 rfl (lv_at hl 1 rfl) ?_
  refine hc_rq (va_runV (As := [.int (nI i)]) (rest := []) S (c_X4_find l G _ hW h0 h6 (nI i)) (cwV 1 hts (gWSV q_l_4_42 q_im_X4_find q_se_X4_find q_in_4 q_co_X4_find) rfl rfl rfl (by decide +kernel) ⟨Nat.le_of_ble_eq_true rfl, Nat.le_of_ble_eq_true rfl⟩) (hPreVr hE hS (hrecv hE hW h0 (q := (RX4, TX4, 9)) rfl)) rfl rfl hl.1 rfl (lv_room (Nat.le_of_ble_eq_true rfl)) dX4_feed_2 ⟨Nat.le_of_ble_eq_true rfl, Nat.le_of_ble_eq_true rfl⟩) hS (fun locs hS => ?_)
  rw [findF_ok hn300 hi, va_rf_s]
  refine lv_astore_n (lv' := [(3, .ref (ad (100 + 2 * i))), (0, .ref (ad 0)), (1, .int (nI i)), (2, .int by0)]) hx hb dX4_feed_5 rfl hl (by decide) rfl (fun ls hl => ?_)
  refine lv_aload_n hx hb dX4_feed_6 rfl (lv_at hl 0 rfl) ?_
  refine lv_ifnonnull (tgt := 17) hx hb dX4_feed_7 (by decide) ?_
  refine lv_aload_n hx hb dX4_feed_17 rfl (lv_at hl 1 rfl) ?_
  refine lv_iconst (v := 0) hx hb dX4_feed_18 (by decide) ?_
  refine hr_put S hE hW hS h0 inX4 (C := RX4) (T := TX4) (N := 9) tyX4_ok nmX4 rfl 8 (by decide) q_f_4_32 rfl rfl rfl (Nat.le_of_ble_eq_true rfl) dX4_feed_19 (fun H locs ct_1 hW hk_2 hg_3 hz hS => ?_)
  have hR := RC_o hR hk_2 hg_3
  obtain ⟨h0, h1, h2, h3, h4, h5, h6, h7, hdv, hlks, hfr, hn300, hm400, hft, hty⟩ := id hR
  have hd_i := hdv i hi
  refine lv_aload_n hx hb dX4_feed_22 rfl (lv_at hl 1 rfl) ?_
  refine hr_get S hE hW h0 inX4 (C := RX4) (T := TX4) (N := 9) rfl 1 (by decide) q_f_4_19 rfl dX4_feed_23 ?_
  refine hc_v (va_runVN (As := []) (rest := []) S (c_X3_clear l G ad _ h2) ⟨va_cnB 0 hts (gWS q_co_X3_clear) rfl rfl rfl (hE.nest 19 rfl) (hts _ q_in_3) (by decide +kernel) ⟨Nat.le_of_ble_eq_true rfl, Nat.le_of_ble_eq_true rfl⟩, hts _ q_im_X3_clear, hts _ q_se_X3_clear⟩ (hPreVw hE hS (hrecv hE hW h2 (q := (RX3, TX3, 2)) rfl) hW) rfl rfl hl.1 rfl (lv_room (Nat.le_of_ble_eq_true rfl)) dX4_feed_26 ⟨Nat.le_of_ble_eq_true rfl, Nat.le_of_ble_eq_true rfl⟩) hS (fun ct_4 H locs hp hW hS => ?_)
  obtain ⟨h_5, hg_6⟩ := hp
  have hR := RC_t hR h_5 hg_6
  obtain ⟨h0, h1, h2, h3, h4, h5, h6, h7, hdv, hlks, hfr, hn300, hm400, hft, hty⟩ := id hR
  have hd_i := hdv i hi
  refine lv_iconst (v := 0) hx hb dX4_feed_29 (by decide) ?_
  refine lv_istore (lv' := [(4, .int 0), (3, .ref (ad (100 + 2 * i))), (0, .ref (ad 0)), (1, .int (nI i)), (2, .int by0)]) hx hb dX4_feed_30 hl (by decide) rfl (fun ls hl => ?_)
  refine lv_bipush (v := 24) hx hb dX4_feed_32 (by decide) ?_
  refine lv_istore (lv' := [(5, .int 24), (4, .int 0), (3, .ref (ad (100 + 2 * i))), (0, .ref (ad 0)), (1, .int (nI i)), (2, .int by0)]) hx hb dX4_feed_34 hl (by decide) rfl (fun ls hl => ?_)
  have loop : ∀ (rem k : Nat) (z : Int32) (B : AS) (ct : Nat → Option va_E) (H : Heap) (locs : List Loc) (ls : Array Slot), k + rem = 4 → (fdL ty i by0 4 0 (clrA A) = fdL ty i by0 rem z B) → RC fr G ad ct n ty B T L (K.1, K.2.1, K.2.2) 0 → hw G ad ct H → va_S (hA G.2.2.2) s.heap H locs → lv_has ls 6 [(5, .int (shF rem)), (4, .int z), (0, .ref (ad 0)), (2, .int by0), (3, .ref (ad (100 + 2 * i)))] → W p l e { frames := 126, cells := 0, slots := 0, locals := 2912 } s m ([.ref (ad 0), .int (nI i), .int by0] : List Value).toArray below meth c H locs 0 0 (MQ below (hQi (fun r ct1 => r = (fdL ty i by0 4 0 (clrA A)).1 ∧ RC fr G ad ct1 n ty ((fdL ty i by0 4 0 (clrA A)).2) T L K 0) G ad) ([.ref (ad 0), .int (nI i), .int by0] : List Value).toArray s 0 0 (hA G.2.2.2)) (F0 m 36 ls []) := by
    intro rem
    induction rem with
    | zero =>
      intro k z B ct H locs ls hnk hv hR hW hS hl
      obtain ⟨h0, h1, h2, h3, h4, h5, h6, h7, hdv, hlks, hfr, hn300, hm400, hft, hty⟩ := id hR
      have hd_i := hdv i hi
      refine lv_iload hx hb dX4_feed_36 (lv_at hl 0 rfl) ?_
      refine lv_if_lt (tgt := 66) hx hb dX4_feed_38 (by decide) (fun _ => ?_) (fun q => absurd (by decide) q)
      refine lv_iload hx hb dX4_feed_66 (lv_at hl 1 rfl) ?_
      exact h_iret S hr hlk hS hW dX4_feed_68 (by rw [hv]; exact ⟨rfl, hR⟩)
    | succ rem ih =>
      intro k z B ct H locs ls hnk hv hR hW hS hl
      obtain ⟨h0, h1, h2, h3, h4, h5, h6, h7, hdv, hlks, hfr, hn300, hm400, hft, hty⟩ := id hR
      have hd_i := hdv i hi
      refine lv_iload hx hb dX4_feed_36 (lv_at hl 0 rfl) ?_
      refine lv_if_lt (tgt := 66) hx hb dX4_feed_38 (by decide) (fun q => absurd q (nI_pos (by omega))) (fun _ => ?_)
      refine lv_iload hx hb dX4_feed_41 (lv_at hl 1 rfl) ?_
      refine lv_aload_n hx hb dX4_feed_43 rfl (lv_at hl 4 rfl) ?_
      refine lv_iload_n hx hb dX4_feed_44 rfl (lv_at hl 3 rfl) ?_
      refine lv_iload hx hb dX4_feed_45 (lv_at hl 0 rfl) ?_
      refine lv_iushr (v := (by0.toUInt32 >>> ((shF (rem + 1)).toUInt32 &&& Int32.toUInt32 31)).toInt32) hx hb dX4_feed_47 rfl ?_
      refine lv_sipush (v := 255) hx hb dX4_feed_48 (by decide) ?_
      refine lv_iand hx hb dX4_feed_51 ?_
      refine lv_iload hx hb dX4_feed_52 (lv_at hl 1 rfl) ?_
      refine hc_i (va_runS (As := [.ref (ad (100 + 2 * i)), .int (((by0.toUInt32 >>> ((shF (rem + 1)).toUInt32 &&& Int32.toUInt32 31)).toInt32) &&& 255), .int z]) (rest := [.int z]) S (c_X4_answerToByte l G ad _ (k := 100 + 2 * i) (t := ty i) (r := (rvL [va_rf (lkF ad (geL L.2.1 i L.1 0)), va_rf (lkF ad (lstL L.2.1 i L.1)), .int (nI (cntL L.2.1 i L.1)), .int (nI (cntL L.2.2 i L.1)), .int (T.1 i), .int (T.2.1 i), .int (T.2.2 i)])) (q := (getD i B)) (by omega) h1 h5 ⟨hd_i, h2, h3⟩ h4 (((by0.toUInt32 >>> ((shF (rem + 1)).toUInt32 &&& Int32.toUInt32 31)).toInt32) &&& 255) z) (va_cwS 3 hts (gWSS q_l_4_60 q_st_X4_answerToByte q_in_4 q_co_X4_answerToByte) rfl rfl rfl (by decide +kernel) ⟨Nat.le_of_ble_eq_true rfl, Nat.le_of_ble_eq_true rfl⟩) (hPreSw hE hS hW) rfl rfl hl.1 rfl (lv_room (Nat.le_of_ble_eq_true rfl)) dX4_feed_54 ⟨Nat.le_of_ble_eq_true rfl, Nat.le_of_ble_eq_true rfl⟩) hS (fun rv_13 ct_7 H locs hp hW hS => ?_)
      obtain ⟨ev_12, ⟨h_8, h_9, h_10⟩, hg_11⟩ := hp
      subst ev_12
      have hR := RC_d (q := (atbF (ty i) (((by0.toUInt32 >>> ((shF (rem + 1)).toUInt32 &&& Int32.toUInt32 31)).toInt32) &&& 255) z (getD i B)).2) hR hi h_8 h_9 h_10 hg_11
      obtain ⟨h0, h1, h2, h3, h4, h5, h6, h7, hdv, hlks, hfr, hn300, hm400, hft, hty⟩ := id hR
      have hd_i := hdv i hi
      refine lv_iadd hx hb dX4_feed_57 ?_
      refine lv_istore (lv' := [(4, .int (z + ((atbF (ty i) (((by0.toUInt32 >>> ((shF (rem + 1)).toUInt32 &&& Int32.toUInt32 31)).toInt32) &&& 255) z (getD i B)).1))), (5, .int (shF (rem + 1))), (0, .ref (ad 0)), (2, .int by0), (3, .ref (ad (100 + 2 * i)))]) hx hb dX4_feed_58 hl (by decide) rfl (fun ls hl => ?_)
      refine lv_iinc (v := (shF rem)) (lv' := [(5, .int (shF rem)), (4, .int (z + ((atbF (ty i) (((by0.toUInt32 >>> ((shF (rem + 1)).toUInt32 &&& Int32.toUInt32 31)).toInt32) &&& 255) z (getD i B)).1))), (0, .ref (ad 0)), (2, .int by0), (3, .ref (ad (100 + 2 * i)))]) hx hb dX4_feed_60 hl (k := 1) rfl (shF_dec rem) (by decide) rfl (fun ls hl => ?_)
      refine lv_goto (tgt := 36) hx hb dX4_feed_63 (by decide) ?_
      exact ih (k + 1) (z + ((atbF (ty i) (((by0.toUInt32 >>> ((shF (rem + 1)).toUInt32 &&& Int32.toUInt32 31)).toInt32) &&& 255) z (getD i B)).1)) (putD i B ((atbF (ty i) (((by0.toUInt32 >>> ((shF (rem + 1)).toUInt32 &&& Int32.toUInt32 31)).toInt32) &&& 255) z (getD i B)).2)) _ _ _ _ (by omega) (by rw [hv, fdL]; rfl) hR hW hS (lv_sub hl [0, 1, 2, 3, 4] rfl)
  exact loop 4 0 0 (clrA A) _ _ _ _ (by omega) rfl hR hW hS (lv_sub hl [0, 1, 3, 5, 2] rfl)
