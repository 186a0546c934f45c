theorem upd_z {f : Nat → Int32} {n : Nat} (h : f n = 0) : upd f n 0 = f := by
  have := upd_self f n
  rw [h] at this
  exact this
theorem vu_lt {ks : Nat → Nat} {n kd : Nat} (hk : ∀ i, ks i < 11) (hkd : kd < 11) : ∀ j, va_up ks n kd j < 11 := by
  intro j
  by_cases e : j = n
  · rw [e, va_up_self]; exact hkd
  · rw [va_up_ne _ _ e]; exact hk j
theorem takA_eq : ∀ kk, kk < 11 → takActF (nI (7 + kk)) = nI (putA kk) := by decide +kernel
theorem kdM_up (ks : Nat → Nat) (n kd : Nat) : kdM (va_up ks n kd) = upd (kdM ks) n (nI kd) := by
  funext j
  by_cases h : j = n
  · subst h; rw [kdM_at, va_up_self, pk_us]
  · rw [kdM_at, va_up_ne _ _ h, pk_un h, kdM_at]
set_option maxRecDepth 100000 in
set_option maxHeartbeats 4000000 in
theorem c_X5_takes (l : Launch) (G : hG) (ad : Nat → Nat) (ct : Nat → Option va_E) {n : Nat} {ks : Nat → Nat} {A : AS} {tk : Nat → Int32} {L : LS4} {st0 : Int32} (hR : RM G ad ct n ks A tk L st0) {i : Nat} (hi : i < n) {bb : Nat} (hbb : A.2.2.1 = nI bb) (hb29 : bb < 2 ^ 29) (x : Int32)  : Met l yX5_takes wzX5_takes { frames := 3, cells := 0, slots := 0, locals := 71 } (hPw [.ref (ad 8), .int (nI i), .int x] G ad ct) (hQi (fun r ct1 => r = (actD (tyM ks) i (takActF (tyM ks i)) x A).1 ∧ RM G ad ct1 n ks ((actD (tyM ks) i (takActF (tyM ks i)) x A).2) (upd tk i (tk i + 1)) L st0 ∧ agX ct1 ct ∧ ∀ j, 26 ≤ j → j ≤ 28 → ct1 j = ct j) G ad) 0 0 (hA G.2.2.2) := by
  refine hMetw (by decide) (Nat.le_of_ble_eq_true rfl) (fun p e s m below meth c ls S hr hlk hE hW hl => ?_)
  obtain ⟨hx, hb, hml, hown, hts⟩ := id S
  have hS : va_S (hA G.2.2.2) s.heap s.heap [] := va_S.rf
  have hl : lv_has ls 3 [(0, .ref (ad 8)), (1, .int (nI i)), (2, .int x)] := hl
  obtain ⟨⟨fr, pd, fb, fa, fx, pl, h8, h19, h20, h29, h32, h33, h34, h35⟩, ⟨h10, h11, h12, h15, h18⟩, ⟨h13, h16, h17, h21, h23, h24, rw_, an, ii, h26, h27, h28⟩, hn300, hm400, hlks, hks⟩ := id hR
  refine lv_aload_n hx hb dX5_takes_0 rfl (lv_at hl 0 rfl) ?_
  refine hr_get S hE hW h8 inX5 (C := RX5) (T := TX5) (N := 28) rfl 11 (by decide) q_f_5_43 rfl dX5_takes_1 ?_
  refine lv_iload_n hx hb dX5_takes_4 rfl (lv_at hl 1 rfl) ?_
  refine lv_dup2_11 hx hb dX5_takes_5 rfl rfl ?_
  refine hr_ialdk S hE hW h21 (j := i) rfl (show i < 300 by omega) (by decide) dX5_takes_6 ?_
  refine lv_iconst (v := 1) hx hb dX5_takes_7 (by decide) ?_
  refine lv_iadd hx hb dX5_takes_8 ?_
  refine hr_iastk S hE hW hS h21 (j := i) rfl (show i < 300 by omega) (by decide) dX5_takes_9 (fun H locs ct_1 hW hk_2 hg_3 hz hS => ?_)
  have h_4 := (hg_3 8 (by decide)).trans h8
  have h_5 := (hg_3 10 (by decide)).trans h10
  have h_6 := (hg_3 11 (by decide)).trans h11
  have h_7 := (hg_3 12 (by decide)).trans h12
  have h_8 := (hg_3 13 (by decide)).trans h13
  have h_9 := (hg_3 15 (by decide)).trans h15
  have h_10 := (hg_3 16 (by decide)).trans h16
  have h_11 := (hg_3 17 (by decide)).trans h17
  have h_12 := (hg_3 18 (by decide)).trans h18
  have h_13 := (hg_3 19 (by decide)).trans h19
  have h_14 := (hg_3 20 (by decide)).trans h20
  have h_15 := (hg_3 23 (by decide)).trans h23
  have h_16 := (hg_3 24 (by decide)).trans h24
  have h_17 := (hg_3 26 (by decide)).trans h26
  have h_18 := (hg_3 27 (by decide)).trans h27
  have h_19 := (hg_3 28 (by decide)).trans h28
  have h_20 := (hg_3 29 (by decide)).trans h29
  have h_21 := (hg_3 32 (by decide)).trans h32
  have h_22 := (hg_3 33 (by decide)).trans h33
  have h_23 := (hg_3 34 (by decide)).trans h34
  have h_24 := (hg_3 35 (by decide)).trans h35
  have h_25 : ct_1 21 = some (.inl (G.2.1.1, 300, .inl (upd tk i ((tk i) + 1)))) := hk_2
  have hR : RM G ad ct_1 n ks A (upd tk i (tk i + 1)) L st0 := ⟨⟨_, _, _, _, _, _, h_4, h_13, h_14, h_20, h_21, h_22, h_23, h_24⟩, ⟨h_5, h_6, h_7, h_9, h_12⟩, ⟨h_8, h_10, h_11, h_25, h_15, h_16, _, _, _, h_17, h_18, h_19⟩, hn300, hm400, hlks, hks⟩
  refine lv_aload_n hx hb dX5_takes_10 rfl (lv_at hl 0 rfl) ?_
  refine lv_iload_n hx hb dX5_takes_11 rfl (lv_at hl 1 rfl) ?_
  refine lv_aload_n hx hb dX5_takes_12 rfl (lv_at hl 0 rfl) ?_
  refine lv_iload_n hx hb dX5_takes_13 rfl (lv_at hl 1 rfl) ?_
  refine lv_iconst (v := 3) hx hb dX5_takes_14 (by decide) ?_
  refine hc_r (va_runV (As := [.int (nI i), .int 3]) (rest := [.int (nI i), .ref (ad 8)]) S (c_X5_isAble l G _ hW hR (i := i) (w := 3) (by omega) (by omega)) (cwV 2 hts (gWSV q_l_5_139 q_im_X5_isAble q_se_X5_isAble q_in_5 q_co_X5_isAble) rfl rfl rfl (by decide +kernel) ⟨Nat.le_of_ble_eq_true rfl, Nat.le_of_ble_eq_true rfl⟩) (hPreVr hE hS (hrecv hE hW h_4 (q := (RX5, TX5, 28)) rfl)) rfl rfl hl.1 rfl (lv_room (Nat.le_of_ble_eq_true rfl)) dX5_takes_15 ⟨Nat.le_of_ble_eq_true rfl, Nat.le_of_ble_eq_true rfl⟩) hS (fun locs hS => ?_)
  refine lv_if_eq (tgt := 25) hx hb dX5_takes_18 (by decide) (fun c_18 => ?_) (fun c_18 => ?_)
  · refine lv_aload_n hx hb dX5_takes_25 rfl (lv_at hl 0 rfl) ?_
    refine lv_iload_n hx hb dX5_takes_26 rfl (lv_at hl 1 rfl) ?_
    refine lv_iconst (v := 2) hx hb dX5_takes_27 (by decide) ?_
    refine hc_r (va_runV (As := [.int (nI i), .int 2]) (rest := [.int (nI i), .ref (ad 8)]) S (c_X5_isAble l G _ hW hR (i := i) (w := 2) (by omega) (by omega)) (cwV 2 hts (gWSV q_l_5_139 q_im_X5_isAble q_se_X5_isAble q_in_5 q_co_X5_isAble) rfl rfl rfl (by decide +kernel) ⟨Nat.le_of_ble_eq_true rfl, Nat.le_of_ble_eq_true rfl⟩) (hPreVr hE hS (hrecv hE hW h_4 (q := (RX5, TX5, 28)) rfl)) rfl rfl hl.1 rfl (lv_room (Nat.le_of_ble_eq_true rfl)) dX5_takes_28 ⟨Nat.le_of_ble_eq_true rfl, Nat.le_of_ble_eq_true rfl⟩) hS (fun locs hS => ?_)
    refine lv_if_eq (tgt := 38) hx hb dX5_takes_31 (by decide) (fun c_31 => ?_) (fun c_31 => ?_)
    · refine lv_bipush (v := 6) hx hb dX5_takes_38 (by decide) ?_
      have hpa : putA (ks i) = 6 := by rw [putA, if_neg (fun q => absurd (c_18.symm.trans q) (by decide)), if_neg (fun q => absurd (c_31.symm.trans q) (by decide))]
      have hta : takActF (tyM ks i) = nI 6 := by rw [tyM_at, takA_eq _ (hks i), hpa]
      have hok := put_ok (ks i) (hks i)
      rw [hpa] at hok
      refine lv_iload_n hx hb dX5_takes_40 rfl (lv_at hl 2 rfl) ?_
      refine hc_i (va_runV (As := [.int (nI i), .int 6, .int x]) (rest := []) S (c_X5_act l G ad _ hR.1 hR.2.1 (i := i) (kk := ks i) (a := 6) (bb := bb) (by omega) rfl (hks _) hok.1 hok.2.1 hok.2.2 hbb hb29 x) (cwV 3 hts (gWSV q_l_5_157 q_im_X5_act q_se_X5_act q_in_5 q_co_X5_act) rfl rfl rfl (by decide +kernel) ⟨Nat.le_of_ble_eq_true rfl, Nat.le_of_ble_eq_true rfl⟩) (hPreVw hE hS (hrecv hE hW h_4 (q := (RX5, TX5, 28)) rfl) hW) rfl rfl hl.1 rfl (lv_room (Nat.le_of_ble_eq_true rfl)) dX5_takes_41 ⟨Nat.le_of_ble_eq_true rfl, Nat.le_of_ble_eq_true rfl⟩) hS (fun rv_28 ct_26 H locs hp hW hS => ?_)
      obtain ⟨ev_29, hM, hag_27⟩ := hp
      have hD := actD_eq (hks i) hok.1 hok.2.1 hok.2.2 x A
      have hR := RM_act hR hM hag_27
      rw [show rv_28 = (actD (tyM ks) i (nI 6) x A).1 from ev_29.trans (congrArg Prod.fst hD).symm]
      replace hR : RM G ad ct_26 n ks (actD (tyM ks) i (nI 6) x A).2 (upd tk i (tk i + 1)) L st0 := by rw [hD]; exact hR
      obtain ⟨⟨fr, pd, fb, fa, fx, pl, h8, h19, h20, h29, h32, h33, h34, h35⟩, ⟨h10, h11, h12, h15, h18⟩, ⟨h13, h16, h17, h21, h23, h24, rw_, an, ii, h26, h27, h28⟩, hn300, hm400, hlks, hks⟩ := id hR
      exact h_iret S hr hlk hS hW dX5_takes_44 ⟨by rw [hta], by rw [hta]; exact hR, (fun j hj => ((hag_27 j (by omega))).trans ((hg_3 j (by omega)))), (fun j h1 h2 => ((hag_27 j (by omega))).trans ((hg_3 j (by omega))))⟩
    · refine lv_iconst (v := 1) hx hb dX5_takes_34 (by decide) ?_
      refine lv_goto (tgt := 40) hx hb dX5_takes_35 (by decide) ?_
      have hpa : putA (ks i) = 1 := by rw [putA, if_neg (fun q => absurd (c_18.symm.trans q) (by decide)), if_pos ((ablM_b _ _).resolve_left c_31)]
      have hta : takActF (tyM ks i) = nI 1 := by rw [tyM_at, takA_eq _ (hks i), hpa]
      have hok := put_ok (ks i) (hks i)
      rw [hpa] at hok
      refine lv_iload_n hx hb dX5_takes_40 rfl (lv_at hl 2 rfl) ?_
      refine hc_i (va_runV (As := [.int (nI i), .int 1, .int x]) (rest := []) S (c_X5_act l G ad _ hR.1 hR.2.1 (i := i) (kk := ks i) (a := 1) (bb := bb) (by omega) rfl (hks _) hok.1 hok.2.1 hok.2.2 hbb hb29 x) (cwV 3 hts (gWSV q_l_5_157 q_im_X5_act q_se_X5_act q_in_5 q_co_X5_act) rfl rfl rfl (by decide +kernel) ⟨Nat.le_of_ble_eq_true rfl, Nat.le_of_ble_eq_true rfl⟩) (hPreVw hE hS (hrecv hE hW h_4 (q := (RX5, TX5, 28)) rfl) hW) rfl rfl hl.1 rfl (lv_room (Nat.le_of_ble_eq_true rfl)) dX5_takes_41 ⟨Nat.le_of_ble_eq_true rfl, Nat.le_of_ble_eq_true rfl⟩) hS (fun rv_32 ct_30 H locs hp hW hS => ?_)
      obtain ⟨ev_33, hM, hag_31⟩ := hp
      have hD := actD_eq (hks i) hok.1 hok.2.1 hok.2.2 x A
      have hR := RM_act hR hM hag_31
      rw [show rv_32 = (actD (tyM ks) i (nI 1) x A).1 from ev_33.trans (congrArg Prod.fst hD).symm]
      replace hR : RM G ad ct_30 n ks (actD (tyM ks) i (nI 1) x A).2 (upd tk i (tk i + 1)) L st0 := by rw [hD]; exact hR
      obtain ⟨⟨fr, pd, fb, fa, fx, pl, h8, h19, h20, h29, h32, h33, h34, h35⟩, ⟨h10, h11, h12, h15, h18⟩, ⟨h13, h16, h17, h21, h23, h24, rw_, an, ii, h26, h27, h28⟩, hn300, hm400, hlks, hks⟩ := id hR
      exact h_iret S hr hlk hS hW dX5_takes_44 ⟨by rw [hta], by rw [hta]; exact hR, (fun j hj => ((hag_31 j (by omega))).trans ((hg_3 j (by omega)))), (fun j h1 h2 => ((hag_31 j (by omega))).trans ((hg_3 j (by omega))))⟩
  · refine lv_iconst (v := 4) hx hb dX5_takes_21 (by decide) ?_
    refine lv_goto (tgt := 40) hx hb dX5_takes_22 (by decide) ?_
    have hpa : putA (ks i) = 4 := by rw [putA, if_pos ((ablM_b _ _).resolve_left c_18)]
    have hta : takActF (tyM ks i) = nI 4 := by rw [tyM_at, takA_eq _ (hks i), hpa]
    have hok := put_ok (ks i) (hks i)
    rw [hpa] at hok
    refine lv_iload_n hx hb dX5_takes_40 rfl (lv_at hl 2 rfl) ?_
    refine hc_i (va_runV (As := [.int (nI i), .int 4, .int x]) (rest := []) S (c_X5_act l G ad _ hR.1 hR.2.1 (i := i) (kk := ks i) (a := 4) (bb := bb) (by omega) rfl (hks _) hok.1 hok.2.1 hok.2.2 hbb hb29 x) (cwV 3 hts (gWSV q_l_5_157 q_im_X5_act q_se_X5_act q_in_5 q_co_X5_act) rfl rfl rfl (by decide +kernel) ⟨Nat.le_of_ble_eq_true rfl, Nat.le_of_ble_eq_true rfl⟩) (hPreVw hE hS (hrecv hE hW h_4 (q := (RX5, TX5, 28)) rfl) hW) rfl rfl hl.1 rfl (lv_room (Nat.le_of_ble_eq_true rfl)) dX5_takes_41 ⟨Nat.le_of_ble_eq_true rfl, Nat.le_of_ble_eq_true rfl⟩) hS (fun rv_36 ct_34 H locs hp hW hS => ?_)
    obtain ⟨ev_37, hM, hag_35⟩ := hp
    have hD := actD_eq (hks i) hok.1 hok.2.1 hok.2.2 x A
    have hR := RM_act hR hM hag_35
    rw [show rv_36 = (actD (tyM ks) i (nI 4) x A).1 from ev_37.trans (congrArg Prod.fst hD).symm]
    replace hR : RM G ad ct_34 n ks (actD (tyM ks) i (nI 4) x A).2 (upd tk i (tk i + 1)) L st0 := by rw [hD]; exact hR
    obtain ⟨⟨fr, pd, fb, fa, fx, pl, h8, h19, h20, h29, h32, h33, h34, h35⟩, ⟨h10, h11, h12, h15, h18⟩, ⟨h13, h16, h17, h21, h23, h24, rw_, an, ii, h26, h27, h28⟩, hn300, hm400, hlks, hks⟩ := id hR
    exact h_iret S hr hlk hS hW dX5_takes_44 ⟨by rw [hta], by rw [hta]; exact hR, (fun j hj => ((hag_35 j (by omega))).trans ((hg_3 j (by omega)))), (fun j h1 h2 => ((hag_35 j (by omega))).trans ((hg_3 j (by omega))))⟩
set_option maxRecDepth 100000 in
set_option maxHeartbeats 4000000 in
theorem c_X5_device_ok (l : Launch) (G : hG) (ad : Nat → Nat) (ct : Nat → Option va_E) {n : Nat} {ks : Nat → Nat} {A : AS} {tk : Nat → Int32} {L : LS4} {st0 : Int32} (hR : RM G ad ct n ks A tk L st0) {kd : Nat} (hkd : kd < 11) (v : Int32) (hn3 : n < 300) (hcz : A.2.1 n = 0) (htz : tk n = 0)  : Met l yX5_device wzX5_device { frames := 0, cells := 0, slots := 0, locals := 0 } (hPw [.ref (ad 8), .int (nI kd), .int v] G ad ct) (hQi (fun r ct1 => r = nI n ∧ RM G ad ct1 (n + 1) (va_up ks n kd) (upd A.1 n v, upd A.2.1 n 0, A.2.2) (upd tk n 0) L 0 ∧ agX ct1 ct) G ad) 0 0 (hA G.2.2.2) := by
  refine hMetw (by decide) (Nat.le_of_ble_eq_true rfl) (fun p e s m below meth c ls S hr hlk hE hW hl => ?_)
  obtain ⟨hx, hb, hml, hown, hts⟩ := id S
  have hS : va_S (hA G.2.2.2) s.heap s.heap [] := va_S.rf
  have hl : lv_has ls 3 [(0, .ref (ad 8)), (1, .int (nI kd)), (2, .int v)] := hl
  obtain ⟨⟨fr, pd, fb, fa, fx, pl, h8, h19, h20, h29, h32, h33, h34, h35⟩, ⟨h10, h11, h12, h15, h18⟩, ⟨h13, h16, h17, h21, h23, h24, rw_, an, ii, h26, h27, h28⟩, hn300, hm400, hlks, hks⟩ := id hR
  refine lv_aload_n hx hb dX5_device_0 rfl (lv_at hl 0 rfl) ?_
  refine lv_iload_n hx hb dX5_device_1 rfl (lv_at hl 1 rfl) ?_
  refine lv_if_lt (tgt := 11) hx hb dX5_device_2 (by decide) (fun q => absurd q (nI_pos (by omega))) (fun _ => ?_)
  refine lv_iload_n hx hb dX5_device_5 rfl (lv_at hl 1 rfl) ?_
  refine lv_bipush (v := 11) hx hb dX5_device_6 (by decide) ?_
  refine lv_icmp_lt (tgt := 15) hx hb dX5_device_8 (by decide) (fun _ => ?_) (fun q => absurd (show nI kd < 11 from nI_lt (b := 11) hkd (by omega)) q)
  refine lv_aload_n hx hb dX5_device_15 rfl (lv_at hl 0 rfl) ?_
  refine hr_get S hE hW h8 inX5 (C := RX5) (T := TX5) (N := 28) rfl 12 (by decide) q_f_5_123 rfl dX5_device_16 ?_
  refine lv_sipush (v := 300) hx hb dX5_device_19 (by decide) ?_
  refine lv_icmp_ne (tgt := 29) hx hb dX5_device_22 (by decide) (fun _ => ?_) (fun q => absurd q (fun q : nI n = 300 => absurd (nI_lt (a := n) (b := 300) hn3 (by omega)) (by rw [q]; decide)))
  refine lv_iconst (v := 0) hx hb dX5_device_29 (by decide) ?_
  refine hr_put S hE hW hS h8 inX5 (C := RX5) (T := TX5) (N := 28) tyX5_ok nmX5 rfl 21 (by decide) q_f_5_126 rfl rfl rfl (Nat.le_of_ble_eq_true rfl) dX5_device_30 (fun H locs ct_1 hW hk_2 hg_3 hz hS => ?_)
  have h_4 := (hg_3 10 (by decide)).trans h10
  have h_5 := (hg_3 11 (by decide)).trans h11
  have h_6 := (hg_3 12 (by decide)).trans h12
  have h_7 := (hg_3 13 (by decide)).trans h13
  have h_8 := (hg_3 15 (by decide)).trans h15
  have h_9 := (hg_3 16 (by decide)).trans h16
  have h_10 := (hg_3 17 (by decide)).trans h17
  have h_11 := (hg_3 18 (by decide)).trans h18
  have h_12 := (hg_3 19 (by decide)).trans h19
  have h_13 := (hg_3 20 (by decide)).trans h20
  have h_14 := (hg_3 21 (by decide)).trans h21
  have h_15 := (hg_3 23 (by decide)).trans h23
  have h_16 := (hg_3 24 (by decide)).trans h24
  have h_17 := (hg_3 26 (by decide)).trans h26
  have h_18 := (hg_3 27 (by decide)).trans h27
  have h_19 := (hg_3 28 (by decide)).trans h28
  have h_20 := (hg_3 29 (by decide)).trans h29
  have h_21 := (hg_3 32 (by decide)).trans h32
  have h_22 := (hg_3 33 (by decide)).trans h33
  have h_23 := (hg_3 34 (by decide)).trans h34
  have h_24 := (hg_3 35 (by decide)).trans h35
  have h_25 : ct_1 8 = some (.inr (5, [.ref (ad 10), .ref (ad 11), .ref (ad 12), .ref (ad 13), .ref (ad 14), .ref (ad 15), .ref (ad 16), .ref (ad 17), .ref (ad 18), .ref (ad 19), .ref (ad 20), .ref (ad 21), .int (nI n), .ref (ad 23), .ref (ad 24), .int (nI L.1), .ref (ad 26), .ref (ad 27), .ref (ad 28), .ref (ad 29), .int A.2.2.1, .int 0, .ref (ad 32), .ref (ad 33), .ref (ad 34), .ref (ad 35), .int fr, .int pd])) := hk_2
  refine lv_aload_n hx hb dX5_device_33 rfl (lv_at hl 0 rfl) ?_
  refine hr_get S hE hW h_25 inX5 (C := RX5) (T := TX5) (N := 28) rfl 21 (by decide) q_f_5_126 rfl dX5_device_34 ?_
  refine lv_if_eq (tgt := 42) hx hb dX5_device_37 (by decide) (fun _ => ?_) (fun q => absurd (by decide) q)
  refine lv_aload_n hx hb dX5_device_42 rfl (lv_at hl 0 rfl) ?_
  refine hr_get S hE hW h_25 inX5 (C := RX5) (T := TX5) (N := 28) rfl 8 (by decide) q_f_5_34 rfl dX5_device_43 ?_
  refine lv_aload_n hx hb dX5_device_46 rfl (lv_at hl 0 rfl) ?_
  refine hr_get S hE hW h_25 inX5 (C := RX5) (T := TX5) (N := 28) rfl 12 (by decide) q_f_5_123 rfl dX5_device_47 ?_
  refine lv_iload_n hx hb dX5_device_50 rfl (lv_at hl 1 rfl) ?_
  refine hr_iastk S hE hW hS h_11 (j := n) rfl hn3 (by decide) dX5_device_51 (fun H locs ct_26 hW hk_27 hg_28 hz hS => ?_)
  have h_29 := (hg_28 10 (by decide)).trans h_4
  have h_30 := (hg_28 11 (by decide)).trans h_5
  have h_31 := (hg_28 12 (by decide)).trans h_6
  have h_32 := (hg_28 13 (by decide)).trans h_7
  have h_33 := (hg_28 15 (by decide)).trans h_8
  have h_34 := (hg_28 16 (by decide)).trans h_9
  have h_35 := (hg_28 17 (by decide)).trans h_10
  have h_36 := (hg_28 19 (by decide)).trans h_12
  have h_37 := (hg_28 20 (by decide)).trans h_13
  have h_38 := (hg_28 21 (by decide)).trans h_14
  have h_39 := (hg_28 23 (by decide)).trans h_15
  have h_40 := (hg_28 24 (by decide)).trans h_16
  have h_41 := (hg_28 26 (by decide)).trans h_17
  have h_42 := (hg_28 27 (by decide)).trans h_18
  have h_43 := (hg_28 28 (by decide)).trans h_19
  have h_44 := (hg_28 29 (by decide)).trans h_20
  have h_45 := (hg_28 32 (by decide)).trans h_21
  have h_46 := (hg_28 33 (by decide)).trans h_22
  have h_47 := (hg_28 34 (by decide)).trans h_23
  have h_48 := (hg_28 35 (by decide)).trans h_24
  have h_49 := (hg_28 8 (by decide)).trans h_25
  have h_50 : ct_26 18 = some (.inl (G.2.1.1, 300, .inl (upd (kdM ks) n (nI kd)))) := hk_27
  refine lv_aload_n hx hb dX5_device_52 rfl (lv_at hl 0 rfl) ?_
  refine hr_get S hE hW h_49 inX5 (C := RX5) (T := TX5) (N := 28) rfl 9 (by decide) q_f_5_37 rfl dX5_device_53 ?_
  refine lv_aload_n hx hb dX5_device_56 rfl (lv_at hl 0 rfl) ?_
  refine hr_get S hE hW h_49 inX5 (C := RX5) (T := TX5) (N := 28) rfl 12 (by decide) q_f_5_123 rfl dX5_device_57 ?_
  refine lv_iload_n hx hb dX5_device_60 rfl (lv_at hl 2 rfl) ?_
  refine hr_iastk S hE hW hS h_36 (j := n) rfl hn3 (by decide) dX5_device_61 (fun H locs ct_51 hW hk_52 hg_53 hz hS => ?_)
  have h_54 := (hg_53 10 (by decide)).trans h_29
  have h_55 := (hg_53 11 (by decide)).trans h_30
  have h_56 := (hg_53 12 (by decide)).trans h_31
  have h_57 := (hg_53 13 (by decide)).trans h_32
  have h_58 := (hg_53 15 (by decide)).trans h_33
  have h_59 := (hg_53 16 (by decide)).trans h_34
  have h_60 := (hg_53 17 (by decide)).trans h_35
  have h_61 := (hg_53 20 (by decide)).trans h_37
  have h_62 := (hg_53 21 (by decide)).trans h_38
  have h_63 := (hg_53 23 (by decide)).trans h_39
  have h_64 := (hg_53 24 (by decide)).trans h_40
  have h_65 := (hg_53 26 (by decide)).trans h_41
  have h_66 := (hg_53 27 (by decide)).trans h_42
  have h_67 := (hg_53 28 (by decide)).trans h_43
  have h_68 := (hg_53 29 (by decide)).trans h_44
  have h_69 := (hg_53 32 (by decide)).trans h_45
  have h_70 := (hg_53 33 (by decide)).trans h_46
  have h_71 := (hg_53 34 (by decide)).trans h_47
  have h_72 := (hg_53 35 (by decide)).trans h_48
  have h_73 := (hg_53 8 (by decide)).trans h_49
  have h_74 := (hg_53 18 (by decide)).trans h_50
  have h_75 : ct_51 19 = some (.inl (G.2.1.1, 300, .inl (upd A.1 n v))) := hk_52
  refine lv_aload_n hx hb dX5_device_62 rfl (lv_at hl 0 rfl) ?_
  refine lv_dup hx hb dX5_device_63 rfl ?_
  refine hr_get S hE hW h_73 inX5 (C := RX5) (T := TX5) (N := 28) rfl 12 (by decide) q_f_5_123 rfl dX5_device_64 ?_
  refine lv_iconst (v := 1) hx hb dX5_device_67 (by decide) ?_
  refine lv_iadd hx hb dX5_device_68 ?_
  rw [nI_1]
  refine hr_put S hE hW hS h_73 inX5 (C := RX5) (T := TX5) (N := 28) tyX5_ok nmX5 rfl 12 (by decide) q_f_5_123 rfl rfl rfl (Nat.le_of_ble_eq_true rfl) dX5_device_69 (fun H locs ct_76 hW hk_77 hg_78 hz hS => ?_)
  have h_79 := (hg_78 10 (by decide)).trans h_54
  have h_80 := (hg_78 11 (by decide)).trans h_55
  have h_81 := (hg_78 12 (by decide)).trans h_56
  have h_82 := (hg_78 13 (by decide)).trans h_57
  have h_83 := (hg_78 15 (by decide)).trans h_58
  have h_84 := (hg_78 16 (by decide)).trans h_59
  have h_85 := (hg_78 17 (by decide)).trans h_60
  have h_86 := (hg_78 20 (by decide)).trans h_61
  have h_87 := (hg_78 21 (by decide)).trans h_62
  have h_88 := (hg_78 23 (by decide)).trans h_63
  have h_89 := (hg_78 24 (by decide)).trans h_64
  have h_90 := (hg_78 26 (by decide)).trans h_65
  have h_91 := (hg_78 27 (by decide)).trans h_66
  have h_92 := (hg_78 28 (by decide)).trans h_67
  have h_93 := (hg_78 29 (by decide)).trans h_68
  have h_94 := (hg_78 32 (by decide)).trans h_69
  have h_95 := (hg_78 33 (by decide)).trans h_70
  have h_96 := (hg_78 34 (by decide)).trans h_71
  have h_97 := (hg_78 35 (by decide)).trans h_72
  have h_98 := (hg_78 18 (by decide)).trans h_74
  have h_99 := (hg_78 19 (by decide)).trans h_75
  have h_100 : ct_76 8 = some (.inr (5, [.ref (ad 10), .ref (ad 11), .ref (ad 12), .ref (ad 13), .ref (ad 14), .ref (ad 15), .ref (ad 16), .ref (ad 17), .ref (ad 18), .ref (ad 19), .ref (ad 20), .ref (ad 21), .int (nI (n + 1)), .ref (ad 23), .ref (ad 24), .int (nI L.1), .ref (ad 26), .ref (ad 27), .ref (ad 28), .ref (ad 29), .int A.2.2.1, .int 0, .ref (ad 32), .ref (ad 33), .ref (ad 34), .ref (ad 35), .int fr, .int pd])) := hk_77
  refine lv_aload_n hx hb dX5_device_72 rfl (lv_at hl 0 rfl) ?_
  refine hr_get S hE hW h_100 inX5 (C := RX5) (T := TX5) (N := 28) rfl 12 (by decide) q_f_5_123 rfl dX5_device_73 ?_
  refine lv_iconst (v := 1) hx hb dX5_device_76 (by decide) ?_
  refine lv_isub hx hb dX5_device_77 ?_
  rw [show nI (n + 1) - 1 = nI n from nI_pred _]
  exact h_iret S hr hlk hS hW dX5_device_78 ⟨rfl, ⟨⟨_, _, _, _, _, _, h_100, h_99, (by rw [show upd A.2.1 n 0 = A.2.1 from upd_z hcz]; exact h_86), h_93, h_94, h_95, h_96, h_97⟩, ⟨h_79, h_80, h_81, h_83, (by rw [kdM_up]; exact h_98)⟩, ⟨h_82, h_84, h_85, (by rw [show upd tk n 0 = tk from upd_z htz]; exact h_87), h_88, h_89, _, _, _, h_90, h_91, h_92⟩, (by omega), hm400, (fun j hj => ⟨Nat.lt_succ_of_lt (hlks j hj).1, Nat.lt_succ_of_lt (hlks j hj).2⟩), vu_lt hks hkd⟩, (fun j hj => ((hg_78 j (by omega))).trans (((hg_53 j (by omega))).trans (((hg_28 j (by omega))).trans ((hg_3 j (by omega))))))⟩
set_option maxRecDepth 100000 in
set_option maxHeartbeats 4000000 in
theorem c_X5_device_no (l : Launch) (G : hG) (ad : Nat → Nat) (ct : Nat → Option va_E) {n : Nat} {ks : Nat → Nat} {A : AS} {tk : Nat → Int32} {L : LS4} {st0 : Int32} (hR : RM G ad ct n ks A tk L st0) {kd : Int32} (hkd : kd < 0 ∨ 11 ≤ kd) (v : Int32)  : Met l yX5_device wzX5_device { frames := 0, cells := 0, slots := 0, locals := 0 } (hPw [.ref (ad 8), .int kd, .int v] G ad ct) (hQi (fun r ct1 => r = (-1) ∧ RM G ad ct1 n ks A tk L 1 ∧ agX ct1 ct) G ad) 0 0 (hA G.2.2.2) := by
  refine hMetw (by decide) (Nat.le_of_ble_eq_true rfl) (fun p e s m below meth c ls S hr hlk hE hW hl => ?_)
  obtain ⟨hx, hb, hml, hown, hts⟩ := id S
  have hS : va_S (hA G.2.2.2) s.heap s.heap [] := va_S.rf
  have hl : lv_has ls 3 [(0, .ref (ad 8)), (1, .int kd), (2, .int v)] := hl
  obtain ⟨⟨fr, pd, fb, fa, fx, pl, h8, h19, h20, h29, h32, h33, h34, h35⟩, ⟨h10, h11, h12, h15, h18⟩, ⟨h13, h16, h17, h21, h23, h24, rw_, an, ii, h26, h27, h28⟩, hn300, hm400, hlks, hks⟩ := id hR
  refine lv_aload_n hx hb dX5_device_0 rfl (lv_at hl 0 rfl) ?_
  refine lv_iload_n hx hb dX5_device_1 rfl (lv_at hl 1 rfl) ?_
  refine lv_if_lt (tgt := 11) hx hb dX5_device_2 (by decide) (fun c_2 => ?_) (fun c_2 => ?_)
  · refine lv_iconst (v := 1) hx hb dX5_device_11 (by decide) ?_
    refine lv_goto (tgt := 30) hx hb dX5_device_12 (by decide) ?_
    refine hr_put S hE hW hS h8 inX5 (C := RX5) (T := TX5) (N := 28) tyX5_ok nmX5 rfl 21 (by decide) q_f_5_126 rfl rfl rfl (Nat.le_of_ble_eq_true rfl) dX5_device_30 (fun H locs ct_1 hW hk_2 hg_3 hz hS => ?_)
    have h_4 := (hg_3 10 (by decide)).trans h10
    have h_5 := (hg_3 11 (by decide)).trans h11
    have h_6 := (hg_3 12 (by decide)).trans h12
    have h_7 := (hg_3 13 (by decide)).trans h13
    have h_8 := (hg_3 15 (by decide)).trans h15
    have h_9 := (hg_3 16 (by decide)).trans h16
    have h_10 := (hg_3 17 (by decide)).trans h17
    have h_11 := (hg_3 18 (by decide)).trans h18
    have h_12 := (hg_3 19 (by decide)).trans h19
    have h_13 := (hg_3 20 (by decide)).trans h20
    have h_14 := (hg_3 21 (by decide)).trans h21
    have h_15 := (hg_3 23 (by decide)).trans h23
    have h_16 := (hg_3 24 (by decide)).trans h24
    have h_17 := (hg_3 26 (by decide)).trans h26
    have h_18 := (hg_3 27 (by decide)).trans h27
    have h_19 := (hg_3 28 (by decide)).trans h28
    have h_20 := (hg_3 29 (by decide)).trans h29
    have h_21 := (hg_3 32 (by decide)).trans h32
    have h_22 := (hg_3 33 (by decide)).trans h33
    have h_23 := (hg_3 34 (by decide)).trans h34
    have h_24 := (hg_3 35 (by decide)).trans h35
    have h_25 : ct_1 8 = some (.inr (5, [.ref (ad 10), .ref (ad 11), .ref (ad 12), .ref (ad 13), .ref (ad 14), .ref (ad 15), .ref (ad 16), .ref (ad 17), .ref (ad 18), .ref (ad 19), .ref (ad 20), .ref (ad 21), .int (nI n), .ref (ad 23), .ref (ad 24), .int (nI L.1), .ref (ad 26), .ref (ad 27), .ref (ad 28), .ref (ad 29), .int A.2.2.1, .int 1, .ref (ad 32), .ref (ad 33), .ref (ad 34), .ref (ad 35), .int fr, .int pd])) := hk_2
    refine lv_aload_n hx hb dX5_device_33 rfl (lv_at hl 0 rfl) ?_
    refine hr_get S hE hW h_25 inX5 (C := RX5) (T := TX5) (N := 28) rfl 21 (by decide) q_f_5_126 rfl dX5_device_34 ?_
    refine lv_if_eq (tgt := 42) hx hb dX5_device_37 (by decide) (fun q => absurd q (by decide)) (fun _ => ?_)
    refine lv_iconst (v := (-1)) hx hb dX5_device_40 (by decide) ?_
    exact h_iret S hr hlk hS hW dX5_device_41 ⟨rfl, ⟨⟨_, _, _, _, _, _, h_25, h_12, h_13, h_20, h_21, h_22, h_23, h_24⟩, ⟨h_4, h_5, h_6, h_8, h_11⟩, ⟨h_7, h_9, h_10, h_14, h_15, h_16, _, _, _, h_17, h_18, h_19⟩, hn300, hm400, hlks, hks⟩, (fun j hj => (hg_3 j (by omega)))⟩
  · refine lv_iload_n hx hb dX5_device_5 rfl (lv_at hl 1 rfl) ?_
    refine lv_bipush (v := 11) hx hb dX5_device_6 (by decide) ?_
    refine lv_icmp_lt (tgt := 15) hx hb dX5_device_8 (by decide) (fun q => absurd q (fun q => hkd.elim (fun h => c_2 h) (fun h => Int32.not_lt.mpr h q))) (fun _ => ?_)
    refine lv_iconst (v := 1) hx hb dX5_device_11 (by decide) ?_
    refine lv_goto (tgt := 30) hx hb dX5_device_12 (by decide) ?_
    refine hr_put S hE hW hS h8 inX5 (C := RX5) (T := TX5) (N := 28) tyX5_ok nmX5 rfl 21 (by decide) q_f_5_126 rfl rfl rfl (Nat.le_of_ble_eq_true rfl) dX5_device_30 (fun H locs ct_26 hW hk_27 hg_28 hz hS => ?_)
    have h_29 := (hg_28 10 (by decide)).trans h10
    have h_30 := (hg_28 11 (by decide)).trans h11
    have h_31 := (hg_28 12 (by decide)).trans h12
    have h_32 := (hg_28 13 (by decide)).trans h13
    have h_33 := (hg_28 15 (by decide)).trans h15
    have h_34 := (hg_28 16 (by decide)).trans h16
    have h_35 := (hg_28 17 (by decide)).trans h17
    have h_36 := (hg_28 18 (by decide)).trans h18
    have h_37 := (hg_28 19 (by decide)).trans h19
    have h_38 := (hg_28 20 (by decide)).trans h20
    have h_39 := (hg_28 21 (by decide)).trans h21
    have h_40 := (hg_28 23 (by decide)).trans h23
    have h_41 := (hg_28 24 (by decide)).trans h24
    have h_42 := (hg_28 26 (by decide)).trans h26
    have h_43 := (hg_28 27 (by decide)).trans h27
    have h_44 := (hg_28 28 (by decide)).trans h28
    have h_45 := (hg_28 29 (by decide)).trans h29
    have h_46 := (hg_28 32 (by decide)).trans h32
    have h_47 := (hg_28 33 (by decide)).trans h33
    have h_48 := (hg_28 34 (by decide)).trans h34
    have h_49 := (hg_28 35 (by decide)).trans h35
    have h_50 : ct_26 8 = some (.inr (5, [.ref (ad 10), .ref (ad 11), .ref (ad 12), .ref (ad 13), .ref (ad 14), .ref (ad 15), .ref (ad 16), .ref (ad 17), .ref (ad 18), .ref (ad 19), .ref (ad 20), .ref (ad 21), .int (nI n), .ref (ad 23), .ref (ad 24), .int (nI L.1), .ref (ad 26), .ref (ad 27), .ref (ad 28), .ref (ad 29), .int A.2.2.1, .int 1, .ref (ad 32), .ref (ad 33), .ref (ad 34), .ref (ad 35), .int fr, .int pd])) := hk_27
    refine lv_aload_n hx hb dX5_device_33 rfl (lv_at hl 0 rfl) ?_
    refine hr_get S hE hW h_50 inX5 (C := RX5) (T := TX5) (N := 28) rfl 21 (by decide) q_f_5_126 rfl dX5_device_34 ?_
    refine lv_if_eq (tgt := 42) hx hb dX5_device_37 (by decide) (fun q => absurd q (by decide)) (fun _ => ?_)
    refine lv_iconst (v := (-1)) hx hb dX5_device_40 (by decide) ?_
    exact h_iret S hr hlk hS hW dX5_device_41 ⟨rfl, ⟨⟨_, _, _, _, _, _, h_50, h_37, h_38, h_45, h_46, h_47, h_48, h_49⟩, ⟨h_29, h_30, h_31, h_33, h_36⟩, ⟨h_32, h_34, h_35, h_39, h_40, h_41, _, _, _, h_42, h_43, h_44⟩, hn300, hm400, hlks, hks⟩, (fun j hj => (hg_28 j (by omega)))⟩
set_option maxRecDepth 100000 in
set_option maxHeartbeats 4000000 in
theorem c_X5_device_f (l : Launch) (G : hG) (ad : Nat → Nat) (ct : Nat → Option va_E) {n : Nat} {ks : Nat → Nat} {A : AS} {tk : Nat → Int32} {L : LS4} {st0 : Int32} (hR : RM G ad ct n ks A tk L st0) {kd : Nat} (hkd : kd < 11) (v : Int32) (hn3 : ¬ n < 300)  : Met l yX5_device wzX5_device { frames := 0, cells := 0, slots := 0, locals := 0 } (hPw [.ref (ad 8), .int (nI kd), .int v] G ad ct) (hQi (fun r ct1 => r = (-1) ∧ RM G ad ct1 n ks A tk L 5 ∧ agX ct1 ct) G ad) 0 0 (hA G.2.2.2) := by
  refine hMetw (by decide) (Nat.le_of_ble_eq_true rfl) (fun p e s m below meth c ls S hr hlk hE hW hl => ?_)
  obtain ⟨hx, hb, hml, hown, hts⟩ := id S
  have hS : va_S (hA G.2.2.2) s.heap s.heap [] := va_S.rf
  have hl : lv_has ls 3 [(0, .ref (ad 8)), (1, .int (nI kd)), (2, .int v)] := hl
  obtain ⟨⟨fr, pd, fb, fa, fx, pl, h8, h19, h20, h29, h32, h33, h34, h35⟩, ⟨h10, h11, h12, h15, h18⟩, ⟨h13, h16, h17, h21, h23, h24, rw_, an, ii, h26, h27, h28⟩, hn300, hm400, hlks, hks⟩ := id hR
  refine lv_aload_n hx hb dX5_device_0 rfl (lv_at hl 0 rfl) ?_
  refine lv_iload_n hx hb dX5_device_1 rfl (lv_at hl 1 rfl) ?_
  refine lv_if_lt (tgt := 11) hx hb dX5_device_2 (by decide) (fun q => absurd q (nI_pos (by omega))) (fun _ => ?_)
  refine lv_iload_n hx hb dX5_device_5 rfl (lv_at hl 1 rfl) ?_
  refine lv_bipush (v := 11) hx hb dX5_device_6 (by decide) ?_
  refine lv_icmp_lt (tgt := 15) hx hb dX5_device_8 (by decide) (fun _ => ?_) (fun q => absurd (show nI kd < 11 from nI_lt (b := 11) hkd (by omega)) q)
  refine lv_aload_n hx hb dX5_device_15 rfl (lv_at hl 0 rfl) ?_
  refine hr_get S hE hW h8 inX5 (C := RX5) (T := TX5) (N := 28) rfl 12 (by decide) q_f_5_123 rfl dX5_device_16 ?_
  refine lv_sipush (v := 300) hx hb dX5_device_19 (by decide) ?_
  refine lv_icmp_ne (tgt := 29) hx hb dX5_device_22 (by decide) (fun q => absurd (show nI n = 300 by rw [show n = 300 by omega]; rfl) q) (fun _ => ?_)
  refine lv_iconst (v := 5) hx hb dX5_device_25 (by decide) ?_
  refine lv_goto (tgt := 30) hx hb dX5_device_26 (by decide) ?_
  refine hr_put S hE hW hS h8 inX5 (C := RX5) (T := TX5) (N := 28) tyX5_ok nmX5 rfl 21 (by decide) q_f_5_126 rfl rfl rfl (Nat.le_of_ble_eq_true rfl) dX5_device_30 (fun H locs ct_1 hW hk_2 hg_3 hz hS => ?_)
  have h_4 := (hg_3 10 (by decide)).trans h10
  have h_5 := (hg_3 11 (by decide)).trans h11
  have h_6 := (hg_3 12 (by decide)).trans h12
  have h_7 := (hg_3 13 (by decide)).trans h13
  have h_8 := (hg_3 15 (by decide)).trans h15
  have h_9 := (hg_3 16 (by decide)).trans h16
  have h_10 := (hg_3 17 (by decide)).trans h17
  have h_11 := (hg_3 18 (by decide)).trans h18
  have h_12 := (hg_3 19 (by decide)).trans h19
  have h_13 := (hg_3 20 (by decide)).trans h20
  have h_14 := (hg_3 21 (by decide)).trans h21
  have h_15 := (hg_3 23 (by decide)).trans h23
  have h_16 := (hg_3 24 (by decide)).trans h24
  have h_17 := (hg_3 26 (by decide)).trans h26
  have h_18 := (hg_3 27 (by decide)).trans h27
  have h_19 := (hg_3 28 (by decide)).trans h28
  have h_20 := (hg_3 29 (by decide)).trans h29
  have h_21 := (hg_3 32 (by decide)).trans h32
  have h_22 := (hg_3 33 (by decide)).trans h33
  have h_23 := (hg_3 34 (by decide)).trans h34
  have h_24 := (hg_3 35 (by decide)).trans h35
  have h_25 : ct_1 8 = some (.inr (5, [.ref (ad 10), .ref (ad 11), .ref (ad 12), .ref (ad 13), .ref (ad 14), .ref (ad 15), .ref (ad 16), .ref (ad 17), .ref (ad 18), .ref (ad 19), .ref (ad 20), .ref (ad 21), .int (nI n), .ref (ad 23), .ref (ad 24), .int (nI L.1), .ref (ad 26), .ref (ad 27), .ref (ad 28), .ref (ad 29), .int A.2.2.1, .int 5, .ref (ad 32), .ref (ad 33), .ref (ad 34), .ref (ad 35), .int fr, .int pd])) := hk_2
  refine lv_aload_n hx hb dX5_device_33 rfl (lv_at hl 0 rfl) ?_
  refine hr_get S hE hW h_25 inX5 (C := RX5) (T := TX5) (N := 28) rfl 21 (by decide) q_f_5_126 rfl dX5_device_34 ?_
  refine lv_if_eq (tgt := 42) hx hb dX5_device_37 (by decide) (fun q => absurd q (by decide)) (fun _ => ?_)
  refine lv_iconst (v := (-1)) hx hb dX5_device_40 (by decide) ?_
  exact h_iret S hr hlk hS hW dX5_device_41 ⟨rfl, ⟨⟨_, _, _, _, _, _, h_25, h_12, h_13, h_20, h_21, h_22, h_23, h_24⟩, ⟨h_4, h_5, h_6, h_8, h_11⟩, ⟨h_7, h_9, h_10, h_14, h_15, h_16, _, _, _, h_17, h_18, h_19⟩, hn300, hm400, hlks, hks⟩, (fun j hj => (hg_3 j (by omega)))⟩
