theorem newL_lt {L : LS4} {n i j : Nat} (h : ∀ y, y < L.1 → L.2.1 y < n ∧ L.2.2 y < n) (hi : i < n) (hj : j < n) : ∀ y, y < (newL L i j).1 → (newL L i j).2.1 y < n ∧ (newL L i j).2.2 y < n := by
  intro y hy
  have hy' : y < L.1 + 1 := hy
  show va_up L.2.1 L.1 i y < n ∧ va_up L.2.2 L.1 j y < n
  by_cases e : y = L.1
  · rw [e, va_up_self, va_up_self]; exact ⟨hi, hj⟩
  · rw [va_up_ne _ _ e, va_up_ne _ _ e]; exact h y (by omega)
set_option maxRecDepth 100000 in
set_option maxHeartbeats 4000000 in
theorem c_X5_link_ok (l : Launch) (G : hG) (ad : Nat → Nat) (ct : Nat → Option va_E) {n : Nat} {ks : Nat → Nat} {A : AS} {tk : Nat → Int32} {L : LS4} {st0 : Int32} (hR : RM G ad ct n ks A tk L st0) {i j : Nat} (hi : i < n) (hj : j < n) (hm4 : L.1 < 400)  : Met l yX5_link wzX5_link { frames := 1, cells := 0, slots := 0, locals := 21 } (hPw [.ref (ad 8), .int (nI i), .int (nI j)] G ad ct) (hQi (fun r ct1 => r = (nI L.1) ∧ RM G ad ct1 n ks A tk (newL L i j) 0 ∧ agX ct1 ct) G ad) 0 0 (hA G.2.2.2) := by
  refine hMetw (by decide) (Nat.le_of_ble_eq_true rfl) (fun p e s m below meth c ls S hr hlk hE hW hl => ?_)
  obtain ⟨hx, hb, hml, hown, hts⟩ := id S
  have hS : va_S (hA G.2.2.2) s.heap s.heap [] := va_S.rf
  have hl : lv_has ls 3 [(0, .ref (ad 8)), (1, .int (nI i)), (2, .int (nI j))] := hl
  obtain ⟨⟨fr, pd, fb, fa, fx, pl, h8, h19, h20, h29, h32, h33, h34, h35⟩, ⟨h10, h11, h12, h15, h18⟩, ⟨h13, h16, h17, h21, h23, h24, rw_, an, ii, h26, h27, h28⟩, hn300, hm400, hlks, hks⟩ := id hR
  refine lv_aload_n hx hb dX5_link_0 rfl (lv_at hl 0 rfl) ?_
  refine lv_aload_n hx hb dX5_link_1 rfl (lv_at hl 0 rfl) ?_
  refine lv_iload_n hx hb dX5_link_2 rfl (lv_at hl 1 rfl) ?_
  refine hc_r (va_runV (As := [.int (nI i)]) (rest := [.ref (ad 8)]) S (c_X5_isDevice l G _ hW hR (nI i)) (cwV 1 hts (gWSV q_l_5_129 q_im_X5_isDevice q_se_X5_isDevice q_in_5 q_co_X5_isDevice) rfl rfl rfl (by decide +kernel) ⟨Nat.le_of_ble_eq_true rfl, Nat.le_of_ble_eq_true rfl⟩) (hPreVr hE hS (hrecv hE hW h8 (q := (RX5, TX5, 28)) rfl)) rfl rfl hl.1 rfl (lv_room (Nat.le_of_ble_eq_true rfl)) dX5_link_3 ⟨Nat.le_of_ble_eq_true rfl, Nat.le_of_ble_eq_true rfl⟩) hS (fun locs hS => ?_)
  refine lv_if_eq (tgt := 17) hx hb dX5_link_6 (by decide) (fun q => absurd q (fun q : isDevF (nI n) (nI i) = 0 => absurd ((isDevF_ok hn300 hi).symm.trans q) (by decide))) (fun _ => ?_)
  refine lv_aload_n hx hb dX5_link_9 rfl (lv_at hl 0 rfl) ?_
  refine lv_iload_n hx hb dX5_link_10 rfl (lv_at hl 2 rfl) ?_
  refine hc_r (va_runV (As := [.int (nI j)]) (rest := [.ref (ad 8)]) S (c_X5_isDevice l G _ hW hR (nI j)) (cwV 1 hts (gWSV q_l_5_129 q_im_X5_isDevice q_se_X5_isDevice q_in_5 q_co_X5_isDevice) rfl rfl rfl (by decide +kernel) ⟨Nat.le_of_ble_eq_true rfl, Nat.le_of_ble_eq_true rfl⟩) (hPreVr hE hS (hrecv hE hW h8 (q := (RX5, TX5, 28)) rfl)) rfl rfl hl.1 rfl (lv_room (Nat.le_of_ble_eq_true rfl)) dX5_link_11 ⟨Nat.le_of_ble_eq_true rfl, Nat.le_of_ble_eq_true rfl⟩) hS (fun locs hS => ?_)
  refine lv_if_ne (tgt := 21) hx hb dX5_link_14 (by decide) (fun _ => ?_) (fun q => absurd q (fun q : isDevF (nI n) (nI j) = 0 => absurd ((isDevF_ok hn300 hj).symm.trans q) (by decide)))
  refine lv_aload_n hx hb dX5_link_21 rfl (lv_at hl 0 rfl) ?_
  refine hr_get S hE hW h8 inX5 (C := RX5) (T := TX5) (N := 28) rfl 15 (by decide) q_f_5_160 rfl dX5_link_22 ?_
  refine lv_sipush (v := 400) hx hb dX5_link_25 (by decide) ?_
  refine lv_icmp_ne (tgt := 35) hx hb dX5_link_28 (by decide) (fun _ => ?_) (fun q => absurd q (fun q : nI L.1 = 400 => absurd (nI_lt (a := L.1) (b := 400) hm4 (by omega)) (by rw [q]; decide)))
  refine lv_iconst (v := 0) hx hb dX5_link_35 (by decide) ?_
  refine hr_put S hE hW hS h8 inX5 (C := RX5) (T := TX5) (N := 28) tyX5_ok nmX5 rfl 21 (by decide) q_f_5_126 rfl rfl rfl (Nat.le_of_ble_eq_true rfl) dX5_link_36 (fun H locs ct_1 hW hk_2 hg_3 hz hS => ?_)
  have h_4 := (hg_3 10 (by decide)).trans h10
  have h_5 := (hg_3 11 (by decide)).trans h11
  have h_6 := (hg_3 12 (by decide)).trans h12
  have h_7 := (hg_3 13 (by decide)).trans h13
  have h_8 := (hg_3 15 (by decide)).trans h15
  have h_9 := (hg_3 16 (by decide)).trans h16
  have h_10 := (hg_3 17 (by decide)).trans h17
  have h_11 := (hg_3 18 (by decide)).trans h18
  have h_12 := (hg_3 19 (by decide)).trans h19
  have h_13 := (hg_3 20 (by decide)).trans h20
  have h_14 := (hg_3 21 (by decide)).trans h21
  have h_15 := (hg_3 23 (by decide)).trans h23
  have h_16 := (hg_3 24 (by decide)).trans h24
  have h_17 := (hg_3 26 (by decide)).trans h26
  have h_18 := (hg_3 27 (by decide)).trans h27
  have h_19 := (hg_3 28 (by decide)).trans h28
  have h_20 := (hg_3 29 (by decide)).trans h29
  have h_21 := (hg_3 32 (by decide)).trans h32
  have h_22 := (hg_3 33 (by decide)).trans h33
  have h_23 := (hg_3 34 (by decide)).trans h34
  have h_24 := (hg_3 35 (by decide)).trans h35
  have h_25 : ct_1 8 = some (.inr (5, [.ref (ad 10), .ref (ad 11), .ref (ad 12), .ref (ad 13), .ref (ad 14), .ref (ad 15), .ref (ad 16), .ref (ad 17), .ref (ad 18), .ref (ad 19), .ref (ad 20), .ref (ad 21), .int (nI n), .ref (ad 23), .ref (ad 24), .int (nI L.1), .ref (ad 26), .ref (ad 27), .ref (ad 28), .ref (ad 29), .int A.2.2.1, .int 0, .ref (ad 32), .ref (ad 33), .ref (ad 34), .ref (ad 35), .int fr, .int pd])) := hk_2
  refine lv_aload_n hx hb dX5_link_39 rfl (lv_at hl 0 rfl) ?_
  refine hr_get S hE hW h_25 inX5 (C := RX5) (T := TX5) (N := 28) rfl 21 (by decide) q_f_5_126 rfl dX5_link_40 ?_
  refine lv_if_eq (tgt := 48) hx hb dX5_link_43 (by decide) (fun _ => ?_) (fun q => absurd (by decide) q)
  refine lv_aload_n hx hb dX5_link_48 rfl (lv_at hl 0 rfl) ?_
  refine hr_get S hE hW h_25 inX5 (C := RX5) (T := TX5) (N := 28) rfl 13 (by decide) q_f_5_46 rfl dX5_link_49 ?_
  refine lv_aload_n hx hb dX5_link_52 rfl (lv_at hl 0 rfl) ?_
  refine hr_get S hE hW h_25 inX5 (C := RX5) (T := TX5) (N := 28) rfl 15 (by decide) q_f_5_160 rfl dX5_link_53 ?_
  refine lv_iload_n hx hb dX5_link_56 rfl (lv_at hl 1 rfl) ?_
  refine hr_iastk S hE hW hS h_15 (j := L.1) rfl hm4 (by decide) dX5_link_57 (fun H locs ct_26 hW hk_27 hg_28 hz hS => ?_)
  have h_29 := (hg_28 10 (by decide)).trans h_4
  have h_30 := (hg_28 11 (by decide)).trans h_5
  have h_31 := (hg_28 12 (by decide)).trans h_6
  have h_32 := (hg_28 13 (by decide)).trans h_7
  have h_33 := (hg_28 15 (by decide)).trans h_8
  have h_34 := (hg_28 16 (by decide)).trans h_9
  have h_35 := (hg_28 17 (by decide)).trans h_10
  have h_36 := (hg_28 18 (by decide)).trans h_11
  have h_37 := (hg_28 19 (by decide)).trans h_12
  have h_38 := (hg_28 20 (by decide)).trans h_13
  have h_39 := (hg_28 21 (by decide)).trans h_14
  have h_40 := (hg_28 24 (by decide)).trans h_16
  have h_41 := (hg_28 26 (by decide)).trans h_17
  have h_42 := (hg_28 27 (by decide)).trans h_18
  have h_43 := (hg_28 28 (by decide)).trans h_19
  have h_44 := (hg_28 29 (by decide)).trans h_20
  have h_45 := (hg_28 32 (by decide)).trans h_21
  have h_46 := (hg_28 33 (by decide)).trans h_22
  have h_47 := (hg_28 34 (by decide)).trans h_23
  have h_48 := (hg_28 35 (by decide)).trans h_24
  have h_49 := (hg_28 8 (by decide)).trans h_25
  have h_50 : ct_26 23 = some (.inl (G.2.1.1, 400, .inl (upd (kdM L.2.1) L.1 (nI i)))) := hk_27
  refine lv_aload_n hx hb dX5_link_58 rfl (lv_at hl 0 rfl) ?_
  refine hr_get S hE hW h_49 inX5 (C := RX5) (T := TX5) (N := 28) rfl 14 (by decide) q_f_5_49 rfl dX5_link_59 ?_
  refine lv_aload_n hx hb dX5_link_62 rfl (lv_at hl 0 rfl) ?_
  refine hr_get S hE hW h_49 inX5 (C := RX5) (T := TX5) (N := 28) rfl 15 (by decide) q_f_5_160 rfl dX5_link_63 ?_
  refine lv_iload_n hx hb dX5_link_66 rfl (lv_at hl 2 rfl) ?_
  refine hr_iastk S hE hW hS h_40 (j := L.1) rfl hm4 (by decide) dX5_link_67 (fun H locs ct_51 hW hk_52 hg_53 hz hS => ?_)
  have h_54 := (hg_53 10 (by decide)).trans h_29
  have h_55 := (hg_53 11 (by decide)).trans h_30
  have h_56 := (hg_53 12 (by decide)).trans h_31
  have h_57 := (hg_53 13 (by decide)).trans h_32
  have h_58 := (hg_53 15 (by decide)).trans h_33
  have h_59 := (hg_53 16 (by decide)).trans h_34
  have h_60 := (hg_53 17 (by decide)).trans h_35
  have h_61 := (hg_53 18 (by decide)).trans h_36
  have h_62 := (hg_53 19 (by decide)).trans h_37
  have h_63 := (hg_53 20 (by decide)).trans h_38
  have h_64 := (hg_53 21 (by decide)).trans h_39
  have h_65 := (hg_53 26 (by decide)).trans h_41
  have h_66 := (hg_53 27 (by decide)).trans h_42
  have h_67 := (hg_53 28 (by decide)).trans h_43
  have h_68 := (hg_53 29 (by decide)).trans h_44
  have h_69 := (hg_53 32 (by decide)).trans h_45
  have h_70 := (hg_53 33 (by decide)).trans h_46
  have h_71 := (hg_53 34 (by decide)).trans h_47
  have h_72 := (hg_53 35 (by decide)).trans h_48
  have h_73 := (hg_53 8 (by decide)).trans h_49
  have h_74 := (hg_53 23 (by decide)).trans h_50
  have h_75 : ct_51 24 = some (.inl (G.2.1.1, 400, .inl (upd (kdM L.2.2) L.1 (nI j)))) := hk_52
  refine lv_aload_n hx hb dX5_link_68 rfl (lv_at hl 0 rfl) ?_
  refine lv_dup hx hb dX5_link_69 rfl ?_
  refine hr_get S hE hW h_73 inX5 (C := RX5) (T := TX5) (N := 28) rfl 15 (by decide) q_f_5_160 rfl dX5_link_70 ?_
  refine lv_iconst (v := 1) hx hb dX5_link_73 (by decide) ?_
  refine lv_iadd hx hb dX5_link_74 ?_
  rw [nI_1]
  refine hr_put S hE hW hS h_73 inX5 (C := RX5) (T := TX5) (N := 28) tyX5_ok nmX5 rfl 15 (by decide) q_f_5_160 rfl rfl rfl (Nat.le_of_ble_eq_true rfl) dX5_link_75 (fun H locs ct_76 hW hk_77 hg_78 hz hS => ?_)
  have h_79 := (hg_78 10 (by decide)).trans h_54
  have h_80 := (hg_78 11 (by decide)).trans h_55
  have h_81 := (hg_78 12 (by decide)).trans h_56
  have h_82 := (hg_78 13 (by decide)).trans h_57
  have h_83 := (hg_78 15 (by decide)).trans h_58
  have h_84 := (hg_78 16 (by decide)).trans h_59
  have h_85 := (hg_78 17 (by decide)).trans h_60
  have h_86 := (hg_78 18 (by decide)).trans h_61
  have h_87 := (hg_78 19 (by decide)).trans h_62
  have h_88 := (hg_78 20 (by decide)).trans h_63
  have h_89 := (hg_78 21 (by decide)).trans h_64
  have h_90 := (hg_78 26 (by decide)).trans h_65
  have h_91 := (hg_78 27 (by decide)).trans h_66
  have h_92 := (hg_78 28 (by decide)).trans h_67
  have h_93 := (hg_78 29 (by decide)).trans h_68
  have h_94 := (hg_78 32 (by decide)).trans h_69
  have h_95 := (hg_78 33 (by decide)).trans h_70
  have h_96 := (hg_78 34 (by decide)).trans h_71
  have h_97 := (hg_78 35 (by decide)).trans h_72
  have h_98 := (hg_78 23 (by decide)).trans h_74
  have h_99 := (hg_78 24 (by decide)).trans h_75
  have h_100 : ct_76 8 = some (.inr (5, [.ref (ad 10), .ref (ad 11), .ref (ad 12), .ref (ad 13), .ref (ad 14), .ref (ad 15), .ref (ad 16), .ref (ad 17), .ref (ad 18), .ref (ad 19), .ref (ad 20), .ref (ad 21), .int (nI n), .ref (ad 23), .ref (ad 24), .int (nI (L.1 + 1)), .ref (ad 26), .ref (ad 27), .ref (ad 28), .ref (ad 29), .int A.2.2.1, .int 0, .ref (ad 32), .ref (ad 33), .ref (ad 34), .ref (ad 35), .int fr, .int pd])) := hk_77
  refine lv_aload_n hx hb dX5_link_78 rfl (lv_at hl 0 rfl) ?_
  refine hr_get S hE hW h_100 inX5 (C := RX5) (T := TX5) (N := 28) rfl 15 (by decide) q_f_5_160 rfl dX5_link_79 ?_
  refine lv_iconst (v := 1) hx hb dX5_link_82 (by decide) ?_
  refine lv_isub hx hb dX5_link_83 ?_
  rw [show nI (L.1 + 1) - 1 = nI L.1 from nI_pred _]
  exact h_iret S hr hlk hS hW dX5_link_84 ⟨rfl, ⟨⟨_, _, _, _, _, _, h_100, h_87, h_88, h_93, h_94, h_95, h_96, h_97⟩, ⟨h_79, h_80, h_81, h_83, h_86⟩, ⟨h_82, h_84, h_85, h_89, (by rw [show kdM (newL L i j).2.1 = _ from kdM_up _ _ _]; exact h_98), (by rw [show kdM (newL L i j).2.2 = _ from kdM_up _ _ _]; exact h_99), _, _, _, h_90, h_91, h_92⟩, hn300, (show L.1 + 1 ≤ 400 by omega), newL_lt hlks hi hj, hks⟩, (fun j hj => ((hg_78 j (by omega))).trans (((hg_53 j (by omega))).trans (((hg_28 j (by omega))).trans ((hg_3 j (by omega))))))⟩
set_option maxRecDepth 100000 in
set_option maxHeartbeats 4000000 in
theorem c_X5_link_a (l : Launch) (G : hG) (ad : Nat → Nat) (ct : Nat → Option va_E) {n : Nat} {ks : Nat → Nat} {A : AS} {tk : Nat → Int32} {L : LS4} {st0 : Int32} (hR : RM G ad ct n ks A tk L st0) {d b0 : Int32} (hd : ∀ i, i < n → d ≠ nI i)  : Met l yX5_link wzX5_link { frames := 1, cells := 0, slots := 0, locals := 21 } (hPw [.ref (ad 8), .int d, .int b0] G ad ct) (hQi (fun r ct1 => r = (-1) ∧ RM G ad ct1 n ks A tk L 1 ∧ agX ct1 ct) G ad) 0 0 (hA G.2.2.2) := by
  refine hMetw (by decide) (Nat.le_of_ble_eq_true rfl) (fun p e s m below meth c ls S hr hlk hE hW hl => ?_)
  obtain ⟨hx, hb, hml, hown, hts⟩ := id S
  have hS : va_S (hA G.2.2.2) s.heap s.heap [] := va_S.rf
  have hl : lv_has ls 3 [(0, .ref (ad 8)), (1, .int d), (2, .int b0)] := hl
  obtain ⟨⟨fr, pd, fb, fa, fx, pl, h8, h19, h20, h29, h32, h33, h34, h35⟩, ⟨h10, h11, h12, h15, h18⟩, ⟨h13, h16, h17, h21, h23, h24, rw_, an, ii, h26, h27, h28⟩, hn300, hm400, hlks, hks⟩ := id hR
  refine lv_aload_n hx hb dX5_link_0 rfl (lv_at hl 0 rfl) ?_
  refine lv_aload_n hx hb dX5_link_1 rfl (lv_at hl 0 rfl) ?_
  refine lv_iload_n hx hb dX5_link_2 rfl (lv_at hl 1 rfl) ?_
  refine hc_r (va_runV (As := [.int d]) (rest := [.ref (ad 8)]) S (c_X5_isDevice l G _ hW hR d) (cwV 1 hts (gWSV q_l_5_129 q_im_X5_isDevice q_se_X5_isDevice q_in_5 q_co_X5_isDevice) rfl rfl rfl (by decide +kernel) ⟨Nat.le_of_ble_eq_true rfl, Nat.le_of_ble_eq_true rfl⟩) (hPreVr hE hS (hrecv hE hW h8 (q := (RX5, TX5, 28)) rfl)) rfl rfl hl.1 rfl (lv_room (Nat.le_of_ble_eq_true rfl)) dX5_link_3 ⟨Nat.le_of_ble_eq_true rfl, Nat.le_of_ble_eq_true rfl⟩) hS (fun locs hS => ?_)
  refine lv_if_eq (tgt := 17) hx hb dX5_link_6 (by decide) (fun _ => ?_) (fun q => absurd (isDevF_no hn300 hd) q)
  refine lv_iconst (v := 1) hx hb dX5_link_17 (by decide) ?_
  refine lv_goto (tgt := 36) hx hb dX5_link_18 (by decide) ?_
  refine hr_put S hE hW hS h8 inX5 (C := RX5) (T := TX5) (N := 28) tyX5_ok nmX5 rfl 21 (by decide) q_f_5_126 rfl rfl rfl (Nat.le_of_ble_eq_true rfl) dX5_link_36 (fun H locs ct_1 hW hk_2 hg_3 hz hS => ?_)
  have h_4 := (hg_3 10 (by decide)).trans h10
  have h_5 := (hg_3 11 (by decide)).trans h11
  have h_6 := (hg_3 12 (by decide)).trans h12
  have h_7 := (hg_3 13 (by decide)).trans h13
  have h_8 := (hg_3 15 (by decide)).trans h15
  have h_9 := (hg_3 16 (by decide)).trans h16
  have h_10 := (hg_3 17 (by decide)).trans h17
  have h_11 := (hg_3 18 (by decide)).trans h18
  have h_12 := (hg_3 19 (by decide)).trans h19
  have h_13 := (hg_3 20 (by decide)).trans h20
  have h_14 := (hg_3 21 (by decide)).trans h21
  have h_15 := (hg_3 23 (by decide)).trans h23
  have h_16 := (hg_3 24 (by decide)).trans h24
  have h_17 := (hg_3 26 (by decide)).trans h26
  have h_18 := (hg_3 27 (by decide)).trans h27
  have h_19 := (hg_3 28 (by decide)).trans h28
  have h_20 := (hg_3 29 (by decide)).trans h29
  have h_21 := (hg_3 32 (by decide)).trans h32
  have h_22 := (hg_3 33 (by decide)).trans h33
  have h_23 := (hg_3 34 (by decide)).trans h34
  have h_24 := (hg_3 35 (by decide)).trans h35
  have h_25 : ct_1 8 = some (.inr (5, [.ref (ad 10), .ref (ad 11), .ref (ad 12), .ref (ad 13), .ref (ad 14), .ref (ad 15), .ref (ad 16), .ref (ad 17), .ref (ad 18), .ref (ad 19), .ref (ad 20), .ref (ad 21), .int (nI n), .ref (ad 23), .ref (ad 24), .int (nI L.1), .ref (ad 26), .ref (ad 27), .ref (ad 28), .ref (ad 29), .int A.2.2.1, .int 1, .ref (ad 32), .ref (ad 33), .ref (ad 34), .ref (ad 35), .int fr, .int pd])) := hk_2
  refine lv_aload_n hx hb dX5_link_39 rfl (lv_at hl 0 rfl) ?_
  refine hr_get S hE hW h_25 inX5 (C := RX5) (T := TX5) (N := 28) rfl 21 (by decide) q_f_5_126 rfl dX5_link_40 ?_
  refine lv_if_eq (tgt := 48) hx hb dX5_link_43 (by decide) (fun q => absurd q (by decide)) (fun _ => ?_)
  refine lv_iconst (v := (-1)) hx hb dX5_link_46 (by decide) ?_
  exact h_iret S hr hlk hS hW dX5_link_47 ⟨rfl, ⟨⟨_, _, _, _, _, _, h_25, h_12, h_13, h_20, h_21, h_22, h_23, h_24⟩, ⟨h_4, h_5, h_6, h_8, h_11⟩, ⟨h_7, h_9, h_10, h_14, h_15, h_16, _, _, _, h_17, h_18, h_19⟩, hn300, hm400, hlks, hks⟩, (fun j hj => (hg_3 j (by omega)))⟩
set_option maxRecDepth 100000 in
set_option maxHeartbeats 4000000 in
theorem c_X5_link_c (l : Launch) (G : hG) (ad : Nat → Nat) (ct : Nat → Option va_E) {n : Nat} {ks : Nat → Nat} {A : AS} {tk : Nat → Int32} {L : LS4} {st0 : Int32} (hR : RM G ad ct n ks A tk L st0) {i : Nat} (hi : i < n) {d : Int32} (hd : ∀ i, i < n → d ≠ nI i)  : Met l yX5_link wzX5_link { frames := 1, cells := 0, slots := 0, locals := 21 } (hPw [.ref (ad 8), .int (nI i), .int d] G ad ct) (hQi (fun r ct1 => r = (-1) ∧ RM G ad ct1 n ks A tk L 1 ∧ agX ct1 ct) G ad) 0 0 (hA G.2.2.2) := by
  refine hMetw (by decide) (Nat.le_of_ble_eq_true rfl) (fun p e s m below meth c ls S hr hlk hE hW hl => ?_)
  obtain ⟨hx, hb, hml, hown, hts⟩ := id S
  have hS : va_S (hA G.2.2.2) s.heap s.heap [] := va_S.rf
  have hl : lv_has ls 3 [(0, .ref (ad 8)), (1, .int (nI i)), (2, .int d)] := hl
  obtain ⟨⟨fr, pd, fb, fa, fx, pl, h8, h19, h20, h29, h32, h33, h34, h35⟩, ⟨h10, h11, h12, h15, h18⟩, ⟨h13, h16, h17, h21, h23, h24, rw_, an, ii, h26, h27, h28⟩, hn300, hm400, hlks, hks⟩ := id hR
  refine lv_aload_n hx hb dX5_link_0 rfl (lv_at hl 0 rfl) ?_
  refine lv_aload_n hx hb dX5_link_1 rfl (lv_at hl 0 rfl) ?_
  refine lv_iload_n hx hb dX5_link_2 rfl (lv_at hl 1 rfl) ?_
  refine hc_r (va_runV (As := [.int (nI i)]) (rest := [.ref (ad 8)]) S (c_X5_isDevice l G _ hW hR (nI i)) (cwV 1 hts (gWSV q_l_5_129 q_im_X5_isDevice q_se_X5_isDevice q_in_5 q_co_X5_isDevice) rfl rfl rfl (by decide +kernel) ⟨Nat.le_of_ble_eq_true rfl, Nat.le_of_ble_eq_true rfl⟩) (hPreVr hE hS (hrecv hE hW h8 (q := (RX5, TX5, 28)) rfl)) rfl rfl hl.1 rfl (lv_room (Nat.le_of_ble_eq_true rfl)) dX5_link_3 ⟨Nat.le_of_ble_eq_true rfl, Nat.le_of_ble_eq_true rfl⟩) hS (fun locs hS => ?_)
  refine lv_if_eq (tgt := 17) hx hb dX5_link_6 (by decide) (fun q => absurd q (fun q : isDevF (nI n) (nI i) = 0 => absurd ((isDevF_ok hn300 hi).symm.trans q) (by decide))) (fun _ => ?_)
  refine lv_aload_n hx hb dX5_link_9 rfl (lv_at hl 0 rfl) ?_
  refine lv_iload_n hx hb dX5_link_10 rfl (lv_at hl 2 rfl) ?_
  refine hc_r (va_runV (As := [.int d]) (rest := [.ref (ad 8)]) S (c_X5_isDevice l G _ hW hR d) (cwV 1 hts (gWSV q_l_5_129 q_im_X5_isDevice q_se_X5_isDevice q_in_5 q_co_X5_isDevice) rfl rfl rfl (by decide +kernel) ⟨Nat.le_of_ble_eq_true rfl, Nat.le_of_ble_eq_true rfl⟩) (hPreVr hE hS (hrecv hE hW h8 (q := (RX5, TX5, 28)) rfl)) rfl rfl hl.1 rfl (lv_room (Nat.le_of_ble_eq_true rfl)) dX5_link_11 ⟨Nat.le_of_ble_eq_true rfl, Nat.le_of_ble_eq_true rfl⟩) hS (fun locs hS => ?_)
  refine lv_if_ne (tgt := 21) hx hb dX5_link_14 (by decide) (fun q => absurd (isDevF_no hn300 hd) q) (fun _ => ?_)
  refine lv_iconst (v := 1) hx hb dX5_link_17 (by decide) ?_
  refine lv_goto (tgt := 36) hx hb dX5_link_18 (by decide) ?_
  refine hr_put S hE hW hS h8 inX5 (C := RX5) (T := TX5) (N := 28) tyX5_ok nmX5 rfl 21 (by decide) q_f_5_126 rfl rfl rfl (Nat.le_of_ble_eq_true rfl) dX5_link_36 (fun H locs ct_1 hW hk_2 hg_3 hz hS => ?_)
  have h_4 := (hg_3 10 (by decide)).trans h10
  have h_5 := (hg_3 11 (by decide)).trans h11
  have h_6 := (hg_3 12 (by decide)).trans h12
  have h_7 := (hg_3 13 (by decide)).trans h13
  have h_8 := (hg_3 15 (by decide)).trans h15
  have h_9 := (hg_3 16 (by decide)).trans h16
  have h_10 := (hg_3 17 (by decide)).trans h17
  have h_11 := (hg_3 18 (by decide)).trans h18
  have h_12 := (hg_3 19 (by decide)).trans h19
  have h_13 := (hg_3 20 (by decide)).trans h20
  have h_14 := (hg_3 21 (by decide)).trans h21
  have h_15 := (hg_3 23 (by decide)).trans h23
  have h_16 := (hg_3 24 (by decide)).trans h24
  have h_17 := (hg_3 26 (by decide)).trans h26
  have h_18 := (hg_3 27 (by decide)).trans h27
  have h_19 := (hg_3 28 (by decide)).trans h28
  have h_20 := (hg_3 29 (by decide)).trans h29
  have h_21 := (hg_3 32 (by decide)).trans h32
  have h_22 := (hg_3 33 (by decide)).trans h33
  have h_23 := (hg_3 34 (by decide)).trans h34
  have h_24 := (hg_3 35 (by decide)).trans h35
  have h_25 : ct_1 8 = some (.inr (5, [.ref (ad 10), .ref (ad 11), .ref (ad 12), .ref (ad 13), .ref (ad 14), .ref (ad 15), .ref (ad 16), .ref (ad 17), .ref (ad 18), .ref (ad 19), .ref (ad 20), .ref (ad 21), .int (nI n), .ref (ad 23), .ref (ad 24), .int (nI L.1), .ref (ad 26), .ref (ad 27), .ref (ad 28), .ref (ad 29), .int A.2.2.1, .int 1, .ref (ad 32), .ref (ad 33), .ref (ad 34), .ref (ad 35), .int fr, .int pd])) := hk_2
  refine lv_aload_n hx hb dX5_link_39 rfl (lv_at hl 0 rfl) ?_
  refine hr_get S hE hW h_25 inX5 (C := RX5) (T := TX5) (N := 28) rfl 21 (by decide) q_f_5_126 rfl dX5_link_40 ?_
  refine lv_if_eq (tgt := 48) hx hb dX5_link_43 (by decide) (fun q => absurd q (by decide)) (fun _ => ?_)
  refine lv_iconst (v := (-1)) hx hb dX5_link_46 (by decide) ?_
  exact h_iret S hr hlk hS hW dX5_link_47 ⟨rfl, ⟨⟨_, _, _, _, _, _, h_25, h_12, h_13, h_20, h_21, h_22, h_23, h_24⟩, ⟨h_4, h_5, h_6, h_8, h_11⟩, ⟨h_7, h_9, h_10, h_14, h_15, h_16, _, _, _, h_17, h_18, h_19⟩, hn300, hm400, hlks, hks⟩, (fun j hj => (hg_3 j (by omega)))⟩
set_option maxRecDepth 100000 in
set_option maxHeartbeats 4000000 in
theorem c_X5_link_f (l : Launch) (G : hG) (ad : Nat → Nat) (ct : Nat → Option va_E) {n : Nat} {ks : Nat → Nat} {A : AS} {tk : Nat → Int32} {L : LS4} {st0 : Int32} (hR : RM G ad ct n ks A tk L st0) {i j : Nat} (hi : i < n) (hj : j < n) (hm4 : ¬ L.1 < 400)  : Met l yX5_link wzX5_link { frames := 1, cells := 0, slots := 0, locals := 21 } (hPw [.ref (ad 8), .int (nI i), .int (nI j)] G ad ct) (hQi (fun r ct1 => r = (-1) ∧ RM G ad ct1 n ks A tk L 5 ∧ agX ct1 ct) G ad) 0 0 (hA G.2.2.2) := by
  refine hMetw (by decide) (Nat.le_of_ble_eq_true rfl) (fun p e s m below meth c ls S hr hlk hE hW hl => ?_)
  obtain ⟨hx, hb, hml, hown, hts⟩ := id S
  have hS : va_S (hA G.2.2.2) s.heap s.heap [] := va_S.rf
  have hl : lv_has ls 3 [(0, .ref (ad 8)), (1, .int (nI i)), (2, .int (nI j))] := hl
  obtain ⟨⟨fr, pd, fb, fa, fx, pl, h8, h19, h20, h29, h32, h33, h34, h35⟩, ⟨h10, h11, h12, h15, h18⟩, ⟨h13, h16, h17, h21, h23, h24, rw_, an, ii, h26, h27, h28⟩, hn300, hm400, hlks, hks⟩ := id hR
  refine lv_aload_n hx hb dX5_link_0 rfl (lv_at hl 0 rfl) ?_
  refine lv_aload_n hx hb dX5_link_1 rfl (lv_at hl 0 rfl) ?_
  refine lv_iload_n hx hb dX5_link_2 rfl (lv_at hl 1 rfl) ?_
  refine hc_r (va_runV (As := [.int (nI i)]) (rest := [.ref (ad 8)]) S (c_X5_isDevice l G _ hW hR (nI i)) (cwV 1 hts (gWSV q_l_5_129 q_im_X5_isDevice q_se_X5_isDevice q_in_5 q_co_X5_isDevice) rfl rfl rfl (by decide +kernel) ⟨Nat.le_of_ble_eq_true rfl, Nat.le_of_ble_eq_true rfl⟩) (hPreVr hE hS (hrecv hE hW h8 (q := (RX5, TX5, 28)) rfl)) rfl rfl hl.1 rfl (lv_room (Nat.le_of_ble_eq_true rfl)) dX5_link_3 ⟨Nat.le_of_ble_eq_true rfl, Nat.le_of_ble_eq_true rfl⟩) hS (fun locs hS => ?_)
  refine lv_if_eq (tgt := 17) hx hb dX5_link_6 (by decide) (fun q => absurd q (fun q : isDevF (nI n) (nI i) = 0 => absurd ((isDevF_ok hn300 hi).symm.trans q) (by decide))) (fun _ => ?_)
  refine lv_aload_n hx hb dX5_link_9 rfl (lv_at hl 0 rfl) ?_
  refine lv_iload_n hx hb dX5_link_10 rfl (lv_at hl 2 rfl) ?_
  refine hc_r (va_runV (As := [.int (nI j)]) (rest := [.ref (ad 8)]) S (c_X5_isDevice l G _ hW hR (nI j)) (cwV 1 hts (gWSV q_l_5_129 q_im_X5_isDevice q_se_X5_isDevice q_in_5 q_co_X5_isDevice) rfl rfl rfl (by decide +kernel) ⟨Nat.le_of_ble_eq_true rfl, Nat.le_of_ble_eq_true rfl⟩) (hPreVr hE hS (hrecv hE hW h8 (q := (RX5, TX5, 28)) rfl)) rfl rfl hl.1 rfl (lv_room (Nat.le_of_ble_eq_true rfl)) dX5_link_11 ⟨Nat.le_of_ble_eq_true rfl, Nat.le_of_ble_eq_true rfl⟩) hS (fun locs hS => ?_)
  refine lv_if_ne (tgt := 21) hx hb dX5_link_14 (by decide) (fun _ => ?_) (fun q => absurd q (fun q : isDevF (nI n) (nI j) = 0 => absurd ((isDevF_ok hn300 hj).symm.trans q) (by decide)))
  refine lv_aload_n hx hb dX5_link_21 rfl (lv_at hl 0 rfl) ?_
  refine hr_get S hE hW h8 inX5 (C := RX5) (T := TX5) (N := 28) rfl 15 (by decide) q_f_5_160 rfl dX5_link_22 ?_
  refine lv_sipush (v := 400) hx hb dX5_link_25 (by decide) ?_
  refine lv_icmp_ne (tgt := 35) hx hb dX5_link_28 (by decide) (fun q => absurd (show nI L.1 = 400 by rw [show L.1 = 400 by omega]; rfl) q) (fun _ => ?_)
  refine lv_iconst (v := 5) hx hb dX5_link_31 (by decide) ?_
  refine lv_goto (tgt := 36) hx hb dX5_link_32 (by decide) ?_
  refine hr_put S hE hW hS h8 inX5 (C := RX5) (T := TX5) (N := 28) tyX5_ok nmX5 rfl 21 (by decide) q_f_5_126 rfl rfl rfl (Nat.le_of_ble_eq_true rfl) dX5_link_36 (fun H locs ct_1 hW hk_2 hg_3 hz hS => ?_)
  have h_4 := (hg_3 10 (by decide)).trans h10
  have h_5 := (hg_3 11 (by decide)).trans h11
  have h_6 := (hg_3 12 (by decide)).trans h12
  have h_7 := (hg_3 13 (by decide)).trans h13
  have h_8 := (hg_3 15 (by decide)).trans h15
  have h_9 := (hg_3 16 (by decide)).trans h16
  have h_10 := (hg_3 17 (by decide)).trans h17
  have h_11 := (hg_3 18 (by decide)).trans h18
  have h_12 := (hg_3 19 (by decide)).trans h19
  have h_13 := (hg_3 20 (by decide)).trans h20
  have h_14 := (hg_3 21 (by decide)).trans h21
  have h_15 := (hg_3 23 (by decide)).trans h23
  have h_16 := (hg_3 24 (by decide)).trans h24
  have h_17 := (hg_3 26 (by decide)).trans h26
  have h_18 := (hg_3 27 (by decide)).trans h27
  have h_19 := (hg_3 28 (by decide)).trans h28
  have h_20 := (hg_3 29 (by decide)).trans h29
  have h_21 := (hg_3 32 (by decide)).trans h32
  have h_22 := (hg_3 33 (by decide)).trans h33
  have h_23 := (hg_3 34 (by decide)).trans h34
  have h_24 := (hg_3 35 (by decide)).trans h35
  have h_25 : ct_1 8 = some (.inr (5, [.ref (ad 10), .ref (ad 11), .ref (ad 12), .ref (ad 13), .ref (ad 14), .ref (ad 15), .ref (ad 16), .ref (ad 17), .ref (ad 18), .ref (ad 19), .ref (ad 20), .ref (ad 21), .int (nI n), .ref (ad 23), .ref (ad 24), .int (nI L.1), .ref (ad 26), .ref (ad 27), .ref (ad 28), .ref (ad 29), .int A.2.2.1, .int 5, .ref (ad 32), .ref (ad 33), .ref (ad 34), .ref (ad 35), .int fr, .int pd])) := hk_2
  refine lv_aload_n hx hb dX5_link_39 rfl (lv_at hl 0 rfl) ?_
  refine hr_get S hE hW h_25 inX5 (C := RX5) (T := TX5) (N := 28) rfl 21 (by decide) q_f_5_126 rfl dX5_link_40 ?_
  refine lv_if_eq (tgt := 48) hx hb dX5_link_43 (by decide) (fun q => absurd q (by decide)) (fun _ => ?_)
  refine lv_iconst (v := (-1)) hx hb dX5_link_46 (by decide) ?_
  exact h_iret S hr hlk hS hW dX5_link_47 ⟨rfl, ⟨⟨_, _, _, _, _, _, h_25, h_12, h_13, h_20, h_21, h_22, h_23, h_24⟩, ⟨h_4, h_5, h_6, h_8, h_11⟩, ⟨h_7, h_9, h_10, h_14, h_15, h_16, _, _, _, h_17, h_18, h_19⟩, hn300, hm400, hlks, hks⟩, (fun j hj => (hg_3 j (by omega)))⟩
