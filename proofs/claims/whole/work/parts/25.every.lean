theorem hasB : ∀ w, w < 7 → ∀ a, a < 12 → (decide (nI w = 0) || (decide (hasActF (nI w) (nI a) = 0) == decide (aoT w &&& (1 <<< (nI a &&& 31)) = 0))) = true := by decide +kernel
theorem has_eq {w a : Nat} (hw : w < 7) (ha : a < 12) (h : ¬ nI w = 0) : (hasActF (nI w) (nI a) = 0) = (aoT w &&& (1 <<< (nI a &&& 31)) = 0) := by
  have q := hasB w hw a ha
  rw [decide_eq_false h, Bool.false_or, beq_iff_eq] at q
  exact propext (decide_eq_decide.mp q)
theorem rfAll_0 {a w : Nat} (ha : a < 12) (hw : w < 7) (h : nI w = 0 ∨ ¬ aoT w &&& (1 <<< (nI a &&& 31)) = 0) : rfAllF (nI a) (nI w) = 0 := by
  unfold rfAllF
  rw [if_neg (show ¬ isActF (nI a) = 0 from fun q => by rw [isAct_ok ha] at q; exact absurd q (by decide)), if_neg (show ¬ isWayF (nI w) = 0 from fun q => by rw [isWay_ok hw] at q; exact absurd q (by decide))]
  by_cases e : nI w = 0
  · rw [if_pos e]
  · rw [if_neg e, if_neg (by rw [has_eq hw ha e]; exact h.resolve_left e)]
theorem rfAll_3 {a w : Nat} (ha : a < 12) (hw : w < 7) (e : ¬ nI w = 0) (h : aoT w &&& (1 <<< (nI a &&& 31)) = 0) : rfAllF (nI a) (nI w) = 3 := by
  unfold rfAllF
  rw [if_neg (show ¬ isActF (nI a) = 0 from fun q => by rw [isAct_ok ha] at q; exact absurd q (by decide)), if_neg (show ¬ isWayF (nI w) = 0 from fun q => by rw [isWay_ok hw] at q; exact absurd q (by decide)), if_neg e, if_pos (by rw [has_eq hw ha e]; exact h)]
set_option maxRecDepth 100000 in
set_option maxHeartbeats 4000000 in
theorem c_X5_every (l : Launch) (G : hG) (ad : Nat → Nat) (ct : Nat → Option va_E) {n : Nat} {ks : Nat → Nat} {A : AS} {tk : Nat → Int32} {L : LS4} {st0 : Int32} (hR : RM G ad ct n ks A tk L st0) (act way x : Int32)  : Met l yX5_every wzX5_every { frames := 3, cells := 0, slots := 0, locals := 71 } (hPw [.ref (ad 8), .int act, .int way, .int x] G ad ct) (hQi (fun r ct1 => r = (everyR n (tyM ks) act way x A).1 ∧ RM G ad ct1 n ks ((everyR n (tyM ks) act way x A).2.1) tk L ((everyR n (tyM ks) act way x A).2.2) ∧ agX ct1 ct) G ad) 0 0 (hA G.2.2.2) := by
  refine hMetw (by decide) (Nat.le_of_ble_eq_true rfl) (fun p e s m below meth c ls S hr hlk hE hW hl => ?_)
  obtain ⟨hx, hb, hml, hown, hts⟩ := id S
  have hS : va_S (hA G.2.2.2) s.heap s.heap [] := va_S.rf
  have hl : lv_has ls 6 [(0, .ref (ad 8)), (1, .int act), (2, .int way), (3, .int x)] := hl
  obtain ⟨⟨fr, pd, fb, fa, fx, pl, h8, h19, h20, h29, h32, h33, h34, h35⟩, ⟨h10, h11, h12, h15, h18⟩, ⟨h13, h16, h17, h21, h23, h24, rw_, an, ii, h26, h27, h28⟩, hn300, hm400, hlks, hks⟩ := id hR
  refine lv_iload_n hx hb dX5_every_0 rfl (lv_at hl 1 rfl) ?_
  refine hc_r (va_runS (As := [.int act]) (rest := []) S (c_X5_isAct l G _ act) (va_cwS 1 hts (gWSS q_l_5_133 q_st_X5_isAct q_in_5 q_co_X5_isAct) rfl rfl rfl (by decide +kernel) ⟨Nat.le_of_ble_eq_true rfl, Nat.le_of_ble_eq_true rfl⟩) (hPreSr hE hS) rfl rfl hl.1 rfl (lv_room (Nat.le_of_ble_eq_true rfl)) dX5_every_1 ⟨Nat.le_of_ble_eq_true rfl, Nat.le_of_ble_eq_true rfl⟩) hS (fun locs hS => ?_)
  refine lv_if_eq (tgt := 14) hx hb dX5_every_4 (by decide) (fun c_4 => ?_) (fun c_4 => ?_)
  · refine lv_aload_n hx hb dX5_every_14 rfl (lv_at hl 0 rfl) ?_
    refine lv_iconst (v := 1) hx hb dX5_every_15 (by decide) ?_
    refine hc_i (va_runV (As := [.int 1]) (rest := []) S (c_X5_refused l G ad _ hR 1) (cwV 1 hts (gWSV q_l_5_151 q_im_X5_refused q_se_X5_refused q_in_5 q_co_X5_refused) rfl rfl rfl (by decide +kernel) ⟨Nat.le_of_ble_eq_true rfl, Nat.le_of_ble_eq_true rfl⟩) (hPreVw hE hS (hrecv hE hW h8 (q := (RX5, TX5, 28)) rfl) hW) rfl rfl hl.1 rfl (lv_room (Nat.le_of_ble_eq_true rfl)) dX5_every_16 ⟨Nat.le_of_ble_eq_true rfl, Nat.le_of_ble_eq_true rfl⟩) hS (fun rv_3 ct_1 H locs hp hW hS => ?_)
    obtain ⟨ev_4, hR, hag_2⟩ := hp
    rw [ev_4]
    obtain ⟨⟨fr, pd, fb, fa, fx, pl, h8, h19, h20, h29, h32, h33, h34, h35⟩, ⟨h10, h11, h12, h15, h18⟩, ⟨h13, h16, h17, h21, h23, h24, rw_, an, ii, h26, h27, h28⟩, hn300, hm400, hlks, hks⟩ := id hR
    exact h_iret S hr hlk hS hW dX5_every_19 ⟨by rw [everyR, show rfAllF act way = 1 by rw [rfAllF, if_pos c_4]]; rfl, by rw [everyR, show rfAllF act way = 1 by rw [rfAllF, if_pos c_4]]; exact hR, (fun j hj => (hag_2 j hj))⟩
  · refine lv_iload_n hx hb dX5_every_7 rfl (lv_at hl 2 rfl) ?_
    refine hc_r (va_runS (As := [.int way]) (rest := []) S (c_X5_isWay l G _ way) (va_cwS 1 hts (gWSS q_l_5_136 q_st_X5_isWay q_in_5 q_co_X5_isWay) rfl rfl rfl (by decide +kernel) ⟨Nat.le_of_ble_eq_true rfl, Nat.le_of_ble_eq_true rfl⟩) (hPreSr hE hS) rfl rfl hl.1 rfl (lv_room (Nat.le_of_ble_eq_true rfl)) dX5_every_8 ⟨Nat.le_of_ble_eq_true rfl, Nat.le_of_ble_eq_true rfl⟩) hS (fun locs hS => ?_)
    refine lv_if_ne (tgt := 20) hx hb dX5_every_11 (by decide) (fun c_11 => ?_) (fun c_11 => ?_)
    · obtain ⟨a, ha, rfl⟩ := act_nat c_4
      obtain ⟨w, hw7, rfl⟩ := way_nat c_11
      refine lv_iload_n hx hb dX5_every_20 rfl (lv_at hl 2 rfl) ?_
      refine lv_if_eq (tgt := 44) hx hb dX5_every_21 (by decide) (fun c_21 => ?_) (fun c_21 => ?_)
      · have hrf : rfAllF (nI a) (nI w) = 0 := rfAll_0 ha hw7 (Or.inl c_21)
        refine lv_aload_n hx hb dX5_every_44 rfl (lv_at hl 0 rfl) ?_
        refine hc_v (va_runV (As := []) (rest := []) S (c_X5_begin l G ad _ hR ) (cwV 0 hts (gWSV q_l_5_154 q_im_X5_begin q_se_X5_begin q_in_5 q_co_X5_begin) rfl rfl rfl (by decide +kernel) ⟨Nat.le_of_ble_eq_true rfl, Nat.le_of_ble_eq_true rfl⟩) (hPreVw hE hS (hrecv hE hW h8 (q := (RX5, TX5, 28)) rfl) hW) rfl rfl hl.1 rfl (lv_room (Nat.le_of_ble_eq_true rfl)) dX5_every_45 ⟨Nat.le_of_ble_eq_true rfl, Nat.le_of_ble_eq_true rfl⟩) hS (fun ct_5 H locs hp hW hS => ?_)
        obtain ⟨hR, hag_6⟩ := hp
        obtain ⟨⟨fr, pd, fb, fa, fx, pl, h8, h19, h20, h29, h32, h33, h34, h35⟩, ⟨h10, h11, h12, h15, h18⟩, ⟨h13, h16, h17, h21, h23, h24, rw_, an, ii, h26, h27, h28⟩, hn300, hm400, hlks, hks⟩ := id hR
        refine lv_iconst (v := 0) hx hb dX5_every_48 (by decide) ?_
        refine lv_istore (lv' := [(4, .int 0), (0, .ref (ad 8)), (1, .int (nI a)), (2, .int (nI w)), (3, .int x)]) hx hb dX5_every_49 hl (by decide) rfl (fun ls hl => ?_)
        refine lv_iconst (v := 0) hx hb dX5_every_51 (by decide) ?_
        refine lv_istore (lv' := [(5, .int 0), (4, .int 0), (0, .ref (ad 8)), (1, .int (nI a)), (2, .int (nI w)), (3, .int x)]) hx hb dX5_every_52 hl (by decide) rfl (fun ls hl => ?_)
        have loop : ∀ (rem k : Nat) (z : Int32) (B : AS) (ct1 : Nat → Option va_E) (H : Heap) (locs : List Loc) (ls : Array Slot), k + rem = n → (everyR n (tyM ks) (nI a) (nI w) x A = ((evL (tyM ks) (nI a) (nI w) x rem k z B).1, (evL (tyM ks) (nI a) (nI w) x rem k z B).2, 0) ∧ ∃ bb, B.2.2.1 = nI bb ∧ bb ≤ 3280 * k) → RM G ad ct1 n ks B tk L 0 → agX ct1 ct → hw G ad ct1 H → va_S (hA G.2.2.2) s.heap H locs → lv_has ls 6 [(5, .int (nI k)), (4, .int z), (0, .ref (ad 8)), (1, .int (nI a)), (2, .int (nI w)), (3, .int x)] → W p l e { frames := 3, cells := 0, slots := 0, locals := 71 } s m ([.ref (ad 8), .int (nI a), .int (nI w), .int x] : List Value).toArray below meth c H locs 0 0 (MQ below (hQi (fun r ct1 => r = (everyR n (tyM ks) (nI a) (nI w) x A).1 ∧ RM G ad ct1 n ks ((everyR n (tyM ks) (nI a) (nI w) x A).2.1) tk L ((everyR n (tyM ks) (nI a) (nI w) x A).2.2) ∧ agX ct1 ct) G ad) ([.ref (ad 8), .int (nI a), .int (nI w), .int x] : List Value).toArray s 0 0 (hA G.2.2.2)) (F0 m 54 ls []) := by
          intro rem
          induction rem with
          | zero =>
            intro k z B ct1 H locs ls hnk hv hR hag0 hW hS hl
            obtain ⟨⟨fr, pd, fb, fa, fx, pl, h8, h19, h20, h29, h32, h33, h34, h35⟩, ⟨h10, h11, h12, h15, h18⟩, ⟨h13, h16, h17, h21, h23, h24, rw_, an, ii, h26, h27, h28⟩, hn300, hm400, hlks, hks⟩ := id hR
            refine lv_iload hx hb dX5_every_54 (lv_at hl 0 rfl) ?_
            refine lv_aload_n hx hb dX5_every_56 rfl (lv_at hl 2 rfl) ?_
            refine hr_get S hE hW h8 inX5 (C := RX5) (T := TX5) (N := 28) rfl 12 (by decide) q_f_5_123 rfl dX5_every_57 ?_
            refine lv_icmp_ge (tgt := 103) hx hb dX5_every_60 (by decide) (fun _ => ?_) (fun q => absurd (nI_le (by omega) (by omega)) q)
            refine lv_iload hx hb dX5_every_103 (lv_at hl 1 rfl) ?_
            exact h_iret S hr hlk hS hW dX5_every_105 ⟨by rw [hv.1]; rfl, by rw [hv.1]; exact hR, (fun j hj => (hag0 j hj))⟩
          | succ rem ih =>
            intro k z B ct1 H locs ls hnk hv hR hag0 hW hS hl
            obtain ⟨bb, hbb, hbk⟩ := hv.2
            obtain ⟨⟨fr, pd, fb, fa, fx, pl, h8, h19, h20, h29, h32, h33, h34, h35⟩, ⟨h10, h11, h12, h15, h18⟩, ⟨h13, h16, h17, h21, h23, h24, rw_, an, ii, h26, h27, h28⟩, hn300, hm400, hlks, hks⟩ := id hR
            refine lv_iload hx hb dX5_every_54 (lv_at hl 0 rfl) ?_
            refine lv_aload_n hx hb dX5_every_56 rfl (lv_at hl 2 rfl) ?_
            refine hr_get S hE hW h8 inX5 (C := RX5) (T := TX5) (N := 28) rfl 12 (by decide) q_f_5_123 rfl dX5_every_57 ?_
            refine lv_icmp_ge (tgt := 103) hx hb dX5_every_60 (by decide) (fun q => absurd q (nI_ge (by omega) (by omega))) (fun _ => ?_)
            refine lv_aload_n hx hb dX5_every_63 rfl (lv_at hl 2 rfl) ?_
            refine lv_iload hx hb dX5_every_64 (lv_at hl 0 rfl) ?_
            refine lv_iload_n hx hb dX5_every_66 rfl (lv_at hl 4 rfl) ?_
            refine hc_r (va_runV (As := [.int (nI k), .int (nI w)]) (rest := []) S (c_X5_isAble l G _ hW hR (i := k) (w := w) (by omega) (by omega)) (cwV 2 hts (gWSV q_l_5_139 q_im_X5_isAble q_se_X5_isAble q_in_5 q_co_X5_isAble) rfl rfl rfl (by decide +kernel) ⟨Nat.le_of_ble_eq_true rfl, Nat.le_of_ble_eq_true rfl⟩) (hPreVr hE hS (hrecv hE hW h8 (q := (RX5, TX5, 28)) rfl)) rfl rfl hl.1 rfl (lv_room (Nat.le_of_ble_eq_true rfl)) dX5_every_67 ⟨Nat.le_of_ble_eq_true rfl, Nat.le_of_ble_eq_true rfl⟩) hS (fun locs hS => ?_)
            refine lv_if_eq (tgt := 97) hx hb dX5_every_70 (by decide) (fun c_70 => ?_) (fun c_70 => ?_)
            · refine lv_iinc (v := (nI (k + 1))) (lv' := [(5, .int (nI (k + 1))), (4, .int z), (0, .ref (ad 8)), (1, .int (nI a)), (2, .int (nI w)), (3, .int x)]) hx hb dX5_every_97 hl (k := 0) rfl (nI_1 k) (by decide) rfl (fun ls hl => ?_)
              refine lv_goto (tgt := 54) hx hb dX5_every_100 (by decide) ?_
              exact ih (k + 1) z B _ _ _ _ (by omega) ⟨by rw [hv.1, evL, tyM_at, rf_ok (hks k) ha hw7, if_pos c_70, if_neg (show ¬ (2 : Int32) = 0 by decide)], ⟨bb, hbb, by omega⟩⟩ hR (fun j hj => (hag0 j hj)) hW hS (lv_sub hl [0, 1, 2, 3, 4, 5] rfl)
            · refine lv_aload_n hx hb dX5_every_73 rfl (lv_at hl 2 rfl) ?_
              refine lv_iload_n hx hb dX5_every_74 rfl (lv_at hl 3 rfl) ?_
              refine lv_iload_n hx hb dX5_every_75 rfl (lv_at hl 4 rfl) ?_
              refine lv_iload hx hb dX5_every_76 (lv_at hl 0 rfl) ?_
              refine hc_r (va_runV (As := [.int (nI a), .int (nI w), .int (nI k)]) (rest := []) S (c_X5_isOf l G _ hW hR (i := k) (a := a) (w := w) (by omega) (by omega) (by omega)) (cwV 3 hts (gWSV q_l_5_143 q_im_X5_isOf q_se_X5_isOf q_in_5 q_co_X5_isOf) rfl rfl rfl (by decide +kernel) ⟨Nat.le_of_ble_eq_true rfl, Nat.le_of_ble_eq_true rfl⟩) (hPreVr hE hS (hrecv hE hW h8 (q := (RX5, TX5, 28)) rfl)) rfl rfl hl.1 rfl (lv_room (Nat.le_of_ble_eq_true rfl)) dX5_every_78 ⟨Nat.le_of_ble_eq_true rfl, Nat.le_of_ble_eq_true rfl⟩) hS (fun locs hS => ?_)
              refine lv_if_eq (tgt := 97) hx hb dX5_every_81 (by decide) (fun c_81 => ?_) (fun c_81 => ?_)
              · refine lv_iinc (v := (nI (k + 1))) (lv' := [(5, .int (nI (k + 1))), (4, .int z), (0, .ref (ad 8)), (1, .int (nI a)), (2, .int (nI w)), (3, .int x)]) hx hb dX5_every_97 hl (k := 0) rfl (nI_1 k) (by decide) rfl (fun ls hl => ?_)
                refine lv_goto (tgt := 54) hx hb dX5_every_100 (by decide) ?_
                exact ih (k + 1) z B _ _ _ _ (by omega) ⟨by rw [hv.1, evL, tyM_at, rf_ok (hks k) ha hw7, if_neg c_70, if_pos c_81, if_neg (show ¬ (3 : Int32) = 0 by decide)], ⟨bb, hbb, by omega⟩⟩ hR (fun j hj => (hag0 j hj)) hW hS (lv_sub hl [0, 1, 2, 3, 4, 5] rfl)
              · have hok := act_ok (hks k) ha hw7 ((ablM_b _ _).resolve_left c_70) ((isoM_b _ _ _).resolve_left c_81)
                refine lv_iload hx hb dX5_every_84 (lv_at hl 1 rfl) ?_
                refine lv_aload_n hx hb dX5_every_86 rfl (lv_at hl 2 rfl) ?_
                refine lv_iload hx hb dX5_every_87 (lv_at hl 0 rfl) ?_
                refine lv_iload_n hx hb dX5_every_89 rfl (lv_at hl 3 rfl) ?_
                refine lv_iload_n hx hb dX5_every_90 rfl (lv_at hl 5 rfl) ?_
                refine hc_i (va_runV (As := [.int (nI k), .int (nI a), .int x]) (rest := [.int z]) S (c_X5_act l G ad _ hR.1 hR.2.1 (i := k) (kk := ks k) (a := a) (bb := bb) (by omega) rfl (hks _) ha hok.1 hok.2 hbb (by omega) x) (cwV 3 hts (gWSV q_l_5_157 q_im_X5_act q_se_X5_act q_in_5 q_co_X5_act) rfl rfl rfl (by decide +kernel) ⟨Nat.le_of_ble_eq_true rfl, Nat.le_of_ble_eq_true rfl⟩) (hPreVw hE hS (hrecv hE hW h8 (q := (RX5, TX5, 28)) rfl) hW) rfl rfl hl.1 rfl (lv_room (Nat.le_of_ble_eq_true rfl)) dX5_every_91 ⟨Nat.le_of_ble_eq_true rfl, Nat.le_of_ble_eq_true rfl⟩) hS (fun rv_9 ct_7 H locs hp hW hS => ?_)
                obtain ⟨ev_10, hM, hag_8⟩ := hp
                have hD := actD_eq (hks k) ha hok.1 hok.2 x B
                have hR := RM_act hR hM hag_8
                rw [show rv_9 = (actD (tyM ks) k (nI a) x B).1 from ev_10.trans (congrArg Prod.fst hD).symm]
                replace hR : RM G ad ct_7 n ks (actD (tyM ks) k (nI a) x B).2 tk L 0 := by rw [hD]; exact hR
                obtain ⟨⟨fr, pd, fb, fa, fx, pl, h8, h19, h20, h29, h32, h33, h34, h35⟩, ⟨h10, h11, h12, h15, h18⟩, ⟨h13, h16, h17, h21, h23, h24, rw_, an, ii, h26, h27, h28⟩, hn300, hm400, hlks, hks⟩ := id hR
                refine lv_iadd hx hb dX5_every_94 ?_
                refine lv_istore (lv' := [(4, .int (z + ((actD (tyM ks) k (nI a) x B).1))), (5, .int (nI k)), (0, .ref (ad 8)), (1, .int (nI a)), (2, .int (nI w)), (3, .int x)]) hx hb dX5_every_95 hl (by decide) rfl (fun ls hl => ?_)
                refine lv_iinc (v := (nI (k + 1))) (lv' := [(5, .int (nI (k + 1))), (4, .int (z + ((actD (tyM ks) k (nI a) x B).1))), (0, .ref (ad 8)), (1, .int (nI a)), (2, .int (nI w)), (3, .int x)]) hx hb dX5_every_97 hl (k := 1) rfl (nI_1 k) (by decide) rfl (fun ls hl => ?_)
                refine lv_goto (tgt := 54) hx hb dX5_every_100 (by decide) ?_
                exact ih (k + 1) (z + ((actD (tyM ks) k (nI a) x B).1)) ((actD (tyM ks) k (nI a) x B).2) _ _ _ _ (by omega) ⟨by rw [hv.1, evL, tyM_at, rf_ok (hks k) ha hw7, if_neg c_70, if_neg c_81, if_pos rfl], (by obtain ⟨b1, e1, e2⟩ := actD_b (hks k) ha hok.1 hok.2 x hbb; exact ⟨b1, e1, by omega⟩)⟩ hR (fun j hj => ((hag_8 j (by omega))).trans ((hag0 j hj))) hW hS (lv_sub hl [0, 1, 2, 3, 4, 5] rfl)
        exact loop n 0 0 (clrA A) _ _ _ _ (by omega) ⟨by rw [everyR, if_pos hrf], 0, rfl, by omega⟩ hR (fun j hj => (hag_6 j hj)) hW hS (lv_sub hl [0, 1, 2, 3, 4, 5] rfl)
      · refine lv_aload_n hx hb dX5_every_24 rfl (lv_at hl 0 rfl) ?_
        refine hr_get S hE hW h8 inX5 (C := RX5) (T := TX5) (N := 28) rfl 6 (by decide) q_f_5_28 rfl dX5_every_25 ?_
        refine lv_iload_n hx hb dX5_every_28 rfl (lv_at hl 2 rfl) ?_
        refine hr_ialdk S hE hW h16 (j := w) rfl hw7 (by decide) dX5_every_29 ?_
        refine lv_iload_n hx hb dX5_every_30 rfl (lv_at hl 1 rfl) ?_
        refine hc_r (va_runS (As := [.int (nI a)]) (rest := [.int (aoT w)]) S (c_X5_bit l G _ (nI a)) (va_cwS 1 hts (gWSS q_l_5_84 q_st_X5_bit q_in_5 q_co_X5_bit) rfl rfl rfl (by decide +kernel) ⟨Nat.le_of_ble_eq_true rfl, Nat.le_of_ble_eq_true rfl⟩) (hPreSr hE hS) rfl rfl hl.1 rfl (lv_room (Nat.le_of_ble_eq_true rfl)) dX5_every_31 ⟨Nat.le_of_ble_eq_true rfl, Nat.le_of_ble_eq_true rfl⟩) hS (fun locs hS => ?_)
        refine lv_iand hx hb dX5_every_34 ?_
        refine lv_if_ne (tgt := 44) hx hb dX5_every_35 (by decide) (fun c_35 => ?_) (fun c_35 => ?_)
        · have hrf : rfAllF (nI a) (nI w) = 0 := rfAll_0 ha hw7 (Or.inr c_35)
          refine lv_aload_n hx hb dX5_every_44 rfl (lv_at hl 0 rfl) ?_
          refine hc_v (va_runV (As := []) (rest := []) S (c_X5_begin l G ad _ hR ) (cwV 0 hts (gWSV q_l_5_154 q_im_X5_begin q_se_X5_begin q_in_5 q_co_X5_begin) rfl rfl rfl (by decide +kernel) ⟨Nat.le_of_ble_eq_true rfl, Nat.le_of_ble_eq_true rfl⟩) (hPreVw hE hS (hrecv hE hW h8 (q := (RX5, TX5, 28)) rfl) hW) rfl rfl hl.1 rfl (lv_room (Nat.le_of_ble_eq_true rfl)) dX5_every_45 ⟨Nat.le_of_ble_eq_true rfl, Nat.le_of_ble_eq_true rfl⟩) hS (fun ct_11 H locs hp hW hS => ?_)
          obtain ⟨hR, hag_12⟩ := hp
          obtain ⟨⟨fr, pd, fb, fa, fx, pl, h8, h19, h20, h29, h32, h33, h34, h35⟩, ⟨h10, h11, h12, h15, h18⟩, ⟨h13, h16, h17, h21, h23, h24, rw_, an, ii, h26, h27, h28⟩, hn300, hm400, hlks, hks⟩ := id hR
          refine lv_iconst (v := 0) hx hb dX5_every_48 (by decide) ?_
          refine lv_istore (lv' := [(4, .int 0), (0, .ref (ad 8)), (1, .int (nI a)), (2, .int (nI w)), (3, .int x)]) hx hb dX5_every_49 hl (by decide) rfl (fun ls hl => ?_)
          refine lv_iconst (v := 0) hx hb dX5_every_51 (by decide) ?_
          refine lv_istore (lv' := [(5, .int 0), (4, .int 0), (0, .ref (ad 8)), (1, .int (nI a)), (2, .int (nI w)), (3, .int x)]) hx hb dX5_every_52 hl (by decide) rfl (fun ls hl => ?_)
          have loop : ∀ (rem k : Nat) (z : Int32) (B : AS) (ct1 : Nat → Option va_E) (H : Heap) (locs : List Loc) (ls : Array Slot), k + rem = n → (everyR n (tyM ks) (nI a) (nI w) x A = ((evL (tyM ks) (nI a) (nI w) x rem k z B).1, (evL (tyM ks) (nI a) (nI w) x rem k z B).2, 0) ∧ ∃ bb, B.2.2.1 = nI bb ∧ bb ≤ 3280 * k) → RM G ad ct1 n ks B tk L 0 → agX ct1 ct → hw G ad ct1 H → va_S (hA G.2.2.2) s.heap H locs → lv_has ls 6 [(5, .int (nI k)), (4, .int z), (0, .ref (ad 8)), (1, .int (nI a)), (2, .int (nI w)), (3, .int x)] → W p l e { frames := 3, cells := 0, slots := 0, locals := 71 } s m ([.ref (ad 8), .int (nI a), .int (nI w), .int x] : List Value).toArray below meth c H locs 0 0 (MQ below (hQi (fun r ct1 => r = (everyR n (tyM ks) (nI a) (nI w) x A).1 ∧ RM G ad ct1 n ks ((everyR n (tyM ks) (nI a) (nI w) x A).2.1) tk L ((everyR n (tyM ks) (nI a) (nI w) x A).2.2) ∧ agX ct1 ct) G ad) ([.ref (ad 8), .int (nI a), .int (nI w), .int x] : List Value).toArray s 0 0 (hA G.2.2.2)) (F0 m 54 ls []) := by
            intro rem
            induction rem with
            | zero =>
              intro k z B ct1 H locs ls hnk hv hR hag0 hW hS hl
              obtain ⟨⟨fr, pd, fb, fa, fx, pl, h8, h19, h20, h29, h32, h33, h34, h35⟩, ⟨h10, h11, h12, h15, h18⟩, ⟨h13, h16, h17, h21, h23, h24, rw_, an, ii, h26, h27, h28⟩, hn300, hm400, hlks, hks⟩ := id hR
              refine lv_iload hx hb dX5_every_54 (lv_at hl 0 rfl) ?_
              refine lv_aload_n hx hb dX5_every_56 rfl (lv_at hl 2 rfl) ?_
              refine hr_get S hE hW h8 inX5 (C := RX5) (T := TX5) (N := 28) rfl 12 (by decide) q_f_5_123 rfl dX5_every_57 ?_
              refine lv_icmp_ge (tgt := 103) hx hb dX5_every_60 (by decide) (fun _ => ?_) (fun q => absurd (nI_le (by omega) (by omega)) q)
              refine lv_iload hx hb dX5_every_103 (lv_at hl 1 rfl) ?_
              exact h_iret S hr hlk hS hW dX5_every_105 ⟨by rw [hv.1]; rfl, by rw [hv.1]; exact hR, (fun j hj => (hag0 j hj))⟩
            | succ rem ih =>
              intro k z B ct1 H locs ls hnk hv hR hag0 hW hS hl
              obtain ⟨bb, hbb, hbk⟩ := hv.2
              obtain ⟨⟨fr, pd, fb, fa, fx, pl, h8, h19, h20, h29, h32, h33, h34, h35⟩, ⟨h10, h11, h12, h15, h18⟩, ⟨h13, h16, h17, h21, h23, h24, rw_, an, ii, h26, h27, h28⟩, hn300, hm400, hlks, hks⟩ := id hR
              refine lv_iload hx hb dX5_every_54 (lv_at hl 0 rfl) ?_
              refine lv_aload_n hx hb dX5_every_56 rfl (lv_at hl 2 rfl) ?_
              refine hr_get S hE hW h8 inX5 (C := RX5) (T := TX5) (N := 28) rfl 12 (by decide) q_f_5_123 rfl dX5_every_57 ?_
              refine lv_icmp_ge (tgt := 103) hx hb dX5_every_60 (by decide) (fun q => absurd q (nI_ge (by omega) (by omega))) (fun _ => ?_)
              refine lv_aload_n hx hb dX5_every_63 rfl (lv_at hl 2 rfl) ?_
              refine lv_iload hx hb dX5_every_64 (lv_at hl 0 rfl) ?_
              refine lv_iload_n hx hb dX5_every_66 rfl (lv_at hl 4 rfl) ?_
              refine hc_r (va_runV (As := [.int (nI k), .int (nI w)]) (rest := []) S (c_X5_isAble l G _ hW hR (i := k) (w := w) (by omega) (by omega)) (cwV 2 hts (gWSV q_l_5_139 q_im_X5_isAble q_se_X5_isAble q_in_5 q_co_X5_isAble) rfl rfl rfl (by decide +kernel) ⟨Nat.le_of_ble_eq_true rfl, Nat.le_of_ble_eq_true rfl⟩) (hPreVr hE hS (hrecv hE hW h8 (q := (RX5, TX5, 28)) rfl)) rfl rfl hl.1 rfl (lv_room (Nat.le_of_ble_eq_true rfl)) dX5_every_67 ⟨Nat.le_of_ble_eq_true rfl, Nat.le_of_ble_eq_true rfl⟩) hS (fun locs hS => ?_)
              refine lv_if_eq (tgt := 97) hx hb dX5_every_70 (by decide) (fun c_70 => ?_) (fun c_70 => ?_)
              · refine lv_iinc (v := (nI (k + 1))) (lv' := [(5, .int (nI (k + 1))), (4, .int z), (0, .ref (ad 8)), (1, .int (nI a)), (2, .int (nI w)), (3, .int x)]) hx hb dX5_every_97 hl (k := 0) rfl (nI_1 k) (by decide) rfl (fun ls hl => ?_)
                refine lv_goto (tgt := 54) hx hb dX5_every_100 (by decide) ?_
                exact ih (k + 1) z B _ _ _ _ (by omega) ⟨by rw [hv.1, evL, tyM_at, rf_ok (hks k) ha hw7, if_pos c_70, if_neg (show ¬ (2 : Int32) = 0 by decide)], ⟨bb, hbb, by omega⟩⟩ hR (fun j hj => (hag0 j hj)) hW hS (lv_sub hl [0, 1, 2, 3, 4, 5] rfl)
              · refine lv_aload_n hx hb dX5_every_73 rfl (lv_at hl 2 rfl) ?_
                refine lv_iload_n hx hb dX5_every_74 rfl (lv_at hl 3 rfl) ?_
                refine lv_iload_n hx hb dX5_every_75 rfl (lv_at hl 4 rfl) ?_
                refine lv_iload hx hb dX5_every_76 (lv_at hl 0 rfl) ?_
                refine hc_r (va_runV (As := [.int (nI a), .int (nI w), .int (nI k)]) (rest := []) S (c_X5_isOf l G _ hW hR (i := k) (a := a) (w := w) (by omega) (by omega) (by omega)) (cwV 3 hts (gWSV q_l_5_143 q_im_X5_isOf q_se_X5_isOf q_in_5 q_co_X5_isOf) rfl rfl rfl (by decide +kernel) ⟨Nat.le_of_ble_eq_true rfl, Nat.le_of_ble_eq_true rfl⟩) (hPreVr hE hS (hrecv hE hW h8 (q := (RX5, TX5, 28)) rfl)) rfl rfl hl.1 rfl (lv_room (Nat.le_of_ble_eq_true rfl)) dX5_every_78 ⟨Nat.le_of_ble_eq_true rfl, Nat.le_of_ble_eq_true rfl⟩) hS (fun locs hS => ?_)
                refine lv_if_eq (tgt := 97) hx hb dX5_every_81 (by decide) (fun c_81 => ?_) (fun c_81 => ?_)
                · refine lv_iinc (v := (nI (k + 1))) (lv' := [(5, .int (nI (k + 1))), (4, .int z), (0, .ref (ad 8)), (1, .int (nI a)), (2, .int (nI w)), (3, .int x)]) hx hb dX5_every_97 hl (k := 0) rfl (nI_1 k) (by decide) rfl (fun ls hl => ?_)
                  refine lv_goto (tgt := 54) hx hb dX5_every_100 (by decide) ?_
                  exact ih (k + 1) z B _ _ _ _ (by omega) ⟨by rw [hv.1, evL, tyM_at, rf_ok (hks k) ha hw7, if_neg c_70, if_pos c_81, if_neg (show ¬ (3 : Int32) = 0 by decide)], ⟨bb, hbb, by omega⟩⟩ hR (fun j hj => (hag0 j hj)) hW hS (lv_sub hl [0, 1, 2, 3, 4, 5] rfl)
                · have hok := act_ok (hks k) ha hw7 ((ablM_b _ _).resolve_left c_70) ((isoM_b _ _ _).resolve_left c_81)
                  refine lv_iload hx hb dX5_every_84 (lv_at hl 1 rfl) ?_
                  refine lv_aload_n hx hb dX5_every_86 rfl (lv_at hl 2 rfl) ?_
                  refine lv_iload hx hb dX5_every_87 (lv_at hl 0 rfl) ?_
                  refine lv_iload_n hx hb dX5_every_89 rfl (lv_at hl 3 rfl) ?_
                  refine lv_iload_n hx hb dX5_every_90 rfl (lv_at hl 5 rfl) ?_
                  refine hc_i (va_runV (As := [.int (nI k), .int (nI a), .int x]) (rest := [.int z]) S (c_X5_act l G ad _ hR.1 hR.2.1 (i := k) (kk := ks k) (a := a) (bb := bb) (by omega) rfl (hks _) ha hok.1 hok.2 hbb (by omega) x) (cwV 3 hts (gWSV q_l_5_157 q_im_X5_act q_se_X5_act q_in_5 q_co_X5_act) rfl rfl rfl (by decide +kernel) ⟨Nat.le_of_ble_eq_true rfl, Nat.le_of_ble_eq_true rfl⟩) (hPreVw hE hS (hrecv hE hW h8 (q := (RX5, TX5, 28)) rfl) hW) rfl rfl hl.1 rfl (lv_room (Nat.le_of_ble_eq_true rfl)) dX5_every_91 ⟨Nat.le_of_ble_eq_true rfl, Nat.le_of_ble_eq_true rfl⟩) hS (fun rv_15 ct_13 H locs hp hW hS => ?_)
                  obtain ⟨ev_16, hM, hag_14⟩ := hp
                  have hD := actD_eq (hks k) ha hok.1 hok.2 x B
                  have hR := RM_act hR hM hag_14
                  rw [show rv_15 = (actD (tyM ks) k (nI a) x B).1 from ev_16.trans (congrArg Prod.fst hD).symm]
                  replace hR : RM G ad ct_13 n ks (actD (tyM ks) k (nI a) x B).2 tk L 0 := by rw [hD]; exact hR
                  obtain ⟨⟨fr, pd, fb, fa, fx, pl, h8, h19, h20, h29, h32, h33, h34, h35⟩, ⟨h10, h11, h12, h15, h18⟩, ⟨h13, h16, h17, h21, h23, h24, rw_, an, ii, h26, h27, h28⟩, hn300, hm400, hlks, hks⟩ := id hR
                  refine lv_iadd hx hb dX5_every_94 ?_
                  refine lv_istore (lv' := [(4, .int (z + ((actD (tyM ks) k (nI a) x B).1))), (5, .int (nI k)), (0, .ref (ad 8)), (1, .int (nI a)), (2, .int (nI w)), (3, .int x)]) hx hb dX5_every_95 hl (by decide) rfl (fun ls hl => ?_)
                  refine lv_iinc (v := (nI (k + 1))) (lv' := [(5, .int (nI (k + 1))), (4, .int (z + ((actD (tyM ks) k (nI a) x B).1))), (0, .ref (ad 8)), (1, .int (nI a)), (2, .int (nI w)), (3, .int x)]) hx hb dX5_every_97 hl (k := 1) rfl (nI_1 k) (by decide) rfl (fun ls hl => ?_)
                  refine lv_goto (tgt := 54) hx hb dX5_every_100 (by decide) ?_
                  exact ih (k + 1) (z + ((actD (tyM ks) k (nI a) x B).1)) ((actD (tyM ks) k (nI a) x B).2) _ _ _ _ (by omega) ⟨by rw [hv.1, evL, tyM_at, rf_ok (hks k) ha hw7, if_neg c_70, if_neg c_81, if_pos rfl], (by obtain ⟨b1, e1, e2⟩ := actD_b (hks k) ha hok.1 hok.2 x hbb; exact ⟨b1, e1, by omega⟩)⟩ hR (fun j hj => ((hag_14 j (by omega))).trans ((hag0 j hj))) hW hS (lv_sub hl [0, 1, 2, 3, 4, 5] rfl)
          exact loop n 0 0 (clrA A) _ _ _ _ (by omega) ⟨by rw [everyR, if_pos hrf], 0, rfl, by omega⟩ hR (fun j hj => (hag_12 j hj)) hW hS (lv_sub hl [0, 1, 2, 3, 4, 5] rfl)
        · refine lv_aload_n hx hb dX5_every_38 rfl (lv_at hl 0 rfl) ?_
          refine lv_iconst (v := 3) hx hb dX5_every_39 (by decide) ?_
          refine hc_i (va_runV (As := [.int 3]) (rest := []) S (c_X5_refused l G ad _ hR 3) (cwV 1 hts (gWSV q_l_5_151 q_im_X5_refused q_se_X5_refused q_in_5 q_co_X5_refused) rfl rfl rfl (by decide +kernel) ⟨Nat.le_of_ble_eq_true rfl, Nat.le_of_ble_eq_true rfl⟩) (hPreVw hE hS (hrecv hE hW h8 (q := (RX5, TX5, 28)) rfl) hW) rfl rfl hl.1 rfl (lv_room (Nat.le_of_ble_eq_true rfl)) dX5_every_40 ⟨Nat.le_of_ble_eq_true rfl, Nat.le_of_ble_eq_true rfl⟩) hS (fun rv_19 ct_17 H locs hp hW hS => ?_)
          obtain ⟨ev_20, hR, hag_18⟩ := hp
          rw [ev_20]
          obtain ⟨⟨fr, pd, fb, fa, fx, pl, h8, h19, h20, h29, h32, h33, h34, h35⟩, ⟨h10, h11, h12, h15, h18⟩, ⟨h13, h16, h17, h21, h23, h24, rw_, an, ii, h26, h27, h28⟩, hn300, hm400, hlks, hks⟩ := id hR
          exact h_iret S hr hlk hS hW dX5_every_43 ⟨by rw [everyR, rfAll_3 ha hw7 c_21 c_35]; rfl, by rw [everyR, rfAll_3 ha hw7 c_21 c_35]; exact hR, (fun j hj => (hag_18 j hj))⟩
    · refine lv_aload_n hx hb dX5_every_14 rfl (lv_at hl 0 rfl) ?_
      refine lv_iconst (v := 1) hx hb dX5_every_15 (by decide) ?_
      refine hc_i (va_runV (As := [.int 1]) (rest := []) S (c_X5_refused l G ad _ hR 1) (cwV 1 hts (gWSV q_l_5_151 q_im_X5_refused q_se_X5_refused q_in_5 q_co_X5_refused) rfl rfl rfl (by decide +kernel) ⟨Nat.le_of_ble_eq_true rfl, Nat.le_of_ble_eq_true rfl⟩) (hPreVw hE hS (hrecv hE hW h8 (q := (RX5, TX5, 28)) rfl) hW) rfl rfl hl.1 rfl (lv_room (Nat.le_of_ble_eq_true rfl)) dX5_every_16 ⟨Nat.le_of_ble_eq_true rfl, Nat.le_of_ble_eq_true rfl⟩) hS (fun rv_23 ct_21 H locs hp hW hS => ?_)
      obtain ⟨ev_24, hR, hag_22⟩ := hp
      rw [ev_24]
      obtain ⟨⟨fr, pd, fb, fa, fx, pl, h8, h19, h20, h29, h32, h33, h34, h35⟩, ⟨h10, h11, h12, h15, h18⟩, ⟨h13, h16, h17, h21, h23, h24, rw_, an, ii, h26, h27, h28⟩, hn300, hm400, hlks, hks⟩ := id hR
      exact h_iret S hr hlk hS hW dX5_every_19 ⟨by rw [everyR, show rfAllF act way = 1 by rw [rfAllF, if_neg c_4, if_pos c_11]]; rfl, by rw [everyR, show rfAllF act way = 1 by rw [rfAllF, if_neg c_4, if_pos c_11]]; exact hR, (fun j hj => (hag_22 j hj))⟩
