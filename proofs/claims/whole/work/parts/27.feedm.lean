/-! FEED: the four bytes -/
theorem byte_eq (b : Int32) : ∀ k, k < 4 → (b >>> (nI (8 * k) &&& 31)) &&& 255 = byteF b (nI (8 * k)) := by
  intro k hk
  have key : ∀ s : Nat, s ≤ 24 → (b.toBitVec.sshiftRight s) &&& 255#32 = (b.toBitVec >>> s) &&& 255#32 := by
    intro s hs
    apply BitVec.eq_of_getLsbD_eq
    intro i hi
    by_cases h8 : i < 8
    · rw [BitVec.getLsbD_and, BitVec.getLsbD_and, BitVec.getLsbD_sshiftRight, BitVec.getLsbD_ushiftRight]
      have h1 : ¬ 32 ≤ i := by omega
      have h2 : s + i < 32 := by omega
      simp [h1, h2]
    · have hz : (255#32 : BitVec 32).getLsbD i = false := by
        have : ∀ j, j < 32 → ¬ j < 8 → (255#32 : BitVec 32).getLsbD j = false := by decide
        exact this i hi h8
      rw [BitVec.getLsbD_and, BitVec.getLsbD_and, hz, Bool.and_false, Bool.and_false]
  have hk4 : k = 0 ∨ k = 1 ∨ k = 2 ∨ k = 3 := by omega
  rcases hk4 with rfl | rfl | rfl | rfl
  · exact Int32.toBitVec_inj.mp (key 0 (by omega))
  · exact Int32.toBitVec_inj.mp (key 8 (by omega))
  · exact Int32.toBitVec_inj.mp (key 16 (by omega))
  · exact Int32.toBitVec_inj.mp (key 24 (by omega))
theorem le127 {x : Int32} : x ≤ 127 → x < 128 := by
  rw [Int32.le_iff_toInt_le, Int32.lt_iff_toInt_lt, show (127 : Int32).toInt = 127 from rfl, show (128 : Int32).toInt = 128 from rfl]
  omega
theorem gt127 {x : Int32} : ¬ x ≤ 127 → ¬ x < 128 := by
  rw [Int32.le_iff_toInt_le, Int32.lt_iff_toInt_lt, show (127 : Int32).toInt = 127 from rfl, show (128 : Int32).toInt = 128 from rfl]
  omega
theorem atbX_p {co z : Int32} (h : co ≤ 127) : atbX co z = z := by rw [atbX, if_pos (le127 h)]
theorem atbX_n {co z : Int32} (h : ¬ co ≤ 127) : atbX co z = -z := by rw [atbX, if_neg (gt127 h), Int32.sub_eq_add_neg, Int32.zero_add]
theorem putD_getD (i : Nat) (A : AS) : putD i A (getD i A) = A := by
  unfold putD getD
  rw [upd_self, upd_self]
theorem fdD_no {ty : Nat → Int32} {i : Nat} {co z : Int32} {A : AS} (h : ¬ rfF (ty i) (co &&& 15) (co >>> (4 &&& 31) &&& 7) = 0) : fdD ty i co z A = (0, A) := by
  rw [fdD, atbF, if_neg h, putD_getD]
theorem fdD_ok {ty : Nat → Int32} {i : Nat} {co z : Int32} {A : AS} (h : rfF (ty i) (co &&& 15) (co >>> (4 &&& 31) &&& 7) = 0) : fdD ty i co z A = actD ty i (co &&& 15) (atbX co z) A := by
  rw [fdD, atbF, if_pos h, actD]
set_option maxRecDepth 100000 in
set_option maxHeartbeats 4000000 in
theorem c_X5_feed_ok (l : Launch) (G : hG) (ad : Nat → Nat) (ct : Nat → Option va_E) {n : Nat} {ks : Nat → Nat} {A : AS} {tk : Nat → Int32} {L : LS4} {st0 : Int32} (hR : RM G ad ct n ks A tk L st0) {i : Nat} (hi : i < n) (by0 : Int32)  : Met l yX5_feed wzX5_feed { frames := 3, cells := 0, slots := 0, locals := 71 } (hPw [.ref (ad 8), .int (nI i), .int by0] G ad ct) (hQi (fun r ct1 => r = (fdL (tyM ks) i by0 4 0 (clrA A)).1 ∧ RM G ad ct1 n ks ((fdL (tyM ks) i by0 4 0 (clrA A)).2) tk L 0 ∧ agX ct1 ct) G ad) 0 0 (hA G.2.2.2) := by
  refine hMetw (by decide) (Nat.le_of_ble_eq_true rfl) (fun p e s m below meth c ls S hr hlk hE hW hl => ?_)
  obtain ⟨hx, hb, hml, hown, hts⟩ := id S
  have hS : va_S (hA G.2.2.2) s.heap s.heap [] := va_S.rf
  have hl : lv_has ls 6 [(0, .ref (ad 8)), (1, .int (nI i)), (2, .int by0)] := hl
  obtain ⟨⟨fr, pd, fb, fa, fx, pl, h8, h19, h20, h29, h32, h33, h34, h35⟩, ⟨h10, h11, h12, h15, h18⟩, ⟨h13, h16, h17, h21, h23, h24, rw_, an, ii, h26, h27, h28⟩, hn300, hm400, hlks, hks⟩ := id hR
  refine lv_aload_n hx hb dX5_feed_0 rfl (lv_at hl 0 rfl) ?_
  refine lv_iload_n hx hb dX5_feed_1 rfl (lv_at hl 1 rfl) ?_
  refine hc_r (va_runV (As := [.int (nI i)]) (rest := []) S (c_X5_isDevice l G _ hW hR (nI i)) (cwV 1 hts (gWSV q_l_5_129 q_im_X5_isDevice q_se_X5_isDevice q_in_5 q_co_X5_isDevice) rfl rfl rfl (by decide +kernel) ⟨Nat.le_of_ble_eq_true rfl, Nat.le_of_ble_eq_true rfl⟩) (hPreVr hE hS (hrecv hE hW h8 (q := (RX5, TX5, 28)) rfl)) rfl rfl hl.1 rfl (lv_room (Nat.le_of_ble_eq_true rfl)) dX5_feed_2 ⟨Nat.le_of_ble_eq_true rfl, Nat.le_of_ble_eq_true rfl⟩) hS (fun locs hS => ?_)
  refine lv_if_ne (tgt := 14) hx hb dX5_feed_5 (by decide) (fun _ => ?_) (fun q => absurd q (fun q : isDevF (nI n) (nI i) = 0 => absurd ((isDevF_ok hn300 hi).symm.trans q) (by decide)))
  refine lv_aload_n hx hb dX5_feed_14 rfl (lv_at hl 0 rfl) ?_
  refine hc_v (va_runV (As := []) (rest := []) S (c_X5_begin l G ad _ hR ) (cwV 0 hts (gWSV q_l_5_154 q_im_X5_begin q_se_X5_begin q_in_5 q_co_X5_begin) rfl rfl rfl (by decide +kernel) ⟨Nat.le_of_ble_eq_true rfl, Nat.le_of_ble_eq_true rfl⟩) (hPreVw hE hS (hrecv hE hW h8 (q := (RX5, TX5, 28)) rfl) hW) rfl rfl hl.1 rfl (lv_room (Nat.le_of_ble_eq_true rfl)) dX5_feed_15 ⟨Nat.le_of_ble_eq_true rfl, Nat.le_of_ble_eq_true rfl⟩) hS (fun ct_1 H locs hp hW hS => ?_)
  obtain ⟨hR, hag_2⟩ := hp
  obtain ⟨⟨fr, pd, fb, fa, fx, pl, h8, h19, h20, h29, h32, h33, h34, h35⟩, ⟨h10, h11, h12, h15, h18⟩, ⟨h13, h16, h17, h21, h23, h24, rw_, an, ii, h26, h27, h28⟩, hn300, hm400, hlks, hks⟩ := id hR
  refine lv_iconst (v := 0) hx hb dX5_feed_18 (by decide) ?_
  refine lv_istore_n (lv' := [(3, .int 0), (0, .ref (ad 8)), (1, .int (nI i)), (2, .int by0)]) hx hb dX5_feed_19 rfl hl (by decide) rfl (fun ls hl => ?_)
  refine lv_bipush (v := 24) hx hb dX5_feed_20 (by decide) ?_
  refine lv_istore (lv' := [(4, .int 24), (3, .int 0), (0, .ref (ad 8)), (1, .int (nI i)), (2, .int by0)]) hx hb dX5_feed_22 hl (by decide) rfl (fun ls hl => ?_)
  have loop : ∀ (rem k : Nat) (z : Int32) (B : AS) (ct1 : Nat → Option va_E) (H : Heap) (locs : List Loc) (ls : Array Slot), k + rem = 4 → (fdL (tyM ks) i by0 4 0 (clrA A) = fdL (tyM ks) i by0 rem z B ∧ ∃ bb, B.2.2.1 = nI bb ∧ bb ≤ 3280 * k) → RM G ad ct1 n ks B tk L 0 → agX ct1 ct → hw G ad ct1 H → va_S (hA G.2.2.2) s.heap H locs → lv_has ls 6 [(4, .int (shF rem)), (3, .int z), (0, .ref (ad 8)), (1, .int (nI i)), (2, .int by0)] → W p l e { frames := 3, cells := 0, slots := 0, locals := 71 } s m ([.ref (ad 8), .int (nI i), .int by0] : List Value).toArray below meth c H locs 0 0 (MQ below (hQi (fun r ct1 => r = (fdL (tyM ks) i by0 4 0 (clrA A)).1 ∧ RM G ad ct1 n ks ((fdL (tyM ks) i by0 4 0 (clrA A)).2) tk L 0 ∧ agX ct1 ct) G ad) ([.ref (ad 8), .int (nI i), .int by0] : List Value).toArray s 0 0 (hA G.2.2.2)) (F0 m 24 ls []) := by
    intro rem
    induction rem with
    | zero =>
      intro k z B ct1 H locs ls hnk hv hR hag0 hW hS hl
      obtain ⟨⟨fr, pd, fb, fa, fx, pl, h8, h19, h20, h29, h32, h33, h34, h35⟩, ⟨h10, h11, h12, h15, h18⟩, ⟨h13, h16, h17, h21, h23, h24, rw_, an, ii, h26, h27, h28⟩, hn300, hm400, hlks, hks⟩ := id hR
      refine lv_iload hx hb dX5_feed_24 (lv_at hl 0 rfl) ?_
      refine lv_if_lt (tgt := 91) hx hb dX5_feed_26 (by decide) (fun _ => ?_) (fun q => absurd (by decide) q)
      refine lv_iload_n hx hb dX5_feed_91 rfl (lv_at hl 1 rfl) ?_
      exact h_iret S hr hlk hS hW dX5_feed_92 ⟨by rw [hv.1]; rfl, by rw [hv.1]; exact hR, (fun j hj => (hag0 j hj))⟩
    | succ rem ih =>
      intro k z B ct1 H locs ls hnk hv hR hag0 hW hS hl
      obtain ⟨bb, hbb, hbk⟩ := hv.2
      obtain ⟨⟨fr, pd, fb, fa, fx, pl, h8, h19, h20, h29, h32, h33, h34, h35⟩, ⟨h10, h11, h12, h15, h18⟩, ⟨h13, h16, h17, h21, h23, h24, rw_, an, ii, h26, h27, h28⟩, hn300, hm400, hlks, hks⟩ := id hR
      refine lv_iload hx hb dX5_feed_24 (lv_at hl 0 rfl) ?_
      refine lv_if_lt (tgt := 91) hx hb dX5_feed_26 (by decide) (fun q => absurd q (nI_pos (by omega))) (fun _ => ?_)
      refine lv_iload_n hx hb dX5_feed_29 rfl (lv_at hl 4 rfl) ?_
      refine lv_iload hx hb dX5_feed_30 (lv_at hl 0 rfl) ?_
      refine lv_ishr hx hb dX5_feed_32 ?_
      refine lv_sipush (v := 255) hx hb dX5_feed_33 (by decide) ?_
      refine lv_iand hx hb dX5_feed_36 ?_
      refine lv_istore (lv' := [(5, .int ((by0 >>> ((shF (rem + 1)) &&& 31)) &&& 255)), (4, .int (shF (rem + 1))), (3, .int z), (0, .ref (ad 8)), (1, .int (nI i)), (2, .int by0)]) hx hb dX5_feed_37 hl (by decide) rfl (fun ls hl => ?_)
      have hco : (by0 >>> ((shF (rem + 1)) &&& 31)) &&& 255 = byteF by0 (nI (8 * rem)) := byte_eq by0 rem (by omega)
      rw [hco] at hl
      clear hco
      generalize hgc : byteF by0 (nI (8 * rem)) = co at hl
      refine lv_aload_n hx hb dX5_feed_39 rfl (lv_at hl 3 rfl) ?_
      refine lv_iload_n hx hb dX5_feed_40 rfl (lv_at hl 4 rfl) ?_
      refine lv_iload hx hb dX5_feed_41 (lv_at hl 0 rfl) ?_
      refine lv_bipush (v := 15) hx hb dX5_feed_43 (by decide) ?_
      refine lv_iand hx hb dX5_feed_45 ?_
      refine lv_iload hx hb dX5_feed_46 (lv_at hl 0 rfl) ?_
      refine lv_iconst (v := 4) hx hb dX5_feed_48 (by decide) ?_
      refine lv_ishr hx hb dX5_feed_49 ?_
      refine lv_bipush (v := 7) hx hb dX5_feed_50 (by decide) ?_
      refine lv_iand hx hb dX5_feed_52 ?_
      refine hc_r (va_runV (As := [.int (nI i), .int (co &&& 15), .int ((co >>> (4 &&& 31)) &&& 7)]) (rest := []) S (c_X5_why_ok l G _ hW hR hi (co &&& 15) ((co >>> (4 &&& 31)) &&& 7)) (cwV 3 hts (gWSV q_l_5_147 q_im_X5_why q_se_X5_why q_in_5 q_co_X5_why) rfl rfl rfl (by decide +kernel) ⟨Nat.le_of_ble_eq_true rfl, Nat.le_of_ble_eq_true rfl⟩) (hPreVr hE hS (hrecv hE hW h8 (q := (RX5, TX5, 28)) rfl)) rfl rfl hl.1 rfl (lv_room (Nat.le_of_ble_eq_true rfl)) dX5_feed_53 ⟨Nat.le_of_ble_eq_true rfl, Nat.le_of_ble_eq_true rfl⟩) hS (fun locs hS => ?_)
      refine lv_if_ne (tgt := 85) hx hb dX5_feed_56 (by decide) (fun c_56 => ?_) (fun c_56 => ?_)
      · refine lv_iinc (v := (shF rem)) (lv' := [(4, .int (shF rem)), (5, .int co), (3, .int z), (0, .ref (ad 8)), (1, .int (nI i)), (2, .int by0)]) hx hb dX5_feed_85 hl (k := 1) rfl (shF_dec rem) (by decide) rfl (fun ls hl => ?_)
        refine lv_goto (tgt := 24) hx hb dX5_feed_88 (by decide) ?_
        exact ih (k + 1) z B _ _ _ _ (by omega) ⟨by rw [hv.1, fdL, hgc, fdD_no c_56, Int32.add_zero], bb, hbb, by omega⟩ hR (fun j hj => (hag0 j hj)) hW hS (lv_sub hl [0, 2, 3, 4, 5] rfl)
      · obtain ⟨a, w, ha, hw7, ea, ew, hok⟩ := rf_good (hks i) c_56
        refine lv_iload_n hx hb dX5_feed_59 rfl (lv_at hl 2 rfl) ?_
        refine lv_aload_n hx hb dX5_feed_60 rfl (lv_at hl 3 rfl) ?_
        refine lv_iload_n hx hb dX5_feed_61 rfl (lv_at hl 4 rfl) ?_
        refine lv_iload hx hb dX5_feed_62 (lv_at hl 0 rfl) ?_
        refine lv_bipush (v := 15) hx hb dX5_feed_64 (by decide) ?_
        refine lv_iand hx hb dX5_feed_66 ?_
        rw [ea]
        refine lv_iload hx hb dX5_feed_67 (lv_at hl 0 rfl) ?_
        refine lv_bipush (v := 127) hx hb dX5_feed_69 (by decide) ?_
        refine lv_icmp_le (tgt := 79) hx hb dX5_feed_71 (by decide) (fun c_71 => ?_) (fun c_71 => ?_)
        · refine lv_iload_n hx hb dX5_feed_79 rfl (lv_at hl 2 rfl) ?_
          refine hc_i (va_runV (As := [.int (nI i), .int (nI a), .int z]) (rest := [.int z]) S (c_X5_act l G ad _ hR.1 hR.2.1 (i := i) (kk := ks i) (a := a) (bb := bb) (by omega) rfl (hks _) ha hok.1 hok.2 hbb (by omega) z) (cwV 3 hts (gWSV q_l_5_157 q_im_X5_act q_se_X5_act q_in_5 q_co_X5_act) rfl rfl rfl (by decide +kernel) ⟨Nat.le_of_ble_eq_true rfl, Nat.le_of_ble_eq_true rfl⟩) (hPreVw hE hS (hrecv hE hW h8 (q := (RX5, TX5, 28)) rfl) hW) rfl rfl hl.1 rfl (lv_room (Nat.le_of_ble_eq_true rfl)) dX5_feed_80 ⟨Nat.le_of_ble_eq_true rfl, Nat.le_of_ble_eq_true rfl⟩) hS (fun rv_5 ct_3 H locs hp hW hS => ?_)
          obtain ⟨ev_6, hM, hag_4⟩ := hp
          have hD := actD_eq (hks i) ha hok.1 hok.2 z B
          have hR := RM_act hR hM hag_4
          rw [show rv_5 = (actD (tyM ks) i (nI a) z B).1 from ev_6.trans (congrArg Prod.fst hD).symm]
          replace hR : RM G ad ct_3 n ks (actD (tyM ks) i (nI a) z B).2 tk L 0 := by rw [hD]; exact hR
          obtain ⟨⟨fr, pd, fb, fa, fx, pl, h8, h19, h20, h29, h32, h33, h34, h35⟩, ⟨h10, h11, h12, h15, h18⟩, ⟨h13, h16, h17, h21, h23, h24, rw_, an, ii, h26, h27, h28⟩, hn300, hm400, hlks, hks⟩ := id hR
          refine lv_iadd hx hb dX5_feed_83 ?_
          refine lv_istore_n (lv' := [(3, .int (z + ((actD (tyM ks) i (nI a) z B).1))), (5, .int co), (4, .int (shF (rem + 1))), (0, .ref (ad 8)), (1, .int (nI i)), (2, .int by0)]) hx hb dX5_feed_84 rfl hl (by decide) rfl (fun ls hl => ?_)
          refine lv_iinc (v := (shF rem)) (lv' := [(4, .int (shF rem)), (3, .int (z + ((actD (tyM ks) i (nI a) z B).1))), (5, .int co), (0, .ref (ad 8)), (1, .int (nI i)), (2, .int by0)]) hx hb dX5_feed_85 hl (k := 2) rfl (shF_dec rem) (by decide) rfl (fun ls hl => ?_)
          refine lv_goto (tgt := 24) hx hb dX5_feed_88 (by decide) ?_
          exact ih (k + 1) (z + ((actD (tyM ks) i (nI a) z B).1)) ((actD (tyM ks) i (nI a) z B).2) _ _ _ _ (by omega) ⟨by rw [hv.1, fdL, hgc, fdD_ok c_56, ea, atbX_p c_71], by obtain ⟨b1, e1, e2⟩ := actD_b (hks i) ha hok.1 hok.2 z hbb; exact ⟨b1, e1, by omega⟩⟩ hR (fun j hj => ((hag_4 j (by omega))).trans ((hag0 j hj))) hW hS (lv_sub hl [0, 1, 3, 4, 5] rfl)
        · refine lv_iload_n hx hb dX5_feed_74 rfl (lv_at hl 2 rfl) ?_
          refine lv_ineg hx hb dX5_feed_75 ?_
          refine lv_goto (tgt := 80) hx hb dX5_feed_76 (by decide) ?_
          refine hc_i (va_runV (As := [.int (nI i), .int (nI a), .int (-z)]) (rest := [.int z]) S (c_X5_act l G ad _ hR.1 hR.2.1 (i := i) (kk := ks i) (a := a) (bb := bb) (by omega) rfl (hks _) ha hok.1 hok.2 hbb (by omega) (-z)) (cwV 3 hts (gWSV q_l_5_157 q_im_X5_act q_se_X5_act q_in_5 q_co_X5_act) rfl rfl rfl (by decide +kernel) ⟨Nat.le_of_ble_eq_true rfl, Nat.le_of_ble_eq_true rfl⟩) (hPreVw hE hS (hrecv hE hW h8 (q := (RX5, TX5, 28)) rfl) hW) rfl rfl hl.1 rfl (lv_room (Nat.le_of_ble_eq_true rfl)) dX5_feed_80 ⟨Nat.le_of_ble_eq_true rfl, Nat.le_of_ble_eq_true rfl⟩) hS (fun rv_9 ct_7 H locs hp hW hS => ?_)
          obtain ⟨ev_10, hM, hag_8⟩ := hp
          have hD := actD_eq (hks i) ha hok.1 hok.2 (-z) B
          have hR := RM_act hR hM hag_8
          rw [show rv_9 = (actD (tyM ks) i (nI a) (-z) B).1 from ev_10.trans (congrArg Prod.fst hD).symm]
          replace hR : RM G ad ct_7 n ks (actD (tyM ks) i (nI a) (-z) B).2 tk L 0 := by rw [hD]; exact hR
          obtain ⟨⟨fr, pd, fb, fa, fx, pl, h8, h19, h20, h29, h32, h33, h34, h35⟩, ⟨h10, h11, h12, h15, h18⟩, ⟨h13, h16, h17, h21, h23, h24, rw_, an, ii, h26, h27, h28⟩, hn300, hm400, hlks, hks⟩ := id hR
          refine lv_iadd hx hb dX5_feed_83 ?_
          refine lv_istore_n (lv' := [(3, .int (z + ((actD (tyM ks) i (nI a) (-z) B).1))), (5, .int co), (4, .int (shF (rem + 1))), (0, .ref (ad 8)), (1, .int (nI i)), (2, .int by0)]) hx hb dX5_feed_84 rfl hl (by decide) rfl (fun ls hl => ?_)
          refine lv_iinc (v := (shF rem)) (lv' := [(4, .int (shF rem)), (3, .int (z + ((actD (tyM ks) i (nI a) (-z) B).1))), (5, .int co), (0, .ref (ad 8)), (1, .int (nI i)), (2, .int by0)]) hx hb dX5_feed_85 hl (k := 2) rfl (shF_dec rem) (by decide) rfl (fun ls hl => ?_)
          refine lv_goto (tgt := 24) hx hb dX5_feed_88 (by decide) ?_
          exact ih (k + 1) (z + ((actD (tyM ks) i (nI a) (-z) B).1)) ((actD (tyM ks) i (nI a) (-z) B).2) _ _ _ _ (by omega) ⟨by rw [hv.1, fdL, hgc, fdD_ok c_56, ea, atbX_n c_71], by obtain ⟨b1, e1, e2⟩ := actD_b (hks i) ha hok.1 hok.2 (-z) hbb; exact ⟨b1, e1, by omega⟩⟩ hR (fun j hj => ((hag_8 j (by omega))).trans ((hag0 j hj))) hW hS (lv_sub hl [0, 1, 3, 4, 5] rfl)
  exact loop 4 0 0 (clrA A) _ _ _ _ (by omega) ⟨rfl, 0, rfl, by omega⟩ hR (fun j hj => (hag_2 j hj)) hW hS (lv_sub hl [0, 1, 2, 3, 4] rfl)
set_option maxRecDepth 100000 in
set_option maxHeartbeats 4000000 in
theorem c_X5_feed_no (l : Launch) (G : hG) (ad : Nat → Nat) (ct : Nat → Option va_E) {n : Nat} {ks : Nat → Nat} {A : AS} {tk : Nat → Int32} {L : LS4} {st0 : Int32} (hR : RM G ad ct n ks A tk L st0) {d : Int32} (hd : ∀ i, i < n → d ≠ nI i) (by0 : Int32)  : Met l yX5_feed wzX5_feed { frames := 3, cells := 0, slots := 0, locals := 71 } (hPw [.ref (ad 8), .int d, .int by0] G ad ct) (hQi (fun r ct1 => r = 0 ∧ RM G ad ct1 n ks A tk L 1 ∧ agX ct1 ct) G ad) 0 0 (hA G.2.2.2) := by
  refine hMetw (by decide) (Nat.le_of_ble_eq_true rfl) (fun p e s m below meth c ls S hr hlk hE hW hl => ?_)
  obtain ⟨hx, hb, hml, hown, hts⟩ := id S
  have hS : va_S (hA G.2.2.2) s.heap s.heap [] := va_S.rf
  have hl : lv_has ls 6 [(0, .ref (ad 8)), (1, .int d), (2, .int by0)] := hl
  obtain ⟨⟨fr, pd, fb, fa, fx, pl, h8, h19, h20, h29, h32, h33, h34, h35⟩, ⟨h10, h11, h12, h15, h18⟩, ⟨h13, h16, h17, h21, h23, h24, rw_, an, ii, h26, h27, h28⟩, hn300, hm400, hlks, hks⟩ := id hR
  refine lv_aload_n hx hb dX5_feed_0 rfl (lv_at hl 0 rfl) ?_
  refine lv_iload_n hx hb dX5_feed_1 rfl (lv_at hl 1 rfl) ?_
  refine hc_r (va_runV (As := [.int d]) (rest := []) S (c_X5_isDevice l G _ hW hR d) (cwV 1 hts (gWSV q_l_5_129 q_im_X5_isDevice q_se_X5_isDevice q_in_5 q_co_X5_isDevice) rfl rfl rfl (by decide +kernel) ⟨Nat.le_of_ble_eq_true rfl, Nat.le_of_ble_eq_true rfl⟩) (hPreVr hE hS (hrecv hE hW h8 (q := (RX5, TX5, 28)) rfl)) rfl rfl hl.1 rfl (lv_room (Nat.le_of_ble_eq_true rfl)) dX5_feed_2 ⟨Nat.le_of_ble_eq_true rfl, Nat.le_of_ble_eq_true rfl⟩) hS (fun locs hS => ?_)
  refine lv_if_ne (tgt := 14) hx hb dX5_feed_5 (by decide) (fun q => absurd (isDevF_no hn300 hd) q) (fun _ => ?_)
  refine lv_aload_n hx hb dX5_feed_8 rfl (lv_at hl 0 rfl) ?_
  refine lv_iconst (v := 1) hx hb dX5_feed_9 (by decide) ?_
  refine hc_i (va_runV (As := [.int 1]) (rest := []) S (c_X5_refused l G ad _ hR 1) (cwV 1 hts (gWSV q_l_5_151 q_im_X5_refused q_se_X5_refused q_in_5 q_co_X5_refused) rfl rfl rfl (by decide +kernel) ⟨Nat.le_of_ble_eq_true rfl, Nat.le_of_ble_eq_true rfl⟩) (hPreVw hE hS (hrecv hE hW h8 (q := (RX5, TX5, 28)) rfl) hW) rfl rfl hl.1 rfl (lv_room (Nat.le_of_ble_eq_true rfl)) dX5_feed_10 ⟨Nat.le_of_ble_eq_true rfl, Nat.le_of_ble_eq_true rfl⟩) hS (fun rv_3 ct_1 H locs hp hW hS => ?_)
  obtain ⟨ev_4, hR, hag_2⟩ := hp
  rw [ev_4]
  obtain ⟨⟨fr, pd, fb, fa, fx, pl, h8, h19, h20, h29, h32, h33, h34, h35⟩, ⟨h10, h11, h12, h15, h18⟩, ⟨h13, h16, h17, h21, h23, h24, rw_, an, ii, h26, h27, h28⟩, hn300, hm400, hlks, hks⟩ := id hR
  exact h_iret S hr hlk hS hW dX5_feed_13 ⟨rfl, hR, (fun j hj => (hag_2 j hj))⟩
