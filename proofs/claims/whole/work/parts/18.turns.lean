def HeadW (p : Program) (l : Launch) (e : Env) (s : State) (m : MethodId) (args : Array Value) (below : List Frame) (meth : Method) (c : Code) (Q : State → Prop) (G : hG) (ad : Nat → Nat) (ct0 : Nat → Option va_E) (dn lk st0 : Int32) (i : Nat) (vv cv : Nat → Int32) (Fs : List (Nat × Nat × Int32)) (P : List Int32) (q : St) : Prop :=
  ∀ (ct : Nat → Option va_E) (H : Heap) (locs : List Loc) (ls : Array Slot), MC G ad ct dn lk st0 i vv cv Fs P q → agM ct ct0 → hw G ad ct H → va_S (hA G.2.2.2) s.heap H locs → lv_has ls 6 [(0, .ref (ad 8)), (1, .int (nI i))] → W p l e ({ frames := 2, cells := 0, slots := 0, locals := 46 } : Room) s m args below meth c H locs 0 0 Q (F0 m 34 ls [])
/-- what the machine's head stands on: the code, the tables, the device's kind -/
def MTab (G : hG) (ct0 : Nat → Option va_E) (kdf : Nat → Int32) : Prop :=
  ct0 10 = some (.inl (G.2.1.1, 246, .inl codT)) ∧ ct0 11 = some (.inl (G.2.1.1, 210, .inl staT)) ∧ ct0 12 = some (.inl (G.2.1.1, 21, .inl parT)) ∧ ct0 15 = some (.inl (G.2.1.1, 252, .inl choT)) ∧ ct0 18 = some (.inl (G.2.1.1, 300, .inl kdf))
theorem sub_nI (a b : Nat) : nI (a + b) - nI a = nI b := by rw [pk_sub (Nat.le_add_right a b), Nat.add_sub_cancel_left]
theorem sup_ix (pp a : Nat) : nI pp * 12 + nI (1200 + a) - 1200 = nI (pp * 12 + a) := by
  rw [show (12 : Int32) = nI 12 from rfl, pk_mul, nI_add, show pp * 12 + (1200 + a) = 1200 + (pp * 12 + a) by omega]
  exact sub_nI 1200 _
theorem do_ix (kk a : Nat) : (10 + nI kk) * 12 + nI (1100 + a) - 1100 = nI ((10 + kk) * 12 + a) := by
  rw [show (12 : Int32) = nI 12 from rfl, show (10 : Int32) = nI 10 from rfl, nI_add, pk_mul, nI_add, show (10 + kk) * 12 + (1100 + a) = 1100 + ((10 + kk) * 12 + a) by omega]
  exact sub_nI 1100 _
set_option maxRecDepth 100000 in
set_option maxHeartbeats 4000000 in
theorem it_end {p : Program} {l : Launch} {e : Env} {s : State} {m : MethodId} {args : Array Value} {below : List Frame} {meth : Method} {c : Code} {Q : State → Prop} {G : hG} {ad : Nat → Nat} {ct0 : Nat → Option va_E} {dn lk st0 : Int32} {i : Nat} {vv cv : Nat → Int32} {kdf : Nat → Int32} (S : CallFix p m c cX5_act 6 s args WS yX5_act.cls) (hE : gE G s) (hT : MTab G ct0 kdf) {bd at0 : Nat} {x : Int32} {Fs : List (Nat × Nat × Int32)} {P : List Int32} {q : St} (hFl : Fs.length < 100) (hat : at0 < 246) {o : Nat} (hco : codT at0 = nI o) (ho : 3000 ≤ o ∧ o < 4000) (hnext : HeadW p l e s m args below meth c Q G ad ct0 dn lk st0 i vv cv Fs P q) : HeadW p l e s m args below meth c Q G ad ct0 dn lk st0 i vv cv ((bd, at0, x) :: Fs) P q := by
  intro ct H locs ls hM hagc hW hS hl
  obtain ⟨hx, hb, hml, hown, hts⟩ := id S
  have h10 := (hagc 10 (by omega)).trans hT.1
  have h11 := (hagc 11 (by omega)).trans hT.2.1
  have h12 := (hagc 12 (by omega)).trans hT.2.2.1
  have h15 := (hagc 15 (by omega)).trans hT.2.2.2.1
  have h18 := (hagc 18 (by omega)).trans hT.2.2.2.2
  obtain ⟨fb, fa, fx, pl, h8, h19, h20, h29, h32, h33, h34, h35, hF, hL⟩ := id hM
  refine lv_aload_n hx hb dX5_act_34 rfl (lv_at hl 0 rfl) ?_
  refine hr_get S hE hW h8 inX5 (C := RX5) (T := TX5) (N := 28) rfl 26 (by decide) q_f_5_105 rfl dX5_act_35 ?_
  refine lv_if_le (tgt := 262) hx hb dX5_act_38 (by decide) (fun q => absurd q (nI_nle (Nat.succ_pos Fs.length) (show Fs.length + 1 < 2 ^ 31 by omega))) (fun _ => ?_)
  refine lv_aload_n hx hb dX5_act_41 rfl (lv_at hl 0 rfl) ?_
  refine hr_get S hE hW h8 inX5 (C := RX5) (T := TX5) (N := 28) rfl 26 (by decide) q_f_5_105 rfl dX5_act_42 ?_
  refine lv_iconst (v := 1) hx hb dX5_act_45 (by decide) ?_
  refine lv_isub hx hb dX5_act_46 ?_
  rw [show nI ((bd, at0, x) :: Fs).length - 1 = nI Fs.length from nI_pred _]
  refine lv_istore (lv' := [(4, .int (nI Fs.length)), (0, .ref (ad 8)), (1, .int (nI i))]) hx hb dX5_act_47 hl (by decide) rfl (fun ls hl => ?_)
  refine lv_aload_n hx hb dX5_act_49 rfl (lv_at hl 1 rfl) ?_
  refine hr_get S hE hW h8 inX5 (C := RX5) (T := TX5) (N := 28) rfl 0 (by decide) q_f_5_9 rfl dX5_act_50 ?_
  refine lv_aload_n hx hb dX5_act_53 rfl (lv_at hl 1 rfl) ?_
  refine hr_get S hE hW h8 inX5 (C := RX5) (T := TX5) (N := 28) rfl 23 (by decide) q_f_5_68 rfl dX5_act_54 ?_
  refine lv_iload hx hb dX5_act_57 (lv_at hl 0 rfl) ?_
  refine hr_ialdk S hE hW h33 (j := Fs.length) rfl hFl (by decide) dX5_act_59 ?_
  rw [hF.2.1]
  refine hr_ialdk S hE hW h10 (j := at0) rfl hat (by decide) dX5_act_60 ?_
  rw [hco]
  refine lv_istore (lv' := [(5, .int (nI o)), (4, .int (nI Fs.length)), (0, .ref (ad 8)), (1, .int (nI i))]) hx hb dX5_act_61 hl (by decide) rfl (fun ls hl => ?_)
  refine lv_aload_n hx hb dX5_act_63 rfl (lv_at hl 2 rfl) ?_
  refine hr_get S hE hW h8 inX5 (C := RX5) (T := TX5) (N := 28) rfl 23 (by decide) q_f_5_68 rfl dX5_act_64 ?_
  refine lv_iload hx hb dX5_act_67 (lv_at hl 1 rfl) ?_
  refine lv_dup2_11 hx hb dX5_act_69 rfl rfl ?_
  refine hr_ialdk S hE hW h33 (j := Fs.length) rfl hFl (by decide) dX5_act_70 ?_
  rw [hF.2.1]
  refine lv_iconst (v := 1) hx hb dX5_act_71 (by decide) ?_
  refine lv_iadd hx hb dX5_act_72 ?_
  rw [nI_1]
  refine hr_iastk S hE hW hS h33 (j := Fs.length) rfl hFl (by decide) dX5_act_73 (fun H locs ct_1 hW hk_2 hg_3 hz hS => ?_)
  have h_4 := (hg_3 10 (by decide)).trans h10
  have h_5 := (hg_3 11 (by decide)).trans h11
  have h_6 := (hg_3 12 (by decide)).trans h12
  have h_7 := (hg_3 15 (by decide)).trans h15
  have h_8 := (hg_3 18 (by decide)).trans h18
  have h_9 := (hg_3 8 (by decide)).trans h8
  have h_10 := (hg_3 19 (by decide)).trans h19
  have h_11 := (hg_3 20 (by decide)).trans h20
  have h_12 := (hg_3 29 (by decide)).trans h29
  have h_13 := (hg_3 32 (by decide)).trans h32
  have h_14 := (hg_3 34 (by decide)).trans h34
  have h_15 := (hg_3 35 (by decide)).trans h35
  have h_16 : ct_1 33 = some (.inl (G.2.1.1, 100, .inl (upd fa Fs.length (nI (at0 + 1))))) := hk_2
  have hM : MC G ad ct_1 dn lk st0 i vv cv ((bd, at0 + 1, x) :: Fs) P q := ⟨fb, _, fx, pl, h_9, h_10, h_11, h_12, h_13, h_16, h_14, h_15, FrRep_inc hF, hL⟩
  obtain ⟨fb, fa, fx, pl, h8, h19, h20, h29, h32, h33, h34, h35, hF, hL⟩ := id hM
  refine lv_iload hx hb dX5_act_74 (lv_at hl 0 rfl) ?_
  refine lv_sipush (v := 3000) hx hb dX5_act_76 (by decide) ?_
  refine lv_icmp_lt (tgt := 95) hx hb dX5_act_79 (by decide) (fun q => absurd q (show ¬ nI o < 3000 from nI_nlt (a := o) (b := 3000) (by omega) (by omega))) (fun _ => ?_)
  refine lv_aload_n hx hb dX5_act_82 rfl (lv_at hl 2 rfl) ?_
  refine lv_dup hx hb dX5_act_83 rfl ?_
  refine hr_get S hE hW h8 inX5 (C := RX5) (T := TX5) (N := 28) rfl 26 (by decide) q_f_5_105 rfl dX5_act_84 ?_
  refine lv_iconst (v := 1) hx hb dX5_act_87 (by decide) ?_
  refine lv_isub hx hb dX5_act_88 ?_
  rw [show nI ((bd, at0 + 1, x) :: Fs).length - 1 = nI Fs.length from nI_pred _]
  refine hr_put S hE hW hS h8 inX5 (C := RX5) (T := TX5) (N := 28) tyX5_ok nmX5 rfl 26 (by decide) q_f_5_105 rfl rfl rfl (Nat.le_of_ble_eq_true rfl) dX5_act_89 (fun H locs ct_17 hW hk_18 hg_19 hz hS => ?_)
  have h_20 := (hg_19 10 (by decide)).trans h_4
  have h_21 := (hg_19 11 (by decide)).trans h_5
  have h_22 := (hg_19 12 (by decide)).trans h_6
  have h_23 := (hg_19 15 (by decide)).trans h_7
  have h_24 := (hg_19 18 (by decide)).trans h_8
  have h_25 := (hg_19 19 (by decide)).trans h19
  have h_26 := (hg_19 20 (by decide)).trans h20
  have h_27 := (hg_19 29 (by decide)).trans h29
  have h_28 := (hg_19 32 (by decide)).trans h32
  have h_29 := (hg_19 33 (by decide)).trans h33
  have h_30 := (hg_19 34 (by decide)).trans h34
  have h_31 := (hg_19 35 (by decide)).trans h35
  have h_32 : ct_17 8 = some (.inr (5, [.ref (ad 10), .ref (ad 11), .ref (ad 12), .ref (ad 13), .ref (ad 14), .ref (ad 15), .ref (ad 16), .ref (ad 17), .ref (ad 18), .ref (ad 19), .ref (ad 20), .ref (ad 21), .int dn, .ref (ad 23), .ref (ad 24), .int lk, .ref (ad 26), .ref (ad 27), .ref (ad 28), .ref (ad 29), .int q.2.2.1, .int st0, .ref (ad 32), .ref (ad 33), .ref (ad 34), .ref (ad 35), .int (nI Fs.length), .int (nI P.length)])) := hk_18
  refine lv_goto (tgt := 259) hx hb dX5_act_92 (by decide) ?_
  refine lv_goto (tgt := 34) hx hb dX5_act_259 (by decide) ?_
  exact hnext _ _ _ _ ⟨fb, fa, fx, pl, h_32, h_25, h_26, h_27, h_28, h_29, h_30, h_31, hF.2.2.2, hL⟩ (agM.trans (fun j hj => ((hg_19 j (by omega))).trans ((hg_3 j (by omega)))) hagc) hW hS (lv_sub hl [2, 3] rfl)
set_option maxRecDepth 100000 in
set_option maxHeartbeats 4000000 in
theorem it_own {p : Program} {l : Launch} {e : Env} {s : State} {m : MethodId} {args : Array Value} {below : List Frame} {meth : Method} {c : Code} {Q : State → Prop} {G : hG} {ad : Nat → Nat} {ct0 : Nat → Option va_E} {dn lk st0 : Int32} {i : Nat} {vv cv : Nat → Int32} {kdf : Nat → Int32} (S : CallFix p m c cX5_act 6 s args WS yX5_act.cls) (hE : gE G s) (hT : MTab G ct0 kdf) {bd at0 : Nat} {x : Int32} {Fs : List (Nat × Nat × Int32)} {P : List Int32} {q : St} (hFl : Fs.length < 100) (hat : at0 < 246) {y : Int32} {bb nb a0 : Nat} (hqb : q.2.2.1 = nI bb) (hbb : bb < 2 ^ 30) (hnb : nb < 210) (hst : staT nb = nI a0) (hFl1 : Fs.length + 1 < 100) (hPl : P.length < 300) (hco : codT at0 = nI (2000 + nb)) (hnext : HeadW p l e s m args below meth c Q G ad ct0 dn lk st0 i vv cv ((nb, a0, y) :: (bd, at0 + 1, x) :: Fs) P (bgS (nI nb) q)) : HeadW p l e s m args below meth c Q G ad ct0 dn lk st0 i vv cv ((bd, at0, x) :: Fs) (y :: P) q := by
  intro ct H locs ls hM hagc hW hS hl
  obtain ⟨hx, hb, hml, hown, hts⟩ := id S
  have h10 := (hagc 10 (by omega)).trans hT.1
  have h11 := (hagc 11 (by omega)).trans hT.2.1
  have h12 := (hagc 12 (by omega)).trans hT.2.2.1
  have h15 := (hagc 15 (by omega)).trans hT.2.2.2.1
  have h18 := (hagc 18 (by omega)).trans hT.2.2.2.2
  obtain ⟨fb, fa, fx, pl, h8, h19, h20, h29, h32, h33, h34, h35, hF, hL⟩ := id hM
  refine lv_aload_n hx hb dX5_act_34 rfl (lv_at hl 0 rfl) ?_
  refine hr_get S hE hW h8 inX5 (C := RX5) (T := TX5) (N := 28) rfl 26 (by decide) q_f_5_105 rfl dX5_act_35 ?_
  refine lv_if_le (tgt := 262) hx hb dX5_act_38 (by decide) (fun q => absurd q (nI_nle (Nat.succ_pos Fs.length) (show Fs.length + 1 < 2 ^ 31 by omega))) (fun _ => ?_)
  refine lv_aload_n hx hb dX5_act_41 rfl (lv_at hl 0 rfl) ?_
  refine hr_get S hE hW h8 inX5 (C := RX5) (T := TX5) (N := 28) rfl 26 (by decide) q_f_5_105 rfl dX5_act_42 ?_
  refine lv_iconst (v := 1) hx hb dX5_act_45 (by decide) ?_
  refine lv_isub hx hb dX5_act_46 ?_
  rw [show nI ((bd, at0, x) :: Fs).length - 1 = nI Fs.length from nI_pred _]
  refine lv_istore (lv' := [(4, .int (nI Fs.length)), (0, .ref (ad 8)), (1, .int (nI i))]) hx hb dX5_act_47 hl (by decide) rfl (fun ls hl => ?_)
  refine lv_aload_n hx hb dX5_act_49 rfl (lv_at hl 1 rfl) ?_
  refine hr_get S hE hW h8 inX5 (C := RX5) (T := TX5) (N := 28) rfl 0 (by decide) q_f_5_9 rfl dX5_act_50 ?_
  refine lv_aload_n hx hb dX5_act_53 rfl (lv_at hl 1 rfl) ?_
  refine hr_get S hE hW h8 inX5 (C := RX5) (T := TX5) (N := 28) rfl 23 (by decide) q_f_5_68 rfl dX5_act_54 ?_
  refine lv_iload hx hb dX5_act_57 (lv_at hl 0 rfl) ?_
  refine hr_ialdk S hE hW h33 (j := Fs.length) rfl hFl (by decide) dX5_act_59 ?_
  rw [hF.2.1]
  refine hr_ialdk S hE hW h10 (j := at0) rfl hat (by decide) dX5_act_60 ?_
  rw [hco]
  refine lv_istore (lv' := [(5, .int (nI (2000 + nb))), (4, .int (nI Fs.length)), (0, .ref (ad 8)), (1, .int (nI i))]) hx hb dX5_act_61 hl (by decide) rfl (fun ls hl => ?_)
  refine lv_aload_n hx hb dX5_act_63 rfl (lv_at hl 2 rfl) ?_
  refine hr_get S hE hW h8 inX5 (C := RX5) (T := TX5) (N := 28) rfl 23 (by decide) q_f_5_68 rfl dX5_act_64 ?_
  refine lv_iload hx hb dX5_act_67 (lv_at hl 1 rfl) ?_
  refine lv_dup2_11 hx hb dX5_act_69 rfl rfl ?_
  refine hr_ialdk S hE hW h33 (j := Fs.length) rfl hFl (by decide) dX5_act_70 ?_
  rw [hF.2.1]
  refine lv_iconst (v := 1) hx hb dX5_act_71 (by decide) ?_
  refine lv_iadd hx hb dX5_act_72 ?_
  rw [nI_1]
  refine hr_iastk S hE hW hS h33 (j := Fs.length) rfl hFl (by decide) dX5_act_73 (fun H locs ct_1 hW hk_2 hg_3 hz hS => ?_)
  have h_4 := (hg_3 10 (by decide)).trans h10
  have h_5 := (hg_3 11 (by decide)).trans h11
  have h_6 := (hg_3 12 (by decide)).trans h12
  have h_7 := (hg_3 15 (by decide)).trans h15
  have h_8 := (hg_3 18 (by decide)).trans h18
  have h_9 := (hg_3 8 (by decide)).trans h8
  have h_10 := (hg_3 19 (by decide)).trans h19
  have h_11 := (hg_3 20 (by decide)).trans h20
  have h_12 := (hg_3 29 (by decide)).trans h29
  have h_13 := (hg_3 32 (by decide)).trans h32
  have h_14 := (hg_3 34 (by decide)).trans h34
  have h_15 := (hg_3 35 (by decide)).trans h35
  have h_16 : ct_1 33 = some (.inl (G.2.1.1, 100, .inl (upd fa Fs.length (nI (at0 + 1))))) := hk_2
  have hM : MC G ad ct_1 dn lk st0 i vv cv ((bd, at0 + 1, x) :: Fs) (y :: P) q := ⟨fb, _, fx, pl, h_9, h_10, h_11, h_12, h_13, h_16, h_14, h_15, FrRep_inc hF, hL⟩
  obtain ⟨fb, fa, fx, pl, h8, h19, h20, h29, h32, h33, h34, h35, hF, hL⟩ := id hM
  refine lv_iload hx hb dX5_act_74 (lv_at hl 0 rfl) ?_
  refine lv_sipush (v := 3000) hx hb dX5_act_76 (by decide) ?_
  refine lv_icmp_lt (tgt := 95) hx hb dX5_act_79 (by decide) (fun _ => ?_) (fun q => absurd (show nI (2000 + nb) < 3000 from nI_lt (b := 3000) (by omega) (by omega)) q)
  refine lv_iload hx hb dX5_act_95 (lv_at hl 0 rfl) ?_
  refine lv_sipush (v := 2000) hx hb dX5_act_97 (by decide) ?_
  refine lv_icmp_lt (tgt := 120) hx hb dX5_act_100 (by decide) (fun q => absurd q (show ¬ nI (2000 + nb) < 2000 from nI_nlt (a := (2000 + nb)) (b := 2000) (by omega) (by omega))) (fun _ => ?_)
  refine lv_aload_n hx hb dX5_act_103 rfl (lv_at hl 2 rfl) ?_
  refine lv_iload hx hb dX5_act_104 (lv_at hl 0 rfl) ?_
  refine lv_sipush (v := 2000) hx hb dX5_act_106 (by decide) ?_
  refine lv_isub hx hb dX5_act_109 ?_
  rw [show nI (2000 + nb) - 2000 = nI nb from sub_nI 2000 nb]
  refine lv_aload_n hx hb dX5_act_110 rfl (lv_at hl 2 rfl) ?_
  refine hc_i (va_runV (As := []) (rest := [.int (nI nb), .ref (ad 8)]) S (c_X5_pop l G ad _ hM (by omega)) (cwV 0 hts (gWSV q_l_5_112 q_im_X5_pop q_se_X5_pop q_in_5 q_co_X5_pop) rfl rfl rfl (by decide +kernel) ⟨Nat.le_of_ble_eq_true rfl, Nat.le_of_ble_eq_true rfl⟩) (hPreVw hE hS (hrecv hE hW h8 (q := (RX5, TX5, 28)) rfl) hW) rfl rfl hl.1 rfl (lv_room (Nat.le_of_ble_eq_true rfl)) dX5_act_111 ⟨Nat.le_of_ble_eq_true rfl, Nat.le_of_ble_eq_true rfl⟩) hS (fun rv_19 ct_17 H locs hp hW hS => ?_)
  obtain ⟨ev_20, hM, hag_18⟩ := hp
  rw [ev_20]
  have h_21 := (hag_18 10 (by omega)).trans h_4
  have h_22 := (hag_18 11 (by omega)).trans h_5
  have h_23 := (hag_18 12 (by omega)).trans h_6
  have h_24 := (hag_18 15 (by omega)).trans h_7
  have h_25 := (hag_18 18 (by omega)).trans h_8
  obtain ⟨fb, fa, fx, pl, h8, h19, h20, h29, h32, h33, h34, h35, hF, hL⟩ := id hM
  refine hc_v (va_runV (As := [.int (nI nb), .int y]) (rest := []) S (c_X5_enter l G ad _ hM h_22 hqb hbb hnb hst hFl1 y) (cwV 2 hts (gWSV q_l_5_108 q_im_X5_enter q_se_X5_enter q_in_5 q_co_X5_enter) rfl rfl rfl (by decide +kernel) ⟨Nat.le_of_ble_eq_true rfl, Nat.le_of_ble_eq_true rfl⟩) (hPreVw hE hS (hrecv hE hW h8 (q := (RX5, TX5, 28)) rfl) hW) rfl rfl hl.1 rfl (lv_room (Nat.le_of_ble_eq_true rfl)) dX5_act_114 ⟨Nat.le_of_ble_eq_true rfl, Nat.le_of_ble_eq_true rfl⟩) hS (fun ct_26 H locs hp hW hS => ?_)
  obtain ⟨hM, hag_27⟩ := hp
  have h_28 := (hag_27 10 (by omega)).trans h_21
  have h_29 := (hag_27 11 (by omega)).trans h_22
  have h_30 := (hag_27 12 (by omega)).trans h_23
  have h_31 := (hag_27 15 (by omega)).trans h_24
  have h_32 := (hag_27 18 (by omega)).trans h_25
  obtain ⟨fb, fa, fx, pl, h8, h19, h20, h29, h32, h33, h34, h35, hF, hL⟩ := id hM
  refine lv_goto (tgt := 259) hx hb dX5_act_117 (by decide) ?_
  refine lv_goto (tgt := 34) hx hb dX5_act_259 (by decide) ?_
  exact hnext _ _ _ _ hM (agM.trans (fun j hj => ((hag_27 j hj)).trans (((hag_18 j hj)).trans ((hg_3 j (by omega))))) hagc) hW hS (lv_sub hl [2, 3] rfl)
set_option maxRecDepth 100000 in
set_option maxHeartbeats 4000000 in
theorem it_of {p : Program} {l : Launch} {e : Env} {s : State} {m : MethodId} {args : Array Value} {below : List Frame} {meth : Method} {c : Code} {Q : State → Prop} {G : hG} {ad : Nat → Nat} {ct0 : Nat → Option va_E} {dn lk st0 : Int32} {i : Nat} {vv cv : Nat → Int32} {kdf : Nat → Int32} (S : CallFix p m c cX5_act 6 s args WS yX5_act.cls) (hE : gE G s) (hT : MTab G ct0 kdf) {bd at0 : Nat} {x : Int32} {Fs : List (Nat × Nat × Int32)} {P : List Int32} {q : St} (hFl : Fs.length < 100) (hat : at0 < 246) {y : Int32} {bb nb a0 : Nat} (hqb : q.2.2.1 = nI bb) (hbb : bb < 2 ^ 30) (hnb : nb < 210) (hst : staT nb = nI a0) (hFl1 : Fs.length + 1 < 100) (hPl : P.length < 300) {k0 : Nat} (hk0 : k0 < 240) (hch : choT (k0 + 12) = nI nb) (hco : codT at0 = nI (1312 + k0)) (hnext : HeadW p l e s m args below meth c Q G ad ct0 dn lk st0 i vv cv ((nb, a0, y) :: (bd, at0 + 1, x) :: Fs) P (bgS (nI nb) q)) : HeadW p l e s m args below meth c Q G ad ct0 dn lk st0 i vv cv ((bd, at0, x) :: Fs) (y :: P) q := by
  intro ct H locs ls hM hagc hW hS hl
  obtain ⟨hx, hb, hml, hown, hts⟩ := id S
  have h10 := (hagc 10 (by omega)).trans hT.1
  have h11 := (hagc 11 (by omega)).trans hT.2.1
  have h12 := (hagc 12 (by omega)).trans hT.2.2.1
  have h15 := (hagc 15 (by omega)).trans hT.2.2.2.1
  have h18 := (hagc 18 (by omega)).trans hT.2.2.2.2
  obtain ⟨fb, fa, fx, pl, h8, h19, h20, h29, h32, h33, h34, h35, hF, hL⟩ := id hM
  refine lv_aload_n hx hb dX5_act_34 rfl (lv_at hl 0 rfl) ?_
  refine hr_get S hE hW h8 inX5 (C := RX5) (T := TX5) (N := 28) rfl 26 (by decide) q_f_5_105 rfl dX5_act_35 ?_
  refine lv_if_le (tgt := 262) hx hb dX5_act_38 (by decide) (fun q => absurd q (nI_nle (Nat.succ_pos Fs.length) (show Fs.length + 1 < 2 ^ 31 by omega))) (fun _ => ?_)
  refine lv_aload_n hx hb dX5_act_41 rfl (lv_at hl 0 rfl) ?_
  refine hr_get S hE hW h8 inX5 (C := RX5) (T := TX5) (N := 28) rfl 26 (by decide) q_f_5_105 rfl dX5_act_42 ?_
  refine lv_iconst (v := 1) hx hb dX5_act_45 (by decide) ?_
  refine lv_isub hx hb dX5_act_46 ?_
  rw [show nI ((bd, at0, x) :: Fs).length - 1 = nI Fs.length from nI_pred _]
  refine lv_istore (lv' := [(4, .int (nI Fs.length)), (0, .ref (ad 8)), (1, .int (nI i))]) hx hb dX5_act_47 hl (by decide) rfl (fun ls hl => ?_)
  refine lv_aload_n hx hb dX5_act_49 rfl (lv_at hl 1 rfl) ?_
  refine hr_get S hE hW h8 inX5 (C := RX5) (T := TX5) (N := 28) rfl 0 (by decide) q_f_5_9 rfl dX5_act_50 ?_
  refine lv_aload_n hx hb dX5_act_53 rfl (lv_at hl 1 rfl) ?_
  refine hr_get S hE hW h8 inX5 (C := RX5) (T := TX5) (N := 28) rfl 23 (by decide) q_f_5_68 rfl dX5_act_54 ?_
  refine lv_iload hx hb dX5_act_57 (lv_at hl 0 rfl) ?_
  refine hr_ialdk S hE hW h33 (j := Fs.length) rfl hFl (by decide) dX5_act_59 ?_
  rw [hF.2.1]
  refine hr_ialdk S hE hW h10 (j := at0) rfl hat (by decide) dX5_act_60 ?_
  rw [hco]
  refine lv_istore (lv' := [(5, .int (nI (1312 + k0))), (4, .int (nI Fs.length)), (0, .ref (ad 8)), (1, .int (nI i))]) hx hb dX5_act_61 hl (by decide) rfl (fun ls hl => ?_)
  refine lv_aload_n hx hb dX5_act_63 rfl (lv_at hl 2 rfl) ?_
  refine hr_get S hE hW h8 inX5 (C := RX5) (T := TX5) (N := 28) rfl 23 (by decide) q_f_5_68 rfl dX5_act_64 ?_
  refine lv_iload hx hb dX5_act_67 (lv_at hl 1 rfl) ?_
  refine lv_dup2_11 hx hb dX5_act_69 rfl rfl ?_
  refine hr_ialdk S hE hW h33 (j := Fs.length) rfl hFl (by decide) dX5_act_70 ?_
  rw [hF.2.1]
  refine lv_iconst (v := 1) hx hb dX5_act_71 (by decide) ?_
  refine lv_iadd hx hb dX5_act_72 ?_
  rw [nI_1]
  refine hr_iastk S hE hW hS h33 (j := Fs.length) rfl hFl (by decide) dX5_act_73 (fun H locs ct_1 hW hk_2 hg_3 hz hS => ?_)
  have h_4 := (hg_3 10 (by decide)).trans h10
  have h_5 := (hg_3 11 (by decide)).trans h11
  have h_6 := (hg_3 12 (by decide)).trans h12
  have h_7 := (hg_3 15 (by decide)).trans h15
  have h_8 := (hg_3 18 (by decide)).trans h18
  have h_9 := (hg_3 8 (by decide)).trans h8
  have h_10 := (hg_3 19 (by decide)).trans h19
  have h_11 := (hg_3 20 (by decide)).trans h20
  have h_12 := (hg_3 29 (by decide)).trans h29
  have h_13 := (hg_3 32 (by decide)).trans h32
  have h_14 := (hg_3 34 (by decide)).trans h34
  have h_15 := (hg_3 35 (by decide)).trans h35
  have h_16 : ct_1 33 = some (.inl (G.2.1.1, 100, .inl (upd fa Fs.length (nI (at0 + 1))))) := hk_2
  have hM : MC G ad ct_1 dn lk st0 i vv cv ((bd, at0 + 1, x) :: Fs) (y :: P) q := ⟨fb, _, fx, pl, h_9, h_10, h_11, h_12, h_13, h_16, h_14, h_15, FrRep_inc hF, hL⟩
  obtain ⟨fb, fa, fx, pl, h8, h19, h20, h29, h32, h33, h34, h35, hF, hL⟩ := id hM
  refine lv_iload hx hb dX5_act_74 (lv_at hl 0 rfl) ?_
  refine lv_sipush (v := 3000) hx hb dX5_act_76 (by decide) ?_
  refine lv_icmp_lt (tgt := 95) hx hb dX5_act_79 (by decide) (fun _ => ?_) (fun q => absurd (show nI (1312 + k0) < 3000 from nI_lt (b := 3000) (by omega) (by omega)) q)
  refine lv_iload hx hb dX5_act_95 (lv_at hl 0 rfl) ?_
  refine lv_sipush (v := 2000) hx hb dX5_act_97 (by decide) ?_
  refine lv_icmp_lt (tgt := 120) hx hb dX5_act_100 (by decide) (fun _ => ?_) (fun q => absurd (show nI (1312 + k0) < 2000 from nI_lt (b := 2000) (by omega) (by omega)) q)
  refine lv_iload hx hb dX5_act_120 (lv_at hl 0 rfl) ?_
  refine lv_sipush (v := 1312) hx hb dX5_act_122 (by decide) ?_
  refine lv_icmp_lt (tgt := 153) hx hb dX5_act_125 (by decide) (fun q => absurd q (show ¬ nI (1312 + k0) < 1312 from nI_nlt (a := (1312 + k0)) (b := 1312) (by omega) (by omega))) (fun _ => ?_)
  refine lv_aload_n hx hb dX5_act_128 rfl (lv_at hl 2 rfl) ?_
  refine lv_aload_n hx hb dX5_act_129 rfl (lv_at hl 2 rfl) ?_
  refine hr_get S hE hW h8 inX5 (C := RX5) (T := TX5) (N := 28) rfl 5 (by decide) q_f_5_25 rfl dX5_act_130 ?_
  refine lv_iload hx hb dX5_act_133 (lv_at hl 0 rfl) ?_
  refine lv_sipush (v := 1312) hx hb dX5_act_135 (by decide) ?_
  refine lv_isub hx hb dX5_act_138 ?_
  rw [show nI (1312 + k0) - 1312 = nI k0 from sub_nI 1312 k0]
  refine lv_bipush (v := 12) hx hb dX5_act_139 (by decide) ?_
  refine lv_iadd hx hb dX5_act_141 ?_
  rw [show nI k0 + 12 = nI (k0 + 12) from nI_add k0 12]
  refine hr_ialdk S hE hW h_7 (j := (k0 + 12)) rfl (by omega) (by decide) dX5_act_142 ?_
  rw [hch]
  refine lv_aload_n hx hb dX5_act_143 rfl (lv_at hl 2 rfl) ?_
  refine hc_i (va_runV (As := []) (rest := [.int (nI nb), .ref (ad 8)]) S (c_X5_pop l G ad _ hM (by omega)) (cwV 0 hts (gWSV q_l_5_112 q_im_X5_pop q_se_X5_pop q_in_5 q_co_X5_pop) rfl rfl rfl (by decide +kernel) ⟨Nat.le_of_ble_eq_true rfl, Nat.le_of_ble_eq_true rfl⟩) (hPreVw hE hS (hrecv hE hW h8 (q := (RX5, TX5, 28)) rfl) hW) rfl rfl hl.1 rfl (lv_room (Nat.le_of_ble_eq_true rfl)) dX5_act_144 ⟨Nat.le_of_ble_eq_true rfl, Nat.le_of_ble_eq_true rfl⟩) hS (fun rv_19 ct_17 H locs hp hW hS => ?_)
  obtain ⟨ev_20, hM, hag_18⟩ := hp
  rw [ev_20]
  have h_21 := (hag_18 10 (by omega)).trans h_4
  have h_22 := (hag_18 11 (by omega)).trans h_5
  have h_23 := (hag_18 12 (by omega)).trans h_6
  have h_24 := (hag_18 15 (by omega)).trans h_7
  have h_25 := (hag_18 18 (by omega)).trans h_8
  obtain ⟨fb, fa, fx, pl, h8, h19, h20, h29, h32, h33, h34, h35, hF, hL⟩ := id hM
  refine hc_v (va_runV (As := [.int (nI nb), .int y]) (rest := []) S (c_X5_enter l G ad _ hM h_22 hqb hbb hnb hst hFl1 y) (cwV 2 hts (gWSV q_l_5_108 q_im_X5_enter q_se_X5_enter q_in_5 q_co_X5_enter) rfl rfl rfl (by decide +kernel) ⟨Nat.le_of_ble_eq_true rfl, Nat.le_of_ble_eq_true rfl⟩) (hPreVw hE hS (hrecv hE hW h8 (q := (RX5, TX5, 28)) rfl) hW) rfl rfl hl.1 rfl (lv_room (Nat.le_of_ble_eq_true rfl)) dX5_act_147 ⟨Nat.le_of_ble_eq_true rfl, Nat.le_of_ble_eq_true rfl⟩) hS (fun ct_26 H locs hp hW hS => ?_)
  obtain ⟨hM, hag_27⟩ := hp
  have h_28 := (hag_27 10 (by omega)).trans h_21
  have h_29 := (hag_27 11 (by omega)).trans h_22
  have h_30 := (hag_27 12 (by omega)).trans h_23
  have h_31 := (hag_27 15 (by omega)).trans h_24
  have h_32 := (hag_27 18 (by omega)).trans h_25
  obtain ⟨fb, fa, fx, pl, h8, h19, h20, h29, h32, h33, h34, h35, hF, hL⟩ := id hM
  refine lv_goto (tgt := 259) hx hb dX5_act_150 (by decide) ?_
  refine lv_goto (tgt := 34) hx hb dX5_act_259 (by decide) ?_
  exact hnext _ _ _ _ hM (agM.trans (fun j hj => ((hag_27 j hj)).trans (((hag_18 j hj)).trans ((hg_3 j (by omega))))) hagc) hW hS (lv_sub hl [2, 3] rfl)
set_option maxRecDepth 100000 in
set_option maxHeartbeats 4000000 in
theorem it_sup {p : Program} {l : Launch} {e : Env} {s : State} {m : MethodId} {args : Array Value} {below : List Frame} {meth : Method} {c : Code} {Q : State → Prop} {G : hG} {ad : Nat → Nat} {ct0 : Nat → Option va_E} {dn lk st0 : Int32} {i : Nat} {vv cv : Nat → Int32} {kdf : Nat → Int32} (S : CallFix p m c cX5_act 6 s args WS yX5_act.cls) (hE : gE G s) (hT : MTab G ct0 kdf) {bd at0 : Nat} {x : Int32} {Fs : List (Nat × Nat × Int32)} {P : List Int32} {q : St} (hFl : Fs.length < 100) (hat : at0 < 246) {y : Int32} {bb nb a0 : Nat} (hqb : q.2.2.1 = nI bb) (hbb : bb < 2 ^ 30) (hnb : nb < 210) (hst : staT nb = nI a0) (hFl1 : Fs.length + 1 < 100) (hPl : P.length < 300) {a pp : Nat} (ha : a < 12) (hbd : bd < 210) (hpp : parT (bd / 10) = nI pp) (hpp2 : pp < 20) (hch : choT (pp * 12 + a) = nI nb) (hco : codT at0 = nI (1200 + a)) (hnext : HeadW p l e s m args below meth c Q G ad ct0 dn lk st0 i vv cv ((nb, a0, y) :: (bd, at0 + 1, x) :: Fs) P (bgS (nI nb) q)) : HeadW p l e s m args below meth c Q G ad ct0 dn lk st0 i vv cv ((bd, at0, x) :: Fs) (y :: P) q := by
  intro ct H locs ls hM hagc hW hS hl
  obtain ⟨hx, hb, hml, hown, hts⟩ := id S
  have h10 := (hagc 10 (by omega)).trans hT.1
  have h11 := (hagc 11 (by omega)).trans hT.2.1
  have h12 := (hagc 12 (by omega)).trans hT.2.2.1
  have h15 := (hagc 15 (by omega)).trans hT.2.2.2.1
  have h18 := (hagc 18 (by omega)).trans hT.2.2.2.2
  obtain ⟨fb, fa, fx, pl, h8, h19, h20, h29, h32, h33, h34, h35, hF, hL⟩ := id hM
  refine lv_aload_n hx hb dX5_act_34 rfl (lv_at hl 0 rfl) ?_
  refine hr_get S hE hW h8 inX5 (C := RX5) (T := TX5) (N := 28) rfl 26 (by decide) q_f_5_105 rfl dX5_act_35 ?_
  refine lv_if_le (tgt := 262) hx hb dX5_act_38 (by decide) (fun q => absurd q (nI_nle (Nat.succ_pos Fs.length) (show Fs.length + 1 < 2 ^ 31 by omega))) (fun _ => ?_)
  refine lv_aload_n hx hb dX5_act_41 rfl (lv_at hl 0 rfl) ?_
  refine hr_get S hE hW h8 inX5 (C := RX5) (T := TX5) (N := 28) rfl 26 (by decide) q_f_5_105 rfl dX5_act_42 ?_
  refine lv_iconst (v := 1) hx hb dX5_act_45 (by decide) ?_
  refine lv_isub hx hb dX5_act_46 ?_
  rw [show nI ((bd, at0, x) :: Fs).length - 1 = nI Fs.length from nI_pred _]
  refine lv_istore (lv' := [(4, .int (nI Fs.length)), (0, .ref (ad 8)), (1, .int (nI i))]) hx hb dX5_act_47 hl (by decide) rfl (fun ls hl => ?_)
  refine lv_aload_n hx hb dX5_act_49 rfl (lv_at hl 1 rfl) ?_
  refine hr_get S hE hW h8 inX5 (C := RX5) (T := TX5) (N := 28) rfl 0 (by decide) q_f_5_9 rfl dX5_act_50 ?_
  refine lv_aload_n hx hb dX5_act_53 rfl (lv_at hl 1 rfl) ?_
  refine hr_get S hE hW h8 inX5 (C := RX5) (T := TX5) (N := 28) rfl 23 (by decide) q_f_5_68 rfl dX5_act_54 ?_
  refine lv_iload hx hb dX5_act_57 (lv_at hl 0 rfl) ?_
  refine hr_ialdk S hE hW h33 (j := Fs.length) rfl hFl (by decide) dX5_act_59 ?_
  rw [hF.2.1]
  refine hr_ialdk S hE hW h10 (j := at0) rfl hat (by decide) dX5_act_60 ?_
  rw [hco]
  refine lv_istore (lv' := [(5, .int (nI (1200 + a))), (4, .int (nI Fs.length)), (0, .ref (ad 8)), (1, .int (nI i))]) hx hb dX5_act_61 hl (by decide) rfl (fun ls hl => ?_)
  refine lv_aload_n hx hb dX5_act_63 rfl (lv_at hl 2 rfl) ?_
  refine hr_get S hE hW h8 inX5 (C := RX5) (T := TX5) (N := 28) rfl 23 (by decide) q_f_5_68 rfl dX5_act_64 ?_
  refine lv_iload hx hb dX5_act_67 (lv_at hl 1 rfl) ?_
  refine lv_dup2_11 hx hb dX5_act_69 rfl rfl ?_
  refine hr_ialdk S hE hW h33 (j := Fs.length) rfl hFl (by decide) dX5_act_70 ?_
  rw [hF.2.1]
  refine lv_iconst (v := 1) hx hb dX5_act_71 (by decide) ?_
  refine lv_iadd hx hb dX5_act_72 ?_
  rw [nI_1]
  refine hr_iastk S hE hW hS h33 (j := Fs.length) rfl hFl (by decide) dX5_act_73 (fun H locs ct_1 hW hk_2 hg_3 hz hS => ?_)
  have h_4 := (hg_3 10 (by decide)).trans h10
  have h_5 := (hg_3 11 (by decide)).trans h11
  have h_6 := (hg_3 12 (by decide)).trans h12
  have h_7 := (hg_3 15 (by decide)).trans h15
  have h_8 := (hg_3 18 (by decide)).trans h18
  have h_9 := (hg_3 8 (by decide)).trans h8
  have h_10 := (hg_3 19 (by decide)).trans h19
  have h_11 := (hg_3 20 (by decide)).trans h20
  have h_12 := (hg_3 29 (by decide)).trans h29
  have h_13 := (hg_3 32 (by decide)).trans h32
  have h_14 := (hg_3 34 (by decide)).trans h34
  have h_15 := (hg_3 35 (by decide)).trans h35
  have h_16 : ct_1 33 = some (.inl (G.2.1.1, 100, .inl (upd fa Fs.length (nI (at0 + 1))))) := hk_2
  have hM : MC G ad ct_1 dn lk st0 i vv cv ((bd, at0 + 1, x) :: Fs) (y :: P) q := ⟨fb, _, fx, pl, h_9, h_10, h_11, h_12, h_13, h_16, h_14, h_15, FrRep_inc hF, hL⟩
  obtain ⟨fb, fa, fx, pl, h8, h19, h20, h29, h32, h33, h34, h35, hF, hL⟩ := id hM
  refine lv_iload hx hb dX5_act_74 (lv_at hl 0 rfl) ?_
  refine lv_sipush (v := 3000) hx hb dX5_act_76 (by decide) ?_
  refine lv_icmp_lt (tgt := 95) hx hb dX5_act_79 (by decide) (fun _ => ?_) (fun q => absurd (show nI (1200 + a) < 3000 from nI_lt (b := 3000) (by omega) (by omega)) q)
  refine lv_iload hx hb dX5_act_95 (lv_at hl 0 rfl) ?_
  refine lv_sipush (v := 2000) hx hb dX5_act_97 (by decide) ?_
  refine lv_icmp_lt (tgt := 120) hx hb dX5_act_100 (by decide) (fun _ => ?_) (fun q => absurd (show nI (1200 + a) < 2000 from nI_lt (b := 2000) (by omega) (by omega)) q)
  refine lv_iload hx hb dX5_act_120 (lv_at hl 0 rfl) ?_
  refine lv_sipush (v := 1312) hx hb dX5_act_122 (by decide) ?_
  refine lv_icmp_lt (tgt := 153) hx hb dX5_act_125 (by decide) (fun _ => ?_) (fun q => absurd (show nI (1200 + a) < 1312 from nI_lt (b := 1312) (by omega) (by omega)) q)
  refine lv_iload hx hb dX5_act_153 (lv_at hl 0 rfl) ?_
  refine lv_sipush (v := 1200) hx hb dX5_act_155 (by decide) ?_
  refine lv_icmp_lt (tgt := 202) hx hb dX5_act_158 (by decide) (fun q => absurd q (show ¬ nI (1200 + a) < 1200 from nI_nlt (a := (1200 + a)) (b := 1200) (by omega) (by omega))) (fun _ => ?_)
  refine lv_aload_n hx hb dX5_act_161 rfl (lv_at hl 2 rfl) ?_
  refine lv_aload_n hx hb dX5_act_162 rfl (lv_at hl 2 rfl) ?_
  refine hr_get S hE hW h8 inX5 (C := RX5) (T := TX5) (N := 28) rfl 5 (by decide) q_f_5_25 rfl dX5_act_163 ?_
  refine lv_aload_n hx hb dX5_act_166 rfl (lv_at hl 2 rfl) ?_
  refine hr_get S hE hW h8 inX5 (C := RX5) (T := TX5) (N := 28) rfl 2 (by decide) q_f_5_16 rfl dX5_act_167 ?_
  refine lv_aload_n hx hb dX5_act_170 rfl (lv_at hl 2 rfl) ?_
  refine hr_get S hE hW h8 inX5 (C := RX5) (T := TX5) (N := 28) rfl 22 (by decide) q_f_5_65 rfl dX5_act_171 ?_
  refine lv_iload hx hb dX5_act_174 (lv_at hl 1 rfl) ?_
  refine hr_ialdk S hE hW h32 (j := Fs.length) rfl hFl (by decide) dX5_act_176 ?_
  rw [hF.1]
  refine lv_bipush (v := 10) hx hb dX5_act_177 (by decide) ?_
  refine lv_idiv hx hb dX5_act_179 (by decide) ?_
  rw [show nI bd / 10 = nI (bd / 10) from pk_div (d := 10) (by omega) (by omega) (by omega)]
  refine hr_ialdk S hE hW h_6 (j := (bd / 10)) rfl (by omega) (by decide) dX5_act_180 ?_
  rw [hpp]
  refine lv_bipush (v := 12) hx hb dX5_act_181 (by decide) ?_
  refine lv_imul hx hb dX5_act_183 ?_
  refine lv_iload hx hb dX5_act_184 (lv_at hl 0 rfl) ?_
  refine lv_iadd hx hb dX5_act_186 ?_
  refine lv_sipush (v := 1200) hx hb dX5_act_187 (by decide) ?_
  refine lv_isub hx hb dX5_act_190 ?_
  rw [sup_ix]
  refine hr_ialdk S hE hW h_7 (j := (pp * 12 + a)) rfl (by omega) (by decide) dX5_act_191 ?_
  rw [hch]
  refine lv_aload_n hx hb dX5_act_192 rfl (lv_at hl 2 rfl) ?_
  refine hc_i (va_runV (As := []) (rest := [.int (nI nb), .ref (ad 8)]) S (c_X5_pop l G ad _ hM (by omega)) (cwV 0 hts (gWSV q_l_5_112 q_im_X5_pop q_se_X5_pop q_in_5 q_co_X5_pop) rfl rfl rfl (by decide +kernel) ⟨Nat.le_of_ble_eq_true rfl, Nat.le_of_ble_eq_true rfl⟩) (hPreVw hE hS (hrecv hE hW h8 (q := (RX5, TX5, 28)) rfl) hW) rfl rfl hl.1 rfl (lv_room (Nat.le_of_ble_eq_true rfl)) dX5_act_193 ⟨Nat.le_of_ble_eq_true rfl, Nat.le_of_ble_eq_true rfl⟩) hS (fun rv_19 ct_17 H locs hp hW hS => ?_)
  obtain ⟨ev_20, hM, hag_18⟩ := hp
  rw [ev_20]
  have h_21 := (hag_18 10 (by omega)).trans h_4
  have h_22 := (hag_18 11 (by omega)).trans h_5
  have h_23 := (hag_18 12 (by omega)).trans h_6
  have h_24 := (hag_18 15 (by omega)).trans h_7
  have h_25 := (hag_18 18 (by omega)).trans h_8
  obtain ⟨fb, fa, fx, pl, h8, h19, h20, h29, h32, h33, h34, h35, hF, hL⟩ := id hM
  refine hc_v (va_runV (As := [.int (nI nb), .int y]) (rest := []) S (c_X5_enter l G ad _ hM h_22 hqb hbb hnb hst hFl1 y) (cwV 2 hts (gWSV q_l_5_108 q_im_X5_enter q_se_X5_enter q_in_5 q_co_X5_enter) rfl rfl rfl (by decide +kernel) ⟨Nat.le_of_ble_eq_true rfl, Nat.le_of_ble_eq_true rfl⟩) (hPreVw hE hS (hrecv hE hW h8 (q := (RX5, TX5, 28)) rfl) hW) rfl rfl hl.1 rfl (lv_room (Nat.le_of_ble_eq_true rfl)) dX5_act_196 ⟨Nat.le_of_ble_eq_true rfl, Nat.le_of_ble_eq_true rfl⟩) hS (fun ct_26 H locs hp hW hS => ?_)
  obtain ⟨hM, hag_27⟩ := hp
  have h_28 := (hag_27 10 (by omega)).trans h_21
  have h_29 := (hag_27 11 (by omega)).trans h_22
  have h_30 := (hag_27 12 (by omega)).trans h_23
  have h_31 := (hag_27 15 (by omega)).trans h_24
  have h_32 := (hag_27 18 (by omega)).trans h_25
  obtain ⟨fb, fa, fx, pl, h8, h19, h20, h29, h32, h33, h34, h35, hF, hL⟩ := id hM
  refine lv_goto (tgt := 259) hx hb dX5_act_199 (by decide) ?_
  refine lv_goto (tgt := 34) hx hb dX5_act_259 (by decide) ?_
  exact hnext _ _ _ _ hM (agM.trans (fun j hj => ((hag_27 j hj)).trans (((hag_18 j hj)).trans ((hg_3 j (by omega))))) hagc) hW hS (lv_sub hl [2, 3] rfl)
set_option maxRecDepth 100000 in
set_option maxHeartbeats 4000000 in
theorem it_do {p : Program} {l : Launch} {e : Env} {s : State} {m : MethodId} {args : Array Value} {below : List Frame} {meth : Method} {c : Code} {Q : State → Prop} {G : hG} {ad : Nat → Nat} {ct0 : Nat → Option va_E} {dn lk st0 : Int32} {i : Nat} {vv cv : Nat → Int32} {kdf : Nat → Int32} (S : CallFix p m c cX5_act 6 s args WS yX5_act.cls) (hE : gE G s) (hT : MTab G ct0 kdf) {bd at0 : Nat} {x : Int32} {Fs : List (Nat × Nat × Int32)} {P : List Int32} {q : St} (hFl : Fs.length < 100) (hat : at0 < 246) {y : Int32} {bb nb a0 : Nat} (hqb : q.2.2.1 = nI bb) (hbb : bb < 2 ^ 30) (hnb : nb < 210) (hst : staT nb = nI a0) (hFl1 : Fs.length + 1 < 100) (hPl : P.length < 300) {a kk : Nat} (ha : a < 12) (hi : i < 300) (hkk : kdf i = nI kk) (hk11 : kk < 11) (hch : choT ((10 + kk) * 12 + a) = nI nb) (hco : codT at0 = nI (1100 + a)) (hnext : HeadW p l e s m args below meth c Q G ad ct0 dn lk st0 i vv cv ((nb, a0, y) :: (bd, at0 + 1, x) :: Fs) P (bgS (nI nb) q)) : HeadW p l e s m args below meth c Q G ad ct0 dn lk st0 i vv cv ((bd, at0, x) :: Fs) (y :: P) q := by
  intro ct H locs ls hM hagc hW hS hl
  obtain ⟨hx, hb, hml, hown, hts⟩ := id S
  have h10 := (hagc 10 (by omega)).trans hT.1
  have h11 := (hagc 11 (by omega)).trans hT.2.1
  have h12 := (hagc 12 (by omega)).trans hT.2.2.1
  have h15 := (hagc 15 (by omega)).trans hT.2.2.2.1
  have h18 := (hagc 18 (by omega)).trans hT.2.2.2.2
  obtain ⟨fb, fa, fx, pl, h8, h19, h20, h29, h32, h33, h34, h35, hF, hL⟩ := id hM
  refine lv_aload_n hx hb dX5_act_34 rfl (lv_at hl 0 rfl) ?_
  refine hr_get S hE hW h8 inX5 (C := RX5) (T := TX5) (N := 28) rfl 26 (by decide) q_f_5_105 rfl dX5_act_35 ?_
  refine lv_if_le (tgt := 262) hx hb dX5_act_38 (by decide) (fun q => absurd q (nI_nle (Nat.succ_pos Fs.length) (show Fs.length + 1 < 2 ^ 31 by omega))) (fun _ => ?_)
  refine lv_aload_n hx hb dX5_act_41 rfl (lv_at hl 0 rfl) ?_
  refine hr_get S hE hW h8 inX5 (C := RX5) (T := TX5) (N := 28) rfl 26 (by decide) q_f_5_105 rfl dX5_act_42 ?_
  refine lv_iconst (v := 1) hx hb dX5_act_45 (by decide) ?_
  refine lv_isub hx hb dX5_act_46 ?_
  rw [show nI ((bd, at0, x) :: Fs).length - 1 = nI Fs.length from nI_pred _]
  refine lv_istore (lv' := [(4, .int (nI Fs.length)), (0, .ref (ad 8)), (1, .int (nI i))]) hx hb dX5_act_47 hl (by decide) rfl (fun ls hl => ?_)
  refine lv_aload_n hx hb dX5_act_49 rfl (lv_at hl 1 rfl) ?_
  refine hr_get S hE hW h8 inX5 (C := RX5) (T := TX5) (N := 28) rfl 0 (by decide) q_f_5_9 rfl dX5_act_50 ?_
  refine lv_aload_n hx hb dX5_act_53 rfl (lv_at hl 1 rfl) ?_
  refine hr_get S hE hW h8 inX5 (C := RX5) (T := TX5) (N := 28) rfl 23 (by decide) q_f_5_68 rfl dX5_act_54 ?_
  refine lv_iload hx hb dX5_act_57 (lv_at hl 0 rfl) ?_
  refine hr_ialdk S hE hW h33 (j := Fs.length) rfl hFl (by decide) dX5_act_59 ?_
  rw [hF.2.1]
  refine hr_ialdk S hE hW h10 (j := at0) rfl hat (by decide) dX5_act_60 ?_
  rw [hco]
  refine lv_istore (lv' := [(5, .int (nI (1100 + a))), (4, .int (nI Fs.length)), (0, .ref (ad 8)), (1, .int (nI i))]) hx hb dX5_act_61 hl (by decide) rfl (fun ls hl => ?_)
  refine lv_aload_n hx hb dX5_act_63 rfl (lv_at hl 2 rfl) ?_
  refine hr_get S hE hW h8 inX5 (C := RX5) (T := TX5) (N := 28) rfl 23 (by decide) q_f_5_68 rfl dX5_act_64 ?_
  refine lv_iload hx hb dX5_act_67 (lv_at hl 1 rfl) ?_
  refine lv_dup2_11 hx hb dX5_act_69 rfl rfl ?_
  refine hr_ialdk S hE hW h33 (j := Fs.length) rfl hFl (by decide) dX5_act_70 ?_
  rw [hF.2.1]
  refine lv_iconst (v := 1) hx hb dX5_act_71 (by decide) ?_
  refine lv_iadd hx hb dX5_act_72 ?_
  rw [nI_1]
  refine hr_iastk S hE hW hS h33 (j := Fs.length) rfl hFl (by decide) dX5_act_73 (fun H locs ct_1 hW hk_2 hg_3 hz hS => ?_)
  have h_4 := (hg_3 10 (by decide)).trans h10
  have h_5 := (hg_3 11 (by decide)).trans h11
  have h_6 := (hg_3 12 (by decide)).trans h12
  have h_7 := (hg_3 15 (by decide)).trans h15
  have h_8 := (hg_3 18 (by decide)).trans h18
  have h_9 := (hg_3 8 (by decide)).trans h8
  have h_10 := (hg_3 19 (by decide)).trans h19
  have h_11 := (hg_3 20 (by decide)).trans h20
  have h_12 := (hg_3 29 (by decide)).trans h29
  have h_13 := (hg_3 32 (by decide)).trans h32
  have h_14 := (hg_3 34 (by decide)).trans h34
  have h_15 := (hg_3 35 (by decide)).trans h35
  have h_16 : ct_1 33 = some (.inl (G.2.1.1, 100, .inl (upd fa Fs.length (nI (at0 + 1))))) := hk_2
  have hM : MC G ad ct_1 dn lk st0 i vv cv ((bd, at0 + 1, x) :: Fs) (y :: P) q := ⟨fb, _, fx, pl, h_9, h_10, h_11, h_12, h_13, h_16, h_14, h_15, FrRep_inc hF, hL⟩
  obtain ⟨fb, fa, fx, pl, h8, h19, h20, h29, h32, h33, h34, h35, hF, hL⟩ := id hM
  refine lv_iload hx hb dX5_act_74 (lv_at hl 0 rfl) ?_
  refine lv_sipush (v := 3000) hx hb dX5_act_76 (by decide) ?_
  refine lv_icmp_lt (tgt := 95) hx hb dX5_act_79 (by decide) (fun _ => ?_) (fun q => absurd (show nI (1100 + a) < 3000 from nI_lt (b := 3000) (by omega) (by omega)) q)
  refine lv_iload hx hb dX5_act_95 (lv_at hl 0 rfl) ?_
  refine lv_sipush (v := 2000) hx hb dX5_act_97 (by decide) ?_
  refine lv_icmp_lt (tgt := 120) hx hb dX5_act_100 (by decide) (fun _ => ?_) (fun q => absurd (show nI (1100 + a) < 2000 from nI_lt (b := 2000) (by omega) (by omega)) q)
  refine lv_iload hx hb dX5_act_120 (lv_at hl 0 rfl) ?_
  refine lv_sipush (v := 1312) hx hb dX5_act_122 (by decide) ?_
  refine lv_icmp_lt (tgt := 153) hx hb dX5_act_125 (by decide) (fun _ => ?_) (fun q => absurd (show nI (1100 + a) < 1312 from nI_lt (b := 1312) (by omega) (by omega)) q)
  refine lv_iload hx hb dX5_act_153 (lv_at hl 0 rfl) ?_
  refine lv_sipush (v := 1200) hx hb dX5_act_155 (by decide) ?_
  refine lv_icmp_lt (tgt := 202) hx hb dX5_act_158 (by decide) (fun _ => ?_) (fun q => absurd (show nI (1100 + a) < 1200 from nI_lt (b := 1200) (by omega) (by omega)) q)
  refine lv_iload hx hb dX5_act_202 (lv_at hl 0 rfl) ?_
  refine lv_sipush (v := 1100) hx hb dX5_act_204 (by decide) ?_
  refine lv_icmp_lt (tgt := 245) hx hb dX5_act_207 (by decide) (fun q => absurd q (show ¬ nI (1100 + a) < 1100 from nI_nlt (a := (1100 + a)) (b := 1100) (by omega) (by omega))) (fun _ => ?_)
  refine lv_aload_n hx hb dX5_act_210 rfl (lv_at hl 2 rfl) ?_
  refine lv_aload_n hx hb dX5_act_211 rfl (lv_at hl 2 rfl) ?_
  refine hr_get S hE hW h8 inX5 (C := RX5) (T := TX5) (N := 28) rfl 5 (by decide) q_f_5_25 rfl dX5_act_212 ?_
  refine lv_bipush (v := 10) hx hb dX5_act_215 (by decide) ?_
  refine lv_aload_n hx hb dX5_act_217 rfl (lv_at hl 2 rfl) ?_
  refine hr_get S hE hW h8 inX5 (C := RX5) (T := TX5) (N := 28) rfl 8 (by decide) q_f_5_34 rfl dX5_act_218 ?_
  refine lv_iload_n hx hb dX5_act_221 rfl (lv_at hl 3 rfl) ?_
  refine hr_ialdk S hE hW h_8 (j := i) rfl hi (by decide) dX5_act_222 ?_
  rw [hkk]
  refine lv_iadd hx hb dX5_act_223 ?_
  refine lv_bipush (v := 12) hx hb dX5_act_224 (by decide) ?_
  refine lv_imul hx hb dX5_act_226 ?_
  refine lv_iload hx hb dX5_act_227 (lv_at hl 0 rfl) ?_
  refine lv_iadd hx hb dX5_act_229 ?_
  refine lv_sipush (v := 1100) hx hb dX5_act_230 (by decide) ?_
  refine lv_isub hx hb dX5_act_233 ?_
  rw [do_ix]
  refine hr_ialdk S hE hW h_7 (j := ((10 + kk) * 12 + a)) rfl (by omega) (by decide) dX5_act_234 ?_
  rw [hch]
  refine lv_aload_n hx hb dX5_act_235 rfl (lv_at hl 2 rfl) ?_
  refine hc_i (va_runV (As := []) (rest := [.int (nI nb), .ref (ad 8)]) S (c_X5_pop l G ad _ hM (by omega)) (cwV 0 hts (gWSV q_l_5_112 q_im_X5_pop q_se_X5_pop q_in_5 q_co_X5_pop) rfl rfl rfl (by decide +kernel) ⟨Nat.le_of_ble_eq_true rfl, Nat.le_of_ble_eq_true rfl⟩) (hPreVw hE hS (hrecv hE hW h8 (q := (RX5, TX5, 28)) rfl) hW) rfl rfl hl.1 rfl (lv_room (Nat.le_of_ble_eq_true rfl)) dX5_act_236 ⟨Nat.le_of_ble_eq_true rfl, Nat.le_of_ble_eq_true rfl⟩) hS (fun rv_19 ct_17 H locs hp hW hS => ?_)
  obtain ⟨ev_20, hM, hag_18⟩ := hp
  rw [ev_20]
  have h_21 := (hag_18 10 (by omega)).trans h_4
  have h_22 := (hag_18 11 (by omega)).trans h_5
  have h_23 := (hag_18 12 (by omega)).trans h_6
  have h_24 := (hag_18 15 (by omega)).trans h_7
  have h_25 := (hag_18 18 (by omega)).trans h_8
  obtain ⟨fb, fa, fx, pl, h8, h19, h20, h29, h32, h33, h34, h35, hF, hL⟩ := id hM
  refine hc_v (va_runV (As := [.int (nI nb), .int y]) (rest := []) S (c_X5_enter l G ad _ hM h_22 hqb hbb hnb hst hFl1 y) (cwV 2 hts (gWSV q_l_5_108 q_im_X5_enter q_se_X5_enter q_in_5 q_co_X5_enter) rfl rfl rfl (by decide +kernel) ⟨Nat.le_of_ble_eq_true rfl, Nat.le_of_ble_eq_true rfl⟩) (hPreVw hE hS (hrecv hE hW h8 (q := (RX5, TX5, 28)) rfl) hW) rfl rfl hl.1 rfl (lv_room (Nat.le_of_ble_eq_true rfl)) dX5_act_239 ⟨Nat.le_of_ble_eq_true rfl, Nat.le_of_ble_eq_true rfl⟩) hS (fun ct_26 H locs hp hW hS => ?_)
  obtain ⟨hM, hag_27⟩ := hp
  have h_28 := (hag_27 10 (by omega)).trans h_21
  have h_29 := (hag_27 11 (by omega)).trans h_22
  have h_30 := (hag_27 12 (by omega)).trans h_23
  have h_31 := (hag_27 15 (by omega)).trans h_24
  have h_32 := (hag_27 18 (by omega)).trans h_25
  obtain ⟨fb, fa, fx, pl, h8, h19, h20, h29, h32, h33, h34, h35, hF, hL⟩ := id hM
  refine lv_goto (tgt := 259) hx hb dX5_act_242 (by decide) ?_
  refine lv_goto (tgt := 34) hx hb dX5_act_259 (by decide) ?_
  exact hnext _ _ _ _ hM (agM.trans (fun j hj => ((hag_27 j hj)).trans (((hag_18 j hj)).trans ((hg_3 j (by omega))))) hagc) hW hS (lv_sub hl [2, 3] rfl)
set_option maxRecDepth 100000 in
set_option maxHeartbeats 4000000 in
theorem it_step {p : Program} {l : Launch} {e : Env} {s : State} {m : MethodId} {args : Array Value} {below : List Frame} {meth : Method} {c : Code} {Q : State → Prop} {G : hG} {ad : Nat → Nat} {ct0 : Nat → Option va_E} {dn lk st0 : Int32} {i : Nat} {vv cv : Nat → Int32} {kdf : Nat → Int32} (S : CallFix p m c cX5_act 6 s args WS yX5_act.cls) (hE : gE G s) (hT : MTab G ct0 kdf) {bd at0 : Nat} {x : Int32} {Fs : List (Nat × Nat × Int32)} {P : List Int32} {q : St} (hFl : Fs.length < 100) (hat : at0 < 246) {o : Nat} (hco : codT at0 = nI o) (ho : o < 1100) {P2 : List Int32} {q2 : St} (hstep : ∀ ct : Nat → Option va_E, MC G ad ct dn lk st0 i vv cv ((bd, at0 + 1, x) :: Fs) P q → Met l yX5_step wzX5_step { frames := 1, cells := 0, slots := 0, locals := 21 } (hPw [.ref (ad 8), .int (nI i), .int (nI o), .int x] G ad ct) (hQv (fun ct1 => MC G ad ct1 dn lk st0 i vv cv ((bd, at0 + 1, x) :: Fs) P2 q2 ∧ agM ct1 ct) G ad) 0 0 (hA G.2.2.2)) (hnext : HeadW p l e s m args below meth c Q G ad ct0 dn lk st0 i vv cv ((bd, at0 + 1, x) :: Fs) P2 q2) : HeadW p l e s m args below meth c Q G ad ct0 dn lk st0 i vv cv ((bd, at0, x) :: Fs) P q := by
  intro ct H locs ls hM hagc hW hS hl
  obtain ⟨hx, hb, hml, hown, hts⟩ := id S
  have h10 := (hagc 10 (by omega)).trans hT.1
  have h11 := (hagc 11 (by omega)).trans hT.2.1
  have h12 := (hagc 12 (by omega)).trans hT.2.2.1
  have h15 := (hagc 15 (by omega)).trans hT.2.2.2.1
  have h18 := (hagc 18 (by omega)).trans hT.2.2.2.2
  obtain ⟨fb, fa, fx, pl, h8, h19, h20, h29, h32, h33, h34, h35, hF, hL⟩ := id hM
  refine lv_aload_n hx hb dX5_act_34 rfl (lv_at hl 0 rfl) ?_
  refine hr_get S hE hW h8 inX5 (C := RX5) (T := TX5) (N := 28) rfl 26 (by decide) q_f_5_105 rfl dX5_act_35 ?_
  refine lv_if_le (tgt := 262) hx hb dX5_act_38 (by decide) (fun q => absurd q (nI_nle (Nat.succ_pos Fs.length) (show Fs.length + 1 < 2 ^ 31 by omega))) (fun _ => ?_)
  refine lv_aload_n hx hb dX5_act_41 rfl (lv_at hl 0 rfl) ?_
  refine hr_get S hE hW h8 inX5 (C := RX5) (T := TX5) (N := 28) rfl 26 (by decide) q_f_5_105 rfl dX5_act_42 ?_
  refine lv_iconst (v := 1) hx hb dX5_act_45 (by decide) ?_
  refine lv_isub hx hb dX5_act_46 ?_
  rw [show nI ((bd, at0, x) :: Fs).length - 1 = nI Fs.length from nI_pred _]
  refine lv_istore (lv' := [(4, .int (nI Fs.length)), (0, .ref (ad 8)), (1, .int (nI i))]) hx hb dX5_act_47 hl (by decide) rfl (fun ls hl => ?_)
  refine lv_aload_n hx hb dX5_act_49 rfl (lv_at hl 1 rfl) ?_
  refine hr_get S hE hW h8 inX5 (C := RX5) (T := TX5) (N := 28) rfl 0 (by decide) q_f_5_9 rfl dX5_act_50 ?_
  refine lv_aload_n hx hb dX5_act_53 rfl (lv_at hl 1 rfl) ?_
  refine hr_get S hE hW h8 inX5 (C := RX5) (T := TX5) (N := 28) rfl 23 (by decide) q_f_5_68 rfl dX5_act_54 ?_
  refine lv_iload hx hb dX5_act_57 (lv_at hl 0 rfl) ?_
  refine hr_ialdk S hE hW h33 (j := Fs.length) rfl hFl (by decide) dX5_act_59 ?_
  rw [hF.2.1]
  refine hr_ialdk S hE hW h10 (j := at0) rfl hat (by decide) dX5_act_60 ?_
  rw [hco]
  refine lv_istore (lv' := [(5, .int (nI o)), (4, .int (nI Fs.length)), (0, .ref (ad 8)), (1, .int (nI i))]) hx hb dX5_act_61 hl (by decide) rfl (fun ls hl => ?_)
  refine lv_aload_n hx hb dX5_act_63 rfl (lv_at hl 2 rfl) ?_
  refine hr_get S hE hW h8 inX5 (C := RX5) (T := TX5) (N := 28) rfl 23 (by decide) q_f_5_68 rfl dX5_act_64 ?_
  refine lv_iload hx hb dX5_act_67 (lv_at hl 1 rfl) ?_
  refine lv_dup2_11 hx hb dX5_act_69 rfl rfl ?_
  refine hr_ialdk S hE hW h33 (j := Fs.length) rfl hFl (by decide) dX5_act_70 ?_
  rw [hF.2.1]
  refine lv_iconst (v := 1) hx hb dX5_act_71 (by decide) ?_
  refine lv_iadd hx hb dX5_act_72 ?_
  rw [nI_1]
  refine hr_iastk S hE hW hS h33 (j := Fs.length) rfl hFl (by decide) dX5_act_73 (fun H locs ct_1 hW hk_2 hg_3 hz hS => ?_)
  have h_4 := (hg_3 10 (by decide)).trans h10
  have h_5 := (hg_3 11 (by decide)).trans h11
  have h_6 := (hg_3 12 (by decide)).trans h12
  have h_7 := (hg_3 15 (by decide)).trans h15
  have h_8 := (hg_3 18 (by decide)).trans h18
  have h_9 := (hg_3 8 (by decide)).trans h8
  have h_10 := (hg_3 19 (by decide)).trans h19
  have h_11 := (hg_3 20 (by decide)).trans h20
  have h_12 := (hg_3 29 (by decide)).trans h29
  have h_13 := (hg_3 32 (by decide)).trans h32
  have h_14 := (hg_3 34 (by decide)).trans h34
  have h_15 := (hg_3 35 (by decide)).trans h35
  have h_16 : ct_1 33 = some (.inl (G.2.1.1, 100, .inl (upd fa Fs.length (nI (at0 + 1))))) := hk_2
  have hM : MC G ad ct_1 dn lk st0 i vv cv ((bd, at0 + 1, x) :: Fs) P q := ⟨fb, _, fx, pl, h_9, h_10, h_11, h_12, h_13, h_16, h_14, h_15, FrRep_inc hF, hL⟩
  obtain ⟨fb, fa, fx, pl, h8, h19, h20, h29, h32, h33, h34, h35, hF, hL⟩ := id hM
  refine lv_iload hx hb dX5_act_74 (lv_at hl 0 rfl) ?_
  refine lv_sipush (v := 3000) hx hb dX5_act_76 (by decide) ?_
  refine lv_icmp_lt (tgt := 95) hx hb dX5_act_79 (by decide) (fun _ => ?_) (fun q => absurd (show nI o < 3000 from nI_lt (b := 3000) (by omega) (by omega)) q)
  refine lv_iload hx hb dX5_act_95 (lv_at hl 0 rfl) ?_
  refine lv_sipush (v := 2000) hx hb dX5_act_97 (by decide) ?_
  refine lv_icmp_lt (tgt := 120) hx hb dX5_act_100 (by decide) (fun _ => ?_) (fun q => absurd (show nI o < 2000 from nI_lt (b := 2000) (by omega) (by omega)) q)
  refine lv_iload hx hb dX5_act_120 (lv_at hl 0 rfl) ?_
  refine lv_sipush (v := 1312) hx hb dX5_act_122 (by decide) ?_
  refine lv_icmp_lt (tgt := 153) hx hb dX5_act_125 (by decide) (fun _ => ?_) (fun q => absurd (show nI o < 1312 from nI_lt (b := 1312) (by omega) (by omega)) q)
  refine lv_iload hx hb dX5_act_153 (lv_at hl 0 rfl) ?_
  refine lv_sipush (v := 1200) hx hb dX5_act_155 (by decide) ?_
  refine lv_icmp_lt (tgt := 202) hx hb dX5_act_158 (by decide) (fun _ => ?_) (fun q => absurd (show nI o < 1200 from nI_lt (b := 1200) (by omega) (by omega)) q)
  refine lv_iload hx hb dX5_act_202 (lv_at hl 0 rfl) ?_
  refine lv_sipush (v := 1100) hx hb dX5_act_204 (by decide) ?_
  refine lv_icmp_lt (tgt := 245) hx hb dX5_act_207 (by decide) (fun _ => ?_) (fun q => absurd (show nI o < 1100 from nI_lt (b := 1100) (by omega) (by omega)) q)
  refine lv_aload_n hx hb dX5_act_245 rfl (lv_at hl 2 rfl) ?_
  refine lv_iload_n hx hb dX5_act_246 rfl (lv_at hl 3 rfl) ?_
  refine lv_iload hx hb dX5_act_247 (lv_at hl 0 rfl) ?_
  refine lv_aload_n hx hb dX5_act_249 rfl (lv_at hl 2 rfl) ?_
  refine hr_get S hE hW h8 inX5 (C := RX5) (T := TX5) (N := 28) rfl 24 (by decide) q_f_5_71 rfl dX5_act_250 ?_
  refine lv_iload hx hb dX5_act_253 (lv_at hl 1 rfl) ?_
  refine hr_ialdk S hE hW h34 (j := Fs.length) rfl hFl (by decide) dX5_act_255 ?_
  rw [hF.2.2.1]
  refine hc_v (va_runV (As := [.int (nI i), .int (nI o), .int x]) (rest := []) S (hstep _ hM) (cwV 3 hts (gWSV q_l_5_116 q_im_X5_step q_se_X5_step q_in_5 q_co_X5_step) rfl rfl rfl (by decide +kernel) ⟨Nat.le_of_ble_eq_true rfl, Nat.le_of_ble_eq_true rfl⟩) (hPreVw hE hS (hrecv hE hW h8 (q := (RX5, TX5, 28)) rfl) hW) rfl rfl hl.1 rfl (lv_room (Nat.le_of_ble_eq_true rfl)) dX5_act_256 ⟨Nat.le_of_ble_eq_true rfl, Nat.le_of_ble_eq_true rfl⟩) hS (fun ct_17 H locs hp hW hS => ?_)
  obtain ⟨hM, hag_18⟩ := hp
  have h_19 := (hag_18 10 (by omega)).trans h_4
  have h_20 := (hag_18 11 (by omega)).trans h_5
  have h_21 := (hag_18 12 (by omega)).trans h_6
  have h_22 := (hag_18 15 (by omega)).trans h_7
  have h_23 := (hag_18 18 (by omega)).trans h_8
  obtain ⟨fb, fa, fx, pl, h8, h19, h20, h29, h32, h33, h34, h35, hF, hL⟩ := id hM
  refine lv_goto (tgt := 34) hx hb dX5_act_259 (by decide) ?_
  exact hnext _ _ _ _ hM (agM.trans (fun j hj => ((hag_18 j hj)).trans ((hg_3 j (by omega)))) hagc) hW hS (lv_sub hl [2, 3] rfl)
