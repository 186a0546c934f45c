def agM (ct1 ct : Nat → Option va_E) : Prop := ∀ j, (j < 8 ∨ (8 < j ∧ j < 19) ∨ (20 < j ∧ j < 29) ∨ (29 < j ∧ j < 32) ∨ 35 < j) → ct1 j = ct j
theorem agM.trans {a b c : Nat → Option va_E} (h : agM a b) (g : agM b c) : agM a c := fun j hj => (h j hj).trans (g j hj)
theorem agM.rf {a : Nat → Option va_E} : agM a a := fun _ _ => rfl
theorem lt64 {x : Int32} {bb : Nat} (h : x = nI bb) (hb : bb < 2 ^ 31) (c : ¬ 64 ≤ x) : bb < 64 := Nat.not_le.mp (fun q => c (by rw [h]; exact nI_le (a := 64) q hb))
theorem bgF_lt {x v : Int32} {bb : Nat} {f : Nat → Int32} (h : x = nI bb) (hb : bb < 2 ^ 31) (c : ¬ 64 ≤ x) : bgF x f v = upd f bb v := by
  unfold bgF
  rw [if_neg c, h, if_neg (nI_pos hb), nI_clamp hb]
theorem bgF_ge {x v : Int32} {f : Nat → Int32} (c : 64 ≤ x) : bgF x f v = f := by
  unfold bgF
  rw [if_pos c]
  exact ite_self f
set_option maxRecDepth 100000 in
set_option maxHeartbeats 4000000 in
theorem c_X5_push (l : Launch) (G : hG) (ad : Nat → Nat) (ct : Nat → Option va_E) {dn lk st0 : Int32} {i : Nat} {vv cv : Nat → Int32} {Fs : List (Nat × Nat × Int32)} {P : List Int32} {q : St} (hM : MC G ad ct dn lk st0 i vv cv Fs P q) (hPl : P.length < 300) (x : Int32)  : Met l yX5_push wzX5_push { frames := 0, cells := 0, slots := 0, locals := 0 } (hPw [.ref (ad 8), .int x] G ad ct) (hQv (fun ct1 => MC G ad ct1 dn lk st0 i vv cv Fs (x :: P) q ∧ agM ct1 ct) G ad) 0 0 (hA G.2.2.2) := by
  refine hMetw (by decide) (Nat.le_of_ble_eq_true rfl) (fun p e s m below meth c ls S hr hlk hE hW hl => ?_)
  obtain ⟨hx, hb, hml, hown, hts⟩ := id S
  have hS : va_S (hA G.2.2.2) s.heap s.heap [] := va_S.rf
  have hl : lv_has ls 2 [(0, .ref (ad 8)), (1, .int x)] := hl
  obtain ⟨fb, fa, fx, pl, h8, h19, h20, h29, h32, h33, h34, h35, hF, hL⟩ := id hM
  refine lv_aload_n hx hb dX5_push_0 rfl (lv_at hl 0 rfl) ?_
  refine hr_get S hE hW h8 inX5 (C := RX5) (T := TX5) (N := 28) rfl 25 (by decide) q_f_5_74 rfl dX5_push_1 ?_
  refine lv_aload_n hx hb dX5_push_4 rfl (lv_at hl 0 rfl) ?_
  refine hr_get S hE hW h8 inX5 (C := RX5) (T := TX5) (N := 28) rfl 27 (by decide) q_f_5_98 rfl dX5_push_5 ?_
  refine lv_iload_n hx hb dX5_push_8 rfl (lv_at hl 1 rfl) ?_
  refine hr_iastk S hE hW hS h35 (j := P.length) rfl hPl (by decide) dX5_push_9 (fun H locs ct_1 hW hk_2 hg_3 hz hS => ?_)
  have h_4 := (hg_3 8 (by decide)).trans h8
  have h_5 := (hg_3 19 (by decide)).trans h19
  have h_6 := (hg_3 20 (by decide)).trans h20
  have h_7 := (hg_3 29 (by decide)).trans h29
  have h_8 := (hg_3 32 (by decide)).trans h32
  have h_9 := (hg_3 33 (by decide)).trans h33
  have h_10 := (hg_3 34 (by decide)).trans h34
  have h_11 : ct_1 35 = some (.inl (G.2.1.1, 300, .inl (upd pl P.length x))) := hk_2
  refine lv_aload_n hx hb dX5_push_10 rfl (lv_at hl 0 rfl) ?_
  refine lv_dup hx hb dX5_push_11 rfl ?_
  refine hr_get S hE hW h_4 inX5 (C := RX5) (T := TX5) (N := 28) rfl 27 (by decide) q_f_5_98 rfl dX5_push_12 ?_
  refine lv_iconst (v := 1) hx hb dX5_push_15 (by decide) ?_
  refine lv_iadd hx hb dX5_push_16 ?_
  rw [nI_1]
  refine hr_put S hE hW hS h_4 inX5 (C := RX5) (T := TX5) (N := 28) tyX5_ok nmX5 rfl 27 (by decide) q_f_5_98 rfl rfl rfl (Nat.le_of_ble_eq_true rfl) dX5_push_17 (fun H locs ct_12 hW hk_13 hg_14 hz hS => ?_)
  have h_15 := (hg_14 19 (by decide)).trans h_5
  have h_16 := (hg_14 20 (by decide)).trans h_6
  have h_17 := (hg_14 29 (by decide)).trans h_7
  have h_18 := (hg_14 32 (by decide)).trans h_8
  have h_19 := (hg_14 33 (by decide)).trans h_9
  have h_20 := (hg_14 34 (by decide)).trans h_10
  have h_21 := (hg_14 35 (by decide)).trans h_11
  have h_22 : ct_12 8 = some (.inr (5, [.ref (ad 10), .ref (ad 11), .ref (ad 12), .ref (ad 13), .ref (ad 14), .ref (ad 15), .ref (ad 16), .ref (ad 17), .ref (ad 18), .ref (ad 19), .ref (ad 20), .ref (ad 21), .int dn, .ref (ad 23), .ref (ad 24), .int lk, .ref (ad 26), .ref (ad 27), .ref (ad 28), .ref (ad 29), .int q.2.2.1, .int st0, .ref (ad 32), .ref (ad 33), .ref (ad 34), .ref (ad 35), .int (nI Fs.length), .int (nI (P.length + 1))])) := hk_13
  exact h_vret S hr hlk hS hW dX5_push_20 ⟨⟨fb, fa, fx, upd pl P.length x, h_22, h_15, h_16, h_17, h_18, h_19, h_20, h_21, hF, PlRep_push hL⟩, (fun j hj => ((hg_14 j (by omega))).trans ((hg_3 j (by omega))))⟩
set_option maxRecDepth 100000 in
set_option maxHeartbeats 4000000 in
theorem c_X5_pop (l : Launch) (G : hG) (ad : Nat → Nat) (ct : Nat → Option va_E) {dn lk st0 : Int32} {i : Nat} {vv cv : Nat → Int32} {Fs : List (Nat × Nat × Int32)} {P : List Int32} {q : St} {y : Int32} (hM : MC G ad ct dn lk st0 i vv cv Fs (y :: P) q) (hPl : P.length < 300)  : Met l yX5_pop wzX5_pop { frames := 0, cells := 0, slots := 0, locals := 0 } (hPw [.ref (ad 8)] G ad ct) (hQi (fun r ct1 => r = y ∧ MC G ad ct1 dn lk st0 i vv cv Fs P q ∧ agM ct1 ct) G ad) 0 0 (hA G.2.2.2) := by
  refine hMetw (by decide) (Nat.le_of_ble_eq_true rfl) (fun p e s m below meth c ls S hr hlk hE hW hl => ?_)
  obtain ⟨hx, hb, hml, hown, hts⟩ := id S
  have hS : va_S (hA G.2.2.2) s.heap s.heap [] := va_S.rf
  have hl : lv_has ls 1 [(0, .ref (ad 8))] := hl
  obtain ⟨fb, fa, fx, pl, h8, h19, h20, h29, h32, h33, h34, h35, hF, hL⟩ := id hM
  refine lv_aload_n hx hb dX5_pop_0 rfl (lv_at hl 0 rfl) ?_
  refine lv_dup hx hb dX5_pop_1 rfl ?_
  refine hr_get S hE hW h8 inX5 (C := RX5) (T := TX5) (N := 28) rfl 27 (by decide) q_f_5_98 rfl dX5_pop_2 ?_
  refine lv_iconst (v := 1) hx hb dX5_pop_5 (by decide) ?_
  refine lv_isub hx hb dX5_pop_6 ?_
  rw [show nI (y :: P).length - 1 = nI P.length from nI_pred _]
  refine hr_put S hE hW hS h8 inX5 (C := RX5) (T := TX5) (N := 28) tyX5_ok nmX5 rfl 27 (by decide) q_f_5_98 rfl rfl rfl (Nat.le_of_ble_eq_true rfl) dX5_pop_7 (fun H locs ct_1 hW hk_2 hg_3 hz hS => ?_)
  have h_4 := (hg_3 19 (by decide)).trans h19
  have h_5 := (hg_3 20 (by decide)).trans h20
  have h_6 := (hg_3 29 (by decide)).trans h29
  have h_7 := (hg_3 32 (by decide)).trans h32
  have h_8 := (hg_3 33 (by decide)).trans h33
  have h_9 := (hg_3 34 (by decide)).trans h34
  have h_10 := (hg_3 35 (by decide)).trans h35
  have h_11 : ct_1 8 = some (.inr (5, [.ref (ad 10), .ref (ad 11), .ref (ad 12), .ref (ad 13), .ref (ad 14), .ref (ad 15), .ref (ad 16), .ref (ad 17), .ref (ad 18), .ref (ad 19), .ref (ad 20), .ref (ad 21), .int dn, .ref (ad 23), .ref (ad 24), .int lk, .ref (ad 26), .ref (ad 27), .ref (ad 28), .ref (ad 29), .int q.2.2.1, .int st0, .ref (ad 32), .ref (ad 33), .ref (ad 34), .ref (ad 35), .int (nI Fs.length), .int (nI P.length)])) := hk_2
  refine lv_aload_n hx hb dX5_pop_10 rfl (lv_at hl 0 rfl) ?_
  refine hr_get S hE hW h_11 inX5 (C := RX5) (T := TX5) (N := 28) rfl 25 (by decide) q_f_5_74 rfl dX5_pop_11 ?_
  refine lv_aload_n hx hb dX5_pop_14 rfl (lv_at hl 0 rfl) ?_
  refine hr_get S hE hW h_11 inX5 (C := RX5) (T := TX5) (N := 28) rfl 27 (by decide) q_f_5_98 rfl dX5_pop_15 ?_
  refine hr_ialdk S hE hW h_10 (j := P.length) rfl hPl (by decide) dX5_pop_18 ?_
  exact h_iret S hr hlk hS hW dX5_pop_19 ⟨hL.1, ⟨fb, fa, fx, pl, h_11, h_4, h_5, h_6, h_7, h_8, h_9, h_10, hF, hL.2⟩, (fun j hj => (hg_3 j (by omega)))⟩
set_option maxRecDepth 100000 in
set_option maxHeartbeats 4000000 in
theorem c_X5_enter (l : Launch) (G : hG) (ad : Nat → Nat) (ct : Nat → Option va_E) {dn lk st0 : Int32} {i : Nat} {vv cv : Nat → Int32} {Fs : List (Nat × Nat × Int32)} {P : List Int32} {q : St} (hM : MC G ad ct dn lk st0 i vv cv Fs P q) (h11 : ct 11 = some (.inl (G.2.1.1, 210, .inl staT))) {bb bd a0 : Nat} (hqb : q.2.2.1 = nI bb) (hbb : bb < 2 ^ 30) (hbd : bd < 210) (hst : staT bd = nI a0) (hFl : Fs.length < 100) (x : Int32)  : Met l yX5_enter wzX5_enter { frames := 0, cells := 0, slots := 0, locals := 0 } (hPw [.ref (ad 8), .int (nI bd), .int x] G ad ct) (hQv (fun ct1 => MC G ad ct1 dn lk st0 i vv cv ((bd, a0, x) :: Fs) P (bgS (nI bd) q) ∧ agM ct1 ct) G ad) 0 0 (hA G.2.2.2) := by
  refine hMetw (by decide) (Nat.le_of_ble_eq_true rfl) (fun p e s m below meth c ls S hr hlk hE hW hl => ?_)
  obtain ⟨hx, hb, hml, hown, hts⟩ := id S
  have hS : va_S (hA G.2.2.2) s.heap s.heap [] := va_S.rf
  have hl : lv_has ls 3 [(0, .ref (ad 8)), (1, .int (nI bd)), (2, .int x)] := hl
  obtain ⟨fb, fa, fx, pl, h8, h19, h20, h29, h32, h33, h34, h35, hF, hL⟩ := id hM
  refine lv_aload_n hx hb dX5_enter_0 rfl (lv_at hl 0 rfl) ?_
  refine hr_get S hE hW h8 inX5 (C := RX5) (T := TX5) (N := 28) rfl 20 (by decide) q_f_5_102 rfl dX5_enter_1 ?_
  refine lv_bipush (v := 64) hx hb dX5_enter_4 (by decide) ?_
  refine lv_icmp_ge (tgt := 19) hx hb dX5_enter_6 (by decide) (fun c_6 => ?_) (fun c_6 => ?_)
  · refine lv_aload_n hx hb dX5_enter_19 rfl (lv_at hl 0 rfl) ?_
    refine lv_dup hx hb dX5_enter_20 rfl ?_
    refine hr_get S hE hW h8 inX5 (C := RX5) (T := TX5) (N := 28) rfl 20 (by decide) q_f_5_102 rfl dX5_enter_21 ?_
    refine lv_iconst (v := 1) hx hb dX5_enter_24 (by decide) ?_
    refine lv_iadd hx hb dX5_enter_25 ?_
    refine hr_put S hE hW hS h8 inX5 (C := RX5) (T := TX5) (N := 28) tyX5_ok nmX5 rfl 20 (by decide) q_f_5_102 rfl rfl rfl (Nat.le_of_ble_eq_true rfl) dX5_enter_26 (fun H locs ct_1 hW hk_2 hg_3 hz hS => ?_)
    have h_4 := (hg_3 11 (by decide)).trans h11
    have h_5 := (hg_3 19 (by decide)).trans h19
    have h_6 := (hg_3 20 (by decide)).trans h20
    have h_7 := (hg_3 29 (by decide)).trans h29
    have h_8 := (hg_3 32 (by decide)).trans h32
    have h_9 := (hg_3 33 (by decide)).trans h33
    have h_10 := (hg_3 34 (by decide)).trans h34
    have h_11 := (hg_3 35 (by decide)).trans h35
    have h_12 : ct_1 8 = some (.inr (5, [.ref (ad 10), .ref (ad 11), .ref (ad 12), .ref (ad 13), .ref (ad 14), .ref (ad 15), .ref (ad 16), .ref (ad 17), .ref (ad 18), .ref (ad 19), .ref (ad 20), .ref (ad 21), .int dn, .ref (ad 23), .ref (ad 24), .int lk, .ref (ad 26), .ref (ad 27), .ref (ad 28), .ref (ad 29), .int (q.2.2.1 + 1), .int st0, .ref (ad 32), .ref (ad 33), .ref (ad 34), .ref (ad 35), .int (nI Fs.length), .int (nI P.length)])) := hk_2
    refine lv_aload_n hx hb dX5_enter_29 rfl (lv_at hl 0 rfl) ?_
    refine hr_get S hE hW h_12 inX5 (C := RX5) (T := TX5) (N := 28) rfl 22 (by decide) q_f_5_65 rfl dX5_enter_30 ?_
    refine lv_aload_n hx hb dX5_enter_33 rfl (lv_at hl 0 rfl) ?_
    refine hr_get S hE hW h_12 inX5 (C := RX5) (T := TX5) (N := 28) rfl 26 (by decide) q_f_5_105 rfl dX5_enter_34 ?_
    refine lv_iload_n hx hb dX5_enter_37 rfl (lv_at hl 1 rfl) ?_
    refine hr_iastk S hE hW hS h_8 (j := Fs.length) rfl hFl (by decide) dX5_enter_38 (fun H locs ct_13 hW hk_14 hg_15 hz hS => ?_)
    have h_16 := (hg_15 11 (by decide)).trans h_4
    have h_17 := (hg_15 19 (by decide)).trans h_5
    have h_18 := (hg_15 20 (by decide)).trans h_6
    have h_19 := (hg_15 29 (by decide)).trans h_7
    have h_20 := (hg_15 33 (by decide)).trans h_9
    have h_21 := (hg_15 34 (by decide)).trans h_10
    have h_22 := (hg_15 35 (by decide)).trans h_11
    have h_23 := (hg_15 8 (by decide)).trans h_12
    have h_24 : ct_13 32 = some (.inl (G.2.1.1, 100, .inl (upd fb Fs.length (nI bd)))) := hk_14
    refine lv_aload_n hx hb dX5_enter_39 rfl (lv_at hl 0 rfl) ?_
    refine hr_get S hE hW h_23 inX5 (C := RX5) (T := TX5) (N := 28) rfl 23 (by decide) q_f_5_68 rfl dX5_enter_40 ?_
    refine lv_aload_n hx hb dX5_enter_43 rfl (lv_at hl 0 rfl) ?_
    refine hr_get S hE hW h_23 inX5 (C := RX5) (T := TX5) (N := 28) rfl 26 (by decide) q_f_5_105 rfl dX5_enter_44 ?_
    refine lv_aload_n hx hb dX5_enter_47 rfl (lv_at hl 0 rfl) ?_
    refine hr_get S hE hW h_23 inX5 (C := RX5) (T := TX5) (N := 28) rfl 1 (by decide) q_f_5_13 rfl dX5_enter_48 ?_
    refine lv_iload_n hx hb dX5_enter_51 rfl (lv_at hl 1 rfl) ?_
    refine hr_ialdk S hE hW h_16 (j := bd) rfl (by omega) (by decide) dX5_enter_52 ?_
    rw [hst]
    refine hr_iastk S hE hW hS h_20 (j := Fs.length) rfl hFl (by decide) dX5_enter_53 (fun H locs ct_25 hW hk_26 hg_27 hz hS => ?_)
    have h_28 := (hg_27 11 (by decide)).trans h_16
    have h_29 := (hg_27 19 (by decide)).trans h_17
    have h_30 := (hg_27 20 (by decide)).trans h_18
    have h_31 := (hg_27 29 (by decide)).trans h_19
    have h_32 := (hg_27 34 (by decide)).trans h_21
    have h_33 := (hg_27 35 (by decide)).trans h_22
    have h_34 := (hg_27 8 (by decide)).trans h_23
    have h_35 := (hg_27 32 (by decide)).trans h_24
    have h_36 : ct_25 33 = some (.inl (G.2.1.1, 100, .inl (upd fa Fs.length (nI a0)))) := hk_26
    refine lv_aload_n hx hb dX5_enter_54 rfl (lv_at hl 0 rfl) ?_
    refine hr_get S hE hW h_34 inX5 (C := RX5) (T := TX5) (N := 28) rfl 24 (by decide) q_f_5_71 rfl dX5_enter_55 ?_
    refine lv_aload_n hx hb dX5_enter_58 rfl (lv_at hl 0 rfl) ?_
    refine hr_get S hE hW h_34 inX5 (C := RX5) (T := TX5) (N := 28) rfl 26 (by decide) q_f_5_105 rfl dX5_enter_59 ?_
    refine lv_iload_n hx hb dX5_enter_62 rfl (lv_at hl 2 rfl) ?_
    refine hr_iastk S hE hW hS h_32 (j := Fs.length) rfl hFl (by decide) dX5_enter_63 (fun H locs ct_37 hW hk_38 hg_39 hz hS => ?_)
    have h_40 := (hg_39 11 (by decide)).trans h_28
    have h_41 := (hg_39 19 (by decide)).trans h_29
    have h_42 := (hg_39 20 (by decide)).trans h_30
    have h_43 := (hg_39 29 (by decide)).trans h_31
    have h_44 := (hg_39 35 (by decide)).trans h_33
    have h_45 := (hg_39 8 (by decide)).trans h_34
    have h_46 := (hg_39 32 (by decide)).trans h_35
    have h_47 := (hg_39 33 (by decide)).trans h_36
    have h_48 : ct_37 34 = some (.inl (G.2.1.1, 100, .inl (upd fx Fs.length x))) := hk_38
    refine lv_aload_n hx hb dX5_enter_64 rfl (lv_at hl 0 rfl) ?_
    refine lv_dup hx hb dX5_enter_65 rfl ?_
    refine hr_get S hE hW h_45 inX5 (C := RX5) (T := TX5) (N := 28) rfl 26 (by decide) q_f_5_105 rfl dX5_enter_66 ?_
    refine lv_iconst (v := 1) hx hb dX5_enter_69 (by decide) ?_
    refine lv_iadd hx hb dX5_enter_70 ?_
    rw [nI_1]
    refine hr_put S hE hW hS h_45 inX5 (C := RX5) (T := TX5) (N := 28) tyX5_ok nmX5 rfl 26 (by decide) q_f_5_105 rfl rfl rfl (Nat.le_of_ble_eq_true rfl) dX5_enter_71 (fun H locs ct_49 hW hk_50 hg_51 hz hS => ?_)
    have h_52 := (hg_51 11 (by decide)).trans h_40
    have h_53 := (hg_51 19 (by decide)).trans h_41
    have h_54 := (hg_51 20 (by decide)).trans h_42
    have h_55 := (hg_51 29 (by decide)).trans h_43
    have h_56 := (hg_51 35 (by decide)).trans h_44
    have h_57 := (hg_51 32 (by decide)).trans h_46
    have h_58 := (hg_51 33 (by decide)).trans h_47
    have h_59 := (hg_51 34 (by decide)).trans h_48
    have h_60 : ct_49 8 = some (.inr (5, [.ref (ad 10), .ref (ad 11), .ref (ad 12), .ref (ad 13), .ref (ad 14), .ref (ad 15), .ref (ad 16), .ref (ad 17), .ref (ad 18), .ref (ad 19), .ref (ad 20), .ref (ad 21), .int dn, .ref (ad 23), .ref (ad 24), .int lk, .ref (ad 26), .ref (ad 27), .ref (ad 28), .ref (ad 29), .int (q.2.2.1 + 1), .int st0, .ref (ad 32), .ref (ad 33), .ref (ad 34), .ref (ad 35), .int (nI (Fs.length + 1)), .int (nI P.length)])) := hk_50
    exact h_vret S hr hlk hS hW dX5_enter_74 ⟨⟨_, _, _, pl, h_60, h_53, h_54, (by rw [show (bgS (nI bd) q).2.2.2 = q.2.2.2 from bgF_ge c_6]; exact h_55), h_57, h_58, h_59, h_56, FrRep_push hF, hL⟩, (fun j hj => ((hg_51 j (by omega))).trans (((hg_39 j (by omega))).trans (((hg_27 j (by omega))).trans (((hg_15 j (by omega))).trans ((hg_3 j (by omega)))))))⟩
  · refine lv_aload_n hx hb dX5_enter_9 rfl (lv_at hl 0 rfl) ?_
    refine hr_get S hE hW h8 inX5 (C := RX5) (T := TX5) (N := 28) rfl 19 (by decide) q_f_5_62 rfl dX5_enter_10 ?_
    refine lv_aload_n hx hb dX5_enter_13 rfl (lv_at hl 0 rfl) ?_
    refine hr_get S hE hW h8 inX5 (C := RX5) (T := TX5) (N := 28) rfl 20 (by decide) q_f_5_102 rfl dX5_enter_14 ?_
    refine lv_iload_n hx hb dX5_enter_17 rfl (lv_at hl 1 rfl) ?_
    refine hr_iastk S hE hW hS h29 (j := bb) hqb (lt64 hqb (by omega) c_6) (by decide) dX5_enter_18 (fun H locs ct_61 hW hk_62 hg_63 hz hS => ?_)
    have h_64 := (hg_63 11 (by decide)).trans h11
    have h_65 := (hg_63 8 (by decide)).trans h8
    have h_66 := (hg_63 19 (by decide)).trans h19
    have h_67 := (hg_63 20 (by decide)).trans h20
    have h_68 := (hg_63 32 (by decide)).trans h32
    have h_69 := (hg_63 33 (by decide)).trans h33
    have h_70 := (hg_63 34 (by decide)).trans h34
    have h_71 := (hg_63 35 (by decide)).trans h35
    have h_72 : ct_61 29 = some (.inl (G.2.1.1, 64, .inl (upd q.2.2.2 bb (nI bd)))) := hk_62
    refine lv_aload_n hx hb dX5_enter_19 rfl (lv_at hl 0 rfl) ?_
    refine lv_dup hx hb dX5_enter_20 rfl ?_
    refine hr_get S hE hW h_65 inX5 (C := RX5) (T := TX5) (N := 28) rfl 20 (by decide) q_f_5_102 rfl dX5_enter_21 ?_
    refine lv_iconst (v := 1) hx hb dX5_enter_24 (by decide) ?_
    refine lv_iadd hx hb dX5_enter_25 ?_
    refine hr_put S hE hW hS h_65 inX5 (C := RX5) (T := TX5) (N := 28) tyX5_ok nmX5 rfl 20 (by decide) q_f_5_102 rfl rfl rfl (Nat.le_of_ble_eq_true rfl) dX5_enter_26 (fun H locs ct_73 hW hk_74 hg_75 hz hS => ?_)
    have h_76 := (hg_75 11 (by decide)).trans h_64
    have h_77 := (hg_75 19 (by decide)).trans h_66
    have h_78 := (hg_75 20 (by decide)).trans h_67
    have h_79 := (hg_75 32 (by decide)).trans h_68
    have h_80 := (hg_75 33 (by decide)).trans h_69
    have h_81 := (hg_75 34 (by decide)).trans h_70
    have h_82 := (hg_75 35 (by decide)).trans h_71
    have h_83 := (hg_75 29 (by decide)).trans h_72
    have h_84 : ct_73 8 = some (.inr (5, [.ref (ad 10), .ref (ad 11), .ref (ad 12), .ref (ad 13), .ref (ad 14), .ref (ad 15), .ref (ad 16), .ref (ad 17), .ref (ad 18), .ref (ad 19), .ref (ad 20), .ref (ad 21), .int dn, .ref (ad 23), .ref (ad 24), .int lk, .ref (ad 26), .ref (ad 27), .ref (ad 28), .ref (ad 29), .int (q.2.2.1 + 1), .int st0, .ref (ad 32), .ref (ad 33), .ref (ad 34), .ref (ad 35), .int (nI Fs.length), .int (nI P.length)])) := hk_74
    refine lv_aload_n hx hb dX5_enter_29 rfl (lv_at hl 0 rfl) ?_
    refine hr_get S hE hW h_84 inX5 (C := RX5) (T := TX5) (N := 28) rfl 22 (by decide) q_f_5_65 rfl dX5_enter_30 ?_
    refine lv_aload_n hx hb dX5_enter_33 rfl (lv_at hl 0 rfl) ?_
    refine hr_get S hE hW h_84 inX5 (C := RX5) (T := TX5) (N := 28) rfl 26 (by decide) q_f_5_105 rfl dX5_enter_34 ?_
    refine lv_iload_n hx hb dX5_enter_37 rfl (lv_at hl 1 rfl) ?_
    refine hr_iastk S hE hW hS h_79 (j := Fs.length) rfl hFl (by decide) dX5_enter_38 (fun H locs ct_85 hW hk_86 hg_87 hz hS => ?_)
    have h_88 := (hg_87 11 (by decide)).trans h_76
    have h_89 := (hg_87 19 (by decide)).trans h_77
    have h_90 := (hg_87 20 (by decide)).trans h_78
    have h_91 := (hg_87 33 (by decide)).trans h_80
    have h_92 := (hg_87 34 (by decide)).trans h_81
    have h_93 := (hg_87 35 (by decide)).trans h_82
    have h_94 := (hg_87 29 (by decide)).trans h_83
    have h_95 := (hg_87 8 (by decide)).trans h_84
    have h_96 : ct_85 32 = some (.inl (G.2.1.1, 100, .inl (upd fb Fs.length (nI bd)))) := hk_86
    refine lv_aload_n hx hb dX5_enter_39 rfl (lv_at hl 0 rfl) ?_
    refine hr_get S hE hW h_95 inX5 (C := RX5) (T := TX5) (N := 28) rfl 23 (by decide) q_f_5_68 rfl dX5_enter_40 ?_
    refine lv_aload_n hx hb dX5_enter_43 rfl (lv_at hl 0 rfl) ?_
    refine hr_get S hE hW h_95 inX5 (C := RX5) (T := TX5) (N := 28) rfl 26 (by decide) q_f_5_105 rfl dX5_enter_44 ?_
    refine lv_aload_n hx hb dX5_enter_47 rfl (lv_at hl 0 rfl) ?_
    refine hr_get S hE hW h_95 inX5 (C := RX5) (T := TX5) (N := 28) rfl 1 (by decide) q_f_5_13 rfl dX5_enter_48 ?_
    refine lv_iload_n hx hb dX5_enter_51 rfl (lv_at hl 1 rfl) ?_
    refine hr_ialdk S hE hW h_88 (j := bd) rfl (by omega) (by decide) dX5_enter_52 ?_
    rw [hst]
    refine hr_iastk S hE hW hS h_91 (j := Fs.length) rfl hFl (by decide) dX5_enter_53 (fun H locs ct_97 hW hk_98 hg_99 hz hS => ?_)
    have h_100 := (hg_99 11 (by decide)).trans h_88
    have h_101 := (hg_99 19 (by decide)).trans h_89
    have h_102 := (hg_99 20 (by decide)).trans h_90
    have h_103 := (hg_99 34 (by decide)).trans h_92
    have h_104 := (hg_99 35 (by decide)).trans h_93
    have h_105 := (hg_99 29 (by decide)).trans h_94
    have h_106 := (hg_99 8 (by decide)).trans h_95
    have h_107 := (hg_99 32 (by decide)).trans h_96
    have h_108 : ct_97 33 = some (.inl (G.2.1.1, 100, .inl (upd fa Fs.length (nI a0)))) := hk_98
    refine lv_aload_n hx hb dX5_enter_54 rfl (lv_at hl 0 rfl) ?_
    refine hr_get S hE hW h_106 inX5 (C := RX5) (T := TX5) (N := 28) rfl 24 (by decide) q_f_5_71 rfl dX5_enter_55 ?_
    refine lv_aload_n hx hb dX5_enter_58 rfl (lv_at hl 0 rfl) ?_
    refine hr_get S hE hW h_106 inX5 (C := RX5) (T := TX5) (N := 28) rfl 26 (by decide) q_f_5_105 rfl dX5_enter_59 ?_
    refine lv_iload_n hx hb dX5_enter_62 rfl (lv_at hl 2 rfl) ?_
    refine hr_iastk S hE hW hS h_103 (j := Fs.length) rfl hFl (by decide) dX5_enter_63 (fun H locs ct_109 hW hk_110 hg_111 hz hS => ?_)
    have h_112 := (hg_111 11 (by decide)).trans h_100
    have h_113 := (hg_111 19 (by decide)).trans h_101
    have h_114 := (hg_111 20 (by decide)).trans h_102
    have h_115 := (hg_111 35 (by decide)).trans h_104
    have h_116 := (hg_111 29 (by decide)).trans h_105
    have h_117 := (hg_111 8 (by decide)).trans h_106
    have h_118 := (hg_111 32 (by decide)).trans h_107
    have h_119 := (hg_111 33 (by decide)).trans h_108
    have h_120 : ct_109 34 = some (.inl (G.2.1.1, 100, .inl (upd fx Fs.length x))) := hk_110
    refine lv_aload_n hx hb dX5_enter_64 rfl (lv_at hl 0 rfl) ?_
    refine lv_dup hx hb dX5_enter_65 rfl ?_
    refine hr_get S hE hW h_117 inX5 (C := RX5) (T := TX5) (N := 28) rfl 26 (by decide) q_f_5_105 rfl dX5_enter_66 ?_
    refine lv_iconst (v := 1) hx hb dX5_enter_69 (by decide) ?_
    refine lv_iadd hx hb dX5_enter_70 ?_
    rw [nI_1]
    refine hr_put S hE hW hS h_117 inX5 (C := RX5) (T := TX5) (N := 28) tyX5_ok nmX5 rfl 26 (by decide) q_f_5_105 rfl rfl rfl (Nat.le_of_ble_eq_true rfl) dX5_enter_71 (fun H locs ct_121 hW hk_122 hg_123 hz hS => ?_)
    have h_124 := (hg_123 11 (by decide)).trans h_112
    have h_125 := (hg_123 19 (by decide)).trans h_113
    have h_126 := (hg_123 20 (by decide)).trans h_114
    have h_127 := (hg_123 35 (by decide)).trans h_115
    have h_128 := (hg_123 29 (by decide)).trans h_116
    have h_129 := (hg_123 32 (by decide)).trans h_118
    have h_130 := (hg_123 33 (by decide)).trans h_119
    have h_131 := (hg_123 34 (by decide)).trans h_120
    have h_132 : ct_121 8 = some (.inr (5, [.ref (ad 10), .ref (ad 11), .ref (ad 12), .ref (ad 13), .ref (ad 14), .ref (ad 15), .ref (ad 16), .ref (ad 17), .ref (ad 18), .ref (ad 19), .ref (ad 20), .ref (ad 21), .int dn, .ref (ad 23), .ref (ad 24), .int lk, .ref (ad 26), .ref (ad 27), .ref (ad 28), .ref (ad 29), .int (q.2.2.1 + 1), .int st0, .ref (ad 32), .ref (ad 33), .ref (ad 34), .ref (ad 35), .int (nI (Fs.length + 1)), .int (nI P.length)])) := hk_122
    exact h_vret S hr hlk hS hW dX5_enter_74 ⟨⟨_, _, _, pl, h_132, h_125, h_126, (by rw [show (bgS (nI bd) q).2.2.2 = upd q.2.2.2 bb (nI bd) from bgF_lt hqb (by omega) c_6]; exact h_128), h_129, h_130, h_131, h_127, FrRep_push hF, hL⟩, (fun j hj => ((hg_123 j (by omega))).trans (((hg_111 j (by omega))).trans (((hg_99 j (by omega))).trans (((hg_87 j (by omega))).trans (((hg_75 j (by omega))).trans ((hg_63 j (by omega))))))))⟩
set_option maxRecDepth 100000 in
set_option maxHeartbeats 4000000 in
theorem c_X5_step_c (l : Launch) (G : hG) (ad : Nat → Nat) (ct : Nat → Option va_E) {dn lk st0 : Int32} {i : Nat} {vv cv : Nat → Int32} {Fs : List (Nat × Nat × Int32)} {P : List Int32} {q : St} (hM : MC G ad ct dn lk st0 i vv cv Fs P q) {o : Nat} (ho : o < 1000) (hPl : P.length < 300) (x : Int32)  : Met l yX5_step wzX5_step { frames := 1, cells := 0, slots := 0, locals := 21 } (hPw [.ref (ad 8), .int (nI i), .int (nI o), .int x] G ad ct) (hQv (fun ct1 => MC G ad ct1 dn lk st0 i vv cv Fs (nI o :: P) q ∧ agM ct1 ct) G ad) 0 0 (hA G.2.2.2) := by
  refine hMetw (by decide) (Nat.le_of_ble_eq_true rfl) (fun p e s m below meth c ls S hr hlk hE hW hl => ?_)
  obtain ⟨hx, hb, hml, hown, hts⟩ := id S
  have hS : va_S (hA G.2.2.2) s.heap s.heap [] := va_S.rf
  have hl : lv_has ls 6 [(0, .ref (ad 8)), (1, .int (nI i)), (2, .int (nI o)), (3, .int x)] := hl
  obtain ⟨fb, fa, fx, pl, h8, h19, h20, h29, h32, h33, h34, h35, hF, hL⟩ := id hM
  refine lv_iload_n hx hb dX5_step_0 rfl (lv_at hl 2 rfl) ?_
  refine lv_sipush (v := 1000) hx hb dX5_step_1 (by decide) ?_
  refine lv_icmp_ge (tgt := 13) hx hb dX5_step_4 (by decide) (fun q => absurd q (nI_ge (b := 1000) ho (by omega))) (fun _ => ?_)
  refine lv_aload_n hx hb dX5_step_7 rfl (lv_at hl 0 rfl) ?_
  refine lv_iload_n hx hb dX5_step_8 rfl (lv_at hl 2 rfl) ?_
  refine hc_v (va_runV (As := [.int (nI o)]) (rest := []) S (c_X5_push l G ad _ hM (by omega) (nI o)) (cwV 1 hts (gWSV q_l_5_119 q_im_X5_push q_se_X5_push q_in_5 q_co_X5_push) rfl rfl rfl (by decide +kernel) ⟨Nat.le_of_ble_eq_true rfl, Nat.le_of_ble_eq_true rfl⟩) (hPreVw hE hS (hrecv hE hW h8 (q := (RX5, TX5, 28)) rfl) hW) rfl rfl hl.1 rfl (lv_room (Nat.le_of_ble_eq_true rfl)) dX5_step_9 ⟨Nat.le_of_ble_eq_true rfl, Nat.le_of_ble_eq_true rfl⟩) hS (fun ct_1 H locs hp hW hS => ?_)
  obtain ⟨hM, hag_2⟩ := hp
  obtain ⟨fb, fa, fx, pl, h8, h19, h20, h29, h32, h33, h34, h35, hF, hL⟩ := id hM
  exact h_vret S hr hlk hS hW dX5_step_12 ⟨hM, (fun j hj => (hag_2 j hj))⟩
set_option maxRecDepth 100000 in
set_option maxHeartbeats 4000000 in
theorem c_X5_step_x (l : Launch) (G : hG) (ad : Nat → Nat) (ct : Nat → Option va_E) {dn lk st0 : Int32} {i : Nat} {vv cv : Nat → Int32} {Fs : List (Nat × Nat × Int32)} {P : List Int32} {q : St} (hM : MC G ad ct dn lk st0 i vv cv Fs P q) (hPl : P.length < 300) (x : Int32)  : Met l yX5_step wzX5_step { frames := 1, cells := 0, slots := 0, locals := 21 } (hPw [.ref (ad 8), .int (nI i), .int 1000, .int x] G ad ct) (hQv (fun ct1 => MC G ad ct1 dn lk st0 i vv cv Fs (x :: P) q ∧ agM ct1 ct) G ad) 0 0 (hA G.2.2.2) := by
  refine hMetw (by decide) (Nat.le_of_ble_eq_true rfl) (fun p e s m below meth c ls S hr hlk hE hW hl => ?_)
  obtain ⟨hx, hb, hml, hown, hts⟩ := id S
  have hS : va_S (hA G.2.2.2) s.heap s.heap [] := va_S.rf
  have hl : lv_has ls 6 [(0, .ref (ad 8)), (1, .int (nI i)), (2, .int 1000), (3, .int x)] := hl
  obtain ⟨fb, fa, fx, pl, h8, h19, h20, h29, h32, h33, h34, h35, hF, hL⟩ := id hM
  refine lv_iload_n hx hb dX5_step_0 rfl (lv_at hl 2 rfl) ?_
  refine lv_sipush (v := 1000) hx hb dX5_step_1 (by decide) ?_
  refine lv_icmp_ge (tgt := 13) hx hb dX5_step_4 (by decide) (fun _ => ?_) (fun q => absurd (by decide) q)
  refine lv_iload_n hx hb dX5_step_13 rfl (lv_at hl 2 rfl) ?_
  refine lv_tableIn (off := 54) (tgt := 68) hx hb dX5_step_14 (by decide) (by decide) (by decide) (by decide) ?_
  refine lv_aload_n hx hb dX5_step_68 rfl (lv_at hl 0 rfl) ?_
  refine lv_iload_n hx hb dX5_step_69 rfl (lv_at hl 3 rfl) ?_
  refine hc_v (va_runV (As := [.int x]) (rest := []) S (c_X5_push l G ad _ hM (by omega) x) (cwV 1 hts (gWSV q_l_5_119 q_im_X5_push q_se_X5_push q_in_5 q_co_X5_push) rfl rfl rfl (by decide +kernel) ⟨Nat.le_of_ble_eq_true rfl, Nat.le_of_ble_eq_true rfl⟩) (hPreVw hE hS (hrecv hE hW h8 (q := (RX5, TX5, 28)) rfl) hW) rfl rfl hl.1 rfl (lv_room (Nat.le_of_ble_eq_true rfl)) dX5_step_70 ⟨Nat.le_of_ble_eq_true rfl, Nat.le_of_ble_eq_true rfl⟩) hS (fun ct_1 H locs hp hW hS => ?_)
  obtain ⟨hM, hag_2⟩ := hp
  obtain ⟨fb, fa, fx, pl, h8, h19, h20, h29, h32, h33, h34, h35, hF, hL⟩ := id hM
  exact h_vret S hr hlk hS hW dX5_step_73 ⟨hM, (fun j hj => (hag_2 j hj))⟩
set_option maxRecDepth 100000 in
set_option maxHeartbeats 4000000 in
theorem c_X5_step_v (l : Launch) (G : hG) (ad : Nat → Nat) (ct : Nat → Option va_E) {dn lk st0 : Int32} {i : Nat} {vv cv : Nat → Int32} {Fs : List (Nat × Nat × Int32)} {P : List Int32} {q : St} (hM : MC G ad ct dn lk st0 i vv cv Fs P q) (hPl : P.length < 300) (hi : i < 300) (x : Int32)  : Met l yX5_step wzX5_step { frames := 1, cells := 0, slots := 0, locals := 21 } (hPw [.ref (ad 8), .int (nI i), .int 1001, .int x] G ad ct) (hQv (fun ct1 => MC G ad ct1 dn lk st0 i vv cv Fs (q.1 :: P) q ∧ agM ct1 ct) G ad) 0 0 (hA G.2.2.2) := by
  refine hMetw (by decide) (Nat.le_of_ble_eq_true rfl) (fun p e s m below meth c ls S hr hlk hE hW hl => ?_)
  obtain ⟨hx, hb, hml, hown, hts⟩ := id S
  have hS : va_S (hA G.2.2.2) s.heap s.heap [] := va_S.rf
  have hl : lv_has ls 6 [(0, .ref (ad 8)), (1, .int (nI i)), (2, .int 1001), (3, .int x)] := hl
  obtain ⟨fb, fa, fx, pl, h8, h19, h20, h29, h32, h33, h34, h35, hF, hL⟩ := id hM
  refine lv_iload_n hx hb dX5_step_0 rfl (lv_at hl 2 rfl) ?_
  refine lv_sipush (v := 1000) hx hb dX5_step_1 (by decide) ?_
  refine lv_icmp_ge (tgt := 13) hx hb dX5_step_4 (by decide) (fun _ => ?_) (fun q => absurd (by decide) q)
  refine lv_iload_n hx hb dX5_step_13 rfl (lv_at hl 2 rfl) ?_
  refine lv_tableIn (off := 60) (tgt := 74) hx hb dX5_step_14 (by decide) (by decide) (by decide) (by decide) ?_
  refine lv_aload_n hx hb dX5_step_74 rfl (lv_at hl 0 rfl) ?_
  refine lv_aload_n hx hb dX5_step_75 rfl (lv_at hl 0 rfl) ?_
  refine hr_get S hE hW h8 inX5 (C := RX5) (T := TX5) (N := 28) rfl 9 (by decide) q_f_5_37 rfl dX5_step_76 ?_
  refine lv_iload_n hx hb dX5_step_79 rfl (lv_at hl 1 rfl) ?_
  refine hr_ialdk S hE hW h19 (j := i) rfl hi (by decide) dX5_step_80 ?_
  rw [pk_us]
  refine hc_v (va_runV (As := [.int q.1]) (rest := []) S (c_X5_push l G ad _ hM (by omega) q.1) (cwV 1 hts (gWSV q_l_5_119 q_im_X5_push q_se_X5_push q_in_5 q_co_X5_push) rfl rfl rfl (by decide +kernel) ⟨Nat.le_of_ble_eq_true rfl, Nat.le_of_ble_eq_true rfl⟩) (hPreVw hE hS (hrecv hE hW h8 (q := (RX5, TX5, 28)) rfl) hW) rfl rfl hl.1 rfl (lv_room (Nat.le_of_ble_eq_true rfl)) dX5_step_81 ⟨Nat.le_of_ble_eq_true rfl, Nat.le_of_ble_eq_true rfl⟩) hS (fun ct_1 H locs hp hW hS => ?_)
  obtain ⟨hM, hag_2⟩ := hp
  obtain ⟨fb, fa, fx, pl, h8, h19, h20, h29, h32, h33, h34, h35, hF, hL⟩ := id hM
  exact h_vret S hr hlk hS hW dX5_step_84 ⟨hM, (fun j hj => (hag_2 j hj))⟩
set_option maxRecDepth 100000 in
set_option maxHeartbeats 4000000 in
theorem c_X5_step_w (l : Launch) (G : hG) (ad : Nat → Nat) (ct : Nat → Option va_E) {dn lk st0 : Int32} {i : Nat} {vv cv : Nat → Int32} {Fs : List (Nat × Nat × Int32)} {P : List Int32} {q : St} (hM : MC G ad ct dn lk st0 i vv cv Fs P q) (hPl : P.length < 300) (hi : i < 300) (x : Int32)  : Met l yX5_step wzX5_step { frames := 1, cells := 0, slots := 0, locals := 21 } (hPw [.ref (ad 8), .int (nI i), .int 1002, .int x] G ad ct) (hQv (fun ct1 => MC G ad ct1 dn lk st0 i vv cv Fs (q.2.1 :: P) q ∧ agM ct1 ct) G ad) 0 0 (hA G.2.2.2) := by
  refine hMetw (by decide) (Nat.le_of_ble_eq_true rfl) (fun p e s m below meth c ls S hr hlk hE hW hl => ?_)
  obtain ⟨hx, hb, hml, hown, hts⟩ := id S
  have hS : va_S (hA G.2.2.2) s.heap s.heap [] := va_S.rf
  have hl : lv_has ls 6 [(0, .ref (ad 8)), (1, .int (nI i)), (2, .int 1002), (3, .int x)] := hl
  obtain ⟨fb, fa, fx, pl, h8, h19, h20, h29, h32, h33, h34, h35, hF, hL⟩ := id hM
  refine lv_iload_n hx hb dX5_step_0 rfl (lv_at hl 2 rfl) ?_
  refine lv_sipush (v := 1000) hx hb dX5_step_1 (by decide) ?_
  refine lv_icmp_ge (tgt := 13) hx hb dX5_step_4 (by decide) (fun _ => ?_) (fun q => absurd (by decide) q)
  refine lv_iload_n hx hb dX5_step_13 rfl (lv_at hl 2 rfl) ?_
  refine lv_tableIn (off := 71) (tgt := 85) hx hb dX5_step_14 (by decide) (by decide) (by decide) (by decide) ?_
  refine lv_aload_n hx hb dX5_step_85 rfl (lv_at hl 0 rfl) ?_
  refine lv_aload_n hx hb dX5_step_86 rfl (lv_at hl 0 rfl) ?_
  refine hr_get S hE hW h8 inX5 (C := RX5) (T := TX5) (N := 28) rfl 10 (by decide) q_f_5_40 rfl dX5_step_87 ?_
  refine lv_iload_n hx hb dX5_step_90 rfl (lv_at hl 1 rfl) ?_
  refine hr_ialdk S hE hW h20 (j := i) rfl hi (by decide) dX5_step_91 ?_
  rw [pk_us]
  refine hc_v (va_runV (As := [.int q.2.1]) (rest := []) S (c_X5_push l G ad _ hM (by omega) q.2.1) (cwV 1 hts (gWSV q_l_5_119 q_im_X5_push q_se_X5_push q_in_5 q_co_X5_push) rfl rfl rfl (by decide +kernel) ⟨Nat.le_of_ble_eq_true rfl, Nat.le_of_ble_eq_true rfl⟩) (hPreVw hE hS (hrecv hE hW h8 (q := (RX5, TX5, 28)) rfl) hW) rfl rfl hl.1 rfl (lv_room (Nat.le_of_ble_eq_true rfl)) dX5_step_92 ⟨Nat.le_of_ble_eq_true rfl, Nat.le_of_ble_eq_true rfl⟩) hS (fun ct_1 H locs hp hW hS => ?_)
  obtain ⟨hM, hag_2⟩ := hp
  obtain ⟨fb, fa, fx, pl, h8, h19, h20, h29, h32, h33, h34, h35, hF, hL⟩ := id hM
  exact h_vret S hr hlk hS hW dX5_step_95 ⟨hM, (fun j hj => (hag_2 j hj))⟩
set_option maxRecDepth 100000 in
set_option maxHeartbeats 4000000 in
theorem c_X5_step_tv (l : Launch) (G : hG) (ad : Nat → Nat) (ct : Nat → Option va_E) {dn lk st0 : Int32} {i : Nat} {vv cv : Nat → Int32} {Fs : List (Nat × Nat × Int32)} {P : List Int32} {q : St} {y : Int32} (hM : MC G ad ct dn lk st0 i vv cv Fs (y :: P) q) (hPl : P.length < 300) (hi : i < 300) (x : Int32)  : Met l yX5_step wzX5_step { frames := 1, cells := 0, slots := 0, locals := 21 } (hPw [.ref (ad 8), .int (nI i), .int 1008, .int x] G ad ct) (hQv (fun ct1 => MC G ad ct1 dn lk st0 i vv cv Fs P (y, q.2) ∧ agM ct1 ct) G ad) 0 0 (hA G.2.2.2) := by
  refine hMetw (by decide) (Nat.le_of_ble_eq_true rfl) (fun p e s m below meth c ls S hr hlk hE hW hl => ?_)
  obtain ⟨hx, hb, hml, hown, hts⟩ := id S
  have hS : va_S (hA G.2.2.2) s.heap s.heap [] := va_S.rf
  have hl : lv_has ls 6 [(0, .ref (ad 8)), (1, .int (nI i)), (2, .int 1008), (3, .int x)] := hl
  obtain ⟨fb, fa, fx, pl, h8, h19, h20, h29, h32, h33, h34, h35, hF, hL⟩ := id hM
  refine lv_iload_n hx hb dX5_step_0 rfl (lv_at hl 2 rfl) ?_
  refine lv_sipush (v := 1000) hx hb dX5_step_1 (by decide) ?_
  refine lv_icmp_ge (tgt := 13) hx hb dX5_step_4 (by decide) (fun _ => ?_) (fun q => absurd (by decide) q)
  refine lv_iload_n hx hb dX5_step_13 rfl (lv_at hl 2 rfl) ?_
  refine lv_tableIn (off := 82) (tgt := 96) hx hb dX5_step_14 (by decide) (by decide) (by decide) (by decide) ?_
  refine lv_aload_n hx hb dX5_step_96 rfl (lv_at hl 0 rfl) ?_
  refine hr_get S hE hW h8 inX5 (C := RX5) (T := TX5) (N := 28) rfl 9 (by decide) q_f_5_37 rfl dX5_step_97 ?_
  refine lv_iload_n hx hb dX5_step_100 rfl (lv_at hl 1 rfl) ?_
  refine lv_aload_n hx hb dX5_step_101 rfl (lv_at hl 0 rfl) ?_
  refine hc_i (va_runV (As := []) (rest := [.int (nI i), .ref (ad 19)]) S (c_X5_pop l G ad _ hM (by omega)) (cwV 0 hts (gWSV q_l_5_112 q_im_X5_pop q_se_X5_pop q_in_5 q_co_X5_pop) rfl rfl rfl (by decide +kernel) ⟨Nat.le_of_ble_eq_true rfl, Nat.le_of_ble_eq_true rfl⟩) (hPreVw hE hS (hrecv hE hW h8 (q := (RX5, TX5, 28)) rfl) hW) rfl rfl hl.1 rfl (lv_room (Nat.le_of_ble_eq_true rfl)) dX5_step_102 ⟨Nat.le_of_ble_eq_true rfl, Nat.le_of_ble_eq_true rfl⟩) hS (fun rv_3 ct_1 H locs hp hW hS => ?_)
  obtain ⟨ev_4, hM, hag_2⟩ := hp
  rw [ev_4]
  obtain ⟨fb, fa, fx, pl, h8, h19, h20, h29, h32, h33, h34, h35, hF, hL⟩ := id hM
  refine hr_iastk S hE hW hS h19 (j := i) rfl hi (by decide) dX5_step_105 (fun H locs ct_5 hW hk_6 hg_7 hz hS => ?_)
  have h_8 := (hg_7 8 (by decide)).trans h8
  have h_9 := (hg_7 20 (by decide)).trans h20
  have h_10 := (hg_7 29 (by decide)).trans h29
  have h_11 := (hg_7 32 (by decide)).trans h32
  have h_12 := (hg_7 33 (by decide)).trans h33
  have h_13 := (hg_7 34 (by decide)).trans h34
  have h_14 := (hg_7 35 (by decide)).trans h35
  have h_15 : ct_5 19 = some (.inl (G.2.1.1, 300, .inl (upd (upd vv i q.1) i y))) := hk_6
  exact h_vret S hr hlk hS hW dX5_step_106 ⟨⟨fb, fa, fx, pl, h_8, (by rw [upd_upd] at h_15; exact h_15), h_9, h_10, h_11, h_12, h_13, h_14, hF, hL⟩, (fun j hj => ((hg_7 j (by omega))).trans ((hag_2 j hj)))⟩
set_option maxRecDepth 100000 in
set_option maxHeartbeats 4000000 in
theorem c_X5_step_tc (l : Launch) (G : hG) (ad : Nat → Nat) (ct : Nat → Option va_E) {dn lk st0 : Int32} {i : Nat} {vv cv : Nat → Int32} {Fs : List (Nat × Nat × Int32)} {P : List Int32} {q : St} {y : Int32} (hM : MC G ad ct dn lk st0 i vv cv Fs (y :: P) q) (hPl : P.length < 300) (hi : i < 300) (x : Int32)  : Met l yX5_step wzX5_step { frames := 1, cells := 0, slots := 0, locals := 21 } (hPw [.ref (ad 8), .int (nI i), .int 1009, .int x] G ad ct) (hQv (fun ct1 => MC G ad ct1 dn lk st0 i vv cv Fs P (q.1, y, q.2.2) ∧ agM ct1 ct) G ad) 0 0 (hA G.2.2.2) := by
  refine hMetw (by decide) (Nat.le_of_ble_eq_true rfl) (fun p e s m below meth c ls S hr hlk hE hW hl => ?_)
  obtain ⟨hx, hb, hml, hown, hts⟩ := id S
  have hS : va_S (hA G.2.2.2) s.heap s.heap [] := va_S.rf
  have hl : lv_has ls 6 [(0, .ref (ad 8)), (1, .int (nI i)), (2, .int 1009), (3, .int x)] := hl
  obtain ⟨fb, fa, fx, pl, h8, h19, h20, h29, h32, h33, h34, h35, hF, hL⟩ := id hM
  refine lv_iload_n hx hb dX5_step_0 rfl (lv_at hl 2 rfl) ?_
  refine lv_sipush (v := 1000) hx hb dX5_step_1 (by decide) ?_
  refine lv_icmp_ge (tgt := 13) hx hb dX5_step_4 (by decide) (fun _ => ?_) (fun q => absurd (by decide) q)
  refine lv_iload_n hx hb dX5_step_13 rfl (lv_at hl 2 rfl) ?_
  refine lv_tableIn (off := 93) (tgt := 107) hx hb dX5_step_14 (by decide) (by decide) (by decide) (by decide) ?_
  refine lv_aload_n hx hb dX5_step_107 rfl (lv_at hl 0 rfl) ?_
  refine hr_get S hE hW h8 inX5 (C := RX5) (T := TX5) (N := 28) rfl 10 (by decide) q_f_5_40 rfl dX5_step_108 ?_
  refine lv_iload_n hx hb dX5_step_111 rfl (lv_at hl 1 rfl) ?_
  refine lv_aload_n hx hb dX5_step_112 rfl (lv_at hl 0 rfl) ?_
  refine hc_i (va_runV (As := []) (rest := [.int (nI i), .ref (ad 20)]) S (c_X5_pop l G ad _ hM (by omega)) (cwV 0 hts (gWSV q_l_5_112 q_im_X5_pop q_se_X5_pop q_in_5 q_co_X5_pop) rfl rfl rfl (by decide +kernel) ⟨Nat.le_of_ble_eq_true rfl, Nat.le_of_ble_eq_true rfl⟩) (hPreVw hE hS (hrecv hE hW h8 (q := (RX5, TX5, 28)) rfl) hW) rfl rfl hl.1 rfl (lv_room (Nat.le_of_ble_eq_true rfl)) dX5_step_113 ⟨Nat.le_of_ble_eq_true rfl, Nat.le_of_ble_eq_true rfl⟩) hS (fun rv_3 ct_1 H locs hp hW hS => ?_)
  obtain ⟨ev_4, hM, hag_2⟩ := hp
  rw [ev_4]
  obtain ⟨fb, fa, fx, pl, h8, h19, h20, h29, h32, h33, h34, h35, hF, hL⟩ := id hM
  refine hr_iastk S hE hW hS h20 (j := i) rfl hi (by decide) dX5_step_116 (fun H locs ct_5 hW hk_6 hg_7 hz hS => ?_)
  have h_8 := (hg_7 8 (by decide)).trans h8
  have h_9 := (hg_7 19 (by decide)).trans h19
  have h_10 := (hg_7 29 (by decide)).trans h29
  have h_11 := (hg_7 32 (by decide)).trans h32
  have h_12 := (hg_7 33 (by decide)).trans h33
  have h_13 := (hg_7 34 (by decide)).trans h34
  have h_14 := (hg_7 35 (by decide)).trans h35
  have h_15 : ct_5 20 = some (.inl (G.2.1.1, 300, .inl (upd (upd cv i q.2.1) i y))) := hk_6
  exact h_vret S hr hlk hS hW dX5_step_117 ⟨⟨fb, fa, fx, pl, h_8, h_9, (by rw [upd_upd] at h_15; exact h_15), h_10, h_11, h_12, h_13, h_14, hF, hL⟩, (fun j hj => ((hg_7 j (by omega))).trans ((hag_2 j hj)))⟩
set_option maxRecDepth 100000 in
set_option maxHeartbeats 4000000 in
theorem c_X5_step_p (l : Launch) (G : hG) (ad : Nat → Nat) (ct : Nat → Option va_E) {dn lk st0 : Int32} {i : Nat} {vv cv : Nat → Int32} {Fs : List (Nat × Nat × Int32)} {P : List Int32} {q : St} {y z : Int32} (hM : MC G ad ct dn lk st0 i vv cv Fs (y :: z :: P) q) (hPl : P.length + 1 < 300) (x : Int32)  : Met l yX5_step wzX5_step { frames := 1, cells := 0, slots := 0, locals := 21 } (hPw [.ref (ad 8), .int (nI i), .int 1003, .int x] G ad ct) (hQv (fun ct1 => MC G ad ct1 dn lk st0 i vv cv Fs ((z + y) :: P) q ∧ agM ct1 ct) G ad) 0 0 (hA G.2.2.2) := by
  refine hMetw (by decide) (Nat.le_of_ble_eq_true rfl) (fun p e s m below meth c ls S hr hlk hE hW hl => ?_)
  obtain ⟨hx, hb, hml, hown, hts⟩ := id S
  have hS : va_S (hA G.2.2.2) s.heap s.heap [] := va_S.rf
  have hl : lv_has ls 6 [(0, .ref (ad 8)), (1, .int (nI i)), (2, .int 1003), (3, .int x)] := hl
  obtain ⟨fb, fa, fx, pl, h8, h19, h20, h29, h32, h33, h34, h35, hF, hL⟩ := id hM
  refine lv_iload_n hx hb dX5_step_0 rfl (lv_at hl 2 rfl) ?_
  refine lv_sipush (v := 1000) hx hb dX5_step_1 (by decide) ?_
  refine lv_icmp_ge (tgt := 13) hx hb dX5_step_4 (by decide) (fun _ => ?_) (fun q => absurd (by decide) q)
  refine lv_iload_n hx hb dX5_step_13 rfl (lv_at hl 2 rfl) ?_
  refine lv_tableIn (off := 104) (tgt := 118) hx hb dX5_step_14 (by decide) (by decide) (by decide) (by decide) ?_
  refine lv_aload_n hx hb dX5_step_118 rfl (lv_at hl 0 rfl) ?_
  refine hc_i (va_runV (As := []) (rest := []) S (c_X5_pop l G ad _ hM (by first | assumption | (show _ < 300; omega) | (simp only [List.length_cons]; omega))) (cwV 0 hts (gWSV q_l_5_112 q_im_X5_pop q_se_X5_pop q_in_5 q_co_X5_pop) rfl rfl rfl (by decide +kernel) ⟨Nat.le_of_ble_eq_true rfl, Nat.le_of_ble_eq_true rfl⟩) (hPreVw hE hS (hrecv hE hW h8 (q := (RX5, TX5, 28)) rfl) hW) rfl rfl hl.1 rfl (lv_room (Nat.le_of_ble_eq_true rfl)) dX5_step_119 ⟨Nat.le_of_ble_eq_true rfl, Nat.le_of_ble_eq_true rfl⟩) hS (fun rv_3 ct_1 H locs hp hW hS => ?_)
  obtain ⟨ev_4, hM, hag_2⟩ := hp
  rw [ev_4]
  obtain ⟨fb, fa, fx, pl, h8, h19, h20, h29, h32, h33, h34, h35, hF, hL⟩ := id hM
  refine lv_istore (lv' := [(4, .int y), (0, .ref (ad 8)), (1, .int (nI i)), (2, .int 1003), (3, .int x)]) hx hb dX5_step_122 hl (by decide) rfl (fun ls hl => ?_)
  refine lv_aload_n hx hb dX5_step_124 rfl (lv_at hl 1 rfl) ?_
  refine hc_i (va_runV (As := []) (rest := []) S (c_X5_pop l G ad _ hM (by first | assumption | (show _ < 300; omega) | (simp only [List.length_cons]; omega))) (cwV 0 hts (gWSV q_l_5_112 q_im_X5_pop q_se_X5_pop q_in_5 q_co_X5_pop) rfl rfl rfl (by decide +kernel) ⟨Nat.le_of_ble_eq_true rfl, Nat.le_of_ble_eq_true rfl⟩) (hPreVw hE hS (hrecv hE hW h8 (q := (RX5, TX5, 28)) rfl) hW) rfl rfl hl.1 rfl (lv_room (Nat.le_of_ble_eq_true rfl)) dX5_step_125 ⟨Nat.le_of_ble_eq_true rfl, Nat.le_of_ble_eq_true rfl⟩) hS (fun rv_7 ct_5 H locs hp hW hS => ?_)
  obtain ⟨ev_8, hM, hag_6⟩ := hp
  rw [ev_8]
  obtain ⟨fb, fa, fx, pl, h8, h19, h20, h29, h32, h33, h34, h35, hF, hL⟩ := id hM
  refine lv_istore (lv' := [(5, .int z), (4, .int y), (0, .ref (ad 8)), (1, .int (nI i)), (2, .int 1003), (3, .int x)]) hx hb dX5_step_128 hl (by decide) rfl (fun ls hl => ?_)
  refine lv_aload_n hx hb dX5_step_130 rfl (lv_at hl 2 rfl) ?_
  refine lv_iload_n hx hb dX5_step_131 rfl (lv_at hl 4 rfl) ?_
  refine lv_sipush (v := 1003) hx hb dX5_step_132 (by decide) ?_
  refine lv_icmp_ne (tgt := 146) hx hb dX5_step_135 (by decide) (fun q => absurd (by decide) q) (fun _ => ?_)
  refine lv_iload hx hb dX5_step_138 (lv_at hl 0 rfl) ?_
  refine lv_iload hx hb dX5_step_140 (lv_at hl 1 rfl) ?_
  refine lv_iadd hx hb dX5_step_142 ?_
  refine lv_goto (tgt := 196) hx hb dX5_step_143 (by decide) ?_
  refine hc_v (va_runV (As := [.int (z + y)]) (rest := []) S (c_X5_push l G ad _ hM (by omega) (z + y)) (cwV 1 hts (gWSV q_l_5_119 q_im_X5_push q_se_X5_push q_in_5 q_co_X5_push) rfl rfl rfl (by decide +kernel) ⟨Nat.le_of_ble_eq_true rfl, Nat.le_of_ble_eq_true rfl⟩) (hPreVw hE hS (hrecv hE hW h8 (q := (RX5, TX5, 28)) rfl) hW) rfl rfl hl.1 rfl (lv_room (Nat.le_of_ble_eq_true rfl)) dX5_step_196 ⟨Nat.le_of_ble_eq_true rfl, Nat.le_of_ble_eq_true rfl⟩) hS (fun ct_9 H locs hp hW hS => ?_)
  obtain ⟨hM, hag_10⟩ := hp
  obtain ⟨fb, fa, fx, pl, h8, h19, h20, h29, h32, h33, h34, h35, hF, hL⟩ := id hM
  exact h_vret S hr hlk hS hW dX5_step_199 ⟨hM, (fun j hj => ((hag_10 j hj)).trans (((hag_6 j hj)).trans ((hag_2 j hj))))⟩
set_option maxRecDepth 100000 in
set_option maxHeartbeats 4000000 in
theorem c_X5_step_l (l : Launch) (G : hG) (ad : Nat → Nat) (ct : Nat → Option va_E) {dn lk st0 : Int32} {i : Nat} {vv cv : Nat → Int32} {Fs : List (Nat × Nat × Int32)} {P : List Int32} {q : St} {y z : Int32} (hM : MC G ad ct dn lk st0 i vv cv Fs (y :: z :: P) q) (hPl : P.length + 1 < 300) (x : Int32)  : Met l yX5_step wzX5_step { frames := 1, cells := 0, slots := 0, locals := 21 } (hPw [.ref (ad 8), .int (nI i), .int 1004, .int x] G ad ct) (hQv (fun ct1 => MC G ad ct1 dn lk st0 i vv cv Fs ((z - y) :: P) q ∧ agM ct1 ct) G ad) 0 0 (hA G.2.2.2) := by
  refine hMetw (by decide) (Nat.le_of_ble_eq_true rfl) (fun p e s m below meth c ls S hr hlk hE hW hl => ?_)
  obtain ⟨hx, hb, hml, hown, hts⟩ := id S
  have hS : va_S (hA G.2.2.2) s.heap s.heap [] := va_S.rf
  have hl : lv_has ls 6 [(0, .ref (ad 8)), (1, .int (nI i)), (2, .int 1004), (3, .int x)] := hl
  obtain ⟨fb, fa, fx, pl, h8, h19, h20, h29, h32, h33, h34, h35, hF, hL⟩ := id hM
  refine lv_iload_n hx hb dX5_step_0 rfl (lv_at hl 2 rfl) ?_
  refine lv_sipush (v := 1000) hx hb dX5_step_1 (by decide) ?_
  refine lv_icmp_ge (tgt := 13) hx hb dX5_step_4 (by decide) (fun _ => ?_) (fun q => absurd (by decide) q)
  refine lv_iload_n hx hb dX5_step_13 rfl (lv_at hl 2 rfl) ?_
  refine lv_tableIn (off := 104) (tgt := 118) hx hb dX5_step_14 (by decide) (by decide) (by decide) (by decide) ?_
  refine lv_aload_n hx hb dX5_step_118 rfl (lv_at hl 0 rfl) ?_
  refine hc_i (va_runV (As := []) (rest := []) S (c_X5_pop l G ad _ hM (by first | assumption | (show _ < 300; omega) | (simp only [List.length_cons]; omega))) (cwV 0 hts (gWSV q_l_5_112 q_im_X5_pop q_se_X5_pop q_in_5 q_co_X5_pop) rfl rfl rfl (by decide +kernel) ⟨Nat.le_of_ble_eq_true rfl, Nat.le_of_ble_eq_true rfl⟩) (hPreVw hE hS (hrecv hE hW h8 (q := (RX5, TX5, 28)) rfl) hW) rfl rfl hl.1 rfl (lv_room (Nat.le_of_ble_eq_true rfl)) dX5_step_119 ⟨Nat.le_of_ble_eq_true rfl, Nat.le_of_ble_eq_true rfl⟩) hS (fun rv_3 ct_1 H locs hp hW hS => ?_)
  obtain ⟨ev_4, hM, hag_2⟩ := hp
  rw [ev_4]
  obtain ⟨fb, fa, fx, pl, h8, h19, h20, h29, h32, h33, h34, h35, hF, hL⟩ := id hM
  refine lv_istore (lv' := [(4, .int y), (0, .ref (ad 8)), (1, .int (nI i)), (2, .int 1004), (3, .int x)]) hx hb dX5_step_122 hl (by decide) rfl (fun ls hl => ?_)
  refine lv_aload_n hx hb dX5_step_124 rfl (lv_at hl 1 rfl) ?_
  refine hc_i (va_runV (As := []) (rest := []) S (c_X5_pop l G ad _ hM (by first | assumption | (show _ < 300; omega) | (simp only [List.length_cons]; omega))) (cwV 0 hts (gWSV q_l_5_112 q_im_X5_pop q_se_X5_pop q_in_5 q_co_X5_pop) rfl rfl rfl (by decide +kernel) ⟨Nat.le_of_ble_eq_true rfl, Nat.le_of_ble_eq_true rfl⟩) (hPreVw hE hS (hrecv hE hW h8 (q := (RX5, TX5, 28)) rfl) hW) rfl rfl hl.1 rfl (lv_room (Nat.le_of_ble_eq_true rfl)) dX5_step_125 ⟨Nat.le_of_ble_eq_true rfl, Nat.le_of_ble_eq_true rfl⟩) hS (fun rv_7 ct_5 H locs hp hW hS => ?_)
  obtain ⟨ev_8, hM, hag_6⟩ := hp
  rw [ev_8]
  obtain ⟨fb, fa, fx, pl, h8, h19, h20, h29, h32, h33, h34, h35, hF, hL⟩ := id hM
  refine lv_istore (lv' := [(5, .int z), (4, .int y), (0, .ref (ad 8)), (1, .int (nI i)), (2, .int 1004), (3, .int x)]) hx hb dX5_step_128 hl (by decide) rfl (fun ls hl => ?_)
  refine lv_aload_n hx hb dX5_step_130 rfl (lv_at hl 2 rfl) ?_
  refine lv_iload_n hx hb dX5_step_131 rfl (lv_at hl 4 rfl) ?_
  refine lv_sipush (v := 1003) hx hb dX5_step_132 (by decide) ?_
  refine lv_icmp_ne (tgt := 146) hx hb dX5_step_135 (by decide) (fun _ => ?_) (fun q => absurd q (by decide))
  refine lv_iload_n hx hb dX5_step_146 rfl (lv_at hl 4 rfl) ?_
  refine lv_sipush (v := 1004) hx hb dX5_step_147 (by decide) ?_
  refine lv_icmp_ne (tgt := 161) hx hb dX5_step_150 (by decide) (fun q => absurd (by decide) q) (fun _ => ?_)
  refine lv_iload hx hb dX5_step_153 (lv_at hl 0 rfl) ?_
  refine lv_iload hx hb dX5_step_155 (lv_at hl 1 rfl) ?_
  refine lv_isub hx hb dX5_step_157 ?_
  refine lv_goto (tgt := 196) hx hb dX5_step_158 (by decide) ?_
  refine hc_v (va_runV (As := [.int (z - y)]) (rest := []) S (c_X5_push l G ad _ hM (by omega) (z - y)) (cwV 1 hts (gWSV q_l_5_119 q_im_X5_push q_se_X5_push q_in_5 q_co_X5_push) rfl rfl rfl (by decide +kernel) ⟨Nat.le_of_ble_eq_true rfl, Nat.le_of_ble_eq_true rfl⟩) (hPreVw hE hS (hrecv hE hW h8 (q := (RX5, TX5, 28)) rfl) hW) rfl rfl hl.1 rfl (lv_room (Nat.le_of_ble_eq_true rfl)) dX5_step_196 ⟨Nat.le_of_ble_eq_true rfl, Nat.le_of_ble_eq_true rfl⟩) hS (fun ct_9 H locs hp hW hS => ?_)
  obtain ⟨hM, hag_10⟩ := hp
  obtain ⟨fb, fa, fx, pl, h8, h19, h20, h29, h32, h33, h34, h35, hF, hL⟩ := id hM
  exact h_vret S hr hlk hS hW dX5_step_199 ⟨hM, (fun j hj => ((hag_10 j hj)).trans (((hag_6 j hj)).trans ((hag_2 j hj))))⟩
set_option maxRecDepth 100000 in
set_option maxHeartbeats 4000000 in
theorem c_X5_step_t (l : Launch) (G : hG) (ad : Nat → Nat) (ct : Nat → Option va_E) {dn lk st0 : Int32} {i : Nat} {vv cv : Nat → Int32} {Fs : List (Nat × Nat × Int32)} {P : List Int32} {q : St} {y z : Int32} (hM : MC G ad ct dn lk st0 i vv cv Fs (y :: z :: P) q) (hPl : P.length + 1 < 300) (x : Int32)  : Met l yX5_step wzX5_step { frames := 1, cells := 0, slots := 0, locals := 21 } (hPw [.ref (ad 8), .int (nI i), .int 1005, .int x] G ad ct) (hQv (fun ct1 => MC G ad ct1 dn lk st0 i vv cv Fs ((z * y) :: P) q ∧ agM ct1 ct) G ad) 0 0 (hA G.2.2.2) := by
  refine hMetw (by decide) (Nat.le_of_ble_eq_true rfl) (fun p e s m below meth c ls S hr hlk hE hW hl => ?_)
  obtain ⟨hx, hb, hml, hown, hts⟩ := id S
  have hS : va_S (hA G.2.2.2) s.heap s.heap [] := va_S.rf
  have hl : lv_has ls 6 [(0, .ref (ad 8)), (1, .int (nI i)), (2, .int 1005), (3, .int x)] := hl
  obtain ⟨fb, fa, fx, pl, h8, h19, h20, h29, h32, h33, h34, h35, hF, hL⟩ := id hM
  refine lv_iload_n hx hb dX5_step_0 rfl (lv_at hl 2 rfl) ?_
  refine lv_sipush (v := 1000) hx hb dX5_step_1 (by decide) ?_
  refine lv_icmp_ge (tgt := 13) hx hb dX5_step_4 (by decide) (fun _ => ?_) (fun q => absurd (by decide) q)
  refine lv_iload_n hx hb dX5_step_13 rfl (lv_at hl 2 rfl) ?_
  refine lv_tableIn (off := 104) (tgt := 118) hx hb dX5_step_14 (by decide) (by decide) (by decide) (by decide) ?_
  refine lv_aload_n hx hb dX5_step_118 rfl (lv_at hl 0 rfl) ?_
  refine hc_i (va_runV (As := []) (rest := []) S (c_X5_pop l G ad _ hM (by first | assumption | (show _ < 300; omega) | (simp only [List.length_cons]; omega))) (cwV 0 hts (gWSV q_l_5_112 q_im_X5_pop q_se_X5_pop q_in_5 q_co_X5_pop) rfl rfl rfl (by decide +kernel) ⟨Nat.le_of_ble_eq_true rfl, Nat.le_of_ble_eq_true rfl⟩) (hPreVw hE hS (hrecv hE hW h8 (q := (RX5, TX5, 28)) rfl) hW) rfl rfl hl.1 rfl (lv_room (Nat.le_of_ble_eq_true rfl)) dX5_step_119 ⟨Nat.le_of_ble_eq_true rfl, Nat.le_of_ble_eq_true rfl⟩) hS (fun rv_3 ct_1 H locs hp hW hS => ?_)
  obtain ⟨ev_4, hM, hag_2⟩ := hp
  rw [ev_4]
  obtain ⟨fb, fa, fx, pl, h8, h19, h20, h29, h32, h33, h34, h35, hF, hL⟩ := id hM
  refine lv_istore (lv' := [(4, .int y), (0, .ref (ad 8)), (1, .int (nI i)), (2, .int 1005), (3, .int x)]) hx hb dX5_step_122 hl (by decide) rfl (fun ls hl => ?_)
  refine lv_aload_n hx hb dX5_step_124 rfl (lv_at hl 1 rfl) ?_
  refine hc_i (va_runV (As := []) (rest := []) S (c_X5_pop l G ad _ hM (by first | assumption | (show _ < 300; omega) | (simp only [List.length_cons]; omega))) (cwV 0 hts (gWSV q_l_5_112 q_im_X5_pop q_se_X5_pop q_in_5 q_co_X5_pop) rfl rfl rfl (by decide +kernel) ⟨Nat.le_of_ble_eq_true rfl, Nat.le_of_ble_eq_true rfl⟩) (hPreVw hE hS (hrecv hE hW h8 (q := (RX5, TX5, 28)) rfl) hW) rfl rfl hl.1 rfl (lv_room (Nat.le_of_ble_eq_true rfl)) dX5_step_125 ⟨Nat.le_of_ble_eq_true rfl, Nat.le_of_ble_eq_true rfl⟩) hS (fun rv_7 ct_5 H locs hp hW hS => ?_)
  obtain ⟨ev_8, hM, hag_6⟩ := hp
  rw [ev_8]
  obtain ⟨fb, fa, fx, pl, h8, h19, h20, h29, h32, h33, h34, h35, hF, hL⟩ := id hM
  refine lv_istore (lv' := [(5, .int z), (4, .int y), (0, .ref (ad 8)), (1, .int (nI i)), (2, .int 1005), (3, .int x)]) hx hb dX5_step_128 hl (by decide) rfl (fun ls hl => ?_)
  refine lv_aload_n hx hb dX5_step_130 rfl (lv_at hl 2 rfl) ?_
  refine lv_iload_n hx hb dX5_step_131 rfl (lv_at hl 4 rfl) ?_
  refine lv_sipush (v := 1003) hx hb dX5_step_132 (by decide) ?_
  refine lv_icmp_ne (tgt := 146) hx hb dX5_step_135 (by decide) (fun _ => ?_) (fun q => absurd q (by decide))
  refine lv_iload_n hx hb dX5_step_146 rfl (lv_at hl 4 rfl) ?_
  refine lv_sipush (v := 1004) hx hb dX5_step_147 (by decide) ?_
  refine lv_icmp_ne (tgt := 161) hx hb dX5_step_150 (by decide) (fun _ => ?_) (fun q => absurd q (by decide))
  refine lv_iload_n hx hb dX5_step_161 rfl (lv_at hl 4 rfl) ?_
  refine lv_sipush (v := 1005) hx hb dX5_step_162 (by decide) ?_
  refine lv_icmp_ne (tgt := 176) hx hb dX5_step_165 (by decide) (fun q => absurd (by decide) q) (fun _ => ?_)
  refine lv_iload hx hb dX5_step_168 (lv_at hl 0 rfl) ?_
  refine lv_iload hx hb dX5_step_170 (lv_at hl 1 rfl) ?_
  refine lv_imul hx hb dX5_step_172 ?_
  refine lv_goto (tgt := 196) hx hb dX5_step_173 (by decide) ?_
  refine hc_v (va_runV (As := [.int (z * y)]) (rest := []) S (c_X5_push l G ad _ hM (by omega) (z * y)) (cwV 1 hts (gWSV q_l_5_119 q_im_X5_push q_se_X5_push q_in_5 q_co_X5_push) rfl rfl rfl (by decide +kernel) ⟨Nat.le_of_ble_eq_true rfl, Nat.le_of_ble_eq_true rfl⟩) (hPreVw hE hS (hrecv hE hW h8 (q := (RX5, TX5, 28)) rfl) hW) rfl rfl hl.1 rfl (lv_room (Nat.le_of_ble_eq_true rfl)) dX5_step_196 ⟨Nat.le_of_ble_eq_true rfl, Nat.le_of_ble_eq_true rfl⟩) hS (fun ct_9 H locs hp hW hS => ?_)
  obtain ⟨hM, hag_10⟩ := hp
  obtain ⟨fb, fa, fx, pl, h8, h19, h20, h29, h32, h33, h34, h35, hF, hL⟩ := id hM
  exact h_vret S hr hlk hS hW dX5_step_199 ⟨hM, (fun j hj => ((hag_10 j hj)).trans (((hag_6 j hj)).trans ((hag_2 j hj))))⟩
set_option maxRecDepth 100000 in
set_option maxHeartbeats 4000000 in
theorem c_X5_step_o (l : Launch) (G : hG) (ad : Nat → Nat) (ct : Nat → Option va_E) {dn lk st0 : Int32} {i : Nat} {vv cv : Nat → Int32} {Fs : List (Nat × Nat × Int32)} {P : List Int32} {q : St} {y z : Int32} (hM : MC G ad ct dn lk st0 i vv cv Fs (y :: z :: P) q) (hPl : P.length + 1 < 300) (x : Int32)  : Met l yX5_step wzX5_step { frames := 1, cells := 0, slots := 0, locals := 21 } (hPw [.ref (ad 8), .int (nI i), .int 1006, .int x] G ad ct) (hQv (fun ct1 => MC G ad ct1 dn lk st0 i vv cv Fs ((z ^^^ y) :: P) q ∧ agM ct1 ct) G ad) 0 0 (hA G.2.2.2) := by
  refine hMetw (by decide) (Nat.le_of_ble_eq_true rfl) (fun p e s m below meth c ls S hr hlk hE hW hl => ?_)
  obtain ⟨hx, hb, hml, hown, hts⟩ := id S
  have hS : va_S (hA G.2.2.2) s.heap s.heap [] := va_S.rf
  have hl : lv_has ls 6 [(0, .ref (ad 8)), (1, .int (nI i)), (2, .int 1006), (3, .int x)] := hl
  obtain ⟨fb, fa, fx, pl, h8, h19, h20, h29, h32, h33, h34, h35, hF, hL⟩ := id hM
  refine lv_iload_n hx hb dX5_step_0 rfl (lv_at hl 2 rfl) ?_
  refine lv_sipush (v := 1000) hx hb dX5_step_1 (by decide) ?_
  refine lv_icmp_ge (tgt := 13) hx hb dX5_step_4 (by decide) (fun _ => ?_) (fun q => absurd (by decide) q)
  refine lv_iload_n hx hb dX5_step_13 rfl (lv_at hl 2 rfl) ?_
  refine lv_tableIn (off := 104) (tgt := 118) hx hb dX5_step_14 (by decide) (by decide) (by decide) (by decide) ?_
  refine lv_aload_n hx hb dX5_step_118 rfl (lv_at hl 0 rfl) ?_
  refine hc_i (va_runV (As := []) (rest := []) S (c_X5_pop l G ad _ hM (by first | assumption | (show _ < 300; omega) | (simp only [List.length_cons]; omega))) (cwV 0 hts (gWSV q_l_5_112 q_im_X5_pop q_se_X5_pop q_in_5 q_co_X5_pop) rfl rfl rfl (by decide +kernel) ⟨Nat.le_of_ble_eq_true rfl, Nat.le_of_ble_eq_true rfl⟩) (hPreVw hE hS (hrecv hE hW h8 (q := (RX5, TX5, 28)) rfl) hW) rfl rfl hl.1 rfl (lv_room (Nat.le_of_ble_eq_true rfl)) dX5_step_119 ⟨Nat.le_of_ble_eq_true rfl, Nat.le_of_ble_eq_true rfl⟩) hS (fun rv_3 ct_1 H locs hp hW hS => ?_)
  obtain ⟨ev_4, hM, hag_2⟩ := hp
  rw [ev_4]
  obtain ⟨fb, fa, fx, pl, h8, h19, h20, h29, h32, h33, h34, h35, hF, hL⟩ := id hM
  refine lv_istore (lv' := [(4, .int y), (0, .ref (ad 8)), (1, .int (nI i)), (2, .int 1006), (3, .int x)]) hx hb dX5_step_122 hl (by decide) rfl (fun ls hl => ?_)
  refine lv_aload_n hx hb dX5_step_124 rfl (lv_at hl 1 rfl) ?_
  refine hc_i (va_runV (As := []) (rest := []) S (c_X5_pop l G ad _ hM (by first | assumption | (show _ < 300; omega) | (simp only [List.length_cons]; omega))) (cwV 0 hts (gWSV q_l_5_112 q_im_X5_pop q_se_X5_pop q_in_5 q_co_X5_pop) rfl rfl rfl (by decide +kernel) ⟨Nat.le_of_ble_eq_true rfl, Nat.le_of_ble_eq_true rfl⟩) (hPreVw hE hS (hrecv hE hW h8 (q := (RX5, TX5, 28)) rfl) hW) rfl rfl hl.1 rfl (lv_room (Nat.le_of_ble_eq_true rfl)) dX5_step_125 ⟨Nat.le_of_ble_eq_true rfl, Nat.le_of_ble_eq_true rfl⟩) hS (fun rv_7 ct_5 H locs hp hW hS => ?_)
  obtain ⟨ev_8, hM, hag_6⟩ := hp
  rw [ev_8]
  obtain ⟨fb, fa, fx, pl, h8, h19, h20, h29, h32, h33, h34, h35, hF, hL⟩ := id hM
  refine lv_istore (lv' := [(5, .int z), (4, .int y), (0, .ref (ad 8)), (1, .int (nI i)), (2, .int 1006), (3, .int x)]) hx hb dX5_step_128 hl (by decide) rfl (fun ls hl => ?_)
  refine lv_aload_n hx hb dX5_step_130 rfl (lv_at hl 2 rfl) ?_
  refine lv_iload_n hx hb dX5_step_131 rfl (lv_at hl 4 rfl) ?_
  refine lv_sipush (v := 1003) hx hb dX5_step_132 (by decide) ?_
  refine lv_icmp_ne (tgt := 146) hx hb dX5_step_135 (by decide) (fun _ => ?_) (fun q => absurd q (by decide))
  refine lv_iload_n hx hb dX5_step_146 rfl (lv_at hl 4 rfl) ?_
  refine lv_sipush (v := 1004) hx hb dX5_step_147 (by decide) ?_
  refine lv_icmp_ne (tgt := 161) hx hb dX5_step_150 (by decide) (fun _ => ?_) (fun q => absurd q (by decide))
  refine lv_iload_n hx hb dX5_step_161 rfl (lv_at hl 4 rfl) ?_
  refine lv_sipush (v := 1005) hx hb dX5_step_162 (by decide) ?_
  refine lv_icmp_ne (tgt := 176) hx hb dX5_step_165 (by decide) (fun _ => ?_) (fun q => absurd q (by decide))
  refine lv_iload_n hx hb dX5_step_176 rfl (lv_at hl 4 rfl) ?_
  refine lv_sipush (v := 1006) hx hb dX5_step_177 (by decide) ?_
  refine lv_icmp_ne (tgt := 191) hx hb dX5_step_180 (by decide) (fun q => absurd (by decide) q) (fun _ => ?_)
  refine lv_iload hx hb dX5_step_183 (lv_at hl 0 rfl) ?_
  refine lv_iload hx hb dX5_step_185 (lv_at hl 1 rfl) ?_
  refine lv_ixor hx hb dX5_step_187 ?_
  refine lv_goto (tgt := 196) hx hb dX5_step_188 (by decide) ?_
  refine hc_v (va_runV (As := [.int (z ^^^ y)]) (rest := []) S (c_X5_push l G ad _ hM (by omega) (z ^^^ y)) (cwV 1 hts (gWSV q_l_5_119 q_im_X5_push q_se_X5_push q_in_5 q_co_X5_push) rfl rfl rfl (by decide +kernel) ⟨Nat.le_of_ble_eq_true rfl, Nat.le_of_ble_eq_true rfl⟩) (hPreVw hE hS (hrecv hE hW h8 (q := (RX5, TX5, 28)) rfl) hW) rfl rfl hl.1 rfl (lv_room (Nat.le_of_ble_eq_true rfl)) dX5_step_196 ⟨Nat.le_of_ble_eq_true rfl, Nat.le_of_ble_eq_true rfl⟩) hS (fun ct_9 H locs hp hW hS => ?_)
  obtain ⟨hM, hag_10⟩ := hp
  obtain ⟨fb, fa, fx, pl, h8, h19, h20, h29, h32, h33, h34, h35, hF, hL⟩ := id hM
  exact h_vret S hr hlk hS hW dX5_step_199 ⟨hM, (fun j hj => ((hag_10 j hj)).trans (((hag_6 j hj)).trans ((hag_2 j hj))))⟩
set_option maxRecDepth 100000 in
set_option maxHeartbeats 4000000 in
theorem c_X5_step_a (l : Launch) (G : hG) (ad : Nat → Nat) (ct : Nat → Option va_E) {dn lk st0 : Int32} {i : Nat} {vv cv : Nat → Int32} {Fs : List (Nat × Nat × Int32)} {P : List Int32} {q : St} {y z : Int32} (hM : MC G ad ct dn lk st0 i vv cv Fs (y :: z :: P) q) (hPl : P.length + 1 < 300) (x : Int32)  : Met l yX5_step wzX5_step { frames := 1, cells := 0, slots := 0, locals := 21 } (hPw [.ref (ad 8), .int (nI i), .int 1007, .int x] G ad ct) (hQv (fun ct1 => MC G ad ct1 dn lk st0 i vv cv Fs ((z &&& y) :: P) q ∧ agM ct1 ct) G ad) 0 0 (hA G.2.2.2) := by
  refine hMetw (by decide) (Nat.le_of_ble_eq_true rfl) (fun p e s m below meth c ls S hr hlk hE hW hl => ?_)
  obtain ⟨hx, hb, hml, hown, hts⟩ := id S
  have hS : va_S (hA G.2.2.2) s.heap s.heap [] := va_S.rf
  have hl : lv_has ls 6 [(0, .ref (ad 8)), (1, .int (nI i)), (2, .int 1007), (3, .int x)] := hl
  obtain ⟨fb, fa, fx, pl, h8, h19, h20, h29, h32, h33, h34, h35, hF, hL⟩ := id hM
  refine lv_iload_n hx hb dX5_step_0 rfl (lv_at hl 2 rfl) ?_
  refine lv_sipush (v := 1000) hx hb dX5_step_1 (by decide) ?_
  refine lv_icmp_ge (tgt := 13) hx hb dX5_step_4 (by decide) (fun _ => ?_) (fun q => absurd (by decide) q)
  refine lv_iload_n hx hb dX5_step_13 rfl (lv_at hl 2 rfl) ?_
  refine lv_tableIn (off := 104) (tgt := 118) hx hb dX5_step_14 (by decide) (by decide) (by decide) (by decide) ?_
  refine lv_aload_n hx hb dX5_step_118 rfl (lv_at hl 0 rfl) ?_
  refine hc_i (va_runV (As := []) (rest := []) S (c_X5_pop l G ad _ hM (by first | assumption | (show _ < 300; omega) | (simp only [List.length_cons]; omega))) (cwV 0 hts (gWSV q_l_5_112 q_im_X5_pop q_se_X5_pop q_in_5 q_co_X5_pop) rfl rfl rfl (by decide +kernel) ⟨Nat.le_of_ble_eq_true rfl, Nat.le_of_ble_eq_true rfl⟩) (hPreVw hE hS (hrecv hE hW h8 (q := (RX5, TX5, 28)) rfl) hW) rfl rfl hl.1 rfl (lv_room (Nat.le_of_ble_eq_true rfl)) dX5_step_119 ⟨Nat.le_of_ble_eq_true rfl, Nat.le_of_ble_eq_true rfl⟩) hS (fun rv_3 ct_1 H locs hp hW hS => ?_)
  obtain ⟨ev_4, hM, hag_2⟩ := hp
  rw [ev_4]
  obtain ⟨fb, fa, fx, pl, h8, h19, h20, h29, h32, h33, h34, h35, hF, hL⟩ := id hM
  refine lv_istore (lv' := [(4, .int y), (0, .ref (ad 8)), (1, .int (nI i)), (2, .int 1007), (3, .int x)]) hx hb dX5_step_122 hl (by decide) rfl (fun ls hl => ?_)
  refine lv_aload_n hx hb dX5_step_124 rfl (lv_at hl 1 rfl) ?_
  refine hc_i (va_runV (As := []) (rest := []) S (c_X5_pop l G ad _ hM (by first | assumption | (show _ < 300; omega) | (simp only [List.length_cons]; omega))) (cwV 0 hts (gWSV q_l_5_112 q_im_X5_pop q_se_X5_pop q_in_5 q_co_X5_pop) rfl rfl rfl (by decide +kernel) ⟨Nat.le_of_ble_eq_true rfl, Nat.le_of_ble_eq_true rfl⟩) (hPreVw hE hS (hrecv hE hW h8 (q := (RX5, TX5, 28)) rfl) hW) rfl rfl hl.1 rfl (lv_room (Nat.le_of_ble_eq_true rfl)) dX5_step_125 ⟨Nat.le_of_ble_eq_true rfl, Nat.le_of_ble_eq_true rfl⟩) hS (fun rv_7 ct_5 H locs hp hW hS => ?_)
  obtain ⟨ev_8, hM, hag_6⟩ := hp
  rw [ev_8]
  obtain ⟨fb, fa, fx, pl, h8, h19, h20, h29, h32, h33, h34, h35, hF, hL⟩ := id hM
  refine lv_istore (lv' := [(5, .int z), (4, .int y), (0, .ref (ad 8)), (1, .int (nI i)), (2, .int 1007), (3, .int x)]) hx hb dX5_step_128 hl (by decide) rfl (fun ls hl => ?_)
  refine lv_aload_n hx hb dX5_step_130 rfl (lv_at hl 2 rfl) ?_
  refine lv_iload_n hx hb dX5_step_131 rfl (lv_at hl 4 rfl) ?_
  refine lv_sipush (v := 1003) hx hb dX5_step_132 (by decide) ?_
  refine lv_icmp_ne (tgt := 146) hx hb dX5_step_135 (by decide) (fun _ => ?_) (fun q => absurd q (by decide))
  refine lv_iload_n hx hb dX5_step_146 rfl (lv_at hl 4 rfl) ?_
  refine lv_sipush (v := 1004) hx hb dX5_step_147 (by decide) ?_
  refine lv_icmp_ne (tgt := 161) hx hb dX5_step_150 (by decide) (fun _ => ?_) (fun q => absurd q (by decide))
  refine lv_iload_n hx hb dX5_step_161 rfl (lv_at hl 4 rfl) ?_
  refine lv_sipush (v := 1005) hx hb dX5_step_162 (by decide) ?_
  refine lv_icmp_ne (tgt := 176) hx hb dX5_step_165 (by decide) (fun _ => ?_) (fun q => absurd q (by decide))
  refine lv_iload_n hx hb dX5_step_176 rfl (lv_at hl 4 rfl) ?_
  refine lv_sipush (v := 1006) hx hb dX5_step_177 (by decide) ?_
  refine lv_icmp_ne (tgt := 191) hx hb dX5_step_180 (by decide) (fun _ => ?_) (fun q => absurd q (by decide))
  refine lv_iload hx hb dX5_step_191 (lv_at hl 0 rfl) ?_
  refine lv_iload hx hb dX5_step_193 (lv_at hl 1 rfl) ?_
  refine lv_iand hx hb dX5_step_195 ?_
  refine hc_v (va_runV (As := [.int (z &&& y)]) (rest := []) S (c_X5_push l G ad _ hM (by omega) (z &&& y)) (cwV 1 hts (gWSV q_l_5_119 q_im_X5_push q_se_X5_push q_in_5 q_co_X5_push) rfl rfl rfl (by decide +kernel) ⟨Nat.le_of_ble_eq_true rfl, Nat.le_of_ble_eq_true rfl⟩) (hPreVw hE hS (hrecv hE hW h8 (q := (RX5, TX5, 28)) rfl) hW) rfl rfl hl.1 rfl (lv_room (Nat.le_of_ble_eq_true rfl)) dX5_step_196 ⟨Nat.le_of_ble_eq_true rfl, Nat.le_of_ble_eq_true rfl⟩) hS (fun ct_9 H locs hp hW hS => ?_)
  obtain ⟨hM, hag_10⟩ := hp
  obtain ⟨fb, fa, fx, pl, h8, h19, h20, h29, h32, h33, h34, h35, hF, hL⟩ := id hM
  exact h_vret S hr hlk hS hW dX5_step_199 ⟨hM, (fun j hj => ((hag_10 j hj)).trans (((hag_6 j hj)).trans ((hag_2 j hj))))⟩
