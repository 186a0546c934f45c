/-! constructors of the class: the tables as they fill -/
def bF (t : Nat) : Nat → Int32 := fun j => if j < t then borT j else 0
def sF (t : Nat) : Nat → Int32 := fun j => if j < t then selT j else 0
theorem cut_up {g : Nat → Int32} {t : Nat} : upd (fun j => if j < t then g j else 0) t (g t) = fun j => if j < t + 1 then g j else 0 := by
  funext j
  unfold upd
  by_cases e : j = t
  · subst e; simp
  · by_cases h : j < t
    · simp [e, h, Nat.lt_succ_of_lt h]
    · simp [e, h, show ¬ j < t + 1 by omega]
theorem cut_all {l : List Int32} {n : Nat} (h : l.length ≤ n) : (fun j => if j < n then tab l j else 0) = tab l := by
  funext j
  by_cases e : j < n
  · rw [if_pos e]
  · rw [if_neg e]
    unfold tab List.getD
    rw [List.getElem?_eq_none (show l.length ≤ j by omega)]; rfl
theorem bF_up (t : Nat) : upd (bF t) t (borT t) = bF (t + 1) := cut_up
theorem sF_up (t : Nat) : upd (sF t) t (selT t) = sF (t + 1) := cut_up
theorem bF_all : bF 18 = borT := cut_all (by decide +kernel)
theorem sF_all : sF 216 = selT := cut_all (by decide +kernel)
theorem f0_bF : (fun _ => 0) = bF 0 := by funext j; unfold bF; simp
theorem f0_sF : (fun _ => 0) = sF 0 := by funext j; unfold sF; simp
set_option maxRecDepth 100000 in
theorem ifc_tab : ∀ t, t < 18 → ifcF (bF t) (nI t) = borT t := by decide +kernel
set_option maxRecDepth 100000 in
theorem sel_tab0 : ∀ t, t < 18 → ∀ a, a < 12 → selF (bF (t + 1)) (nI t) (nI a) = selT (t * 12 + a) := by decide +kernel
theorem nI_ta (t a : Nat) : nI t * 12 + nI a = nI (t * 12 + a) := by rw [show (12 : Int32) = nI 12 from rfl, pk_mul, nI_add]
set_option maxRecDepth 100000 in
set_option maxHeartbeats 4000000 in
theorem c_X3_init (l : Launch) (G : hG) (ad : Nat → Nat) (ct : Nat → Option va_E) {N : Nat} (hk : ct 2 = some (.inr (3, [.null, .int 0]))) (had3 : ad 3 = N)  : Met l yX3_init wzX3_init { frames := 1, cells := 1, slots := 64, locals := 20 } (hPz [.ref (ad 2)] G ad ct N) (hQzv (fun ct1 => ct1 2 = some (.inr (3, [.ref (ad 3), .int 0])) ∧ ct1 3 = some (.inl (G.2.1.1, 64, .inl (fun _ => 0))) ∧ ∀ y, y ≠ 2 → y ≠ 3 → ct1 y = ct y) G ad (N + 1)) 1 64 (hA G.2.2.2) := by
  refine hMetz (by decide) (Nat.le_of_ble_eq_true rfl) (fun p e s m below meth c ls S hr hlk hin hE hW hsz hl => ?_)
  obtain ⟨hx, hb, hml, hown, hts⟩ := id S
  have hS : va_S (hA G.2.2.2) s.heap s.heap [] := va_S.rf
  have hl : lv_has ls 1 [(0, .ref (ad 2))] := hl
  refine lv_aload_n hx hb dX3_init_0 rfl (lv_at hl 0 rfl) ?_
  refine W.objInit hx hb hown (hts _ q_l_3_3) (hts _ q_im_O) (hts _ q_co_O) rfl (by rw [hml]; exact hl.1) rfl dX3_init_1 (Nat.le_of_ble_eq_true rfl) (Nat.le_of_ble_eq_true rfl) ?_
  refine W.eq (g2 := F0 m 4 ls []) rfl ?_
  refine lv_aload_n hx hb dX3_init_4 rfl (lv_at hl 0 rfl) ?_
  refine lv_bipush (v := 64) hx hb dX3_init_5 (by decide) ?_
  refine hr_newi S hE hW hS 3 (had3.trans hsz.symm) (hw_z hW hk) q_ac_int (by decide) rfl (Nat.le_of_ble_eq_true rfl) (Nat.le_of_ble_eq_true rfl) (Nat.le_of_ble_eq_true rfl) dX3_init_7 (fun H ct_1 hW hk_2 hg_3 hz hS => ?_)
  have hsz := hz.trans (congrArg (· + 1) hsz)
  have h_4 := (hg_3 2 (by decide)).trans hk
  have h_5 : ct_1 3 = some (.inl (G.2.1.1, 64, .inl (fun _ => 0))) := hk_2
  refine hr_putF S hE hW hS h_4 inX3 (C := RX3) (T := TX3) (N := 2) tyX3_ok nmX3 rfl 0 (by decide) q_f_3_11 rfl (hin rfl) rfl rfl rfl (Nat.le_of_ble_eq_true rfl) dX3_init_9 (fun H locs ct_6 hW hk_7 hg_8 hz hS => ?_)
  have hsz := hz.trans hsz
  have h_9 := (hg_8 3 (by decide)).trans h_5
  have h_10 : ct_6 2 = some (.inr (3, [.ref (ad 3), .int 0])) := hk_7
  exact h_zvret S hr hlk hS hW hsz dX3_init_12 ⟨h_10, h_9, (fun j q0 q1 => (hg_8 j q0).trans (hg_3 j q1))⟩
set_option maxRecDepth 100000 in
set_option maxHeartbeats 4000000 in
theorem c_X1_init (l : Launch) (G : hG) (ad : Nat → Nat) (ct : Nat → Option va_E) {N : Nat} (hk : ct 1 = some (.inr (1, [.null, .null]))) (had4 : ad 4 = N) (had5 : ad 5 = N + 1)  : Met l yX1_init wzX1_init { frames := 5, cells := 2, slots := 234, locals := 115 } (hPz [.ref (ad 1)] G ad ct N) (hQzv (fun ct1 => ct1 1 = some (.inr (1, [.ref (ad 4), .ref (ad 5)])) ∧ ct1 4 = some (.inl (G.2.1.1, 18, .inl borT)) ∧ ct1 5 = some (.inl (G.2.1.1, 216, .inl selT)) ∧ ∀ y, y ≠ 1 → y ≠ 4 → y ≠ 5 → ct1 y = ct y) G ad (N + 2)) 2 234 (hA G.2.2.2) := by
  refine hMetz (by decide) (Nat.le_of_ble_eq_true rfl) (fun p e s m below meth c ls S hr hlk hin hE hW hsz hl => ?_)
  obtain ⟨hx, hb, hml, hown, hts⟩ := id S
  have hS : va_S (hA G.2.2.2) s.heap s.heap [] := va_S.rf
  have hl : lv_has ls 3 [(0, .ref (ad 1))] := hl
  refine lv_aload_n hx hb dX1_init_0 rfl (lv_at hl 0 rfl) ?_
  refine W.objInit hx hb hown (hts _ q_l_1_3) (hts _ q_im_O) (hts _ q_co_O) rfl (by rw [hml]; exact hl.1) rfl dX1_init_1 (Nat.le_of_ble_eq_true rfl) (Nat.le_of_ble_eq_true rfl) ?_
  refine W.eq (g2 := F0 m 4 ls []) rfl ?_
  refine lv_aload_n hx hb dX1_init_4 rfl (lv_at hl 0 rfl) ?_
  refine lv_bipush (v := 18) hx hb dX1_init_5 (by decide) ?_
  refine hr_newi S hE hW hS 4 (had4.trans hsz.symm) (hw_z hW hk) q_ac_int (by decide) rfl (Nat.le_of_ble_eq_true rfl) (Nat.le_of_ble_eq_true rfl) (Nat.le_of_ble_eq_true rfl) dX1_init_7 (fun H ct_1 hW hk_2 hg_3 hz hS => ?_)
  have hsz := hz.trans (congrArg (· + 1) hsz)
  have h_4 := (hg_3 1 (by decide)).trans hk
  have h_5 : ct_1 4 = some (.inl (G.2.1.1, 18, .inl (fun _ => 0))) := hk_2
  refine hr_putF S hE hW hS h_4 inX1 (C := RX1) (T := TX1) (N := 2) tyX1_ok nmX1 rfl 0 (by decide) q_f_1_9 rfl (hin rfl) rfl rfl rfl (Nat.le_of_ble_eq_true rfl) dX1_init_9 (fun H locs ct_6 hW hk_7 hg_8 hz hS => ?_)
  have hsz := hz.trans hsz
  have h_9 := (hg_8 4 (by decide)).trans h_5
  have h_10 : ct_6 1 = some (.inr (1, [.ref (ad 4), .null])) := hk_7
  refine lv_aload_n hx hb dX1_init_12 rfl (lv_at hl 0 rfl) ?_
  refine lv_sipush (v := 216) hx hb dX1_init_13 (by decide) ?_
  refine hr_newi S hE hW hS 5 (had5.trans hsz.symm) (hw_z hW h_10) q_ac_int (by decide) rfl (Nat.le_of_ble_eq_true rfl) (Nat.le_of_ble_eq_true rfl) (Nat.le_of_ble_eq_true rfl) dX1_init_16 (fun H ct_11 hW hk_12 hg_13 hz hS => ?_)
  have hsz := hz.trans (congrArg (· + 1) hsz)
  have h_14 := (hg_13 4 (by decide)).trans h_9
  have h_15 := (hg_13 1 (by decide)).trans h_10
  have h_16 : ct_11 5 = some (.inl (G.2.1.1, 216, .inl (fun _ => 0))) := hk_12
  refine hr_putF S hE hW hS h_15 inX1 (C := RX1) (T := TX1) (N := 2) tyX1_ok nmX1 rfl 1 (by decide) q_f_1_15 rfl (hin rfl) rfl rfl rfl (Nat.le_of_ble_eq_true rfl) dX1_init_18 (fun H locs ct_17 hW hk_18 hg_19 hz hS => ?_)
  have hsz := hz.trans hsz
  have h_20 := (hg_19 4 (by decide)).trans h_14
  have h_21 := (hg_19 5 (by decide)).trans h_16
  have h_22 : ct_17 1 = some (.inr (1, [.ref (ad 4), .ref (ad 5)])) := hk_18
  refine lv_iconst (v := 0) hx hb dX1_init_21 (by decide) ?_
  refine lv_istore_n (lv' := [(1, .int 0), (0, .ref (ad 1))]) hx hb dX1_init_22 rfl hl (by decide) rfl (fun ls hl => ?_)
  have loop : ∀ (rem t : Nat) (ct2 : Nat → Option va_E) (H : Heap) (locs : List Loc) (ls : Array Slot), t + rem = 18 → ct2 1 = some (.inr (1, [.ref (ad 4), .ref (ad 5)])) → ct2 4 = some (.inl (G.2.1.1, 18, .inl (bF t))) → ct2 5 = some (.inl (G.2.1.1, 216, .inl (sF (t * 12)))) → (∀ j, j ≠ 1 → j ≠ 4 → j ≠ 5 → ct2 j = ct j) → hw G ad ct2 H → H.size = N + 2 → va_S (hA G.2.2.2) s.heap H locs → lv_has ls 3 [(1, .int (nI t)), (0, .ref (ad 1))] → W p l e { frames := 5, cells := 2, slots := 234, locals := 115 } s m ([.ref (ad 1)] : List Value).toArray below meth c H locs 2 234 (MQ below (hQzv (fun ct1 => ct1 1 = some (.inr (1, [.ref (ad 4), .ref (ad 5)])) ∧ ct1 4 = some (.inl (G.2.1.1, 18, .inl borT)) ∧ ct1 5 = some (.inl (G.2.1.1, 216, .inl selT)) ∧ ∀ y, y ≠ 1 → y ≠ 4 → y ≠ 5 → ct1 y = ct y) G ad (N + 2)) ([.ref (ad 1)] : List Value).toArray s 2 234 (hA G.2.2.2)) (F0 m 23 ls []) := by
    intro rem
    induction rem with
    | zero =>
      intro t ct2 H locs ls hnk h1 h4 h5 hag hW hsz hS hl
      have ht : t = 18 := by omega
      subst ht
      rw [bF_all] at h4
      rw [show 18 * 12 = 216 from rfl, sF_all] at h5
      refine lv_iload_n hx hb dX1_init_23 rfl (lv_at hl 0 rfl) ?_
      refine lv_bipush (v := 18) hx hb dX1_init_24 (by decide) ?_
      refine lv_icmp_ge (tgt := 83) hx hb dX1_init_26 (by decide) (fun _ => ?_) (fun q => absurd (by decide) q)
      exact h_zvret S hr hlk hS hW hsz dX1_init_83 ⟨h1, h4, h5, (fun j q0 q1 q2 => hag j q0 q1 q2)⟩
    | succ rem ih =>
      intro t ct2 H locs ls hnk h1 h4 h5 hag hW hsz hS hl
      have ht : t < 18 := by omega
      have hvt : vp_in (nI t) 18 := vp_in_nI ht (by omega)
      refine lv_iload_n hx hb dX1_init_23 rfl (lv_at hl 0 rfl) ?_
      refine lv_bipush (v := 18) hx hb dX1_init_24 (by decide) ?_
      refine lv_icmp_ge (tgt := 83) hx hb dX1_init_26 (by decide) (fun q => absurd q (nI_ge (b := 18) (by omega) (by omega))) (fun _ => ?_)
      refine lv_aload_n hx hb dX1_init_29 rfl (lv_at hl 1 rfl) ?_
      refine hr_get S hE hW h1 inX1 (C := RX1) (T := TX1) (N := 2) rfl 0 (by decide) q_f_1_9 rfl dX1_init_30 ?_
      refine lv_iload_n hx hb dX1_init_33 rfl (lv_at hl 0 rfl) ?_
      refine lv_iload_n hx hb dX1_init_34 rfl (lv_at hl 0 rfl) ?_
      refine lv_aload_n hx hb dX1_init_35 rfl (lv_at hl 1 rfl) ?_
      refine hr_get S hE hW h1 inX1 (C := RX1) (T := TX1) (N := 2) rfl 0 (by decide) q_f_1_9 rfl dX1_init_36 ?_
      refine hc_r (va_runS (As := [.int (nI t), .ref (ad 4)]) (rest := [.int (nI t), .ref (ad 4)]) S (c_X1_interfacesOf l G _ hW h4 (nI t)) (va_cwS 2 hts (gWSS q_l_1_18 q_st_X1_interfacesOf q_in_1 q_co_X1_interfacesOf) rfl rfl rfl (by decide +kernel) ⟨Nat.le_of_ble_eq_true rfl, Nat.le_of_ble_eq_true rfl⟩) (hPreSr hE hS) rfl rfl hl.1 rfl (lv_room (Nat.le_of_ble_eq_true rfl)) dX1_init_39 ⟨Nat.le_of_ble_eq_true rfl, Nat.le_of_ble_eq_true rfl⟩) hS (fun locs hS => ?_)
      rw [ifc_tab t ht]
      refine hr_iastk S hE hW hS h4 (j := t) rfl (by omega) (by decide) dX1_init_42 (fun H locs ct_23 hW hk_24 hg_25 hz hS => ?_)
      have hsz := hz.trans hsz
      have h_26 := (hg_25 1 (by decide)).trans h1
      have h_27 := (hg_25 5 (by decide)).trans h5
      have h_28 : ct_23 4 = some (.inl (G.2.1.1, 18, .inl (upd (bF t) t (borT t)))) := hk_24
      refine lv_iconst (v := 0) hx hb dX1_init_43 (by decide) ?_
      refine lv_istore_n (lv' := [(2, .int 0), (1, .int (nI t)), (0, .ref (ad 1))]) hx hb dX1_init_44 rfl hl (by decide) rfl (fun ls hl => ?_)
      have loop2 : ∀ (rem2 a : Nat) (ct2 : Nat → Option va_E) (H : Heap) (locs : List Loc) (ls : Array Slot), a + rem2 = 12 → ct2 1 = some (.inr (1, [.ref (ad 4), .ref (ad 5)])) → ct2 4 = some (.inl (G.2.1.1, 18, .inl (bF (t + 1)))) → ct2 5 = some (.inl (G.2.1.1, 216, .inl (sF (t * 12 + a)))) → (∀ j, j ≠ 1 → j ≠ 4 → j ≠ 5 → ct2 j = ct j) → hw G ad ct2 H → H.size = N + 2 → va_S (hA G.2.2.2) s.heap H locs → lv_has ls 3 [(2, .int (nI a)), (1, .int (nI t)), (0, .ref (ad 1))] → W p l e { frames := 5, cells := 2, slots := 234, locals := 115 } s m ([.ref (ad 1)] : List Value).toArray below meth c H locs 2 234 (MQ below (hQzv (fun ct1 => ct1 1 = some (.inr (1, [.ref (ad 4), .ref (ad 5)])) ∧ ct1 4 = some (.inl (G.2.1.1, 18, .inl borT)) ∧ ct1 5 = some (.inl (G.2.1.1, 216, .inl selT)) ∧ ∀ y, y ≠ 1 → y ≠ 4 → y ≠ 5 → ct1 y = ct y) G ad (N + 2)) ([.ref (ad 1)] : List Value).toArray s 2 234 (hA G.2.2.2)) (F0 m 45 ls []) := by
        intro rem2
        induction rem2 with
        | zero =>
          intro a ct2 H locs ls hnk2 h1 h4 h5 hag hW hsz hS hl
          have ha : a = 12 := by omega
          subst ha
          refine lv_iload_n hx hb dX1_init_45 rfl (lv_at hl 0 rfl) ?_
          refine lv_bipush (v := 12) hx hb dX1_init_46 (by decide) ?_
          refine lv_icmp_ge (tgt := 77) hx hb dX1_init_48 (by decide) (fun _ => ?_) (fun q => absurd (by decide) q)
          refine lv_iinc (v := (nI (t + 1))) (lv' := [(1, .int (nI (t + 1))), (2, .int (nI 12)), (0, .ref (ad 1))]) hx hb dX1_init_77 hl (k := 1) rfl (nI_1 t) (by decide) rfl (fun ls hl => ?_)
          refine lv_goto (tgt := 23) hx hb dX1_init_80 (by decide) ?_
          exact ih (t + 1) _ _ _ _ (by omega) h1 h4 (by rw [show (t + 1) * 12 = t * 12 + 12 by omega]; exact h5) (fun j q0 q1 q2 => hag j q0 q1 q2) hW hsz hS (lv_sub hl [0, 2] rfl)
        | succ rem2 ih2 =>
          intro a ct2 H locs ls hnk2 h1 h4 h5 hag hW hsz hS hl
          have ha : a < 12 := by omega
          refine lv_iload_n hx hb dX1_init_45 rfl (lv_at hl 0 rfl) ?_
          refine lv_bipush (v := 12) hx hb dX1_init_46 (by decide) ?_
          refine lv_icmp_ge (tgt := 77) hx hb dX1_init_48 (by decide) (fun q => absurd q (nI_ge (b := 12) (by omega) (by omega))) (fun _ => ?_)
          refine lv_aload_n hx hb dX1_init_51 rfl (lv_at hl 2 rfl) ?_
          refine hr_get S hE hW h1 inX1 (C := RX1) (T := TX1) (N := 2) rfl 1 (by decide) q_f_1_15 rfl dX1_init_52 ?_
          refine lv_iload_n hx hb dX1_init_55 rfl (lv_at hl 1 rfl) ?_
          refine lv_bipush (v := 12) hx hb dX1_init_56 (by decide) ?_
          refine lv_imul hx hb dX1_init_58 ?_
          refine lv_iload_n hx hb dX1_init_59 rfl (lv_at hl 0 rfl) ?_
          refine lv_iadd hx hb dX1_init_60 ?_
          refine lv_iload_n hx hb dX1_init_61 rfl (lv_at hl 1 rfl) ?_
          refine lv_iload_n hx hb dX1_init_62 rfl (lv_at hl 0 rfl) ?_
          refine lv_aload_n hx hb dX1_init_63 rfl (lv_at hl 2 rfl) ?_
          refine hr_get S hE hW h1 inX1 (C := RX1) (T := TX1) (N := 2) rfl 0 (by decide) q_f_1_9 rfl dX1_init_64 ?_
          refine hc_r (va_runS (As := [.int (nI t), .int (nI a), .ref (ad 4)]) (rest := [.int (((nI t) * 12) + (nI a)), .ref (ad 5)]) S (c_X1_select l G _ hW h4 (nI t) (nI a) (by assumption)) (va_cwS 3 hts (gWSS q_l_1_22 q_st_X1_select q_in_1 q_co_X1_select) rfl rfl rfl (by decide +kernel) ⟨Nat.le_of_ble_eq_true rfl, Nat.le_of_ble_eq_true rfl⟩) (hPreSr hE hS) rfl rfl hl.1 rfl (lv_room (Nat.le_of_ble_eq_true rfl)) dX1_init_67 ⟨Nat.le_of_ble_eq_true rfl, Nat.le_of_ble_eq_true rfl⟩) hS (fun locs hS => ?_)
          rw [sel_tab0 t ht a ha]
          refine hr_iastk S hE hW hS h5 (j := (t * 12 + a)) (nI_ta t a) (by omega) (by decide) dX1_init_70 (fun H locs ct_29 hW hk_30 hg_31 hz hS => ?_)
          have hsz := hz.trans hsz
          have h_32 := (hg_31 1 (by decide)).trans h1
          have h_33 := (hg_31 4 (by decide)).trans h4
          have h_34 : ct_29 5 = some (.inl (G.2.1.1, 216, .inl (upd (sF (t * 12 + a)) (t * 12 + a) (selT (t * 12 + a))))) := hk_30
          have h_35 : ct_29 5 = some (.inl (G.2.1.1, 216, .inl (sF (t * 12 + a + 1)))) := by rw [← sF_up]; exact h_34
          refine lv_iinc (v := (nI (a + 1))) (lv' := [(2, .int (nI (a + 1))), (1, .int (nI t)), (0, .ref (ad 1))]) hx hb dX1_init_71 hl (k := 0) rfl (nI_1 a) (by decide) rfl (fun ls hl => ?_)
          refine lv_goto (tgt := 45) hx hb dX1_init_74 (by decide) ?_
          exact ih2 (a + 1) _ _ _ _ (by omega) h_32 h_33 (by rw [show t * 12 + (a + 1) = t * 12 + a + 1 by omega]; exact h_35) (fun j q0 q1 q2 => (hg_31 j q2).trans (hag j q0 q1 q2)) hW hsz hS (lv_sub hl [0, 1, 2] rfl)
      exact loop2 12 0 _ _ _ _ (by omega) h_26 (by rw [← bF_up]; exact h_28) h_27 (fun j q0 q1 q2 => (hg_25 j q1).trans (hag j q0 q1 q2)) hW hsz hS (lv_sub hl [0, 1, 2] rfl)
  exact loop 18 0 _ _ _ _ (by omega) h_22 (by rw [← f0_bF]; exact h_20) (by rw [show 0 * 12 = 0 from rfl, ← f0_sF]; exact h_21) (fun j q0 q1 q2 => (hg_19 j q0).trans ((hg_13 j q2).trans ((hg_8 j q0).trans (hg_3 j q1)))) hW hsz hS (lv_sub hl [0, 1] rfl)
set_option maxRecDepth 100000 in
set_option maxHeartbeats 4000000 in
theorem c_X4_init (l : Launch) (G : hG) (ad : Nat → Nat) (ct : Nat → Option va_E) {N : Nat} (hk : ct 0 = some (.inr (4, [.null, .null, .null, .null, .int 0, .int 0, .int 0, .int 0, .int 0]))) (had1 : ad 1 = N) (had4 : ad 4 = N + 1) (had5 : ad 5 = N + 1 + 1) (had2 : ad 2 = N + 1 + 2) (had3 : ad 3 = N + 1 + 2 + 1) (had6 : ad 6 = N + 1 + 2 + 1 + 1) (had7 : ad 7 = N + 1 + 2 + 1 + 1 + 1)  : Met l yX4_init wzX4_init { frames := 6, cells := 7, slots := 902, locals := 137 } (hPz [.ref (ad 0)] G ad ct N) (hQzv (fun ct1 => RC ct G ad ct1 0 (fun _ => 0) (fun _ => 0, fun _ => 0, 0, fun _ => 0) (fun _ => 0, fun _ => 0, fun _ => 0) (0, fun _ => 0, fun _ => 0) (fun _ => none, 0, 0) 0 ∧ ∀ y, 8 ≤ y → ct1 y = ct y) G ad (N + 7)) 7 902 (hA G.2.2.2) := by
  refine hMetz (by decide) (Nat.le_of_ble_eq_true rfl) (fun p e s m below meth c ls S hr hlk hin hE hW hsz hl => ?_)
  obtain ⟨hx, hb, hml, hown, hts⟩ := id S
  have hS : va_S (hA G.2.2.2) s.heap s.heap [] := va_S.rf
  have hl : lv_has ls 1 [(0, .ref (ad 0))] := hl
  refine lv_aload_n hx hb dX4_init_0 rfl (lv_at hl 0 rfl) ?_
  refine W.objInit hx hb hown (hts _ q_l_4_3) (hts _ q_im_O) (hts _ q_co_O) rfl (by rw [hml]; exact hl.1) rfl dX4_init_1 (Nat.le_of_ble_eq_true rfl) (Nat.le_of_ble_eq_true rfl) ?_
  refine W.eq (g2 := F0 m 4 ls []) rfl ?_
  refine lv_aload_n hx hb dX4_init_4 rfl (lv_at hl 0 rfl) ?_
  refine hr_new S hE hW hS 1 (had1.trans hsz.symm) (hw_z hW hk) inX1 (ci := 1) (C := RX1) (T := TX1) (N := 2) tyX1_ok rfl q_cl_4_9 q_ia_1 q_in_1 (fs := [.null, .null]) (fun j hj => by rcases (show j = 0 ∨ j = 1 by omega) with rfl | rfl <;> rfl) (Nat.le_of_ble_eq_true rfl) (Nat.le_of_ble_eq_true rfl) dX4_init_5 (fun H ct_1 hW hk_2 hg_3 hz hS => ?_)
  have hsz := hz.trans (congrArg (· + 1) hsz)
  have h_4 := (hg_3 0 (by decide)).trans hk
  have h_5 : ct_1 1 = some (.inr (1, [.null, .null])) := hk_2
  refine lv_dup hx hb dX4_init_8 rfl ?_
  refine hc_zv (va_runIN (As := []) (rest := [.ref (ad 1), .ref (ad 0)]) S (c_X1_init l G ad _ h_5 had4 had5) ⟨va_cnB 0 hts (gWS q_co_X1_init) rfl rfl rfl (hE.nest 8 rfl) (hts _ q_in_1) (by decide +kernel) ⟨Nat.le_of_ble_eq_true rfl, Nat.le_of_ble_eq_true rfl⟩, rfl, hts _ q_im_X1_init⟩ (hPreSz hE hS hW hsz) rfl rfl hl.1 rfl (lv_room (Nat.le_of_ble_eq_true rfl)) dX4_init_9 ⟨Nat.le_of_ble_eq_true rfl, Nat.le_of_ble_eq_true rfl⟩) hS (fun ct_6 H locs hp hW hsz hS => ?_)
  obtain ⟨h_7, h_8, h_9, hg_10⟩ := hp
  have h_11 := (hg_10 0 (by decide) (by decide) (by decide)).trans h_4
  refine hr_putF S hE hW hS h_11 inX4 (C := RX4) (T := TX4) (N := 9) tyX4_ok nmX4 rfl 0 (by decide) q_f_4_12 rfl (hin rfl) rfl rfl rfl (Nat.le_of_ble_eq_true rfl) dX4_init_12 (fun H locs ct_12 hW hk_13 hg_14 hz hS => ?_)
  have hsz := hz.trans hsz
  have h_15 := (hg_14 1 (by decide)).trans h_7
  have h_16 := (hg_14 4 (by decide)).trans h_8
  have h_17 := (hg_14 5 (by decide)).trans h_9
  have h_18 : ct_12 0 = some (.inr (4, [.ref (ad 1), .null, .null, .null, .int 0, .int 0, .int 0, .int 0, .int 0])) := hk_13
  refine lv_aload_n hx hb dX4_init_15 rfl (lv_at hl 0 rfl) ?_
  refine hr_new S hE hW hS 2 (had2.trans hsz.symm) (hw_z hW h_18) inX3 (ci := 3) (C := RX3) (T := TX3) (N := 2) tyX3_ok rfl q_cl_4_16 q_ia_3 q_in_3 (fs := [.null, .int 0]) (fun j hj => by rcases (show j = 0 ∨ j = 1 by omega) with rfl | rfl <;> rfl) (Nat.le_of_ble_eq_true rfl) (Nat.le_of_ble_eq_true rfl) dX4_init_16 (fun H ct_19 hW hk_20 hg_21 hz hS => ?_)
  have hsz := hz.trans (congrArg (· + 1) hsz)
  have h_22 := (hg_21 1 (by decide)).trans h_15
  have h_23 := (hg_21 4 (by decide)).trans h_16
  have h_24 := (hg_21 5 (by decide)).trans h_17
  have h_25 := (hg_21 0 (by decide)).trans h_18
  have h_26 : ct_19 2 = some (.inr (3, [.null, .int 0])) := hk_20
  refine lv_dup hx hb dX4_init_19 rfl ?_
  refine hc_zv (va_runIN (As := []) (rest := [.ref (ad 2), .ref (ad 0)]) S (c_X3_init l G ad _ h_26 had3) ⟨va_cnB 0 hts (gWS q_co_X3_init) rfl rfl rfl (hE.nest 10 rfl) (hts _ q_in_3) (by decide +kernel) ⟨Nat.le_of_ble_eq_true rfl, Nat.le_of_ble_eq_true rfl⟩, rfl, hts _ q_im_X3_init⟩ (hPreSz hE hS hW hsz) rfl rfl hl.1 rfl (lv_room (Nat.le_of_ble_eq_true rfl)) dX4_init_20 ⟨Nat.le_of_ble_eq_true rfl, Nat.le_of_ble_eq_true rfl⟩) hS (fun ct_27 H locs hp hW hsz hS => ?_)
  obtain ⟨h_28, h_29, hg_30⟩ := hp
  have h_31 := (hg_30 1 (by decide) (by decide)).trans h_22
  have h_32 := (hg_30 4 (by decide) (by decide)).trans h_23
  have h_33 := (hg_30 5 (by decide) (by decide)).trans h_24
  have h_34 := (hg_30 0 (by decide) (by decide)).trans h_25
  refine hr_putF S hE hW hS h_34 inX4 (C := RX4) (T := TX4) (N := 9) tyX4_ok nmX4 rfl 1 (by decide) q_f_4_19 rfl (hin rfl) rfl rfl rfl (Nat.le_of_ble_eq_true rfl) dX4_init_23 (fun H locs ct_35 hW hk_36 hg_37 hz hS => ?_)
  have hsz := hz.trans hsz
  have h_38 := (hg_37 2 (by decide)).trans h_28
  have h_39 := (hg_37 3 (by decide)).trans h_29
  have h_40 := (hg_37 1 (by decide)).trans h_31
  have h_41 := (hg_37 4 (by decide)).trans h_32
  have h_42 := (hg_37 5 (by decide)).trans h_33
  have h_43 : ct_35 0 = some (.inr (4, [.ref (ad 1), .ref (ad 2), .null, .null, .int 0, .int 0, .int 0, .int 0, .int 0])) := hk_36
  refine lv_aload_n hx hb dX4_init_26 rfl (lv_at hl 0 rfl) ?_
  refine lv_sipush (v := 300) hx hb dX4_init_27 (by decide) ?_
  refine hr_newo S hE hW hS 6 (had6.trans hsz.symm) (hw_z hW h_43) q_cl_4_23 (by decide) rfl (Nat.le_of_ble_eq_true rfl) (Nat.le_of_ble_eq_true rfl) (Nat.le_of_ble_eq_true rfl) dX4_init_30 (fun H ct_44 hW hk_45 hg_46 hz hS => ?_)
  have hsz := hz.trans (congrArg (· + 1) hsz)
  have h_47 := (hg_46 2 (by decide)).trans h_38
  have h_48 := (hg_46 3 (by decide)).trans h_39
  have h_49 := (hg_46 1 (by decide)).trans h_40
  have h_50 := (hg_46 4 (by decide)).trans h_41
  have h_51 := (hg_46 5 (by decide)).trans h_42
  have h_52 := (hg_46 0 (by decide)).trans h_43
  have h_53 : ct_44 6 = some (.inl (G.2.1.2.2, 300, .inr (.inr (.inr (.inr (fun _ => none)))))) := hk_45
  refine hr_putF S hE hW hS h_52 inX4 (C := RX4) (T := TX4) (N := 9) tyX4_ok nmX4 rfl 2 (by decide) q_f_4_25 rfl (hin rfl) rfl rfl rfl (Nat.le_of_ble_eq_true rfl) dX4_init_33 (fun H locs ct_54 hW hk_55 hg_56 hz hS => ?_)
  have hsz := hz.trans hsz
  have h_57 := (hg_56 2 (by decide)).trans h_47
  have h_58 := (hg_56 3 (by decide)).trans h_48
  have h_59 := (hg_56 1 (by decide)).trans h_49
  have h_60 := (hg_56 4 (by decide)).trans h_50
  have h_61 := (hg_56 5 (by decide)).trans h_51
  have h_62 := (hg_56 6 (by decide)).trans h_53
  have h_63 : ct_54 0 = some (.inr (4, [.ref (ad 1), .ref (ad 2), .ref (ad 6), .null, .int 0, .int 0, .int 0, .int 0, .int 0])) := hk_55
  refine lv_aload_n hx hb dX4_init_36 rfl (lv_at hl 0 rfl) ?_
  refine lv_sipush (v := 300) hx hb dX4_init_37 (by decide) ?_
  refine hr_newo S hE hW hS 7 (had7.trans hsz.symm) (hw_z hW h_63) q_cl_4_23 (by decide) rfl (Nat.le_of_ble_eq_true rfl) (Nat.le_of_ble_eq_true rfl) (Nat.le_of_ble_eq_true rfl) dX4_init_40 (fun H ct_64 hW hk_65 hg_66 hz hS => ?_)
  have hsz := hz.trans (congrArg (· + 1) hsz)
  have h_67 := (hg_66 2 (by decide)).trans h_57
  have h_68 := (hg_66 3 (by decide)).trans h_58
  have h_69 := (hg_66 1 (by decide)).trans h_59
  have h_70 := (hg_66 4 (by decide)).trans h_60
  have h_71 := (hg_66 5 (by decide)).trans h_61
  have h_72 := (hg_66 6 (by decide)).trans h_62
  have h_73 := (hg_66 0 (by decide)).trans h_63
  have h_74 : ct_64 7 = some (.inl (G.2.1.2.2, 300, .inr (.inr (.inr (.inr (fun _ => none)))))) := hk_65
  refine hr_putF S hE hW hS h_73 inX4 (C := RX4) (T := TX4) (N := 9) tyX4_ok nmX4 rfl 3 (by decide) q_f_4_29 rfl (hin rfl) rfl rfl rfl (Nat.le_of_ble_eq_true rfl) dX4_init_43 (fun H locs ct_75 hW hk_76 hg_77 hz hS => ?_)
  have hsz := hz.trans hsz
  have h_78 := (hg_77 2 (by decide)).trans h_67
  have h_79 := (hg_77 3 (by decide)).trans h_68
  have h_80 := (hg_77 1 (by decide)).trans h_69
  have h_81 := (hg_77 4 (by decide)).trans h_70
  have h_82 := (hg_77 5 (by decide)).trans h_71
  have h_83 := (hg_77 6 (by decide)).trans h_72
  have h_84 := (hg_77 7 (by decide)).trans h_74
  have h_85 : ct_75 0 = some (.inr (4, [.ref (ad 1), .ref (ad 2), .ref (ad 6), .ref (ad 7), .int 0, .int 0, .int 0, .int 0, .int 0])) := hk_76
  exact h_zvret S hr hlk hS hW hsz dX4_init_46 ⟨⟨h_85, h_80, h_78, h_79, h_81, h_82, (by rw [show dvF ad 0 = fun _ => none from by funext i; unfold dvF; rw [if_neg (Nat.not_lt_zero i)]]; exact h_83), h_84, fun i hi => absurd hi (Nat.not_lt_zero i), fun i hi => absurd hi (Nat.not_lt_zero i), fun y h1 h2 => (fun j q0 q1 q2 q3 q4 q5 q6 q7 => (hg_77 j q0).trans ((hg_66 j q7).trans ((hg_56 j q0).trans ((hg_46 j q6).trans ((hg_37 j q0).trans ((hg_30 j q2 q3).trans ((hg_21 j q2).trans ((hg_14 j q0).trans ((hg_10 j q1 q4 q5).trans (hg_3 j q1)))))))))) y (by omega) (by omega) (by omega) (by omega) (by omega) (by omega) (by omega) (by omega), by omega, by show 0 ≤ 400; omega, fun i hi => absurd hi (Nat.not_lt_zero i), fun i hi => absurd hi (Nat.not_lt_zero i)⟩, fun y hy => (fun j q0 q1 q2 q3 q4 q5 q6 q7 => (hg_77 j q0).trans ((hg_66 j q7).trans ((hg_56 j q0).trans ((hg_46 j q6).trans ((hg_37 j q0).trans ((hg_30 j q2 q3).trans ((hg_21 j q2).trans ((hg_14 j q0).trans ((hg_10 j q1 q4 q5).trans (hg_3 j q1)))))))))) y (by omega) (by omega) (by omega) (by omega) (by omega) (by omega) (by omega) (by omega)⟩
