set_option maxRecDepth 100000 in
set_option maxHeartbeats 4000000 in
theorem c_X3_begin (l : Launch) (G : hG) (ad : Nat → Nat) (ct : Nat → Option va_E) {b : Int32} {f : Nat → Int32} (h2 : ct 2 = some (.inr (3, [.ref (ad 3), .int b]))) (h3 : ct 3 = some (.inl (G.2.1.1, 64, .inl f))) (x : Int32)  : Met l yX3_begin wzX3_begin { frames := 0, cells := 0, slots := 0, locals := 0 } (hPw [.ref (ad 2), .int x] G ad ct) (hQv (fun ct1 => ct1 2 = some (.inr (3, [.ref (ad 3), .int (b + 1)])) ∧ ct1 3 = some (.inl (G.2.1.1, 64, .inl (bgF b f x))) ∧ ∀ j, j ≠ 2 → j ≠ 3 → ct1 j = ct j) G ad) 0 0 (hA G.2.2.2) := by
  refine hMetw (by decide) (Nat.le_of_ble_eq_true rfl) (fun p e s m below meth c ls S hr hlk hE hW hl => ?_)
  obtain ⟨hx, hb, hml, hown, hts⟩ := id S
  have hS : va_S (hA G.2.2.2) s.heap s.heap [] := va_S.rf
  have hl : lv_has ls 2 [(0, .ref (ad 2)), (1, .int x)] := hl
  refine lv_aload_n hx hb dX3_begin_0 rfl (lv_at hl 0 rfl) ?_
  refine hr_get S hE hW h2 inX3 (C := RX3) (T := TX3) (N := 2) rfl 1 (by decide) q_f_3_15 rfl dX3_begin_1 ?_
  refine lv_if_lt (tgt := 29) hx hb dX3_begin_4 (by decide) (fun c_4 => ?_) (fun c_4 => ?_)
  · refine lv_aload_n hx hb dX3_begin_29 rfl (lv_at hl 0 rfl) ?_
    refine lv_dup hx hb dX3_begin_30 rfl ?_
    refine hr_get S hE hW h2 inX3 (C := RX3) (T := TX3) (N := 2) rfl 1 (by decide) q_f_3_15 rfl dX3_begin_31 ?_
    refine lv_iconst (v := 1) hx hb dX3_begin_34 (by decide) ?_
    refine lv_iadd hx hb dX3_begin_35 ?_
    refine hr_put S hE hW hS h2 inX3 (C := RX3) (T := TX3) (N := 2) tyX3_ok nmX3 rfl 1 (by decide) q_f_3_15 rfl rfl rfl (Nat.le_of_ble_eq_true rfl) dX3_begin_36 (fun H locs ct_1 hW hk_2 hg_3 hz hS => ?_)
    have h_4 := (hg_3 3 (by decide)).trans h3
    have h_5 : ct_1 2 = some (.inr (3, [.ref (ad 3), .int (b + 1)])) := hk_2
    exact h_vret S hr hlk hS hW dX3_begin_39 ⟨h_5, (by rw [h_4]; simp [bgF, c_4]), (fun j q0 q1 => hg_3 j q0)⟩
  · refine lv_aload_n hx hb dX3_begin_7 rfl (lv_at hl 0 rfl) ?_
    refine hr_get S hE hW h2 inX3 (C := RX3) (T := TX3) (N := 2) rfl 1 (by decide) q_f_3_15 rfl dX3_begin_8 ?_
    refine lv_aload_n hx hb dX3_begin_11 rfl (lv_at hl 0 rfl) ?_
    refine hr_get S hE hW h2 inX3 (C := RX3) (T := TX3) (N := 2) rfl 0 (by decide) q_f_3_11 rfl dX3_begin_12 ?_
    refine hr_alen S hE hW h3 0 rfl (v := 64) rfl dX3_begin_15 ?_
    refine lv_icmp_ge (tgt := 29) hx hb dX3_begin_16 (by decide) (fun c_16 => ?_) (fun c_16 => ?_)
    · refine lv_aload_n hx hb dX3_begin_29 rfl (lv_at hl 0 rfl) ?_
      refine lv_dup hx hb dX3_begin_30 rfl ?_
      refine hr_get S hE hW h2 inX3 (C := RX3) (T := TX3) (N := 2) rfl 1 (by decide) q_f_3_15 rfl dX3_begin_31 ?_
      refine lv_iconst (v := 1) hx hb dX3_begin_34 (by decide) ?_
      refine lv_iadd hx hb dX3_begin_35 ?_
      refine hr_put S hE hW hS h2 inX3 (C := RX3) (T := TX3) (N := 2) tyX3_ok nmX3 rfl 1 (by decide) q_f_3_15 rfl rfl rfl (Nat.le_of_ble_eq_true rfl) dX3_begin_36 (fun H locs ct_6 hW hk_7 hg_8 hz hS => ?_)
      have h_9 := (hg_8 3 (by decide)).trans h3
      have h_10 : ct_6 2 = some (.inr (3, [.ref (ad 3), .int (b + 1)])) := hk_7
      exact h_vret S hr hlk hS hW dX3_begin_39 ⟨h_10, (by rw [h_9]; simp [bgF, c_4, c_16]), (fun j q0 q1 => hg_8 j q0)⟩
    · refine lv_aload_n hx hb dX3_begin_19 rfl (lv_at hl 0 rfl) ?_
      refine hr_get S hE hW h2 inX3 (C := RX3) (T := TX3) (N := 2) rfl 0 (by decide) q_f_3_11 rfl dX3_begin_20 ?_
      refine lv_aload_n hx hb dX3_begin_23 rfl (lv_at hl 0 rfl) ?_
      refine hr_get S hE hW h2 inX3 (C := RX3) (T := TX3) (N := 2) rfl 1 (by decide) q_f_3_15 rfl dX3_begin_24 ?_
      refine lv_iload_n hx hb dX3_begin_27 rfl (lv_at hl 1 rfl) ?_
      refine hr_iast S hE hW hS h3 (by exact in_lt (N := 64) (by omega) rfl c_4 c_16) dX3_begin_28 (fun H locs ct_11 hW hk_12 hg_13 hz hS => ?_)
      have h_14 := (hg_13 2 (by decide)).trans h2
      have h_15 : ct_11 3 = some (.inl (G.2.1.1, 64, .inl (upd f (b).toNatClampNeg x))) := hk_12
      refine lv_aload_n hx hb dX3_begin_29 rfl (lv_at hl 0 rfl) ?_
      refine lv_dup hx hb dX3_begin_30 rfl ?_
      refine hr_get S hE hW h_14 inX3 (C := RX3) (T := TX3) (N := 2) rfl 1 (by decide) q_f_3_15 rfl dX3_begin_31 ?_
      refine lv_iconst (v := 1) hx hb dX3_begin_34 (by decide) ?_
      refine lv_iadd hx hb dX3_begin_35 ?_
      refine hr_put S hE hW hS h_14 inX3 (C := RX3) (T := TX3) (N := 2) tyX3_ok nmX3 rfl 1 (by decide) q_f_3_15 rfl rfl rfl (Nat.le_of_ble_eq_true rfl) dX3_begin_36 (fun H locs ct_16 hW hk_17 hg_18 hz hS => ?_)
      have h_19 := (hg_18 3 (by decide)).trans h_15
      have h_20 : ct_16 2 = some (.inr (3, [.ref (ad 3), .int (b + 1)])) := hk_17
      exact h_vret S hr hlk hS hW dX3_begin_39 ⟨h_20, (by rw [h_19]; simp [bgF, c_4, c_16]), (fun j q0 q1 => (hg_18 j q0).trans (hg_13 j q1))⟩
set_option maxRecDepth 100000 in
set_option maxHeartbeats 4000000 in
theorem c_X3_clear (l : Launch) (G : hG) (ad : Nat → Nat) (ct : Nat → Option va_E) {b : Int32} (h2 : ct 2 = some (.inr (3, [.ref (ad 3), .int b])))  : Met l yX3_clear wzX3_clear { frames := 0, cells := 0, slots := 0, locals := 0 } (hPw [.ref (ad 2)] G ad ct) (hQv (fun ct1 => ct1 2 = some (.inr (3, [.ref (ad 3), .int 0])) ∧ ∀ j, j ≠ 2 → ct1 j = ct j) G ad) 0 0 (hA G.2.2.2) := by
  refine hMetw (by decide) (Nat.le_of_ble_eq_true rfl) (fun p e s m below meth c ls S hr hlk hE hW hl => ?_)
  obtain ⟨hx, hb, hml, hown, hts⟩ := id S
  have hS : va_S (hA G.2.2.2) s.heap s.heap [] := va_S.rf
  have hl : lv_has ls 1 [(0, .ref (ad 2))] := hl
  refine lv_aload_n hx hb dX3_clear_0 rfl (lv_at hl 0 rfl) ?_
  refine lv_iconst (v := 0) hx hb dX3_clear_1 (by decide) ?_
  refine hr_put S hE hW hS h2 inX3 (C := RX3) (T := TX3) (N := 2) tyX3_ok nmX3 rfl 1 (by decide) q_f_3_15 rfl rfl rfl (Nat.le_of_ble_eq_true rfl) dX3_clear_2 (fun H locs ct_1 hW hk_2 hg_3 hz hS => ?_)
  have h_4 : ct_1 2 = some (.inr (3, [.ref (ad 3), .int 0])) := hk_2
  exact h_vret S hr hlk hS hW dX3_clear_5 ⟨h_4, (fun j q0 => hg_3 j q0)⟩
def keptF (b : Int32) (f : Nat → Int32) (i : Int32) : Int32 := if i < 0 then -1 else if b ≤ i then -1 else if 64 ≤ i then -1 else f i.toNatClampNeg
set_option maxRecDepth 100000 in
set_option maxHeartbeats 4000000 in
theorem c_X3_keptAt (l : Launch) (G : hG) (H : Heap) {ad : Nat → Nat} {ct : Nat → Option va_E} (hW : hw G ad ct H) {b : Int32} {f : Nat → Int32} (h2 : ct 2 = some (.inr (3, [.ref (ad 3), .int b]))) (h3 : ct 3 = some (.inl (G.2.1.1, 64, .inl f))) (i : Int32)  : Met l yX3_keptAt wzX3_keptAt { frames := 0, cells := 0, slots := 0, locals := 0 } (hPr [.ref (ad 2), .int i] G H) (hQr (keptF b f i) H G.2.2.2) 0 0 (hA G.2.2.2) := by
  refine hMetr (Qc := fun H => hQr (keptF b f i) H G.2.2.2) (by decide) (Nat.le_of_ble_eq_true rfl) (fun p e s m below meth c ls S hr hlk hE hH hl => ?_)
  subst hH
  obtain ⟨hx, hb, hml, hown, hts⟩ := id S
  have hS : va_S (hA G.2.2.2) s.heap s.heap [] := va_S.rf
  have hl : lv_has ls 2 [(0, .ref (ad 2)), (1, .int i)] := hl
  refine lv_iload_n hx hb dX3_keptAt_0 rfl (lv_at hl 1 rfl) ?_
  refine lv_if_lt (tgt := 30) hx hb dX3_keptAt_1 (by decide) (fun c_1 => ?_) (fun c_1 => ?_)
  · refine lv_iconst (v := (-1)) hx hb dX3_keptAt_30 (by decide) ?_
    exact h_rret S hr hlk hS dX3_keptAt_31 (by simp [keptF, c_1])
  · refine lv_iload_n hx hb dX3_keptAt_4 rfl (lv_at hl 1 rfl) ?_
    refine lv_aload_n hx hb dX3_keptAt_5 rfl (lv_at hl 0 rfl) ?_
    refine hr_get S hE hW h2 inX3 (C := RX3) (T := TX3) (N := 2) rfl 1 (by decide) q_f_3_15 rfl dX3_keptAt_6 ?_
    refine lv_icmp_ge (tgt := 30) hx hb dX3_keptAt_9 (by decide) (fun c_9 => ?_) (fun c_9 => ?_)
    · refine lv_iconst (v := (-1)) hx hb dX3_keptAt_30 (by decide) ?_
      exact h_rret S hr hlk hS dX3_keptAt_31 (by simp [keptF, c_1, c_9])
    · refine lv_iload_n hx hb dX3_keptAt_12 rfl (lv_at hl 1 rfl) ?_
      refine lv_aload_n hx hb dX3_keptAt_13 rfl (lv_at hl 0 rfl) ?_
      refine hr_get S hE hW h2 inX3 (C := RX3) (T := TX3) (N := 2) rfl 0 (by decide) q_f_3_11 rfl dX3_keptAt_14 ?_
      refine hr_alen S hE hW h3 0 rfl (v := 64) rfl dX3_keptAt_17 ?_
      refine lv_icmp_ge (tgt := 30) hx hb dX3_keptAt_18 (by decide) (fun c_18 => ?_) (fun c_18 => ?_)
      · refine lv_iconst (v := (-1)) hx hb dX3_keptAt_30 (by decide) ?_
        exact h_rret S hr hlk hS dX3_keptAt_31 (by simp [keptF, c_1, c_9, c_18])
      · refine lv_aload_n hx hb dX3_keptAt_21 rfl (lv_at hl 0 rfl) ?_
        refine hr_get S hE hW h2 inX3 (C := RX3) (T := TX3) (N := 2) rfl 0 (by decide) q_f_3_11 rfl dX3_keptAt_22 ?_
        refine lv_iload_n hx hb dX3_keptAt_25 rfl (lv_at hl 1 rfl) ?_
        refine hr_iald S hE hW h3 (in_lt (N := 64) (by omega) rfl c_1 c_18) dX3_keptAt_26 ?_
        refine lv_goto (tgt := 31) hx hb dX3_keptAt_27 (by decide) ?_
        exact h_rret S hr hlk hS dX3_keptAt_31 (by simp [keptF, c_1, c_9, c_18])
set_option maxRecDepth 100000 in
set_option maxHeartbeats 4000000 in
theorem c_X0_bears (l : Launch) (G : hG) (H : Heap) {ad : Nat → Nat} {ct : Nat → Option va_E} (hW : hw G ad ct H) {k : Nat} {t v c0 : Int32} {r : Nat → Value} (hk : ct k = some (.inr (0, [.ref (ad 1), .ref (ad 2), .int t, .int (takActF t), .int v, .int c0, r 5, r 6, r 7, r 8, r 9, r 10, r 11]))) (h1 : ct 1 = some (.inr (1, [.ref (ad 4), .ref (ad 5)]))) (h4 : ct 4 = some (.inl (G.2.1.1, 18, .inl borT))) (w : Int32)  : Met l yX0_bears wzX0_bears { frames := 2, cells := 0, slots := 0, locals := 43 } (hPr [.ref (ad k), .int w] G H) (hQr (bearsF borT t w) H G.2.2.2) 0 0 (hA G.2.2.2) := by
  refine hMetr (Qc := fun H => hQr (bearsF borT t w) H G.2.2.2) (by decide) (Nat.le_of_ble_eq_true rfl) (fun p e s m below meth c ls S hr hlk hE hH hl => ?_)
  subst hH
  obtain ⟨hx, hb, hml, hown, hts⟩ := id S
  have hS : va_S (hA G.2.2.2) s.heap s.heap [] := va_S.rf
  have hl : lv_has ls 2 [(0, .ref (ad k)), (1, .int w)] := hl
  refine lv_aload_n hx hb dX0_bears_0 rfl (lv_at hl 0 rfl) ?_
  refine hr_get S hE hW hk inX0 (C := RX0) (T := TX0) (N := 13) rfl 0 (by decide) q_f_0_9 rfl dX0_bears_1 ?_
  refine lv_aload_n hx hb dX0_bears_4 rfl (lv_at hl 0 rfl) ?_
  refine hr_get S hE hW hk inX0 (C := RX0) (T := TX0) (N := 13) rfl 2 (by decide) q_f_0_19 rfl dX0_bears_5 ?_
  refine lv_iload_n hx hb dX0_bears_8 rfl (lv_at hl 1 rfl) ?_
  refine hc_r (va_runVN (As := [.int t, .int w]) (rest := []) S (c_X1_bears l G _ hW h1 h4 t w) ⟨va_cnB 2 hts (gWS q_co_X1_bears) rfl rfl rfl (hE.nest 15 rfl) (hts _ q_in_1) (by decide +kernel) ⟨Nat.le_of_ble_eq_true rfl, Nat.le_of_ble_eq_true rfl⟩, hts _ q_im_X1_bears, hts _ q_se_X1_bears⟩ (hPreVr hE hS (hrecv hE hW h1 (q := (RX1, TX1, 2)) rfl)) rfl rfl hl.1 rfl (lv_room (Nat.le_of_ble_eq_true rfl)) dX0_bears_9 ⟨Nat.le_of_ble_eq_true rfl, Nat.le_of_ble_eq_true rfl⟩) hS (fun locs hS => ?_)
  exact h_rzret S hr hlk hS dX0_bears_12 (bearsF_b borT t w) rfl
def devHasF (t w a : Int32) : Int32 := if w = 0 then khaL borT t a 6 1 else hasActF w a
theorem devHasF_b (t w a : Int32) : devHasF t w a = 0 ∨ devHasF t w a = 1 := by unfold devHasF; split; exact khaL_b _ _ _ _ _; exact hasActF_b _ _
set_option maxRecDepth 100000 in
set_option maxHeartbeats 4000000 in
theorem c_X0_hasAct (l : Launch) (G : hG) (H : Heap) {ad : Nat → Nat} {ct : Nat → Option va_E} (hW : hw G ad ct H) {k : Nat} {t v c0 : Int32} {r : Nat → Value} (hk : ct k = some (.inr (0, [.ref (ad 1), .ref (ad 2), .int t, .int (takActF t), .int v, .int c0, r 5, r 6, r 7, r 8, r 9, r 10, r 11]))) (h1 : ct 1 = some (.inr (1, [.ref (ad 4), .ref (ad 5)]))) (h4 : ct 4 = some (.inl (G.2.1.1, 18, .inl borT))) (w a : Int32)  : Met l yX0_hasAct wzX0_hasAct { frames := 3, cells := 0, slots := 0, locals := 66 } (hPr [.ref (ad k), .int w, .int a] G H) (hQr (devHasF t w a) H G.2.2.2) 0 0 (hA G.2.2.2) := by
  refine hMetr (Qc := fun H => hQr (devHasF t w a) H G.2.2.2) (by decide) (Nat.le_of_ble_eq_true rfl) (fun p e s m below meth c ls S hr hlk hE hH hl => ?_)
  subst hH
  obtain ⟨hx, hb, hml, hown, hts⟩ := id S
  have hS : va_S (hA G.2.2.2) s.heap s.heap [] := va_S.rf
  have hl : lv_has ls 3 [(0, .ref (ad k)), (1, .int w), (2, .int a)] := hl
  refine lv_iload_n hx hb dX0_hasAct_0 rfl (lv_at hl 1 rfl) ?_
  refine lv_if_ne (tgt := 19) hx hb dX0_hasAct_1 (by decide) (fun c_1 => ?_) (fun c_1 => ?_)
  · refine lv_aload_n hx hb dX0_hasAct_19 rfl (lv_at hl 0 rfl) ?_
    refine hr_get S hE hW hk inX0 (C := RX0) (T := TX0) (N := 13) rfl 0 (by decide) q_f_0_9 rfl dX0_hasAct_20 ?_
    refine lv_iload_n hx hb dX0_hasAct_23 rfl (lv_at hl 1 rfl) ?_
    refine lv_iload_n hx hb dX0_hasAct_24 rfl (lv_at hl 2 rfl) ?_
    refine hc_r (va_runVN (As := [.int w, .int a]) (rest := []) S (c_X1_hasAct l G _ hW h1 w a) ⟨va_cnB 2 hts (gWS q_co_X1_hasAct) rfl rfl rfl (hE.nest 18 rfl) (hts _ q_in_1) (by decide +kernel) ⟨Nat.le_of_ble_eq_true rfl, Nat.le_of_ble_eq_true rfl⟩, hts _ q_im_X1_hasAct, hts _ q_se_X1_hasAct⟩ (hPreVr hE hS (hrecv hE hW h1 (q := (RX1, TX1, 2)) rfl)) rfl rfl hl.1 rfl (lv_room (Nat.le_of_ble_eq_true rfl)) dX0_hasAct_25 ⟨Nat.le_of_ble_eq_true rfl, Nat.le_of_ble_eq_true rfl⟩) hS (fun locs hS => ?_)
    exact h_rzret S hr hlk hS dX0_hasAct_28 (devHasF_b t w a) (by simp [devHasF, c_1])
  · refine lv_aload_n hx hb dX0_hasAct_4 rfl (lv_at hl 0 rfl) ?_
    refine hr_get S hE hW hk inX0 (C := RX0) (T := TX0) (N := 13) rfl 0 (by decide) q_f_0_9 rfl dX0_hasAct_5 ?_
    refine lv_aload_n hx hb dX0_hasAct_8 rfl (lv_at hl 0 rfl) ?_
    refine hr_get S hE hW hk inX0 (C := RX0) (T := TX0) (N := 13) rfl 2 (by decide) q_f_0_19 rfl dX0_hasAct_9 ?_
    refine lv_iload_n hx hb dX0_hasAct_12 rfl (lv_at hl 2 rfl) ?_
    refine hc_r (va_runVN (As := [.int t, .int a]) (rest := []) S (c_X1_kindHasAct l G _ hW h1 h4 t a) ⟨va_cnB 2 hts (gWS q_co_X1_kindHasAct) rfl rfl rfl (hE.nest 17 rfl) (hts _ q_in_1) (by decide +kernel) ⟨Nat.le_of_ble_eq_true rfl, Nat.le_of_ble_eq_true rfl⟩, hts _ q_im_X1_kindHasAct, hts _ q_se_X1_kindHasAct⟩ (hPreVr hE hS (hrecv hE hW h1 (q := (RX1, TX1, 2)) rfl)) rfl rfl hl.1 rfl (lv_room (Nat.le_of_ble_eq_true rfl)) dX0_hasAct_13 ⟨Nat.le_of_ble_eq_true rfl, Nat.le_of_ble_eq_true rfl⟩) hS (fun locs hS => ?_)
    refine lv_goto (tgt := 28) hx hb dX0_hasAct_16 (by decide) ?_
    exact h_rzret S hr hlk hS dX0_hasAct_28 (devHasF_b t w a) (by simp [devHasF, c_1])
/-- the contract of run, at n levels left -/
def RunC (l : Launch) (G : hG) (n : Nat) : Prop := ∀ (ad : Nat → Nat) (ct : Nat → Option va_E) (k : Nat) (t : Int32) (r : Nat → Value) (q : St) (b x : Int32) (d : Nat), 100 ≤ k → b ∈ okBl → d + n = 40 → ct 1 = some (.inr (1, [.ref (ad 4), .ref (ad 5)])) → ct 5 = some (.inl (G.2.1.1, 216, .inl selT)) → dW G ad ct k t r q →
  Met l yX0_run wzX0_run { frames := 3 * n + 2, cells := 0, slots := 0, locals := 70 * n + 20 } (hPw [.ref (ad k), .int b, .int x, .int (nI d)] G ad ct) (hQi (fun rr ct1 => rr = (runS n t b x q).1 ∧ dW G ad ct1 k t r (runS n t b x q).2 ∧ ∀ j, j ≠ k → j ≠ 2 → j ≠ 3 → ct1 j = ct j) G ad) 0 0 (hA G.2.2.2)
set_option maxRecDepth 100000 in
set_option maxHeartbeats 4000000 in
theorem c_X0_act (l : Launch) (G : hG) (ad : Nat → Nat) (ct : Nat → Option va_E) (n : Nat) (ih : RunC l G n) {k : Nat} {t : Int32} {r : Nat → Value} {q : St} (hk100 : 100 ≤ k) (h1 : ct 1 = some (.inr (1, [.ref (ad 4), .ref (ad 5)]))) (h5 : ct 5 = some (.inl (G.2.1.1, 216, .inl selT))) (hd : dW G ad ct k t r q) (d : Nat) (hdn : d + n = 40) (a x : Int32)  : Met l yX0_act wzX0_act { frames := 3 * n + 3, cells := 0, slots := 0, locals := 70 * n + 43 } (hPw [.ref (ad k), .int a, .int x, .int (nI d)] G ad ct) (hQi (fun rr ct1 => rr = (runS n t (selOfF selT t a) x q).1 ∧ dW G ad ct1 k t r (runS n t (selOfF selT t a) x q).2 ∧ ∀ j, j ≠ k → j ≠ 2 → j ≠ 3 → ct1 j = ct j) G ad) 0 0 (hA G.2.2.2) := by
  refine hMetw (by decide) (Nat.le_of_ble_eq_true rfl) (fun p e s m below meth c ls S hr hlk hE hW hl => ?_)
  obtain ⟨hx, hb, hml, hown, hts⟩ := id S
  have hS : va_S (hA G.2.2.2) s.heap s.heap [] := va_S.rf
  have hl : lv_has ls 4 [(0, .ref (ad k)), (1, .int a), (2, .int x), (3, .int (nI d))] := hl
  obtain ⟨hk, h2, h3⟩ := hd
  refine lv_aload_n hx hb dX0_act_0 rfl (lv_at hl 0 rfl) ?_
  refine lv_aload_n hx hb dX0_act_1 rfl (lv_at hl 0 rfl) ?_
  refine hr_get S hE hW hk inX0 (C := RX0) (T := TX0) (N := 13) rfl 0 (by decide) q_f_0_9 rfl dX0_act_2 ?_
  refine lv_aload_n hx hb dX0_act_5 rfl (lv_at hl 0 rfl) ?_
  refine hr_get S hE hW hk inX0 (C := RX0) (T := TX0) (N := 13) rfl 2 (by decide) q_f_0_19 rfl dX0_act_6 ?_
  refine lv_iload_n hx hb dX0_act_9 rfl (lv_at hl 1 rfl) ?_
  refine hc_r (va_runVN (As := [.int t, .int a]) (rest := [.ref (ad k)]) S (c_X1_selectedOf l G _ hW h1 h5 t a) ⟨va_cnB 2 hts (gWS q_co_X1_selectedOf) rfl rfl rfl (hE.nest 21 rfl) (hts _ q_in_1) (by decide +kernel) ⟨by dsimp only; omega, by dsimp only; omega⟩, hts _ q_im_X1_selectedOf, hts _ q_se_X1_selectedOf⟩ (hPreVr hE hS (hrecv hE hW h1 (q := (RX1, TX1, 2)) rfl)) rfl rfl hl.1 rfl (lv_room (Nat.le_of_ble_eq_true rfl)) dX0_act_10 ⟨Nat.le_of_ble_eq_true rfl, Nat.le_of_ble_eq_true rfl⟩) hS (fun locs hS => ?_)
  refine lv_iload_n hx hb dX0_act_13 rfl (lv_at hl 2 rfl) ?_
  refine lv_iload_n hx hb dX0_act_14 rfl (lv_at hl 3 rfl) ?_
  refine hc_i (va_runV (As := [.int (selOfF selT t a), .int x, .int (nI d)]) (rest := []) S (ih ad _ k t r q (selOfF selT t a) x d hk100 (okB_sel _ _) hdn h1 h5 ⟨hk, h2, h3⟩) (cwV 3 hts (gWSV q_l_0_83 q_im_X0_run q_se_X0_run q_in_0 q_co_X0_run) rfl rfl rfl (by decide +kernel) ⟨by dsimp only; omega, by dsimp only; omega⟩) (hPreVw hE hS (hrecv hE hW hk (q := (RX0, TX0, 13)) rfl) hW) rfl rfl hl.1 rfl (lv_room (Nat.le_of_ble_eq_true rfl)) dX0_act_15 ⟨Nat.le_of_ble_eq_true rfl, Nat.le_of_ble_eq_true rfl⟩) hS (fun rv_7 ct_1 H locs hp hW hS => ?_)
  obtain ⟨ev_6, ⟨h_2, h_3, h_4⟩, hg_5⟩ := hp
  subst ev_6
  have h_8 := (hg_5 1 (by omega) (by decide) (by decide)).trans h1
  have h_9 := (hg_5 5 (by omega) (by decide) (by decide)).trans h5
  exact h_iret S hr hlk hS hW dX0_act_18 ⟨rfl, ⟨h_2, h_3, h_4⟩, (fun j q0 q1 q2 => hg_5 j q0 q1 q2)⟩
set_option maxRecDepth 100000 in
set_option maxHeartbeats 4000000 in
theorem c_X0_parentAct (l : Launch) (G : hG) (ad : Nat → Nat) (ct : Nat → Option va_E) (n : Nat) (ih : RunC l G n) {k : Nat} {t : Int32} {r : Nat → Value} {q : St} (hk100 : 100 ≤ k) (h1 : ct 1 = some (.inr (1, [.ref (ad 4), .ref (ad 5)]))) (h5 : ct 5 = some (.inl (G.2.1.1, 216, .inl selT))) (hd : dW G ad ct k t r q) (d : Nat) (hdn : d + n = 40) (cl a x : Int32)  : Met l yX0_parentAct wzX0_parentAct { frames := 3 * n + 3, cells := 0, slots := 0, locals := 70 * n + 43 } (hPw [.ref (ad k), .int cl, .int a, .int x, .int (nI d)] G ad ct) (hQi (fun rr ct1 => rr = (runS n t (selOfF selT (parentF cl) a) x q).1 ∧ dW G ad ct1 k t r (runS n t (selOfF selT (parentF cl) a) x q).2 ∧ ∀ j, j ≠ k → j ≠ 2 → j ≠ 3 → ct1 j = ct j) G ad) 0 0 (hA G.2.2.2) := by
  refine hMetw (by decide) (Nat.le_of_ble_eq_true rfl) (fun p e s m below meth c ls S hr hlk hE hW hl => ?_)
  obtain ⟨hx, hb, hml, hown, hts⟩ := id S
  have hS : va_S (hA G.2.2.2) s.heap s.heap [] := va_S.rf
  have hl : lv_has ls 5 [(0, .ref (ad k)), (1, .int cl), (2, .int a), (3, .int x), (4, .int (nI d))] := hl
  obtain ⟨hk, h2, h3⟩ := hd
  refine lv_aload_n hx hb dX0_parentAct_0 rfl (lv_at hl 0 rfl) ?_
  refine lv_aload_n hx hb dX0_parentAct_1 rfl (lv_at hl 0 rfl) ?_
  refine hr_get S hE hW hk inX0 (C := RX0) (T := TX0) (N := 13) rfl 0 (by decide) q_f_0_9 rfl dX0_parentAct_2 ?_
  refine lv_iload_n hx hb dX0_parentAct_5 rfl (lv_at hl 1 rfl) ?_
  refine hc_r (va_runSN (As := [.int cl]) (rest := [.ref (ad 1), .ref (ad k)]) S (c_X1_parentOf l G _ cl) ⟨va_cnB 1 hts (gWS q_co_X1_parentOf) rfl rfl rfl (hE.nest 23 rfl) (hts _ q_in_1) (by decide +kernel) ⟨by dsimp only; omega, by dsimp only; omega⟩, hts _ q_st_X1_parentOf, trivial⟩ (hPreSr hE hS) rfl rfl hl.1 rfl (lv_room (Nat.le_of_ble_eq_true rfl)) dX0_parentAct_6 ⟨Nat.le_of_ble_eq_true rfl, Nat.le_of_ble_eq_true rfl⟩) hS (fun locs hS => ?_)
  refine lv_iload_n hx hb dX0_parentAct_9 rfl (lv_at hl 2 rfl) ?_
  refine hc_r (va_runVN (As := [.int (parentF cl), .int a]) (rest := [.ref (ad k)]) S (c_X1_selectedOf l G _ hW h1 h5 (parentF cl) a) ⟨va_cnB 2 hts (gWS q_co_X1_selectedOf) rfl rfl rfl (hE.nest 21 rfl) (hts _ q_in_1) (by decide +kernel) ⟨by dsimp only; omega, by dsimp only; omega⟩, hts _ q_im_X1_selectedOf, hts _ q_se_X1_selectedOf⟩ (hPreVr hE hS (hrecv hE hW h1 (q := (RX1, TX1, 2)) rfl)) rfl rfl hl.1 rfl (lv_room (Nat.le_of_ble_eq_true rfl)) dX0_parentAct_10 ⟨Nat.le_of_ble_eq_true rfl, Nat.le_of_ble_eq_true rfl⟩) hS (fun locs hS => ?_)
  refine lv_iload_n hx hb dX0_parentAct_13 rfl (lv_at hl 3 rfl) ?_
  refine lv_iload hx hb dX0_parentAct_14 (lv_at hl 4 rfl) ?_
  refine hc_i (va_runV (As := [.int (selOfF selT (parentF cl) a), .int x, .int (nI d)]) (rest := []) S (ih ad _ k t r q (selOfF selT (parentF cl) a) x d hk100 (okB_sel _ _) hdn h1 h5 ⟨hk, h2, h3⟩) (cwV 3 hts (gWSV q_l_0_83 q_im_X0_run q_se_X0_run q_in_0 q_co_X0_run) rfl rfl rfl (by decide +kernel) ⟨by dsimp only; omega, by dsimp only; omega⟩) (hPreVw hE hS (hrecv hE hW hk (q := (RX0, TX0, 13)) rfl) hW) rfl rfl hl.1 rfl (lv_room (Nat.le_of_ble_eq_true rfl)) dX0_parentAct_16 ⟨Nat.le_of_ble_eq_true rfl, Nat.le_of_ble_eq_true rfl⟩) hS (fun rv_7 ct_1 H locs hp hW hS => ?_)
  obtain ⟨ev_6, ⟨h_2, h_3, h_4⟩, hg_5⟩ := hp
  subst ev_6
  have h_8 := (hg_5 1 (by omega) (by decide) (by decide)).trans h1
  have h_9 := (hg_5 5 (by omega) (by decide) (by decide)).trans h5
  exact h_iret S hr hlk hS hW dX0_parentAct_19 ⟨rfl, ⟨h_2, h_3, h_4⟩, (fun j q0 q1 q2 => hg_5 j q0 q1 q2)⟩
set_option maxRecDepth 100000 in
set_option maxHeartbeats 4000000 in
theorem c_X0_interfaceAct (l : Launch) (G : hG) (ad : Nat → Nat) (ct : Nat → Option va_E) (n : Nat) (ih : RunC l G n) {k : Nat} {t : Int32} {r : Nat → Value} {q : St} (hk100 : 100 ≤ k) (h1 : ct 1 = some (.inr (1, [.ref (ad 4), .ref (ad 5)]))) (h5 : ct 5 = some (.inl (G.2.1.1, 216, .inl selT))) (hd : dW G ad ct k t r q) (d : Nat) (hdn : d + n = 40) (cl a x : Int32)  : Met l yX0_interfaceAct wzX0_interfaceAct { frames := 3 * n + 3, cells := 0, slots := 0, locals := 70 * n + 43 } (hPw [.ref (ad k), .int cl, .int a, .int x, .int (nI d)] G ad ct) (hQi (fun rr ct1 => rr = (runS n t (selOfF selT cl a) x q).1 ∧ dW G ad ct1 k t r (runS n t (selOfF selT cl a) x q).2 ∧ ∀ j, j ≠ k → j ≠ 2 → j ≠ 3 → ct1 j = ct j) G ad) 0 0 (hA G.2.2.2) := by
  refine hMetw (by decide) (Nat.le_of_ble_eq_true rfl) (fun p e s m below meth c ls S hr hlk hE hW hl => ?_)
  obtain ⟨hx, hb, hml, hown, hts⟩ := id S
  have hS : va_S (hA G.2.2.2) s.heap s.heap [] := va_S.rf
  have hl : lv_has ls 5 [(0, .ref (ad k)), (1, .int cl), (2, .int a), (3, .int x), (4, .int (nI d))] := hl
  obtain ⟨hk, h2, h3⟩ := hd
  refine lv_aload_n hx hb dX0_interfaceAct_0 rfl (lv_at hl 0 rfl) ?_
  refine lv_aload_n hx hb dX0_interfaceAct_1 rfl (lv_at hl 0 rfl) ?_
  refine hr_get S hE hW hk inX0 (C := RX0) (T := TX0) (N := 13) rfl 0 (by decide) q_f_0_9 rfl dX0_interfaceAct_2 ?_
  refine lv_iload_n hx hb dX0_interfaceAct_5 rfl (lv_at hl 1 rfl) ?_
  refine lv_iload_n hx hb dX0_interfaceAct_6 rfl (lv_at hl 2 rfl) ?_
  refine hc_r (va_runVN (As := [.int cl, .int a]) (rest := [.ref (ad k)]) S (c_X1_selectedOf l G _ hW h1 h5 cl a) ⟨va_cnB 2 hts (gWS q_co_X1_selectedOf) rfl rfl rfl (hE.nest 21 rfl) (hts _ q_in_1) (by decide +kernel) ⟨by dsimp only; omega, by dsimp only; omega⟩, hts _ q_im_X1_selectedOf, hts _ q_se_X1_selectedOf⟩ (hPreVr hE hS (hrecv hE hW h1 (q := (RX1, TX1, 2)) rfl)) rfl rfl hl.1 rfl (lv_room (Nat.le_of_ble_eq_true rfl)) dX0_interfaceAct_7 ⟨Nat.le_of_ble_eq_true rfl, Nat.le_of_ble_eq_true rfl⟩) hS (fun locs hS => ?_)
  refine lv_iload_n hx hb dX0_interfaceAct_10 rfl (lv_at hl 3 rfl) ?_
  refine lv_iload hx hb dX0_interfaceAct_11 (lv_at hl 4 rfl) ?_
  refine hc_i (va_runV (As := [.int (selOfF selT cl a), .int x, .int (nI d)]) (rest := []) S (ih ad _ k t r q (selOfF selT cl a) x d hk100 (okB_sel _ _) hdn h1 h5 ⟨hk, h2, h3⟩) (cwV 3 hts (gWSV q_l_0_83 q_im_X0_run q_se_X0_run q_in_0 q_co_X0_run) rfl rfl rfl (by decide +kernel) ⟨by dsimp only; omega, by dsimp only; omega⟩) (hPreVw hE hS (hrecv hE hW hk (q := (RX0, TX0, 13)) rfl) hW) rfl rfl hl.1 rfl (lv_room (Nat.le_of_ble_eq_true rfl)) dX0_interfaceAct_13 ⟨Nat.le_of_ble_eq_true rfl, Nat.le_of_ble_eq_true rfl⟩) hS (fun rv_7 ct_1 H locs hp hW hS => ?_)
  obtain ⟨ev_6, ⟨h_2, h_3, h_4⟩, hg_5⟩ := hp
  subst ev_6
  have h_8 := (hg_5 1 (by omega) (by decide) (by decide)).trans h1
  have h_9 := (hg_5 5 (by omega) (by decide) (by decide)).trans h5
  exact h_iret S hr hlk hS hW dX0_interfaceAct_16 ⟨rfl, ⟨h_2, h_3, h_4⟩, (fun j q0 q1 q2 => hg_5 j q0 q1 q2)⟩
set_option maxRecDepth 100000 in
set_option maxHeartbeats 4000000 in
theorem c_X0_runOfInterface (l : Launch) (G : hG) (ad : Nat → Nat) (ct : Nat → Option va_E) (n : Nat) (ih : RunC l G n) {k : Nat} {t : Int32} {r : Nat → Value} {q : St} (hk100 : 100 ≤ k) (h1 : ct 1 = some (.inr (1, [.ref (ad 4), .ref (ad 5)]))) (h5 : ct 5 = some (.inl (G.2.1.1, 216, .inl selT))) (hd : dW G ad ct k t r q) (d : Nat) (hdn : d + n = 40) (b x : Int32) (hbd : okBI b)  : Met l yX0_runOfInterface wzX0_runOfInterface { frames := 3 * n + 4, cells := 0, slots := 0, locals := 70 * n + 67 } (hPw [.ref (ad k), .int b, .int x, .int (nI d)] G ad ct) (hQi (fun rr ct1 => rr = (bodyS (runS n t) t b x q).1 ∧ dW G ad ct1 k t r (bodyS (runS n t) t b x q).2 ∧ ∀ j, j ≠ k → j ≠ 2 → j ≠ 3 → ct1 j = ct j) G ad) 0 0 (hA G.2.2.2) := by
  refine hMetw (by decide) (Nat.le_of_ble_eq_true rfl) (fun p e s m below meth c ls S hr hlk hE hW hl => ?_)
  obtain ⟨hx, hb, hml, hown, hts⟩ := id S
  have hS : va_S (hA G.2.2.2) s.heap s.heap [] := va_S.rf
  have hl : lv_has ls 4 [(0, .ref (ad k)), (1, .int b), (2, .int x), (3, .int (nI d))] := hl
  obtain ⟨hk, h2, h3⟩ := hd
  refine lv_iload_n hx hb dX0_runOfInterface_0 rfl (lv_at hl 1 rfl) ?_
  unfold okBI at hbd
  rcases hbd with rfl | rfl | rfl | rfl | rfl | rfl | rfl | rfl | rfl | rfl
  · refine lv_lookup (off := 91) (tgt := 92) hx hb dX0_runOfInterface_1 (by decide) (by decide) (by decide) ?_
    refine lv_aload_n hx hb dX0_runOfInterface_92 rfl (lv_at hl 0 rfl) ?_
    refine lv_iconst (v := 0) hx hb dX0_runOfInterface_93 (by decide) ?_
    refine lv_iload_n hx hb dX0_runOfInterface_94 rfl (lv_at hl 2 rfl) ?_
    refine lv_iload_n hx hb dX0_runOfInterface_95 rfl (lv_at hl 3 rfl) ?_
    refine hc_i (va_runV (As := [.int 0, .int x, .int (nI d)]) (rest := []) S (c_X0_act l G ad _ n ih (q := q) hk100 h1 h5 ⟨hk, h2, h3⟩ d hdn 0 x) (cwV 3 hts (gWSV q_l_0_72 q_im_X0_act q_se_X0_act q_in_0 q_co_X0_act) rfl rfl rfl (by decide +kernel) ⟨by dsimp only; omega, by dsimp only; omega⟩) (hPreVw hE hS (hrecv hE hW hk (q := (RX0, TX0, 13)) rfl) hW) rfl rfl hl.1 rfl (lv_room (Nat.le_of_ble_eq_true rfl)) dX0_runOfInterface_96 ⟨Nat.le_of_ble_eq_true rfl, Nat.le_of_ble_eq_true rfl⟩) hS (fun rv_7 ct_1 H locs hp hW hS => ?_)
    obtain ⟨ev_6, ⟨h_2, h_3, h_4⟩, hg_5⟩ := hp
    subst ev_6
    have h_8 := (hg_5 1 (by omega) (by decide) (by decide)).trans h1
    have h_9 := (hg_5 5 (by omega) (by decide) (by decide)).trans h5
    refine lv_iconst (v := 1) hx hb dX0_runOfInterface_99 (by decide) ?_
    refine lv_iadd hx hb dX0_runOfInterface_100 ?_
    exact h_iret S hr hlk hS hW dX0_runOfInterface_101 (by rw [bodyS_10]; exact ⟨rfl, ⟨h_2, h_3, h_4⟩, (fun j q0 q1 q2 => hg_5 j q0 q1 q2)⟩)
  · refine lv_lookup (off := 101) (tgt := 102) hx hb dX0_runOfInterface_1 (by decide) (by decide) (by decide) ?_
    refine lv_aload_n hx hb dX0_runOfInterface_102 rfl (lv_at hl 0 rfl) ?_
    refine lv_iconst (v := 1) hx hb dX0_runOfInterface_103 (by decide) ?_
    refine lv_iload_n hx hb dX0_runOfInterface_104 rfl (lv_at hl 2 rfl) ?_
    refine lv_iload_n hx hb dX0_runOfInterface_105 rfl (lv_at hl 3 rfl) ?_
    refine hc_i (va_runV (As := [.int 1, .int x, .int (nI d)]) (rest := []) S (c_X0_act l G ad _ n ih (q := q) hk100 h1 h5 ⟨hk, h2, h3⟩ d hdn 1 x) (cwV 3 hts (gWSV q_l_0_72 q_im_X0_act q_se_X0_act q_in_0 q_co_X0_act) rfl rfl rfl (by decide +kernel) ⟨by dsimp only; omega, by dsimp only; omega⟩) (hPreVw hE hS (hrecv hE hW hk (q := (RX0, TX0, 13)) rfl) hW) rfl rfl hl.1 rfl (lv_room (Nat.le_of_ble_eq_true rfl)) dX0_runOfInterface_106 ⟨Nat.le_of_ble_eq_true rfl, Nat.le_of_ble_eq_true rfl⟩) hS (fun rv_16 ct_10 H locs hp hW hS => ?_)
    obtain ⟨ev_15, ⟨h_11, h_12, h_13⟩, hg_14⟩ := hp
    subst ev_15
    have h_17 := (hg_14 1 (by omega) (by decide) (by decide)).trans h1
    have h_18 := (hg_14 5 (by omega) (by decide) (by decide)).trans h5
    refine lv_iconst (v := 3) hx hb dX0_runOfInterface_109 (by decide) ?_
    refine lv_imul hx hb dX0_runOfInterface_110 ?_
    refine lv_aload_n hx hb dX0_runOfInterface_111 rfl (lv_at hl 0 rfl) ?_
    refine lv_iconst (v := 0) hx hb dX0_runOfInterface_112 (by decide) ?_
    refine lv_iload_n hx hb dX0_runOfInterface_113 rfl (lv_at hl 2 rfl) ?_
    refine lv_iconst (v := 1) hx hb dX0_runOfInterface_114 (by decide) ?_
    refine lv_iadd hx hb dX0_runOfInterface_115 ?_
    refine lv_iload_n hx hb dX0_runOfInterface_116 rfl (lv_at hl 3 rfl) ?_
    refine hc_i (va_runV (As := [.int 0, .int (x + 1), .int (nI d)]) (rest := [.int (((runS n t (selOfF selT t 1) x q).1) * 3)]) S (c_X0_act l G ad _ n ih (q := ((runS n t (selOfF selT t 1) x q).2.1, (runS n t (selOfF selT t 1) x q).2.2.1, ((runS n t (selOfF selT t 1) x q).2).2.2.1, ((runS n t (selOfF selT t 1) x q).2).2.2.2)) hk100 h_17 h_18 ⟨h_11, h_12, h_13⟩ d hdn 0 (x + 1)) (cwV 3 hts (gWSV q_l_0_72 q_im_X0_act q_se_X0_act q_in_0 q_co_X0_act) rfl rfl rfl (by decide +kernel) ⟨by dsimp only; omega, by dsimp only; omega⟩) (hPreVw hE hS (hrecv hE hW h_11 (q := (RX0, TX0, 13)) rfl) hW) rfl rfl hl.1 rfl (lv_room (Nat.le_of_ble_eq_true rfl)) dX0_runOfInterface_117 ⟨Nat.le_of_ble_eq_true rfl, Nat.le_of_ble_eq_true rfl⟩) hS (fun rv_25 ct_19 H locs hp hW hS => ?_)
    obtain ⟨ev_24, ⟨h_20, h_21, h_22⟩, hg_23⟩ := hp
    subst ev_24
    have h_26 := (hg_23 1 (by omega) (by decide) (by decide)).trans h_17
    have h_27 := (hg_23 5 (by omega) (by decide) (by decide)).trans h_18
    refine lv_isub hx hb dX0_runOfInterface_120 ?_
    exact h_iret S hr hlk hS hW dX0_runOfInterface_121 (by rw [bodyS_11]; exact ⟨rfl, ⟨h_20, h_21, h_22⟩, (fun j q0 q1 q2 => (hg_23 j q0 q1 q2).trans (hg_14 j q0 q1 q2))⟩)
  · refine lv_lookup (off := 121) (tgt := 122) hx hb dX0_runOfInterface_1 (by decide) (by decide) (by decide) ?_
    refine lv_aload_n hx hb dX0_runOfInterface_122 rfl (lv_at hl 0 rfl) ?_
    refine lv_iconst (v := 3) hx hb dX0_runOfInterface_123 (by decide) ?_
    refine lv_iload_n hx hb dX0_runOfInterface_124 rfl (lv_at hl 2 rfl) ?_
    refine lv_iload_n hx hb dX0_runOfInterface_125 rfl (lv_at hl 3 rfl) ?_
    refine hc_i (va_runV (As := [.int 3, .int x, .int (nI d)]) (rest := []) S (c_X0_act l G ad _ n ih (q := q) hk100 h1 h5 ⟨hk, h2, h3⟩ d hdn 3 x) (cwV 3 hts (gWSV q_l_0_72 q_im_X0_act q_se_X0_act q_in_0 q_co_X0_act) rfl rfl rfl (by decide +kernel) ⟨by dsimp only; omega, by dsimp only; omega⟩) (hPreVw hE hS (hrecv hE hW hk (q := (RX0, TX0, 13)) rfl) hW) rfl rfl hl.1 rfl (lv_room (Nat.le_of_ble_eq_true rfl)) dX0_runOfInterface_126 ⟨Nat.le_of_ble_eq_true rfl, Nat.le_of_ble_eq_true rfl⟩) hS (fun rv_34 ct_28 H locs hp hW hS => ?_)
    obtain ⟨ev_33, ⟨h_29, h_30, h_31⟩, hg_32⟩ := hp
    subst ev_33
    have h_35 := (hg_32 1 (by omega) (by decide) (by decide)).trans h1
    have h_36 := (hg_32 5 (by omega) (by decide) (by decide)).trans h5
    refine lv_aload_n hx hb dX0_runOfInterface_129 rfl (lv_at hl 0 rfl) ?_
    refine lv_iconst (v := 3) hx hb dX0_runOfInterface_130 (by decide) ?_
    refine lv_iload_n hx hb dX0_runOfInterface_131 rfl (lv_at hl 2 rfl) ?_
    refine lv_iconst (v := 1) hx hb dX0_runOfInterface_132 (by decide) ?_
    refine lv_iadd hx hb dX0_runOfInterface_133 ?_
    refine lv_iload_n hx hb dX0_runOfInterface_134 rfl (lv_at hl 3 rfl) ?_
    refine hc_i (va_runV (As := [.int 3, .int (x + 1), .int (nI d)]) (rest := [.int ((runS n t (selOfF selT t 3) x q).1)]) S (c_X0_act l G ad _ n ih (q := ((runS n t (selOfF selT t 3) x q).2.1, (runS n t (selOfF selT t 3) x q).2.2.1, ((runS n t (selOfF selT t 3) x q).2).2.2.1, ((runS n t (selOfF selT t 3) x q).2).2.2.2)) hk100 h_35 h_36 ⟨h_29, h_30, h_31⟩ d hdn 3 (x + 1)) (cwV 3 hts (gWSV q_l_0_72 q_im_X0_act q_se_X0_act q_in_0 q_co_X0_act) rfl rfl rfl (by decide +kernel) ⟨by dsimp only; omega, by dsimp only; omega⟩) (hPreVw hE hS (hrecv hE hW h_29 (q := (RX0, TX0, 13)) rfl) hW) rfl rfl hl.1 rfl (lv_room (Nat.le_of_ble_eq_true rfl)) dX0_runOfInterface_135 ⟨Nat.le_of_ble_eq_true rfl, Nat.le_of_ble_eq_true rfl⟩) hS (fun rv_43 ct_37 H locs hp hW hS => ?_)
    obtain ⟨ev_42, ⟨h_38, h_39, h_40⟩, hg_41⟩ := hp
    subst ev_42
    have h_44 := (hg_41 1 (by omega) (by decide) (by decide)).trans h_35
    have h_45 := (hg_41 5 (by omega) (by decide) (by decide)).trans h_36
    refine lv_iadd hx hb dX0_runOfInterface_138 ?_
    exact h_iret S hr hlk hS hW dX0_runOfInterface_139 (by rw [bodyS_20]; exact ⟨rfl, ⟨h_38, h_39, h_40⟩, (fun j q0 q1 q2 => (hg_41 j q0 q1 q2).trans (hg_32 j q0 q1 q2))⟩)
  · refine lv_lookup (off := 139) (tgt := 140) hx hb dX0_runOfInterface_1 (by decide) (by decide) (by decide) ?_
    refine lv_aload_n hx hb dX0_runOfInterface_140 rfl (lv_at hl 0 rfl) ?_
    refine lv_iconst (v := 4) hx hb dX0_runOfInterface_141 (by decide) ?_
    refine lv_iload_n hx hb dX0_runOfInterface_142 rfl (lv_at hl 2 rfl) ?_
    refine lv_iload_n hx hb dX0_runOfInterface_143 rfl (lv_at hl 3 rfl) ?_
    refine hc_i (va_runV (As := [.int 4, .int x, .int (nI d)]) (rest := []) S (c_X0_act l G ad _ n ih (q := q) hk100 h1 h5 ⟨hk, h2, h3⟩ d hdn 4 x) (cwV 3 hts (gWSV q_l_0_72 q_im_X0_act q_se_X0_act q_in_0 q_co_X0_act) rfl rfl rfl (by decide +kernel) ⟨by dsimp only; omega, by dsimp only; omega⟩) (hPreVw hE hS (hrecv hE hW hk (q := (RX0, TX0, 13)) rfl) hW) rfl rfl hl.1 rfl (lv_room (Nat.le_of_ble_eq_true rfl)) dX0_runOfInterface_144 ⟨Nat.le_of_ble_eq_true rfl, Nat.le_of_ble_eq_true rfl⟩) hS (fun rv_52 ct_46 H locs hp hW hS => ?_)
    obtain ⟨ev_51, ⟨h_47, h_48, h_49⟩, hg_50⟩ := hp
    subst ev_51
    have h_53 := (hg_50 1 (by omega) (by decide) (by decide)).trans h1
    have h_54 := (hg_50 5 (by omega) (by decide) (by decide)).trans h5
    refine lv_bipush (v := 85) hx hb dX0_runOfInterface_147 (by decide) ?_
    refine lv_ixor hx hb dX0_runOfInterface_149 ?_
    exact h_iret S hr hlk hS hW dX0_runOfInterface_150 (by rw [bodyS_21]; exact ⟨rfl, ⟨h_47, h_48, h_49⟩, (fun j q0 q1 q2 => hg_50 j q0 q1 q2)⟩)
  · refine lv_lookup (off := 150) (tgt := 151) hx hb dX0_runOfInterface_1 (by decide) (by decide) (by decide) ?_
    refine lv_aload_n hx hb dX0_runOfInterface_151 rfl (lv_at hl 0 rfl) ?_
    refine lv_iconst (v := 2) hx hb dX0_runOfInterface_152 (by decide) ?_
    refine lv_iconst (v := 2) hx hb dX0_runOfInterface_153 (by decide) ?_
    refine lv_iload_n hx hb dX0_runOfInterface_154 rfl (lv_at hl 2 rfl) ?_
    refine lv_iload_n hx hb dX0_runOfInterface_155 rfl (lv_at hl 3 rfl) ?_
    refine hc_i (va_runV (As := [.int 2, .int 2, .int x, .int (nI d)]) (rest := []) S (c_X0_interfaceAct l G ad _ n ih (q := q) hk100 h1 h5 ⟨hk, h2, h3⟩ d hdn 2 2 x) (cwV 4 hts (gWSV q_l_0_107 q_im_X0_interfaceAct q_se_X0_interfaceAct q_in_0 q_co_X0_interfaceAct) rfl rfl rfl (by decide +kernel) ⟨by dsimp only; omega, by dsimp only; omega⟩) (hPreVw hE hS (hrecv hE hW hk (q := (RX0, TX0, 13)) rfl) hW) rfl rfl hl.1 rfl (lv_room (Nat.le_of_ble_eq_true rfl)) dX0_runOfInterface_156 ⟨Nat.le_of_ble_eq_true rfl, Nat.le_of_ble_eq_true rfl⟩) hS (fun rv_61 ct_55 H locs hp hW hS => ?_)
    obtain ⟨ev_60, ⟨h_56, h_57, h_58⟩, hg_59⟩ := hp
    subst ev_60
    have h_62 := (hg_59 1 (by omega) (by decide) (by decide)).trans h1
    have h_63 := (hg_59 5 (by omega) (by decide) (by decide)).trans h5
    refine lv_aload_n hx hb dX0_runOfInterface_159 rfl (lv_at hl 0 rfl) ?_
    refine lv_iconst (v := 3) hx hb dX0_runOfInterface_160 (by decide) ?_
    refine lv_iconst (v := 2) hx hb dX0_runOfInterface_161 (by decide) ?_
    refine lv_iload_n hx hb dX0_runOfInterface_162 rfl (lv_at hl 2 rfl) ?_
    refine lv_iconst (v := 1) hx hb dX0_runOfInterface_163 (by decide) ?_
    refine lv_iadd hx hb dX0_runOfInterface_164 ?_
    refine lv_iload_n hx hb dX0_runOfInterface_165 rfl (lv_at hl 3 rfl) ?_
    refine hc_i (va_runV (As := [.int 3, .int 2, .int (x + 1), .int (nI d)]) (rest := [.int ((runS n t (selOfF selT 2 2) x q).1)]) S (c_X0_interfaceAct l G ad _ n ih (q := ((runS n t (selOfF selT 2 2) x q).2.1, (runS n t (selOfF selT 2 2) x q).2.2.1, ((runS n t (selOfF selT 2 2) x q).2).2.2.1, ((runS n t (selOfF selT 2 2) x q).2).2.2.2)) hk100 h_62 h_63 ⟨h_56, h_57, h_58⟩ d hdn 3 2 (x + 1)) (cwV 4 hts (gWSV q_l_0_107 q_im_X0_interfaceAct q_se_X0_interfaceAct q_in_0 q_co_X0_interfaceAct) rfl rfl rfl (by decide +kernel) ⟨by dsimp only; omega, by dsimp only; omega⟩) (hPreVw hE hS (hrecv hE hW h_56 (q := (RX0, TX0, 13)) rfl) hW) rfl rfl hl.1 rfl (lv_room (Nat.le_of_ble_eq_true rfl)) dX0_runOfInterface_166 ⟨Nat.le_of_ble_eq_true rfl, Nat.le_of_ble_eq_true rfl⟩) hS (fun rv_70 ct_64 H locs hp hW hS => ?_)
    obtain ⟨ev_69, ⟨h_65, h_66, h_67⟩, hg_68⟩ := hp
    subst ev_69
    have h_71 := (hg_68 1 (by omega) (by decide) (by decide)).trans h_62
    have h_72 := (hg_68 5 (by omega) (by decide) (by decide)).trans h_63
    refine lv_iadd hx hb dX0_runOfInterface_169 ?_
    exact h_iret S hr hlk hS hW dX0_runOfInterface_170 (by rw [bodyS_30]; exact ⟨rfl, ⟨h_65, h_66, h_67⟩, (fun j q0 q1 q2 => (hg_68 j q0 q1 q2).trans (hg_59 j q0 q1 q2))⟩)
  · refine lv_lookup (off := 170) (tgt := 171) hx hb dX0_runOfInterface_1 (by decide) (by decide) (by decide) ?_
    refine lv_aload_n hx hb dX0_runOfInterface_171 rfl (lv_at hl 0 rfl) ?_
    refine lv_iconst (v := 5) hx hb dX0_runOfInterface_172 (by decide) ?_
    refine lv_iload_n hx hb dX0_runOfInterface_173 rfl (lv_at hl 2 rfl) ?_
    refine lv_iload_n hx hb dX0_runOfInterface_174 rfl (lv_at hl 3 rfl) ?_
    refine hc_i (va_runV (As := [.int 5, .int x, .int (nI d)]) (rest := []) S (c_X0_act l G ad _ n ih (q := q) hk100 h1 h5 ⟨hk, h2, h3⟩ d hdn 5 x) (cwV 3 hts (gWSV q_l_0_72 q_im_X0_act q_se_X0_act q_in_0 q_co_X0_act) rfl rfl rfl (by decide +kernel) ⟨by dsimp only; omega, by dsimp only; omega⟩) (hPreVw hE hS (hrecv hE hW hk (q := (RX0, TX0, 13)) rfl) hW) rfl rfl hl.1 rfl (lv_room (Nat.le_of_ble_eq_true rfl)) dX0_runOfInterface_175 ⟨Nat.le_of_ble_eq_true rfl, Nat.le_of_ble_eq_true rfl⟩) hS (fun rv_79 ct_73 H locs hp hW hS => ?_)
    obtain ⟨ev_78, ⟨h_74, h_75, h_76⟩, hg_77⟩ := hp
    subst ev_78
    have h_80 := (hg_77 1 (by omega) (by decide) (by decide)).trans h1
    have h_81 := (hg_77 5 (by omega) (by decide) (by decide)).trans h5
    refine lv_iload_n hx hb dX0_runOfInterface_178 rfl (lv_at hl 2 rfl) ?_
    refine lv_iadd hx hb dX0_runOfInterface_179 ?_
    exact h_iret S hr hlk hS hW dX0_runOfInterface_180 (by rw [bodyS_40]; exact ⟨rfl, ⟨h_74, h_75, h_76⟩, (fun j q0 q1 q2 => hg_77 j q0 q1 q2)⟩)
  · refine lv_lookup (off := 180) (tgt := 181) hx hb dX0_runOfInterface_1 (by decide) (by decide) (by decide) ?_
    refine lv_aload_n hx hb dX0_runOfInterface_181 rfl (lv_at hl 0 rfl) ?_
    refine lv_bipush (v := 6) hx hb dX0_runOfInterface_182 (by decide) ?_
    refine lv_iload_n hx hb dX0_runOfInterface_184 rfl (lv_at hl 2 rfl) ?_
    refine lv_iload_n hx hb dX0_runOfInterface_185 rfl (lv_at hl 3 rfl) ?_
    refine hc_i (va_runV (As := [.int 6, .int x, .int (nI d)]) (rest := []) S (c_X0_act l G ad _ n ih (q := q) hk100 h1 h5 ⟨hk, h2, h3⟩ d hdn 6 x) (cwV 3 hts (gWSV q_l_0_72 q_im_X0_act q_se_X0_act q_in_0 q_co_X0_act) rfl rfl rfl (by decide +kernel) ⟨by dsimp only; omega, by dsimp only; omega⟩) (hPreVw hE hS (hrecv hE hW hk (q := (RX0, TX0, 13)) rfl) hW) rfl rfl hl.1 rfl (lv_room (Nat.le_of_ble_eq_true rfl)) dX0_runOfInterface_186 ⟨Nat.le_of_ble_eq_true rfl, Nat.le_of_ble_eq_true rfl⟩) hS (fun rv_88 ct_82 H locs hp hW hS => ?_)
    obtain ⟨ev_87, ⟨h_83, h_84, h_85⟩, hg_86⟩ := hp
    subst ev_87
    have h_89 := (hg_86 1 (by omega) (by decide) (by decide)).trans h1
    have h_90 := (hg_86 5 (by omega) (by decide) (by decide)).trans h5
    refine lv_iconst (v := 2) hx hb dX0_runOfInterface_189 (by decide) ?_
    refine lv_imul hx hb dX0_runOfInterface_190 ?_
    refine lv_aload_n hx hb dX0_runOfInterface_191 rfl (lv_at hl 0 rfl) ?_
    refine lv_bipush (v := 6) hx hb dX0_runOfInterface_192 (by decide) ?_
    refine lv_iconst (v := 1) hx hb dX0_runOfInterface_194 (by decide) ?_
    refine lv_iload_n hx hb dX0_runOfInterface_195 rfl (lv_at hl 3 rfl) ?_
    refine hc_i (va_runV (As := [.int 6, .int 1, .int (nI d)]) (rest := [.int (((runS n t (selOfF selT t 6) x q).1) * 2)]) S (c_X0_act l G ad _ n ih (q := ((runS n t (selOfF selT t 6) x q).2.1, (runS n t (selOfF selT t 6) x q).2.2.1, ((runS n t (selOfF selT t 6) x q).2).2.2.1, ((runS n t (selOfF selT t 6) x q).2).2.2.2)) hk100 h_89 h_90 ⟨h_83, h_84, h_85⟩ d hdn 6 1) (cwV 3 hts (gWSV q_l_0_72 q_im_X0_act q_se_X0_act q_in_0 q_co_X0_act) rfl rfl rfl (by decide +kernel) ⟨by dsimp only; omega, by dsimp only; omega⟩) (hPreVw hE hS (hrecv hE hW h_83 (q := (RX0, TX0, 13)) rfl) hW) rfl rfl hl.1 rfl (lv_room (Nat.le_of_ble_eq_true rfl)) dX0_runOfInterface_196 ⟨Nat.le_of_ble_eq_true rfl, Nat.le_of_ble_eq_true rfl⟩) hS (fun rv_97 ct_91 H locs hp hW hS => ?_)
    obtain ⟨ev_96, ⟨h_92, h_93, h_94⟩, hg_95⟩ := hp
    subst ev_96
    have h_98 := (hg_95 1 (by omega) (by decide) (by decide)).trans h_89
    have h_99 := (hg_95 5 (by omega) (by decide) (by decide)).trans h_90
    refine lv_iadd hx hb dX0_runOfInterface_199 ?_
    exact h_iret S hr hlk hS hW dX0_runOfInterface_200 (by rw [bodyS_41]; exact ⟨rfl, ⟨h_92, h_93, h_94⟩, (fun j q0 q1 q2 => (hg_95 j q0 q1 q2).trans (hg_86 j q0 q1 q2))⟩)
  · refine lv_lookup (off := 200) (tgt := 201) hx hb dX0_runOfInterface_1 (by decide) (by decide) (by decide) ?_
    refine lv_aload_n hx hb dX0_runOfInterface_201 rfl (lv_at hl 0 rfl) ?_
    refine lv_iconst (v := 5) hx hb dX0_runOfInterface_202 (by decide) ?_
    refine lv_bipush (v := 7) hx hb dX0_runOfInterface_203 (by decide) ?_
    refine lv_iload_n hx hb dX0_runOfInterface_205 rfl (lv_at hl 2 rfl) ?_
    refine lv_iload_n hx hb dX0_runOfInterface_206 rfl (lv_at hl 3 rfl) ?_
    refine hc_i (va_runV (As := [.int 5, .int 7, .int x, .int (nI d)]) (rest := []) S (c_X0_interfaceAct l G ad _ n ih (q := q) hk100 h1 h5 ⟨hk, h2, h3⟩ d hdn 5 7 x) (cwV 4 hts (gWSV q_l_0_107 q_im_X0_interfaceAct q_se_X0_interfaceAct q_in_0 q_co_X0_interfaceAct) rfl rfl rfl (by decide +kernel) ⟨by dsimp only; omega, by dsimp only; omega⟩) (hPreVw hE hS (hrecv hE hW hk (q := (RX0, TX0, 13)) rfl) hW) rfl rfl hl.1 rfl (lv_room (Nat.le_of_ble_eq_true rfl)) dX0_runOfInterface_207 ⟨Nat.le_of_ble_eq_true rfl, Nat.le_of_ble_eq_true rfl⟩) hS (fun rv_106 ct_100 H locs hp hW hS => ?_)
    obtain ⟨ev_105, ⟨h_101, h_102, h_103⟩, hg_104⟩ := hp
    subst ev_105
    have h_107 := (hg_104 1 (by omega) (by decide) (by decide)).trans h1
    have h_108 := (hg_104 5 (by omega) (by decide) (by decide)).trans h5
    refine lv_aload_n hx hb dX0_runOfInterface_210 rfl (lv_at hl 0 rfl) ?_
    refine lv_bipush (v := 8) hx hb dX0_runOfInterface_211 (by decide) ?_
    refine lv_iload_n hx hb dX0_runOfInterface_213 rfl (lv_at hl 2 rfl) ?_
    refine lv_iload_n hx hb dX0_runOfInterface_214 rfl (lv_at hl 3 rfl) ?_
    refine hc_i (va_runV (As := [.int 8, .int x, .int (nI d)]) (rest := [.int ((runS n t (selOfF selT 5 7) x q).1)]) S (c_X0_act l G ad _ n ih (q := ((runS n t (selOfF selT 5 7) x q).2.1, (runS n t (selOfF selT 5 7) x q).2.2.1, ((runS n t (selOfF selT 5 7) x q).2).2.2.1, ((runS n t (selOfF selT 5 7) x q).2).2.2.2)) hk100 h_107 h_108 ⟨h_101, h_102, h_103⟩ d hdn 8 x) (cwV 3 hts (gWSV q_l_0_72 q_im_X0_act q_se_X0_act q_in_0 q_co_X0_act) rfl rfl rfl (by decide +kernel) ⟨by dsimp only; omega, by dsimp only; omega⟩) (hPreVw hE hS (hrecv hE hW h_101 (q := (RX0, TX0, 13)) rfl) hW) rfl rfl hl.1 rfl (lv_room (Nat.le_of_ble_eq_true rfl)) dX0_runOfInterface_215 ⟨Nat.le_of_ble_eq_true rfl, Nat.le_of_ble_eq_true rfl⟩) hS (fun rv_115 ct_109 H locs hp hW hS => ?_)
    obtain ⟨ev_114, ⟨h_110, h_111, h_112⟩, hg_113⟩ := hp
    subst ev_114
    have h_116 := (hg_113 1 (by omega) (by decide) (by decide)).trans h_107
    have h_117 := (hg_113 5 (by omega) (by decide) (by decide)).trans h_108
    refine lv_isub hx hb dX0_runOfInterface_218 ?_
    exact h_iret S hr hlk hS hW dX0_runOfInterface_219 (by rw [bodyS_50]; exact ⟨rfl, ⟨h_110, h_111, h_112⟩, (fun j q0 q1 q2 => (hg_113 j q0 q1 q2).trans (hg_104 j q0 q1 q2))⟩)
  · refine lv_lookup (off := 219) (tgt := 220) hx hb dX0_runOfInterface_1 (by decide) (by decide) (by decide) ?_
    refine lv_aload_n hx hb dX0_runOfInterface_220 rfl (lv_at hl 0 rfl) ?_
    refine lv_bipush (v := 52) hx hb dX0_runOfInterface_221 (by decide) ?_
    refine lv_iload_n hx hb dX0_runOfInterface_223 rfl (lv_at hl 2 rfl) ?_
    refine lv_iload_n hx hb dX0_runOfInterface_224 rfl (lv_at hl 3 rfl) ?_
    refine hc_i (va_runV (As := [.int 52, .int x, .int (nI d)]) (rest := []) S (ih ad _ k t r q 52 x d hk100 okB_52 hdn h1 h5 ⟨hk, h2, h3⟩) (cwV 3 hts (gWSV q_l_0_83 q_im_X0_run q_se_X0_run q_in_0 q_co_X0_run) rfl rfl rfl (by decide +kernel) ⟨by dsimp only; omega, by dsimp only; omega⟩) (hPreVw hE hS (hrecv hE hW hk (q := (RX0, TX0, 13)) rfl) hW) rfl rfl hl.1 rfl (lv_room (Nat.le_of_ble_eq_true rfl)) dX0_runOfInterface_225 ⟨Nat.le_of_ble_eq_true rfl, Nat.le_of_ble_eq_true rfl⟩) hS (fun rv_124 ct_118 H locs hp hW hS => ?_)
    obtain ⟨ev_123, ⟨h_119, h_120, h_121⟩, hg_122⟩ := hp
    subst ev_123
    have h_125 := (hg_122 1 (by omega) (by decide) (by decide)).trans h1
    have h_126 := (hg_122 5 (by omega) (by decide) (by decide)).trans h5
    refine lv_aload_n hx hb dX0_runOfInterface_228 rfl (lv_at hl 0 rfl) ?_
    refine lv_iconst (v := 5) hx hb dX0_runOfInterface_229 (by decide) ?_
    refine lv_iconst (v := 2) hx hb dX0_runOfInterface_230 (by decide) ?_
    refine lv_iload_n hx hb dX0_runOfInterface_231 rfl (lv_at hl 3 rfl) ?_
    refine hc_i (va_runV (As := [.int 5, .int 2, .int (nI d)]) (rest := [.int ((runS n t 52 x q).1)]) S (c_X0_act l G ad _ n ih (q := ((runS n t 52 x q).2.1, (runS n t 52 x q).2.2.1, ((runS n t 52 x q).2).2.2.1, ((runS n t 52 x q).2).2.2.2)) hk100 h_125 h_126 ⟨h_119, h_120, h_121⟩ d hdn 5 2) (cwV 3 hts (gWSV q_l_0_72 q_im_X0_act q_se_X0_act q_in_0 q_co_X0_act) rfl rfl rfl (by decide +kernel) ⟨by dsimp only; omega, by dsimp only; omega⟩) (hPreVw hE hS (hrecv hE hW h_119 (q := (RX0, TX0, 13)) rfl) hW) rfl rfl hl.1 rfl (lv_room (Nat.le_of_ble_eq_true rfl)) dX0_runOfInterface_232 ⟨Nat.le_of_ble_eq_true rfl, Nat.le_of_ble_eq_true rfl⟩) hS (fun rv_133 ct_127 H locs hp hW hS => ?_)
    obtain ⟨ev_132, ⟨h_128, h_129, h_130⟩, hg_131⟩ := hp
    subst ev_132
    have h_134 := (hg_131 1 (by omega) (by decide) (by decide)).trans h_125
    have h_135 := (hg_131 5 (by omega) (by decide) (by decide)).trans h_126
    refine lv_iadd hx hb dX0_runOfInterface_235 ?_
    exact h_iret S hr hlk hS hW dX0_runOfInterface_236 (by rw [bodyS_51]; exact ⟨rfl, ⟨h_128, h_129, h_130⟩, (fun j q0 q1 q2 => (hg_131 j q0 q1 q2).trans (hg_122 j q0 q1 q2))⟩)
  · refine lv_lookup (off := 236) (tgt := 237) hx hb dX0_runOfInterface_1 (by decide) (by decide) (by decide) ?_
    refine lv_aload_n hx hb dX0_runOfInterface_237 rfl (lv_at hl 0 rfl) ?_
    refine lv_iconst (v := 5) hx hb dX0_runOfInterface_238 (by decide) ?_
    refine lv_iload_n hx hb dX0_runOfInterface_239 rfl (lv_at hl 2 rfl) ?_
    refine lv_iload_n hx hb dX0_runOfInterface_240 rfl (lv_at hl 3 rfl) ?_
    refine hc_i (va_runV (As := [.int 5, .int x, .int (nI d)]) (rest := []) S (c_X0_act l G ad _ n ih (q := q) hk100 h1 h5 ⟨hk, h2, h3⟩ d hdn 5 x) (cwV 3 hts (gWSV q_l_0_72 q_im_X0_act q_se_X0_act q_in_0 q_co_X0_act) rfl rfl rfl (by decide +kernel) ⟨by dsimp only; omega, by dsimp only; omega⟩) (hPreVw hE hS (hrecv hE hW hk (q := (RX0, TX0, 13)) rfl) hW) rfl rfl hl.1 rfl (lv_room (Nat.le_of_ble_eq_true rfl)) dX0_runOfInterface_241 ⟨Nat.le_of_ble_eq_true rfl, Nat.le_of_ble_eq_true rfl⟩) hS (fun rv_142 ct_136 H locs hp hW hS => ?_)
    obtain ⟨ev_141, ⟨h_137, h_138, h_139⟩, hg_140⟩ := hp
    subst ev_141
    have h_143 := (hg_140 1 (by omega) (by decide) (by decide)).trans h1
    have h_144 := (hg_140 5 (by omega) (by decide) (by decide)).trans h5
    refine lv_iconst (v := 5) hx hb dX0_runOfInterface_244 (by decide) ?_
    refine lv_imul hx hb dX0_runOfInterface_245 ?_
    exact h_iret S hr hlk hS hW dX0_runOfInterface_246 (by rw [bodyS_52]; exact ⟨rfl, ⟨h_137, h_138, h_139⟩, (fun j q0 q1 q2 => hg_140 j q0 q1 q2)⟩)
set_option maxRecDepth 100000 in
set_option maxHeartbeats 4000000 in
theorem c_X0_runOfAncestor (l : Launch) (G : hG) (ad : Nat → Nat) (ct : Nat → Option va_E) (n : Nat) (ih : RunC l G n) {k : Nat} {t : Int32} {r : Nat → Value} {q : St} (hk100 : 100 ≤ k) (h1 : ct 1 = some (.inr (1, [.ref (ad 4), .ref (ad 5)]))) (h5 : ct 5 = some (.inl (G.2.1.1, 216, .inl selT))) (hd : dW G ad ct k t r q) (d : Nat) (hdn : d + n = 40) (b x : Int32) (hbd : okBA b)  : Met l yX0_runOfAncestor wzX0_runOfAncestor { frames := 3 * n + 4, cells := 0, slots := 0, locals := 70 * n + 67 } (hPw [.ref (ad k), .int b, .int x, .int (nI d)] G ad ct) (hQi (fun rr ct1 => rr = (bodyS (runS n t) t b x q).1 ∧ dW G ad ct1 k t r (bodyS (runS n t) t b x q).2 ∧ ∀ j, j ≠ k → j ≠ 2 → j ≠ 3 → ct1 j = ct j) G ad) 0 0 (hA G.2.2.2) := by
  refine hMetw (by decide) (Nat.le_of_ble_eq_true rfl) (fun p e s m below meth c ls S hr hlk hE hW hl => ?_)
  obtain ⟨hx, hb, hml, hown, hts⟩ := id S
  have hS : va_S (hA G.2.2.2) s.heap s.heap [] := va_S.rf
  have hl : lv_has ls 4 [(0, .ref (ad k)), (1, .int b), (2, .int x), (3, .int (nI d))] := hl
  obtain ⟨hk, h2, h3⟩ := hd
  refine lv_iload_n hx hb dX0_runOfAncestor_0 rfl (lv_at hl 1 rfl) ?_
  unfold okBA at hbd
  rcases hbd with rfl | rfl | rfl | rfl | rfl | rfl
  · refine lv_tableIn (off := 59) (tgt := 60) hx hb dX0_runOfAncestor_1 (by decide) (by decide) (by decide) (by decide) ?_
    refine lv_aload_n hx hb dX0_runOfAncestor_60 rfl (lv_at hl 0 rfl) ?_
    refine lv_aload_n hx hb dX0_runOfAncestor_61 rfl (lv_at hl 0 rfl) ?_
    refine hr_get S hE hW hk inX0 (C := RX0) (T := TX0) (N := 13) rfl 4 (by decide) q_f_0_32 rfl dX0_runOfAncestor_62 ?_
    refine lv_iload_n hx hb dX0_runOfAncestor_65 rfl (lv_at hl 2 rfl) ?_
    refine lv_iadd hx hb dX0_runOfAncestor_66 ?_
    refine hr_put S hE hW hS hk inX0 (C := RX0) (T := TX0) (N := 13) tyX0_ok nmX0 rfl 4 (by decide) q_f_0_32 rfl rfl rfl (Nat.le_of_ble_eq_true rfl) dX0_runOfAncestor_67 (fun H locs ct_1 hW hk_2 hg_3 hz hS => ?_)
    have h_4 := (hg_3 1 (by omega)).trans h1
    have h_5 := (hg_3 5 (by omega)).trans h5
    have h_6 := (hg_3 2 (by omega)).trans h2
    have h_7 := (hg_3 3 (by omega)).trans h3
    have h_8 : ct_1 k = some (.inr (0, [.ref (ad 1), .ref (ad 2), .int t, .int (takActF t), .int (q.1 + x), .int q.2.1, r 5, r 6, r 7, r 8, r 9, r 10, r 11])) := hk_2
    refine lv_aload_n hx hb dX0_runOfAncestor_70 rfl (lv_at hl 0 rfl) ?_
    refine hr_get S hE hW h_8 inX0 (C := RX0) (T := TX0) (N := 13) rfl 4 (by decide) q_f_0_32 rfl dX0_runOfAncestor_71 ?_
    exact h_iret S hr hlk hS hW dX0_runOfAncestor_74 (by rw [bodyS_60]; exact ⟨rfl, ⟨h_8, h_6, h_7⟩, (fun j q0 q1 q2 => hg_3 j q0)⟩)
  · refine lv_tableIn (off := 74) (tgt := 75) hx hb dX0_runOfAncestor_1 (by decide) (by decide) (by decide) (by decide) ?_
    refine lv_aload_n hx hb dX0_runOfAncestor_75 rfl (lv_at hl 0 rfl) ?_
    refine lv_aload_n hx hb dX0_runOfAncestor_76 rfl (lv_at hl 0 rfl) ?_
    refine hr_get S hE hW hk inX0 (C := RX0) (T := TX0) (N := 13) rfl 4 (by decide) q_f_0_32 rfl dX0_runOfAncestor_77 ?_
    refine lv_iconst (v := 3) hx hb dX0_runOfAncestor_80 (by decide) ?_
    refine lv_iload_n hx hb dX0_runOfAncestor_81 rfl (lv_at hl 2 rfl) ?_
    refine lv_imul hx hb dX0_runOfAncestor_82 ?_
    refine lv_isub hx hb dX0_runOfAncestor_83 ?_
    refine hr_put S hE hW hS hk inX0 (C := RX0) (T := TX0) (N := 13) tyX0_ok nmX0 rfl 4 (by decide) q_f_0_32 rfl rfl rfl (Nat.le_of_ble_eq_true rfl) dX0_runOfAncestor_84 (fun H locs ct_9 hW hk_10 hg_11 hz hS => ?_)
    have h_12 := (hg_11 1 (by omega)).trans h1
    have h_13 := (hg_11 5 (by omega)).trans h5
    have h_14 := (hg_11 2 (by omega)).trans h2
    have h_15 := (hg_11 3 (by omega)).trans h3
    have h_16 : ct_9 k = some (.inr (0, [.ref (ad 1), .ref (ad 2), .int t, .int (takActF t), .int (q.1 - (3 * x)), .int q.2.1, r 5, r 6, r 7, r 8, r 9, r 10, r 11])) := hk_10
    refine lv_aload_n hx hb dX0_runOfAncestor_87 rfl (lv_at hl 0 rfl) ?_
    refine hr_get S hE hW h_16 inX0 (C := RX0) (T := TX0) (N := 13) rfl 4 (by decide) q_f_0_32 rfl dX0_runOfAncestor_88 ?_
    exact h_iret S hr hlk hS hW dX0_runOfAncestor_91 (by rw [bodyS_61]; exact ⟨rfl, ⟨h_16, h_14, h_15⟩, (fun j q0 q1 q2 => hg_11 j q0)⟩)
  · refine lv_tableIn (off := 91) (tgt := 92) hx hb dX0_runOfAncestor_1 (by decide) (by decide) (by decide) (by decide) ?_
    refine lv_aload_n hx hb dX0_runOfAncestor_92 rfl (lv_at hl 0 rfl) ?_
    refine lv_aload_n hx hb dX0_runOfAncestor_93 rfl (lv_at hl 0 rfl) ?_
    refine hr_get S hE hW hk inX0 (C := RX0) (T := TX0) (N := 13) rfl 4 (by decide) q_f_0_32 rfl dX0_runOfAncestor_94 ?_
    refine lv_bipush (v := 31) hx hb dX0_runOfAncestor_97 (by decide) ?_
    refine lv_imul hx hb dX0_runOfAncestor_99 ?_
    refine lv_iload_n hx hb dX0_runOfAncestor_100 rfl (lv_at hl 2 rfl) ?_
    refine lv_iadd hx hb dX0_runOfAncestor_101 ?_
    refine hr_put S hE hW hS hk inX0 (C := RX0) (T := TX0) (N := 13) tyX0_ok nmX0 rfl 4 (by decide) q_f_0_32 rfl rfl rfl (Nat.le_of_ble_eq_true rfl) dX0_runOfAncestor_102 (fun H locs ct_17 hW hk_18 hg_19 hz hS => ?_)
    have h_20 := (hg_19 1 (by omega)).trans h1
    have h_21 := (hg_19 5 (by omega)).trans h5
    have h_22 := (hg_19 2 (by omega)).trans h2
    have h_23 := (hg_19 3 (by omega)).trans h3
    have h_24 : ct_17 k = some (.inr (0, [.ref (ad 1), .ref (ad 2), .int t, .int (takActF t), .int ((q.1 * 31) + x), .int q.2.1, r 5, r 6, r 7, r 8, r 9, r 10, r 11])) := hk_18
    refine lv_aload_n hx hb dX0_runOfAncestor_105 rfl (lv_at hl 0 rfl) ?_
    refine hr_get S hE hW h_24 inX0 (C := RX0) (T := TX0) (N := 13) rfl 4 (by decide) q_f_0_32 rfl dX0_runOfAncestor_106 ?_
    exact h_iret S hr hlk hS hW dX0_runOfAncestor_109 (by rw [bodyS_62]; exact ⟨rfl, ⟨h_24, h_22, h_23⟩, (fun j q0 q1 q2 => hg_19 j q0)⟩)
  · refine lv_tableIn (off := 109) (tgt := 110) hx hb dX0_runOfAncestor_1 (by decide) (by decide) (by decide) (by decide) ?_
    refine lv_aload_n hx hb dX0_runOfAncestor_110 rfl (lv_at hl 0 rfl) ?_
    refine hr_get S hE hW hk inX0 (C := RX0) (T := TX0) (N := 13) rfl 4 (by decide) q_f_0_32 rfl dX0_runOfAncestor_111 ?_
    refine lv_iload_n hx hb dX0_runOfAncestor_114 rfl (lv_at hl 2 rfl) ?_
    refine lv_ixor hx hb dX0_runOfAncestor_115 ?_
    exact h_iret S hr hlk hS hW dX0_runOfAncestor_116 (by rw [bodyS_63]; exact ⟨rfl, ⟨hk, h2, h3⟩, (fun j q0 q1 q2 => rfl)⟩)
  · refine lv_tableIn (off := 116) (tgt := 117) hx hb dX0_runOfAncestor_1 (by decide) (by decide) (by decide) (by decide) ?_
    refine lv_aload_n hx hb dX0_runOfAncestor_117 rfl (lv_at hl 0 rfl) ?_
    refine lv_bipush (v := 9) hx hb dX0_runOfAncestor_118 (by decide) ?_
    refine lv_iload_n hx hb dX0_runOfAncestor_120 rfl (lv_at hl 2 rfl) ?_
    refine lv_iload_n hx hb dX0_runOfAncestor_121 rfl (lv_at hl 3 rfl) ?_
    refine hc_i (va_runV (As := [.int 9, .int x, .int (nI d)]) (rest := []) S (c_X0_act l G ad _ n ih (q := q) hk100 h1 h5 ⟨hk, h2, h3⟩ d hdn 9 x) (cwV 3 hts (gWSV q_l_0_72 q_im_X0_act q_se_X0_act q_in_0 q_co_X0_act) rfl rfl rfl (by decide +kernel) ⟨by dsimp only; omega, by dsimp only; omega⟩) (hPreVw hE hS (hrecv hE hW hk (q := (RX0, TX0, 13)) rfl) hW) rfl rfl hl.1 rfl (lv_room (Nat.le_of_ble_eq_true rfl)) dX0_runOfAncestor_122 ⟨Nat.le_of_ble_eq_true rfl, Nat.le_of_ble_eq_true rfl⟩) hS (fun rv_31 ct_25 H locs hp hW hS => ?_)
    obtain ⟨ev_30, ⟨h_26, h_27, h_28⟩, hg_29⟩ := hp
    subst ev_30
    have h_32 := (hg_29 1 (by omega) (by decide) (by decide)).trans h1
    have h_33 := (hg_29 5 (by omega) (by decide) (by decide)).trans h5
    refine lv_aload_n hx hb dX0_runOfAncestor_125 rfl (lv_at hl 0 rfl) ?_
    refine lv_bipush (v := 10) hx hb dX0_runOfAncestor_126 (by decide) ?_
    refine lv_iconst (v := 1) hx hb dX0_runOfAncestor_128 (by decide) ?_
    refine lv_iload_n hx hb dX0_runOfAncestor_129 rfl (lv_at hl 3 rfl) ?_
    refine hc_i (va_runV (As := [.int 10, .int 1, .int (nI d)]) (rest := [.int ((runS n t (selOfF selT t 9) x q).1)]) S (c_X0_act l G ad _ n ih (q := ((runS n t (selOfF selT t 9) x q).2.1, (runS n t (selOfF selT t 9) x q).2.2.1, ((runS n t (selOfF selT t 9) x q).2).2.2.1, ((runS n t (selOfF selT t 9) x q).2).2.2.2)) hk100 h_32 h_33 ⟨h_26, h_27, h_28⟩ d hdn 10 1) (cwV 3 hts (gWSV q_l_0_72 q_im_X0_act q_se_X0_act q_in_0 q_co_X0_act) rfl rfl rfl (by decide +kernel) ⟨by dsimp only; omega, by dsimp only; omega⟩) (hPreVw hE hS (hrecv hE hW h_26 (q := (RX0, TX0, 13)) rfl) hW) rfl rfl hl.1 rfl (lv_room (Nat.le_of_ble_eq_true rfl)) dX0_runOfAncestor_130 ⟨Nat.le_of_ble_eq_true rfl, Nat.le_of_ble_eq_true rfl⟩) hS (fun rv_40 ct_34 H locs hp hW hS => ?_)
    obtain ⟨ev_39, ⟨h_35, h_36, h_37⟩, hg_38⟩ := hp
    subst ev_39
    have h_41 := (hg_38 1 (by omega) (by decide) (by decide)).trans h_32
    have h_42 := (hg_38 5 (by omega) (by decide) (by decide)).trans h_33
    refine lv_iadd hx hb dX0_runOfAncestor_133 ?_
    refine lv_aload_n hx hb dX0_runOfAncestor_134 rfl (lv_at hl 0 rfl) ?_
    refine lv_bipush (v := 63) hx hb dX0_runOfAncestor_135 (by decide) ?_
    refine lv_iload_n hx hb dX0_runOfAncestor_137 rfl (lv_at hl 2 rfl) ?_
    refine lv_iload_n hx hb dX0_runOfAncestor_138 rfl (lv_at hl 3 rfl) ?_
    refine hc_i (va_runV (As := [.int 63, .int x, .int (nI d)]) (rest := [.int (((runS n t (selOfF selT t 9) x q).1) + ((runS n t (selOfF selT t 10) 1 ((runS n t (selOfF selT t 9) x q).2.1, (runS n t (selOfF selT t 9) x q).2.2.1, ((runS n t (selOfF selT t 9) x q).2).2.2.1, ((runS n t (selOfF selT t 9) x q).2).2.2.2)).1))]) S (ih ad _ k t r ((runS n t (selOfF selT t 10) 1 ((runS n t (selOfF selT t 9) x q).2.1, (runS n t (selOfF selT t 9) x q).2.2.1, ((runS n t (selOfF selT t 9) x q).2).2.2.1, ((runS n t (selOfF selT t 9) x q).2).2.2.2)).2.1, (runS n t (selOfF selT t 10) 1 ((runS n t (selOfF selT t 9) x q).2.1, (runS n t (selOfF selT t 9) x q).2.2.1, ((runS n t (selOfF selT t 9) x q).2).2.2.1, ((runS n t (selOfF selT t 9) x q).2).2.2.2)).2.2.1, ((runS n t (selOfF selT t 10) 1 ((runS n t (selOfF selT t 9) x q).2.1, (runS n t (selOfF selT t 9) x q).2.2.1, ((runS n t (selOfF selT t 9) x q).2).2.2.1, ((runS n t (selOfF selT t 9) x q).2).2.2.2)).2).2.2.1, ((runS n t (selOfF selT t 10) 1 ((runS n t (selOfF selT t 9) x q).2.1, (runS n t (selOfF selT t 9) x q).2.2.1, ((runS n t (selOfF selT t 9) x q).2).2.2.1, ((runS n t (selOfF selT t 9) x q).2).2.2.2)).2).2.2.2) 63 x d hk100 okB_63 hdn h_41 h_42 ⟨h_35, h_36, h_37⟩) (cwV 3 hts (gWSV q_l_0_83 q_im_X0_run q_se_X0_run q_in_0 q_co_X0_run) rfl rfl rfl (by decide +kernel) ⟨by dsimp only; omega, by dsimp only; omega⟩) (hPreVw hE hS (hrecv hE hW h_35 (q := (RX0, TX0, 13)) rfl) hW) rfl rfl hl.1 rfl (lv_room (Nat.le_of_ble_eq_true rfl)) dX0_runOfAncestor_139 ⟨Nat.le_of_ble_eq_true rfl, Nat.le_of_ble_eq_true rfl⟩) hS (fun rv_49 ct_43 H locs hp hW hS => ?_)
    obtain ⟨ev_48, ⟨h_44, h_45, h_46⟩, hg_47⟩ := hp
    subst ev_48
    have h_50 := (hg_47 1 (by omega) (by decide) (by decide)).trans h_41
    have h_51 := (hg_47 5 (by omega) (by decide) (by decide)).trans h_42
    refine lv_iadd hx hb dX0_runOfAncestor_142 ?_
    exact h_iret S hr hlk hS hW dX0_runOfAncestor_143 (by rw [bodyS_64]; exact ⟨rfl, ⟨h_44, h_45, h_46⟩, (fun j q0 q1 q2 => (hg_47 j q0 q1 q2).trans ((hg_38 j q0 q1 q2).trans (hg_29 j q0 q1 q2)))⟩)
  · refine lv_tableIn (off := 143) (tgt := 144) hx hb dX0_runOfAncestor_1 (by decide) (by decide) (by decide) (by decide) ?_
    refine lv_aload_n hx hb dX0_runOfAncestor_144 rfl (lv_at hl 0 rfl) ?_
    refine lv_aload_n hx hb dX0_runOfAncestor_145 rfl (lv_at hl 0 rfl) ?_
    refine hr_get S hE hW hk inX0 (C := RX0) (T := TX0) (N := 13) rfl 5 (by decide) q_f_0_45 rfl dX0_runOfAncestor_146 ?_
    refine lv_iconst (v := 1) hx hb dX0_runOfAncestor_149 (by decide) ?_
    refine lv_iadd hx hb dX0_runOfAncestor_150 ?_
    refine hr_put S hE hW hS hk inX0 (C := RX0) (T := TX0) (N := 13) tyX0_ok nmX0 rfl 5 (by decide) q_f_0_45 rfl rfl rfl (Nat.le_of_ble_eq_true rfl) dX0_runOfAncestor_151 (fun H locs ct_52 hW hk_53 hg_54 hz hS => ?_)
    have h_55 := (hg_54 1 (by omega)).trans h1
    have h_56 := (hg_54 5 (by omega)).trans h5
    have h_57 := (hg_54 2 (by omega)).trans h2
    have h_58 := (hg_54 3 (by omega)).trans h3
    have h_59 : ct_52 k = some (.inr (0, [.ref (ad 1), .ref (ad 2), .int t, .int (takActF t), .int q.1, .int (q.2.1 + 1), r 5, r 6, r 7, r 8, r 9, r 10, r 11])) := hk_53
    refine lv_aload_n hx hb dX0_runOfAncestor_154 rfl (lv_at hl 0 rfl) ?_
    refine hr_get S hE hW h_59 inX0 (C := RX0) (T := TX0) (N := 13) rfl 5 (by decide) q_f_0_45 rfl dX0_runOfAncestor_155 ?_
    refine lv_bipush (v := 7) hx hb dX0_runOfAncestor_158 (by decide) ?_
    refine lv_imul hx hb dX0_runOfAncestor_160 ?_
    refine lv_iload_n hx hb dX0_runOfAncestor_161 rfl (lv_at hl 2 rfl) ?_
    refine lv_iadd hx hb dX0_runOfAncestor_162 ?_
    exact h_iret S hr hlk hS hW dX0_runOfAncestor_163 (by rw [bodyS_70]; exact ⟨rfl, ⟨h_59, h_57, h_58⟩, (fun j q0 q1 q2 => hg_54 j q0)⟩)
set_option maxRecDepth 100000 in
set_option maxHeartbeats 4000000 in
theorem c_X0_runOfEarlierKind (l : Launch) (G : hG) (ad : Nat → Nat) (ct : Nat → Option va_E) (n : Nat) (ih : RunC l G n) {k : Nat} {t : Int32} {r : Nat → Value} {q : St} (hk100 : 100 ≤ k) (h1 : ct 1 = some (.inr (1, [.ref (ad 4), .ref (ad 5)]))) (h5 : ct 5 = some (.inl (G.2.1.1, 216, .inl selT))) (hd : dW G ad ct k t r q) (d : Nat) (hdn : d + n = 40) (b x : Int32) (hbd : okBE b)  : Met l yX0_runOfEarlierKind wzX0_runOfEarlierKind { frames := 3 * n + 4, cells := 0, slots := 0, locals := 70 * n + 67 } (hPw [.ref (ad k), .int b, .int x, .int (nI d)] G ad ct) (hQi (fun rr ct1 => rr = (bodyS (runS n t) t b x q).1 ∧ dW G ad ct1 k t r (bodyS (runS n t) t b x q).2 ∧ ∀ j, j ≠ k → j ≠ 2 → j ≠ 3 → ct1 j = ct j) G ad) 0 0 (hA G.2.2.2) := by
  refine hMetw (by decide) (Nat.le_of_ble_eq_true rfl) (fun p e s m below meth c ls S hr hlk hE hW hl => ?_)
  obtain ⟨hx, hb, hml, hown, hts⟩ := id S
  have hS : va_S (hA G.2.2.2) s.heap s.heap [] := va_S.rf
  have hl : lv_has ls 4 [(0, .ref (ad k)), (1, .int b), (2, .int x), (3, .int (nI d))] := hl
  obtain ⟨hk, h2, h3⟩ := hd
  refine lv_iload_n hx hb dX0_runOfEarlierKind_0 rfl (lv_at hl 1 rfl) ?_
  unfold okBE at hbd
  rcases hbd with rfl | rfl | rfl | rfl | rfl | rfl | rfl | rfl | rfl | rfl | rfl
  · refine lv_tableIn (off := 187) (tgt := 188) hx hb dX0_runOfEarlierKind_1 (by decide) (by decide) (by decide) (by decide) ?_
    refine lv_aload_n hx hb dX0_runOfEarlierKind_188 rfl (lv_at hl 0 rfl) ?_
    refine hr_get S hE hW hk inX0 (C := RX0) (T := TX0) (N := 13) rfl 4 (by decide) q_f_0_32 rfl dX0_runOfEarlierKind_189 ?_
    refine lv_iload_n hx hb dX0_runOfEarlierKind_192 rfl (lv_at hl 2 rfl) ?_
    refine lv_iadd hx hb dX0_runOfEarlierKind_193 ?_
    exact h_iret S hr hlk hS hW dX0_runOfEarlierKind_194 (by rw [bodyS_100]; exact ⟨rfl, ⟨hk, h2, h3⟩, (fun j q0 q1 q2 => rfl)⟩)
  · refine lv_tableIn (off := 194) (tgt := 195) hx hb dX0_runOfEarlierKind_1 (by decide) (by decide) (by decide) (by decide) ?_
    refine lv_aload_n hx hb dX0_runOfEarlierKind_195 rfl (lv_at hl 0 rfl) ?_
    refine lv_bipush (v := 7) hx hb dX0_runOfEarlierKind_196 (by decide) ?_
    refine lv_bipush (v := 9) hx hb dX0_runOfEarlierKind_198 (by decide) ?_
    refine lv_iload_n hx hb dX0_runOfEarlierKind_200 rfl (lv_at hl 2 rfl) ?_
    refine lv_iconst (v := 2) hx hb dX0_runOfEarlierKind_201 (by decide) ?_
    refine lv_iadd hx hb dX0_runOfEarlierKind_202 ?_
    refine lv_iload_n hx hb dX0_runOfEarlierKind_203 rfl (lv_at hl 3 rfl) ?_
    refine hc_i (va_runV (As := [.int 7, .int 9, .int (x + 2), .int (nI d)]) (rest := []) S (c_X0_parentAct l G ad _ n ih (q := q) hk100 h1 h5 ⟨hk, h2, h3⟩ d hdn 7 9 (x + 2)) (cwV 4 hts (gWSV q_l_0_111 q_im_X0_parentAct q_se_X0_parentAct q_in_0 q_co_X0_parentAct) rfl rfl rfl (by decide +kernel) ⟨by dsimp only; omega, by dsimp only; omega⟩) (hPreVw hE hS (hrecv hE hW hk (q := (RX0, TX0, 13)) rfl) hW) rfl rfl hl.1 rfl (lv_room (Nat.le_of_ble_eq_true rfl)) dX0_runOfEarlierKind_204 ⟨Nat.le_of_ble_eq_true rfl, Nat.le_of_ble_eq_true rfl⟩) hS (fun rv_7 ct_1 H locs hp hW hS => ?_)
    obtain ⟨ev_6, ⟨h_2, h_3, h_4⟩, hg_5⟩ := hp
    subst ev_6
    have h_8 := (hg_5 1 (by omega) (by decide) (by decide)).trans h1
    have h_9 := (hg_5 5 (by omega) (by decide) (by decide)).trans h5
    refine lv_iconst (v := 1) hx hb dX0_runOfEarlierKind_207 (by decide) ?_
    refine lv_iadd hx hb dX0_runOfEarlierKind_208 ?_
    exact h_iret S hr hlk hS hW dX0_runOfEarlierKind_209 (by rw [bodyS_101]; exact ⟨rfl, ⟨h_2, h_3, h_4⟩, (fun j q0 q1 q2 => hg_5 j q0 q1 q2)⟩)
  · refine lv_tableIn (off := 209) (tgt := 210) hx hb dX0_runOfEarlierKind_1 (by decide) (by decide) (by decide) (by decide) ?_
    refine lv_aload_n hx hb dX0_runOfEarlierKind_210 rfl (lv_at hl 0 rfl) ?_
    refine lv_bipush (v := 8) hx hb dX0_runOfEarlierKind_211 (by decide) ?_
    refine lv_bipush (v := 10) hx hb dX0_runOfEarlierKind_213 (by decide) ?_
    refine lv_iload_n hx hb dX0_runOfEarlierKind_215 rfl (lv_at hl 2 rfl) ?_
    refine lv_iload_n hx hb dX0_runOfEarlierKind_216 rfl (lv_at hl 3 rfl) ?_
    refine hc_i (va_runV (As := [.int 8, .int 10, .int x, .int (nI d)]) (rest := []) S (c_X0_parentAct l G ad _ n ih (q := q) hk100 h1 h5 ⟨hk, h2, h3⟩ d hdn 8 10 x) (cwV 4 hts (gWSV q_l_0_111 q_im_X0_parentAct q_se_X0_parentAct q_in_0 q_co_X0_parentAct) rfl rfl rfl (by decide +kernel) ⟨by dsimp only; omega, by dsimp only; omega⟩) (hPreVw hE hS (hrecv hE hW hk (q := (RX0, TX0, 13)) rfl) hW) rfl rfl hl.1 rfl (lv_room (Nat.le_of_ble_eq_true rfl)) dX0_runOfEarlierKind_217 ⟨Nat.le_of_ble_eq_true rfl, Nat.le_of_ble_eq_true rfl⟩) hS (fun rv_16 ct_10 H locs hp hW hS => ?_)
    obtain ⟨ev_15, ⟨h_11, h_12, h_13⟩, hg_14⟩ := hp
    subst ev_15
    have h_17 := (hg_14 1 (by omega) (by decide) (by decide)).trans h1
    have h_18 := (hg_14 5 (by omega) (by decide) (by decide)).trans h5
    refine lv_iconst (v := 2) hx hb dX0_runOfEarlierKind_220 (by decide) ?_
    refine lv_imul hx hb dX0_runOfEarlierKind_221 ?_
    refine lv_aload_n hx hb dX0_runOfEarlierKind_222 rfl (lv_at hl 0 rfl) ?_
    refine lv_bipush (v := 112) hx hb dX0_runOfEarlierKind_223 (by decide) ?_
    refine lv_iload_n hx hb dX0_runOfEarlierKind_225 rfl (lv_at hl 2 rfl) ?_
    refine lv_iload_n hx hb dX0_runOfEarlierKind_226 rfl (lv_at hl 3 rfl) ?_
    refine hc_i (va_runV (As := [.int 112, .int x, .int (nI d)]) (rest := [.int (((runS n t (selOfF selT (parentF 8) 10) x q).1) * 2)]) S (ih ad _ k t r ((runS n t (selOfF selT (parentF 8) 10) x q).2.1, (runS n t (selOfF selT (parentF 8) 10) x q).2.2.1, ((runS n t (selOfF selT (parentF 8) 10) x q).2).2.2.1, ((runS n t (selOfF selT (parentF 8) 10) x q).2).2.2.2) 112 x d hk100 okB_112 hdn h_17 h_18 ⟨h_11, h_12, h_13⟩) (cwV 3 hts (gWSV q_l_0_83 q_im_X0_run q_se_X0_run q_in_0 q_co_X0_run) rfl rfl rfl (by decide +kernel) ⟨by dsimp only; omega, by dsimp only; omega⟩) (hPreVw hE hS (hrecv hE hW h_11 (q := (RX0, TX0, 13)) rfl) hW) rfl rfl hl.1 rfl (lv_room (Nat.le_of_ble_eq_true rfl)) dX0_runOfEarlierKind_227 ⟨Nat.le_of_ble_eq_true rfl, Nat.le_of_ble_eq_true rfl⟩) hS (fun rv_25 ct_19 H locs hp hW hS => ?_)
    obtain ⟨ev_24, ⟨h_20, h_21, h_22⟩, hg_23⟩ := hp
    subst ev_24
    have h_26 := (hg_23 1 (by omega) (by decide) (by decide)).trans h_17
    have h_27 := (hg_23 5 (by omega) (by decide) (by decide)).trans h_18
    refine lv_iadd hx hb dX0_runOfEarlierKind_230 ?_
    exact h_iret S hr hlk hS hW dX0_runOfEarlierKind_231 (by rw [bodyS_110]; exact ⟨rfl, ⟨h_20, h_21, h_22⟩, (fun j q0 q1 q2 => (hg_23 j q0 q1 q2).trans (hg_14 j q0 q1 q2))⟩)
  · refine lv_tableIn (off := 231) (tgt := 232) hx hb dX0_runOfEarlierKind_1 (by decide) (by decide) (by decide) (by decide) ?_
    refine lv_aload_n hx hb dX0_runOfEarlierKind_232 rfl (lv_at hl 0 rfl) ?_
    refine lv_iconst (v := 3) hx hb dX0_runOfEarlierKind_233 (by decide) ?_
    refine lv_iconst (v := 4) hx hb dX0_runOfEarlierKind_234 (by decide) ?_
    refine lv_iload_n hx hb dX0_runOfEarlierKind_235 rfl (lv_at hl 2 rfl) ?_
    refine lv_iload_n hx hb dX0_runOfEarlierKind_236 rfl (lv_at hl 3 rfl) ?_
    refine hc_i (va_runV (As := [.int 3, .int 4, .int x, .int (nI d)]) (rest := []) S (c_X0_interfaceAct l G ad _ n ih (q := q) hk100 h1 h5 ⟨hk, h2, h3⟩ d hdn 3 4 x) (cwV 4 hts (gWSV q_l_0_107 q_im_X0_interfaceAct q_se_X0_interfaceAct q_in_0 q_co_X0_interfaceAct) rfl rfl rfl (by decide +kernel) ⟨by dsimp only; omega, by dsimp only; omega⟩) (hPreVw hE hS (hrecv hE hW hk (q := (RX0, TX0, 13)) rfl) hW) rfl rfl hl.1 rfl (lv_room (Nat.le_of_ble_eq_true rfl)) dX0_runOfEarlierKind_237 ⟨Nat.le_of_ble_eq_true rfl, Nat.le_of_ble_eq_true rfl⟩) hS (fun rv_34 ct_28 H locs hp hW hS => ?_)
    obtain ⟨ev_33, ⟨h_29, h_30, h_31⟩, hg_32⟩ := hp
    subst ev_33
    have h_35 := (hg_32 1 (by omega) (by decide) (by decide)).trans h1
    have h_36 := (hg_32 5 (by omega) (by decide) (by decide)).trans h5
    refine lv_iconst (v := 1) hx hb dX0_runOfEarlierKind_240 (by decide) ?_
    refine lv_isub hx hb dX0_runOfEarlierKind_241 ?_
    exact h_iret S hr hlk hS hW dX0_runOfEarlierKind_242 (by rw [bodyS_111]; exact ⟨rfl, ⟨h_29, h_30, h_31⟩, (fun j q0 q1 q2 => hg_32 j q0 q1 q2)⟩)
  · refine lv_tableIn (off := 242) (tgt := 243) hx hb dX0_runOfEarlierKind_1 (by decide) (by decide) (by decide) (by decide) ?_
    refine lv_aload_n hx hb dX0_runOfEarlierKind_243 rfl (lv_at hl 0 rfl) ?_
    refine hr_get S hE hW hk inX0 (C := RX0) (T := TX0) (N := 13) rfl 5 (by decide) q_f_0_45 rfl dX0_runOfEarlierKind_244 ?_
    refine lv_iload_n hx hb dX0_runOfEarlierKind_247 rfl (lv_at hl 2 rfl) ?_
    refine lv_isub hx hb dX0_runOfEarlierKind_248 ?_
    exact h_iret S hr hlk hS hW dX0_runOfEarlierKind_249 (by rw [bodyS_112]; exact ⟨rfl, ⟨hk, h2, h3⟩, (fun j q0 q1 q2 => rfl)⟩)
  · refine lv_tableIn (off := 249) (tgt := 250) hx hb dX0_runOfEarlierKind_1 (by decide) (by decide) (by decide) (by decide) ?_
    refine lv_aload_n hx hb dX0_runOfEarlierKind_250 rfl (lv_at hl 0 rfl) ?_
    refine lv_iconst (v := 5) hx hb dX0_runOfEarlierKind_251 (by decide) ?_
    refine lv_iload_n hx hb dX0_runOfEarlierKind_252 rfl (lv_at hl 2 rfl) ?_
    refine lv_iload_n hx hb dX0_runOfEarlierKind_253 rfl (lv_at hl 3 rfl) ?_
    refine hc_i (va_runV (As := [.int 5, .int x, .int (nI d)]) (rest := []) S (c_X0_act l G ad _ n ih (q := q) hk100 h1 h5 ⟨hk, h2, h3⟩ d hdn 5 x) (cwV 3 hts (gWSV q_l_0_72 q_im_X0_act q_se_X0_act q_in_0 q_co_X0_act) rfl rfl rfl (by decide +kernel) ⟨by dsimp only; omega, by dsimp only; omega⟩) (hPreVw hE hS (hrecv hE hW hk (q := (RX0, TX0, 13)) rfl) hW) rfl rfl hl.1 rfl (lv_room (Nat.le_of_ble_eq_true rfl)) dX0_runOfEarlierKind_254 ⟨Nat.le_of_ble_eq_true rfl, Nat.le_of_ble_eq_true rfl⟩) hS (fun rv_43 ct_37 H locs hp hW hS => ?_)
    obtain ⟨ev_42, ⟨h_38, h_39, h_40⟩, hg_41⟩ := hp
    subst ev_42
    have h_44 := (hg_41 1 (by omega) (by decide) (by decide)).trans h1
    have h_45 := (hg_41 5 (by omega) (by decide) (by decide)).trans h5
    refine lv_iconst (v := 3) hx hb dX0_runOfEarlierKind_257 (by decide) ?_
    refine lv_imul hx hb dX0_runOfEarlierKind_258 ?_
    refine lv_aload_n hx hb dX0_runOfEarlierKind_259 rfl (lv_at hl 0 rfl) ?_
    refine hr_get S hE hW h_38 inX0 (C := RX0) (T := TX0) (N := 13) rfl 4 (by decide) q_f_0_32 rfl dX0_runOfEarlierKind_260 ?_
    refine lv_iadd hx hb dX0_runOfEarlierKind_263 ?_
    exact h_iret S hr hlk hS hW dX0_runOfEarlierKind_264 (by rw [bodyS_120]; exact ⟨rfl, ⟨h_38, h_39, h_40⟩, (fun j q0 q1 q2 => hg_41 j q0 q1 q2)⟩)
  · refine lv_tableIn (off := 264) (tgt := 265) hx hb dX0_runOfEarlierKind_1 (by decide) (by decide) (by decide) (by decide) ?_
    refine lv_aload_n hx hb dX0_runOfEarlierKind_265 rfl (lv_at hl 0 rfl) ?_
    refine lv_bipush (v := 10) hx hb dX0_runOfEarlierKind_266 (by decide) ?_
    refine lv_iconst (v := 0) hx hb dX0_runOfEarlierKind_268 (by decide) ?_
    refine lv_iload_n hx hb dX0_runOfEarlierKind_269 rfl (lv_at hl 2 rfl) ?_
    refine lv_iload_n hx hb dX0_runOfEarlierKind_270 rfl (lv_at hl 3 rfl) ?_
    refine hc_i (va_runV (As := [.int 10, .int 0, .int x, .int (nI d)]) (rest := []) S (c_X0_parentAct l G ad _ n ih (q := q) hk100 h1 h5 ⟨hk, h2, h3⟩ d hdn 10 0 x) (cwV 4 hts (gWSV q_l_0_111 q_im_X0_parentAct q_se_X0_parentAct q_in_0 q_co_X0_parentAct) rfl rfl rfl (by decide +kernel) ⟨by dsimp only; omega, by dsimp only; omega⟩) (hPreVw hE hS (hrecv hE hW hk (q := (RX0, TX0, 13)) rfl) hW) rfl rfl hl.1 rfl (lv_room (Nat.le_of_ble_eq_true rfl)) dX0_runOfEarlierKind_271 ⟨Nat.le_of_ble_eq_true rfl, Nat.le_of_ble_eq_true rfl⟩) hS (fun rv_52 ct_46 H locs hp hW hS => ?_)
    obtain ⟨ev_51, ⟨h_47, h_48, h_49⟩, hg_50⟩ := hp
    subst ev_51
    have h_53 := (hg_50 1 (by omega) (by decide) (by decide)).trans h1
    have h_54 := (hg_50 5 (by omega) (by decide) (by decide)).trans h5
    refine lv_iconst (v := 3) hx hb dX0_runOfEarlierKind_274 (by decide) ?_
    refine lv_imul hx hb dX0_runOfEarlierKind_275 ?_
    exact h_iret S hr hlk hS hW dX0_runOfEarlierKind_276 (by rw [bodyS_130]; exact ⟨rfl, ⟨h_47, h_48, h_49⟩, (fun j q0 q1 q2 => hg_50 j q0 q1 q2)⟩)
  · refine lv_tableIn (off := 276) (tgt := 277) hx hb dX0_runOfEarlierKind_1 (by decide) (by decide) (by decide) (by decide) ?_
    refine lv_aload_n hx hb dX0_runOfEarlierKind_277 rfl (lv_at hl 0 rfl) ?_
    refine lv_bipush (v := 10) hx hb dX0_runOfEarlierKind_278 (by decide) ?_
    refine lv_iconst (v := 1) hx hb dX0_runOfEarlierKind_280 (by decide) ?_
    refine lv_iload_n hx hb dX0_runOfEarlierKind_281 rfl (lv_at hl 2 rfl) ?_
    refine lv_iconst (v := 1) hx hb dX0_runOfEarlierKind_282 (by decide) ?_
    refine lv_iadd hx hb dX0_runOfEarlierKind_283 ?_
    refine lv_iload_n hx hb dX0_runOfEarlierKind_284 rfl (lv_at hl 3 rfl) ?_
    refine hc_i (va_runV (As := [.int 10, .int 1, .int (x + 1), .int (nI d)]) (rest := []) S (c_X0_parentAct l G ad _ n ih (q := q) hk100 h1 h5 ⟨hk, h2, h3⟩ d hdn 10 1 (x + 1)) (cwV 4 hts (gWSV q_l_0_111 q_im_X0_parentAct q_se_X0_parentAct q_in_0 q_co_X0_parentAct) rfl rfl rfl (by decide +kernel) ⟨by dsimp only; omega, by dsimp only; omega⟩) (hPreVw hE hS (hrecv hE hW hk (q := (RX0, TX0, 13)) rfl) hW) rfl rfl hl.1 rfl (lv_room (Nat.le_of_ble_eq_true rfl)) dX0_runOfEarlierKind_285 ⟨Nat.le_of_ble_eq_true rfl, Nat.le_of_ble_eq_true rfl⟩) hS (fun rv_61 ct_55 H locs hp hW hS => ?_)
    obtain ⟨ev_60, ⟨h_56, h_57, h_58⟩, hg_59⟩ := hp
    subst ev_60
    have h_62 := (hg_59 1 (by omega) (by decide) (by decide)).trans h1
    have h_63 := (hg_59 5 (by omega) (by decide) (by decide)).trans h5
    refine lv_iconst (v := 5) hx hb dX0_runOfEarlierKind_288 (by decide) ?_
    refine lv_iadd hx hb dX0_runOfEarlierKind_289 ?_
    exact h_iret S hr hlk hS hW dX0_runOfEarlierKind_290 (by rw [bodyS_131]; exact ⟨rfl, ⟨h_56, h_57, h_58⟩, (fun j q0 q1 q2 => hg_59 j q0 q1 q2)⟩)
  · refine lv_tableIn (off := 290) (tgt := 291) hx hb dX0_runOfEarlierKind_1 (by decide) (by decide) (by decide) (by decide) ?_
    refine lv_aload_n hx hb dX0_runOfEarlierKind_291 rfl (lv_at hl 0 rfl) ?_
    refine hr_get S hE hW hk inX0 (C := RX0) (T := TX0) (N := 13) rfl 4 (by decide) q_f_0_32 rfl dX0_runOfEarlierKind_292 ?_
    refine lv_iload_n hx hb dX0_runOfEarlierKind_295 rfl (lv_at hl 2 rfl) ?_
    refine lv_isub hx hb dX0_runOfEarlierKind_296 ?_
    exact h_iret S hr hlk hS hW dX0_runOfEarlierKind_297 (by rw [bodyS_140]; exact ⟨rfl, ⟨hk, h2, h3⟩, (fun j q0 q1 q2 => rfl)⟩)
  · refine lv_tableIn (off := 297) (tgt := 298) hx hb dX0_runOfEarlierKind_1 (by decide) (by decide) (by decide) (by decide) ?_
    refine lv_aload_n hx hb dX0_runOfEarlierKind_298 rfl (lv_at hl 0 rfl) ?_
    refine lv_bipush (v := 11) hx hb dX0_runOfEarlierKind_299 (by decide) ?_
    refine lv_iconst (v := 2) hx hb dX0_runOfEarlierKind_301 (by decide) ?_
    refine lv_iload_n hx hb dX0_runOfEarlierKind_302 rfl (lv_at hl 2 rfl) ?_
    refine lv_iload_n hx hb dX0_runOfEarlierKind_303 rfl (lv_at hl 3 rfl) ?_
    refine hc_i (va_runV (As := [.int 11, .int 2, .int x, .int (nI d)]) (rest := []) S (c_X0_parentAct l G ad _ n ih (q := q) hk100 h1 h5 ⟨hk, h2, h3⟩ d hdn 11 2 x) (cwV 4 hts (gWSV q_l_0_111 q_im_X0_parentAct q_se_X0_parentAct q_in_0 q_co_X0_parentAct) rfl rfl rfl (by decide +kernel) ⟨by dsimp only; omega, by dsimp only; omega⟩) (hPreVw hE hS (hrecv hE hW hk (q := (RX0, TX0, 13)) rfl) hW) rfl rfl hl.1 rfl (lv_room (Nat.le_of_ble_eq_true rfl)) dX0_runOfEarlierKind_304 ⟨Nat.le_of_ble_eq_true rfl, Nat.le_of_ble_eq_true rfl⟩) hS (fun rv_70 ct_64 H locs hp hW hS => ?_)
    obtain ⟨ev_69, ⟨h_65, h_66, h_67⟩, hg_68⟩ := hp
    subst ev_69
    have h_71 := (hg_68 1 (by omega) (by decide) (by decide)).trans h1
    have h_72 := (hg_68 5 (by omega) (by decide) (by decide)).trans h5
    refine lv_aload_n hx hb dX0_runOfEarlierKind_307 rfl (lv_at hl 0 rfl) ?_
    refine lv_iconst (v := 2) hx hb dX0_runOfEarlierKind_308 (by decide) ?_
    refine lv_iconst (v := 2) hx hb dX0_runOfEarlierKind_309 (by decide) ?_
    refine lv_iconst (v := 1) hx hb dX0_runOfEarlierKind_310 (by decide) ?_
    refine lv_iload_n hx hb dX0_runOfEarlierKind_311 rfl (lv_at hl 3 rfl) ?_
    refine hc_i (va_runV (As := [.int 2, .int 2, .int 1, .int (nI d)]) (rest := [.int ((runS n t (selOfF selT (parentF 11) 2) x q).1)]) S (c_X0_interfaceAct l G ad _ n ih (q := ((runS n t (selOfF selT (parentF 11) 2) x q).2.1, (runS n t (selOfF selT (parentF 11) 2) x q).2.2.1, ((runS n t (selOfF selT (parentF 11) 2) x q).2).2.2.1, ((runS n t (selOfF selT (parentF 11) 2) x q).2).2.2.2)) hk100 h_71 h_72 ⟨h_65, h_66, h_67⟩ d hdn 2 2 1) (cwV 4 hts (gWSV q_l_0_107 q_im_X0_interfaceAct q_se_X0_interfaceAct q_in_0 q_co_X0_interfaceAct) rfl rfl rfl (by decide +kernel) ⟨by dsimp only; omega, by dsimp only; omega⟩) (hPreVw hE hS (hrecv hE hW h_65 (q := (RX0, TX0, 13)) rfl) hW) rfl rfl hl.1 rfl (lv_room (Nat.le_of_ble_eq_true rfl)) dX0_runOfEarlierKind_312 ⟨Nat.le_of_ble_eq_true rfl, Nat.le_of_ble_eq_true rfl⟩) hS (fun rv_79 ct_73 H locs hp hW hS => ?_)
    obtain ⟨ev_78, ⟨h_74, h_75, h_76⟩, hg_77⟩ := hp
    subst ev_78
    have h_80 := (hg_77 1 (by omega) (by decide) (by decide)).trans h_71
    have h_81 := (hg_77 5 (by omega) (by decide) (by decide)).trans h_72
    refine lv_isub hx hb dX0_runOfEarlierKind_315 ?_
    exact h_iret S hr hlk hS hW dX0_runOfEarlierKind_316 (by rw [bodyS_141]; exact ⟨rfl, ⟨h_74, h_75, h_76⟩, (fun j q0 q1 q2 => (hg_77 j q0 q1 q2).trans (hg_68 j q0 q1 q2))⟩)
  · refine lv_tableIn (off := 316) (tgt := 317) hx hb dX0_runOfEarlierKind_1 (by decide) (by decide) (by decide) (by decide) ?_
    refine lv_aload_n hx hb dX0_runOfEarlierKind_317 rfl (lv_at hl 0 rfl) ?_
    refine lv_bipush (v := 11) hx hb dX0_runOfEarlierKind_318 (by decide) ?_
    refine lv_bipush (v := 10) hx hb dX0_runOfEarlierKind_320 (by decide) ?_
    refine lv_iload_n hx hb dX0_runOfEarlierKind_322 rfl (lv_at hl 2 rfl) ?_
    refine lv_iconst (v := 1) hx hb dX0_runOfEarlierKind_323 (by decide) ?_
    refine lv_iadd hx hb dX0_runOfEarlierKind_324 ?_
    refine lv_iload_n hx hb dX0_runOfEarlierKind_325 rfl (lv_at hl 3 rfl) ?_
    refine hc_i (va_runV (As := [.int 11, .int 10, .int (x + 1), .int (nI d)]) (rest := []) S (c_X0_parentAct l G ad _ n ih (q := q) hk100 h1 h5 ⟨hk, h2, h3⟩ d hdn 11 10 (x + 1)) (cwV 4 hts (gWSV q_l_0_111 q_im_X0_parentAct q_se_X0_parentAct q_in_0 q_co_X0_parentAct) rfl rfl rfl (by decide +kernel) ⟨by dsimp only; omega, by dsimp only; omega⟩) (hPreVw hE hS (hrecv hE hW hk (q := (RX0, TX0, 13)) rfl) hW) rfl rfl hl.1 rfl (lv_room (Nat.le_of_ble_eq_true rfl)) dX0_runOfEarlierKind_326 ⟨Nat.le_of_ble_eq_true rfl, Nat.le_of_ble_eq_true rfl⟩) hS (fun rv_88 ct_82 H locs hp hW hS => ?_)
    obtain ⟨ev_87, ⟨h_83, h_84, h_85⟩, hg_86⟩ := hp
    subst ev_87
    have h_89 := (hg_86 1 (by omega) (by decide) (by decide)).trans h1
    have h_90 := (hg_86 5 (by omega) (by decide) (by decide)).trans h5
    refine lv_iconst (v := 4) hx hb dX0_runOfEarlierKind_329 (by decide) ?_
    refine lv_iadd hx hb dX0_runOfEarlierKind_330 ?_
    exact h_iret S hr hlk hS hW dX0_runOfEarlierKind_331 (by rw [bodyS_142]; exact ⟨rfl, ⟨h_83, h_84, h_85⟩, (fun j q0 q1 q2 => hg_86 j q0 q1 q2)⟩)
set_option maxRecDepth 100000 in
set_option maxHeartbeats 4000000 in
theorem c_X0_runOfLaterKind (l : Launch) (G : hG) (ad : Nat → Nat) (ct : Nat → Option va_E) (n : Nat) (ih : RunC l G n) {k : Nat} {t : Int32} {r : Nat → Value} {q : St} (hk100 : 100 ≤ k) (h1 : ct 1 = some (.inr (1, [.ref (ad 4), .ref (ad 5)]))) (h5 : ct 5 = some (.inl (G.2.1.1, 216, .inl selT))) (hd : dW G ad ct k t r q) (d : Nat) (hdn : d + n = 40) (b x : Int32) (hbd : okBL b)  : Met l yX0_runOfLaterKind wzX0_runOfLaterKind { frames := 3 * n + 4, cells := 0, slots := 0, locals := 70 * n + 67 } (hPw [.ref (ad k), .int b, .int x, .int (nI d)] G ad ct) (hQi (fun rr ct1 => rr = (bodyS (runS n t) t b x q).1 ∧ dW G ad ct1 k t r (bodyS (runS n t) t b x q).2 ∧ ∀ j, j ≠ k → j ≠ 2 → j ≠ 3 → ct1 j = ct j) G ad) 0 0 (hA G.2.2.2) := by
  refine hMetw (by decide) (Nat.le_of_ble_eq_true rfl) (fun p e s m below meth c ls S hr hlk hE hW hl => ?_)
  obtain ⟨hx, hb, hml, hown, hts⟩ := id S
  have hS : va_S (hA G.2.2.2) s.heap s.heap [] := va_S.rf
  have hl : lv_has ls 4 [(0, .ref (ad k)), (1, .int b), (2, .int x), (3, .int (nI d))] := hl
  obtain ⟨hk, h2, h3⟩ := hd
  refine lv_iload_n hx hb dX0_runOfLaterKind_0 rfl (lv_at hl 1 rfl) ?_
  unfold okBL at hbd
  rcases hbd with rfl | rfl | rfl | rfl | rfl | rfl | rfl | rfl | rfl | rfl | rfl | rfl | rfl | rfl
  · refine lv_tableIn (off := 235) (tgt := 236) hx hb dX0_runOfLaterKind_1 (by decide) (by decide) (by decide) (by decide) ?_
    refine lv_aload_n hx hb dX0_runOfLaterKind_236 rfl (lv_at hl 0 rfl) ?_
    refine lv_iconst (v := 5) hx hb dX0_runOfLaterKind_237 (by decide) ?_
    refine lv_iload_n hx hb dX0_runOfLaterKind_238 rfl (lv_at hl 2 rfl) ?_
    refine lv_iload_n hx hb dX0_runOfLaterKind_239 rfl (lv_at hl 3 rfl) ?_
    refine hc_i (va_runV (As := [.int 5, .int x, .int (nI d)]) (rest := []) S (c_X0_act l G ad _ n ih (q := q) hk100 h1 h5 ⟨hk, h2, h3⟩ d hdn 5 x) (cwV 3 hts (gWSV q_l_0_72 q_im_X0_act q_se_X0_act q_in_0 q_co_X0_act) rfl rfl rfl (by decide +kernel) ⟨by dsimp only; omega, by dsimp only; omega⟩) (hPreVw hE hS (hrecv hE hW hk (q := (RX0, TX0, 13)) rfl) hW) rfl rfl hl.1 rfl (lv_room (Nat.le_of_ble_eq_true rfl)) dX0_runOfLaterKind_240 ⟨Nat.le_of_ble_eq_true rfl, Nat.le_of_ble_eq_true rfl⟩) hS (fun rv_7 ct_1 H locs hp hW hS => ?_)
    obtain ⟨ev_6, ⟨h_2, h_3, h_4⟩, hg_5⟩ := hp
    subst ev_6
    have h_8 := (hg_5 1 (by omega) (by decide) (by decide)).trans h1
    have h_9 := (hg_5 5 (by omega) (by decide) (by decide)).trans h5
    refine lv_aload_n hx hb dX0_runOfLaterKind_243 rfl (lv_at hl 0 rfl) ?_
    refine hr_get S hE hW h_2 inX0 (C := RX0) (T := TX0) (N := 13) rfl 4 (by decide) q_f_0_32 rfl dX0_runOfLaterKind_244 ?_
    refine lv_iadd hx hb dX0_runOfLaterKind_247 ?_
    exact h_iret S hr hlk hS hW dX0_runOfLaterKind_248 (by rw [bodyS_150]; exact ⟨rfl, ⟨h_2, h_3, h_4⟩, (fun j q0 q1 q2 => hg_5 j q0 q1 q2)⟩)
  · refine lv_tableIn (off := 248) (tgt := 249) hx hb dX0_runOfLaterKind_1 (by decide) (by decide) (by decide) (by decide) ?_
    refine lv_aload_n hx hb dX0_runOfLaterKind_249 rfl (lv_at hl 0 rfl) ?_
    refine lv_bipush (v := 12) hx hb dX0_runOfLaterKind_250 (by decide) ?_
    refine lv_bipush (v := 9) hx hb dX0_runOfLaterKind_252 (by decide) ?_
    refine lv_iload_n hx hb dX0_runOfLaterKind_254 rfl (lv_at hl 2 rfl) ?_
    refine lv_iload_n hx hb dX0_runOfLaterKind_255 rfl (lv_at hl 3 rfl) ?_
    refine hc_i (va_runV (As := [.int 12, .int 9, .int x, .int (nI d)]) (rest := []) S (c_X0_parentAct l G ad _ n ih (q := q) hk100 h1 h5 ⟨hk, h2, h3⟩ d hdn 12 9 x) (cwV 4 hts (gWSV q_l_0_111 q_im_X0_parentAct q_se_X0_parentAct q_in_0 q_co_X0_parentAct) rfl rfl rfl (by decide +kernel) ⟨by dsimp only; omega, by dsimp only; omega⟩) (hPreVw hE hS (hrecv hE hW hk (q := (RX0, TX0, 13)) rfl) hW) rfl rfl hl.1 rfl (lv_room (Nat.le_of_ble_eq_true rfl)) dX0_runOfLaterKind_256 ⟨Nat.le_of_ble_eq_true rfl, Nat.le_of_ble_eq_true rfl⟩) hS (fun rv_16 ct_10 H locs hp hW hS => ?_)
    obtain ⟨ev_15, ⟨h_11, h_12, h_13⟩, hg_14⟩ := hp
    subst ev_15
    have h_17 := (hg_14 1 (by omega) (by decide) (by decide)).trans h1
    have h_18 := (hg_14 5 (by omega) (by decide) (by decide)).trans h5
    refine lv_aload_n hx hb dX0_runOfLaterKind_259 rfl (lv_at hl 0 rfl) ?_
    refine lv_iconst (v := 2) hx hb dX0_runOfLaterKind_260 (by decide) ?_
    refine lv_iconst (v := 0) hx hb dX0_runOfLaterKind_261 (by decide) ?_
    refine lv_iload_n hx hb dX0_runOfLaterKind_262 rfl (lv_at hl 3 rfl) ?_
    refine hc_i (va_runV (As := [.int 2, .int 0, .int (nI d)]) (rest := [.int ((runS n t (selOfF selT (parentF 12) 9) x q).1)]) S (c_X0_act l G ad _ n ih (q := ((runS n t (selOfF selT (parentF 12) 9) x q).2.1, (runS n t (selOfF selT (parentF 12) 9) x q).2.2.1, ((runS n t (selOfF selT (parentF 12) 9) x q).2).2.2.1, ((runS n t (selOfF selT (parentF 12) 9) x q).2).2.2.2)) hk100 h_17 h_18 ⟨h_11, h_12, h_13⟩ d hdn 2 0) (cwV 3 hts (gWSV q_l_0_72 q_im_X0_act q_se_X0_act q_in_0 q_co_X0_act) rfl rfl rfl (by decide +kernel) ⟨by dsimp only; omega, by dsimp only; omega⟩) (hPreVw hE hS (hrecv hE hW h_11 (q := (RX0, TX0, 13)) rfl) hW) rfl rfl hl.1 rfl (lv_room (Nat.le_of_ble_eq_true rfl)) dX0_runOfLaterKind_263 ⟨Nat.le_of_ble_eq_true rfl, Nat.le_of_ble_eq_true rfl⟩) hS (fun rv_25 ct_19 H locs hp hW hS => ?_)
    obtain ⟨ev_24, ⟨h_20, h_21, h_22⟩, hg_23⟩ := hp
    subst ev_24
    have h_26 := (hg_23 1 (by omega) (by decide) (by decide)).trans h_17
    have h_27 := (hg_23 5 (by omega) (by decide) (by decide)).trans h_18
    refine lv_ixor hx hb dX0_runOfLaterKind_266 ?_
    exact h_iret S hr hlk hS hW dX0_runOfLaterKind_267 (by rw [bodyS_151]; exact ⟨rfl, ⟨h_20, h_21, h_22⟩, (fun j q0 q1 q2 => (hg_23 j q0 q1 q2).trans (hg_14 j q0 q1 q2))⟩)
  · refine lv_tableIn (off := 267) (tgt := 268) hx hb dX0_runOfLaterKind_1 (by decide) (by decide) (by decide) (by decide) ?_
    refine lv_aload_n hx hb dX0_runOfLaterKind_268 rfl (lv_at hl 0 rfl) ?_
    refine lv_iconst (v := 4) hx hb dX0_runOfLaterKind_269 (by decide) ?_
    refine lv_iconst (v := 4) hx hb dX0_runOfLaterKind_270 (by decide) ?_
    refine lv_iload_n hx hb dX0_runOfLaterKind_271 rfl (lv_at hl 2 rfl) ?_
    refine lv_iload_n hx hb dX0_runOfLaterKind_272 rfl (lv_at hl 3 rfl) ?_
    refine hc_i (va_runV (As := [.int 4, .int 4, .int x, .int (nI d)]) (rest := []) S (c_X0_interfaceAct l G ad _ n ih (q := q) hk100 h1 h5 ⟨hk, h2, h3⟩ d hdn 4 4 x) (cwV 4 hts (gWSV q_l_0_107 q_im_X0_interfaceAct q_se_X0_interfaceAct q_in_0 q_co_X0_interfaceAct) rfl rfl rfl (by decide +kernel) ⟨by dsimp only; omega, by dsimp only; omega⟩) (hPreVw hE hS (hrecv hE hW hk (q := (RX0, TX0, 13)) rfl) hW) rfl rfl hl.1 rfl (lv_room (Nat.le_of_ble_eq_true rfl)) dX0_runOfLaterKind_273 ⟨Nat.le_of_ble_eq_true rfl, Nat.le_of_ble_eq_true rfl⟩) hS (fun rv_34 ct_28 H locs hp hW hS => ?_)
    obtain ⟨ev_33, ⟨h_29, h_30, h_31⟩, hg_32⟩ := hp
    subst ev_33
    have h_35 := (hg_32 1 (by omega) (by decide) (by decide)).trans h1
    have h_36 := (hg_32 5 (by omega) (by decide) (by decide)).trans h5
    refine lv_iconst (v := 1) hx hb dX0_runOfLaterKind_276 (by decide) ?_
    refine lv_iadd hx hb dX0_runOfLaterKind_277 ?_
    exact h_iret S hr hlk hS hW dX0_runOfLaterKind_278 (by rw [bodyS_152]; exact ⟨rfl, ⟨h_29, h_30, h_31⟩, (fun j q0 q1 q2 => hg_32 j q0 q1 q2)⟩)
  · refine lv_tableIn (off := 278) (tgt := 279) hx hb dX0_runOfLaterKind_1 (by decide) (by decide) (by decide) (by decide) ?_
    refine lv_iload_n hx hb dX0_runOfLaterKind_279 rfl (lv_at hl 2 rfl) ?_
    exact h_iret S hr hlk hS hW dX0_runOfLaterKind_280 (by rw [bodyS_160]; exact ⟨rfl, ⟨hk, h2, h3⟩, (fun j q0 q1 q2 => rfl)⟩)
  · refine lv_tableIn (off := 280) (tgt := 281) hx hb dX0_runOfLaterKind_1 (by decide) (by decide) (by decide) (by decide) ?_
    refine lv_aload_n hx hb dX0_runOfLaterKind_281 rfl (lv_at hl 0 rfl) ?_
    refine lv_bipush (v := 6) hx hb dX0_runOfLaterKind_282 (by decide) ?_
    refine lv_bipush (v := 8) hx hb dX0_runOfLaterKind_284 (by decide) ?_
    refine lv_iload_n hx hb dX0_runOfLaterKind_286 rfl (lv_at hl 2 rfl) ?_
    refine lv_iload_n hx hb dX0_runOfLaterKind_287 rfl (lv_at hl 3 rfl) ?_
    refine hc_i (va_runV (As := [.int 6, .int 8, .int x, .int (nI d)]) (rest := []) S (c_X0_interfaceAct l G ad _ n ih (q := q) hk100 h1 h5 ⟨hk, h2, h3⟩ d hdn 6 8 x) (cwV 4 hts (gWSV q_l_0_107 q_im_X0_interfaceAct q_se_X0_interfaceAct q_in_0 q_co_X0_interfaceAct) rfl rfl rfl (by decide +kernel) ⟨by dsimp only; omega, by dsimp only; omega⟩) (hPreVw hE hS (hrecv hE hW hk (q := (RX0, TX0, 13)) rfl) hW) rfl rfl hl.1 rfl (lv_room (Nat.le_of_ble_eq_true rfl)) dX0_runOfLaterKind_288 ⟨Nat.le_of_ble_eq_true rfl, Nat.le_of_ble_eq_true rfl⟩) hS (fun rv_43 ct_37 H locs hp hW hS => ?_)
    obtain ⟨ev_42, ⟨h_38, h_39, h_40⟩, hg_41⟩ := hp
    subst ev_42
    have h_44 := (hg_41 1 (by omega) (by decide) (by decide)).trans h1
    have h_45 := (hg_41 5 (by omega) (by decide) (by decide)).trans h5
    refine lv_sipush (v := 255) hx hb dX0_runOfLaterKind_291 (by decide) ?_
    refine lv_iand hx hb dX0_runOfLaterKind_294 ?_
    exact h_iret S hr hlk hS hW dX0_runOfLaterKind_295 (by rw [bodyS_161]; exact ⟨rfl, ⟨h_38, h_39, h_40⟩, (fun j q0 q1 q2 => hg_41 j q0 q1 q2)⟩)
  · refine lv_tableIn (off := 295) (tgt := 296) hx hb dX0_runOfLaterKind_1 (by decide) (by decide) (by decide) (by decide) ?_
    refine lv_iload_n hx hb dX0_runOfLaterKind_296 rfl (lv_at hl 2 rfl) ?_
    refine lv_bipush (v := 99) hx hb dX0_runOfLaterKind_297 (by decide) ?_
    refine lv_iadd hx hb dX0_runOfLaterKind_299 ?_
    exact h_iret S hr hlk hS hW dX0_runOfLaterKind_300 (by rw [bodyS_162]; exact ⟨rfl, ⟨hk, h2, h3⟩, (fun j q0 q1 q2 => rfl)⟩)
  · refine lv_tableIn (off := 300) (tgt := 301) hx hb dX0_runOfLaterKind_1 (by decide) (by decide) (by decide) (by decide) ?_
    refine lv_aload_n hx hb dX0_runOfLaterKind_301 rfl (lv_at hl 0 rfl) ?_
    refine lv_sipush (v := 162) hx hb dX0_runOfLaterKind_302 (by decide) ?_
    refine lv_iload_n hx hb dX0_runOfLaterKind_305 rfl (lv_at hl 2 rfl) ?_
    refine lv_iload_n hx hb dX0_runOfLaterKind_306 rfl (lv_at hl 3 rfl) ?_
    refine hc_i (va_runV (As := [.int 162, .int x, .int (nI d)]) (rest := []) S (ih ad _ k t r q 162 x d hk100 okB_162 hdn h1 h5 ⟨hk, h2, h3⟩) (cwV 3 hts (gWSV q_l_0_83 q_im_X0_run q_se_X0_run q_in_0 q_co_X0_run) rfl rfl rfl (by decide +kernel) ⟨by dsimp only; omega, by dsimp only; omega⟩) (hPreVw hE hS (hrecv hE hW hk (q := (RX0, TX0, 13)) rfl) hW) rfl rfl hl.1 rfl (lv_room (Nat.le_of_ble_eq_true rfl)) dX0_runOfLaterKind_307 ⟨Nat.le_of_ble_eq_true rfl, Nat.le_of_ble_eq_true rfl⟩) hS (fun rv_52 ct_46 H locs hp hW hS => ?_)
    obtain ⟨ev_51, ⟨h_47, h_48, h_49⟩, hg_50⟩ := hp
    subst ev_51
    have h_53 := (hg_50 1 (by omega) (by decide) (by decide)).trans h1
    have h_54 := (hg_50 5 (by omega) (by decide) (by decide)).trans h5
    refine lv_aload_n hx hb dX0_runOfLaterKind_310 rfl (lv_at hl 0 rfl) ?_
    refine lv_bipush (v := 13) hx hb dX0_runOfLaterKind_311 (by decide) ?_
    refine lv_bipush (v := 9) hx hb dX0_runOfLaterKind_313 (by decide) ?_
    refine lv_iconst (v := 1) hx hb dX0_runOfLaterKind_315 (by decide) ?_
    refine lv_iload_n hx hb dX0_runOfLaterKind_316 rfl (lv_at hl 3 rfl) ?_
    refine hc_i (va_runV (As := [.int 13, .int 9, .int 1, .int (nI d)]) (rest := [.int ((runS n t 162 x q).1)]) S (c_X0_parentAct l G ad _ n ih (q := ((runS n t 162 x q).2.1, (runS n t 162 x q).2.2.1, ((runS n t 162 x q).2).2.2.1, ((runS n t 162 x q).2).2.2.2)) hk100 h_53 h_54 ⟨h_47, h_48, h_49⟩ d hdn 13 9 1) (cwV 4 hts (gWSV q_l_0_111 q_im_X0_parentAct q_se_X0_parentAct q_in_0 q_co_X0_parentAct) rfl rfl rfl (by decide +kernel) ⟨by dsimp only; omega, by dsimp only; omega⟩) (hPreVw hE hS (hrecv hE hW h_47 (q := (RX0, TX0, 13)) rfl) hW) rfl rfl hl.1 rfl (lv_room (Nat.le_of_ble_eq_true rfl)) dX0_runOfLaterKind_317 ⟨Nat.le_of_ble_eq_true rfl, Nat.le_of_ble_eq_true rfl⟩) hS (fun rv_61 ct_55 H locs hp hW hS => ?_)
    obtain ⟨ev_60, ⟨h_56, h_57, h_58⟩, hg_59⟩ := hp
    subst ev_60
    have h_62 := (hg_59 1 (by omega) (by decide) (by decide)).trans h_53
    have h_63 := (hg_59 5 (by omega) (by decide) (by decide)).trans h_54
    refine lv_iadd hx hb dX0_runOfLaterKind_320 ?_
    exact h_iret S hr hlk hS hW dX0_runOfLaterKind_321 (by rw [bodyS_163]; exact ⟨rfl, ⟨h_56, h_57, h_58⟩, (fun j q0 q1 q2 => (hg_59 j q0 q1 q2).trans (hg_50 j q0 q1 q2))⟩)
  · refine lv_tableIn (off := 321) (tgt := 322) hx hb dX0_runOfLaterKind_1 (by decide) (by decide) (by decide) (by decide) ?_
    refine lv_aload_n hx hb dX0_runOfLaterKind_322 rfl (lv_at hl 0 rfl) ?_
    refine lv_bipush (v := 15) hx hb dX0_runOfLaterKind_323 (by decide) ?_
    refine lv_bipush (v := 9) hx hb dX0_runOfLaterKind_325 (by decide) ?_
    refine lv_iload_n hx hb dX0_runOfLaterKind_327 rfl (lv_at hl 2 rfl) ?_
    refine lv_iload_n hx hb dX0_runOfLaterKind_328 rfl (lv_at hl 3 rfl) ?_
    refine hc_i (va_runV (As := [.int 15, .int 9, .int x, .int (nI d)]) (rest := []) S (c_X0_parentAct l G ad _ n ih (q := q) hk100 h1 h5 ⟨hk, h2, h3⟩ d hdn 15 9 x) (cwV 4 hts (gWSV q_l_0_111 q_im_X0_parentAct q_se_X0_parentAct q_in_0 q_co_X0_parentAct) rfl rfl rfl (by decide +kernel) ⟨by dsimp only; omega, by dsimp only; omega⟩) (hPreVw hE hS (hrecv hE hW hk (q := (RX0, TX0, 13)) rfl) hW) rfl rfl hl.1 rfl (lv_room (Nat.le_of_ble_eq_true rfl)) dX0_runOfLaterKind_329 ⟨Nat.le_of_ble_eq_true rfl, Nat.le_of_ble_eq_true rfl⟩) hS (fun rv_70 ct_64 H locs hp hW hS => ?_)
    obtain ⟨ev_69, ⟨h_65, h_66, h_67⟩, hg_68⟩ := hp
    subst ev_69
    have h_71 := (hg_68 1 (by omega) (by decide) (by decide)).trans h1
    have h_72 := (hg_68 5 (by omega) (by decide) (by decide)).trans h5
    refine lv_iconst (v := 1) hx hb dX0_runOfLaterKind_332 (by decide) ?_
    refine lv_isub hx hb dX0_runOfLaterKind_333 ?_
    exact h_iret S hr hlk hS hW dX0_runOfLaterKind_334 (by rw [bodyS_180]; exact ⟨rfl, ⟨h_65, h_66, h_67⟩, (fun j q0 q1 q2 => hg_68 j q0 q1 q2)⟩)
  · refine lv_tableIn (off := 334) (tgt := 335) hx hb dX0_runOfLaterKind_1 (by decide) (by decide) (by decide) (by decide) ?_
    refine lv_aload_n hx hb dX0_runOfLaterKind_335 rfl (lv_at hl 0 rfl) ?_
    refine lv_bipush (v := 15) hx hb dX0_runOfLaterKind_336 (by decide) ?_
    refine lv_iconst (v := 2) hx hb dX0_runOfLaterKind_338 (by decide) ?_
    refine lv_iload_n hx hb dX0_runOfLaterKind_339 rfl (lv_at hl 2 rfl) ?_
    refine lv_iload_n hx hb dX0_runOfLaterKind_340 rfl (lv_at hl 3 rfl) ?_
    refine hc_i (va_runV (As := [.int 15, .int 2, .int x, .int (nI d)]) (rest := []) S (c_X0_parentAct l G ad _ n ih (q := q) hk100 h1 h5 ⟨hk, h2, h3⟩ d hdn 15 2 x) (cwV 4 hts (gWSV q_l_0_111 q_im_X0_parentAct q_se_X0_parentAct q_in_0 q_co_X0_parentAct) rfl rfl rfl (by decide +kernel) ⟨by dsimp only; omega, by dsimp only; omega⟩) (hPreVw hE hS (hrecv hE hW hk (q := (RX0, TX0, 13)) rfl) hW) rfl rfl hl.1 rfl (lv_room (Nat.le_of_ble_eq_true rfl)) dX0_runOfLaterKind_341 ⟨Nat.le_of_ble_eq_true rfl, Nat.le_of_ble_eq_true rfl⟩) hS (fun rv_79 ct_73 H locs hp hW hS => ?_)
    obtain ⟨ev_78, ⟨h_74, h_75, h_76⟩, hg_77⟩ := hp
    subst ev_78
    have h_80 := (hg_77 1 (by omega) (by decide) (by decide)).trans h1
    have h_81 := (hg_77 5 (by omega) (by decide) (by decide)).trans h5
    refine lv_aload_n hx hb dX0_runOfLaterKind_344 rfl (lv_at hl 0 rfl) ?_
    refine lv_iconst (v := 1) hx hb dX0_runOfLaterKind_345 (by decide) ?_
    refine lv_iconst (v := 2) hx hb dX0_runOfLaterKind_346 (by decide) ?_
    refine lv_iload_n hx hb dX0_runOfLaterKind_347 rfl (lv_at hl 3 rfl) ?_
    refine hc_i (va_runV (As := [.int 1, .int 2, .int (nI d)]) (rest := [.int ((runS n t (selOfF selT (parentF 15) 2) x q).1)]) S (c_X0_act l G ad _ n ih (q := ((runS n t (selOfF selT (parentF 15) 2) x q).2.1, (runS n t (selOfF selT (parentF 15) 2) x q).2.2.1, ((runS n t (selOfF selT (parentF 15) 2) x q).2).2.2.1, ((runS n t (selOfF selT (parentF 15) 2) x q).2).2.2.2)) hk100 h_80 h_81 ⟨h_74, h_75, h_76⟩ d hdn 1 2) (cwV 3 hts (gWSV q_l_0_72 q_im_X0_act q_se_X0_act q_in_0 q_co_X0_act) rfl rfl rfl (by decide +kernel) ⟨by dsimp only; omega, by dsimp only; omega⟩) (hPreVw hE hS (hrecv hE hW h_74 (q := (RX0, TX0, 13)) rfl) hW) rfl rfl hl.1 rfl (lv_room (Nat.le_of_ble_eq_true rfl)) dX0_runOfLaterKind_348 ⟨Nat.le_of_ble_eq_true rfl, Nat.le_of_ble_eq_true rfl⟩) hS (fun rv_88 ct_82 H locs hp hW hS => ?_)
    obtain ⟨ev_87, ⟨h_83, h_84, h_85⟩, hg_86⟩ := hp
    subst ev_87
    have h_89 := (hg_86 1 (by omega) (by decide) (by decide)).trans h_80
    have h_90 := (hg_86 5 (by omega) (by decide) (by decide)).trans h_81
    refine lv_iadd hx hb dX0_runOfLaterKind_351 ?_
    exact h_iret S hr hlk hS hW dX0_runOfLaterKind_352 (by rw [bodyS_181]; exact ⟨rfl, ⟨h_83, h_84, h_85⟩, (fun j q0 q1 q2 => (hg_86 j q0 q1 q2).trans (hg_77 j q0 q1 q2))⟩)
  · refine lv_tableIn (off := 352) (tgt := 353) hx hb dX0_runOfLaterKind_1 (by decide) (by decide) (by decide) (by decide) ?_
    refine lv_aload_n hx hb dX0_runOfLaterKind_353 rfl (lv_at hl 0 rfl) ?_
    refine lv_bipush (v := 10) hx hb dX0_runOfLaterKind_354 (by decide) ?_
    refine lv_iload_n hx hb dX0_runOfLaterKind_356 rfl (lv_at hl 2 rfl) ?_
    refine lv_iload_n hx hb dX0_runOfLaterKind_357 rfl (lv_at hl 3 rfl) ?_
    refine hc_i (va_runV (As := [.int 10, .int x, .int (nI d)]) (rest := []) S (c_X0_act l G ad _ n ih (q := q) hk100 h1 h5 ⟨hk, h2, h3⟩ d hdn 10 x) (cwV 3 hts (gWSV q_l_0_72 q_im_X0_act q_se_X0_act q_in_0 q_co_X0_act) rfl rfl rfl (by decide +kernel) ⟨by dsimp only; omega, by dsimp only; omega⟩) (hPreVw hE hS (hrecv hE hW hk (q := (RX0, TX0, 13)) rfl) hW) rfl rfl hl.1 rfl (lv_room (Nat.le_of_ble_eq_true rfl)) dX0_runOfLaterKind_358 ⟨Nat.le_of_ble_eq_true rfl, Nat.le_of_ble_eq_true rfl⟩) hS (fun rv_97 ct_91 H locs hp hW hS => ?_)
    obtain ⟨ev_96, ⟨h_92, h_93, h_94⟩, hg_95⟩ := hp
    subst ev_96
    have h_98 := (hg_95 1 (by omega) (by decide) (by decide)).trans h1
    have h_99 := (hg_95 5 (by omega) (by decide) (by decide)).trans h5
    refine lv_iconst (v := 2) hx hb dX0_runOfLaterKind_361 (by decide) ?_
    refine lv_imul hx hb dX0_runOfLaterKind_362 ?_
    exact h_iret S hr hlk hS hW dX0_runOfLaterKind_363 (by rw [bodyS_190]; exact ⟨rfl, ⟨h_92, h_93, h_94⟩, (fun j q0 q1 q2 => hg_95 j q0 q1 q2)⟩)
  · refine lv_tableIn (off := 363) (tgt := 364) hx hb dX0_runOfLaterKind_1 (by decide) (by decide) (by decide) (by decide) ?_
    refine lv_aload_n hx hb dX0_runOfLaterKind_364 rfl (lv_at hl 0 rfl) ?_
    refine hr_get S hE hW hk inX0 (C := RX0) (T := TX0) (N := 13) rfl 5 (by decide) q_f_0_45 rfl dX0_runOfLaterKind_365 ?_
    refine lv_iload_n hx hb dX0_runOfLaterKind_368 rfl (lv_at hl 2 rfl) ?_
    refine lv_iadd hx hb dX0_runOfLaterKind_369 ?_
    exact h_iret S hr hlk hS hW dX0_runOfLaterKind_370 (by rw [bodyS_200]; exact ⟨rfl, ⟨hk, h2, h3⟩, (fun j q0 q1 q2 => rfl)⟩)
  · refine lv_tableIn (off := 370) (tgt := 371) hx hb dX0_runOfLaterKind_1 (by decide) (by decide) (by decide) (by decide) ?_
    refine lv_aload_n hx hb dX0_runOfLaterKind_371 rfl (lv_at hl 0 rfl) ?_
    refine lv_bipush (v := 6) hx hb dX0_runOfLaterKind_372 (by decide) ?_
    refine lv_bipush (v := 7) hx hb dX0_runOfLaterKind_374 (by decide) ?_
    refine lv_iload_n hx hb dX0_runOfLaterKind_376 rfl (lv_at hl 2 rfl) ?_
    refine lv_iload_n hx hb dX0_runOfLaterKind_377 rfl (lv_at hl 3 rfl) ?_
    refine hc_i (va_runV (As := [.int 6, .int 7, .int x, .int (nI d)]) (rest := []) S (c_X0_interfaceAct l G ad _ n ih (q := q) hk100 h1 h5 ⟨hk, h2, h3⟩ d hdn 6 7 x) (cwV 4 hts (gWSV q_l_0_107 q_im_X0_interfaceAct q_se_X0_interfaceAct q_in_0 q_co_X0_interfaceAct) rfl rfl rfl (by decide +kernel) ⟨by dsimp only; omega, by dsimp only; omega⟩) (hPreVw hE hS (hrecv hE hW hk (q := (RX0, TX0, 13)) rfl) hW) rfl rfl hl.1 rfl (lv_room (Nat.le_of_ble_eq_true rfl)) dX0_runOfLaterKind_378 ⟨Nat.le_of_ble_eq_true rfl, Nat.le_of_ble_eq_true rfl⟩) hS (fun rv_106 ct_100 H locs hp hW hS => ?_)
    obtain ⟨ev_105, ⟨h_101, h_102, h_103⟩, hg_104⟩ := hp
    subst ev_105
    have h_107 := (hg_104 1 (by omega) (by decide) (by decide)).trans h1
    have h_108 := (hg_104 5 (by omega) (by decide) (by decide)).trans h5
    refine lv_aload_n hx hb dX0_runOfLaterKind_381 rfl (lv_at hl 0 rfl) ?_
    refine lv_sipush (v := 200) hx hb dX0_runOfLaterKind_382 (by decide) ?_
    refine lv_iload_n hx hb dX0_runOfLaterKind_385 rfl (lv_at hl 2 rfl) ?_
    refine lv_iload_n hx hb dX0_runOfLaterKind_386 rfl (lv_at hl 3 rfl) ?_
    refine hc_i (va_runV (As := [.int 200, .int x, .int (nI d)]) (rest := [.int ((runS n t (selOfF selT 6 7) x q).1)]) S (ih ad _ k t r ((runS n t (selOfF selT 6 7) x q).2.1, (runS n t (selOfF selT 6 7) x q).2.2.1, ((runS n t (selOfF selT 6 7) x q).2).2.2.1, ((runS n t (selOfF selT 6 7) x q).2).2.2.2) 200 x d hk100 okB_200 hdn h_107 h_108 ⟨h_101, h_102, h_103⟩) (cwV 3 hts (gWSV q_l_0_83 q_im_X0_run q_se_X0_run q_in_0 q_co_X0_run) rfl rfl rfl (by decide +kernel) ⟨by dsimp only; omega, by dsimp only; omega⟩) (hPreVw hE hS (hrecv hE hW h_101 (q := (RX0, TX0, 13)) rfl) hW) rfl rfl hl.1 rfl (lv_room (Nat.le_of_ble_eq_true rfl)) dX0_runOfLaterKind_387 ⟨Nat.le_of_ble_eq_true rfl, Nat.le_of_ble_eq_true rfl⟩) hS (fun rv_115 ct_109 H locs hp hW hS => ?_)
    obtain ⟨ev_114, ⟨h_110, h_111, h_112⟩, hg_113⟩ := hp
    subst ev_114
    have h_116 := (hg_113 1 (by omega) (by decide) (by decide)).trans h_107
    have h_117 := (hg_113 5 (by omega) (by decide) (by decide)).trans h_108
    refine lv_iadd hx hb dX0_runOfLaterKind_390 ?_
    exact h_iret S hr hlk hS hW dX0_runOfLaterKind_391 (by rw [bodyS_201]; exact ⟨rfl, ⟨h_110, h_111, h_112⟩, (fun j q0 q1 q2 => (hg_113 j q0 q1 q2).trans (hg_104 j q0 q1 q2))⟩)
  · refine lv_tableIn (off := 391) (tgt := 392) hx hb dX0_runOfLaterKind_1 (by decide) (by decide) (by decide) (by decide) ?_
    refine lv_aload_n hx hb dX0_runOfLaterKind_392 rfl (lv_at hl 0 rfl) ?_
    refine lv_iconst (v := 4) hx hb dX0_runOfLaterKind_393 (by decide) ?_
    refine lv_iconst (v := 2) hx hb dX0_runOfLaterKind_394 (by decide) ?_
    refine lv_iload_n hx hb dX0_runOfLaterKind_395 rfl (lv_at hl 2 rfl) ?_
    refine lv_iload_n hx hb dX0_runOfLaterKind_396 rfl (lv_at hl 3 rfl) ?_
    refine hc_i (va_runV (As := [.int 4, .int 2, .int x, .int (nI d)]) (rest := []) S (c_X0_interfaceAct l G ad _ n ih (q := q) hk100 h1 h5 ⟨hk, h2, h3⟩ d hdn 4 2 x) (cwV 4 hts (gWSV q_l_0_107 q_im_X0_interfaceAct q_se_X0_interfaceAct q_in_0 q_co_X0_interfaceAct) rfl rfl rfl (by decide +kernel) ⟨by dsimp only; omega, by dsimp only; omega⟩) (hPreVw hE hS (hrecv hE hW hk (q := (RX0, TX0, 13)) rfl) hW) rfl rfl hl.1 rfl (lv_room (Nat.le_of_ble_eq_true rfl)) dX0_runOfLaterKind_397 ⟨Nat.le_of_ble_eq_true rfl, Nat.le_of_ble_eq_true rfl⟩) hS (fun rv_124 ct_118 H locs hp hW hS => ?_)
    obtain ⟨ev_123, ⟨h_119, h_120, h_121⟩, hg_122⟩ := hp
    subst ev_123
    have h_125 := (hg_122 1 (by omega) (by decide) (by decide)).trans h1
    have h_126 := (hg_122 5 (by omega) (by decide) (by decide)).trans h5
    refine lv_aload_n hx hb dX0_runOfLaterKind_400 rfl (lv_at hl 0 rfl) ?_
    refine lv_bipush (v := 17) hx hb dX0_runOfLaterKind_401 (by decide) ?_
    refine lv_iconst (v := 2) hx hb dX0_runOfLaterKind_403 (by decide) ?_
    refine lv_iload_n hx hb dX0_runOfLaterKind_404 rfl (lv_at hl 2 rfl) ?_
    refine lv_iload_n hx hb dX0_runOfLaterKind_405 rfl (lv_at hl 3 rfl) ?_
    refine hc_i (va_runV (As := [.int 17, .int 2, .int x, .int (nI d)]) (rest := [.int ((runS n t (selOfF selT 4 2) x q).1)]) S (c_X0_parentAct l G ad _ n ih (q := ((runS n t (selOfF selT 4 2) x q).2.1, (runS n t (selOfF selT 4 2) x q).2.2.1, ((runS n t (selOfF selT 4 2) x q).2).2.2.1, ((runS n t (selOfF selT 4 2) x q).2).2.2.2)) hk100 h_125 h_126 ⟨h_119, h_120, h_121⟩ d hdn 17 2 x) (cwV 4 hts (gWSV q_l_0_111 q_im_X0_parentAct q_se_X0_parentAct q_in_0 q_co_X0_parentAct) rfl rfl rfl (by decide +kernel) ⟨by dsimp only; omega, by dsimp only; omega⟩) (hPreVw hE hS (hrecv hE hW h_119 (q := (RX0, TX0, 13)) rfl) hW) rfl rfl hl.1 rfl (lv_room (Nat.le_of_ble_eq_true rfl)) dX0_runOfLaterKind_406 ⟨Nat.le_of_ble_eq_true rfl, Nat.le_of_ble_eq_true rfl⟩) hS (fun rv_133 ct_127 H locs hp hW hS => ?_)
    obtain ⟨ev_132, ⟨h_128, h_129, h_130⟩, hg_131⟩ := hp
    subst ev_132
    have h_134 := (hg_131 1 (by omega) (by decide) (by decide)).trans h_125
    have h_135 := (hg_131 5 (by omega) (by decide) (by decide)).trans h_126
    refine lv_iadd hx hb dX0_runOfLaterKind_409 ?_
    exact h_iret S hr hlk hS hW dX0_runOfLaterKind_410 (by rw [bodyS_202]; exact ⟨rfl, ⟨h_128, h_129, h_130⟩, (fun j q0 q1 q2 => (hg_131 j q0 q1 q2).trans (hg_122 j q0 q1 q2))⟩)
  · refine lv_tableIn (off := 410) (tgt := 411) hx hb dX0_runOfLaterKind_1 (by decide) (by decide) (by decide) (by decide) ?_
    refine lv_aload_n hx hb dX0_runOfLaterKind_411 rfl (lv_at hl 0 rfl) ?_
    refine lv_bipush (v := 17) hx hb dX0_runOfLaterKind_412 (by decide) ?_
    refine lv_iconst (v := 5) hx hb dX0_runOfLaterKind_414 (by decide) ?_
    refine lv_iload_n hx hb dX0_runOfLaterKind_415 rfl (lv_at hl 2 rfl) ?_
    refine lv_iload_n hx hb dX0_runOfLaterKind_416 rfl (lv_at hl 3 rfl) ?_
    refine hc_i (va_runV (As := [.int 17, .int 5, .int x, .int (nI d)]) (rest := []) S (c_X0_parentAct l G ad _ n ih (q := q) hk100 h1 h5 ⟨hk, h2, h3⟩ d hdn 17 5 x) (cwV 4 hts (gWSV q_l_0_111 q_im_X0_parentAct q_se_X0_parentAct q_in_0 q_co_X0_parentAct) rfl rfl rfl (by decide +kernel) ⟨by dsimp only; omega, by dsimp only; omega⟩) (hPreVw hE hS (hrecv hE hW hk (q := (RX0, TX0, 13)) rfl) hW) rfl rfl hl.1 rfl (lv_room (Nat.le_of_ble_eq_true rfl)) dX0_runOfLaterKind_417 ⟨Nat.le_of_ble_eq_true rfl, Nat.le_of_ble_eq_true rfl⟩) hS (fun rv_142 ct_136 H locs hp hW hS => ?_)
    obtain ⟨ev_141, ⟨h_137, h_138, h_139⟩, hg_140⟩ := hp
    subst ev_141
    have h_143 := (hg_140 1 (by omega) (by decide) (by decide)).trans h1
    have h_144 := (hg_140 5 (by omega) (by decide) (by decide)).trans h5
    refine lv_iconst (v := 1) hx hb dX0_runOfLaterKind_420 (by decide) ?_
    refine lv_iadd hx hb dX0_runOfLaterKind_421 ?_
    exact h_iret S hr hlk hS hW dX0_runOfLaterKind_422 (by rw [bodyS_204]; exact ⟨rfl, ⟨h_137, h_138, h_139⟩, (fun j q0 q1 q2 => hg_140 j q0 q1 q2)⟩)
set_option maxRecDepth 100000 in
set_option maxHeartbeats 4000000 in
theorem c_X0_run_s (l : Launch) (G : hG) (ad : Nat → Nat) (ct : Nat → Option va_E) (n : Nat) (ih : RunC l G n) {k : Nat} {t : Int32} {r : Nat → Value} {q : St} (hk100 : 100 ≤ k) (h1 : ct 1 = some (.inr (1, [.ref (ad 4), .ref (ad 5)]))) (h5 : ct 5 = some (.inl (G.2.1.1, 216, .inl selT))) (hd : dW G ad ct k t r q) (d : Nat) (hdn : d + (n + 1) = 40) (b x : Int32) (hbo : b ∈ okBl)  : Met l yX0_run wzX0_run { frames := 3 * (n + 1) + 2, cells := 0, slots := 0, locals := 70 * (n + 1) + 20 } (hPw [.ref (ad k), .int b, .int x, .int (nI d)] G ad ct) (hQi (fun rr ct1 => rr = (runS (n + 1) t b x q).1 ∧ dW G ad ct1 k t r (runS (n + 1) t b x q).2 ∧ ∀ j, j ≠ k → j ≠ 2 → j ≠ 3 → ct1 j = ct j) G ad) 0 0 (hA G.2.2.2) := by
  refine hMetw (by decide) (Nat.le_of_ble_eq_true rfl) (fun p e s m below meth c ls S hr hlk hE hW hl => ?_)
  obtain ⟨hx, hb, hml, hown, hts⟩ := id S
  have hS : va_S (hA G.2.2.2) s.heap s.heap [] := va_S.rf
  have hl : lv_has ls 4 [(0, .ref (ad k)), (1, .int b), (2, .int x), (3, .int (nI d))] := hl
  obtain ⟨hk, h2, h3⟩ := hd
  refine lv_iload_n hx hb dX0_run_0 rfl (lv_at hl 1 rfl) ?_
  refine lv_if_eq (tgt := 10) hx hb dX0_run_1 (by decide) (fun c_1 => ?_) (fun c_1 => ?_)
  · refine lv_iconst (v := 0) hx hb dX0_run_10 (by decide) ?_
    exact h_iret S hr hlk hS hW dX0_run_11 (by have e0 : b = 0 := c_1; subst e0; exact ⟨rfl, ⟨hk, h2, h3⟩, (fun j q0 q1 q2 => rfl)⟩)
  · refine lv_iload_n hx hb dX0_run_4 rfl (lv_at hl 3 rfl) ?_
    refine lv_bipush (v := 40) hx hb dX0_run_5 (by decide) ?_
    refine lv_icmp_lt (tgt := 12) hx hb dX0_run_7 (by decide) (fun _ => ?_) (fun q => absurd (show nI d < 40 from nI_lt (a := d) (b := 40) (by omega) (by omega)) q)
    refine lv_aload_n hx hb dX0_run_12 rfl (lv_at hl 0 rfl) ?_
    refine hr_get S hE hW hk inX0 (C := RX0) (T := TX0) (N := 13) rfl 1 (by decide) q_f_0_15 rfl dX0_run_13 ?_
    refine lv_iload_n hx hb dX0_run_16 rfl (lv_at hl 1 rfl) ?_
    refine hc_v (va_runVN (As := [.int b]) (rest := []) S (c_X3_begin l G ad _ h2 h3 b) ⟨va_cnB 1 hts (gWS q_co_X3_begin) rfl rfl rfl (hE.nest 22 rfl) (hts _ q_in_3) (by decide +kernel) ⟨by dsimp only; omega, by dsimp only; omega⟩, hts _ q_im_X3_begin, hts _ q_se_X3_begin⟩ (hPreVw hE hS (hrecv hE hW h2 (q := (RX3, TX3, 2)) rfl) hW) rfl rfl hl.1 rfl (lv_room (Nat.le_of_ble_eq_true rfl)) dX0_run_17 ⟨Nat.le_of_ble_eq_true rfl, Nat.le_of_ble_eq_true rfl⟩) hS (fun ct_1 H locs hp hW hS => ?_)
    obtain ⟨h_2, h_3, hg_4⟩ := hp
    have h_5 := (hg_4 1 (by decide) (by decide)).trans h1
    have h_6 := (hg_4 5 (by decide) (by decide)).trans h5
    have h_7 := (hg_4 k (by omega) (by omega)).trans hk
    refine lv_iload_n hx hb dX0_run_20 rfl (lv_at hl 1 rfl) ?_
    refine lv_bipush (v := 60) hx hb dX0_run_21 (by decide) ?_
    refine lv_icmp_ge (tgt := 36) hx hb dX0_run_23 (by decide) (fun c_23 => ?_) (fun c_23 => ?_)
    · refine lv_iload_n hx hb dX0_run_36 rfl (lv_at hl 1 rfl) ?_
      refine lv_bipush (v := 100) hx hb dX0_run_37 (by decide) ?_
      refine lv_icmp_ge (tgt := 52) hx hb dX0_run_39 (by decide) (fun c_39 => ?_) (fun c_39 => ?_)
      · refine lv_iload_n hx hb dX0_run_52 rfl (lv_at hl 1 rfl) ?_
        refine lv_sipush (v := 150) hx hb dX0_run_53 (by decide) ?_
        refine lv_icmp_ge (tgt := 71) hx hb dX0_run_56 (by decide) (fun c_56 => ?_) (fun c_56 => ?_)
        · refine lv_aload_n hx hb dX0_run_71 rfl (lv_at hl 0 rfl) ?_
          refine lv_iload_n hx hb dX0_run_72 rfl (lv_at hl 1 rfl) ?_
          refine lv_iload_n hx hb dX0_run_73 rfl (lv_at hl 2 rfl) ?_
          refine lv_iload_n hx hb dX0_run_74 rfl (lv_at hl 3 rfl) ?_
          refine lv_iconst (v := 1) hx hb dX0_run_75 (by decide) ?_
          refine lv_iadd hx hb dX0_run_76 ?_
          rw [nI_1 d]
          refine hc_i (va_runV (As := [.int b, .int x, .int (nI (d + 1))]) (rest := []) S (c_X0_runOfLaterKind l G ad _ n ih (q := (q.1, q.2.1, q.2.2.1 + 1, bgF q.2.2.1 q.2.2.2 b)) hk100 h_5 h_6 ⟨h_7, h_2, h_3⟩ (d + 1) (by omega) b x (okBL_of b hbo c_1 c_23 c_39 c_56)) (cwV 3 hts (gWSV q_l_0_104 q_im_X0_runOfLaterKind q_se_X0_runOfLaterKind q_in_0 q_co_X0_runOfLaterKind) rfl rfl rfl (by decide +kernel) ⟨by dsimp only; omega, by dsimp only; omega⟩) (hPreVw hE hS (hrecv hE hW h_7 (q := (RX0, TX0, 13)) rfl) hW) rfl rfl hl.1 rfl (lv_room (Nat.le_of_ble_eq_true rfl)) dX0_run_77 ⟨Nat.le_of_ble_eq_true rfl, Nat.le_of_ble_eq_true rfl⟩) hS (fun rv_14 ct_8 H locs hp hW hS => ?_)
          obtain ⟨ev_13, ⟨h_9, h_10, h_11⟩, hg_12⟩ := hp
          subst ev_13
          have h_15 := (hg_12 1 (by omega) (by decide) (by decide)).trans h_5
          have h_16 := (hg_12 5 (by omega) (by decide) (by decide)).trans h_6
          exact h_iret S hr hlk hS hW dX0_run_80 (by rw [runS, if_neg c_1]; exact ⟨rfl, ⟨h_9, h_10, h_11⟩, (fun j q0 q1 q2 => (hg_12 j q0 q1 q2).trans (hg_4 j q1 q2))⟩)
        · refine lv_aload_n hx hb dX0_run_59 rfl (lv_at hl 0 rfl) ?_
          refine lv_iload_n hx hb dX0_run_60 rfl (lv_at hl 1 rfl) ?_
          refine lv_iload_n hx hb dX0_run_61 rfl (lv_at hl 2 rfl) ?_
          refine lv_iload_n hx hb dX0_run_62 rfl (lv_at hl 3 rfl) ?_
          refine lv_iconst (v := 1) hx hb dX0_run_63 (by decide) ?_
          refine lv_iadd hx hb dX0_run_64 ?_
          rw [nI_1 d]
          refine hc_i (va_runV (As := [.int b, .int x, .int (nI (d + 1))]) (rest := []) S (c_X0_runOfEarlierKind l G ad _ n ih (q := (q.1, q.2.1, q.2.2.1 + 1, bgF q.2.2.1 q.2.2.2 b)) hk100 h_5 h_6 ⟨h_7, h_2, h_3⟩ (d + 1) (by omega) b x (okBE_of b hbo c_1 c_23 c_39 c_56)) (cwV 3 hts (gWSV q_l_0_101 q_im_X0_runOfEarlierKind q_se_X0_runOfEarlierKind q_in_0 q_co_X0_runOfEarlierKind) rfl rfl rfl (by decide +kernel) ⟨by dsimp only; omega, by dsimp only; omega⟩) (hPreVw hE hS (hrecv hE hW h_7 (q := (RX0, TX0, 13)) rfl) hW) rfl rfl hl.1 rfl (lv_room (Nat.le_of_ble_eq_true rfl)) dX0_run_65 ⟨Nat.le_of_ble_eq_true rfl, Nat.le_of_ble_eq_true rfl⟩) hS (fun rv_23 ct_17 H locs hp hW hS => ?_)
          obtain ⟨ev_22, ⟨h_18, h_19, h_20⟩, hg_21⟩ := hp
          subst ev_22
          have h_24 := (hg_21 1 (by omega) (by decide) (by decide)).trans h_5
          have h_25 := (hg_21 5 (by omega) (by decide) (by decide)).trans h_6
          refine lv_goto (tgt := 80) hx hb dX0_run_68 (by decide) ?_
          exact h_iret S hr hlk hS hW dX0_run_80 (by rw [runS, if_neg c_1]; exact ⟨rfl, ⟨h_18, h_19, h_20⟩, (fun j q0 q1 q2 => (hg_21 j q0 q1 q2).trans (hg_4 j q1 q2))⟩)
      · refine lv_aload_n hx hb dX0_run_42 rfl (lv_at hl 0 rfl) ?_
        refine lv_iload_n hx hb dX0_run_43 rfl (lv_at hl 1 rfl) ?_
        refine lv_iload_n hx hb dX0_run_44 rfl (lv_at hl 2 rfl) ?_
        refine lv_iload_n hx hb dX0_run_45 rfl (lv_at hl 3 rfl) ?_
        refine lv_iconst (v := 1) hx hb dX0_run_46 (by decide) ?_
        refine lv_iadd hx hb dX0_run_47 ?_
        rw [nI_1 d]
        refine hc_i (va_runV (As := [.int b, .int x, .int (nI (d + 1))]) (rest := []) S (c_X0_runOfAncestor l G ad _ n ih (q := (q.1, q.2.1, q.2.2.1 + 1, bgF q.2.2.1 q.2.2.2 b)) hk100 h_5 h_6 ⟨h_7, h_2, h_3⟩ (d + 1) (by omega) b x (okBA_of b hbo c_1 c_23 c_39)) (cwV 3 hts (gWSV q_l_0_98 q_im_X0_runOfAncestor q_se_X0_runOfAncestor q_in_0 q_co_X0_runOfAncestor) rfl rfl rfl (by decide +kernel) ⟨by dsimp only; omega, by dsimp only; omega⟩) (hPreVw hE hS (hrecv hE hW h_7 (q := (RX0, TX0, 13)) rfl) hW) rfl rfl hl.1 rfl (lv_room (Nat.le_of_ble_eq_true rfl)) dX0_run_48 ⟨Nat.le_of_ble_eq_true rfl, Nat.le_of_ble_eq_true rfl⟩) hS (fun rv_32 ct_26 H locs hp hW hS => ?_)
        obtain ⟨ev_31, ⟨h_27, h_28, h_29⟩, hg_30⟩ := hp
        subst ev_31
        have h_33 := (hg_30 1 (by omega) (by decide) (by decide)).trans h_5
        have h_34 := (hg_30 5 (by omega) (by decide) (by decide)).trans h_6
        exact h_iret S hr hlk hS hW dX0_run_51 (by rw [runS, if_neg c_1]; exact ⟨rfl, ⟨h_27, h_28, h_29⟩, (fun j q0 q1 q2 => (hg_30 j q0 q1 q2).trans (hg_4 j q1 q2))⟩)
    · refine lv_aload_n hx hb dX0_run_26 rfl (lv_at hl 0 rfl) ?_
      refine lv_iload_n hx hb dX0_run_27 rfl (lv_at hl 1 rfl) ?_
      refine lv_iload_n hx hb dX0_run_28 rfl (lv_at hl 2 rfl) ?_
      refine lv_iload_n hx hb dX0_run_29 rfl (lv_at hl 3 rfl) ?_
      refine lv_iconst (v := 1) hx hb dX0_run_30 (by decide) ?_
      refine lv_iadd hx hb dX0_run_31 ?_
      rw [nI_1 d]
      refine hc_i (va_runV (As := [.int b, .int x, .int (nI (d + 1))]) (rest := []) S (c_X0_runOfInterface l G ad _ n ih (q := (q.1, q.2.1, q.2.2.1 + 1, bgF q.2.2.1 q.2.2.2 b)) hk100 h_5 h_6 ⟨h_7, h_2, h_3⟩ (d + 1) (by omega) b x (okBI_of b hbo c_1 c_23)) (cwV 3 hts (gWSV q_l_0_95 q_im_X0_runOfInterface q_se_X0_runOfInterface q_in_0 q_co_X0_runOfInterface) rfl rfl rfl (by decide +kernel) ⟨by dsimp only; omega, by dsimp only; omega⟩) (hPreVw hE hS (hrecv hE hW h_7 (q := (RX0, TX0, 13)) rfl) hW) rfl rfl hl.1 rfl (lv_room (Nat.le_of_ble_eq_true rfl)) dX0_run_32 ⟨Nat.le_of_ble_eq_true rfl, Nat.le_of_ble_eq_true rfl⟩) hS (fun rv_41 ct_35 H locs hp hW hS => ?_)
      obtain ⟨ev_40, ⟨h_36, h_37, h_38⟩, hg_39⟩ := hp
      subst ev_40
      have h_42 := (hg_39 1 (by omega) (by decide) (by decide)).trans h_5
      have h_43 := (hg_39 5 (by omega) (by decide) (by decide)).trans h_6
      exact h_iret S hr hlk hS hW dX0_run_35 (by rw [runS, if_neg c_1]; exact ⟨rfl, ⟨h_36, h_37, h_38⟩, (fun j q0 q1 q2 => (hg_39 j q0 q1 q2).trans (hg_4 j q1 q2))⟩)
set_option maxRecDepth 100000 in
set_option maxHeartbeats 4000000 in
theorem c_X0_run_0 (l : Launch) (G : hG) (ad : Nat → Nat) (ct : Nat → Option va_E) {k : Nat} {t : Int32} {r : Nat → Value} {q : St} (hk100 : 100 ≤ k) (h1 : ct 1 = some (.inr (1, [.ref (ad 4), .ref (ad 5)]))) (h5 : ct 5 = some (.inl (G.2.1.1, 216, .inl selT))) (hd : dW G ad ct k t r q) (b x : Int32)  : Met l yX0_run wzX0_run { frames := 3 * 0 + 2, cells := 0, slots := 0, locals := 70 * 0 + 20 } (hPw [.ref (ad k), .int b, .int x, .int (nI 40)] G ad ct) (hQi (fun rr ct1 => rr = (runS 0 t b x q).1 ∧ dW G ad ct1 k t r (runS 0 t b x q).2 ∧ ∀ j, j ≠ k → j ≠ 2 → j ≠ 3 → ct1 j = ct j) G ad) 0 0 (hA G.2.2.2) := by
  refine hMetw (by decide) (Nat.le_of_ble_eq_true rfl) (fun p e s m below meth c ls S hr hlk hE hW hl => ?_)
  obtain ⟨hx, hb, hml, hown, hts⟩ := id S
  have hS : va_S (hA G.2.2.2) s.heap s.heap [] := va_S.rf
  have hl : lv_has ls 4 [(0, .ref (ad k)), (1, .int b), (2, .int x), (3, .int (nI 40))] := hl
  obtain ⟨hk, h2, h3⟩ := hd
  refine lv_iload_n hx hb dX0_run_0 rfl (lv_at hl 1 rfl) ?_
  refine lv_if_eq (tgt := 10) hx hb dX0_run_1 (by decide) (fun c_1 => ?_) (fun c_1 => ?_)
  · refine lv_iconst (v := 0) hx hb dX0_run_10 (by decide) ?_
    exact h_iret S hr hlk hS hW dX0_run_11 ⟨rfl, ⟨hk, h2, h3⟩, (fun j q0 q1 q2 => rfl)⟩
  · refine lv_iload_n hx hb dX0_run_4 rfl (lv_at hl 3 rfl) ?_
    refine lv_bipush (v := 40) hx hb dX0_run_5 (by decide) ?_
    refine lv_icmp_lt (tgt := 12) hx hb dX0_run_7 (by decide) (fun q => absurd q (by decide)) (fun _ => ?_)
    refine lv_iconst (v := 0) hx hb dX0_run_10 (by decide) ?_
    exact h_iret S hr hlk hS hW dX0_run_11 ⟨rfl, ⟨hk, h2, h3⟩, (fun j q0 q1 q2 => rfl)⟩
theorem RunC_all (l : Launch) (G : hG) : ∀ n, RunC l G n := by
  intro n
  induction n with
  | zero =>
    intro ad ct k t r q b x d hk hb hd h1 h5 hw0
    have e : d = 40 := by omega
    subst e
    exact c_X0_run_0 l G ad ct hk h1 h5 hw0 b x
  | succ n ih =>
    intro ad ct k t r q b x d hk hb hd h1 h5 hw0
    exact c_X0_run_s l G ad ct n ih hk h1 h5 hw0 d hd b x hb
