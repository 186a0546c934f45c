/-! THE MODEL'S CONSTRUCTOR: its world while the tables fill; its helpers -/
def zF : Nat → Int32 := fun _ => 0
def ZR (G : hG) (ct : Nat → Option va_E) : Prop :=
  (ct 18 = some (.inl (G.2.1.1, 300, .inl zF)) ∧ ct 19 = some (.inl (G.2.1.1, 300, .inl zF)) ∧ ct 20 = some (.inl (G.2.1.1, 300, .inl zF)) ∧ ct 21 = some (.inl (G.2.1.1, 300, .inl zF))) ∧ (ct 23 = some (.inl (G.2.1.1, 400, .inl zF)) ∧ ct 24 = some (.inl (G.2.1.1, 400, .inl zF))) ∧
  (ct 26 = some (.inl (G.2.1.1, 300, .inl zF)) ∧ ct 27 = some (.inl (G.2.1.1, 300, .inl zF)) ∧ ct 28 = some (.inl (G.2.1.2.1, 300, .inl zF)) ∧ ct 29 = some (.inl (G.2.1.1, 64, .inl zF))) ∧
  (ct 32 = some (.inl (G.2.1.1, 100, .inl zF)) ∧ ct 33 = some (.inl (G.2.1.1, 100, .inl zF)) ∧ ct 34 = some (.inl (G.2.1.1, 100, .inl zF)) ∧ ct 35 = some (.inl (G.2.1.1, 300, .inl zF)))
theorem ZR.same {G : hG} {ct ct1 : Nat → Option va_E} (h : ZR G ct) (hg : ∀ j, 18 ≤ j → ct1 j = ct j) : ZR G ct1 := by
  obtain ⟨⟨a1, a2, a3, a4⟩, ⟨b1, b2⟩, ⟨c1, c2, c3, c4⟩, d1, d2, d3, d4⟩ := h
  exact ⟨⟨(hg _ (by omega)).trans a1, (hg _ (by omega)).trans a2, (hg _ (by omega)).trans a3, (hg _ (by omega)).trans a4⟩, ⟨(hg _ (by omega)).trans b1, (hg _ (by omega)).trans b2⟩, ⟨(hg _ (by omega)).trans c1, (hg _ (by omega)).trans c2, (hg _ (by omega)).trans c3, (hg _ (by omega)).trans c4⟩, (hg _ (by omega)).trans d1, (hg _ (by omega)).trans d2, (hg _ (by omega)).trans d3, (hg _ (by omega)).trans d4⟩
abbrev IT : Type := (Nat → Int32) × (Nat → Int32) × (Nat → Int32) × (Nat → Int32) × (Nat → Int32) × (Nat → Int32) × (Nat → Int32)
/-- start, parent, bears, has, chosen, actsOf, actsOfKind -/
def IC (G : hG) (ad : Nat → Nat) (ct0 ct : Nat → Option va_E) (I : IT) : Prop :=
  ct 8 = some (.inr (5, MO ad 0 0 0 0 0 0)) ∧ ct 10 = some (.inl (G.2.1.1, 246, .inl codT)) ∧ ct 11 = some (.inl (G.2.1.1, 210, .inl I.1)) ∧ ct 12 = some (.inl (G.2.1.1, 21, .inl I.2.1)) ∧ ct 13 = some (.inl (G.2.1.1, 21, .inl I.2.2.1)) ∧ ct 14 = some (.inl (G.2.1.1, 252, .inl I.2.2.2.1)) ∧ ct 15 = some (.inl (G.2.1.1, 252, .inl I.2.2.2.2.1)) ∧ ct 16 = some (.inl (G.2.1.1, 7, .inl I.2.2.2.2.2.1)) ∧ ct 17 = some (.inl (G.2.1.1, 11, .inl I.2.2.2.2.2.2)) ∧ ZR G ct ∧ agX ct ct0
theorem IC_11 {G : hG} {ad : Nat → Nat} {ct0 ct ct1 : Nat → Option va_E} {I : IT} {f : Nat → Int32} (h : IC G ad ct0 ct I) (hk : ct1 11 = some (.inl (G.2.1.1, 210, .inl f))) (hg : ∀ j, j ≠ 11 → ct1 j = ct j) : IC G ad ct0 ct1 (f, I.2.1, I.2.2.1, I.2.2.2.1, I.2.2.2.2.1, I.2.2.2.2.2.1, I.2.2.2.2.2.2) := by
  obtain ⟨h8, h10, h11, h12, h13, h14, h15, h16, h17, hz, ha⟩ := h
  exact ⟨(hg 8 (by decide)).trans h8, (hg 10 (by decide)).trans h10, hk, (hg 12 (by decide)).trans h12, (hg 13 (by decide)).trans h13, (hg 14 (by decide)).trans h14, (hg 15 (by decide)).trans h15, (hg 16 (by decide)).trans h16, (hg 17 (by decide)).trans h17, hz.same (fun j hj => hg j (by omega)), fun j hj => (hg j (by omega)).trans (ha j hj)⟩
theorem IC_12 {G : hG} {ad : Nat → Nat} {ct0 ct ct1 : Nat → Option va_E} {I : IT} {f : Nat → Int32} (h : IC G ad ct0 ct I) (hk : ct1 12 = some (.inl (G.2.1.1, 21, .inl f))) (hg : ∀ j, j ≠ 12 → ct1 j = ct j) : IC G ad ct0 ct1 (I.1, f, I.2.2.1, I.2.2.2.1, I.2.2.2.2.1, I.2.2.2.2.2.1, I.2.2.2.2.2.2) := by
  obtain ⟨h8, h10, h11, h12, h13, h14, h15, h16, h17, hz, ha⟩ := h
  exact ⟨(hg 8 (by decide)).trans h8, (hg 10 (by decide)).trans h10, (hg 11 (by decide)).trans h11, hk, (hg 13 (by decide)).trans h13, (hg 14 (by decide)).trans h14, (hg 15 (by decide)).trans h15, (hg 16 (by decide)).trans h16, (hg 17 (by decide)).trans h17, hz.same (fun j hj => hg j (by omega)), fun j hj => (hg j (by omega)).trans (ha j hj)⟩
theorem IC_13 {G : hG} {ad : Nat → Nat} {ct0 ct ct1 : Nat → Option va_E} {I : IT} {f : Nat → Int32} (h : IC G ad ct0 ct I) (hk : ct1 13 = some (.inl (G.2.1.1, 21, .inl f))) (hg : ∀ j, j ≠ 13 → ct1 j = ct j) : IC G ad ct0 ct1 (I.1, I.2.1, f, I.2.2.2.1, I.2.2.2.2.1, I.2.2.2.2.2.1, I.2.2.2.2.2.2) := by
  obtain ⟨h8, h10, h11, h12, h13, h14, h15, h16, h17, hz, ha⟩ := h
  exact ⟨(hg 8 (by decide)).trans h8, (hg 10 (by decide)).trans h10, (hg 11 (by decide)).trans h11, (hg 12 (by decide)).trans h12, hk, (hg 14 (by decide)).trans h14, (hg 15 (by decide)).trans h15, (hg 16 (by decide)).trans h16, (hg 17 (by decide)).trans h17, hz.same (fun j hj => hg j (by omega)), fun j hj => (hg j (by omega)).trans (ha j hj)⟩
theorem IC_14 {G : hG} {ad : Nat → Nat} {ct0 ct ct1 : Nat → Option va_E} {I : IT} {f : Nat → Int32} (h : IC G ad ct0 ct I) (hk : ct1 14 = some (.inl (G.2.1.1, 252, .inl f))) (hg : ∀ j, j ≠ 14 → ct1 j = ct j) : IC G ad ct0 ct1 (I.1, I.2.1, I.2.2.1, f, I.2.2.2.2.1, I.2.2.2.2.2.1, I.2.2.2.2.2.2) := by
  obtain ⟨h8, h10, h11, h12, h13, h14, h15, h16, h17, hz, ha⟩ := h
  exact ⟨(hg 8 (by decide)).trans h8, (hg 10 (by decide)).trans h10, (hg 11 (by decide)).trans h11, (hg 12 (by decide)).trans h12, (hg 13 (by decide)).trans h13, hk, (hg 15 (by decide)).trans h15, (hg 16 (by decide)).trans h16, (hg 17 (by decide)).trans h17, hz.same (fun j hj => hg j (by omega)), fun j hj => (hg j (by omega)).trans (ha j hj)⟩
theorem IC_15 {G : hG} {ad : Nat → Nat} {ct0 ct ct1 : Nat → Option va_E} {I : IT} {f : Nat → Int32} (h : IC G ad ct0 ct I) (hk : ct1 15 = some (.inl (G.2.1.1, 252, .inl f))) (hg : ∀ j, j ≠ 15 → ct1 j = ct j) : IC G ad ct0 ct1 (I.1, I.2.1, I.2.2.1, I.2.2.2.1, f, I.2.2.2.2.2.1, I.2.2.2.2.2.2) := by
  obtain ⟨h8, h10, h11, h12, h13, h14, h15, h16, h17, hz, ha⟩ := h
  exact ⟨(hg 8 (by decide)).trans h8, (hg 10 (by decide)).trans h10, (hg 11 (by decide)).trans h11, (hg 12 (by decide)).trans h12, (hg 13 (by decide)).trans h13, (hg 14 (by decide)).trans h14, hk, (hg 16 (by decide)).trans h16, (hg 17 (by decide)).trans h17, hz.same (fun j hj => hg j (by omega)), fun j hj => (hg j (by omega)).trans (ha j hj)⟩
theorem IC_16 {G : hG} {ad : Nat → Nat} {ct0 ct ct1 : Nat → Option va_E} {I : IT} {f : Nat → Int32} (h : IC G ad ct0 ct I) (hk : ct1 16 = some (.inl (G.2.1.1, 7, .inl f))) (hg : ∀ j, j ≠ 16 → ct1 j = ct j) : IC G ad ct0 ct1 (I.1, I.2.1, I.2.2.1, I.2.2.2.1, I.2.2.2.2.1, f, I.2.2.2.2.2.2) := by
  obtain ⟨h8, h10, h11, h12, h13, h14, h15, h16, h17, hz, ha⟩ := h
  exact ⟨(hg 8 (by decide)).trans h8, (hg 10 (by decide)).trans h10, (hg 11 (by decide)).trans h11, (hg 12 (by decide)).trans h12, (hg 13 (by decide)).trans h13, (hg 14 (by decide)).trans h14, (hg 15 (by decide)).trans h15, hk, (hg 17 (by decide)).trans h17, hz.same (fun j hj => hg j (by omega)), fun j hj => (hg j (by omega)).trans (ha j hj)⟩
theorem IC_17 {G : hG} {ad : Nat → Nat} {ct0 ct ct1 : Nat → Option va_E} {I : IT} {f : Nat → Int32} (h : IC G ad ct0 ct I) (hk : ct1 17 = some (.inl (G.2.1.1, 11, .inl f))) (hg : ∀ j, j ≠ 17 → ct1 j = ct j) : IC G ad ct0 ct1 (I.1, I.2.1, I.2.2.1, I.2.2.2.1, I.2.2.2.2.1, I.2.2.2.2.2.1, f) := by
  obtain ⟨h8, h10, h11, h12, h13, h14, h15, h16, h17, hz, ha⟩ := h
  exact ⟨(hg 8 (by decide)).trans h8, (hg 10 (by decide)).trans h10, (hg 11 (by decide)).trans h11, (hg 12 (by decide)).trans h12, (hg 13 (by decide)).trans h13, (hg 14 (by decide)).trans h14, (hg 15 (by decide)).trans h15, (hg 16 (by decide)).trans h16, hk, hz.same (fun j hj => hg j (by omega)), fun j hj => (hg j (by omega)).trans (ha j hj)⟩
def bitM (k : Int32) : Int32 := 1 <<< (k &&& 31)
theorem c_X5_bitM (l : Launch) (G : hG) (H : Heap) (k : Int32) : Met l yX5_bit wzX5_bit { frames := 0, cells := 0, slots := 0, locals := 0 } (hPr [.int k] G H) (hQr (bitM k) H G.2.2.2) 0 0 (hA G.2.2.2) := c_X5_bit l G H k
def clM (x : Int32) : Int32 := if x &&& bitM 3 = 0 then (if x &&& bitM 5 = 0 then x else x ||| bitM 4) else (if (x ||| (bitM 1 ||| bitM 2)) &&& bitM 5 = 0 then x ||| (bitM 1 ||| bitM 2) else (x ||| (bitM 1 ||| bitM 2)) ||| bitM 4)
set_option maxRecDepth 100000 in
set_option maxHeartbeats 4000000 in
theorem c_X5_closed (l : Launch) (G : hG) (H : Heap) (x : Int32)  : Met l yX5_closed wzX5_closed { frames := 1, cells := 0, slots := 0, locals := 20 } (hPr [.int x] G H) (hQr (clM x) H G.2.2.2) 0 0 (hA G.2.2.2) := by
  refine hMetr (Qc := fun H => hQr (clM x) H G.2.2.2) (by decide) (Nat.le_of_ble_eq_true rfl) (fun p e s m below meth c ls S hr hlk hE hH hl => ?_)
  subst hH
  obtain ⟨hx, hb, hml, hown, hts⟩ := id S
  have hS : va_S (hA G.2.2.2) s.heap s.heap [] := va_S.rf
  have hl : lv_has ls 2 [(0, .int x)] := hl
  refine lv_iload_n hx hb dX5_closed_0 rfl (lv_at hl 0 rfl) ?_
  refine lv_istore_n (lv' := [(1, .int x), (0, .int x)]) hx hb dX5_closed_1 rfl hl (by decide) rfl (fun ls hl => ?_)
  refine lv_iload_n hx hb dX5_closed_2 rfl (lv_at hl 0 rfl) ?_
  refine lv_iconst (v := 3) hx hb dX5_closed_3 (by decide) ?_
  refine hc_r (va_runS (As := [.int 3]) (rest := [.int x]) S (c_X5_bitM l G _ 3) (va_cwS 1 hts (gWSS q_l_5_84 q_st_X5_bit q_in_5 q_co_X5_bit) rfl rfl rfl (by decide +kernel) ⟨Nat.le_of_ble_eq_true rfl, Nat.le_of_ble_eq_true rfl⟩) (hPreSr hE hS) rfl rfl hl.1 rfl (lv_room (Nat.le_of_ble_eq_true rfl)) dX5_closed_4 ⟨Nat.le_of_ble_eq_true rfl, Nat.le_of_ble_eq_true rfl⟩) hS (fun locs hS => ?_)
  refine lv_iand hx hb dX5_closed_7 ?_
  refine lv_if_eq (tgt := 23) hx hb dX5_closed_8 (by decide) (fun c_8 => ?_) (fun c_8 => ?_)
  · refine lv_iload_n hx hb dX5_closed_23 rfl (lv_at hl 0 rfl) ?_
    refine lv_iconst (v := 5) hx hb dX5_closed_24 (by decide) ?_
    refine hc_r (va_runS (As := [.int 5]) (rest := [.int x]) S (c_X5_bitM l G _ 5) (va_cwS 1 hts (gWSS q_l_5_84 q_st_X5_bit q_in_5 q_co_X5_bit) rfl rfl rfl (by decide +kernel) ⟨Nat.le_of_ble_eq_true rfl, Nat.le_of_ble_eq_true rfl⟩) (hPreSr hE hS) rfl rfl hl.1 rfl (lv_room (Nat.le_of_ble_eq_true rfl)) dX5_closed_25 ⟨Nat.le_of_ble_eq_true rfl, Nat.le_of_ble_eq_true rfl⟩) hS (fun locs hS => ?_)
    refine lv_iand hx hb dX5_closed_28 ?_
    refine lv_if_eq (tgt := 39) hx hb dX5_closed_29 (by decide) (fun c_29 => ?_) (fun c_29 => ?_)
    · refine lv_iload_n hx hb dX5_closed_39 rfl (lv_at hl 0 rfl) ?_
      exact h_rret S hr hlk hS dX5_closed_40 (by rw [clM, if_pos c_8, if_pos c_29])
    · refine lv_iload_n hx hb dX5_closed_32 rfl (lv_at hl 0 rfl) ?_
      refine lv_iconst (v := 4) hx hb dX5_closed_33 (by decide) ?_
      refine hc_r (va_runS (As := [.int 4]) (rest := [.int x]) S (c_X5_bitM l G _ 4) (va_cwS 1 hts (gWSS q_l_5_84 q_st_X5_bit q_in_5 q_co_X5_bit) rfl rfl rfl (by decide +kernel) ⟨Nat.le_of_ble_eq_true rfl, Nat.le_of_ble_eq_true rfl⟩) (hPreSr hE hS) rfl rfl hl.1 rfl (lv_room (Nat.le_of_ble_eq_true rfl)) dX5_closed_34 ⟨Nat.le_of_ble_eq_true rfl, Nat.le_of_ble_eq_true rfl⟩) hS (fun locs hS => ?_)
      refine lv_ior hx hb dX5_closed_37 ?_
      refine lv_istore_n (lv' := [(1, .int (x ||| (bitM 4))), (0, .int x)]) hx hb dX5_closed_38 rfl hl (by decide) rfl (fun ls hl => ?_)
      refine lv_iload_n hx hb dX5_closed_39 rfl (lv_at hl 0 rfl) ?_
      exact h_rret S hr hlk hS dX5_closed_40 (by rw [clM, if_pos c_8, if_neg c_29])
  · refine lv_iload_n hx hb dX5_closed_11 rfl (lv_at hl 0 rfl) ?_
    refine lv_iconst (v := 1) hx hb dX5_closed_12 (by decide) ?_
    refine hc_r (va_runS (As := [.int 1]) (rest := [.int x]) S (c_X5_bitM l G _ 1) (va_cwS 1 hts (gWSS q_l_5_84 q_st_X5_bit q_in_5 q_co_X5_bit) rfl rfl rfl (by decide +kernel) ⟨Nat.le_of_ble_eq_true rfl, Nat.le_of_ble_eq_true rfl⟩) (hPreSr hE hS) rfl rfl hl.1 rfl (lv_room (Nat.le_of_ble_eq_true rfl)) dX5_closed_13 ⟨Nat.le_of_ble_eq_true rfl, Nat.le_of_ble_eq_true rfl⟩) hS (fun locs hS => ?_)
    refine lv_iconst (v := 2) hx hb dX5_closed_16 (by decide) ?_
    refine hc_r (va_runS (As := [.int 2]) (rest := [.int (bitM 1), .int x]) S (c_X5_bitM l G _ 2) (va_cwS 1 hts (gWSS q_l_5_84 q_st_X5_bit q_in_5 q_co_X5_bit) rfl rfl rfl (by decide +kernel) ⟨Nat.le_of_ble_eq_true rfl, Nat.le_of_ble_eq_true rfl⟩) (hPreSr hE hS) rfl rfl hl.1 rfl (lv_room (Nat.le_of_ble_eq_true rfl)) dX5_closed_17 ⟨Nat.le_of_ble_eq_true rfl, Nat.le_of_ble_eq_true rfl⟩) hS (fun locs hS => ?_)
    refine lv_ior hx hb dX5_closed_20 ?_
    refine lv_ior hx hb dX5_closed_21 ?_
    refine lv_istore_n (lv' := [(1, .int (x ||| ((bitM 1) ||| (bitM 2)))), (0, .int x)]) hx hb dX5_closed_22 rfl hl (by decide) rfl (fun ls hl => ?_)
    refine lv_iload_n hx hb dX5_closed_23 rfl (lv_at hl 0 rfl) ?_
    refine lv_iconst (v := 5) hx hb dX5_closed_24 (by decide) ?_
    refine hc_r (va_runS (As := [.int 5]) (rest := [.int (x ||| ((bitM 1) ||| (bitM 2)))]) S (c_X5_bitM l G _ 5) (va_cwS 1 hts (gWSS q_l_5_84 q_st_X5_bit q_in_5 q_co_X5_bit) rfl rfl rfl (by decide +kernel) ⟨Nat.le_of_ble_eq_true rfl, Nat.le_of_ble_eq_true rfl⟩) (hPreSr hE hS) rfl rfl hl.1 rfl (lv_room (Nat.le_of_ble_eq_true rfl)) dX5_closed_25 ⟨Nat.le_of_ble_eq_true rfl, Nat.le_of_ble_eq_true rfl⟩) hS (fun locs hS => ?_)
    refine lv_iand hx hb dX5_closed_28 ?_
    refine lv_if_eq (tgt := 39) hx hb dX5_closed_29 (by decide) (fun c_29 => ?_) (fun c_29 => ?_)
    · refine lv_iload_n hx hb dX5_closed_39 rfl (lv_at hl 0 rfl) ?_
      exact h_rret S hr hlk hS dX5_closed_40 (by rw [clM, if_neg c_8, if_pos c_29])
    · refine lv_iload_n hx hb dX5_closed_32 rfl (lv_at hl 0 rfl) ?_
      refine lv_iconst (v := 4) hx hb dX5_closed_33 (by decide) ?_
      refine hc_r (va_runS (As := [.int 4]) (rest := [.int (x ||| ((bitM 1) ||| (bitM 2)))]) S (c_X5_bitM l G _ 4) (va_cwS 1 hts (gWSS q_l_5_84 q_st_X5_bit q_in_5 q_co_X5_bit) rfl rfl rfl (by decide +kernel) ⟨Nat.le_of_ble_eq_true rfl, Nat.le_of_ble_eq_true rfl⟩) (hPreSr hE hS) rfl rfl hl.1 rfl (lv_room (Nat.le_of_ble_eq_true rfl)) dX5_closed_34 ⟨Nat.le_of_ble_eq_true rfl, Nat.le_of_ble_eq_true rfl⟩) hS (fun locs hS => ?_)
      refine lv_ior hx hb dX5_closed_37 ?_
      refine lv_istore_n (lv' := [(1, .int ((x ||| ((bitM 1) ||| (bitM 2))) ||| (bitM 4))), (0, .int x)]) hx hb dX5_closed_38 rfl hl (by decide) rfl (fun ls hl => ?_)
      refine lv_iload_n hx hb dX5_closed_39 rfl (lv_at hl 0 rfl) ?_
      exact h_rret S hr hlk hS dX5_closed_40 (by rw [clM, if_neg c_8, if_neg c_29])
set_option maxRecDepth 100000 in
set_option maxHeartbeats 4000000 in
theorem c_X5_have (l : Launch) (G : hG) (ad : Nat → Nat) (ct : Nat → Option va_E) {ct0 : Nat → Option va_E} {sta par bea has cho ao ak : Nat → Int32} (hI : IC G ad ct0 ct (sta, par, bea, has, cho, ao, ak)) {t a : Nat} (hta : t * 12 + a < 252) (b : Int32)  : Met l yX5_have wzX5_have { frames := 0, cells := 0, slots := 0, locals := 0 } (hPw [.ref (ad 8), .int (nI t), .int (nI a), .int b] G ad ct) (hQv (fun ct1 => IC G ad ct0 ct1 (sta, par, bea, (upd has (t * 12 + a) b), cho, ao, ak)) G ad) 0 0 (hA G.2.2.2) := by
  refine hMetw (by decide) (Nat.le_of_ble_eq_true rfl) (fun p e s m below meth c ls S hr hlk hE hW hl => ?_)
  obtain ⟨hx, hb, hml, hown, hts⟩ := id S
  have hS : va_S (hA G.2.2.2) s.heap s.heap [] := va_S.rf
  have hl : lv_has ls 4 [(0, .ref (ad 8)), (1, .int (nI t)), (2, .int (nI a)), (3, .int b)] := hl
  refine lv_aload_n hx hb dX5_have_0 rfl (lv_at hl 0 rfl) ?_
  refine hr_get S hE hW hI.1 inX5 (C := RX5) (T := TX5) (N := 28) rfl 4 (by decide) q_f_5_22 rfl dX5_have_1 ?_
  refine lv_iload_n hx hb dX5_have_4 rfl (lv_at hl 1 rfl) ?_
  refine lv_bipush (v := 12) hx hb dX5_have_5 (by decide) ?_
  refine lv_imul hx hb dX5_have_7 ?_
  refine lv_iload_n hx hb dX5_have_8 rfl (lv_at hl 2 rfl) ?_
  refine lv_iadd hx hb dX5_have_9 ?_
  refine lv_iload_n hx hb dX5_have_10 rfl (lv_at hl 3 rfl) ?_
  refine hr_iastk S hE hW hS hI.2.2.2.2.2.1 (j := (t * 12 + a)) (nI_ta t a) hta (by decide) dX5_have_11 (fun H locs ct_1 hW hk_2 hg_3 hz hS => ?_)
  have hI : IC G ad ct0 ct_1 (sta, par, bea, upd has (t * 12 + a) b, cho, ao, ak) := IC_14 hI hk_2 hg_3
  exact h_vret S hr hlk hS hW dX5_have_12 hI
set_option maxRecDepth 100000 in
set_option maxHeartbeats 4000000 in
theorem c_X5_heir (l : Launch) (G : hG) (ad : Nat → Nat) (ct : Nat → Option va_E) {ct0 : Nat → Option va_E} {sta par bea has cho ao ak : Nat → Int32} (hI : IC G ad ct0 ct (sta, par, bea, has, cho, ao, ak)) {t o : Nat} (ht : t < 21) (ho : o < 21) (nm : Int32)  : Met l yX5_heir wzX5_heir { frames := 2, cells := 0, slots := 0, locals := 41 } (hPw [.ref (ad 8), .int (nI t), .int (nI o), .int nm] G ad ct) (hQv (fun ct1 => IC G ad ct0 ct1 (sta, (upd par t (nI o)), (upd bea t (bea o ||| clM nm)), has, cho, ao, ak)) G ad) 0 0 (hA G.2.2.2) := by
  refine hMetw (by decide) (Nat.le_of_ble_eq_true rfl) (fun p e s m below meth c ls S hr hlk hE hW hl => ?_)
  obtain ⟨hx, hb, hml, hown, hts⟩ := id S
  have hS : va_S (hA G.2.2.2) s.heap s.heap [] := va_S.rf
  have hl : lv_has ls 4 [(0, .ref (ad 8)), (1, .int (nI t)), (2, .int (nI o)), (3, .int nm)] := hl
  refine lv_aload_n hx hb dX5_heir_0 rfl (lv_at hl 0 rfl) ?_
  refine hr_get S hE hW hI.1 inX5 (C := RX5) (T := TX5) (N := 28) rfl 2 (by decide) q_f_5_16 rfl dX5_heir_1 ?_
  refine lv_iload_n hx hb dX5_heir_4 rfl (lv_at hl 1 rfl) ?_
  refine lv_iload_n hx hb dX5_heir_5 rfl (lv_at hl 2 rfl) ?_
  refine hr_iastk S hE hW hS hI.2.2.2.1 (j := t) rfl ht (by decide) dX5_heir_6 (fun H locs ct_1 hW hk_2 hg_3 hz hS => ?_)
  have hI : IC G ad ct0 ct_1 (sta, upd par t (nI o), bea, has, cho, ao, ak) := IC_12 hI hk_2 hg_3
  refine lv_aload_n hx hb dX5_heir_7 rfl (lv_at hl 0 rfl) ?_
  refine hr_get S hE hW hI.1 inX5 (C := RX5) (T := TX5) (N := 28) rfl 3 (by decide) q_f_5_19 rfl dX5_heir_8 ?_
  refine lv_iload_n hx hb dX5_heir_11 rfl (lv_at hl 1 rfl) ?_
  refine lv_aload_n hx hb dX5_heir_12 rfl (lv_at hl 0 rfl) ?_
  refine hr_get S hE hW hI.1 inX5 (C := RX5) (T := TX5) (N := 28) rfl 3 (by decide) q_f_5_19 rfl dX5_heir_13 ?_
  refine lv_iload_n hx hb dX5_heir_16 rfl (lv_at hl 2 rfl) ?_
  refine hr_ialdk S hE hW hI.2.2.2.2.1 (j := o) rfl ho (by decide) dX5_heir_17 ?_
  refine lv_iload_n hx hb dX5_heir_18 rfl (lv_at hl 3 rfl) ?_
  refine hc_r (va_runS (As := [.int nm]) (rest := [.int (bea o), .int (nI t), .ref (ad 13)]) S (c_X5_closed l G _ nm) (va_cwS 1 hts (gWSS q_l_5_88 q_st_X5_closed q_in_5 q_co_X5_closed) rfl rfl rfl (by decide +kernel) ⟨Nat.le_of_ble_eq_true rfl, Nat.le_of_ble_eq_true rfl⟩) (hPreSr hE hS) rfl rfl hl.1 rfl (lv_room (Nat.le_of_ble_eq_true rfl)) dX5_heir_19 ⟨Nat.le_of_ble_eq_true rfl, Nat.le_of_ble_eq_true rfl⟩) hS (fun locs hS => ?_)
  refine lv_ior hx hb dX5_heir_22 ?_
  refine hr_iastk S hE hW hS hI.2.2.2.2.1 (j := t) rfl ht (by decide) dX5_heir_23 (fun H locs ct_4 hW hk_5 hg_6 hz hS => ?_)
  have hI : IC G ad ct0 ct_4 (sta, upd par t (nI o), upd bea t ((bea o) ||| (clM nm)), has, cho, ao, ak) := IC_13 hI hk_5 hg_6
  exact h_vret S hr hlk hS hW dX5_heir_24 hI
def frM (has : Nat → Int32) (sm : Int32) (a i : Nat) : Nat → Nat → Int32 → Int32
  | 0, _, f => f
  | n + 1, k, f => frM has sm a i n (k + 1) (if k = i then f else if sm &&& bitM (nI k) = 0 then f else if has (k * 12 + a) = -1 then f else if clM (bitM (nI k)) &&& bitM (nI i) = 0 then f else 0)
def lowM (has : Nat → Int32) (sm : Int32) (a : Nat) : Nat → Nat → Int32
  | 0, _ => -1
  | n + 1, i => if sm &&& bitM (nI i) = 0 then lowM has sm a n (i + 1) else if has (i * 12 + a) = -1 then lowM has sm a n (i + 1) else if frM has sm a i 5 1 1 = 0 then lowM has sm a n (i + 1) else has (i * 12 + a)
theorem le5 {k : Nat} (h : k < 6) : ¬ (5 : Int32) < nI k := by
  have : ∀ k, k < 6 → ¬ (5 : Int32) < nI k := by decide
  exact this k h
set_option maxRecDepth 100000 in
set_option maxHeartbeats 4000000 in
theorem c_X5_lowest (l : Launch) (G : hG) (H : Heap) {ad : Nat → Nat} {ct : Nat → Option va_E} (hW : hw G ad ct H) {ct0 : Nat → Option va_E} {sta par bea has cho ao ak : Nat → Int32} (hI : IC G ad ct0 ct (sta, par, bea, has, cho, ao, ak)) (sm : Int32) {a : Nat} (ha : a < 12)  : Met l yX5_lowest wzX5_lowest { frames := 2, cells := 0, slots := 0, locals := 41 } (hPr [.ref (ad 8), .int sm, .int (nI a)] G H) (hQr (lowM has sm a 5 1) H G.2.2.2) 0 0 (hA G.2.2.2) := by
  refine hMetr (Qc := fun H => hQr (lowM has sm a 5 1) H G.2.2.2) (by decide) (Nat.le_of_ble_eq_true rfl) (fun p e s m below meth c ls S hr hlk hE hH hl => ?_)
  subst hH
  obtain ⟨hx, hb, hml, hown, hts⟩ := id S
  have hS : va_S (hA G.2.2.2) s.heap s.heap [] := va_S.rf
  have hl : lv_has ls 6 [(0, .ref (ad 8)), (1, .int sm), (2, .int (nI a))] := hl
  refine lv_iconst (v := 1) hx hb dX5_lowest_0 (by decide) ?_
  refine lv_istore_n (lv' := [(3, .int 1), (0, .ref (ad 8)), (1, .int sm), (2, .int (nI a))]) hx hb dX5_lowest_1 rfl hl (by decide) rfl (fun ls hl => ?_)
  have loop : ∀ (rem i : Nat) (locs : List Loc) (ls : Array Slot), i + rem = 6 → 1 ≤ i → lowM has sm a 5 1 = lowM has sm a rem i → va_S (hA G.2.2.2) s.heap s.heap locs → lv_has ls 6 [(3, .int (nI i)), (0, .ref (ad 8)), (1, .int sm), (2, .int (nI a))] → W p l e { frames := 2, cells := 0, slots := 0, locals := 41 } s m ([.ref (ad 8), .int sm, .int (nI a)] : List Value).toArray below meth c s.heap locs 0 0 (MQ below (hQr (lowM has sm a 5 1) s.heap G.2.2.2) ([.ref (ad 8), .int sm, .int (nI a)] : List Value).toArray s 0 0 (hA G.2.2.2)) (F0 m 2 ls []) := by
    intro rem
    induction rem with
    | zero =>
      intro i locs ls hnk hi1 hv hS hl
      refine lv_iload_n hx hb dX5_lowest_2 rfl (lv_at hl 0 rfl) ?_
      refine lv_iconst (v := 5) hx hb dX5_lowest_3 (by decide) ?_
      refine lv_icmp_gt (tgt := 126) hx hb dX5_lowest_4 (by decide) (fun _ => ?_) (fun q => absurd (show (5 : Int32) < nI i by rw [show i = 6 by omega]; decide) q)
      refine lv_iconst (v := (-1)) hx hb dX5_lowest_126 (by decide) ?_
      exact h_rret S hr hlk hS dX5_lowest_127 (by rw [hv]; rfl)
    | succ rem ih =>
      intro i locs ls hnk hi1 hv hS hl
      refine lv_iload_n hx hb dX5_lowest_2 rfl (lv_at hl 0 rfl) ?_
      refine lv_iconst (v := 5) hx hb dX5_lowest_3 (by decide) ?_
      refine lv_icmp_gt (tgt := 126) hx hb dX5_lowest_4 (by decide) (fun q => absurd q (le5 (by omega))) (fun _ => ?_)
      refine lv_iload_n hx hb dX5_lowest_7 rfl (lv_at hl 2 rfl) ?_
      refine lv_iload_n hx hb dX5_lowest_8 rfl (lv_at hl 0 rfl) ?_
      refine hc_r (va_runS (As := [.int (nI i)]) (rest := [.int sm]) S (c_X5_bitM l G _ (nI i)) (va_cwS 1 hts (gWSS q_l_5_84 q_st_X5_bit q_in_5 q_co_X5_bit) rfl rfl rfl (by decide +kernel) ⟨Nat.le_of_ble_eq_true rfl, Nat.le_of_ble_eq_true rfl⟩) (hPreSr hE hS) rfl rfl hl.1 rfl (lv_room (Nat.le_of_ble_eq_true rfl)) dX5_lowest_9 ⟨Nat.le_of_ble_eq_true rfl, Nat.le_of_ble_eq_true rfl⟩) hS (fun locs hS => ?_)
      refine lv_iand hx hb dX5_lowest_12 ?_
      refine lv_if_eq (tgt := 120) hx hb dX5_lowest_13 (by decide) (fun c_13 => ?_) (fun c_13 => ?_)
      · refine lv_iinc (v := (nI (i + 1))) (lv' := [(3, .int (nI (i + 1))), (0, .ref (ad 8)), (1, .int sm), (2, .int (nI a))]) hx hb dX5_lowest_120 hl (k := 0) rfl (nI_1 i) (by decide) rfl (fun ls hl => ?_)
        refine lv_goto (tgt := 2) hx hb dX5_lowest_123 (by decide) ?_
        exact ih (i + 1) _ _ (by omega) (by omega) (by rw [hv, lowM, if_pos c_13]) hS (lv_sub hl [0, 1, 2, 3] rfl)
      · refine lv_aload_n hx hb dX5_lowest_16 rfl (lv_at hl 1 rfl) ?_
        refine hr_get S hE hW hI.1 inX5 (C := RX5) (T := TX5) (N := 28) rfl 4 (by decide) q_f_5_22 rfl dX5_lowest_17 ?_
        refine lv_iload_n hx hb dX5_lowest_20 rfl (lv_at hl 0 rfl) ?_
        refine lv_bipush (v := 12) hx hb dX5_lowest_21 (by decide) ?_
        refine lv_imul hx hb dX5_lowest_23 ?_
        refine lv_iload_n hx hb dX5_lowest_24 rfl (lv_at hl 3 rfl) ?_
        refine lv_iadd hx hb dX5_lowest_25 ?_
        refine hr_ialdk S hE hW hI.2.2.2.2.2.1 (j := (i * 12 + a)) (nI_ta i a) (by omega) (by decide) dX5_lowest_26 ?_
        refine lv_iconst (v := (-1)) hx hb dX5_lowest_27 (by decide) ?_
        refine lv_icmp_ne (tgt := 34) hx hb dX5_lowest_28 (by decide) (fun c_28 => ?_) (fun c_28 => ?_)
        · refine lv_iconst (v := 1) hx hb dX5_lowest_34 (by decide) ?_
          refine lv_istore (lv' := [(4, .int 1), (3, .int (nI i)), (0, .ref (ad 8)), (1, .int sm), (2, .int (nI a))]) hx hb dX5_lowest_35 hl (by decide) rfl (fun ls hl => ?_)
          refine lv_iconst (v := 1) hx hb dX5_lowest_37 (by decide) ?_
          refine lv_istore (lv' := [(5, .int 1), (4, .int 1), (3, .int (nI i)), (0, .ref (ad 8)), (1, .int sm), (2, .int (nI a))]) hx hb dX5_lowest_38 hl (by decide) rfl (fun ls hl => ?_)
          have loop2 : ∀ (rem2 k : Nat) (f : Int32) (locs : List Loc) (ls : Array Slot), k + rem2 = 6 → frM has sm a i 5 1 1 = frM has sm a i rem2 k f → va_S (hA G.2.2.2) s.heap s.heap locs → lv_has ls 6 [(5, .int (nI k)), (4, .int f), (3, .int (nI i)), (0, .ref (ad 8)), (1, .int sm), (2, .int (nI a))] → W p l e { frames := 2, cells := 0, slots := 0, locals := 41 } s m ([.ref (ad 8), .int sm, .int (nI a)] : List Value).toArray below meth c s.heap locs 0 0 (MQ below (hQr (lowM has sm a 5 1) s.heap G.2.2.2) ([.ref (ad 8), .int sm, .int (nI a)] : List Value).toArray s 0 0 (hA G.2.2.2)) (F0 m 40 ls []) := by
            intro rem2
            induction rem2 with
            | zero =>
              intro k f locs ls hnk2 hv2 hS hl
              refine lv_iload hx hb dX5_lowest_40 (lv_at hl 0 rfl) ?_
              refine lv_iconst (v := 5) hx hb dX5_lowest_42 (by decide) ?_
              refine lv_icmp_gt (tgt := 103) hx hb dX5_lowest_43 (by decide) (fun _ => ?_) (fun q => absurd (show (5 : Int32) < nI k by rw [show k = 6 by omega]; decide) q)
              refine lv_iload hx hb dX5_lowest_103 (lv_at hl 1 rfl) ?_
              refine lv_if_eq (tgt := 120) hx hb dX5_lowest_105 (by decide) (fun c_105 => ?_) (fun c_105 => ?_)
              · refine lv_iinc (v := (nI (i + 1))) (lv' := [(3, .int (nI (i + 1))), (5, .int (nI k)), (4, .int f), (0, .ref (ad 8)), (1, .int sm), (2, .int (nI a))]) hx hb dX5_lowest_120 hl (k := 2) rfl (nI_1 i) (by decide) rfl (fun ls hl => ?_)
                refine lv_goto (tgt := 2) hx hb dX5_lowest_123 (by decide) ?_
                exact ih (i + 1) _ _ (by omega) (by omega) (by rw [hv, lowM, if_neg c_13, if_neg c_28, if_pos (hv2.trans c_105)]) hS (lv_sub hl [0, 3, 4, 5] rfl)
              · refine lv_aload_n hx hb dX5_lowest_108 rfl (lv_at hl 3 rfl) ?_
                refine hr_get S hE hW hI.1 inX5 (C := RX5) (T := TX5) (N := 28) rfl 4 (by decide) q_f_5_22 rfl dX5_lowest_109 ?_
                refine lv_iload_n hx hb dX5_lowest_112 rfl (lv_at hl 2 rfl) ?_
                refine lv_bipush (v := 12) hx hb dX5_lowest_113 (by decide) ?_
                refine lv_imul hx hb dX5_lowest_115 ?_
                refine lv_iload_n hx hb dX5_lowest_116 rfl (lv_at hl 5 rfl) ?_
                refine lv_iadd hx hb dX5_lowest_117 ?_
                refine hr_ialdk S hE hW hI.2.2.2.2.2.1 (j := (i * 12 + a)) (nI_ta i a) (by omega) (by decide) dX5_lowest_118 ?_
                exact h_rret S hr hlk hS dX5_lowest_119 (by rw [hv, lowM, if_neg c_13, if_neg c_28, if_neg (fun q => c_105 (hv2.symm.trans q))])
            | succ rem2 ih2 =>
              intro k f locs ls hnk2 hv2 hS hl
              by_cases hki : k = i
              · refine lv_iload hx hb dX5_lowest_40 (lv_at hl 0 rfl) ?_
                refine lv_iconst (v := 5) hx hb dX5_lowest_42 (by decide) ?_
                refine lv_icmp_gt (tgt := 103) hx hb dX5_lowest_43 (by decide) (fun q => absurd q (le5 (by omega))) (fun _ => ?_)
                refine lv_iload hx hb dX5_lowest_46 (lv_at hl 0 rfl) ?_
                refine lv_iload_n hx hb dX5_lowest_48 rfl (lv_at hl 2 rfl) ?_
                refine lv_icmp_eq (tgt := 97) hx hb dX5_lowest_49 (by decide) (fun _ => ?_) (fun q => absurd (show nI k = nI i by rw [hki]) q)
                refine lv_iinc (v := (nI (k + 1))) (lv' := [(5, .int (nI (k + 1))), (4, .int f), (3, .int (nI i)), (0, .ref (ad 8)), (1, .int sm), (2, .int (nI a))]) hx hb dX5_lowest_97 hl (k := 0) rfl (nI_1 k) (by decide) rfl (fun ls hl => ?_)
                refine lv_goto (tgt := 40) hx hb dX5_lowest_100 (by decide) ?_
                exact ih2 (k + 1) f _ _ (by omega) (by rw [hv2, frM, if_pos hki]) hS (lv_sub hl [0, 1, 2, 3, 4, 5] rfl)
              · refine lv_iload hx hb dX5_lowest_40 (lv_at hl 0 rfl) ?_
                refine lv_iconst (v := 5) hx hb dX5_lowest_42 (by decide) ?_
                refine lv_icmp_gt (tgt := 103) hx hb dX5_lowest_43 (by decide) (fun q => absurd q (le5 (by omega))) (fun _ => ?_)
                refine lv_iload hx hb dX5_lowest_46 (lv_at hl 0 rfl) ?_
                refine lv_iload_n hx hb dX5_lowest_48 rfl (lv_at hl 2 rfl) ?_
                refine lv_icmp_eq (tgt := 97) hx hb dX5_lowest_49 (by decide) (fun q => absurd q (fun q => hki (nI_eqN (by omega) (by omega) q))) (fun _ => ?_)
                refine lv_iload_n hx hb dX5_lowest_52 rfl (lv_at hl 4 rfl) ?_
                refine lv_iload hx hb dX5_lowest_53 (lv_at hl 0 rfl) ?_
                refine hc_r (va_runS (As := [.int (nI k)]) (rest := [.int sm]) S (c_X5_bitM l G _ (nI k)) (va_cwS 1 hts (gWSS q_l_5_84 q_st_X5_bit q_in_5 q_co_X5_bit) rfl rfl rfl (by decide +kernel) ⟨Nat.le_of_ble_eq_true rfl, Nat.le_of_ble_eq_true rfl⟩) (hPreSr hE hS) rfl rfl hl.1 rfl (lv_room (Nat.le_of_ble_eq_true rfl)) dX5_lowest_55 ⟨Nat.le_of_ble_eq_true rfl, Nat.le_of_ble_eq_true rfl⟩) hS (fun locs hS => ?_)
                refine lv_iand hx hb dX5_lowest_58 ?_
                refine lv_if_eq (tgt := 97) hx hb dX5_lowest_59 (by decide) (fun c_59 => ?_) (fun c_59 => ?_)
                · refine lv_iinc (v := (nI (k + 1))) (lv' := [(5, .int (nI (k + 1))), (4, .int f), (3, .int (nI i)), (0, .ref (ad 8)), (1, .int sm), (2, .int (nI a))]) hx hb dX5_lowest_97 hl (k := 0) rfl (nI_1 k) (by decide) rfl (fun ls hl => ?_)
                  refine lv_goto (tgt := 40) hx hb dX5_lowest_100 (by decide) ?_
                  exact ih2 (k + 1) f _ _ (by omega) (by rw [hv2, frM, if_neg hki, if_pos c_59]) hS (lv_sub hl [0, 1, 2, 3, 4, 5] rfl)
                · refine lv_aload_n hx hb dX5_lowest_62 rfl (lv_at hl 3 rfl) ?_
                  refine hr_get S hE hW hI.1 inX5 (C := RX5) (T := TX5) (N := 28) rfl 4 (by decide) q_f_5_22 rfl dX5_lowest_63 ?_
                  refine lv_iload hx hb dX5_lowest_66 (lv_at hl 0 rfl) ?_
                  refine lv_bipush (v := 12) hx hb dX5_lowest_68 (by decide) ?_
                  refine lv_imul hx hb dX5_lowest_70 ?_
                  refine lv_iload_n hx hb dX5_lowest_71 rfl (lv_at hl 5 rfl) ?_
                  refine lv_iadd hx hb dX5_lowest_72 ?_
                  refine hr_ialdk S hE hW hI.2.2.2.2.2.1 (j := (k * 12 + a)) (nI_ta k a) (by omega) (by decide) dX5_lowest_73 ?_
                  refine lv_iconst (v := (-1)) hx hb dX5_lowest_74 (by decide) ?_
                  refine lv_icmp_eq (tgt := 97) hx hb dX5_lowest_75 (by decide) (fun c_75 => ?_) (fun c_75 => ?_)
                  · refine lv_iinc (v := (nI (k + 1))) (lv' := [(5, .int (nI (k + 1))), (4, .int f), (3, .int (nI i)), (0, .ref (ad 8)), (1, .int sm), (2, .int (nI a))]) hx hb dX5_lowest_97 hl (k := 0) rfl (nI_1 k) (by decide) rfl (fun ls hl => ?_)
                    refine lv_goto (tgt := 40) hx hb dX5_lowest_100 (by decide) ?_
                    exact ih2 (k + 1) f _ _ (by omega) (by rw [hv2, frM, if_neg hki, if_neg c_59, if_pos c_75]) hS (lv_sub hl [0, 1, 2, 3, 4, 5] rfl)
                  · refine lv_iload hx hb dX5_lowest_78 (lv_at hl 0 rfl) ?_
                    refine hc_r (va_runS (As := [.int (nI k)]) (rest := []) S (c_X5_bitM l G _ (nI k)) (va_cwS 1 hts (gWSS q_l_5_84 q_st_X5_bit q_in_5 q_co_X5_bit) rfl rfl rfl (by decide +kernel) ⟨Nat.le_of_ble_eq_true rfl, Nat.le_of_ble_eq_true rfl⟩) (hPreSr hE hS) rfl rfl hl.1 rfl (lv_room (Nat.le_of_ble_eq_true rfl)) dX5_lowest_80 ⟨Nat.le_of_ble_eq_true rfl, Nat.le_of_ble_eq_true rfl⟩) hS (fun locs hS => ?_)
                    refine hc_r (va_runS (As := [.int (bitM (nI k))]) (rest := []) S (c_X5_closed l G _ (bitM (nI k))) (va_cwS 1 hts (gWSS q_l_5_88 q_st_X5_closed q_in_5 q_co_X5_closed) rfl rfl rfl (by decide +kernel) ⟨Nat.le_of_ble_eq_true rfl, Nat.le_of_ble_eq_true rfl⟩) (hPreSr hE hS) rfl rfl hl.1 rfl (lv_room (Nat.le_of_ble_eq_true rfl)) dX5_lowest_83 ⟨Nat.le_of_ble_eq_true rfl, Nat.le_of_ble_eq_true rfl⟩) hS (fun locs hS => ?_)
                    refine lv_iload_n hx hb dX5_lowest_86 rfl (lv_at hl 2 rfl) ?_
                    refine hc_r (va_runS (As := [.int (nI i)]) (rest := [.int (clM (bitM (nI k)))]) S (c_X5_bitM l G _ (nI i)) (va_cwS 1 hts (gWSS q_l_5_84 q_st_X5_bit q_in_5 q_co_X5_bit) rfl rfl rfl (by decide +kernel) ⟨Nat.le_of_ble_eq_true rfl, Nat.le_of_ble_eq_true rfl⟩) (hPreSr hE hS) rfl rfl hl.1 rfl (lv_room (Nat.le_of_ble_eq_true rfl)) dX5_lowest_87 ⟨Nat.le_of_ble_eq_true rfl, Nat.le_of_ble_eq_true rfl⟩) hS (fun locs hS => ?_)
                    refine lv_iand hx hb dX5_lowest_90 ?_
                    refine lv_if_eq (tgt := 97) hx hb dX5_lowest_91 (by decide) (fun c_91 => ?_) (fun c_91 => ?_)
                    · refine lv_iinc (v := (nI (k + 1))) (lv' := [(5, .int (nI (k + 1))), (4, .int f), (3, .int (nI i)), (0, .ref (ad 8)), (1, .int sm), (2, .int (nI a))]) hx hb dX5_lowest_97 hl (k := 0) rfl (nI_1 k) (by decide) rfl (fun ls hl => ?_)
                      refine lv_goto (tgt := 40) hx hb dX5_lowest_100 (by decide) ?_
                      exact ih2 (k + 1) f _ _ (by omega) (by rw [hv2, frM, if_neg hki, if_neg c_59, if_neg c_75, if_pos c_91]) hS (lv_sub hl [0, 1, 2, 3, 4, 5] rfl)
                    · refine lv_iconst (v := 0) hx hb dX5_lowest_94 (by decide) ?_
                      refine lv_istore (lv' := [(4, .int 0), (5, .int (nI k)), (3, .int (nI i)), (0, .ref (ad 8)), (1, .int sm), (2, .int (nI a))]) hx hb dX5_lowest_95 hl (by decide) rfl (fun ls hl => ?_)
                      refine lv_iinc (v := (nI (k + 1))) (lv' := [(5, .int (nI (k + 1))), (4, .int 0), (3, .int (nI i)), (0, .ref (ad 8)), (1, .int sm), (2, .int (nI a))]) hx hb dX5_lowest_97 hl (k := 1) rfl (nI_1 k) (by decide) rfl (fun ls hl => ?_)
                      refine lv_goto (tgt := 40) hx hb dX5_lowest_100 (by decide) ?_
                      exact ih2 (k + 1) 0 _ _ (by omega) (by rw [hv2, frM, if_neg hki, if_neg c_59, if_neg c_75, if_neg c_91]) hS (lv_sub hl [0, 1, 2, 3, 4, 5] rfl)
          exact loop2 5 1 1 _ _ (by omega) rfl hS (lv_sub hl [0, 1, 2, 3, 4, 5] rfl)
        · refine lv_goto (tgt := 120) hx hb dX5_lowest_31 (by decide) ?_
          refine lv_iinc (v := (nI (i + 1))) (lv' := [(3, .int (nI (i + 1))), (0, .ref (ad 8)), (1, .int sm), (2, .int (nI a))]) hx hb dX5_lowest_120 hl (k := 0) rfl (nI_1 i) (by decide) rfl (fun ls hl => ?_)
          refine lv_goto (tgt := 2) hx hb dX5_lowest_123 (by decide) ?_
          exact ih (i + 1) _ _ (by omega) (by omega) (by rw [hv, lowM, if_neg c_13, if_pos c_28]) hS (lv_sub hl [0, 1, 2, 3] rfl)
  exact loop 5 1 _ _ (by omega) (by omega) rfl hS (lv_sub hl [0, 1, 2, 3] rfl)
def slM (ty a : Nat) : Nat → Int32 → Int32
  | 0, _ => 0
  | n + 1, t => if t < 6 then lowM hasT (beaT ty) a 5 1 else if hasT (t.toNatClampNeg * 12 + a) = -1 then slM ty a n (parT t.toNatClampNeg) else hasT (t.toNatClampNeg * 12 + a)
theorem par_dn : ∀ t, t < 21 → 6 ≤ t → (parT t < 6 ∨ ∃ p, p < t ∧ 6 ≤ p ∧ parT t = nI p) := by
  have h : ∀ t, t < 21 → 6 ≤ t → (decide (parT t < 6) || ((List.range t).any fun p => decide (6 ≤ p) && decide (parT t = nI p))) = true := by decide +kernel
  intro t ht h6
  have q := h t ht h6
  rw [Bool.or_eq_true, decide_eq_true_eq, List.any_eq_true] at q
  rcases q with q | ⟨p, hp, q⟩
  · exact Or.inl q
  · rw [Bool.and_eq_true, decide_eq_true_eq, decide_eq_true_eq] at q
    exact Or.inr ⟨p, List.mem_range.mp hp, q.1, q.2⟩
set_option maxRecDepth 100000 in
set_option maxHeartbeats 4000000 in
theorem c_X5_select (l : Launch) (G : hG) (H : Heap) {ad : Nat → Nat} {ct : Nat → Option va_E} (hW : hw G ad ct H) {ct0 : Nat → Option va_E} {sta cho ao ak : Nat → Int32} (hI : IC G ad ct0 ct (sta, parT, beaT, hasT, cho, ao, ak)) {ty a : Nat} (hty : ty < 21) (ha : a < 12)  : Met l yX5_select wzX5_select { frames := 3, cells := 0, slots := 0, locals := 66 } (hPr [.ref (ad 8), .int (nI ty), .int (nI a)] G H) (hQr (slM ty a 20 (nI ty)) H G.2.2.2) 0 0 (hA G.2.2.2) := by
  refine hMetr (Qc := fun H => hQr (slM ty a 20 (nI ty)) H G.2.2.2) (by decide) (Nat.le_of_ble_eq_true rfl) (fun p e s m below meth c ls S hr hlk hE hH hl => ?_)
  subst hH
  obtain ⟨hx, hb, hml, hown, hts⟩ := id S
  have hS : va_S (hA G.2.2.2) s.heap s.heap [] := va_S.rf
  have hl : lv_has ls 4 [(0, .ref (ad 8)), (1, .int (nI ty)), (2, .int (nI a))] := hl
  refine lv_iload_n hx hb dX5_select_0 rfl (lv_at hl 1 rfl) ?_
  refine lv_istore_n (lv' := [(3, .int (nI ty)), (0, .ref (ad 8)), (1, .int (nI ty)), (2, .int (nI a))]) hx hb dX5_select_1 rfl hl (by decide) rfl (fun ls hl => ?_)
  have loop : ∀ (rem : Nat) (t : Int32) (locs : List Loc) (ls : Array Slot), (t < 6 ∨ ∃ tt, t = nI tt ∧ 6 ≤ tt ∧ tt < rem + 6 ∧ tt < 21) → slM ty a 20 (nI ty) = slM ty a (rem + 1) t → va_S (hA G.2.2.2) s.heap s.heap locs → lv_has ls 4 [(3, .int t), (0, .ref (ad 8)), (1, .int (nI ty)), (2, .int (nI a))] → W p l e { frames := 3, cells := 0, slots := 0, locals := 66 } s m ([.ref (ad 8), .int (nI ty), .int (nI a)] : List Value).toArray below meth c s.heap locs 0 0 (MQ below (hQr (slM ty a 20 (nI ty)) s.heap G.2.2.2) ([.ref (ad 8), .int (nI ty), .int (nI a)] : List Value).toArray s 0 0 (hA G.2.2.2)) (F0 m 2 ls []) := by
    intro rem
    induction rem with
    | zero =>
      intro t locs ls ht hv hS hl
      rcases ht with h6 | ⟨tt, rfl, htt6, httr, htt⟩
      · refine lv_iload_n hx hb dX5_select_2 rfl (lv_at hl 0 rfl) ?_
        refine lv_bipush (v := 6) hx hb dX5_select_3 (by decide) ?_
        refine lv_icmp_lt (tgt := 45) hx hb dX5_select_5 (by decide) (fun _ => ?_) (fun q => absurd h6 q)
        refine lv_aload_n hx hb dX5_select_45 rfl (lv_at hl 1 rfl) ?_
        refine lv_aload_n hx hb dX5_select_46 rfl (lv_at hl 1 rfl) ?_
        refine hr_get S hE hW hI.1 inX5 (C := RX5) (T := TX5) (N := 28) rfl 3 (by decide) q_f_5_19 rfl dX5_select_47 ?_
        refine lv_iload_n hx hb dX5_select_50 rfl (lv_at hl 2 rfl) ?_
        refine hr_ialdk S hE hW hI.2.2.2.2.1 (j := ty) rfl hty (by decide) dX5_select_51 ?_
        refine lv_iload_n hx hb dX5_select_52 rfl (lv_at hl 3 rfl) ?_
        refine hc_r (va_runV (As := [.int (beaT ty), .int (nI a)]) (rest := []) S (c_X5_lowest l G _ hW hI (beaT ty) (a := a) ha) (cwV 2 hts (gWSV q_l_5_91 q_im_X5_lowest q_se_X5_lowest q_in_5 q_co_X5_lowest) rfl rfl rfl (by decide +kernel) ⟨Nat.le_of_ble_eq_true rfl, Nat.le_of_ble_eq_true rfl⟩) (hPreVr hE hS (hrecv hE hW hI.1 (q := (RX5, TX5, 28)) rfl)) rfl rfl hl.1 rfl (lv_room (Nat.le_of_ble_eq_true rfl)) dX5_select_53 ⟨Nat.le_of_ble_eq_true rfl, Nat.le_of_ble_eq_true rfl⟩) hS (fun locs hS => ?_)
        exact h_rret S hr hlk hS dX5_select_56 (by rw [hv, slM, if_pos h6])
      · exact absurd httr (by omega)
    | succ rem ih =>
      intro t locs ls ht hv hS hl
      rcases ht with h6 | ⟨tt, rfl, htt6, httr, htt⟩
      · refine lv_iload_n hx hb dX5_select_2 rfl (lv_at hl 0 rfl) ?_
        refine lv_bipush (v := 6) hx hb dX5_select_3 (by decide) ?_
        refine lv_icmp_lt (tgt := 45) hx hb dX5_select_5 (by decide) (fun _ => ?_) (fun q => absurd h6 q)
        refine lv_aload_n hx hb dX5_select_45 rfl (lv_at hl 1 rfl) ?_
        refine lv_aload_n hx hb dX5_select_46 rfl (lv_at hl 1 rfl) ?_
        refine hr_get S hE hW hI.1 inX5 (C := RX5) (T := TX5) (N := 28) rfl 3 (by decide) q_f_5_19 rfl dX5_select_47 ?_
        refine lv_iload_n hx hb dX5_select_50 rfl (lv_at hl 2 rfl) ?_
        refine hr_ialdk S hE hW hI.2.2.2.2.1 (j := ty) rfl hty (by decide) dX5_select_51 ?_
        refine lv_iload_n hx hb dX5_select_52 rfl (lv_at hl 3 rfl) ?_
        refine hc_r (va_runV (As := [.int (beaT ty), .int (nI a)]) (rest := []) S (c_X5_lowest l G _ hW hI (beaT ty) (a := a) ha) (cwV 2 hts (gWSV q_l_5_91 q_im_X5_lowest q_se_X5_lowest q_in_5 q_co_X5_lowest) rfl rfl rfl (by decide +kernel) ⟨Nat.le_of_ble_eq_true rfl, Nat.le_of_ble_eq_true rfl⟩) (hPreVr hE hS (hrecv hE hW hI.1 (q := (RX5, TX5, 28)) rfl)) rfl rfl hl.1 rfl (lv_room (Nat.le_of_ble_eq_true rfl)) dX5_select_53 ⟨Nat.le_of_ble_eq_true rfl, Nat.le_of_ble_eq_true rfl⟩) hS (fun locs hS => ?_)
        exact h_rret S hr hlk hS dX5_select_56 (by rw [hv, slM, if_pos h6])
      · have h6 : ¬ nI tt < 6 := nI_nlt (b := 6) htt6 (by omega)
        refine lv_iload_n hx hb dX5_select_2 rfl (lv_at hl 0 rfl) ?_
        refine lv_bipush (v := 6) hx hb dX5_select_3 (by decide) ?_
        refine lv_icmp_lt (tgt := 45) hx hb dX5_select_5 (by decide) (fun q => absurd q h6) (fun _ => ?_)
        refine lv_aload_n hx hb dX5_select_8 rfl (lv_at hl 1 rfl) ?_
        refine hr_get S hE hW hI.1 inX5 (C := RX5) (T := TX5) (N := 28) rfl 4 (by decide) q_f_5_22 rfl dX5_select_9 ?_
        refine lv_iload_n hx hb dX5_select_12 rfl (lv_at hl 0 rfl) ?_
        refine lv_bipush (v := 12) hx hb dX5_select_13 (by decide) ?_
        refine lv_imul hx hb dX5_select_15 ?_
        refine lv_iload_n hx hb dX5_select_16 rfl (lv_at hl 3 rfl) ?_
        refine lv_iadd hx hb dX5_select_17 ?_
        refine hr_ialdk S hE hW hI.2.2.2.2.2.1 (j := (tt * 12 + a)) (nI_ta tt a) (by omega) (by decide) dX5_select_18 ?_
        refine lv_iconst (v := (-1)) hx hb dX5_select_19 (by decide) ?_
        refine lv_icmp_eq (tgt := 35) hx hb dX5_select_20 (by decide) (fun c_20 => ?_) (fun c_20 => ?_)
        · refine lv_aload_n hx hb dX5_select_35 rfl (lv_at hl 1 rfl) ?_
          refine hr_get S hE hW hI.1 inX5 (C := RX5) (T := TX5) (N := 28) rfl 2 (by decide) q_f_5_16 rfl dX5_select_36 ?_
          refine lv_iload_n hx hb dX5_select_39 rfl (lv_at hl 0 rfl) ?_
          refine hr_ialdk S hE hW hI.2.2.2.1 (j := tt) rfl htt (by decide) dX5_select_40 ?_
          refine lv_istore_n (lv' := [(3, .int (parT tt)), (0, .ref (ad 8)), (1, .int (nI ty)), (2, .int (nI a))]) hx hb dX5_select_41 rfl hl (by decide) rfl (fun ls hl => ?_)
          refine lv_goto (tgt := 2) hx hb dX5_select_42 (by decide) ?_
          have hd := par_dn tt htt htt6
          exact ih (parT tt) _ _ (by rcases hd with h | ⟨p, h1, h2, h3⟩; exact Or.inl h; exact Or.inr ⟨p, h3, h2, by omega, by omega⟩) (by rw [hv, slM, if_neg h6, nI_clamp (by omega), if_pos c_20]) hS (lv_sub hl [0, 1, 2, 3] rfl)
        · refine lv_aload_n hx hb dX5_select_23 rfl (lv_at hl 1 rfl) ?_
          refine hr_get S hE hW hI.1 inX5 (C := RX5) (T := TX5) (N := 28) rfl 4 (by decide) q_f_5_22 rfl dX5_select_24 ?_
          refine lv_iload_n hx hb dX5_select_27 rfl (lv_at hl 0 rfl) ?_
          refine lv_bipush (v := 12) hx hb dX5_select_28 (by decide) ?_
          refine lv_imul hx hb dX5_select_30 ?_
          refine lv_iload_n hx hb dX5_select_31 rfl (lv_at hl 3 rfl) ?_
          refine lv_iadd hx hb dX5_select_32 ?_
          refine hr_ialdk S hE hW hI.2.2.2.2.2.1 (j := (tt * 12 + a)) (nI_ta tt a) (by omega) (by decide) dX5_select_33 ?_
          exact h_rret S hr hlk hS dX5_select_34 (by rw [hv, slM, if_neg h6, nI_clamp (by omega), if_neg c_20])
  exact loop 19 _ _ _ (by by_cases q : ty < 6; exact Or.inl (nI_lt (b := 6) q (by omega)); exact Or.inr ⟨ty, rfl, by omega, by omega, hty⟩) rfl hS (lv_sub hl [0, 1, 2, 3] rfl)
