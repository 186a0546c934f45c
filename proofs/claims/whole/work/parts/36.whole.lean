/-! THE LAW'S START: the environment out of what the Statement gives; both constructors; the claim -/
theorem hN_ix : hN = [122, 185, 189, 192, 194, 331, 332, 333, 60, 92, 116, 163, 167, 175, 235, 239, 240, 244, 254, 255, 259, 267, 275, 299, 312, 326, 339, 351, 367, 379].filterMap (fun i => lw_tbl[i]?) := by decide +kernel
theorem mem_fm {α : Type} {L : List α} {is : List Nat} {w : α} (h : w ∈ is.filterMap (fun i => L[i]?)) : w ∈ L := by
  obtain ⟨i, _, hi⟩ := List.mem_filterMap.mp h
  exact List.mem_of_getElem? hi
theorem hN_tbl : ∀ w ∈ hN, w ∈ lw_tbl := fun w hw => mem_fm (hN_ix ▸ hw)
def fl1 : List Cond := flatC (Jvm.Cond.and given_1 narrow_1)
theorem st_PARENTS : fl1[5]? = some (Cond.arrayOf (.static RX1 "PARENTS" "[I") .int) ∧ fl1[6]? = some (Cond.eq (.length (.static RX1 "PARENTS" "[I")) (.int 18)) ∧ ∀ j, j < 18 → fl1[7 + j]? = some (Cond.eq (.elem (.static RX1 "PARENTS" "[I") (.int (Int32.ofNat j))) (.int (tab tabPl j))) := by decide +kernel
theorem ly_PARENTS : Cond.laysStatic RX1 "PARENTS" "[I" ∈ lw_tbl := List.mem_of_getElem? (i := 74) (by decide +kernel)
theorem sv_PARENTS {s : State} {b : Nat} (hts : ∀ w ∈ lw_tbl, w.before #[Value.ref b] s = true) (hgv : (Jvm.Cond.and given_1 narrow_1).before #[Value.ref b] s = true) : ∃ t : Nat, va_Z RX1 "PARENTS" "[I" (.ref t) (hA s.heap.size) s s.heap ∧ va_T .int t 18 (fun j => .int (tab tabPl j)) (hA s.heap.size) s s.heap := by
  have hs : ∀ w ∈ fl1, w.before #[Value.ref b] s = true := flat_of_before _ hgv
  have hAo : ∀ a : Nat, a < s.heap.size → ¬ hA s.heap.size a := fun a h => Nat.not_le.mpr h
  obtain ⟨t, ht, hT⟩ := va_Tof (tm := .static RX1 "PARENTS" "[I") (ty := .int) (N := 18) (f := fun j => .int (tab tabPl j)) (A := hA s.heap.size) (by decide) (hs _ (List.mem_of_getElem? st_PARENTS.1)) (va_eqt (hs _ (List.mem_of_getElem? st_PARENTS.2.1))) (fun j hj => va_eqt (hs _ (List.mem_of_getElem? (st_PARENTS.2.2 j hj)))) hAo
  exact ⟨t, va_Zref (hts _ ly_PARENTS) (hts _ (List.mem_filter.mp q_in_1).1) ht hAo, hT⟩
theorem st_NAMED : fl1[26]? = some (Cond.arrayOf (.static RX1 "NAMED" "[I") .int) ∧ fl1[27]? = some (Cond.eq (.length (.static RX1 "NAMED" "[I")) (.int 18)) ∧ ∀ j, j < 18 → fl1[28 + j]? = some (Cond.eq (.elem (.static RX1 "NAMED" "[I") (.int (Int32.ofNat j))) (.int (tab tabNl j))) := by decide +kernel
theorem ly_NAMED : Cond.laysStatic RX1 "NAMED" "[I" ∈ lw_tbl := List.mem_of_getElem? (i := 79) (by decide +kernel)
theorem sv_NAMED {s : State} {b : Nat} (hts : ∀ w ∈ lw_tbl, w.before #[Value.ref b] s = true) (hgv : (Jvm.Cond.and given_1 narrow_1).before #[Value.ref b] s = true) : ∃ t : Nat, va_Z RX1 "NAMED" "[I" (.ref t) (hA s.heap.size) s s.heap ∧ va_T .int t 18 (fun j => .int (tab tabNl j)) (hA s.heap.size) s s.heap := by
  have hs : ∀ w ∈ fl1, w.before #[Value.ref b] s = true := flat_of_before _ hgv
  have hAo : ∀ a : Nat, a < s.heap.size → ¬ hA s.heap.size a := fun a h => Nat.not_le.mpr h
  obtain ⟨t, ht, hT⟩ := va_Tof (tm := .static RX1 "NAMED" "[I") (ty := .int) (N := 18) (f := fun j => .int (tab tabNl j)) (A := hA s.heap.size) (by decide) (hs _ (List.mem_of_getElem? st_NAMED.1)) (va_eqt (hs _ (List.mem_of_getElem? st_NAMED.2.1))) (fun j hj => va_eqt (hs _ (List.mem_of_getElem? (st_NAMED.2.2 j hj)))) hAo
  exact ⟨t, va_Zref (hts _ ly_NAMED) (hts _ (List.mem_filter.mp q_in_1).1) ht hAo, hT⟩
theorem st_WAY_ACTS : fl1[266]? = some (Cond.arrayOf (.static RX1 "WAY_ACTS" "[I") .int) ∧ fl1[267]? = some (Cond.eq (.length (.static RX1 "WAY_ACTS" "[I")) (.int 7)) ∧ ∀ j, j < 7 → fl1[268 + j]? = some (Cond.eq (.elem (.static RX1 "WAY_ACTS" "[I") (.int (Int32.ofNat j))) (.int (tab tabWl j))) := by decide +kernel
theorem ly_WAY_ACTS : Cond.laysStatic RX1 "WAY_ACTS" "[I" ∈ lw_tbl := List.mem_of_getElem? (i := 253) (by decide +kernel)
theorem sv_WAY_ACTS {s : State} {b : Nat} (hts : ∀ w ∈ lw_tbl, w.before #[Value.ref b] s = true) (hgv : (Jvm.Cond.and given_1 narrow_1).before #[Value.ref b] s = true) : ∃ t : Nat, va_Z RX1 "WAY_ACTS" "[I" (.ref t) (hA s.heap.size) s s.heap ∧ va_T .int t 7 (fun j => .int (tab tabWl j)) (hA s.heap.size) s s.heap := by
  have hs : ∀ w ∈ fl1, w.before #[Value.ref b] s = true := flat_of_before _ hgv
  have hAo : ∀ a : Nat, a < s.heap.size → ¬ hA s.heap.size a := fun a h => Nat.not_le.mpr h
  obtain ⟨t, ht, hT⟩ := va_Tof (tm := .static RX1 "WAY_ACTS" "[I") (ty := .int) (N := 7) (f := fun j => .int (tab tabWl j)) (A := hA s.heap.size) (by decide) (hs _ (List.mem_of_getElem? st_WAY_ACTS.1)) (va_eqt (hs _ (List.mem_of_getElem? st_WAY_ACTS.2.1))) (fun j hj => va_eqt (hs _ (List.mem_of_getElem? (st_WAY_ACTS.2.2 j hj)))) hAo
  exact ⟨t, va_Zref (hts _ ly_WAY_ACTS) (hts _ (List.mem_filter.mp q_in_1).1) ht hAo, hT⟩
theorem st_BODIES : fl1[47]? = some (Cond.arrayOf (.static RX1 "BODIES" "[I") .int) ∧ fl1[48]? = some (Cond.eq (.length (.static RX1 "BODIES" "[I")) (.int 216)) ∧ ∀ j, j < 216 → fl1[49 + j]? = some (Cond.eq (.elem (.static RX1 "BODIES" "[I") (.int (Int32.ofNat j))) (.int (tab tabBl j))) := by decide +kernel
theorem ly_BODIES : Cond.laysStatic RX1 "BODIES" "[I" ∈ lw_tbl := List.mem_of_getElem? (i := 96) (by decide +kernel)
theorem sv_BODIES {s : State} {b : Nat} (hts : ∀ w ∈ lw_tbl, w.before #[Value.ref b] s = true) (hgv : (Jvm.Cond.and given_1 narrow_1).before #[Value.ref b] s = true) : ∃ t : Nat, va_Z RX1 "BODIES" "[I" (.ref t) (hA s.heap.size) s s.heap ∧ va_T .int t 216 (fun j => .int (tab tabBl j)) (hA s.heap.size) s s.heap := by
  have hs : ∀ w ∈ fl1, w.before #[Value.ref b] s = true := flat_of_before _ hgv
  have hAo : ∀ a : Nat, a < s.heap.size → ¬ hA s.heap.size a := fun a h => Nat.not_le.mpr h
  obtain ⟨t, ht, hT⟩ := va_Tof (tm := .static RX1 "BODIES" "[I") (ty := .int) (N := 216) (f := fun j => .int (tab tabBl j)) (A := hA s.heap.size) (by decide) (hs _ (List.mem_of_getElem? st_BODIES.1)) (va_eqt (hs _ (List.mem_of_getElem? st_BODIES.2.1))) (fun j hj => va_eqt (hs _ (List.mem_of_getElem? (st_BODIES.2.2 j hj)))) hAo
  exact ⟨t, va_Zref (hts _ ly_BODIES) (hts _ (List.mem_filter.mp q_in_1).1) ht hAo, hT⟩
theorem ao_D : Cond.arrayOver (.object RX0) ∈ lw_tbl := List.mem_of_getElem? (i := 129) (by decide +kernel)
theorem law_gE {s : State} {b : Nat} (hts : ∀ w ∈ lw_tbl, w.before #[Value.ref b] s = true) (hgv : (Jvm.Cond.and given_1 narrow_1).before #[Value.ref b] s = true) : ∃ G : hG, G.2.2.2 = s.heap.size ∧ gE G s := by
  have hw0 : ∀ w ∈ WS, w.before #[Value.ref b] s = true := fun w h => hts w (List.mem_filter.mp h).1
  obtain ⟨c0, i0, k0⟩ := u_known (C := RX0) (T := TX0) (N := 13) (n := 13) hw0 inX0 (hw0 _ q_ia_0)
  obtain ⟨c1, i1, k1⟩ := u_known (C := RX1) (T := TX1) (N := 2) (n := 2) hw0 inX1 (hw0 _ q_ia_1)
  obtain ⟨c2, i2, k2⟩ := u_known (C := RX2) (T := TX2) (N := 2) (n := 2) hw0 inX2 (hw0 _ q_ia_2)
  obtain ⟨c3, i3, k3⟩ := u_known (C := RX3) (T := TX3) (N := 2) (n := 2) hw0 inX3 (hw0 _ q_ia_3)
  obtain ⟨c4, i4, k4⟩ := u_known (C := RX4) (T := TX4) (N := 9) (n := 9) hw0 inX4 (hw0 _ q_ia_4)
  obtain ⟨c5, i5, k5⟩ := u_known (C := RX5) (T := TX5) (N := 28) (n := 28) hw0 inX5 (hw0 _ q_ia_5)
  obtain ⟨D, hD⟩ : ∃ D : va_G, ∀ (k : Nat) (q : vw_C), vwCl[k]? = some q → u_Kn s q.1 q.2.1 q.2.2 (D.1 k) (D.2 k) := by
    refine ⟨(fun k => if k = 0 then c0 else if k = 1 then c1 else if k = 2 then c2 else if k = 3 then c3 else if k = 4 then c4 else c5, fun k => if k = 0 then i0 else if k = 1 then i1 else if k = 2 then i2 else if k = 3 then i3 else if k = 4 then i4 else i5), ?_⟩
    intro k q hq
    match k, hq with
    | 0, hq => cases hq; exact k0
    | 1, hq => cases hq; exact k1
    | 2, hq => cases hq; exact k2
    | 3, hq => cases hq; exact k3
    | 4, hq => cases hq; exact k4
    | 5, hq => cases hq; exact k5
    | k + 6, hq => simp [vwCl] at hq
  obtain ⟨cI, kI, pI, hI1, hI2, hI3⟩ := Cond.arrayClass_spec (type := .int) (hw0 _ q_ac_int)
  obtain ⟨cZ, kZ, pZ, hZ1, hZ2, hZ3⟩ := Cond.arrayClass_spec (type := .boolean) (hw0 _ q_ac_boolean)
  obtain ⟨pO, cO, kO, hO1, hO2, hO3, hO4, hO5⟩ := Cond.arrayOver_spec (n := RX0) (hts _ ao_D)
  obtain ⟨tP, zP, vP⟩ := sv_PARENTS hts hgv
  obtain ⟨tN, zN, vN⟩ := sv_NAMED hts hgv
  obtain ⟨tW, zW, vW⟩ := sv_WAY_ACTS hts hgv
  obtain ⟨tB, zB, vB⟩ := sv_BODIES hts hgv
  refine ⟨(D, (cI, cZ, cO), (tP, tN, tW, tB), s.heap.size), rfl, ⟨hD, ?_⟩, fun w hw => va_Nw.of (hNb_tab (hN_b w hw)) (hts w (hN_tbl w hw)), va_AO.of (hts _ ao_D), ⟨zP, vP⟩, ⟨zN, vN⟩, ⟨zW, vW⟩, zB, vB⟩
  intro k q hq
  match k, hq with
  | 0, hq => cases hq; exact ⟨fun n z => ⟨(fun k h => by cases h), kI, hI2, pI, hI3⟩, hI1⟩
  | 1, hq => cases hq; exact ⟨fun n z => ⟨(fun k h => by cases h), kZ, hZ2, pZ, hZ3⟩, hZ1⟩
  | 2, hq => cases hq; exact ⟨fun n z => ⟨(fun k h => by cases h), kO, hO3, pO, hO4⟩, kO, pO, hO3, hO4, hO1, hO5⟩
  | k + 3, hq => simp at hq
def offI : List Nat := [0, 1, 4, 5, 2, 3, 6, 7, 8, 0, 9, 10, 11, 12, 13, 14, 15, 16, 17, 18, 19, 20, 0, 21, 22, 0, 23, 24, 25, 26, 0, 0, 27, 28, 29, 30]
def adI (z k : Nat) : Nat := z + offI.getD k 0
set_option maxRecDepth 100000 in
set_option maxHeartbeats 4000000 in
/-- THE LAW, from its entry -/
theorem whole_start {p : Program} {e : Env} {s : State} {m : MethodId} {below : List Frame} {meth : Method} {c : Code} (l : Launch) (hflags : l.flags = flags0) {b L : Nat} {xs : Nat → Int32} (hL : L ≤ 320) (C0 : lw_At p s m meth c b L xs) : W p l e room_1 s m #[Value.ref b] below meth c s.heap [] 0 0 (lw_Z below #[Value.ref b] s) (entryFrame m ([Value.ref b] : List Value).toArray 4) := by
  obtain ⟨hx, hb, hr, hml, hown, hts0, hX, hbl, hlocks, hgv⟩ := id C0
  obtain ⟨G, hGz, hE⟩ := law_gE hts0 hgv
  have S : CallFix p m c cL_law 4 s [Value.ref b].toArray WS RL := ⟨hx, hb, hml, hown, fun w h => hts0 w (List.mem_filter.mp h).1⟩
  have hts := S.2.2.2.2
  have hbA : ¬ hA G.2.2.2 b := by rw [hGz]; exact Nat.not_le.mpr hbl
  have hS : va_S (hA G.2.2.2) s.heap s.heap [] := va_S.rf
  have hl := lv_entry ([.ref b]) (n := 4) (Nat.le_of_ble_eq_true rfl)
  rw [lg_entry_eq]
  generalize (lg_sl ([.ref b]) ++ List.replicate (4 - (lg_sl ([.ref b])).length) Slot.unset).toArray = ls at hl ⊢
  have hl : lv_has ls 4 [(0, .ref b)] := hl
  obtain ⟨ad, had0, had1, had4, had5, had2, had3, had6, had7, had8, had10, had11, had12, had13, had14, had15, had16, had17, had18, had19, had20, had21, had23, had24, had26, had27, had28, had29, had32, had33, had34, had35⟩ : ∃ ad : Nat → Nat, ad 0 = s.heap.size ∧ ad 1 = s.heap.size + 1 ∧ ad 4 = s.heap.size + 1 + 1 ∧ ad 5 = s.heap.size + 1 + 1 + 1 ∧ ad 2 = s.heap.size + 1 + 1 + 2 ∧ ad 3 = s.heap.size + 1 + 1 + 2 + 1 ∧ ad 6 = s.heap.size + 1 + 1 + 2 + 1 + 1 ∧ ad 7 = s.heap.size + 1 + 1 + 2 + 1 + 1 + 1 ∧ ad 8 = s.heap.size + 1 + 7 ∧ ad 10 = s.heap.size + 1 + 7 + 1 + 0 ∧ ad 11 = s.heap.size + 1 + 7 + 1 + 1 ∧ ad 12 = s.heap.size + 1 + 7 + 1 + 2 ∧ ad 13 = s.heap.size + 1 + 7 + 1 + 3 ∧ ad 14 = s.heap.size + 1 + 7 + 1 + 4 ∧ ad 15 = s.heap.size + 1 + 7 + 1 + 5 ∧ ad 16 = s.heap.size + 1 + 7 + 1 + 6 ∧ ad 17 = s.heap.size + 1 + 7 + 1 + 7 ∧ ad 18 = s.heap.size + 1 + 7 + 1 + 8 ∧ ad 19 = s.heap.size + 1 + 7 + 1 + 9 ∧ ad 20 = s.heap.size + 1 + 7 + 1 + 10 ∧ ad 21 = s.heap.size + 1 + 7 + 1 + 11 ∧ ad 23 = s.heap.size + 1 + 7 + 1 + 12 ∧ ad 24 = s.heap.size + 1 + 7 + 1 + 13 ∧ ad 26 = s.heap.size + 1 + 7 + 1 + 14 ∧ ad 27 = s.heap.size + 1 + 7 + 1 + 15 ∧ ad 28 = s.heap.size + 1 + 7 + 1 + 16 ∧ ad 29 = s.heap.size + 1 + 7 + 1 + 17 ∧ ad 32 = s.heap.size + 1 + 7 + 1 + 18 ∧ ad 33 = s.heap.size + 1 + 7 + 1 + 19 ∧ ad 34 = s.heap.size + 1 + 7 + 1 + 20 ∧ ad 35 = s.heap.size + 1 + 7 + 1 + 21 := ⟨adI s.heap.size, rfl, rfl, rfl, rfl, rfl, rfl, rfl, rfl, rfl, rfl, rfl, rfl, rfl, rfl, rfl, rfl, rfl, rfl, rfl, rfl, rfl, rfl, rfl, rfl, rfl, rfl, rfl, rfl, rfl, rfl, rfl⟩
  have hW : hw G ad (fun _ => none) s.heap := ⟨(fun k e h => by cases h), (fun j k e f h => by cases h)⟩
  refine hr_new S hE hW hS 0 had0 (Nat.le_of_eq hGz) inX4 (ci := 4) (C := RX4) (T := TX4) (N := 9) tyX4_ok rfl q_cl_L_7 q_ia_4 q_in_4 (fs := [.null, .null, .null, .null, .int 0, .int 0, .int 0, .int 0, .int 0]) (fun j hj => by rcases (show j = 0 ∨ j = 1 ∨ j = 2 ∨ j = 3 ∨ j = 4 ∨ j = 5 ∨ j = 6 ∨ j = 7 ∨ j = 8 by omega) with rfl | rfl | rfl | rfl | rfl | rfl | rfl | rfl | rfl <;> rfl) (Nat.le_of_ble_eq_true rfl) (Nat.le_of_ble_eq_true rfl) dL_law_0 (fun H ct_1 hW hk_2 hg_3 hsz hS => ?_)
  refine lv_dup hx hb dL_law_3 rfl ?_
  refine hc_zv (va_runI (As := []) (rest := [.ref (ad 0)]) S (c_X4_init l G ad _ hk_2 had1 had4 had5 had2 had3 had6 had7) (cwI 0 hts (gWS q_co_X4_init) rfl rfl rfl (hts _ q_in_4) (hts _ q_l_L_9) (hts _ q_im_X4_init) rfl (by decide +kernel) ⟨Nat.le_of_ble_eq_true rfl, Nat.le_of_ble_eq_true rfl⟩) (hPreSz hE hS hW hsz) rfl rfl hl.1 rfl (lv_room (Nat.le_of_ble_eq_true rfl)) dL_law_4 ⟨Nat.le_of_ble_eq_true rfl, Nat.le_of_ble_eq_true rfl⟩) hS (fun ct_c H locs hp hW hsz hS => ?_)
  obtain ⟨hC, hgc⟩ := hp
  refine lv_astore_n (lv' := [(1, .ref (ad 0)), (0, .ref b)]) hx hb dL_law_7 rfl hl (by decide) rfl (fun ls hl => ?_)
  refine hr_new S hE hW hS 8 (had8.trans hsz.symm) (hw_z hW hC.1) inX5 (ci := 5) (C := RX5) (T := TX5) (N := 28) tyX5_ok rfl q_cl_L_10 q_ia_5 q_in_5 (fs := [.null, .null, .null, .null, .null, .null, .null, .null, .null, .null, .null, .null, .int 0, .null, .null, .int 0, .null, .null, .null, .null, .int 0, .int 0, .null, .null, .null, .null, .int 0, .int 0]) (fun j hj => by rcases (show j = 0 ∨ j = 1 ∨ j = 2 ∨ j = 3 ∨ j = 4 ∨ j = 5 ∨ j = 6 ∨ j = 7 ∨ j = 8 ∨ j = 9 ∨ j = 10 ∨ j = 11 ∨ j = 12 ∨ j = 13 ∨ j = 14 ∨ j = 15 ∨ j = 16 ∨ j = 17 ∨ j = 18 ∨ j = 19 ∨ j = 20 ∨ j = 21 ∨ j = 22 ∨ j = 23 ∨ j = 24 ∨ j = 25 ∨ j = 26 ∨ j = 27 by omega) with rfl | rfl | rfl | rfl | rfl | rfl | rfl | rfl | rfl | rfl | rfl | rfl | rfl | rfl | rfl | rfl | rfl | rfl | rfl | rfl | rfl | rfl | rfl | rfl | rfl | rfl | rfl | rfl <;> rfl) (Nat.le_of_ble_eq_true rfl) (Nat.le_of_ble_eq_true rfl) dL_law_8 (fun H ct_1 hW hk_2 hg_3 hz hS => ?_)
  have hsz := hz.trans (congrArg (· + 1) hsz)
  have h_4 := (hg_3 0 (by decide)).trans hC.1
  have h_5 : ct_1 8 = some (.inr (5, [.null, .null, .null, .null, .null, .null, .null, .null, .null, .null, .null, .null, .int 0, .null, .null, .int 0, .null, .null, .null, .null, .int 0, .int 0, .null, .null, .null, .null, .int 0, .int 0])) := hk_2
  refine lv_dup hx hb dL_law_11 rfl ?_
  refine hc_v (va_runI (As := []) (rest := [.ref (ad 8)]) S (c_X5_init l G ad _ h_5 had10 had11 had12 had13 had14 had15 had16 had17 had18 had19 had20 had21 had23 had24 had26 had27 had28 had29 had32 had33 had34 had35) (cwI 0 hts (gWS q_co_X5_init) rfl rfl rfl (hts _ q_in_5) (hts _ q_l_L_12) (hts _ q_im_X5_init) rfl (by decide +kernel) ⟨Nat.le_of_ble_eq_true rfl, Nat.le_of_ble_eq_true rfl⟩) (hPreSz hE hS hW hsz) rfl rfl hl.1 rfl (lv_room (Nat.le_of_ble_eq_true rfl)) dL_law_12 ⟨Nat.le_of_ble_eq_true rfl, Nat.le_of_ble_eq_true rfl⟩) hS (fun ct_m H locs hp hW hS => ?_)
  obtain ⟨hM, hag⟩ := hp
  have hJ : JI G ad ct_m 0 0 (fun _ => 0) (fun _ => 0, fun _ => 0, 0, fun _ => 0) (fun _ => 0, fun _ => 0, fun _ => 0) (0, fun _ => 0, fun _ => 0) (fun _ => none, 0, 0) 0 := ⟨RC_ty (RC_tr hC (hag.trans (fun j hj => hg_3 j (by omega)))) (fun i hi => absurd hi (Nat.not_lt_zero i)), hM, fun i _ => ⟨rfl, rfl⟩, ⟨0, rfl, Nat.le_refl _, fun d => ⟨0, Nat.le_refl _, rfl⟩⟩, Nat.le_refl _⟩
  refine lv_astore_n (lv' := [(2, .ref (ad 8)), (1, .ref (ad 0)), (0, .ref b)]) hx hb dL_law_15 rfl hl (by decide) rfl (fun ls hl => ?_)
  refine lv_iconst (v := 0) hx hb dL_law_16 (by decide) ?_
  refine lv_istore_n (lv' := [(3, .int 0), (2, .ref (ad 8)), (1, .ref (ad 0)), (0, .ref b)]) hx hb dL_law_17 rfl hl (by decide) rfl (fun ls hl => ?_)
  exact law_loop hL S hr hlocks hE hX hbl hbA (Nat.le_of_eq hGz.symm) 65 0 ad _ 0 _ _ _ _ _ _ _ _ _ (by omega) hJ hW hS (lv_sub hl [0, 3, 2, 1] rfl)
-- ===== YOUR PART ENDS =====
set_option maxHeartbeats 4000000 in
theorem lw_walk (l : Launch) (hflags : l.flags = flags0) (b : Addr) (xs : List Int32) : MetFree l x (headSpec (Jvm.Cond.code x code maxLocals ret :: tables_1) room_1) (lw_P b xs) (fun _ _ _ _ _ => True) lw_Q := by
  refine MetFree.of_bodyS (code := code) (maxLocals := maxLocals) (ret := ret) (by decide) ?_ ?_
  · intro args s m h hn
    obtain ⟨meth, c, h1, h2, h3, h4, h5, h6, -, -⟩ := Cond.code_spec hn (atoms_spec (ws := Jvm.Cond.code x code maxLocals ret :: tables_1) h _ List.mem_cons_self)
    exact ⟨meth, c, h1, h2, h3, h4, h5, h6⟩
  · intro p e s m args below meth c s₁ B hml0 hP _
    obtain ⟨rfl, hx, hbd, hgv⟩ := hP
    obtain ⟨scr, harrAt, hlist, hof, hsmall⟩ := hx
    obtain ⟨hcb, hkn, -, -⟩ := State.arrayAt?_spec harrAt
    have hown : s.vm.findClass R_law = some m.cls := findClass_of_methodNamed B.named
    have hts0 : ∀ c ∈ (Jvm.Cond.code x code maxLocals ret :: tables_1), c.before #[Value.ref b] s = true := atoms_spec (ws := Jvm.Cond.code x code maxLocals ret :: tables_1) B.pre
    have hts : ∀ w ∈ lw_tbl, w.before #[Value.ref b] s = true := k2_hts_sels lw_privs (fun w hw => hts0 w (List.mem_cons_of_mem _ hw)) lw_privs_ok
    have hml : c.maxLocals = 4 := B.maxLocals_eq (hts0 _ List.mem_cons_self)
    have X₀ : Stand p l e room_1 s m #[Value.ref b] below meth c s₁ [] 0 0 := Stand.of_body B
    have hh0 : s₁.heap = s.heap := by rw [B.state]; rfl
    have hsz : scr.slots.size = xs.length := by rw [← Array.length_toList, hlist, List.length_map]
    have hval : ∀ j : Nat, j < xs.length → scr.slots[j]? = some (.int (xs.getD j 0)) := fun j hj => by
      rw [← Array.getElem?_toList, hlist]
      simp [hj]
    have hbl : b < s.heap.size := (Array.getElem?_eq_some_iff.mp hcb).1
    have hX : va_X b xs.length (fun j => xs.getD j 0) s s.heap := ⟨scr, hcb, hof, hkn, hsz, hval⟩
    have K : W p l e room_1 s m #[Value.ref b] below meth c s₁.heap [] 0 0 (lw_Z below #[Value.ref b] s) (entryFrame m ([Value.ref b] : List Value).toArray 4) := by
      rw [hh0]
      exact whole_start l hflags hbd ⟨B.exec, B.bytes, B.returns, hml, hown, hts, hX, hbl, B.notSynchronized, hgv⟩
    obtain ⟨t, a1, o, b1, b2, b3⟩ := K s₁ rfl X₀
    exact ⟨t, o, a1, b1, b2, b3⟩
theorem lw_pre_spec {args : Array Value} {s : State} (h : (Jvm.Cond.and given_1 narrow_1).before args s = true) (hr : rest_1_c.before args s = true) : ∃ (b : Addr) (xs : List Int32), lw_P b xs args s := by
  have hs := flat_of_before _ h
  have hq := flat_of_before _ hr
  have hc : (Cond.count 1).before args s = true := hs _ (by decide +kernel)
  have harr : (Cond.arrayOf (.arg 0) .int).before args s = true := hs _ (by decide +kernel)
  have hle : (Cond.le (.length (.arg 0)) (.int 320)).before args s = true := hs _ (by decide +kernel)
  have hlen : (Cond.isInt (.length (.arg 0))).before args s = true := hq _ (by decide +kernel)
  have hall : (Cond.all (.arg 0) (.isInt (.elem (.arg 0) (.index 0)))).before args s = true := hq _ (by decide +kernel)
  obtain ⟨b, xs, hb, hx⟩ := State.ints_of_pre rfl harr hlen hall
  have hsm : xs.length < 2 ^ 31 := hx.choose_spec.2.2.2
  have hev : (Term.length (.arg 0)).eval args s none [] s = some (.int xs.length.toInt32) := hx.length_eval hb
  have hv := Cond.le_ints hev (show (Term.int 320).eval args s none [] s = some (.int 320) from rfl)
  have hd : xs.length.toInt32 ≤ 320 := by
    simpa [Cond.before, Cond.holds, hv] using hle
  have hN : xs.length ≤ 320 := (Int32.ofNat_le_ofNat hsm (by decide)).mp (show Int32.ofNat xs.length ≤ Int32.ofNat 320 from hd)
  exact ⟨b, xs, Cond.one_arg hc (show args[0]? = some (.ref b) from hb), hx, hN, h⟩
theorem lw_comes (l : Launch) (hflags : l.flags = flags0) : Comes l x (Jvm.Cond.code x code maxLocals ret :: tables_1) room_1 (fun tb e args s => Calls_1 tb e args s ∧ rest_1 tb e args s ∧ Pre_1 tb e args s)
    (fun _ _ args s o t => lw_Q args s o t) := by
  intro p e ha hc hk s m args below hf hfit hheap happ hpre
  obtain ⟨b, xs, hP⟩ := lw_pre_spec hpre.2.2 hpre.2.1
  obtain ⟨k, o, h1, h2, h3, hQ⟩ := lw_walk l hflags b xs p e ha hc hk s m args below hf ((Spec.applies_iff_loose hf).mp happ).1 hP trivial
  exact ⟨k, o, h1, h2, h3, hQ⟩
theorem lw_frame {s t : State} {o : Outcome} {args : Array Value} (h : Framed s o t [] 600000 7302250) :
    Framed s o t (fieldLocs frame_1_writes args s ++ arrayLocs frame_1_arrays args s ++ staticLocs frame_1_statics s) 600000 7302250 := h
theorem lw_limb (L : Cond) (hL : ∀ (args : Array Value) (s t : State), L.after args s (.returned (some (.int 1))) t = true) :
    ArmFor flags0 classFile x code maxLocals ret World_1 tables_1 room_1 Calls_1 rest_1 Pre_1
      (fun tb e a s o t => postC L tb e a s o t ∧ Framed s o t (fieldLocs frame_1_writes a s ++ arrayLocs frame_1_arrays a s ++ staticLocs frame_1_statics s) 600000 7302250) := by
  intro l hflags _ _ p e ha hc hk s m args below hf hfit hheap happ hpre
  obtain ⟨k, o, h1, h2, h3, rfl, hF⟩ := lw_comes l hflags p e ha hc hk s m args below hf hfit hheap happ hpre
  exact ⟨k, _, h1, h2, h3, hL args s _, lw_frame hF⟩
theorem i_vc : Claimed_1_1 ∧ Claimed_1_2 := ⟨lw_limb limb_1_1 (fun args s t => by simp [limb_1_1, Cond.after, Cond.holds, Cond.value]), lw_limb limb_1_2 (fun args s t => Cond.after_iff.mpr (by
  first | (rw [show limb_1_2 = Cond.eq .result (.int 1) from rfl, Cond.eq_ints (x := 1) (y := 1) rfl rfl]; simp; done) | (simp [limb_1_2, Cond.value, Term.eval]; done)))⟩
