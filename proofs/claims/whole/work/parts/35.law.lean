/-! THE LAW (begun with the skeleton of the claim) -/
def R_law : String := "LineOfHeirsLaw"
def lw_P (b : Addr) (xs : List Int32) (args : Array Value) (s : State) : Prop := args = #[.ref b] ∧ s.IntsAt b xs ∧ xs.length ≤ 320 ∧ (Jvm.Cond.and given_1 narrow_1).before args s = true
def lw_Q (_ : Array Value) (s : State) (o : Outcome) (t : State) : Prop := o = .returned (some (.int 1)) ∧ Framed s o t [] 600000 7302250
def lw_Z (below : List Frame) (a : Array Value) (s : State) : State → Prop := fun t => ∃ o, t.status = .running ∧ Ended t below o ∧ lw_Q a s o t
/-- the law's own end, with 1 on the stack, nothing written that was there before, its room as the claim has it -/
theorem lw_ret {p : Program} {l : Launch} {e : Env} {s : State} {m : MethodId} {below : List Frame} {meth : Method} {c : Code} {b : Nat} (hx : p.tables.exec = Jvm.exec) (hb : c.code = code) (hr : meth.sig.returnType = ret) (hlocks : meth.locks = false) {pc : Nat} {H : Heap} {ls : Array Slot} (hdg : decode code pc = .ok (.ireturn, 1)) : W p l e room_1 s m #[Value.ref b] below meth c H [] 600000 7302250 (lw_Z below #[Value.ref b] s) (F0 m pc ls [.int 1]) := by
  intro T hT X
  obtain ⟨fs, hret, hrun, hended, hW, hframe⟩ := X.leave (v := some (.int 1)) (hlocks := hlocks) (fun h => by rw [hr] at h; cases h)
  have hmeth' : T.vm.method? m = some meth := X.method'
  refine ⟨T.setFrames fs, ?_, .returned (some (.int 1)), hrun, hended, rfl, ⟨_, rfl⟩, hW, hframe⟩
  jvm_step X.here [X.here.top, hx, hb, hdg, hmeth', hr, ret, narrow_b1]
  (try refine ⟨rfl, ?_⟩); (try refine ⟨rfl, ?_⟩)
  first | (intro acts; rw [hret _ acts rfl rfl rfl]) | rw [hret _ _ rfl rfl rfl]
  exact Steps.refl _
/-- what holds at the law's entry: the machine, the code, the tables' words (any of lw_tbl by 'hts w (by decide +kernel)'), the script of L ints xs at the cell b, what the Statement gives of the start (any of its parts by flat_of_before) -/
def lw_At (p : Program) (s : State) (m : MethodId) (meth : Method) (c : Code) (b L : Nat) (xs : Nat → Int32) : Prop :=
  p.tables.exec = Jvm.exec ∧ c.code = code ∧ meth.sig.returnType = ret ∧ c.maxLocals = 4 ∧ s.vm.findClass R_law = some m.cls ∧ (∀ w ∈ lw_tbl, w.before #[Value.ref b] s = true) ∧ va_X b L xs s s.heap ∧ b < s.heap.size ∧ meth.locks = false ∧ (Jvm.Cond.and given_1 narrow_1).before #[Value.ref b] s = true
theorem fitC {k a : Nat} (hk : k ≤ 65) (ha : a ≤ 1) : 31 + k + a ≤ room_1.cells := by show 31 + k + a ≤ 600000; omega
theorem fitS {k a : Nat} (hk : k ≤ 65) (ha : a ≤ 13) : 5523 + 13 * k + a ≤ room_1.slots := by show 5523 + 13 * k + a ≤ 7302250; omega
section LWL
variable {p : Program} {l : Launch} {e : Env} {R : Room} {s : State} {m : MethodId} {args : Array Value} {below : List Frame} {meth : Method} {c : Code} {H : Heap} {locs : List Loc} {cells slots : Nat} {Q : State → Prop}
variable {cc : ByteArray} {pc : Nat} {ls : Array Slot} {rest : List Value} {G : hG}
theorem lw_ld (hexec : p.tables.exec = Jvm.exec) (hb : c.code = cc) {b Ln : Nat} {xs : Nat → Int32} (hX : va_X b Ln xs s s.heap) (hbl : b < s.heap.size) (hbA : ¬ hA G.2.2.2 b) (hS : va_S (hA G.2.2.2) s.heap H locs) {j : Nat} (hj : j < Ln) (hL : Ln ≤ 320) (hdg : decode cc pc = .ok (.iaload, 1))
    (kk : W p l e R s m args below meth c H locs cells slots Q (F0 m (pc + 1) ls (.int (xs j) :: rest))) : W p l e R s m args below meth c H locs cells slots Q (F0 m pc ls (.int (nI j) :: .ref b :: rest)) := by
  refine va_sld hexec hb hX hbl hbA hS (vp_in_nI hj (by omega)) hdg ?_
  rw [nI_clamp (by omega)]
  exact kk
end LWL
theorem hp_dev {K : KS} {T : TS} {B n : Nat} (h : ∃ pp, K.2.2 = nI pp ∧ pp ≤ B ∧ ∀ d, ∃ q, q ≤ pp ∧ T.2.1 d = nI q) : ∃ pp, K.2.2 = nI pp ∧ pp ≤ B + 1 ∧ ∀ d, ∃ q, q ≤ pp ∧ ((upd T.1 n 0, upd T.2.1 n 0, upd T.2.2 n 0) : TS).2.1 d = nI q := by
  obtain ⟨pp, d, e, f⟩ := h
  refine ⟨pp, d, by omega, fun x => ?_⟩
  show ∃ q, q ≤ pp ∧ upd T.2.1 n 0 x = nI q
  by_cases q : x = n
  · rw [q, pk_us]; exact ⟨0, Nat.zero_le _, rfl⟩
  · rw [pk_un q]; exact f x
theorem pl_new {K : KS} {T : TS} {B n pp : Nat} (hpp : K.2.2 = nI pp) (hB : pp ≤ B) (hB2 : B ≤ 65) (f : ∀ d, ∃ q, q ≤ pp ∧ T.2.1 d = nI q) : ∀ d, d < n → ¬ T.2.1 d = K.2.2 + 1 := by
  intro d _ h
  obtain ⟨q, hq, e⟩ := f d
  rw [e, hpp, nI_1] at h
  have := nI_eqN (by omega) (by omega) h
  omega
theorem pz_new {ks : Nat → Nat} {K : KS} {T : TS} {A : AS} {L : LS4} {n pp i : Nat} {x : Int32} (hpp : K.2.2 = nI pp) (hft : ∀ j, j < L.1 → L.2.1 j < n ∧ L.2.2 j < n) (hi : i < n) (hz : ∀ i, n ≤ i → A.2.1 i = 0 ∧ T.1 i = 0) (f : ∀ d, ∃ q, q ≤ pp ∧ T.2.1 d = nI q) : PZ n (pp + 1) (psR (tyM ks) (K.2.2 + 1) n L i x A T) := by
  rw [hpp, nI_1]
  exact PZ_R hft hi hz (fun d => by obtain ⟨q, a, b⟩ := f d; exact ⟨q, by omega, b⟩)
theorem stateR_z (ty : Nat → Int32) (A : AS) (T : TS) (L : LS4) (i : Nat) (w : Int32) : stateR ty A (zTS T.1) L i w = stateR ty A T L i w := rfl
set_option maxRecDepth 100000 in
set_option maxHeartbeats 16000000 in
theorem law_loop {p : Program} {l : Launch} {e : Env} {s : State} {m : MethodId} {below : List Frame} {meth : Method} {c : Code} {b Ln : Nat} {xs : Nat → Int32} (hL : Ln ≤ 320) {G : hG} (S : CallFix p m c cL_law 4 s [Value.ref b].toArray WS RL) (hr : meth.sig.returnType = ret) (hlocks : meth.locks = false) (hE : gE G s) (hX : va_X b Ln xs s s.heap) (hbl : b < s.heap.size) (hbA : ¬ hA G.2.2.2 b) (hGz : s.heap.size ≤ G.2.2.2) : ∀ (rem k : Nat) (ad : Nat → Nat) (ct : Nat → Option va_E) (n : Nat) (ks : Nat → Nat) (A : AS) (T : TS) (L : LS4) (K : KS) (st : Int32) (H : Heap) (locs : List Loc) (ls : Array Slot), k + rem = 65 → JI G ad ct k n ks A T L K st → hw G ad ct H → va_S (hA G.2.2.2) s.heap H locs → lv_has ls 4 [(3, .int (nI (5 * k))), (0, .ref b), (1, .ref (ad 0)), (2, .ref (ad 8))] → W p l e room_1 s m [Value.ref b].toArray below meth c H locs (31 + k) (5523 + 13 * k) (lw_Z below [Value.ref b].toArray s) (F0 m 18 ls []) := by
  obtain ⟨hx, hb, hml, hown, hts⟩ := id S
  intro rem
  induction rem with
  | zero =>
    intro k ad ct n ks A T L K st H locs ls hk hJ hW hS hl
    refine lv_iload_n hx hb dL_law_18 rfl (lv_at hl 0 rfl) ?_
    refine lv_aload_n hx hb dL_law_19 rfl (lv_at hl 1 rfl) ?_
    refine va_slen hx hb hX hbl hbA hS dL_law_20 ?_
    refine lv_iconst (v := 5) hx hb dL_law_21 (by decide) ?_
    refine lv_isub hx hb dL_law_22 ?_
    refine lv_icmp_gt (tgt := 468) hx hb dL_law_23 (by decide) (fun _ => ?_) (fun q => absurd (law_done (by omega) hL (by omega)) q)
    refine lv_iconst (v := 1) hx hb dL_law_468 (by decide) ?_
    refine W.widen (k := 600000) (n := 7302250) (by omega) (by omega) ?_
    refine va_forget (fun q hq => Nat.le_trans hGz (hS.2.2 q hq)) ?_
    exact lw_ret hx hb hr hlocks dL_law_469
  | succ rem ih =>
    intro k ad0 ct0 n ks A T L K st H locs ls hk hJ hW hS hl
    by_cases hmore : 5 * k + 5 ≤ Ln
    · obtain ⟨ad, ct, hJ, hW, e0, e8, en, el⟩ := JI_fresh hJ hW
      rw [← e0, ← e8] at hl
      clear e0 e8
      have hB := hJ.2.2.2.2
      have hn3 : n < 300 := by omega
      have hm4 : L.1 < 400 := by omega
      refine lv_iload_n hx hb dL_law_18 rfl (lv_at hl 0 rfl) ?_
      refine lv_aload_n hx hb dL_law_19 rfl (lv_at hl 1 rfl) ?_
      refine va_slen hx hb hX hbl hbA hS dL_law_20 ?_
      refine lv_iconst (v := 5) hx hb dL_law_21 (by decide) ?_
      refine lv_isub hx hb dL_law_22 ?_
      refine lv_icmp_gt (tgt := 468) hx hb dL_law_23 (by decide) (fun q => absurd q (law_more hmore hL)) (fun _ => ?_)
      refine lv_aload_n hx hb dL_law_26 rfl (lv_at hl 1 rfl) ?_
      refine lv_iload_n hx hb dL_law_27 rfl (lv_at hl 0 rfl) ?_
      refine lw_ld hx hb hX hbl hbA hS (j := 5 * k) (by omega) hL dL_law_28 ?_
      refine lv_bipush (v := 15) hx hb dL_law_29 (by decide) ?_
      refine lv_iand hx hb dL_law_31 ?_
      obtain ⟨cs, hcs, ecs⟩ := and15 (xs (5 * k))
      rw [ecs]
      clear ecs
      rcases (show cs = 0 ∨ cs = 1 ∨ cs = 2 ∨ cs = 3 ∨ cs = 4 ∨ cs = 5 ∨ cs = 6 ∨ cs = 7 ∨ cs = 8 ∨ cs = 9 ∨ cs = 10 ∨ cs = 11 ∨ cs = 12 ∨ cs = 13 ∨ cs = 14 ∨ cs = 15 by omega) with rfl | rfl | rfl | rfl | rfl | rfl | rfl | rfl | rfl | rfl | rfl | rfl | rfl | rfl | rfl | rfl
      · refine lv_tableIn (off := 64) (tgt := 96) hx hb dL_law_32 (by decide) (by decide) (by decide) (by decide) ?_
        have hsz : H.size = H.size := rfl
        rcases kd_cases (xs (5 * k + 1)) with ⟨kd, hkd, ekd⟩ | hkd
        · refine lv_aload_n hx hb dL_law_96 rfl (lv_at hl 2 rfl) ?_
          refine lv_aload_n hx hb dL_law_97 rfl (lv_at hl 1 rfl) ?_
          refine lv_iload_n hx hb dL_law_98 rfl (lv_at hl 0 rfl) ?_
          refine lv_iconst (v := 1) hx hb dL_law_99 (by decide) ?_
          refine lv_iadd hx hb dL_law_100 ?_
          rw [show nI (5 * k) + (1 : Int32) = nI (5 * k + 1) from nI_add _ 1]
          refine lw_ld hx hb hX hbl hbA hS (j := 5 * k + 1) (by omega) hL dL_law_101 ?_
          rw [ekd]
          refine lv_aload_n hx hb dL_law_102 rfl (lv_at hl 1 rfl) ?_
          refine lv_iload_n hx hb dL_law_103 rfl (lv_at hl 0 rfl) ?_
          refine lv_iconst (v := 2) hx hb dL_law_104 (by decide) ?_
          refine lv_iadd hx hb dL_law_105 ?_
          rw [show nI (5 * k) + (2 : Int32) = nI (5 * k + 2) from nI_add _ 2]
          refine lw_ld hx hb hX hbl hbA hS (j := 5 * k + 2) (by omega) hL dL_law_106 ?_
          refine hc_i (va_runV (As := [.int (nI kd), .int (xs (5 * k + 2))]) (rest := []) S (c_X4_device_ok l G ad _ hJ.1 hkd (xs (5 * k + 2)) hn3 en) (cwV 2 hts (gWSV q_l_L_13 q_im_X4_device q_se_X4_device q_in_4 q_co_X4_device) rfl rfl rfl (by decide +kernel) ⟨Nat.le_of_ble_eq_true rfl, Nat.le_of_ble_eq_true rfl⟩) (hPreVz hE hS (hrecv hE hW hJ.1.1 (q := (RX4, TX4, 9)) rfl) hW hsz) rfl rfl hl.1 rfl (lv_room (Nat.le_of_ble_eq_true rfl)) dL_law_107 ⟨fitC (k := k) (a := 1) (by omega) (by omega), fitS (k := k) (a := 13) (by omega) (by omega)⟩) hS (fun rv_c ct_c H locs hp hW hS => ?_)
          obtain ⟨ev_c, hC⟩ := hp
          rw [tyM_up] at hC
          rw [ev_c]
          have hM0 := RM_tr hJ.2.1 (RC_fr hC)
          obtain ⟨⟨_, _, _, _, _, _, g8, _⟩, _⟩ := id hM0
          refine W.widen (k := 31 + (k + 1)) (n := 5523 + 13 * (k + 1)) (by omega) (by omega) ?_
          refine lv_aload_n hx hb dL_law_110 rfl (lv_at hl 3 rfl) ?_
          refine lv_aload_n hx hb dL_law_111 rfl (lv_at hl 1 rfl) ?_
          refine lv_iload_n hx hb dL_law_112 rfl (lv_at hl 0 rfl) ?_
          refine lv_iconst (v := 1) hx hb dL_law_113 (by decide) ?_
          refine lv_iadd hx hb dL_law_114 ?_
          rw [show nI (5 * k) + (1 : Int32) = nI (5 * k + 1) from nI_add _ 1]
          refine lw_ld hx hb hX hbl hbA hS (j := 5 * k + 1) (by omega) hL dL_law_115 ?_
          rw [ekd]
          refine lv_aload_n hx hb dL_law_116 rfl (lv_at hl 1 rfl) ?_
          refine lv_iload_n hx hb dL_law_117 rfl (lv_at hl 0 rfl) ?_
          refine lv_iconst (v := 2) hx hb dL_law_118 (by decide) ?_
          refine lv_iadd hx hb dL_law_119 ?_
          rw [show nI (5 * k) + (2 : Int32) = nI (5 * k + 2) from nI_add _ 2]
          refine lw_ld hx hb hX hbl hbA hS (j := 5 * k + 2) (by omega) hL dL_law_120 ?_
          refine hc_i (va_runV (As := [.int (nI kd), .int (xs (5 * k + 2))]) (rest := [.int (nI n)]) S (c_X5_device_ok l G ad _ hM0 hkd (xs (5 * k + 2)) hn3 (hJ.2.2.1 n (Nat.le_refl n)).1 (hJ.2.2.1 n (Nat.le_refl n)).2) (cwV 2 hts (gWSV q_l_L_17 q_im_X5_device q_se_X5_device q_in_5 q_co_X5_device) rfl rfl rfl (by decide +kernel) ⟨Nat.le_of_ble_eq_true rfl, Nat.le_of_ble_eq_true rfl⟩) (hPreVw hE hS (hrecv hE hW g8 (q := (RX5, TX5, 28)) rfl) hW) rfl rfl hl.1 rfl (lv_room (Nat.le_of_ble_eq_true rfl)) dL_law_121 ⟨fitC (k := k + 1) (a := 0) (by omega) (by omega), fitS (k := k + 1) (a := 0) (by omega) (by omega)⟩) hS (fun rv_m ct_m H locs hp hW hS => ?_)
          obtain ⟨ev_m, hM, hag⟩ := hp
          rw [ev_m]
          have hJn := JI_next hJ hC hM hag (fun i hi => ⟨(pk_un (by omega)).trans (hJ.2.2.1 i (by omega)).1, (pk_un (by omega)).trans (hJ.2.2.1 i (by omega)).2⟩) (hp_dev hJ.2.2.2.1) (by omega)
          refine lv_icmp_eq (tgt := 462) hx hb dL_law_124 (by decide) (fun _ => ?_) (fun q => absurd rfl q)
          refine lv_iinc (v := (nI (5 * (k + 1)))) (lv' := [(3, .int (nI (5 * (k + 1)))), (0, .ref b), (1, .ref (ad 0)), (2, .ref (ad 8))]) hx hb dL_law_462 hl (k := 0) rfl (nI_add (5 * k) 5) (by decide) rfl (fun ls hl => ?_)
          refine lv_goto (tgt := 18) hx hb dL_law_465 (by decide) ?_
          exact ih (k + 1) _ _ _ _ _ _ _ _ _ _ _ _ (by omega) hJn hW hS (lv_sub hl [0, 1, 2, 3] rfl)
        · refine lv_aload_n hx hb dL_law_96 rfl (lv_at hl 2 rfl) ?_
          refine lv_aload_n hx hb dL_law_97 rfl (lv_at hl 1 rfl) ?_
          refine lv_iload_n hx hb dL_law_98 rfl (lv_at hl 0 rfl) ?_
          refine lv_iconst (v := 1) hx hb dL_law_99 (by decide) ?_
          refine lv_iadd hx hb dL_law_100 ?_
          rw [show nI (5 * k) + (1 : Int32) = nI (5 * k + 1) from nI_add _ 1]
          refine lw_ld hx hb hX hbl hbA hS (j := 5 * k + 1) (by omega) hL dL_law_101 ?_
          refine lv_aload_n hx hb dL_law_102 rfl (lv_at hl 1 rfl) ?_
          refine lv_iload_n hx hb dL_law_103 rfl (lv_at hl 0 rfl) ?_
          refine lv_iconst (v := 2) hx hb dL_law_104 (by decide) ?_
          refine lv_iadd hx hb dL_law_105 ?_
          rw [show nI (5 * k) + (2 : Int32) = nI (5 * k + 2) from nI_add _ 2]
          refine lw_ld hx hb hX hbl hbA hS (j := 5 * k + 2) (by omega) hL dL_law_106 ?_
          refine hc_i (va_runV (As := [.int (xs (5 * k + 1)), .int (xs (5 * k + 2))]) (rest := []) S (c_X4_device_no l G ad _ hJ.1 (N := H.size) hkd (xs (5 * k + 2))) (cwV 2 hts (gWSV q_l_L_13 q_im_X4_device q_se_X4_device q_in_4 q_co_X4_device) rfl rfl rfl (by decide +kernel) ⟨Nat.le_of_ble_eq_true rfl, Nat.le_of_ble_eq_true rfl⟩) (hPreVz hE hS (hrecv hE hW hJ.1.1 (q := (RX4, TX4, 9)) rfl) hW hsz) rfl rfl hl.1 rfl (lv_room (Nat.le_of_ble_eq_true rfl)) dL_law_107 ⟨fitC (k := k) (a := 1) (by omega) (by omega), fitS (k := k) (a := 13) (by omega) (by omega)⟩) hS (fun rv_c ct_c H locs hp hW hS => ?_)
          obtain ⟨ev_c, hC⟩ := hp
          rw [ev_c]
          have hM0 := RM_tr hJ.2.1 (RC_fr hC)
          obtain ⟨⟨_, _, _, _, _, _, g8, _⟩, _⟩ := id hM0
          refine W.widen (k := 31 + (k + 1)) (n := 5523 + 13 * (k + 1)) (by omega) (by omega) ?_
          refine lv_aload_n hx hb dL_law_110 rfl (lv_at hl 3 rfl) ?_
          refine lv_aload_n hx hb dL_law_111 rfl (lv_at hl 1 rfl) ?_
          refine lv_iload_n hx hb dL_law_112 rfl (lv_at hl 0 rfl) ?_
          refine lv_iconst (v := 1) hx hb dL_law_113 (by decide) ?_
          refine lv_iadd hx hb dL_law_114 ?_
          rw [show nI (5 * k) + (1 : Int32) = nI (5 * k + 1) from nI_add _ 1]
          refine lw_ld hx hb hX hbl hbA hS (j := 5 * k + 1) (by omega) hL dL_law_115 ?_
          refine lv_aload_n hx hb dL_law_116 rfl (lv_at hl 1 rfl) ?_
          refine lv_iload_n hx hb dL_law_117 rfl (lv_at hl 0 rfl) ?_
          refine lv_iconst (v := 2) hx hb dL_law_118 (by decide) ?_
          refine lv_iadd hx hb dL_law_119 ?_
          rw [show nI (5 * k) + (2 : Int32) = nI (5 * k + 2) from nI_add _ 2]
          refine lw_ld hx hb hX hbl hbA hS (j := 5 * k + 2) (by omega) hL dL_law_120 ?_
          refine hc_i (va_runV (As := [.int (xs (5 * k + 1)), .int (xs (5 * k + 2))]) (rest := [.int (-1)]) S (c_X5_device_no l G ad _ hM0 hkd (xs (5 * k + 2))) (cwV 2 hts (gWSV q_l_L_17 q_im_X5_device q_se_X5_device q_in_5 q_co_X5_device) rfl rfl rfl (by decide +kernel) ⟨Nat.le_of_ble_eq_true rfl, Nat.le_of_ble_eq_true rfl⟩) (hPreVw hE hS (hrecv hE hW g8 (q := (RX5, TX5, 28)) rfl) hW) rfl rfl hl.1 rfl (lv_room (Nat.le_of_ble_eq_true rfl)) dL_law_121 ⟨fitC (k := k + 1) (a := 0) (by omega) (by omega), fitS (k := k + 1) (a := 0) (by omega) (by omega)⟩) hS (fun rv_m ct_m H locs hp hW hS => ?_)
          obtain ⟨ev_m, hM, hag⟩ := hp
          rw [ev_m]
          have hJn := JI_next hJ hC hM hag hJ.2.2.1 (hp_up hJ.2.2.2.1) (Nat.le_succ_of_le hJ.2.2.2.2)
          refine lv_icmp_eq (tgt := 462) hx hb dL_law_124 (by decide) (fun _ => ?_) (fun q => absurd rfl q)
          refine lv_iinc (v := (nI (5 * (k + 1)))) (lv' := [(3, .int (nI (5 * (k + 1)))), (0, .ref b), (1, .ref (ad 0)), (2, .ref (ad 8))]) hx hb dL_law_462 hl (k := 0) rfl (nI_add (5 * k) 5) (by decide) rfl (fun ls hl => ?_)
          refine lv_goto (tgt := 18) hx hb dL_law_465 (by decide) ?_
          exact ih (k + 1) _ _ _ _ _ _ _ _ _ _ _ _ (by omega) hJn hW hS (lv_sub hl [0, 1, 2, 3] rfl)
      · refine lv_tableIn (off := 97) (tgt := 129) hx hb dL_law_32 (by decide) (by decide) (by decide) (by decide) ?_
        rcases dev_cases n (xs (5 * k + 1)) with ⟨i, hi, ei⟩ | hd
        · refine lv_aload_n hx hb dL_law_129 rfl (lv_at hl 2 rfl) ?_
          refine lv_aload_n hx hb dL_law_130 rfl (lv_at hl 1 rfl) ?_
          refine lv_iload_n hx hb dL_law_131 rfl (lv_at hl 0 rfl) ?_
          refine lv_iconst (v := 1) hx hb dL_law_132 (by decide) ?_
          refine lv_iadd hx hb dL_law_133 ?_
          rw [show nI (5 * k) + (1 : Int32) = nI (5 * k + 1) from nI_add _ 1]
          refine lw_ld hx hb hX hbl hbA hS (j := 5 * k + 1) (by omega) hL dL_law_134 ?_
          rw [ei]
          refine lv_aload_n hx hb dL_law_135 rfl (lv_at hl 1 rfl) ?_
          refine lv_iload_n hx hb dL_law_136 rfl (lv_at hl 0 rfl) ?_
          refine lv_iconst (v := 2) hx hb dL_law_137 (by decide) ?_
          refine lv_iadd hx hb dL_law_138 ?_
          rw [show nI (5 * k) + (2 : Int32) = nI (5 * k + 2) from nI_add _ 2]
          refine lw_ld hx hb hX hbl hbA hS (j := 5 * k + 2) (by omega) hL dL_law_139 ?_
          refine lv_aload_n hx hb dL_law_140 rfl (lv_at hl 1 rfl) ?_
          refine lv_iload_n hx hb dL_law_141 rfl (lv_at hl 0 rfl) ?_
          refine lv_iconst (v := 3) hx hb dL_law_142 (by decide) ?_
          refine lv_iadd hx hb dL_law_143 ?_
          rw [show nI (5 * k) + (3 : Int32) = nI (5 * k + 3) from nI_add _ 3]
          refine lw_ld hx hb hX hbl hbA hS (j := 5 * k + 3) (by omega) hL dL_law_144 ?_
          refine lv_aload_n hx hb dL_law_145 rfl (lv_at hl 1 rfl) ?_
          refine lv_iload_n hx hb dL_law_146 rfl (lv_at hl 0 rfl) ?_
          refine lv_iconst (v := 4) hx hb dL_law_147 (by decide) ?_
          refine lv_iadd hx hb dL_law_148 ?_
          rw [show nI (5 * k) + (4 : Int32) = nI (5 * k + 4) from nI_add _ 4]
          refine lw_ld hx hb hX hbl hbA hS (j := 5 * k + 4) (by omega) hL dL_law_149 ?_
          refine hc_i (va_runV (As := [.int (nI i), .int (xs (5 * k + 2)), .int (xs (5 * k + 3)), .int (xs (5 * k + 4))]) (rest := []) S (c_X4_call_ok l G ad _ hJ.1 hi (xs (5 * k + 2)) (xs (5 * k + 3)) (xs (5 * k + 4))) (cwV 4 hts (gWSV q_l_L_18 q_im_X4_call q_se_X4_call q_in_4 q_co_X4_call) rfl rfl rfl (by decide +kernel) ⟨Nat.le_of_ble_eq_true rfl, Nat.le_of_ble_eq_true rfl⟩) (hPreVw hE hS (hrecv hE hW hJ.1.1 (q := (RX4, TX4, 9)) rfl) hW) rfl rfl hl.1 rfl (lv_room (Nat.le_of_ble_eq_true rfl)) dL_law_150 ⟨fitC (k := k) (a := 0) (by omega) (by omega), fitS (k := k) (a := 0) (by omega) (by omega)⟩) hS (fun rv_c ct_c H locs hp hW hS => ?_)
          obtain ⟨ev_c, hC⟩ := hp
          rw [ev_c]
          have hM0 := RM_tr hJ.2.1 (RC_fr hC)
          obtain ⟨⟨_, _, _, _, _, _, g8, _⟩, _⟩ := id hM0
          refine W.widen (k := 31 + (k + 1)) (n := 5523 + 13 * (k + 1)) (by omega) (by omega) ?_
          refine lv_aload_n hx hb dL_law_153 rfl (lv_at hl 3 rfl) ?_
          refine lv_aload_n hx hb dL_law_154 rfl (lv_at hl 1 rfl) ?_
          refine lv_iload_n hx hb dL_law_155 rfl (lv_at hl 0 rfl) ?_
          refine lv_iconst (v := 1) hx hb dL_law_156 (by decide) ?_
          refine lv_iadd hx hb dL_law_157 ?_
          rw [show nI (5 * k) + (1 : Int32) = nI (5 * k + 1) from nI_add _ 1]
          refine lw_ld hx hb hX hbl hbA hS (j := 5 * k + 1) (by omega) hL dL_law_158 ?_
          rw [ei]
          refine lv_aload_n hx hb dL_law_159 rfl (lv_at hl 1 rfl) ?_
          refine lv_iload_n hx hb dL_law_160 rfl (lv_at hl 0 rfl) ?_
          refine lv_iconst (v := 2) hx hb dL_law_161 (by decide) ?_
          refine lv_iadd hx hb dL_law_162 ?_
          rw [show nI (5 * k) + (2 : Int32) = nI (5 * k + 2) from nI_add _ 2]
          refine lw_ld hx hb hX hbl hbA hS (j := 5 * k + 2) (by omega) hL dL_law_163 ?_
          refine lv_aload_n hx hb dL_law_164 rfl (lv_at hl 1 rfl) ?_
          refine lv_iload_n hx hb dL_law_165 rfl (lv_at hl 0 rfl) ?_
          refine lv_iconst (v := 3) hx hb dL_law_166 (by decide) ?_
          refine lv_iadd hx hb dL_law_167 ?_
          rw [show nI (5 * k) + (3 : Int32) = nI (5 * k + 3) from nI_add _ 3]
          refine lw_ld hx hb hX hbl hbA hS (j := 5 * k + 3) (by omega) hL dL_law_168 ?_
          refine lv_aload_n hx hb dL_law_169 rfl (lv_at hl 1 rfl) ?_
          refine lv_iload_n hx hb dL_law_170 rfl (lv_at hl 0 rfl) ?_
          refine lv_iconst (v := 4) hx hb dL_law_171 (by decide) ?_
          refine lv_iadd hx hb dL_law_172 ?_
          rw [show nI (5 * k) + (4 : Int32) = nI (5 * k + 4) from nI_add _ 4]
          refine lw_ld hx hb hX hbl hbA hS (j := 5 * k + 4) (by omega) hL dL_law_173 ?_
          refine hc_i (va_runV (As := [.int (nI i), .int (xs (5 * k + 2)), .int (xs (5 * k + 3)), .int (xs (5 * k + 4))]) (rest := [.int ((callR (tyM ks) i (xs (5 * k + 2)) (xs (5 * k + 3)) (xs (5 * k + 4)) A).1)]) S (c_X5_call_ok l G ad _ hM0 hi (xs (5 * k + 2)) (xs (5 * k + 3)) (xs (5 * k + 4))) (cwV 4 hts (gWSV q_l_L_22 q_im_X5_call q_se_X5_call q_in_5 q_co_X5_call) rfl rfl rfl (by decide +kernel) ⟨Nat.le_of_ble_eq_true rfl, Nat.le_of_ble_eq_true rfl⟩) (hPreVw hE hS (hrecv hE hW g8 (q := (RX5, TX5, 28)) rfl) hW) rfl rfl hl.1 rfl (lv_room (Nat.le_of_ble_eq_true rfl)) dL_law_174 ⟨fitC (k := k + 1) (a := 0) (by omega) (by omega), fitS (k := k + 1) (a := 0) (by omega) (by omega)⟩) hS (fun rv_m ct_m H locs hp hW hS => ?_)
          obtain ⟨ev_m, hM, hag⟩ := hp
          rw [ev_m]
          have hJn := JI_next hJ hC hM hag (fun j hj => ⟨(callR_o (by omega)).trans (hJ.2.2.1 j hj).1, (hJ.2.2.1 j hj).2⟩) (hp_up hJ.2.2.2.1) (Nat.le_succ_of_le hJ.2.2.2.2)
          refine lv_icmp_eq (tgt := 462) hx hb dL_law_177 (by decide) (fun _ => ?_) (fun q => absurd rfl q)
          refine lv_iinc (v := (nI (5 * (k + 1)))) (lv' := [(3, .int (nI (5 * (k + 1)))), (0, .ref b), (1, .ref (ad 0)), (2, .ref (ad 8))]) hx hb dL_law_462 hl (k := 0) rfl (nI_add (5 * k) 5) (by decide) rfl (fun ls hl => ?_)
          refine lv_goto (tgt := 18) hx hb dL_law_465 (by decide) ?_
          exact ih (k + 1) _ _ _ _ _ _ _ _ _ _ _ _ (by omega) hJn hW hS (lv_sub hl [0, 1, 2, 3] rfl)
        · refine lv_aload_n hx hb dL_law_129 rfl (lv_at hl 2 rfl) ?_
          refine lv_aload_n hx hb dL_law_130 rfl (lv_at hl 1 rfl) ?_
          refine lv_iload_n hx hb dL_law_131 rfl (lv_at hl 0 rfl) ?_
          refine lv_iconst (v := 1) hx hb dL_law_132 (by decide) ?_
          refine lv_iadd hx hb dL_law_133 ?_
          rw [show nI (5 * k) + (1 : Int32) = nI (5 * k + 1) from nI_add _ 1]
          refine lw_ld hx hb hX hbl hbA hS (j := 5 * k + 1) (by omega) hL dL_law_134 ?_
          refine lv_aload_n hx hb dL_law_135 rfl (lv_at hl 1 rfl) ?_
          refine lv_iload_n hx hb dL_law_136 rfl (lv_at hl 0 rfl) ?_
          refine lv_iconst (v := 2) hx hb dL_law_137 (by decide) ?_
          refine lv_iadd hx hb dL_law_138 ?_
          rw [show nI (5 * k) + (2 : Int32) = nI (5 * k + 2) from nI_add _ 2]
          refine lw_ld hx hb hX hbl hbA hS (j := 5 * k + 2) (by omega) hL dL_law_139 ?_
          refine lv_aload_n hx hb dL_law_140 rfl (lv_at hl 1 rfl) ?_
          refine lv_iload_n hx hb dL_law_141 rfl (lv_at hl 0 rfl) ?_
          refine lv_iconst (v := 3) hx hb dL_law_142 (by decide) ?_
          refine lv_iadd hx hb dL_law_143 ?_
          rw [show nI (5 * k) + (3 : Int32) = nI (5 * k + 3) from nI_add _ 3]
          refine lw_ld hx hb hX hbl hbA hS (j := 5 * k + 3) (by omega) hL dL_law_144 ?_
          refine lv_aload_n hx hb dL_law_145 rfl (lv_at hl 1 rfl) ?_
          refine lv_iload_n hx hb dL_law_146 rfl (lv_at hl 0 rfl) ?_
          refine lv_iconst (v := 4) hx hb dL_law_147 (by decide) ?_
          refine lv_iadd hx hb dL_law_148 ?_
          rw [show nI (5 * k) + (4 : Int32) = nI (5 * k + 4) from nI_add _ 4]
          refine lw_ld hx hb hX hbl hbA hS (j := 5 * k + 4) (by omega) hL dL_law_149 ?_
          refine hc_i (va_runV (As := [.int (xs (5 * k + 1)), .int (xs (5 * k + 2)), .int (xs (5 * k + 3)), .int (xs (5 * k + 4))]) (rest := []) S (c_X4_call_no l G ad _ hJ.1 hd (xs (5 * k + 2)) (xs (5 * k + 3)) (xs (5 * k + 4))) (cwV 4 hts (gWSV q_l_L_18 q_im_X4_call q_se_X4_call q_in_4 q_co_X4_call) rfl rfl rfl (by decide +kernel) ⟨Nat.le_of_ble_eq_true rfl, Nat.le_of_ble_eq_true rfl⟩) (hPreVw hE hS (hrecv hE hW hJ.1.1 (q := (RX4, TX4, 9)) rfl) hW) rfl rfl hl.1 rfl (lv_room (Nat.le_of_ble_eq_true rfl)) dL_law_150 ⟨fitC (k := k) (a := 0) (by omega) (by omega), fitS (k := k) (a := 0) (by omega) (by omega)⟩) hS (fun rv_c ct_c H locs hp hW hS => ?_)
          obtain ⟨ev_c, hC⟩ := hp
          rw [ev_c]
          have hM0 := RM_tr hJ.2.1 (RC_fr hC)
          obtain ⟨⟨_, _, _, _, _, _, g8, _⟩, _⟩ := id hM0
          refine W.widen (k := 31 + (k + 1)) (n := 5523 + 13 * (k + 1)) (by omega) (by omega) ?_
          refine lv_aload_n hx hb dL_law_153 rfl (lv_at hl 3 rfl) ?_
          refine lv_aload_n hx hb dL_law_154 rfl (lv_at hl 1 rfl) ?_
          refine lv_iload_n hx hb dL_law_155 rfl (lv_at hl 0 rfl) ?_
          refine lv_iconst (v := 1) hx hb dL_law_156 (by decide) ?_
          refine lv_iadd hx hb dL_law_157 ?_
          rw [show nI (5 * k) + (1 : Int32) = nI (5 * k + 1) from nI_add _ 1]
          refine lw_ld hx hb hX hbl hbA hS (j := 5 * k + 1) (by omega) hL dL_law_158 ?_
          refine lv_aload_n hx hb dL_law_159 rfl (lv_at hl 1 rfl) ?_
          refine lv_iload_n hx hb dL_law_160 rfl (lv_at hl 0 rfl) ?_
          refine lv_iconst (v := 2) hx hb dL_law_161 (by decide) ?_
          refine lv_iadd hx hb dL_law_162 ?_
          rw [show nI (5 * k) + (2 : Int32) = nI (5 * k + 2) from nI_add _ 2]
          refine lw_ld hx hb hX hbl hbA hS (j := 5 * k + 2) (by omega) hL dL_law_163 ?_
          refine lv_aload_n hx hb dL_law_164 rfl (lv_at hl 1 rfl) ?_
          refine lv_iload_n hx hb dL_law_165 rfl (lv_at hl 0 rfl) ?_
          refine lv_iconst (v := 3) hx hb dL_law_166 (by decide) ?_
          refine lv_iadd hx hb dL_law_167 ?_
          rw [show nI (5 * k) + (3 : Int32) = nI (5 * k + 3) from nI_add _ 3]
          refine lw_ld hx hb hX hbl hbA hS (j := 5 * k + 3) (by omega) hL dL_law_168 ?_
          refine lv_aload_n hx hb dL_law_169 rfl (lv_at hl 1 rfl) ?_
          refine lv_iload_n hx hb dL_law_170 rfl (lv_at hl 0 rfl) ?_
          refine lv_iconst (v := 4) hx hb dL_law_171 (by decide) ?_
          refine lv_iadd hx hb dL_law_172 ?_
          rw [show nI (5 * k) + (4 : Int32) = nI (5 * k + 4) from nI_add _ 4]
          refine lw_ld hx hb hX hbl hbA hS (j := 5 * k + 4) (by omega) hL dL_law_173 ?_
          refine hc_i (va_runV (As := [.int (xs (5 * k + 1)), .int (xs (5 * k + 2)), .int (xs (5 * k + 3)), .int (xs (5 * k + 4))]) (rest := [.int 0]) S (c_X5_call_no l G ad _ hM0 hd (xs (5 * k + 2)) (xs (5 * k + 3)) (xs (5 * k + 4))) (cwV 4 hts (gWSV q_l_L_22 q_im_X5_call q_se_X5_call q_in_5 q_co_X5_call) rfl rfl rfl (by decide +kernel) ⟨Nat.le_of_ble_eq_true rfl, Nat.le_of_ble_eq_true rfl⟩) (hPreVw hE hS (hrecv hE hW g8 (q := (RX5, TX5, 28)) rfl) hW) rfl rfl hl.1 rfl (lv_room (Nat.le_of_ble_eq_true rfl)) dL_law_174 ⟨fitC (k := k + 1) (a := 0) (by omega) (by omega), fitS (k := k + 1) (a := 0) (by omega) (by omega)⟩) hS (fun rv_m ct_m H locs hp hW hS => ?_)
          obtain ⟨ev_m, hM, hag⟩ := hp
          rw [ev_m]
          have hJn := JI_next hJ hC hM hag hJ.2.2.1 (hp_up hJ.2.2.2.1) (Nat.le_succ_of_le hJ.2.2.2.2)
          refine lv_icmp_eq (tgt := 462) hx hb dL_law_177 (by decide) (fun _ => ?_) (fun q => absurd rfl q)
          refine lv_iinc (v := (nI (5 * (k + 1)))) (lv' := [(3, .int (nI (5 * (k + 1)))), (0, .ref b), (1, .ref (ad 0)), (2, .ref (ad 8))]) hx hb dL_law_462 hl (k := 0) rfl (nI_add (5 * k) 5) (by decide) rfl (fun ls hl => ?_)
          refine lv_goto (tgt := 18) hx hb dL_law_465 (by decide) ?_
          exact ih (k + 1) _ _ _ _ _ _ _ _ _ _ _ _ (by omega) hJn hW hS (lv_sub hl [0, 1, 2, 3] rfl)
      · refine lv_tableIn (off := 150) (tgt := 182) hx hb dL_law_32 (by decide) (by decide) (by decide) (by decide) ?_
        refine lv_aload_n hx hb dL_law_182 rfl (lv_at hl 2 rfl) ?_
        refine lv_aload_n hx hb dL_law_183 rfl (lv_at hl 1 rfl) ?_
        refine lv_iload_n hx hb dL_law_184 rfl (lv_at hl 0 rfl) ?_
        refine lv_iconst (v := 1) hx hb dL_law_185 (by decide) ?_
        refine lv_iadd hx hb dL_law_186 ?_
        rw [show nI (5 * k) + (1 : Int32) = nI (5 * k + 1) from nI_add _ 1]
        refine lw_ld hx hb hX hbl hbA hS (j := 5 * k + 1) (by omega) hL dL_law_187 ?_
        refine lv_aload_n hx hb dL_law_188 rfl (lv_at hl 1 rfl) ?_
        refine lv_iload_n hx hb dL_law_189 rfl (lv_at hl 0 rfl) ?_
        refine lv_iconst (v := 2) hx hb dL_law_190 (by decide) ?_
        refine lv_iadd hx hb dL_law_191 ?_
        rw [show nI (5 * k) + (2 : Int32) = nI (5 * k + 2) from nI_add _ 2]
        refine lw_ld hx hb hX hbl hbA hS (j := 5 * k + 2) (by omega) hL dL_law_192 ?_
        refine lv_aload_n hx hb dL_law_193 rfl (lv_at hl 1 rfl) ?_
        refine lv_iload_n hx hb dL_law_194 rfl (lv_at hl 0 rfl) ?_
        refine lv_iconst (v := 3) hx hb dL_law_195 (by decide) ?_
        refine lv_iadd hx hb dL_law_196 ?_
        rw [show nI (5 * k) + (3 : Int32) = nI (5 * k + 3) from nI_add _ 3]
        refine lw_ld hx hb hX hbl hbA hS (j := 5 * k + 3) (by omega) hL dL_law_197 ?_
        refine hc_i (va_runV (As := [.int (xs (5 * k + 1)), .int (xs (5 * k + 2)), .int (xs (5 * k + 3))]) (rest := []) S (c_X4_every l G ad _ hJ.1 (xs (5 * k + 1)) (xs (5 * k + 2)) (xs (5 * k + 3))) (cwV 3 hts (gWSV q_l_L_23 q_im_X4_every q_se_X4_every q_in_4 q_co_X4_every) rfl rfl rfl (by decide +kernel) ⟨Nat.le_of_ble_eq_true rfl, Nat.le_of_ble_eq_true rfl⟩) (hPreVw hE hS (hrecv hE hW hJ.1.1 (q := (RX4, TX4, 9)) rfl) hW) rfl rfl hl.1 rfl (lv_room (Nat.le_of_ble_eq_true rfl)) dL_law_198 ⟨fitC (k := k) (a := 0) (by omega) (by omega), fitS (k := k) (a := 0) (by omega) (by omega)⟩) hS (fun rv_c ct_c H locs hp hW hS => ?_)
        obtain ⟨ev_c, hC⟩ := hp
        rw [ev_c]
        have hM0 := RM_tr hJ.2.1 (RC_fr hC)
        obtain ⟨⟨_, _, _, _, _, _, g8, _⟩, _⟩ := id hM0
        refine W.widen (k := 31 + (k + 1)) (n := 5523 + 13 * (k + 1)) (by omega) (by omega) ?_
        refine lv_aload_n hx hb dL_law_201 rfl (lv_at hl 3 rfl) ?_
        refine lv_aload_n hx hb dL_law_202 rfl (lv_at hl 1 rfl) ?_
        refine lv_iload_n hx hb dL_law_203 rfl (lv_at hl 0 rfl) ?_
        refine lv_iconst (v := 1) hx hb dL_law_204 (by decide) ?_
        refine lv_iadd hx hb dL_law_205 ?_
        rw [show nI (5 * k) + (1 : Int32) = nI (5 * k + 1) from nI_add _ 1]
        refine lw_ld hx hb hX hbl hbA hS (j := 5 * k + 1) (by omega) hL dL_law_206 ?_
        refine lv_aload_n hx hb dL_law_207 rfl (lv_at hl 1 rfl) ?_
        refine lv_iload_n hx hb dL_law_208 rfl (lv_at hl 0 rfl) ?_
        refine lv_iconst (v := 2) hx hb dL_law_209 (by decide) ?_
        refine lv_iadd hx hb dL_law_210 ?_
        rw [show nI (5 * k) + (2 : Int32) = nI (5 * k + 2) from nI_add _ 2]
        refine lw_ld hx hb hX hbl hbA hS (j := 5 * k + 2) (by omega) hL dL_law_211 ?_
        refine lv_aload_n hx hb dL_law_212 rfl (lv_at hl 1 rfl) ?_
        refine lv_iload_n hx hb dL_law_213 rfl (lv_at hl 0 rfl) ?_
        refine lv_iconst (v := 3) hx hb dL_law_214 (by decide) ?_
        refine lv_iadd hx hb dL_law_215 ?_
        rw [show nI (5 * k) + (3 : Int32) = nI (5 * k + 3) from nI_add _ 3]
        refine lw_ld hx hb hX hbl hbA hS (j := 5 * k + 3) (by omega) hL dL_law_216 ?_
        refine hc_i (va_runV (As := [.int (xs (5 * k + 1)), .int (xs (5 * k + 2)), .int (xs (5 * k + 3))]) (rest := [.int ((everyR n (tyM ks) (xs (5 * k + 1)) (xs (5 * k + 2)) (xs (5 * k + 3)) A).1)]) S (c_X5_every l G ad _ hM0 (xs (5 * k + 1)) (xs (5 * k + 2)) (xs (5 * k + 3))) (cwV 3 hts (gWSV q_l_L_27 q_im_X5_every q_se_X5_every q_in_5 q_co_X5_every) rfl rfl rfl (by decide +kernel) ⟨Nat.le_of_ble_eq_true rfl, Nat.le_of_ble_eq_true rfl⟩) (hPreVw hE hS (hrecv hE hW g8 (q := (RX5, TX5, 28)) rfl) hW) rfl rfl hl.1 rfl (lv_room (Nat.le_of_ble_eq_true rfl)) dL_law_217 ⟨fitC (k := k + 1) (a := 0) (by omega) (by omega), fitS (k := k + 1) (a := 0) (by omega) (by omega)⟩) hS (fun rv_m ct_m H locs hp hW hS => ?_)
        obtain ⟨ev_m, hM, hag⟩ := hp
        rw [ev_m]
        have hJn := JI_next hJ hC hM hag (fun j hj => ⟨(everyR_o hj).trans (hJ.2.2.1 j hj).1, (hJ.2.2.1 j hj).2⟩) (hp_up hJ.2.2.2.1) (Nat.le_succ_of_le hJ.2.2.2.2)
        refine lv_icmp_eq (tgt := 462) hx hb dL_law_220 (by decide) (fun _ => ?_) (fun q => absurd rfl q)
        refine lv_iinc (v := (nI (5 * (k + 1)))) (lv' := [(3, .int (nI (5 * (k + 1)))), (0, .ref b), (1, .ref (ad 0)), (2, .ref (ad 8))]) hx hb dL_law_462 hl (k := 0) rfl (nI_add (5 * k) 5) (by decide) rfl (fun ls hl => ?_)
        refine lv_goto (tgt := 18) hx hb dL_law_465 (by decide) ?_
        exact ih (k + 1) _ _ _ _ _ _ _ _ _ _ _ _ (by omega) hJn hW hS (lv_sub hl [0, 1, 2, 3] rfl)
      · refine lv_tableIn (off := 193) (tgt := 225) hx hb dL_law_32 (by decide) (by decide) (by decide) (by decide) ?_
        rcases dev_cases n (xs (5 * k + 1)) with ⟨i, hi, ei⟩ | hd
        · refine lv_aload_n hx hb dL_law_225 rfl (lv_at hl 2 rfl) ?_
          refine lv_aload_n hx hb dL_law_226 rfl (lv_at hl 1 rfl) ?_
          refine lv_iload_n hx hb dL_law_227 rfl (lv_at hl 0 rfl) ?_
          refine lv_iconst (v := 1) hx hb dL_law_228 (by decide) ?_
          refine lv_iadd hx hb dL_law_229 ?_
          rw [show nI (5 * k) + (1 : Int32) = nI (5 * k + 1) from nI_add _ 1]
          refine lw_ld hx hb hX hbl hbA hS (j := 5 * k + 1) (by omega) hL dL_law_230 ?_
          rw [ei]
          refine lv_aload_n hx hb dL_law_231 rfl (lv_at hl 1 rfl) ?_
          refine lv_iload_n hx hb dL_law_232 rfl (lv_at hl 0 rfl) ?_
          refine lv_iconst (v := 2) hx hb dL_law_233 (by decide) ?_
          refine lv_iadd hx hb dL_law_234 ?_
          rw [show nI (5 * k) + (2 : Int32) = nI (5 * k + 2) from nI_add _ 2]
          refine lw_ld hx hb hX hbl hbA hS (j := 5 * k + 2) (by omega) hL dL_law_235 ?_
          refine hc_i (va_runV (As := [.int (nI i), .int (xs (5 * k + 2))]) (rest := []) S (c_X4_feed_ok l G ad _ hJ.1 hi (xs (5 * k + 2))) (cwV 2 hts (gWSV q_l_L_28 q_im_X4_feed q_se_X4_feed q_in_4 q_co_X4_feed) rfl rfl rfl (by decide +kernel) ⟨Nat.le_of_ble_eq_true rfl, Nat.le_of_ble_eq_true rfl⟩) (hPreVw hE hS (hrecv hE hW hJ.1.1 (q := (RX4, TX4, 9)) rfl) hW) rfl rfl hl.1 rfl (lv_room (Nat.le_of_ble_eq_true rfl)) dL_law_236 ⟨fitC (k := k) (a := 0) (by omega) (by omega), fitS (k := k) (a := 0) (by omega) (by omega)⟩) hS (fun rv_c ct_c H locs hp hW hS => ?_)
          obtain ⟨ev_c, hC⟩ := hp
          rw [ev_c]
          have hM0 := RM_tr hJ.2.1 (RC_fr hC)
          obtain ⟨⟨_, _, _, _, _, _, g8, _⟩, _⟩ := id hM0
          refine W.widen (k := 31 + (k + 1)) (n := 5523 + 13 * (k + 1)) (by omega) (by omega) ?_
          refine lv_aload_n hx hb dL_law_239 rfl (lv_at hl 3 rfl) ?_
          refine lv_aload_n hx hb dL_law_240 rfl (lv_at hl 1 rfl) ?_
          refine lv_iload_n hx hb dL_law_241 rfl (lv_at hl 0 rfl) ?_
          refine lv_iconst (v := 1) hx hb dL_law_242 (by decide) ?_
          refine lv_iadd hx hb dL_law_243 ?_
          rw [show nI (5 * k) + (1 : Int32) = nI (5 * k + 1) from nI_add _ 1]
          refine lw_ld hx hb hX hbl hbA hS (j := 5 * k + 1) (by omega) hL dL_law_244 ?_
          rw [ei]
          refine lv_aload_n hx hb dL_law_245 rfl (lv_at hl 1 rfl) ?_
          refine lv_iload_n hx hb dL_law_246 rfl (lv_at hl 0 rfl) ?_
          refine lv_iconst (v := 2) hx hb dL_law_247 (by decide) ?_
          refine lv_iadd hx hb dL_law_248 ?_
          rw [show nI (5 * k) + (2 : Int32) = nI (5 * k + 2) from nI_add _ 2]
          refine lw_ld hx hb hX hbl hbA hS (j := 5 * k + 2) (by omega) hL dL_law_249 ?_
          refine hc_i (va_runV (As := [.int (nI i), .int (xs (5 * k + 2))]) (rest := [.int ((fdL (tyM ks) i (xs (5 * k + 2)) 4 0 (clrA A)).1)]) S (c_X5_feed_ok l G ad _ hM0 hi (xs (5 * k + 2))) (cwV 2 hts (gWSV q_l_L_31 q_im_X5_feed q_se_X5_feed q_in_5 q_co_X5_feed) rfl rfl rfl (by decide +kernel) ⟨Nat.le_of_ble_eq_true rfl, Nat.le_of_ble_eq_true rfl⟩) (hPreVw hE hS (hrecv hE hW g8 (q := (RX5, TX5, 28)) rfl) hW) rfl rfl hl.1 rfl (lv_room (Nat.le_of_ble_eq_true rfl)) dL_law_250 ⟨fitC (k := k + 1) (a := 0) (by omega) (by omega), fitS (k := k + 1) (a := 0) (by omega) (by omega)⟩) hS (fun rv_m ct_m H locs hp hW hS => ?_)
          obtain ⟨ev_m, hM, hag⟩ := hp
          rw [ev_m]
          have hJn := JI_next hJ hC hM hag (fun j hj => ⟨(fdL_o (by omega) 4 0 (clrA A)).trans (hJ.2.2.1 j hj).1, (hJ.2.2.1 j hj).2⟩) (hp_up hJ.2.2.2.1) (Nat.le_succ_of_le hJ.2.2.2.2)
          refine lv_icmp_eq (tgt := 462) hx hb dL_law_253 (by decide) (fun _ => ?_) (fun q => absurd rfl q)
          refine lv_iinc (v := (nI (5 * (k + 1)))) (lv' := [(3, .int (nI (5 * (k + 1)))), (0, .ref b), (1, .ref (ad 0)), (2, .ref (ad 8))]) hx hb dL_law_462 hl (k := 0) rfl (nI_add (5 * k) 5) (by decide) rfl (fun ls hl => ?_)
          refine lv_goto (tgt := 18) hx hb dL_law_465 (by decide) ?_
          exact ih (k + 1) _ _ _ _ _ _ _ _ _ _ _ _ (by omega) hJn hW hS (lv_sub hl [0, 1, 2, 3] rfl)
        · refine lv_aload_n hx hb dL_law_225 rfl (lv_at hl 2 rfl) ?_
          refine lv_aload_n hx hb dL_law_226 rfl (lv_at hl 1 rfl) ?_
          refine lv_iload_n hx hb dL_law_227 rfl (lv_at hl 0 rfl) ?_
          refine lv_iconst (v := 1) hx hb dL_law_228 (by decide) ?_
          refine lv_iadd hx hb dL_law_229 ?_
          rw [show nI (5 * k) + (1 : Int32) = nI (5 * k + 1) from nI_add _ 1]
          refine lw_ld hx hb hX hbl hbA hS (j := 5 * k + 1) (by omega) hL dL_law_230 ?_
          refine lv_aload_n hx hb dL_law_231 rfl (lv_at hl 1 rfl) ?_
          refine lv_iload_n hx hb dL_law_232 rfl (lv_at hl 0 rfl) ?_
          refine lv_iconst (v := 2) hx hb dL_law_233 (by decide) ?_
          refine lv_iadd hx hb dL_law_234 ?_
          rw [show nI (5 * k) + (2 : Int32) = nI (5 * k + 2) from nI_add _ 2]
          refine lw_ld hx hb hX hbl hbA hS (j := 5 * k + 2) (by omega) hL dL_law_235 ?_
          refine hc_i (va_runV (As := [.int (xs (5 * k + 1)), .int (xs (5 * k + 2))]) (rest := []) S (c_X4_feed_no l G ad _ hJ.1 hd (xs (5 * k + 2))) (cwV 2 hts (gWSV q_l_L_28 q_im_X4_feed q_se_X4_feed q_in_4 q_co_X4_feed) rfl rfl rfl (by decide +kernel) ⟨Nat.le_of_ble_eq_true rfl, Nat.le_of_ble_eq_true rfl⟩) (hPreVw hE hS (hrecv hE hW hJ.1.1 (q := (RX4, TX4, 9)) rfl) hW) rfl rfl hl.1 rfl (lv_room (Nat.le_of_ble_eq_true rfl)) dL_law_236 ⟨fitC (k := k) (a := 0) (by omega) (by omega), fitS (k := k) (a := 0) (by omega) (by omega)⟩) hS (fun rv_c ct_c H locs hp hW hS => ?_)
          obtain ⟨ev_c, hC⟩ := hp
          rw [ev_c]
          have hM0 := RM_tr hJ.2.1 (RC_fr hC)
          obtain ⟨⟨_, _, _, _, _, _, g8, _⟩, _⟩ := id hM0
          refine W.widen (k := 31 + (k + 1)) (n := 5523 + 13 * (k + 1)) (by omega) (by omega) ?_
          refine lv_aload_n hx hb dL_law_239 rfl (lv_at hl 3 rfl) ?_
          refine lv_aload_n hx hb dL_law_240 rfl (lv_at hl 1 rfl) ?_
          refine lv_iload_n hx hb dL_law_241 rfl (lv_at hl 0 rfl) ?_
          refine lv_iconst (v := 1) hx hb dL_law_242 (by decide) ?_
          refine lv_iadd hx hb dL_law_243 ?_
          rw [show nI (5 * k) + (1 : Int32) = nI (5 * k + 1) from nI_add _ 1]
          refine lw_ld hx hb hX hbl hbA hS (j := 5 * k + 1) (by omega) hL dL_law_244 ?_
          refine lv_aload_n hx hb dL_law_245 rfl (lv_at hl 1 rfl) ?_
          refine lv_iload_n hx hb dL_law_246 rfl (lv_at hl 0 rfl) ?_
          refine lv_iconst (v := 2) hx hb dL_law_247 (by decide) ?_
          refine lv_iadd hx hb dL_law_248 ?_
          rw [show nI (5 * k) + (2 : Int32) = nI (5 * k + 2) from nI_add _ 2]
          refine lw_ld hx hb hX hbl hbA hS (j := 5 * k + 2) (by omega) hL dL_law_249 ?_
          refine hc_i (va_runV (As := [.int (xs (5 * k + 1)), .int (xs (5 * k + 2))]) (rest := [.int 0]) S (c_X5_feed_no l G ad _ hM0 hd (xs (5 * k + 2))) (cwV 2 hts (gWSV q_l_L_31 q_im_X5_feed q_se_X5_feed q_in_5 q_co_X5_feed) rfl rfl rfl (by decide +kernel) ⟨Nat.le_of_ble_eq_true rfl, Nat.le_of_ble_eq_true rfl⟩) (hPreVw hE hS (hrecv hE hW g8 (q := (RX5, TX5, 28)) rfl) hW) rfl rfl hl.1 rfl (lv_room (Nat.le_of_ble_eq_true rfl)) dL_law_250 ⟨fitC (k := k + 1) (a := 0) (by omega) (by omega), fitS (k := k + 1) (a := 0) (by omega) (by omega)⟩) hS (fun rv_m ct_m H locs hp hW hS => ?_)
          obtain ⟨ev_m, hM, hag⟩ := hp
          rw [ev_m]
          have hJn := JI_next hJ hC hM hag hJ.2.2.1 (hp_up hJ.2.2.2.1) (Nat.le_succ_of_le hJ.2.2.2.2)
          refine lv_icmp_eq (tgt := 462) hx hb dL_law_253 (by decide) (fun _ => ?_) (fun q => absurd rfl q)
          refine lv_iinc (v := (nI (5 * (k + 1)))) (lv' := [(3, .int (nI (5 * (k + 1)))), (0, .ref b), (1, .ref (ad 0)), (2, .ref (ad 8))]) hx hb dL_law_462 hl (k := 0) rfl (nI_add (5 * k) 5) (by decide) rfl (fun ls hl => ?_)
          refine lv_goto (tgt := 18) hx hb dL_law_465 (by decide) ?_
          exact ih (k + 1) _ _ _ _ _ _ _ _ _ _ _ _ (by omega) hJn hW hS (lv_sub hl [0, 1, 2, 3] rfl)
      · refine lv_tableIn (off := 226) (tgt := 258) hx hb dL_law_32 (by decide) (by decide) (by decide) (by decide) ?_
        have hsz : H.size = H.size := rfl
        rcases dev_cases n (xs (5 * k + 1)) with ⟨i, hi, ei⟩ | hd
        · rcases dev_cases n (xs (5 * k + 2)) with ⟨j, hj, ej⟩ | hd
          · by_cases hij : i = j
            · subst hij
              cases hlo : lstL L.2.1 i L.1 with
              | none =>
                refine lv_aload_n hx hb dL_law_258 rfl (lv_at hl 2 rfl) ?_
                refine lv_aload_n hx hb dL_law_259 rfl (lv_at hl 1 rfl) ?_
                refine lv_iload_n hx hb dL_law_260 rfl (lv_at hl 0 rfl) ?_
                refine lv_iconst (v := 1) hx hb dL_law_261 (by decide) ?_
                refine lv_iadd hx hb dL_law_262 ?_
                rw [show nI (5 * k) + (1 : Int32) = nI (5 * k + 1) from nI_add _ 1]
                refine lw_ld hx hb hX hbl hbA hS (j := 5 * k + 1) (by omega) hL dL_law_263 ?_
                rw [ei]
                refine lv_aload_n hx hb dL_law_264 rfl (lv_at hl 1 rfl) ?_
                refine lv_iload_n hx hb dL_law_265 rfl (lv_at hl 0 rfl) ?_
                refine lv_iconst (v := 2) hx hb dL_law_266 (by decide) ?_
                refine lv_iadd hx hb dL_law_267 ?_
                rw [show nI (5 * k) + (2 : Int32) = nI (5 * k + 2) from nI_add _ 2]
                refine lw_ld hx hb hX hbl hbA hS (j := 5 * k + 2) (by omega) hL dL_law_268 ?_
                rw [ej]
                refine hc_i (va_runV (As := [.int (nI i), .int (nI i)]) (rest := []) S (c_X4_link_ne l G ad _ hJ.1 hi hlo hm4 el) (cwV 2 hts (gWSV q_l_L_32 q_im_X4_link q_se_X4_link q_in_4 q_co_X4_link) rfl rfl rfl (by decide +kernel) ⟨Nat.le_of_ble_eq_true rfl, Nat.le_of_ble_eq_true rfl⟩) (hPreVz hE hS (hrecv hE hW hJ.1.1 (q := (RX4, TX4, 9)) rfl) hW hsz) rfl rfl hl.1 rfl (lv_room (Nat.le_of_ble_eq_true rfl)) dL_law_269 ⟨fitC (k := k) (a := 1) (by omega) (by omega), fitS (k := k) (a := 2) (by omega) (by omega)⟩) hS (fun rv_c ct_c H locs hp hW hS => ?_)
                obtain ⟨ev_c, hC⟩ := hp
                rw [ev_c]
                have hM0 := RM_tr hJ.2.1 (RC_fr hC)
                obtain ⟨⟨_, _, _, _, _, _, g8, _⟩, _⟩ := id hM0
                refine W.widen (k := 31 + (k + 1)) (n := 5523 + 13 * (k + 1)) (by omega) (by omega) ?_
                refine lv_aload_n hx hb dL_law_272 rfl (lv_at hl 3 rfl) ?_
                refine lv_aload_n hx hb dL_law_273 rfl (lv_at hl 1 rfl) ?_
                refine lv_iload_n hx hb dL_law_274 rfl (lv_at hl 0 rfl) ?_
                refine lv_iconst (v := 1) hx hb dL_law_275 (by decide) ?_
                refine lv_iadd hx hb dL_law_276 ?_
                rw [show nI (5 * k) + (1 : Int32) = nI (5 * k + 1) from nI_add _ 1]
                refine lw_ld hx hb hX hbl hbA hS (j := 5 * k + 1) (by omega) hL dL_law_277 ?_
                rw [ei]
                refine lv_aload_n hx hb dL_law_278 rfl (lv_at hl 1 rfl) ?_
                refine lv_iload_n hx hb dL_law_279 rfl (lv_at hl 0 rfl) ?_
                refine lv_iconst (v := 2) hx hb dL_law_280 (by decide) ?_
                refine lv_iadd hx hb dL_law_281 ?_
                rw [show nI (5 * k) + (2 : Int32) = nI (5 * k + 2) from nI_add _ 2]
                refine lw_ld hx hb hX hbl hbA hS (j := 5 * k + 2) (by omega) hL dL_law_282 ?_
                rw [ej]
                refine hc_i (va_runV (As := [.int (nI i), .int (nI i)]) (rest := [.int (nI L.1)]) S (c_X5_link_ok l G ad _ hM0 hi hj hm4) (cwV 2 hts (gWSV q_l_L_35 q_im_X5_link q_se_X5_link q_in_5 q_co_X5_link) rfl rfl rfl (by decide +kernel) ⟨Nat.le_of_ble_eq_true rfl, Nat.le_of_ble_eq_true rfl⟩) (hPreVw hE hS (hrecv hE hW g8 (q := (RX5, TX5, 28)) rfl) hW) rfl rfl hl.1 rfl (lv_room (Nat.le_of_ble_eq_true rfl)) dL_law_283 ⟨fitC (k := k + 1) (a := 0) (by omega) (by omega), fitS (k := k + 1) (a := 0) (by omega) (by omega)⟩) hS (fun rv_m ct_m H locs hp hW hS => ?_)
                obtain ⟨ev_m, hM, hag⟩ := hp
                rw [ev_m]
                have hJn := JI_next hJ hC hM hag hJ.2.2.1 (hp_up hJ.2.2.2.1) (show n + (L.1 + 1) ≤ k + 1 by omega)
                refine lv_icmp_eq (tgt := 462) hx hb dL_law_286 (by decide) (fun _ => ?_) (fun q => absurd rfl q)
                refine lv_iinc (v := (nI (5 * (k + 1)))) (lv' := [(3, .int (nI (5 * (k + 1)))), (0, .ref b), (1, .ref (ad 0)), (2, .ref (ad 8))]) hx hb dL_law_462 hl (k := 0) rfl (nI_add (5 * k) 5) (by decide) rfl (fun ls hl => ?_)
                refine lv_goto (tgt := 18) hx hb dL_law_465 (by decide) ?_
                exact ih (k + 1) _ _ _ _ _ _ _ _ _ _ _ _ (by omega) hJn hW hS (lv_sub hl [0, 1, 2, 3] rfl)
              | some y =>
                refine lv_aload_n hx hb dL_law_258 rfl (lv_at hl 2 rfl) ?_
                refine lv_aload_n hx hb dL_law_259 rfl (lv_at hl 1 rfl) ?_
                refine lv_iload_n hx hb dL_law_260 rfl (lv_at hl 0 rfl) ?_
                refine lv_iconst (v := 1) hx hb dL_law_261 (by decide) ?_
                refine lv_iadd hx hb dL_law_262 ?_
                rw [show nI (5 * k) + (1 : Int32) = nI (5 * k + 1) from nI_add _ 1]
                refine lw_ld hx hb hX hbl hbA hS (j := 5 * k + 1) (by omega) hL dL_law_263 ?_
                rw [ei]
                refine lv_aload_n hx hb dL_law_264 rfl (lv_at hl 1 rfl) ?_
                refine lv_iload_n hx hb dL_law_265 rfl (lv_at hl 0 rfl) ?_
                refine lv_iconst (v := 2) hx hb dL_law_266 (by decide) ?_
                refine lv_iadd hx hb dL_law_267 ?_
                rw [show nI (5 * k) + (2 : Int32) = nI (5 * k + 2) from nI_add _ 2]
                refine lw_ld hx hb hX hbl hbA hS (j := 5 * k + 2) (by omega) hL dL_law_268 ?_
                rw [ej]
                refine hc_i (va_runV (As := [.int (nI i), .int (nI i)]) (rest := []) S (c_X4_link_se l G ad _ hJ.1 hi hlo hm4 el) (cwV 2 hts (gWSV q_l_L_32 q_im_X4_link q_se_X4_link q_in_4 q_co_X4_link) rfl rfl rfl (by decide +kernel) ⟨Nat.le_of_ble_eq_true rfl, Nat.le_of_ble_eq_true rfl⟩) (hPreVz hE hS (hrecv hE hW hJ.1.1 (q := (RX4, TX4, 9)) rfl) hW hsz) rfl rfl hl.1 rfl (lv_room (Nat.le_of_ble_eq_true rfl)) dL_law_269 ⟨fitC (k := k) (a := 1) (by omega) (by omega), fitS (k := k) (a := 2) (by omega) (by omega)⟩) hS (fun rv_c ct_c H locs hp hW hS => ?_)
                obtain ⟨ev_c, hC⟩ := hp
                rw [ev_c]
                have hM0 := RM_tr hJ.2.1 (RC_fr hC)
                obtain ⟨⟨_, _, _, _, _, _, g8, _⟩, _⟩ := id hM0
                refine W.widen (k := 31 + (k + 1)) (n := 5523 + 13 * (k + 1)) (by omega) (by omega) ?_
                refine lv_aload_n hx hb dL_law_272 rfl (lv_at hl 3 rfl) ?_
                refine lv_aload_n hx hb dL_law_273 rfl (lv_at hl 1 rfl) ?_
                refine lv_iload_n hx hb dL_law_274 rfl (lv_at hl 0 rfl) ?_
                refine lv_iconst (v := 1) hx hb dL_law_275 (by decide) ?_
                refine lv_iadd hx hb dL_law_276 ?_
                rw [show nI (5 * k) + (1 : Int32) = nI (5 * k + 1) from nI_add _ 1]
                refine lw_ld hx hb hX hbl hbA hS (j := 5 * k + 1) (by omega) hL dL_law_277 ?_
                rw [ei]
                refine lv_aload_n hx hb dL_law_278 rfl (lv_at hl 1 rfl) ?_
                refine lv_iload_n hx hb dL_law_279 rfl (lv_at hl 0 rfl) ?_
                refine lv_iconst (v := 2) hx hb dL_law_280 (by decide) ?_
                refine lv_iadd hx hb dL_law_281 ?_
                rw [show nI (5 * k) + (2 : Int32) = nI (5 * k + 2) from nI_add _ 2]
                refine lw_ld hx hb hX hbl hbA hS (j := 5 * k + 2) (by omega) hL dL_law_282 ?_
                rw [ej]
                refine hc_i (va_runV (As := [.int (nI i), .int (nI i)]) (rest := [.int (nI L.1)]) S (c_X5_link_ok l G ad _ hM0 hi hj hm4) (cwV 2 hts (gWSV q_l_L_35 q_im_X5_link q_se_X5_link q_in_5 q_co_X5_link) rfl rfl rfl (by decide +kernel) ⟨Nat.le_of_ble_eq_true rfl, Nat.le_of_ble_eq_true rfl⟩) (hPreVw hE hS (hrecv hE hW g8 (q := (RX5, TX5, 28)) rfl) hW) rfl rfl hl.1 rfl (lv_room (Nat.le_of_ble_eq_true rfl)) dL_law_283 ⟨fitC (k := k + 1) (a := 0) (by omega) (by omega), fitS (k := k + 1) (a := 0) (by omega) (by omega)⟩) hS (fun rv_m ct_m H locs hp hW hS => ?_)
                obtain ⟨ev_m, hM, hag⟩ := hp
                rw [ev_m]
                have hJn := JI_next hJ hC hM hag hJ.2.2.1 (hp_up hJ.2.2.2.1) (show n + (L.1 + 1) ≤ k + 1 by omega)
                refine lv_icmp_eq (tgt := 462) hx hb dL_law_286 (by decide) (fun _ => ?_) (fun q => absurd rfl q)
                refine lv_iinc (v := (nI (5 * (k + 1)))) (lv' := [(3, .int (nI (5 * (k + 1)))), (0, .ref b), (1, .ref (ad 0)), (2, .ref (ad 8))]) hx hb dL_law_462 hl (k := 0) rfl (nI_add (5 * k) 5) (by decide) rfl (fun ls hl => ?_)
                refine lv_goto (tgt := 18) hx hb dL_law_465 (by decide) ?_
                exact ih (k + 1) _ _ _ _ _ _ _ _ _ _ _ _ (by omega) hJn hW hS (lv_sub hl [0, 1, 2, 3] rfl)
            · cases hlo : lstL L.2.1 i L.1 with
              | none =>
                refine lv_aload_n hx hb dL_law_258 rfl (lv_at hl 2 rfl) ?_
                refine lv_aload_n hx hb dL_law_259 rfl (lv_at hl 1 rfl) ?_
                refine lv_iload_n hx hb dL_law_260 rfl (lv_at hl 0 rfl) ?_
                refine lv_iconst (v := 1) hx hb dL_law_261 (by decide) ?_
                refine lv_iadd hx hb dL_law_262 ?_
                rw [show nI (5 * k) + (1 : Int32) = nI (5 * k + 1) from nI_add _ 1]
                refine lw_ld hx hb hX hbl hbA hS (j := 5 * k + 1) (by omega) hL dL_law_263 ?_
                rw [ei]
                refine lv_aload_n hx hb dL_law_264 rfl (lv_at hl 1 rfl) ?_
                refine lv_iload_n hx hb dL_law_265 rfl (lv_at hl 0 rfl) ?_
                refine lv_iconst (v := 2) hx hb dL_law_266 (by decide) ?_
                refine lv_iadd hx hb dL_law_267 ?_
                rw [show nI (5 * k) + (2 : Int32) = nI (5 * k + 2) from nI_add _ 2]
                refine lw_ld hx hb hX hbl hbA hS (j := 5 * k + 2) (by omega) hL dL_law_268 ?_
                rw [ej]
                refine hc_i (va_runV (As := [.int (nI i), .int (nI j)]) (rest := []) S (c_X4_link_nd l G ad _ hJ.1 hi hj hij hlo hm4 el) (cwV 2 hts (gWSV q_l_L_32 q_im_X4_link q_se_X4_link q_in_4 q_co_X4_link) rfl rfl rfl (by decide +kernel) ⟨Nat.le_of_ble_eq_true rfl, Nat.le_of_ble_eq_true rfl⟩) (hPreVz hE hS (hrecv hE hW hJ.1.1 (q := (RX4, TX4, 9)) rfl) hW hsz) rfl rfl hl.1 rfl (lv_room (Nat.le_of_ble_eq_true rfl)) dL_law_269 ⟨fitC (k := k) (a := 1) (by omega) (by omega), fitS (k := k) (a := 2) (by omega) (by omega)⟩) hS (fun rv_c ct_c H locs hp hW hS => ?_)
                obtain ⟨ev_c, hC⟩ := hp
                rw [ev_c]
                have hM0 := RM_tr hJ.2.1 (RC_fr hC)
                obtain ⟨⟨_, _, _, _, _, _, g8, _⟩, _⟩ := id hM0
                refine W.widen (k := 31 + (k + 1)) (n := 5523 + 13 * (k + 1)) (by omega) (by omega) ?_
                refine lv_aload_n hx hb dL_law_272 rfl (lv_at hl 3 rfl) ?_
                refine lv_aload_n hx hb dL_law_273 rfl (lv_at hl 1 rfl) ?_
                refine lv_iload_n hx hb dL_law_274 rfl (lv_at hl 0 rfl) ?_
                refine lv_iconst (v := 1) hx hb dL_law_275 (by decide) ?_
                refine lv_iadd hx hb dL_law_276 ?_
                rw [show nI (5 * k) + (1 : Int32) = nI (5 * k + 1) from nI_add _ 1]
                refine lw_ld hx hb hX hbl hbA hS (j := 5 * k + 1) (by omega) hL dL_law_277 ?_
                rw [ei]
                refine lv_aload_n hx hb dL_law_278 rfl (lv_at hl 1 rfl) ?_
                refine lv_iload_n hx hb dL_law_279 rfl (lv_at hl 0 rfl) ?_
                refine lv_iconst (v := 2) hx hb dL_law_280 (by decide) ?_
                refine lv_iadd hx hb dL_law_281 ?_
                rw [show nI (5 * k) + (2 : Int32) = nI (5 * k + 2) from nI_add _ 2]
                refine lw_ld hx hb hX hbl hbA hS (j := 5 * k + 2) (by omega) hL dL_law_282 ?_
                rw [ej]
                refine hc_i (va_runV (As := [.int (nI i), .int (nI j)]) (rest := [.int (nI L.1)]) S (c_X5_link_ok l G ad _ hM0 hi hj hm4) (cwV 2 hts (gWSV q_l_L_35 q_im_X5_link q_se_X5_link q_in_5 q_co_X5_link) rfl rfl rfl (by decide +kernel) ⟨Nat.le_of_ble_eq_true rfl, Nat.le_of_ble_eq_true rfl⟩) (hPreVw hE hS (hrecv hE hW g8 (q := (RX5, TX5, 28)) rfl) hW) rfl rfl hl.1 rfl (lv_room (Nat.le_of_ble_eq_true rfl)) dL_law_283 ⟨fitC (k := k + 1) (a := 0) (by omega) (by omega), fitS (k := k + 1) (a := 0) (by omega) (by omega)⟩) hS (fun rv_m ct_m H locs hp hW hS => ?_)
                obtain ⟨ev_m, hM, hag⟩ := hp
                rw [ev_m]
                have hJn := JI_next hJ hC hM hag hJ.2.2.1 (hp_up hJ.2.2.2.1) (show n + (L.1 + 1) ≤ k + 1 by omega)
                refine lv_icmp_eq (tgt := 462) hx hb dL_law_286 (by decide) (fun _ => ?_) (fun q => absurd rfl q)
                refine lv_iinc (v := (nI (5 * (k + 1)))) (lv' := [(3, .int (nI (5 * (k + 1)))), (0, .ref b), (1, .ref (ad 0)), (2, .ref (ad 8))]) hx hb dL_law_462 hl (k := 0) rfl (nI_add (5 * k) 5) (by decide) rfl (fun ls hl => ?_)
                refine lv_goto (tgt := 18) hx hb dL_law_465 (by decide) ?_
                exact ih (k + 1) _ _ _ _ _ _ _ _ _ _ _ _ (by omega) hJn hW hS (lv_sub hl [0, 1, 2, 3] rfl)
              | some y =>
                refine lv_aload_n hx hb dL_law_258 rfl (lv_at hl 2 rfl) ?_
                refine lv_aload_n hx hb dL_law_259 rfl (lv_at hl 1 rfl) ?_
                refine lv_iload_n hx hb dL_law_260 rfl (lv_at hl 0 rfl) ?_
                refine lv_iconst (v := 1) hx hb dL_law_261 (by decide) ?_
                refine lv_iadd hx hb dL_law_262 ?_
                rw [show nI (5 * k) + (1 : Int32) = nI (5 * k + 1) from nI_add _ 1]
                refine lw_ld hx hb hX hbl hbA hS (j := 5 * k + 1) (by omega) hL dL_law_263 ?_
                rw [ei]
                refine lv_aload_n hx hb dL_law_264 rfl (lv_at hl 1 rfl) ?_
                refine lv_iload_n hx hb dL_law_265 rfl (lv_at hl 0 rfl) ?_
                refine lv_iconst (v := 2) hx hb dL_law_266 (by decide) ?_
                refine lv_iadd hx hb dL_law_267 ?_
                rw [show nI (5 * k) + (2 : Int32) = nI (5 * k + 2) from nI_add _ 2]
                refine lw_ld hx hb hX hbl hbA hS (j := 5 * k + 2) (by omega) hL dL_law_268 ?_
                rw [ej]
                refine hc_i (va_runV (As := [.int (nI i), .int (nI j)]) (rest := []) S (c_X4_link_sd l G ad _ hJ.1 hi hj hij hlo hm4 el) (cwV 2 hts (gWSV q_l_L_32 q_im_X4_link q_se_X4_link q_in_4 q_co_X4_link) rfl rfl rfl (by decide +kernel) ⟨Nat.le_of_ble_eq_true rfl, Nat.le_of_ble_eq_true rfl⟩) (hPreVz hE hS (hrecv hE hW hJ.1.1 (q := (RX4, TX4, 9)) rfl) hW hsz) rfl rfl hl.1 rfl (lv_room (Nat.le_of_ble_eq_true rfl)) dL_law_269 ⟨fitC (k := k) (a := 1) (by omega) (by omega), fitS (k := k) (a := 2) (by omega) (by omega)⟩) hS (fun rv_c ct_c H locs hp hW hS => ?_)
                obtain ⟨ev_c, hC⟩ := hp
                rw [ev_c]
                have hM0 := RM_tr hJ.2.1 (RC_fr hC)
                obtain ⟨⟨_, _, _, _, _, _, g8, _⟩, _⟩ := id hM0
                refine W.widen (k := 31 + (k + 1)) (n := 5523 + 13 * (k + 1)) (by omega) (by omega) ?_
                refine lv_aload_n hx hb dL_law_272 rfl (lv_at hl 3 rfl) ?_
                refine lv_aload_n hx hb dL_law_273 rfl (lv_at hl 1 rfl) ?_
                refine lv_iload_n hx hb dL_law_274 rfl (lv_at hl 0 rfl) ?_
                refine lv_iconst (v := 1) hx hb dL_law_275 (by decide) ?_
                refine lv_iadd hx hb dL_law_276 ?_
                rw [show nI (5 * k) + (1 : Int32) = nI (5 * k + 1) from nI_add _ 1]
                refine lw_ld hx hb hX hbl hbA hS (j := 5 * k + 1) (by omega) hL dL_law_277 ?_
                rw [ei]
                refine lv_aload_n hx hb dL_law_278 rfl (lv_at hl 1 rfl) ?_
                refine lv_iload_n hx hb dL_law_279 rfl (lv_at hl 0 rfl) ?_
                refine lv_iconst (v := 2) hx hb dL_law_280 (by decide) ?_
                refine lv_iadd hx hb dL_law_281 ?_
                rw [show nI (5 * k) + (2 : Int32) = nI (5 * k + 2) from nI_add _ 2]
                refine lw_ld hx hb hX hbl hbA hS (j := 5 * k + 2) (by omega) hL dL_law_282 ?_
                rw [ej]
                refine hc_i (va_runV (As := [.int (nI i), .int (nI j)]) (rest := [.int (nI L.1)]) S (c_X5_link_ok l G ad _ hM0 hi hj hm4) (cwV 2 hts (gWSV q_l_L_35 q_im_X5_link q_se_X5_link q_in_5 q_co_X5_link) rfl rfl rfl (by decide +kernel) ⟨Nat.le_of_ble_eq_true rfl, Nat.le_of_ble_eq_true rfl⟩) (hPreVw hE hS (hrecv hE hW g8 (q := (RX5, TX5, 28)) rfl) hW) rfl rfl hl.1 rfl (lv_room (Nat.le_of_ble_eq_true rfl)) dL_law_283 ⟨fitC (k := k + 1) (a := 0) (by omega) (by omega), fitS (k := k + 1) (a := 0) (by omega) (by omega)⟩) hS (fun rv_m ct_m H locs hp hW hS => ?_)
                obtain ⟨ev_m, hM, hag⟩ := hp
                rw [ev_m]
                have hJn := JI_next hJ hC hM hag hJ.2.2.1 (hp_up hJ.2.2.2.1) (show n + (L.1 + 1) ≤ k + 1 by omega)
                refine lv_icmp_eq (tgt := 462) hx hb dL_law_286 (by decide) (fun _ => ?_) (fun q => absurd rfl q)
                refine lv_iinc (v := (nI (5 * (k + 1)))) (lv' := [(3, .int (nI (5 * (k + 1)))), (0, .ref b), (1, .ref (ad 0)), (2, .ref (ad 8))]) hx hb dL_law_462 hl (k := 0) rfl (nI_add (5 * k) 5) (by decide) rfl (fun ls hl => ?_)
                refine lv_goto (tgt := 18) hx hb dL_law_465 (by decide) ?_
                exact ih (k + 1) _ _ _ _ _ _ _ _ _ _ _ _ (by omega) hJn hW hS (lv_sub hl [0, 1, 2, 3] rfl)
          · refine lv_aload_n hx hb dL_law_258 rfl (lv_at hl 2 rfl) ?_
            refine lv_aload_n hx hb dL_law_259 rfl (lv_at hl 1 rfl) ?_
            refine lv_iload_n hx hb dL_law_260 rfl (lv_at hl 0 rfl) ?_
            refine lv_iconst (v := 1) hx hb dL_law_261 (by decide) ?_
            refine lv_iadd hx hb dL_law_262 ?_
            rw [show nI (5 * k) + (1 : Int32) = nI (5 * k + 1) from nI_add _ 1]
            refine lw_ld hx hb hX hbl hbA hS (j := 5 * k + 1) (by omega) hL dL_law_263 ?_
            rw [ei]
            refine lv_aload_n hx hb dL_law_264 rfl (lv_at hl 1 rfl) ?_
            refine lv_iload_n hx hb dL_law_265 rfl (lv_at hl 0 rfl) ?_
            refine lv_iconst (v := 2) hx hb dL_law_266 (by decide) ?_
            refine lv_iadd hx hb dL_law_267 ?_
            rw [show nI (5 * k) + (2 : Int32) = nI (5 * k + 2) from nI_add _ 2]
            refine lw_ld hx hb hX hbl hbA hS (j := 5 * k + 2) (by omega) hL dL_law_268 ?_
            refine hc_i (va_runV (As := [.int (nI i), .int (xs (5 * k + 2))]) (rest := []) S (c_X4_link_c l G ad _ hJ.1 (N := H.size) hi hd) (cwV 2 hts (gWSV q_l_L_32 q_im_X4_link q_se_X4_link q_in_4 q_co_X4_link) rfl rfl rfl (by decide +kernel) ⟨Nat.le_of_ble_eq_true rfl, Nat.le_of_ble_eq_true rfl⟩) (hPreVz hE hS (hrecv hE hW hJ.1.1 (q := (RX4, TX4, 9)) rfl) hW hsz) rfl rfl hl.1 rfl (lv_room (Nat.le_of_ble_eq_true rfl)) dL_law_269 ⟨fitC (k := k) (a := 1) (by omega) (by omega), fitS (k := k) (a := 2) (by omega) (by omega)⟩) hS (fun rv_c ct_c H locs hp hW hS => ?_)
            obtain ⟨ev_c, hC⟩ := hp
            rw [ev_c]
            have hM0 := RM_tr hJ.2.1 (RC_fr hC)
            obtain ⟨⟨_, _, _, _, _, _, g8, _⟩, _⟩ := id hM0
            refine W.widen (k := 31 + (k + 1)) (n := 5523 + 13 * (k + 1)) (by omega) (by omega) ?_
            refine lv_aload_n hx hb dL_law_272 rfl (lv_at hl 3 rfl) ?_
            refine lv_aload_n hx hb dL_law_273 rfl (lv_at hl 1 rfl) ?_
            refine lv_iload_n hx hb dL_law_274 rfl (lv_at hl 0 rfl) ?_
            refine lv_iconst (v := 1) hx hb dL_law_275 (by decide) ?_
            refine lv_iadd hx hb dL_law_276 ?_
            rw [show nI (5 * k) + (1 : Int32) = nI (5 * k + 1) from nI_add _ 1]
            refine lw_ld hx hb hX hbl hbA hS (j := 5 * k + 1) (by omega) hL dL_law_277 ?_
            rw [ei]
            refine lv_aload_n hx hb dL_law_278 rfl (lv_at hl 1 rfl) ?_
            refine lv_iload_n hx hb dL_law_279 rfl (lv_at hl 0 rfl) ?_
            refine lv_iconst (v := 2) hx hb dL_law_280 (by decide) ?_
            refine lv_iadd hx hb dL_law_281 ?_
            rw [show nI (5 * k) + (2 : Int32) = nI (5 * k + 2) from nI_add _ 2]
            refine lw_ld hx hb hX hbl hbA hS (j := 5 * k + 2) (by omega) hL dL_law_282 ?_
            refine hc_i (va_runV (As := [.int (nI i), .int (xs (5 * k + 2))]) (rest := [.int (-1)]) S (c_X5_link_c l G ad _ hM0 hi hd) (cwV 2 hts (gWSV q_l_L_35 q_im_X5_link q_se_X5_link q_in_5 q_co_X5_link) rfl rfl rfl (by decide +kernel) ⟨Nat.le_of_ble_eq_true rfl, Nat.le_of_ble_eq_true rfl⟩) (hPreVw hE hS (hrecv hE hW g8 (q := (RX5, TX5, 28)) rfl) hW) rfl rfl hl.1 rfl (lv_room (Nat.le_of_ble_eq_true rfl)) dL_law_283 ⟨fitC (k := k + 1) (a := 0) (by omega) (by omega), fitS (k := k + 1) (a := 0) (by omega) (by omega)⟩) hS (fun rv_m ct_m H locs hp hW hS => ?_)
            obtain ⟨ev_m, hM, hag⟩ := hp
            rw [ev_m]
            have hJn := JI_next hJ hC hM hag hJ.2.2.1 (hp_up hJ.2.2.2.1) (Nat.le_succ_of_le hJ.2.2.2.2)
            refine lv_icmp_eq (tgt := 462) hx hb dL_law_286 (by decide) (fun _ => ?_) (fun q => absurd rfl q)
            refine lv_iinc (v := (nI (5 * (k + 1)))) (lv' := [(3, .int (nI (5 * (k + 1)))), (0, .ref b), (1, .ref (ad 0)), (2, .ref (ad 8))]) hx hb dL_law_462 hl (k := 0) rfl (nI_add (5 * k) 5) (by decide) rfl (fun ls hl => ?_)
            refine lv_goto (tgt := 18) hx hb dL_law_465 (by decide) ?_
            exact ih (k + 1) _ _ _ _ _ _ _ _ _ _ _ _ (by omega) hJn hW hS (lv_sub hl [0, 1, 2, 3] rfl)
        · rcases dev_cases n (xs (5 * k + 2)) with ⟨j, hj, ej⟩ | hb1
          · refine lv_aload_n hx hb dL_law_258 rfl (lv_at hl 2 rfl) ?_
            refine lv_aload_n hx hb dL_law_259 rfl (lv_at hl 1 rfl) ?_
            refine lv_iload_n hx hb dL_law_260 rfl (lv_at hl 0 rfl) ?_
            refine lv_iconst (v := 1) hx hb dL_law_261 (by decide) ?_
            refine lv_iadd hx hb dL_law_262 ?_
            rw [show nI (5 * k) + (1 : Int32) = nI (5 * k + 1) from nI_add _ 1]
            refine lw_ld hx hb hX hbl hbA hS (j := 5 * k + 1) (by omega) hL dL_law_263 ?_
            refine lv_aload_n hx hb dL_law_264 rfl (lv_at hl 1 rfl) ?_
            refine lv_iload_n hx hb dL_law_265 rfl (lv_at hl 0 rfl) ?_
            refine lv_iconst (v := 2) hx hb dL_law_266 (by decide) ?_
            refine lv_iadd hx hb dL_law_267 ?_
            rw [show nI (5 * k) + (2 : Int32) = nI (5 * k + 2) from nI_add _ 2]
            refine lw_ld hx hb hX hbl hbA hS (j := 5 * k + 2) (by omega) hL dL_law_268 ?_
            rw [ej]
            refine hc_i (va_runV (As := [.int (xs (5 * k + 1)), .int (nI j)]) (rest := []) S (c_X4_link_b l G ad _ hJ.1 (N := H.size) hd hj) (cwV 2 hts (gWSV q_l_L_32 q_im_X4_link q_se_X4_link q_in_4 q_co_X4_link) rfl rfl rfl (by decide +kernel) ⟨Nat.le_of_ble_eq_true rfl, Nat.le_of_ble_eq_true rfl⟩) (hPreVz hE hS (hrecv hE hW hJ.1.1 (q := (RX4, TX4, 9)) rfl) hW hsz) rfl rfl hl.1 rfl (lv_room (Nat.le_of_ble_eq_true rfl)) dL_law_269 ⟨fitC (k := k) (a := 1) (by omega) (by omega), fitS (k := k) (a := 2) (by omega) (by omega)⟩) hS (fun rv_c ct_c H locs hp hW hS => ?_)
            obtain ⟨ev_c, hC⟩ := hp
            rw [ev_c]
            have hM0 := RM_tr hJ.2.1 (RC_fr hC)
            obtain ⟨⟨_, _, _, _, _, _, g8, _⟩, _⟩ := id hM0
            refine W.widen (k := 31 + (k + 1)) (n := 5523 + 13 * (k + 1)) (by omega) (by omega) ?_
            refine lv_aload_n hx hb dL_law_272 rfl (lv_at hl 3 rfl) ?_
            refine lv_aload_n hx hb dL_law_273 rfl (lv_at hl 1 rfl) ?_
            refine lv_iload_n hx hb dL_law_274 rfl (lv_at hl 0 rfl) ?_
            refine lv_iconst (v := 1) hx hb dL_law_275 (by decide) ?_
            refine lv_iadd hx hb dL_law_276 ?_
            rw [show nI (5 * k) + (1 : Int32) = nI (5 * k + 1) from nI_add _ 1]
            refine lw_ld hx hb hX hbl hbA hS (j := 5 * k + 1) (by omega) hL dL_law_277 ?_
            refine lv_aload_n hx hb dL_law_278 rfl (lv_at hl 1 rfl) ?_
            refine lv_iload_n hx hb dL_law_279 rfl (lv_at hl 0 rfl) ?_
            refine lv_iconst (v := 2) hx hb dL_law_280 (by decide) ?_
            refine lv_iadd hx hb dL_law_281 ?_
            rw [show nI (5 * k) + (2 : Int32) = nI (5 * k + 2) from nI_add _ 2]
            refine lw_ld hx hb hX hbl hbA hS (j := 5 * k + 2) (by omega) hL dL_law_282 ?_
            rw [ej]
            refine hc_i (va_runV (As := [.int (xs (5 * k + 1)), .int (nI j)]) (rest := [.int (-1)]) S (c_X5_link_a l G ad _ hM0 (b0 := nI j) hd) (cwV 2 hts (gWSV q_l_L_35 q_im_X5_link q_se_X5_link q_in_5 q_co_X5_link) rfl rfl rfl (by decide +kernel) ⟨Nat.le_of_ble_eq_true rfl, Nat.le_of_ble_eq_true rfl⟩) (hPreVw hE hS (hrecv hE hW g8 (q := (RX5, TX5, 28)) rfl) hW) rfl rfl hl.1 rfl (lv_room (Nat.le_of_ble_eq_true rfl)) dL_law_283 ⟨fitC (k := k + 1) (a := 0) (by omega) (by omega), fitS (k := k + 1) (a := 0) (by omega) (by omega)⟩) hS (fun rv_m ct_m H locs hp hW hS => ?_)
            obtain ⟨ev_m, hM, hag⟩ := hp
            rw [ev_m]
            have hJn := JI_next hJ hC hM hag hJ.2.2.1 (hp_up hJ.2.2.2.1) (Nat.le_succ_of_le hJ.2.2.2.2)
            refine lv_icmp_eq (tgt := 462) hx hb dL_law_286 (by decide) (fun _ => ?_) (fun q => absurd rfl q)
            refine lv_iinc (v := (nI (5 * (k + 1)))) (lv' := [(3, .int (nI (5 * (k + 1)))), (0, .ref b), (1, .ref (ad 0)), (2, .ref (ad 8))]) hx hb dL_law_462 hl (k := 0) rfl (nI_add (5 * k) 5) (by decide) rfl (fun ls hl => ?_)
            refine lv_goto (tgt := 18) hx hb dL_law_465 (by decide) ?_
            exact ih (k + 1) _ _ _ _ _ _ _ _ _ _ _ _ (by omega) hJn hW hS (lv_sub hl [0, 1, 2, 3] rfl)
          · refine lv_aload_n hx hb dL_law_258 rfl (lv_at hl 2 rfl) ?_
            refine lv_aload_n hx hb dL_law_259 rfl (lv_at hl 1 rfl) ?_
            refine lv_iload_n hx hb dL_law_260 rfl (lv_at hl 0 rfl) ?_
            refine lv_iconst (v := 1) hx hb dL_law_261 (by decide) ?_
            refine lv_iadd hx hb dL_law_262 ?_
            rw [show nI (5 * k) + (1 : Int32) = nI (5 * k + 1) from nI_add _ 1]
            refine lw_ld hx hb hX hbl hbA hS (j := 5 * k + 1) (by omega) hL dL_law_263 ?_
            refine lv_aload_n hx hb dL_law_264 rfl (lv_at hl 1 rfl) ?_
            refine lv_iload_n hx hb dL_law_265 rfl (lv_at hl 0 rfl) ?_
            refine lv_iconst (v := 2) hx hb dL_law_266 (by decide) ?_
            refine lv_iadd hx hb dL_law_267 ?_
            rw [show nI (5 * k) + (2 : Int32) = nI (5 * k + 2) from nI_add _ 2]
            refine lw_ld hx hb hX hbl hbA hS (j := 5 * k + 2) (by omega) hL dL_law_268 ?_
            refine hc_i (va_runV (As := [.int (xs (5 * k + 1)), .int (xs (5 * k + 2))]) (rest := []) S (c_X4_link_a l G ad _ hJ.1 (N := H.size) hd hb1) (cwV 2 hts (gWSV q_l_L_32 q_im_X4_link q_se_X4_link q_in_4 q_co_X4_link) rfl rfl rfl (by decide +kernel) ⟨Nat.le_of_ble_eq_true rfl, Nat.le_of_ble_eq_true rfl⟩) (hPreVz hE hS (hrecv hE hW hJ.1.1 (q := (RX4, TX4, 9)) rfl) hW hsz) rfl rfl hl.1 rfl (lv_room (Nat.le_of_ble_eq_true rfl)) dL_law_269 ⟨fitC (k := k) (a := 1) (by omega) (by omega), fitS (k := k) (a := 2) (by omega) (by omega)⟩) hS (fun rv_c ct_c H locs hp hW hS => ?_)
            obtain ⟨ev_c, hC⟩ := hp
            rw [ev_c]
            have hM0 := RM_tr hJ.2.1 (RC_fr hC)
            obtain ⟨⟨_, _, _, _, _, _, g8, _⟩, _⟩ := id hM0
            refine W.widen (k := 31 + (k + 1)) (n := 5523 + 13 * (k + 1)) (by omega) (by omega) ?_
            refine lv_aload_n hx hb dL_law_272 rfl (lv_at hl 3 rfl) ?_
            refine lv_aload_n hx hb dL_law_273 rfl (lv_at hl 1 rfl) ?_
            refine lv_iload_n hx hb dL_law_274 rfl (lv_at hl 0 rfl) ?_
            refine lv_iconst (v := 1) hx hb dL_law_275 (by decide) ?_
            refine lv_iadd hx hb dL_law_276 ?_
            rw [show nI (5 * k) + (1 : Int32) = nI (5 * k + 1) from nI_add _ 1]
            refine lw_ld hx hb hX hbl hbA hS (j := 5 * k + 1) (by omega) hL dL_law_277 ?_
            refine lv_aload_n hx hb dL_law_278 rfl (lv_at hl 1 rfl) ?_
            refine lv_iload_n hx hb dL_law_279 rfl (lv_at hl 0 rfl) ?_
            refine lv_iconst (v := 2) hx hb dL_law_280 (by decide) ?_
            refine lv_iadd hx hb dL_law_281 ?_
            rw [show nI (5 * k) + (2 : Int32) = nI (5 * k + 2) from nI_add _ 2]
            refine lw_ld hx hb hX hbl hbA hS (j := 5 * k + 2) (by omega) hL dL_law_282 ?_
            refine hc_i (va_runV (As := [.int (xs (5 * k + 1)), .int (xs (5 * k + 2))]) (rest := [.int (-1)]) S (c_X5_link_a l G ad _ hM0 (b0 := xs (5 * k + 2)) hd) (cwV 2 hts (gWSV q_l_L_35 q_im_X5_link q_se_X5_link q_in_5 q_co_X5_link) rfl rfl rfl (by decide +kernel) ⟨Nat.le_of_ble_eq_true rfl, Nat.le_of_ble_eq_true rfl⟩) (hPreVw hE hS (hrecv hE hW g8 (q := (RX5, TX5, 28)) rfl) hW) rfl rfl hl.1 rfl (lv_room (Nat.le_of_ble_eq_true rfl)) dL_law_283 ⟨fitC (k := k + 1) (a := 0) (by omega) (by omega), fitS (k := k + 1) (a := 0) (by omega) (by omega)⟩) hS (fun rv_m ct_m H locs hp hW hS => ?_)
            obtain ⟨ev_m, hM, hag⟩ := hp
            rw [ev_m]
            have hJn := JI_next hJ hC hM hag hJ.2.2.1 (hp_up hJ.2.2.2.1) (Nat.le_succ_of_le hJ.2.2.2.2)
            refine lv_icmp_eq (tgt := 462) hx hb dL_law_286 (by decide) (fun _ => ?_) (fun q => absurd rfl q)
            refine lv_iinc (v := (nI (5 * (k + 1)))) (lv' := [(3, .int (nI (5 * (k + 1)))), (0, .ref b), (1, .ref (ad 0)), (2, .ref (ad 8))]) hx hb dL_law_462 hl (k := 0) rfl (nI_add (5 * k) 5) (by decide) rfl (fun ls hl => ?_)
            refine lv_goto (tgt := 18) hx hb dL_law_465 (by decide) ?_
            exact ih (k + 1) _ _ _ _ _ _ _ _ _ _ _ _ (by omega) hJn hW hS (lv_sub hl [0, 1, 2, 3] rfl)
      · refine lv_tableIn (off := 259) (tgt := 291) hx hb dL_law_32 (by decide) (by decide) (by decide) (by decide) ?_
        rcases dev_cases n (xs (5 * k + 1)) with ⟨i, hi, ei⟩ | hd
        · obtain ⟨pp, hpp, hpB, hpq⟩ := hJ.2.2.2.1
          have hPZ := pz_new (ks := ks) (x := xs (5 * k + 2)) hpp hJ.2.1.2.2.2.2.2.1 hi hJ.2.2.1 hpq
          refine lv_aload_n hx hb dL_law_291 rfl (lv_at hl 2 rfl) ?_
          refine lv_aload_n hx hb dL_law_292 rfl (lv_at hl 1 rfl) ?_
          refine lv_iload_n hx hb dL_law_293 rfl (lv_at hl 0 rfl) ?_
          refine lv_iconst (v := 1) hx hb dL_law_294 (by decide) ?_
          refine lv_iadd hx hb dL_law_295 ?_
          rw [show nI (5 * k) + (1 : Int32) = nI (5 * k + 1) from nI_add _ 1]
          refine lw_ld hx hb hX hbl hbA hS (j := 5 * k + 1) (by omega) hL dL_law_296 ?_
          rw [ei]
          refine lv_aload_n hx hb dL_law_297 rfl (lv_at hl 1 rfl) ?_
          refine lv_iload_n hx hb dL_law_298 rfl (lv_at hl 0 rfl) ?_
          refine lv_iconst (v := 2) hx hb dL_law_299 (by decide) ?_
          refine lv_iadd hx hb dL_law_300 ?_
          rw [show nI (5 * k) + (2 : Int32) = nI (5 * k + 2) from nI_add _ 2]
          refine lw_ld hx hb hX hbl hbA hS (j := 5 * k + 2) (by omega) hL dL_law_301 ?_
          refine hc_i (va_runV (As := [.int (nI i), .int (xs (5 * k + 2))]) (rest := []) S (c_X4_pass_ok l G ad _ hJ.1 hi (xs (5 * k + 2))) (cwV 2 hts (gWSV q_l_L_36 q_im_X4_pass q_se_X4_pass q_in_4 q_co_X4_pass) rfl rfl rfl (by decide +kernel) ⟨Nat.le_of_ble_eq_true rfl, Nat.le_of_ble_eq_true rfl⟩) (hPreVw hE hS (hrecv hE hW hJ.1.1 (q := (RX4, TX4, 9)) rfl) hW) rfl rfl hl.1 rfl (lv_room (Nat.le_of_ble_eq_true rfl)) dL_law_302 ⟨fitC (k := k) (a := 0) (by omega) (by omega), fitS (k := k) (a := 0) (by omega) (by omega)⟩) hS (fun rv_c ct_c H locs hp hW hS => ?_)
          obtain ⟨ev_c, tkr, hC, _⟩ := hp
          rw [ev_c]
          have hM0 := RM_tr hJ.2.1 (RC_fr hC)
          obtain ⟨⟨_, _, _, _, _, _, g8, _⟩, _⟩ := id hM0
          refine W.widen (k := 31 + (k + 1)) (n := 5523 + 13 * (k + 1)) (by omega) (by omega) ?_
          refine lv_aload_n hx hb dL_law_305 rfl (lv_at hl 3 rfl) ?_
          refine lv_aload_n hx hb dL_law_306 rfl (lv_at hl 1 rfl) ?_
          refine lv_iload_n hx hb dL_law_307 rfl (lv_at hl 0 rfl) ?_
          refine lv_iconst (v := 1) hx hb dL_law_308 (by decide) ?_
          refine lv_iadd hx hb dL_law_309 ?_
          rw [show nI (5 * k) + (1 : Int32) = nI (5 * k + 1) from nI_add _ 1]
          refine lw_ld hx hb hX hbl hbA hS (j := 5 * k + 1) (by omega) hL dL_law_310 ?_
          rw [ei]
          refine lv_aload_n hx hb dL_law_311 rfl (lv_at hl 1 rfl) ?_
          refine lv_iload_n hx hb dL_law_312 rfl (lv_at hl 0 rfl) ?_
          refine lv_iconst (v := 2) hx hb dL_law_313 (by decide) ?_
          refine lv_iadd hx hb dL_law_314 ?_
          rw [show nI (5 * k) + (2 : Int32) = nI (5 * k + 2) from nI_add _ 2]
          refine lw_ld hx hb hX hbl hbA hS (j := 5 * k + 2) (by omega) hL dL_law_315 ?_
          refine hc_i (va_runV (As := [.int (nI i), .int (xs (5 * k + 2))]) (rest := [.int (nI (psR (tyM ks) (K.2.2 + 1) n L i (xs (5 * k + 2)) A T).2.2.2)]) S (c_X5_pass_ok l G ad _ hM0 (T := T) rfl (pl0 := K.2.2 + 1) (pl_new hpp hpB (by omega) hpq) hi (xs (5 * k + 2))) (cwV 2 hts (gWSV q_l_L_39 q_im_X5_pass q_se_X5_pass q_in_5 q_co_X5_pass) rfl rfl rfl (by decide +kernel) ⟨Nat.le_of_ble_eq_true rfl, Nat.le_of_ble_eq_true rfl⟩) (hPreVw hE hS (hrecv hE hW g8 (q := (RX5, TX5, 28)) rfl) hW) rfl rfl hl.1 rfl (lv_room (Nat.le_of_ble_eq_true rfl)) dL_law_316 ⟨fitC (k := k + 1) (a := 0) (by omega) (by omega), fitS (k := k + 1) (a := 0) (by omega) (by omega)⟩) hS (fun rv_m ct_m H locs hp hW hS => ?_)
          obtain ⟨ev_m, hM, hag⟩ := hp
          rw [ev_m]
          have hJn := JI_next hJ hC hM hag hPZ.1 ⟨pp + 1, (show K.2.2 + 1 = nI (pp + 1) by rw [hpp, nI_1]), by omega, hPZ.2⟩ (Nat.le_succ_of_le hJ.2.2.2.2)
          refine lv_icmp_eq (tgt := 462) hx hb dL_law_319 (by decide) (fun _ => ?_) (fun q => absurd rfl q)
          refine lv_iinc (v := (nI (5 * (k + 1)))) (lv' := [(3, .int (nI (5 * (k + 1)))), (0, .ref b), (1, .ref (ad 0)), (2, .ref (ad 8))]) hx hb dL_law_462 hl (k := 0) rfl (nI_add (5 * k) 5) (by decide) rfl (fun ls hl => ?_)
          refine lv_goto (tgt := 18) hx hb dL_law_465 (by decide) ?_
          exact ih (k + 1) _ _ _ _ _ _ _ _ _ _ _ _ (by omega) hJn hW hS (lv_sub hl [0, 1, 2, 3] rfl)
        · refine lv_aload_n hx hb dL_law_291 rfl (lv_at hl 2 rfl) ?_
          refine lv_aload_n hx hb dL_law_292 rfl (lv_at hl 1 rfl) ?_
          refine lv_iload_n hx hb dL_law_293 rfl (lv_at hl 0 rfl) ?_
          refine lv_iconst (v := 1) hx hb dL_law_294 (by decide) ?_
          refine lv_iadd hx hb dL_law_295 ?_
          rw [show nI (5 * k) + (1 : Int32) = nI (5 * k + 1) from nI_add _ 1]
          refine lw_ld hx hb hX hbl hbA hS (j := 5 * k + 1) (by omega) hL dL_law_296 ?_
          refine lv_aload_n hx hb dL_law_297 rfl (lv_at hl 1 rfl) ?_
          refine lv_iload_n hx hb dL_law_298 rfl (lv_at hl 0 rfl) ?_
          refine lv_iconst (v := 2) hx hb dL_law_299 (by decide) ?_
          refine lv_iadd hx hb dL_law_300 ?_
          rw [show nI (5 * k) + (2 : Int32) = nI (5 * k + 2) from nI_add _ 2]
          refine lw_ld hx hb hX hbl hbA hS (j := 5 * k + 2) (by omega) hL dL_law_301 ?_
          refine hc_i (va_runV (As := [.int (xs (5 * k + 1)), .int (xs (5 * k + 2))]) (rest := []) S (c_X4_pass_no l G ad _ hJ.1 hd (xs (5 * k + 2))) (cwV 2 hts (gWSV q_l_L_36 q_im_X4_pass q_se_X4_pass q_in_4 q_co_X4_pass) rfl rfl rfl (by decide +kernel) ⟨Nat.le_of_ble_eq_true rfl, Nat.le_of_ble_eq_true rfl⟩) (hPreVw hE hS (hrecv hE hW hJ.1.1 (q := (RX4, TX4, 9)) rfl) hW) rfl rfl hl.1 rfl (lv_room (Nat.le_of_ble_eq_true rfl)) dL_law_302 ⟨fitC (k := k) (a := 0) (by omega) (by omega), fitS (k := k) (a := 0) (by omega) (by omega)⟩) hS (fun rv_c ct_c H locs hp hW hS => ?_)
          obtain ⟨ev_c, hC⟩ := hp
          rw [ev_c]
          have hM0 := RM_tr hJ.2.1 (RC_fr hC)
          obtain ⟨⟨_, _, _, _, _, _, g8, _⟩, _⟩ := id hM0
          refine W.widen (k := 31 + (k + 1)) (n := 5523 + 13 * (k + 1)) (by omega) (by omega) ?_
          refine lv_aload_n hx hb dL_law_305 rfl (lv_at hl 3 rfl) ?_
          refine lv_aload_n hx hb dL_law_306 rfl (lv_at hl 1 rfl) ?_
          refine lv_iload_n hx hb dL_law_307 rfl (lv_at hl 0 rfl) ?_
          refine lv_iconst (v := 1) hx hb dL_law_308 (by decide) ?_
          refine lv_iadd hx hb dL_law_309 ?_
          rw [show nI (5 * k) + (1 : Int32) = nI (5 * k + 1) from nI_add _ 1]
          refine lw_ld hx hb hX hbl hbA hS (j := 5 * k + 1) (by omega) hL dL_law_310 ?_
          refine lv_aload_n hx hb dL_law_311 rfl (lv_at hl 1 rfl) ?_
          refine lv_iload_n hx hb dL_law_312 rfl (lv_at hl 0 rfl) ?_
          refine lv_iconst (v := 2) hx hb dL_law_313 (by decide) ?_
          refine lv_iadd hx hb dL_law_314 ?_
          rw [show nI (5 * k) + (2 : Int32) = nI (5 * k + 2) from nI_add _ 2]
          refine lw_ld hx hb hX hbl hbA hS (j := 5 * k + 2) (by omega) hL dL_law_315 ?_
          refine hc_i (va_runV (As := [.int (xs (5 * k + 1)), .int (xs (5 * k + 2))]) (rest := [.int 0]) S (c_X5_pass_no l G ad _ hM0 hd (xs (5 * k + 2))) (cwV 2 hts (gWSV q_l_L_39 q_im_X5_pass q_se_X5_pass q_in_5 q_co_X5_pass) rfl rfl rfl (by decide +kernel) ⟨Nat.le_of_ble_eq_true rfl, Nat.le_of_ble_eq_true rfl⟩) (hPreVw hE hS (hrecv hE hW g8 (q := (RX5, TX5, 28)) rfl) hW) rfl rfl hl.1 rfl (lv_room (Nat.le_of_ble_eq_true rfl)) dL_law_316 ⟨fitC (k := k + 1) (a := 0) (by omega) (by omega), fitS (k := k + 1) (a := 0) (by omega) (by omega)⟩) hS (fun rv_m ct_m H locs hp hW hS => ?_)
          obtain ⟨ev_m, hM, hag⟩ := hp
          rw [ev_m]
          have hJn := JI_next hJ hC hM hag hJ.2.2.1 (hp_up hJ.2.2.2.1) (Nat.le_succ_of_le hJ.2.2.2.2)
          refine lv_icmp_eq (tgt := 462) hx hb dL_law_319 (by decide) (fun _ => ?_) (fun q => absurd rfl q)
          refine lv_iinc (v := (nI (5 * (k + 1)))) (lv' := [(3, .int (nI (5 * (k + 1)))), (0, .ref b), (1, .ref (ad 0)), (2, .ref (ad 8))]) hx hb dL_law_462 hl (k := 0) rfl (nI_add (5 * k) 5) (by decide) rfl (fun ls hl => ?_)
          refine lv_goto (tgt := 18) hx hb dL_law_465 (by decide) ?_
          exact ih (k + 1) _ _ _ _ _ _ _ _ _ _ _ _ (by omega) hJn hW hS (lv_sub hl [0, 1, 2, 3] rfl)
      · refine lv_tableIn (off := 292) (tgt := 324) hx hb dL_law_32 (by decide) (by decide) (by decide) (by decide) ?_
        rcases dev_cases n (xs (5 * k + 1)) with ⟨i, hi, ei⟩ | hd
        · refine lv_aload_n hx hb dL_law_324 rfl (lv_at hl 2 rfl) ?_
          refine lv_aload_n hx hb dL_law_325 rfl (lv_at hl 1 rfl) ?_
          refine lv_iload_n hx hb dL_law_326 rfl (lv_at hl 0 rfl) ?_
          refine lv_iconst (v := 1) hx hb dL_law_327 (by decide) ?_
          refine lv_iadd hx hb dL_law_328 ?_
          rw [show nI (5 * k) + (1 : Int32) = nI (5 * k + 1) from nI_add _ 1]
          refine lw_ld hx hb hX hbl hbA hS (j := 5 * k + 1) (by omega) hL dL_law_329 ?_
          rw [ei]
          refine lv_aload_n hx hb dL_law_330 rfl (lv_at hl 1 rfl) ?_
          refine lv_iload_n hx hb dL_law_331 rfl (lv_at hl 0 rfl) ?_
          refine lv_iconst (v := 2) hx hb dL_law_332 (by decide) ?_
          refine lv_iadd hx hb dL_law_333 ?_
          rw [show nI (5 * k) + (2 : Int32) = nI (5 * k + 2) from nI_add _ 2]
          refine lw_ld hx hb hX hbl hbA hS (j := 5 * k + 2) (by omega) hL dL_law_334 ?_
          refine hc_r (va_runV (As := [.int (nI i), .int (xs (5 * k + 2))]) (rest := []) S (c_X4_able_ok l G _ hW hJ.1 hi (xs (5 * k + 2))) (cwV 2 hts (gWSV q_l_L_40 q_im_X4_able q_se_X4_able q_in_4 q_co_X4_able) rfl rfl rfl (by decide +kernel) ⟨Nat.le_of_ble_eq_true rfl, Nat.le_of_ble_eq_true rfl⟩) (hPreVr hE hS (hrecv hE hW hJ.1.1 (q := (RX4, TX4, 9)) rfl)) rfl rfl hl.1 rfl (lv_room (Nat.le_of_ble_eq_true rfl)) dL_law_335 ⟨fitC (k := k) (a := 0) (by omega) (by omega), fitS (k := k) (a := 0) (by omega) (by omega)⟩) hS (fun locs hS => ?_)
          have hM0 := hJ.2.1
          obtain ⟨⟨_, _, _, _, _, _, g8, _⟩, _⟩ := id hM0
          refine W.widen (k := 31 + (k + 1)) (n := 5523 + 13 * (k + 1)) (by omega) (by omega) ?_
          refine lv_aload_n hx hb dL_law_338 rfl (lv_at hl 3 rfl) ?_
          refine lv_aload_n hx hb dL_law_339 rfl (lv_at hl 1 rfl) ?_
          refine lv_iload_n hx hb dL_law_340 rfl (lv_at hl 0 rfl) ?_
          refine lv_iconst (v := 1) hx hb dL_law_341 (by decide) ?_
          refine lv_iadd hx hb dL_law_342 ?_
          rw [show nI (5 * k) + (1 : Int32) = nI (5 * k + 1) from nI_add _ 1]
          refine lw_ld hx hb hX hbl hbA hS (j := 5 * k + 1) (by omega) hL dL_law_343 ?_
          rw [ei]
          refine lv_aload_n hx hb dL_law_344 rfl (lv_at hl 1 rfl) ?_
          refine lv_iload_n hx hb dL_law_345 rfl (lv_at hl 0 rfl) ?_
          refine lv_iconst (v := 2) hx hb dL_law_346 (by decide) ?_
          refine lv_iadd hx hb dL_law_347 ?_
          rw [show nI (5 * k) + (2 : Int32) = nI (5 * k + 2) from nI_add _ 2]
          refine lw_ld hx hb hX hbl hbA hS (j := 5 * k + 2) (by omega) hL dL_law_348 ?_
          refine hc_r (va_runV (As := [.int (nI i), .int (xs (5 * k + 2))]) (rest := [.int (ableF (tyM ks i) (xs (5 * k + 2)))]) S (c_X5_able_ok l G _ hW hM0 hi (xs (5 * k + 2))) (cwV 2 hts (gWSV q_l_L_43 q_im_X5_able q_se_X5_able q_in_5 q_co_X5_able) rfl rfl rfl (by decide +kernel) ⟨Nat.le_of_ble_eq_true rfl, Nat.le_of_ble_eq_true rfl⟩) (hPreVr hE hS (hrecv hE hW g8 (q := (RX5, TX5, 28)) rfl)) rfl rfl hl.1 rfl (lv_room (Nat.le_of_ble_eq_true rfl)) dL_law_349 ⟨fitC (k := k + 1) (a := 0) (by omega) (by omega), fitS (k := k + 1) (a := 0) (by omega) (by omega)⟩) hS (fun locs hS => ?_)
          have hJn := JI_up hJ
          refine lv_icmp_eq (tgt := 462) hx hb dL_law_352 (by decide) (fun _ => ?_) (fun q => absurd rfl q)
          refine lv_iinc (v := (nI (5 * (k + 1)))) (lv' := [(3, .int (nI (5 * (k + 1)))), (0, .ref b), (1, .ref (ad 0)), (2, .ref (ad 8))]) hx hb dL_law_462 hl (k := 0) rfl (nI_add (5 * k) 5) (by decide) rfl (fun ls hl => ?_)
          refine lv_goto (tgt := 18) hx hb dL_law_465 (by decide) ?_
          exact ih (k + 1) _ _ _ _ _ _ _ _ _ _ _ _ (by omega) hJn hW hS (lv_sub hl [0, 1, 2, 3] rfl)
        · refine lv_aload_n hx hb dL_law_324 rfl (lv_at hl 2 rfl) ?_
          refine lv_aload_n hx hb dL_law_325 rfl (lv_at hl 1 rfl) ?_
          refine lv_iload_n hx hb dL_law_326 rfl (lv_at hl 0 rfl) ?_
          refine lv_iconst (v := 1) hx hb dL_law_327 (by decide) ?_
          refine lv_iadd hx hb dL_law_328 ?_
          rw [show nI (5 * k) + (1 : Int32) = nI (5 * k + 1) from nI_add _ 1]
          refine lw_ld hx hb hX hbl hbA hS (j := 5 * k + 1) (by omega) hL dL_law_329 ?_
          refine lv_aload_n hx hb dL_law_330 rfl (lv_at hl 1 rfl) ?_
          refine lv_iload_n hx hb dL_law_331 rfl (lv_at hl 0 rfl) ?_
          refine lv_iconst (v := 2) hx hb dL_law_332 (by decide) ?_
          refine lv_iadd hx hb dL_law_333 ?_
          rw [show nI (5 * k) + (2 : Int32) = nI (5 * k + 2) from nI_add _ 2]
          refine lw_ld hx hb hX hbl hbA hS (j := 5 * k + 2) (by omega) hL dL_law_334 ?_
          refine hc_r (va_runV (As := [.int (xs (5 * k + 1)), .int (xs (5 * k + 2))]) (rest := []) S (c_X4_able_no l G _ hW hJ.1 hd (xs (5 * k + 2))) (cwV 2 hts (gWSV q_l_L_40 q_im_X4_able q_se_X4_able q_in_4 q_co_X4_able) rfl rfl rfl (by decide +kernel) ⟨Nat.le_of_ble_eq_true rfl, Nat.le_of_ble_eq_true rfl⟩) (hPreVr hE hS (hrecv hE hW hJ.1.1 (q := (RX4, TX4, 9)) rfl)) rfl rfl hl.1 rfl (lv_room (Nat.le_of_ble_eq_true rfl)) dL_law_335 ⟨fitC (k := k) (a := 0) (by omega) (by omega), fitS (k := k) (a := 0) (by omega) (by omega)⟩) hS (fun locs hS => ?_)
          have hM0 := hJ.2.1
          obtain ⟨⟨_, _, _, _, _, _, g8, _⟩, _⟩ := id hM0
          refine W.widen (k := 31 + (k + 1)) (n := 5523 + 13 * (k + 1)) (by omega) (by omega) ?_
          refine lv_aload_n hx hb dL_law_338 rfl (lv_at hl 3 rfl) ?_
          refine lv_aload_n hx hb dL_law_339 rfl (lv_at hl 1 rfl) ?_
          refine lv_iload_n hx hb dL_law_340 rfl (lv_at hl 0 rfl) ?_
          refine lv_iconst (v := 1) hx hb dL_law_341 (by decide) ?_
          refine lv_iadd hx hb dL_law_342 ?_
          rw [show nI (5 * k) + (1 : Int32) = nI (5 * k + 1) from nI_add _ 1]
          refine lw_ld hx hb hX hbl hbA hS (j := 5 * k + 1) (by omega) hL dL_law_343 ?_
          refine lv_aload_n hx hb dL_law_344 rfl (lv_at hl 1 rfl) ?_
          refine lv_iload_n hx hb dL_law_345 rfl (lv_at hl 0 rfl) ?_
          refine lv_iconst (v := 2) hx hb dL_law_346 (by decide) ?_
          refine lv_iadd hx hb dL_law_347 ?_
          rw [show nI (5 * k) + (2 : Int32) = nI (5 * k + 2) from nI_add _ 2]
          refine lw_ld hx hb hX hbl hbA hS (j := 5 * k + 2) (by omega) hL dL_law_348 ?_
          refine hc_r (va_runV (As := [.int (xs (5 * k + 1)), .int (xs (5 * k + 2))]) (rest := [.int (-1)]) S (c_X5_able_no l G _ hW hM0 hd (xs (5 * k + 2))) (cwV 2 hts (gWSV q_l_L_43 q_im_X5_able q_se_X5_able q_in_5 q_co_X5_able) rfl rfl rfl (by decide +kernel) ⟨Nat.le_of_ble_eq_true rfl, Nat.le_of_ble_eq_true rfl⟩) (hPreVr hE hS (hrecv hE hW g8 (q := (RX5, TX5, 28)) rfl)) rfl rfl hl.1 rfl (lv_room (Nat.le_of_ble_eq_true rfl)) dL_law_349 ⟨fitC (k := k + 1) (a := 0) (by omega) (by omega), fitS (k := k + 1) (a := 0) (by omega) (by omega)⟩) hS (fun locs hS => ?_)
          have hJn := JI_up hJ
          refine lv_icmp_eq (tgt := 462) hx hb dL_law_352 (by decide) (fun _ => ?_) (fun q => absurd rfl q)
          refine lv_iinc (v := (nI (5 * (k + 1)))) (lv' := [(3, .int (nI (5 * (k + 1)))), (0, .ref b), (1, .ref (ad 0)), (2, .ref (ad 8))]) hx hb dL_law_462 hl (k := 0) rfl (nI_add (5 * k) 5) (by decide) rfl (fun ls hl => ?_)
          refine lv_goto (tgt := 18) hx hb dL_law_465 (by decide) ?_
          exact ih (k + 1) _ _ _ _ _ _ _ _ _ _ _ _ (by omega) hJn hW hS (lv_sub hl [0, 1, 2, 3] rfl)
      · refine lv_tableIn (off := 325) (tgt := 357) hx hb dL_law_32 (by decide) (by decide) (by decide) (by decide) ?_
        refine lv_aload_n hx hb dL_law_357 rfl (lv_at hl 2 rfl) ?_
        refine lv_aload_n hx hb dL_law_358 rfl (lv_at hl 1 rfl) ?_
        refine lv_iload_n hx hb dL_law_359 rfl (lv_at hl 0 rfl) ?_
        refine lv_iconst (v := 1) hx hb dL_law_360 (by decide) ?_
        refine lv_iadd hx hb dL_law_361 ?_
        rw [show nI (5 * k) + (1 : Int32) = nI (5 * k + 1) from nI_add _ 1]
        refine lw_ld hx hb hX hbl hbA hS (j := 5 * k + 1) (by omega) hL dL_law_362 ?_
        refine hc_r (va_runV (As := [.int (xs (5 * k + 1))]) (rest := []) S (c_X4_chain l G _ hW hJ.1 (xs (5 * k + 1))) (cwV 1 hts (gWSV q_l_L_44 q_im_X4_chain q_se_X4_chain q_in_4 q_co_X4_chain) rfl rfl rfl (by decide +kernel) ⟨Nat.le_of_ble_eq_true rfl, Nat.le_of_ble_eq_true rfl⟩) (hPreVr hE hS (hrecv hE hW hJ.1.1 (q := (RX4, TX4, 9)) rfl)) rfl rfl hl.1 rfl (lv_room (Nat.le_of_ble_eq_true rfl)) dL_law_363 ⟨fitC (k := k) (a := 0) (by omega) (by omega), fitS (k := k) (a := 0) (by omega) (by omega)⟩) hS (fun locs hS => ?_)
        have hM0 := hJ.2.1
        obtain ⟨⟨_, _, _, _, _, _, g8, _⟩, _⟩ := id hM0
        refine W.widen (k := 31 + (k + 1)) (n := 5523 + 13 * (k + 1)) (by omega) (by omega) ?_
        refine lv_aload_n hx hb dL_law_366 rfl (lv_at hl 3 rfl) ?_
        refine lv_aload_n hx hb dL_law_367 rfl (lv_at hl 1 rfl) ?_
        refine lv_iload_n hx hb dL_law_368 rfl (lv_at hl 0 rfl) ?_
        refine lv_iconst (v := 1) hx hb dL_law_369 (by decide) ?_
        refine lv_iadd hx hb dL_law_370 ?_
        rw [show nI (5 * k) + (1 : Int32) = nI (5 * k + 1) from nI_add _ 1]
        refine lw_ld hx hb hX hbl hbA hS (j := 5 * k + 1) (by omega) hL dL_law_371 ?_
        refine hc_r (va_runV (As := [.int (xs (5 * k + 1))]) (rest := [.int (keptF A.2.2.1 A.2.2.2 (xs (5 * k + 1)))]) S (c_X5_chain l G _ hW hM0 (xs (5 * k + 1))) (cwV 1 hts (gWSV q_l_L_48 q_im_X5_chain q_se_X5_chain q_in_5 q_co_X5_chain) rfl rfl rfl (by decide +kernel) ⟨Nat.le_of_ble_eq_true rfl, Nat.le_of_ble_eq_true rfl⟩) (hPreVr hE hS (hrecv hE hW g8 (q := (RX5, TX5, 28)) rfl)) rfl rfl hl.1 rfl (lv_room (Nat.le_of_ble_eq_true rfl)) dL_law_372 ⟨fitC (k := k + 1) (a := 0) (by omega) (by omega), fitS (k := k + 1) (a := 0) (by omega) (by omega)⟩) hS (fun locs hS => ?_)
        have hJn := JI_up hJ
        refine lv_icmp_eq (tgt := 462) hx hb dL_law_375 (by decide) (fun _ => ?_) (fun q => absurd rfl q)
        refine lv_iinc (v := (nI (5 * (k + 1)))) (lv' := [(3, .int (nI (5 * (k + 1)))), (0, .ref b), (1, .ref (ad 0)), (2, .ref (ad 8))]) hx hb dL_law_462 hl (k := 0) rfl (nI_add (5 * k) 5) (by decide) rfl (fun ls hl => ?_)
        refine lv_goto (tgt := 18) hx hb dL_law_465 (by decide) ?_
        exact ih (k + 1) _ _ _ _ _ _ _ _ _ _ _ _ (by omega) hJn hW hS (lv_sub hl [0, 1, 2, 3] rfl)
      · refine lv_tableIn (off := 348) (tgt := 380) hx hb dL_law_32 (by decide) (by decide) (by decide) (by decide) ?_
        refine lv_aload_n hx hb dL_law_380 rfl (lv_at hl 2 rfl) ?_
        refine hc_r (va_runV (As := []) (rest := []) S (c_X4_ran l G _ hW hJ.1 ) (cwV 0 hts (gWSV q_l_L_49 q_im_X4_ran q_se_X4_ran q_in_4 q_co_X4_ran) rfl rfl rfl (by decide +kernel) ⟨Nat.le_of_ble_eq_true rfl, Nat.le_of_ble_eq_true rfl⟩) (hPreVr hE hS (hrecv hE hW hJ.1.1 (q := (RX4, TX4, 9)) rfl)) rfl rfl hl.1 rfl (lv_room (Nat.le_of_ble_eq_true rfl)) dL_law_381 ⟨fitC (k := k) (a := 0) (by omega) (by omega), fitS (k := k) (a := 0) (by omega) (by omega)⟩) hS (fun locs hS => ?_)
        have hM0 := hJ.2.1
        obtain ⟨⟨_, _, _, _, _, _, g8, _⟩, _⟩ := id hM0
        refine W.widen (k := 31 + (k + 1)) (n := 5523 + 13 * (k + 1)) (by omega) (by omega) ?_
        refine lv_aload_n hx hb dL_law_384 rfl (lv_at hl 3 rfl) ?_
        refine hc_r (va_runV (As := []) (rest := [.int A.2.2.1]) S (c_X5_ran l G _ hW hM0 ) (cwV 0 hts (gWSV q_l_L_53 q_im_X5_ran q_se_X5_ran q_in_5 q_co_X5_ran) rfl rfl rfl (by decide +kernel) ⟨Nat.le_of_ble_eq_true rfl, Nat.le_of_ble_eq_true rfl⟩) (hPreVr hE hS (hrecv hE hW g8 (q := (RX5, TX5, 28)) rfl)) rfl rfl hl.1 rfl (lv_room (Nat.le_of_ble_eq_true rfl)) dL_law_385 ⟨fitC (k := k + 1) (a := 0) (by omega) (by omega), fitS (k := k + 1) (a := 0) (by omega) (by omega)⟩) hS (fun locs hS => ?_)
        have hJn := JI_up hJ
        refine lv_icmp_eq (tgt := 462) hx hb dL_law_388 (by decide) (fun _ => ?_) (fun q => absurd rfl q)
        refine lv_iinc (v := (nI (5 * (k + 1)))) (lv' := [(3, .int (nI (5 * (k + 1)))), (0, .ref b), (1, .ref (ad 0)), (2, .ref (ad 8))]) hx hb dL_law_462 hl (k := 0) rfl (nI_add (5 * k) 5) (by decide) rfl (fun ls hl => ?_)
        refine lv_goto (tgt := 18) hx hb dL_law_465 (by decide) ?_
        exact ih (k + 1) _ _ _ _ _ _ _ _ _ _ _ _ (by omega) hJn hW hS (lv_sub hl [0, 1, 2, 3] rfl)
      · refine lv_tableIn (off := 361) (tgt := 393) hx hb dL_law_32 (by decide) (by decide) (by decide) (by decide) ?_
        rcases dev_cases n (xs (5 * k + 1)) with ⟨i, hi, ei⟩ | hd
        · refine lv_aload_n hx hb dL_law_393 rfl (lv_at hl 2 rfl) ?_
          refine lv_aload_n hx hb dL_law_394 rfl (lv_at hl 1 rfl) ?_
          refine lv_iload_n hx hb dL_law_395 rfl (lv_at hl 0 rfl) ?_
          refine lv_iconst (v := 1) hx hb dL_law_396 (by decide) ?_
          refine lv_iadd hx hb dL_law_397 ?_
          rw [show nI (5 * k) + (1 : Int32) = nI (5 * k + 1) from nI_add _ 1]
          refine lw_ld hx hb hX hbl hbA hS (j := 5 * k + 1) (by omega) hL dL_law_398 ?_
          rw [ei]
          refine lv_aload_n hx hb dL_law_399 rfl (lv_at hl 1 rfl) ?_
          refine lv_iload_n hx hb dL_law_400 rfl (lv_at hl 0 rfl) ?_
          refine lv_iconst (v := 2) hx hb dL_law_401 (by decide) ?_
          refine lv_iadd hx hb dL_law_402 ?_
          rw [show nI (5 * k) + (2 : Int32) = nI (5 * k + 2) from nI_add _ 2]
          refine lw_ld hx hb hX hbl hbA hS (j := 5 * k + 2) (by omega) hL dL_law_403 ?_
          refine hc_i (va_runV (As := [.int (nI i), .int (xs (5 * k + 2))]) (rest := []) S (c_X4_state_ok l G ad _ hJ.1 hi (xs (5 * k + 2))) (cwV 2 hts (gWSV q_l_L_54 q_im_X4_state q_se_X4_state q_in_4 q_co_X4_state) rfl rfl rfl (by decide +kernel) ⟨Nat.le_of_ble_eq_true rfl, Nat.le_of_ble_eq_true rfl⟩) (hPreVw hE hS (hrecv hE hW hJ.1.1 (q := (RX4, TX4, 9)) rfl) hW) rfl rfl hl.1 rfl (lv_room (Nat.le_of_ble_eq_true rfl)) dL_law_404 ⟨fitC (k := k) (a := 0) (by omega) (by omega), fitS (k := k) (a := 0) (by omega) (by omega)⟩) hS (fun rv_c ct_c H locs hp hW hS => ?_)
          obtain ⟨ev_c, hC⟩ := hp
          rw [ev_c]
          have hM0 := RM_tr hJ.2.1 (RC_fr hC)
          obtain ⟨⟨_, _, _, _, _, _, g8, _⟩, _⟩ := id hM0
          refine W.widen (k := 31 + (k + 1)) (n := 5523 + 13 * (k + 1)) (by omega) (by omega) ?_
          refine lv_aload_n hx hb dL_law_407 rfl (lv_at hl 3 rfl) ?_
          refine lv_aload_n hx hb dL_law_408 rfl (lv_at hl 1 rfl) ?_
          refine lv_iload_n hx hb dL_law_409 rfl (lv_at hl 0 rfl) ?_
          refine lv_iconst (v := 1) hx hb dL_law_410 (by decide) ?_
          refine lv_iadd hx hb dL_law_411 ?_
          rw [show nI (5 * k) + (1 : Int32) = nI (5 * k + 1) from nI_add _ 1]
          refine lw_ld hx hb hX hbl hbA hS (j := 5 * k + 1) (by omega) hL dL_law_412 ?_
          rw [ei]
          refine lv_aload_n hx hb dL_law_413 rfl (lv_at hl 1 rfl) ?_
          refine lv_iload_n hx hb dL_law_414 rfl (lv_at hl 0 rfl) ?_
          refine lv_iconst (v := 2) hx hb dL_law_415 (by decide) ?_
          refine lv_iadd hx hb dL_law_416 ?_
          rw [show nI (5 * k) + (2 : Int32) = nI (5 * k + 2) from nI_add _ 2]
          refine lw_ld hx hb hX hbl hbA hS (j := 5 * k + 2) (by omega) hL dL_law_417 ?_
          refine hc_i (va_runV (As := [.int (nI i), .int (xs (5 * k + 2))]) (rest := [.int ((stateR (tyM ks) A T L i (xs (5 * k + 2))).1)]) S (c_X5_state_ok l G ad _ hM0 hi (xs (5 * k + 2))) (cwV 2 hts (gWSV q_l_L_57 q_im_X5_state q_se_X5_state q_in_5 q_co_X5_state) rfl rfl rfl (by decide +kernel) ⟨Nat.le_of_ble_eq_true rfl, Nat.le_of_ble_eq_true rfl⟩) (hPreVw hE hS (hrecv hE hW g8 (q := (RX5, TX5, 28)) rfl) hW) rfl rfl hl.1 rfl (lv_room (Nat.le_of_ble_eq_true rfl)) dL_law_418 ⟨fitC (k := k + 1) (a := 0) (by omega) (by omega), fitS (k := k + 1) (a := 0) (by omega) (by omega)⟩) hS (fun rv_m ct_m H locs hp hW hS => ?_)
          obtain ⟨ev_m, hM, hag⟩ := hp
          rw [stateR_z] at ev_m hM
          rw [ev_m]
          have hJn := JI_next hJ hC hM hag hJ.2.2.1 (hp_up hJ.2.2.2.1) (Nat.le_succ_of_le hJ.2.2.2.2)
          refine lv_icmp_eq (tgt := 462) hx hb dL_law_421 (by decide) (fun _ => ?_) (fun q => absurd rfl q)
          refine lv_iinc (v := (nI (5 * (k + 1)))) (lv' := [(3, .int (nI (5 * (k + 1)))), (0, .ref b), (1, .ref (ad 0)), (2, .ref (ad 8))]) hx hb dL_law_462 hl (k := 0) rfl (nI_add (5 * k) 5) (by decide) rfl (fun ls hl => ?_)
          refine lv_goto (tgt := 18) hx hb dL_law_465 (by decide) ?_
          exact ih (k + 1) _ _ _ _ _ _ _ _ _ _ _ _ (by omega) hJn hW hS (lv_sub hl [0, 1, 2, 3] rfl)
        · refine lv_aload_n hx hb dL_law_393 rfl (lv_at hl 2 rfl) ?_
          refine lv_aload_n hx hb dL_law_394 rfl (lv_at hl 1 rfl) ?_
          refine lv_iload_n hx hb dL_law_395 rfl (lv_at hl 0 rfl) ?_
          refine lv_iconst (v := 1) hx hb dL_law_396 (by decide) ?_
          refine lv_iadd hx hb dL_law_397 ?_
          rw [show nI (5 * k) + (1 : Int32) = nI (5 * k + 1) from nI_add _ 1]
          refine lw_ld hx hb hX hbl hbA hS (j := 5 * k + 1) (by omega) hL dL_law_398 ?_
          refine lv_aload_n hx hb dL_law_399 rfl (lv_at hl 1 rfl) ?_
          refine lv_iload_n hx hb dL_law_400 rfl (lv_at hl 0 rfl) ?_
          refine lv_iconst (v := 2) hx hb dL_law_401 (by decide) ?_
          refine lv_iadd hx hb dL_law_402 ?_
          rw [show nI (5 * k) + (2 : Int32) = nI (5 * k + 2) from nI_add _ 2]
          refine lw_ld hx hb hX hbl hbA hS (j := 5 * k + 2) (by omega) hL dL_law_403 ?_
          refine hc_i (va_runV (As := [.int (xs (5 * k + 1)), .int (xs (5 * k + 2))]) (rest := []) S (c_X4_state_no l G ad _ hJ.1 hd (xs (5 * k + 2))) (cwV 2 hts (gWSV q_l_L_54 q_im_X4_state q_se_X4_state q_in_4 q_co_X4_state) rfl rfl rfl (by decide +kernel) ⟨Nat.le_of_ble_eq_true rfl, Nat.le_of_ble_eq_true rfl⟩) (hPreVw hE hS (hrecv hE hW hJ.1.1 (q := (RX4, TX4, 9)) rfl) hW) rfl rfl hl.1 rfl (lv_room (Nat.le_of_ble_eq_true rfl)) dL_law_404 ⟨fitC (k := k) (a := 0) (by omega) (by omega), fitS (k := k) (a := 0) (by omega) (by omega)⟩) hS (fun rv_c ct_c H locs hp hW hS => ?_)
          obtain ⟨ev_c, hC⟩ := hp
          rw [ev_c]
          have hM0 := RM_tr hJ.2.1 (RC_fr hC)
          obtain ⟨⟨_, _, _, _, _, _, g8, _⟩, _⟩ := id hM0
          refine W.widen (k := 31 + (k + 1)) (n := 5523 + 13 * (k + 1)) (by omega) (by omega) ?_
          refine lv_aload_n hx hb dL_law_407 rfl (lv_at hl 3 rfl) ?_
          refine lv_aload_n hx hb dL_law_408 rfl (lv_at hl 1 rfl) ?_
          refine lv_iload_n hx hb dL_law_409 rfl (lv_at hl 0 rfl) ?_
          refine lv_iconst (v := 1) hx hb dL_law_410 (by decide) ?_
          refine lv_iadd hx hb dL_law_411 ?_
          rw [show nI (5 * k) + (1 : Int32) = nI (5 * k + 1) from nI_add _ 1]
          refine lw_ld hx hb hX hbl hbA hS (j := 5 * k + 1) (by omega) hL dL_law_412 ?_
          refine lv_aload_n hx hb dL_law_413 rfl (lv_at hl 1 rfl) ?_
          refine lv_iload_n hx hb dL_law_414 rfl (lv_at hl 0 rfl) ?_
          refine lv_iconst (v := 2) hx hb dL_law_415 (by decide) ?_
          refine lv_iadd hx hb dL_law_416 ?_
          rw [show nI (5 * k) + (2 : Int32) = nI (5 * k + 2) from nI_add _ 2]
          refine lw_ld hx hb hX hbl hbA hS (j := 5 * k + 2) (by omega) hL dL_law_417 ?_
          refine hc_i (va_runV (As := [.int (xs (5 * k + 1)), .int (xs (5 * k + 2))]) (rest := [.int 0]) S (c_X5_state_no l G ad _ hM0 hd (xs (5 * k + 2))) (cwV 2 hts (gWSV q_l_L_57 q_im_X5_state q_se_X5_state q_in_5 q_co_X5_state) rfl rfl rfl (by decide +kernel) ⟨Nat.le_of_ble_eq_true rfl, Nat.le_of_ble_eq_true rfl⟩) (hPreVw hE hS (hrecv hE hW g8 (q := (RX5, TX5, 28)) rfl) hW) rfl rfl hl.1 rfl (lv_room (Nat.le_of_ble_eq_true rfl)) dL_law_418 ⟨fitC (k := k + 1) (a := 0) (by omega) (by omega), fitS (k := k + 1) (a := 0) (by omega) (by omega)⟩) hS (fun rv_m ct_m H locs hp hW hS => ?_)
          obtain ⟨ev_m, hM, hag⟩ := hp
          rw [ev_m]
          have hJn := JI_next hJ hC hM hag hJ.2.2.1 (hp_up hJ.2.2.2.1) (Nat.le_succ_of_le hJ.2.2.2.2)
          refine lv_icmp_eq (tgt := 462) hx hb dL_law_421 (by decide) (fun _ => ?_) (fun q => absurd rfl q)
          refine lv_iinc (v := (nI (5 * (k + 1)))) (lv' := [(3, .int (nI (5 * (k + 1)))), (0, .ref b), (1, .ref (ad 0)), (2, .ref (ad 8))]) hx hb dL_law_462 hl (k := 0) rfl (nI_add (5 * k) 5) (by decide) rfl (fun ls hl => ?_)
          refine lv_goto (tgt := 18) hx hb dL_law_465 (by decide) ?_
          exact ih (k + 1) _ _ _ _ _ _ _ _ _ _ _ _ (by omega) hJn hW hS (lv_sub hl [0, 1, 2, 3] rfl)
      · refine lv_tableIn (off := 394) (tgt := 426) hx hb dL_law_32 (by decide) (by decide) (by decide) (by decide) ?_
        refine lv_aload_n hx hb dL_law_426 rfl (lv_at hl 2 rfl) ?_
        refine lv_aload_n hx hb dL_law_427 rfl (lv_at hl 1 rfl) ?_
        refine lv_iload_n hx hb dL_law_428 rfl (lv_at hl 0 rfl) ?_
        refine lv_iconst (v := 1) hx hb dL_law_429 (by decide) ?_
        refine lv_iadd hx hb dL_law_430 ?_
        rw [show nI (5 * k) + (1 : Int32) = nI (5 * k + 1) from nI_add _ 1]
        refine lw_ld hx hb hX hbl hbA hS (j := 5 * k + 1) (by omega) hL dL_law_431 ?_
        refine hc_r (va_runV (As := [.int (xs (5 * k + 1))]) (rest := []) S (c_X4_size l G _ hW hJ.1 (xs (5 * k + 1))) (cwV 1 hts (gWSV q_l_L_58 q_im_X4_size q_se_X4_size q_in_4 q_co_X4_size) rfl rfl rfl (by decide +kernel) ⟨Nat.le_of_ble_eq_true rfl, Nat.le_of_ble_eq_true rfl⟩) (hPreVr hE hS (hrecv hE hW hJ.1.1 (q := (RX4, TX4, 9)) rfl)) rfl rfl hl.1 rfl (lv_room (Nat.le_of_ble_eq_true rfl)) dL_law_432 ⟨fitC (k := k) (a := 0) (by omega) (by omega), fitS (k := k) (a := 0) (by omega) (by omega)⟩) hS (fun locs hS => ?_)
        have hM0 := hJ.2.1
        obtain ⟨⟨_, _, _, _, _, _, g8, _⟩, _⟩ := id hM0
        refine W.widen (k := 31 + (k + 1)) (n := 5523 + 13 * (k + 1)) (by omega) (by omega) ?_
        refine lv_aload_n hx hb dL_law_435 rfl (lv_at hl 3 rfl) ?_
        refine lv_aload_n hx hb dL_law_436 rfl (lv_at hl 1 rfl) ?_
        refine lv_iload_n hx hb dL_law_437 rfl (lv_at hl 0 rfl) ?_
        refine lv_iconst (v := 1) hx hb dL_law_438 (by decide) ?_
        refine lv_iadd hx hb dL_law_439 ?_
        rw [show nI (5 * k) + (1 : Int32) = nI (5 * k + 1) from nI_add _ 1]
        refine lw_ld hx hb hX hbl hbA hS (j := 5 * k + 1) (by omega) hL dL_law_440 ?_
        refine hc_r (va_runV (As := [.int (xs (5 * k + 1))]) (rest := [.int (sizeF n L.1 (tyM ks) (xs (5 * k + 1)))]) S (c_X5_size l G _ hW hM0 (xs (5 * k + 1))) (cwV 1 hts (gWSV q_l_L_61 q_im_X5_size q_se_X5_size q_in_5 q_co_X5_size) rfl rfl rfl (by decide +kernel) ⟨Nat.le_of_ble_eq_true rfl, Nat.le_of_ble_eq_true rfl⟩) (hPreVr hE hS (hrecv hE hW g8 (q := (RX5, TX5, 28)) rfl)) rfl rfl hl.1 rfl (lv_room (Nat.le_of_ble_eq_true rfl)) dL_law_441 ⟨fitC (k := k + 1) (a := 0) (by omega) (by omega), fitS (k := k + 1) (a := 0) (by omega) (by omega)⟩) hS (fun locs hS => ?_)
        have hJn := JI_up hJ
        refine lv_icmp_eq (tgt := 462) hx hb dL_law_444 (by decide) (fun _ => ?_) (fun q => absurd rfl q)
        refine lv_iinc (v := (nI (5 * (k + 1)))) (lv' := [(3, .int (nI (5 * (k + 1)))), (0, .ref b), (1, .ref (ad 0)), (2, .ref (ad 8))]) hx hb dL_law_462 hl (k := 0) rfl (nI_add (5 * k) 5) (by decide) rfl (fun ls hl => ?_)
        refine lv_goto (tgt := 18) hx hb dL_law_465 (by decide) ?_
        exact ih (k + 1) _ _ _ _ _ _ _ _ _ _ _ _ (by omega) hJn hW hS (lv_sub hl [0, 1, 2, 3] rfl)
      · refine lv_tableIn (off := 417) (tgt := 449) hx hb dL_law_32 (by decide) (by decide) (by decide) (by decide) ?_
        refine lv_aload_n hx hb dL_law_449 rfl (lv_at hl 2 rfl) ?_
        refine hc_r (va_runV (As := []) (rest := []) S (c_X4_status l G _ hW hJ.1 ) (cwV 0 hts (gWSV q_l_L_62 q_im_X4_status q_se_X4_status q_in_4 q_co_X4_status) rfl rfl rfl (by decide +kernel) ⟨Nat.le_of_ble_eq_true rfl, Nat.le_of_ble_eq_true rfl⟩) (hPreVr hE hS (hrecv hE hW hJ.1.1 (q := (RX4, TX4, 9)) rfl)) rfl rfl hl.1 rfl (lv_room (Nat.le_of_ble_eq_true rfl)) dL_law_450 ⟨fitC (k := k) (a := 0) (by omega) (by omega), fitS (k := k) (a := 0) (by omega) (by omega)⟩) hS (fun locs hS => ?_)
        have hM0 := hJ.2.1
        obtain ⟨⟨_, _, _, _, _, _, g8, _⟩, _⟩ := id hM0
        refine W.widen (k := 31 + (k + 1)) (n := 5523 + 13 * (k + 1)) (by omega) (by omega) ?_
        refine lv_aload_n hx hb dL_law_453 rfl (lv_at hl 3 rfl) ?_
        refine hc_r (va_runV (As := []) (rest := [.int st]) S (c_X5_status l G _ hW hM0 ) (cwV 0 hts (gWSV q_l_L_65 q_im_X5_status q_se_X5_status q_in_5 q_co_X5_status) rfl rfl rfl (by decide +kernel) ⟨Nat.le_of_ble_eq_true rfl, Nat.le_of_ble_eq_true rfl⟩) (hPreVr hE hS (hrecv hE hW g8 (q := (RX5, TX5, 28)) rfl)) rfl rfl hl.1 rfl (lv_room (Nat.le_of_ble_eq_true rfl)) dL_law_454 ⟨fitC (k := k + 1) (a := 0) (by omega) (by omega), fitS (k := k + 1) (a := 0) (by omega) (by omega)⟩) hS (fun locs hS => ?_)
        have hJn := JI_up hJ
        refine lv_icmp_eq (tgt := 462) hx hb dL_law_457 (by decide) (fun _ => ?_) (fun q => absurd rfl q)
        refine lv_iinc (v := (nI (5 * (k + 1)))) (lv' := [(3, .int (nI (5 * (k + 1)))), (0, .ref b), (1, .ref (ad 0)), (2, .ref (ad 8))]) hx hb dL_law_462 hl (k := 0) rfl (nI_add (5 * k) 5) (by decide) rfl (fun ls hl => ?_)
        refine lv_goto (tgt := 18) hx hb dL_law_465 (by decide) ?_
        exact ih (k + 1) _ _ _ _ _ _ _ _ _ _ _ _ (by omega) hJn hW hS (lv_sub hl [0, 1, 2, 3] rfl)
      · refine lv_tableOut (tgt := 462) hx hb dL_law_32 (by decide) (by decide) ?_
        have hJn := JI_up hJ
        refine W.widen (k := 31 + (k + 1)) (n := 5523 + 13 * (k + 1)) (by omega) (by omega) ?_
        refine lv_iinc (v := (nI (5 * (k + 1)))) (lv' := [(3, .int (nI (5 * (k + 1)))), (0, .ref b), (1, .ref (ad 0)), (2, .ref (ad 8))]) hx hb dL_law_462 hl (k := 0) rfl (nI_add (5 * k) 5) (by decide) rfl (fun ls hl => ?_)
        refine lv_goto (tgt := 18) hx hb dL_law_465 (by decide) ?_
        exact ih (k + 1) _ _ _ _ _ _ _ _ _ _ _ _ (by omega) hJn hW hS (lv_sub hl [0, 1, 2, 3] rfl)
      · refine lv_tableOut (tgt := 462) hx hb dL_law_32 (by decide) (by decide) ?_
        have hJn := JI_up hJ
        refine W.widen (k := 31 + (k + 1)) (n := 5523 + 13 * (k + 1)) (by omega) (by omega) ?_
        refine lv_iinc (v := (nI (5 * (k + 1)))) (lv' := [(3, .int (nI (5 * (k + 1)))), (0, .ref b), (1, .ref (ad 0)), (2, .ref (ad 8))]) hx hb dL_law_462 hl (k := 0) rfl (nI_add (5 * k) 5) (by decide) rfl (fun ls hl => ?_)
        refine lv_goto (tgt := 18) hx hb dL_law_465 (by decide) ?_
        exact ih (k + 1) _ _ _ _ _ _ _ _ _ _ _ _ (by omega) hJn hW hS (lv_sub hl [0, 1, 2, 3] rfl)
      · refine lv_tableOut (tgt := 462) hx hb dL_law_32 (by decide) (by decide) ?_
        have hJn := JI_up hJ
        refine W.widen (k := 31 + (k + 1)) (n := 5523 + 13 * (k + 1)) (by omega) (by omega) ?_
        refine lv_iinc (v := (nI (5 * (k + 1)))) (lv' := [(3, .int (nI (5 * (k + 1)))), (0, .ref b), (1, .ref (ad 0)), (2, .ref (ad 8))]) hx hb dL_law_462 hl (k := 0) rfl (nI_add (5 * k) 5) (by decide) rfl (fun ls hl => ?_)
        refine lv_goto (tgt := 18) hx hb dL_law_465 (by decide) ?_
        exact ih (k + 1) _ _ _ _ _ _ _ _ _ _ _ _ (by omega) hJn hW hS (lv_sub hl [0, 1, 2, 3] rfl)
      · refine lv_tableOut (tgt := 462) hx hb dL_law_32 (by decide) (by decide) ?_
        have hJn := JI_up hJ
        refine W.widen (k := 31 + (k + 1)) (n := 5523 + 13 * (k + 1)) (by omega) (by omega) ?_
        refine lv_iinc (v := (nI (5 * (k + 1)))) (lv' := [(3, .int (nI (5 * (k + 1)))), (0, .ref b), (1, .ref (ad 0)), (2, .ref (ad 8))]) hx hb dL_law_462 hl (k := 0) rfl (nI_add (5 * k) 5) (by decide) rfl (fun ls hl => ?_)
        refine lv_goto (tgt := 18) hx hb dL_law_465 (by decide) ?_
        exact ih (k + 1) _ _ _ _ _ _ _ _ _ _ _ _ (by omega) hJn hW hS (lv_sub hl [0, 1, 2, 3] rfl)
    · refine lv_iload_n hx hb dL_law_18 rfl (lv_at hl 0 rfl) ?_
      refine lv_aload_n hx hb dL_law_19 rfl (lv_at hl 1 rfl) ?_
      refine va_slen hx hb hX hbl hbA hS dL_law_20 ?_
      refine lv_iconst (v := 5) hx hb dL_law_21 (by decide) ?_
      refine lv_isub hx hb dL_law_22 ?_
      refine lv_icmp_gt (tgt := 468) hx hb dL_law_23 (by decide) (fun _ => ?_) (fun q => absurd (law_done hmore hL (by omega)) q)
      refine lv_iconst (v := 1) hx hb dL_law_468 (by decide) ?_
      refine W.widen (k := 600000) (n := 7302250) (by omega) (by omega) ?_
      refine va_forget (fun q hq => Nat.le_trans hGz (hS.2.2 q hq)) ?_
      exact lw_ret hx hb hr hlocks dL_law_469
