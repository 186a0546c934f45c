/-! READERS: what the model holds between two calls; what it answers of it -/
def tyM (ks : Nat → Nat) : Nat → Int32 := fun i => nI (7 + ks i)
def kdM (ks : Nat → Nat) : Nat → Int32 := fun i => nI (ks i)
theorem kdM_at (ks : Nat → Nat) (i : Nat) : kdM ks i = nI (ks i) := rfl
theorem tyM_at (ks : Nat → Nat) (i : Nat) : tyM ks i = nI (7 + ks i) := rfl
def RT (G : hG) (ct : Nat → Option va_E) (tk : Nat → Int32) (L : LS4) : Prop :=
  ct 13 = some (.inl (G.2.1.1, 21, .inl beaT)) ∧ ct 16 = some (.inl (G.2.1.1, 7, .inl aoT)) ∧ ct 17 = some (.inl (G.2.1.1, 11, .inl akT)) ∧ ct 21 = some (.inl (G.2.1.1, 300, .inl tk)) ∧ ct 23 = some (.inl (G.2.1.1, 400, .inl (kdM L.2.1))) ∧ ct 24 = some (.inl (G.2.1.1, 400, .inl (kdM L.2.2))) ∧
  ∃ rw an ii : Nat → Int32, ct 26 = some (.inl (G.2.1.1, 300, .inl rw)) ∧ ct 27 = some (.inl (G.2.1.1, 300, .inl an)) ∧ ct 28 = some (.inl (G.2.1.2.1, 300, .inl ii))
def RM (G : hG) (ad : Nat → Nat) (ct : Nat → Option va_E) (n : Nat) (ks : Nat → Nat) (A : AS) (tk : Nat → Int32) (L : LS4) (st : Int32) : Prop :=
  MX G ad ct (nI n) (nI L.1) st A.1 A.2.1 A.2.2.1 A.2.2.2 ∧ MTab G ct (kdM ks) ∧ RT G ct tk L ∧ n ≤ 300 ∧ L.1 ≤ 400 ∧ (∀ j, j < L.1 → L.2.1 j < n ∧ L.2.2 j < n) ∧ ∀ i, ks i < 11
def isDevF (n d : Int32) : Int32 := if d < 0 then 0 else if n ≤ d then 0 else 1
theorem isDevF_b (n d : Int32) : isDevF n d = 0 ∨ isDevF n d = 1 := by unfold isDevF; split; exact Or.inl rfl; split; exact Or.inl rfl; exact Or.inr rfl
theorem isDevF_ok {n i : Nat} (hn : n ≤ 300) (hi : i < n) : isDevF (nI n) (nI i) = 1 := by
  unfold isDevF
  rw [if_neg (nI_pos (by omega)), if_neg (nI_ge hi (by omega))]
theorem isDevF_no {n : Nat} {d : Int32} (hn : n ≤ 300) (hd : ∀ i, i < n → d ≠ nI i) : isDevF (nI n) d = 0 := by
  unfold isDevF
  by_cases h0 : d < 0
  · rw [if_pos h0]
  · rw [if_neg h0]
    obtain ⟨j, hj, rfl⟩ := nI_of h0
    by_cases h1 : nI n ≤ nI j
    · rw [if_pos h1]
    · exact absurd rfl (hd j (Nat.not_le.mp fun q => h1 ((nI_leI (by omega) hj).mpr q)))
theorem act_nat {x : Int32} (h : ¬ isActF x = 0) : ∃ a, a < 12 ∧ x = nI a := by
  unfold isActF at h
  by_cases h0 : x < 0
  · exact absurd (if_pos h0) h
  · rw [if_neg h0] at h
    obtain ⟨j, hj, rfl⟩ := nI_of h0
    by_cases h1 : (12 : Int32) ≤ nI j
    · exact absurd (if_pos h1) h
    · exact ⟨j, Nat.not_le.mp fun q => h1 (nI_le (a := 12) q hj), rfl⟩
theorem way_nat {x : Int32} (h : ¬ isWayF x = 0) : ∃ a, a < 7 ∧ x = nI a := by
  unfold isWayF at h
  by_cases h0 : x < 0
  · exact absurd (if_pos h0) h
  · rw [if_neg h0] at h
    obtain ⟨j, hj, rfl⟩ := nI_of h0
    by_cases h1 : (7 : Int32) ≤ nI j
    · exact absurd (if_pos h1) h
    · exact ⟨j, Nat.not_le.mp fun q => h1 (nI_le (a := 7) q hj), rfl⟩
theorem ablM_b (t w : Nat) : ablM t w = 0 ∨ ablM t w = 1 := by unfold ablM; split; exact Or.inr rfl; split; exact Or.inl rfl; exact Or.inr rfl
theorem isoM_b (t a w : Nat) : isoM t a w = 0 ∨ isoM t a w = 1 := by unfold isoM; generalize (if nI w = 0 then akT t else aoT w) &&& (1 <<< (nI a &&& 31)) = z; split; exact Or.inl rfl; exact Or.inr rfl
def agX (ct1 ct : Nat → Option va_E) : Prop := ∀ j, (j < 8 ∨ 35 < j) → ct1 j = ct j
theorem agX.trans {a b c : Nat → Option va_E} (h : agX a b) (g : agX b c) : agX a c := fun j hj => (h j hj).trans (g j hj)
theorem agX.rf {a : Nat → Option va_E} : agX a a := fun _ _ => rfl
theorem agM.X {a b : Nat → Option va_E} (h : agM a b) : agX a b := fun j hj => h j (by omega)
theorem RM_act {G : hG} {ad : Nat → Nat} {ct ct1 : Nat → Option va_E} {n : Nat} {ks : Nat → Nat} {A : AS} {tk : Nat → Int32} {L : LS4} {st : Int32} (hR : RM G ad ct n ks A tk L st) {i : Nat} {q : St} (hM : MC G ad ct1 (nI n) (nI L.1) st i A.1 A.2.1 [] [] q) (hg : agM ct1 ct) : RM G ad ct1 n ks (putD i A q) tk L st := by
  obtain ⟨hX, ⟨t1, t2, t3, t4, t5⟩, ⟨r1, r2, r3, r4, r5, r6, rw, an, ii, r7, r8, r9⟩, rest⟩ := hR
  exact ⟨MX_MC hM, ⟨(hg _ (by omega)).trans t1, (hg _ (by omega)).trans t2, (hg _ (by omega)).trans t3, (hg _ (by omega)).trans t4, (hg _ (by omega)).trans t5⟩, ⟨(hg _ (by omega)).trans r1, (hg _ (by omega)).trans r2, (hg _ (by omega)).trans r3, (hg _ (by omega)).trans r4, (hg _ (by omega)).trans r5, (hg _ (by omega)).trans r6, rw, an, ii, (hg _ (by omega)).trans r7, (hg _ (by omega)).trans r8, (hg _ (by omega)).trans r9⟩, rest⟩
theorem actD_eq {ks : Nat → Nat} {i a : Nat} (hk : ks i < 11) (ha : a < 12) (hv : vdT (ks i) a = true) (hok : okM (ks i) 8 (doB (ks i) a) = true) (x : Int32) (A : AS) : actD (tyM ks) i (nI a) x A = ((runS 8 (nI (7 + ks i)) (nI (doB (ks i) a)) x (getD i A)).1, putD i A (runS 8 (nI (7 + ks i)) (nI (doB (ks i) a)) x (getD i A)).2) := by
  unfold actD
  rw [tyM_at, (do_val _ hk a ha hv).2.2.2, rok_all hk 8 _ hok 40 (by omega)]
theorem actD_b {ks : Nat → Nat} {i a : Nat} (hk : ks i < 11) (ha : a < 12) (hv : vdT (ks i) a = true) (hok : okM (ks i) 8 (doB (ks i) a) = true) (x : Int32) {A : AS} {bb : Nat} (hb : A.2.2.1 = nI bb) : ∃ b1, (actD (tyM ks) i (nI a) x A).2.2.2.1 = nI b1 ∧ b1 ≤ bb + 3280 := by
  rw [actD_eq hk ha hv hok]
  obtain ⟨b1, h1, _, u1⟩ := gr_run (nI (7 + ks i)) 8 (nI (doB (ks i) a)) x (getD i A) bb hb
  exact ⟨b1, h1, u1⟩
theorem isAct_ok {a : Nat} (ha : a < 12) : isActF (nI a) = 1 := by
  unfold isActF
  rw [if_neg (nI_pos (by omega)), if_neg (show ¬ (12 : Int32) ≤ nI a from nI_ge (b := 12) ha (by omega))]
theorem isWay_ok {a : Nat} (ha : a < 7) : isWayF (nI a) = 1 := by
  unfold isWayF
  rw [if_neg (nI_pos (by omega)), if_neg (show ¬ (7 : Int32) ≤ nI a from nI_ge (b := 7) ha (by omega))]
theorem rf_ok {kk : Nat} (hk : kk < 11) {a w : Nat} (ha : a < 12) (hw : w < 7) : rfF (nI (7 + kk)) (nI a) (nI w) = if ablM (10 + kk) w = 0 then 2 else if isoM kk a w = 0 then 3 else 0 := by
  unfold rfF
  rw [if_neg (show ¬ isActF (nI a) = 0 from fun q => by rw [isAct_ok ha] at q; exact absurd q (by decide)), if_neg (show ¬ isWayF (nI w) = 0 from fun q => by rw [isWay_ok hw] at q; exact absurd q (by decide)), able_eq _ hk _ hw, of_eq _ hk _ ha _ hw]
set_option maxRecDepth 100000 in
set_option maxHeartbeats 4000000 in
theorem c_X5_bit (l : Launch) (G : hG) (H : Heap) (k : Int32)  : Met l yX5_bit wzX5_bit { frames := 0, cells := 0, slots := 0, locals := 0 } (hPr [.int k] G H) (hQr (1 <<< (k &&& 31)) H G.2.2.2) 0 0 (hA G.2.2.2) := by
  refine hMetr (Qc := fun H => hQr (1 <<< (k &&& 31)) H G.2.2.2) (by decide) (Nat.le_of_ble_eq_true rfl) (fun p e s m below meth c ls S hr hlk hE hH hl => ?_)
  subst hH
  obtain ⟨hx, hb, hml, hown, hts⟩ := id S
  have hS : va_S (hA G.2.2.2) s.heap s.heap [] := va_S.rf
  have hl : lv_has ls 1 [(0, .int k)] := hl
  refine lv_iconst (v := 1) hx hb dX5_bit_0 (by decide) ?_
  refine lv_iload_n hx hb dX5_bit_1 rfl (lv_at hl 0 rfl) ?_
  refine lv_ishl hx hb dX5_bit_2 ?_
  exact h_rret S hr hlk hS dX5_bit_3 rfl
set_option maxRecDepth 100000 in
set_option maxHeartbeats 4000000 in
theorem c_X5_isAct (l : Launch) (G : hG) (H : Heap) (x : Int32)  : Met l yX5_isAct wzX5_isAct { frames := 0, cells := 0, slots := 0, locals := 0 } (hPr [.int x] G H) (hQr (isActF x) H G.2.2.2) 0 0 (hA G.2.2.2) := by
  refine hMetr (Qc := fun H => hQr (isActF x) H G.2.2.2) (by decide) (Nat.le_of_ble_eq_true rfl) (fun p e s m below meth c ls S hr hlk hE hH hl => ?_)
  subst hH
  obtain ⟨hx, hb, hml, hown, hts⟩ := id S
  have hS : va_S (hA G.2.2.2) s.heap s.heap [] := va_S.rf
  have hl : lv_has ls 1 [(0, .int x)] := hl
  refine lv_iload_n hx hb dX5_isAct_0 rfl (lv_at hl 0 rfl) ?_
  refine lv_if_lt (tgt := 14) hx hb dX5_isAct_1 (by decide) (fun c_1 => ?_) (fun c_1 => ?_)
  · refine lv_iconst (v := 0) hx hb dX5_isAct_14 (by decide) ?_
    exact h_rzret S hr hlk hS dX5_isAct_15 (isActF_b x) (by rw [isActF, if_pos c_1])
  · refine lv_iload_n hx hb dX5_isAct_4 rfl (lv_at hl 0 rfl) ?_
    refine lv_bipush (v := 12) hx hb dX5_isAct_5 (by decide) ?_
    refine lv_icmp_ge (tgt := 14) hx hb dX5_isAct_7 (by decide) (fun c_7 => ?_) (fun c_7 => ?_)
    · refine lv_iconst (v := 0) hx hb dX5_isAct_14 (by decide) ?_
      exact h_rzret S hr hlk hS dX5_isAct_15 (isActF_b x) (by rw [isActF, if_neg c_1, if_pos c_7])
    · refine lv_iconst (v := 1) hx hb dX5_isAct_10 (by decide) ?_
      refine lv_goto (tgt := 15) hx hb dX5_isAct_11 (by decide) ?_
      exact h_rzret S hr hlk hS dX5_isAct_15 (isActF_b x) (by rw [isActF, if_neg c_1, if_neg c_7])
set_option maxRecDepth 100000 in
set_option maxHeartbeats 4000000 in
theorem c_X5_isWay (l : Launch) (G : hG) (H : Heap) (x : Int32)  : Met l yX5_isWay wzX5_isWay { frames := 0, cells := 0, slots := 0, locals := 0 } (hPr [.int x] G H) (hQr (isWayF x) H G.2.2.2) 0 0 (hA G.2.2.2) := by
  refine hMetr (Qc := fun H => hQr (isWayF x) H G.2.2.2) (by decide) (Nat.le_of_ble_eq_true rfl) (fun p e s m below meth c ls S hr hlk hE hH hl => ?_)
  subst hH
  obtain ⟨hx, hb, hml, hown, hts⟩ := id S
  have hS : va_S (hA G.2.2.2) s.heap s.heap [] := va_S.rf
  have hl : lv_has ls 1 [(0, .int x)] := hl
  refine lv_iload_n hx hb dX5_isWay_0 rfl (lv_at hl 0 rfl) ?_
  refine lv_if_lt (tgt := 14) hx hb dX5_isWay_1 (by decide) (fun c_1 => ?_) (fun c_1 => ?_)
  · refine lv_iconst (v := 0) hx hb dX5_isWay_14 (by decide) ?_
    exact h_rzret S hr hlk hS dX5_isWay_15 (isWayF_b x) (by rw [isWayF, if_pos c_1])
  · refine lv_iload_n hx hb dX5_isWay_4 rfl (lv_at hl 0 rfl) ?_
    refine lv_bipush (v := 7) hx hb dX5_isWay_5 (by decide) ?_
    refine lv_icmp_ge (tgt := 14) hx hb dX5_isWay_7 (by decide) (fun c_7 => ?_) (fun c_7 => ?_)
    · refine lv_iconst (v := 0) hx hb dX5_isWay_14 (by decide) ?_
      exact h_rzret S hr hlk hS dX5_isWay_15 (isWayF_b x) (by rw [isWayF, if_neg c_1, if_pos c_7])
    · refine lv_iconst (v := 1) hx hb dX5_isWay_10 (by decide) ?_
      refine lv_goto (tgt := 15) hx hb dX5_isWay_11 (by decide) ?_
      exact h_rzret S hr hlk hS dX5_isWay_15 (isWayF_b x) (by rw [isWayF, if_neg c_1, if_neg c_7])
set_option maxRecDepth 100000 in
set_option maxHeartbeats 4000000 in
theorem c_X5_isDevice (l : Launch) (G : hG) (H : Heap) {ad : Nat → Nat} {ct : Nat → Option va_E} (hW : hw G ad ct H) {n : Nat} {ks : Nat → Nat} {A : AS} {tk : Nat → Int32} {L : LS4} {st0 : Int32} (hR : RM G ad ct n ks A tk L st0) (d : Int32)  : Met l yX5_isDevice wzX5_isDevice { frames := 0, cells := 0, slots := 0, locals := 0 } (hPr [.ref (ad 8), .int d] G H) (hQr (isDevF (nI n) d) H G.2.2.2) 0 0 (hA G.2.2.2) := by
  refine hMetr (Qc := fun H => hQr (isDevF (nI n) d) H G.2.2.2) (by decide) (Nat.le_of_ble_eq_true rfl) (fun p e s m below meth c ls S hr hlk hE hH hl => ?_)
  subst hH
  obtain ⟨hx, hb, hml, hown, hts⟩ := id S
  have hS : va_S (hA G.2.2.2) s.heap s.heap [] := va_S.rf
  have hl : lv_has ls 2 [(0, .ref (ad 8)), (1, .int d)] := hl
  obtain ⟨⟨fr, pd, fb, fa, fx, pl, h8, h19, h20, h29, h32, h33, h34, h35⟩, ⟨h10, h11, h12, h15, h18⟩, ⟨h13, h16, h17, h21, h23, h24, rw_, an, ii, h26, h27, h28⟩, hn300, hm400, hlks, hks⟩ := id hR
  refine lv_iload_n hx hb dX5_isDevice_0 rfl (lv_at hl 1 rfl) ?_
  refine lv_if_lt (tgt := 16) hx hb dX5_isDevice_1 (by decide) (fun c_1 => ?_) (fun c_1 => ?_)
  · refine lv_iconst (v := 0) hx hb dX5_isDevice_16 (by decide) ?_
    exact h_rzret S hr hlk hS dX5_isDevice_17 (isDevF_b _ _) (by rw [isDevF, if_pos c_1])
  · refine lv_iload_n hx hb dX5_isDevice_4 rfl (lv_at hl 1 rfl) ?_
    refine lv_aload_n hx hb dX5_isDevice_5 rfl (lv_at hl 0 rfl) ?_
    refine hr_get S hE hW h8 inX5 (C := RX5) (T := TX5) (N := 28) rfl 12 (by decide) q_f_5_123 rfl dX5_isDevice_6 ?_
    refine lv_icmp_ge (tgt := 16) hx hb dX5_isDevice_9 (by decide) (fun c_9 => ?_) (fun c_9 => ?_)
    · refine lv_iconst (v := 0) hx hb dX5_isDevice_16 (by decide) ?_
      exact h_rzret S hr hlk hS dX5_isDevice_17 (isDevF_b _ _) (by rw [isDevF, if_neg c_1, if_pos c_9])
    · refine lv_iconst (v := 1) hx hb dX5_isDevice_12 (by decide) ?_
      refine lv_goto (tgt := 17) hx hb dX5_isDevice_13 (by decide) ?_
      exact h_rzret S hr hlk hS dX5_isDevice_17 (isDevF_b _ _) (by rw [isDevF, if_neg c_1, if_neg c_9])
set_option maxRecDepth 100000 in
set_option maxHeartbeats 4000000 in
theorem c_X5_isAble (l : Launch) (G : hG) (H : Heap) {ad : Nat → Nat} {ct : Nat → Option va_E} (hW : hw G ad ct H) {n : Nat} {ks : Nat → Nat} {A : AS} {tk : Nat → Int32} {L : LS4} {st0 : Int32} (hR : RM G ad ct n ks A tk L st0) {i w : Nat} (hi : i < 300) (hw : w < 7)  : Met l yX5_isAble wzX5_isAble { frames := 1, cells := 0, slots := 0, locals := 20 } (hPr [.ref (ad 8), .int (nI i), .int (nI w)] G H) (hQr (ablM (10 + ks i) w) H G.2.2.2) 0 0 (hA G.2.2.2) := by
  refine hMetr (Qc := fun H => hQr (ablM (10 + ks i) w) H G.2.2.2) (by decide) (Nat.le_of_ble_eq_true rfl) (fun p e s m below meth c ls S hr hlk hE hH hl => ?_)
  subst hH
  obtain ⟨hx, hb, hml, hown, hts⟩ := id S
  have hS : va_S (hA G.2.2.2) s.heap s.heap [] := va_S.rf
  have hl : lv_has ls 3 [(0, .ref (ad 8)), (1, .int (nI i)), (2, .int (nI w))] := hl
  obtain ⟨⟨fr, pd, fb, fa, fx, pl, h8, h19, h20, h29, h32, h33, h34, h35⟩, ⟨h10, h11, h12, h15, h18⟩, ⟨h13, h16, h17, h21, h23, h24, rw_, an, ii, h26, h27, h28⟩, hn300, hm400, hlks, hks⟩ := id hR
  refine lv_iload_n hx hb dX5_isAble_0 rfl (lv_at hl 2 rfl) ?_
  refine lv_iconst (v := 1) hx hb dX5_isAble_1 (by decide) ?_
  refine lv_icmp_le (tgt := 29) hx hb dX5_isAble_2 (by decide) (fun c_2 => ?_) (fun c_2 => ?_)
  · refine lv_iconst (v := 1) hx hb dX5_isAble_29 (by decide) ?_
    refine lv_goto (tgt := 34) hx hb dX5_isAble_30 (by decide) ?_
    exact h_rzret S hr hlk hS dX5_isAble_34 (ablM_b _ _) (by rw [ablM, if_pos c_2])
  · refine lv_aload_n hx hb dX5_isAble_5 rfl (lv_at hl 0 rfl) ?_
    refine hr_get S hE hW h8 inX5 (C := RX5) (T := TX5) (N := 28) rfl 3 (by decide) q_f_5_19 rfl dX5_isAble_6 ?_
    refine lv_bipush (v := 10) hx hb dX5_isAble_9 (by decide) ?_
    refine lv_aload_n hx hb dX5_isAble_11 rfl (lv_at hl 0 rfl) ?_
    refine hr_get S hE hW h8 inX5 (C := RX5) (T := TX5) (N := 28) rfl 8 (by decide) q_f_5_34 rfl dX5_isAble_12 ?_
    refine lv_iload_n hx hb dX5_isAble_15 rfl (lv_at hl 1 rfl) ?_
    refine hr_ialdk S hE hW h18 (j := i) rfl hi (by decide) dX5_isAble_16 ?_
    rw [kdM_at]
    refine lv_iadd hx hb dX5_isAble_17 ?_
    rw [show (10 : Int32) + nI (ks i) = nI (10 + ks i) from nI_add 10 _]
    refine hr_ialdk S hE hW h13 (j := (10 + ks i)) rfl (by have := hks i; omega) (by decide) dX5_isAble_18 ?_
    refine lv_iload_n hx hb dX5_isAble_19 rfl (lv_at hl 2 rfl) ?_
    refine lv_iconst (v := 1) hx hb dX5_isAble_20 (by decide) ?_
    refine lv_isub hx hb dX5_isAble_21 ?_
    refine hc_r (va_runS (As := [.int ((nI w) - 1)]) (rest := [.int (beaT (10 + ks i))]) S (c_X5_bit l G _ ((nI w) - 1)) (va_cwS 1 hts (gWSS q_l_5_84 q_st_X5_bit q_in_5 q_co_X5_bit) rfl rfl rfl (by decide +kernel) ⟨Nat.le_of_ble_eq_true rfl, Nat.le_of_ble_eq_true rfl⟩) (hPreSr hE hS) rfl rfl hl.1 rfl (lv_room (Nat.le_of_ble_eq_true rfl)) dX5_isAble_22 ⟨Nat.le_of_ble_eq_true rfl, Nat.le_of_ble_eq_true rfl⟩) hS (fun locs hS => ?_)
    refine lv_iand hx hb dX5_isAble_25 ?_
    refine lv_if_eq (tgt := 33) hx hb dX5_isAble_26 (by decide) (fun c_26 => ?_) (fun c_26 => ?_)
    · refine lv_iconst (v := 0) hx hb dX5_isAble_33 (by decide) ?_
      exact h_rzret S hr hlk hS dX5_isAble_34 (ablM_b _ _) (by rw [ablM, if_neg c_2, if_pos c_26])
    · refine lv_iconst (v := 1) hx hb dX5_isAble_29 (by decide) ?_
      refine lv_goto (tgt := 34) hx hb dX5_isAble_30 (by decide) ?_
      exact h_rzret S hr hlk hS dX5_isAble_34 (ablM_b _ _) (by rw [ablM, if_neg c_2, if_neg c_26])
set_option maxRecDepth 100000 in
set_option maxHeartbeats 4000000 in
theorem c_X5_isOf (l : Launch) (G : hG) (H : Heap) {ad : Nat → Nat} {ct : Nat → Option va_E} (hW : hw G ad ct H) {n : Nat} {ks : Nat → Nat} {A : AS} {tk : Nat → Int32} {L : LS4} {st0 : Int32} (hR : RM G ad ct n ks A tk L st0) {i a w : Nat} (hi : i < 300) (ha : a < 12) (hw : w < 7)  : Met l yX5_isOf wzX5_isOf { frames := 1, cells := 0, slots := 0, locals := 20 } (hPr [.ref (ad 8), .int (nI a), .int (nI w), .int (nI i)] G H) (hQr (isoM (ks i) a w) H G.2.2.2) 0 0 (hA G.2.2.2) := by
  refine hMetr (Qc := fun H => hQr (isoM (ks i) a w) H G.2.2.2) (by decide) (Nat.le_of_ble_eq_true rfl) (fun p e s m below meth c ls S hr hlk hE hH hl => ?_)
  subst hH
  obtain ⟨hx, hb, hml, hown, hts⟩ := id S
  have hS : va_S (hA G.2.2.2) s.heap s.heap [] := va_S.rf
  have hl : lv_has ls 4 [(0, .ref (ad 8)), (1, .int (nI a)), (2, .int (nI w)), (3, .int (nI i))] := hl
  obtain ⟨⟨fr, pd, fb, fa, fx, pl, h8, h19, h20, h29, h32, h33, h34, h35⟩, ⟨h10, h11, h12, h15, h18⟩, ⟨h13, h16, h17, h21, h23, h24, rw_, an, ii, h26, h27, h28⟩, hn300, hm400, hlks, hks⟩ := id hR
  refine lv_iload_n hx hb dX5_isOf_0 rfl (lv_at hl 2 rfl) ?_
  refine lv_if_ne (tgt := 18) hx hb dX5_isOf_1 (by decide) (fun c_1 => ?_) (fun c_1 => ?_)
  · refine lv_aload_n hx hb dX5_isOf_18 rfl (lv_at hl 0 rfl) ?_
    refine hr_get S hE hW h8 inX5 (C := RX5) (T := TX5) (N := 28) rfl 6 (by decide) q_f_5_28 rfl dX5_isOf_19 ?_
    refine lv_iload_n hx hb dX5_isOf_22 rfl (lv_at hl 2 rfl) ?_
    refine hr_ialdk S hE hW h16 (j := w) rfl hw (by decide) dX5_isOf_23 ?_
    refine lv_iload_n hx hb dX5_isOf_24 rfl (lv_at hl 1 rfl) ?_
    refine hc_r (va_runS (As := [.int (nI a)]) (rest := [.int (aoT w)]) S (c_X5_bit l G _ (nI a)) (va_cwS 1 hts (gWSS q_l_5_84 q_st_X5_bit q_in_5 q_co_X5_bit) rfl rfl rfl (by decide +kernel) ⟨Nat.le_of_ble_eq_true rfl, Nat.le_of_ble_eq_true rfl⟩) (hPreSr hE hS) rfl rfl hl.1 rfl (lv_room (Nat.le_of_ble_eq_true rfl)) dX5_isOf_25 ⟨Nat.le_of_ble_eq_true rfl, Nat.le_of_ble_eq_true rfl⟩) hS (fun locs hS => ?_)
    refine lv_iand hx hb dX5_isOf_28 ?_
    refine lv_if_eq (tgt := 36) hx hb dX5_isOf_29 (by decide) (fun c_29 => ?_) (fun c_29 => ?_)
    · refine lv_iconst (v := 0) hx hb dX5_isOf_36 (by decide) ?_
      exact h_rzret S hr hlk hS dX5_isOf_37 (isoM_b _ _ _) (by rw [isoM, if_neg c_1, if_pos c_29])
    · refine lv_iconst (v := 1) hx hb dX5_isOf_32 (by decide) ?_
      refine lv_goto (tgt := 37) hx hb dX5_isOf_33 (by decide) ?_
      exact h_rzret S hr hlk hS dX5_isOf_37 (isoM_b _ _ _) (by rw [isoM, if_neg c_1, if_neg c_29])
  · refine lv_aload_n hx hb dX5_isOf_4 rfl (lv_at hl 0 rfl) ?_
    refine hr_get S hE hW h8 inX5 (C := RX5) (T := TX5) (N := 28) rfl 7 (by decide) q_f_5_31 rfl dX5_isOf_5 ?_
    refine lv_aload_n hx hb dX5_isOf_8 rfl (lv_at hl 0 rfl) ?_
    refine hr_get S hE hW h8 inX5 (C := RX5) (T := TX5) (N := 28) rfl 8 (by decide) q_f_5_34 rfl dX5_isOf_9 ?_
    refine lv_iload_n hx hb dX5_isOf_12 rfl (lv_at hl 3 rfl) ?_
    refine hr_ialdk S hE hW h18 (j := i) rfl hi (by decide) dX5_isOf_13 ?_
    rw [kdM_at]
    refine hr_ialdk S hE hW h17 (j := (ks i)) rfl (hks i) (by decide) dX5_isOf_14 ?_
    refine lv_goto (tgt := 24) hx hb dX5_isOf_15 (by decide) ?_
    refine lv_iload_n hx hb dX5_isOf_24 rfl (lv_at hl 1 rfl) ?_
    refine hc_r (va_runS (As := [.int (nI a)]) (rest := [.int (akT (ks i))]) S (c_X5_bit l G _ (nI a)) (va_cwS 1 hts (gWSS q_l_5_84 q_st_X5_bit q_in_5 q_co_X5_bit) rfl rfl rfl (by decide +kernel) ⟨Nat.le_of_ble_eq_true rfl, Nat.le_of_ble_eq_true rfl⟩) (hPreSr hE hS) rfl rfl hl.1 rfl (lv_room (Nat.le_of_ble_eq_true rfl)) dX5_isOf_25 ⟨Nat.le_of_ble_eq_true rfl, Nat.le_of_ble_eq_true rfl⟩) hS (fun locs hS => ?_)
    refine lv_iand hx hb dX5_isOf_28 ?_
    refine lv_if_eq (tgt := 36) hx hb dX5_isOf_29 (by decide) (fun c_29 => ?_) (fun c_29 => ?_)
    · refine lv_iconst (v := 0) hx hb dX5_isOf_36 (by decide) ?_
      exact h_rzret S hr hlk hS dX5_isOf_37 (isoM_b _ _ _) (by rw [isoM, if_pos c_1, if_pos c_29])
    · refine lv_iconst (v := 1) hx hb dX5_isOf_32 (by decide) ?_
      refine lv_goto (tgt := 37) hx hb dX5_isOf_33 (by decide) ?_
      exact h_rzret S hr hlk hS dX5_isOf_37 (isoM_b _ _ _) (by rw [isoM, if_pos c_1, if_neg c_29])
set_option maxRecDepth 100000 in
set_option maxHeartbeats 4000000 in
theorem c_X5_why_ok (l : Launch) (G : hG) (H : Heap) {ad : Nat → Nat} {ct : Nat → Option va_E} (hW : hw G ad ct H) {n : Nat} {ks : Nat → Nat} {A : AS} {tk : Nat → Int32} {L : LS4} {st0 : Int32} (hR : RM G ad ct n ks A tk L st0) {i : Nat} (hi : i < n) (act way : Int32)  : Met l yX5_why wzX5_why { frames := 2, cells := 0, slots := 0, locals := 43 } (hPr [.ref (ad 8), .int (nI i), .int act, .int way] G H) (hQr (rfF (tyM ks i) act way) H G.2.2.2) 0 0 (hA G.2.2.2) := by
  refine hMetr (Qc := fun H => hQr (rfF (tyM ks i) act way) H G.2.2.2) (by decide) (Nat.le_of_ble_eq_true rfl) (fun p e s m below meth c ls S hr hlk hE hH hl => ?_)
  subst hH
  obtain ⟨hx, hb, hml, hown, hts⟩ := id S
  have hS : va_S (hA G.2.2.2) s.heap s.heap [] := va_S.rf
  have hl : lv_has ls 4 [(0, .ref (ad 8)), (1, .int (nI i)), (2, .int act), (3, .int way)] := hl
  obtain ⟨⟨fr, pd, fb, fa, fx, pl, h8, h19, h20, h29, h32, h33, h34, h35⟩, ⟨h10, h11, h12, h15, h18⟩, ⟨h13, h16, h17, h21, h23, h24, rw_, an, ii, h26, h27, h28⟩, hn300, hm400, hlks, hks⟩ := id hR
  refine lv_aload_n hx hb dX5_why_0 rfl (lv_at hl 0 rfl) ?_
  refine lv_iload_n hx hb dX5_why_1 rfl (lv_at hl 1 rfl) ?_
  refine hc_r (va_runV (As := [.int (nI i)]) (rest := []) S (c_X5_isDevice l G _ hW hR (nI i)) (cwV 1 hts (gWSV q_l_5_129 q_im_X5_isDevice q_se_X5_isDevice q_in_5 q_co_X5_isDevice) rfl rfl rfl (by decide +kernel) ⟨Nat.le_of_ble_eq_true rfl, Nat.le_of_ble_eq_true rfl⟩) (hPreVr hE hS (hrecv hE hW h8 (q := (RX5, TX5, 28)) rfl)) rfl rfl hl.1 rfl (lv_room (Nat.le_of_ble_eq_true rfl)) dX5_why_2 ⟨Nat.le_of_ble_eq_true rfl, Nat.le_of_ble_eq_true rfl⟩) hS (fun locs hS => ?_)
  refine lv_if_eq (tgt := 22) hx hb dX5_why_5 (by decide) (fun q => absurd q (fun q : isDevF (nI n) (nI i) = 0 => absurd ((isDevF_ok hn300 hi).symm.trans q) (by decide))) (fun _ => ?_)
  refine lv_iload_n hx hb dX5_why_8 rfl (lv_at hl 2 rfl) ?_
  refine hc_r (va_runS (As := [.int act]) (rest := []) S (c_X5_isAct l G _ act) (va_cwS 1 hts (gWSS q_l_5_133 q_st_X5_isAct q_in_5 q_co_X5_isAct) rfl rfl rfl (by decide +kernel) ⟨Nat.le_of_ble_eq_true rfl, Nat.le_of_ble_eq_true rfl⟩) (hPreSr hE hS) rfl rfl hl.1 rfl (lv_room (Nat.le_of_ble_eq_true rfl)) dX5_why_9 ⟨Nat.le_of_ble_eq_true rfl, Nat.le_of_ble_eq_true rfl⟩) hS (fun locs hS => ?_)
  refine lv_if_eq (tgt := 22) hx hb dX5_why_12 (by decide) (fun c_12 => ?_) (fun c_12 => ?_)
  · refine lv_iconst (v := 1) hx hb dX5_why_22 (by decide) ?_
    exact h_rret S hr hlk hS dX5_why_23 (by rw [rfF, if_pos c_12])
  · refine lv_iload_n hx hb dX5_why_15 rfl (lv_at hl 3 rfl) ?_
    refine hc_r (va_runS (As := [.int way]) (rest := []) S (c_X5_isWay l G _ way) (va_cwS 1 hts (gWSS q_l_5_136 q_st_X5_isWay q_in_5 q_co_X5_isWay) rfl rfl rfl (by decide +kernel) ⟨Nat.le_of_ble_eq_true rfl, Nat.le_of_ble_eq_true rfl⟩) (hPreSr hE hS) rfl rfl hl.1 rfl (lv_room (Nat.le_of_ble_eq_true rfl)) dX5_why_16 ⟨Nat.le_of_ble_eq_true rfl, Nat.le_of_ble_eq_true rfl⟩) hS (fun locs hS => ?_)
    refine lv_if_ne (tgt := 24) hx hb dX5_why_19 (by decide) (fun c_19 => ?_) (fun c_19 => ?_)
    · obtain ⟨a, ha, rfl⟩ := act_nat c_12
      obtain ⟨w, hw, rfl⟩ := way_nat c_19
      refine lv_aload_n hx hb dX5_why_24 rfl (lv_at hl 0 rfl) ?_
      refine lv_iload_n hx hb dX5_why_25 rfl (lv_at hl 1 rfl) ?_
      refine lv_iload_n hx hb dX5_why_26 rfl (lv_at hl 3 rfl) ?_
      refine hc_r (va_runV (As := [.int (nI i), .int (nI w)]) (rest := []) S (c_X5_isAble l G _ hW hR (i := i) (w := w) (by omega) (by omega)) (cwV 2 hts (gWSV q_l_5_139 q_im_X5_isAble q_se_X5_isAble q_in_5 q_co_X5_isAble) rfl rfl rfl (by decide +kernel) ⟨Nat.le_of_ble_eq_true rfl, Nat.le_of_ble_eq_true rfl⟩) (hPreVr hE hS (hrecv hE hW h8 (q := (RX5, TX5, 28)) rfl)) rfl rfl hl.1 rfl (lv_room (Nat.le_of_ble_eq_true rfl)) dX5_why_27 ⟨Nat.le_of_ble_eq_true rfl, Nat.le_of_ble_eq_true rfl⟩) hS (fun locs hS => ?_)
      refine lv_if_ne (tgt := 35) hx hb dX5_why_30 (by decide) (fun c_30 => ?_) (fun c_30 => ?_)
      · refine lv_aload_n hx hb dX5_why_35 rfl (lv_at hl 0 rfl) ?_
        refine lv_iload_n hx hb dX5_why_36 rfl (lv_at hl 2 rfl) ?_
        refine lv_iload_n hx hb dX5_why_37 rfl (lv_at hl 3 rfl) ?_
        refine lv_iload_n hx hb dX5_why_38 rfl (lv_at hl 1 rfl) ?_
        refine hc_r (va_runV (As := [.int (nI a), .int (nI w), .int (nI i)]) (rest := []) S (c_X5_isOf l G _ hW hR (i := i) (a := a) (w := w) (by omega) (by omega) (by omega)) (cwV 3 hts (gWSV q_l_5_143 q_im_X5_isOf q_se_X5_isOf q_in_5 q_co_X5_isOf) rfl rfl rfl (by decide +kernel) ⟨Nat.le_of_ble_eq_true rfl, Nat.le_of_ble_eq_true rfl⟩) (hPreVr hE hS (hrecv hE hW h8 (q := (RX5, TX5, 28)) rfl)) rfl rfl hl.1 rfl (lv_room (Nat.le_of_ble_eq_true rfl)) dX5_why_39 ⟨Nat.le_of_ble_eq_true rfl, Nat.le_of_ble_eq_true rfl⟩) hS (fun locs hS => ?_)
        refine lv_if_eq (tgt := 49) hx hb dX5_why_42 (by decide) (fun c_42 => ?_) (fun c_42 => ?_)
        · refine lv_iconst (v := 3) hx hb dX5_why_49 (by decide) ?_
          exact h_rret S hr hlk hS dX5_why_50 (by rw [tyM_at, rf_ok (hks i) ha hw, if_neg c_30, if_pos c_42])
        · refine lv_iconst (v := 0) hx hb dX5_why_45 (by decide) ?_
          refine lv_goto (tgt := 50) hx hb dX5_why_46 (by decide) ?_
          exact h_rret S hr hlk hS dX5_why_50 (by rw [tyM_at, rf_ok (hks i) ha hw, if_neg c_30, if_neg c_42])
      · refine lv_iconst (v := 2) hx hb dX5_why_33 (by decide) ?_
        exact h_rret S hr hlk hS dX5_why_34 (by rw [tyM_at, rf_ok (hks i) ha hw, if_pos c_30])
    · refine lv_iconst (v := 1) hx hb dX5_why_22 (by decide) ?_
      exact h_rret S hr hlk hS dX5_why_23 (by rw [rfF, if_neg c_12, if_pos c_19])
set_option maxRecDepth 100000 in
set_option maxHeartbeats 4000000 in
theorem c_X5_why_no (l : Launch) (G : hG) (H : Heap) {ad : Nat → Nat} {ct : Nat → Option va_E} (hW : hw G ad ct H) {n : Nat} {ks : Nat → Nat} {A : AS} {tk : Nat → Int32} {L : LS4} {st0 : Int32} (hR : RM G ad ct n ks A tk L st0) {d : Int32} (hd : ∀ i, i < n → d ≠ nI i) (act way : Int32)  : Met l yX5_why wzX5_why { frames := 2, cells := 0, slots := 0, locals := 43 } (hPr [.ref (ad 8), .int d, .int act, .int way] G H) (hQr (1) H G.2.2.2) 0 0 (hA G.2.2.2) := by
  refine hMetr (Qc := fun H => hQr (1) H G.2.2.2) (by decide) (Nat.le_of_ble_eq_true rfl) (fun p e s m below meth c ls S hr hlk hE hH hl => ?_)
  subst hH
  obtain ⟨hx, hb, hml, hown, hts⟩ := id S
  have hS : va_S (hA G.2.2.2) s.heap s.heap [] := va_S.rf
  have hl : lv_has ls 4 [(0, .ref (ad 8)), (1, .int d), (2, .int act), (3, .int way)] := hl
  obtain ⟨⟨fr, pd, fb, fa, fx, pl, h8, h19, h20, h29, h32, h33, h34, h35⟩, ⟨h10, h11, h12, h15, h18⟩, ⟨h13, h16, h17, h21, h23, h24, rw_, an, ii, h26, h27, h28⟩, hn300, hm400, hlks, hks⟩ := id hR
  refine lv_aload_n hx hb dX5_why_0 rfl (lv_at hl 0 rfl) ?_
  refine lv_iload_n hx hb dX5_why_1 rfl (lv_at hl 1 rfl) ?_
  refine hc_r (va_runV (As := [.int d]) (rest := []) S (c_X5_isDevice l G _ hW hR d) (cwV 1 hts (gWSV q_l_5_129 q_im_X5_isDevice q_se_X5_isDevice q_in_5 q_co_X5_isDevice) rfl rfl rfl (by decide +kernel) ⟨Nat.le_of_ble_eq_true rfl, Nat.le_of_ble_eq_true rfl⟩) (hPreVr hE hS (hrecv hE hW h8 (q := (RX5, TX5, 28)) rfl)) rfl rfl hl.1 rfl (lv_room (Nat.le_of_ble_eq_true rfl)) dX5_why_2 ⟨Nat.le_of_ble_eq_true rfl, Nat.le_of_ble_eq_true rfl⟩) hS (fun locs hS => ?_)
  refine lv_if_eq (tgt := 22) hx hb dX5_why_5 (by decide) (fun _ => ?_) (fun q => absurd (isDevF_no hn300 hd) q)
  refine lv_iconst (v := 1) hx hb dX5_why_22 (by decide) ?_
  exact h_rret S hr hlk hS dX5_why_23 rfl
set_option maxRecDepth 100000 in
set_option maxHeartbeats 4000000 in
theorem c_X5_ran (l : Launch) (G : hG) (H : Heap) {ad : Nat → Nat} {ct : Nat → Option va_E} (hW : hw G ad ct H) {n : Nat} {ks : Nat → Nat} {A : AS} {tk : Nat → Int32} {L : LS4} {st0 : Int32} (hR : RM G ad ct n ks A tk L st0)   : Met l yX5_ran wzX5_ran { frames := 0, cells := 0, slots := 0, locals := 0 } (hPr [.ref (ad 8)] G H) (hQr (A.2.2.1) H G.2.2.2) 0 0 (hA G.2.2.2) := by
  refine hMetr (Qc := fun H => hQr (A.2.2.1) H G.2.2.2) (by decide) (Nat.le_of_ble_eq_true rfl) (fun p e s m below meth c ls S hr hlk hE hH hl => ?_)
  subst hH
  obtain ⟨hx, hb, hml, hown, hts⟩ := id S
  have hS : va_S (hA G.2.2.2) s.heap s.heap [] := va_S.rf
  have hl : lv_has ls 1 [(0, .ref (ad 8))] := hl
  obtain ⟨⟨fr, pd, fb, fa, fx, pl, h8, h19, h20, h29, h32, h33, h34, h35⟩, ⟨h10, h11, h12, h15, h18⟩, ⟨h13, h16, h17, h21, h23, h24, rw_, an, ii, h26, h27, h28⟩, hn300, hm400, hlks, hks⟩ := id hR
  refine lv_aload_n hx hb dX5_ran_0 rfl (lv_at hl 0 rfl) ?_
  refine hr_get S hE hW h8 inX5 (C := RX5) (T := TX5) (N := 28) rfl 20 (by decide) q_f_5_102 rfl dX5_ran_1 ?_
  exact h_rret S hr hlk hS dX5_ran_4 rfl
set_option maxRecDepth 100000 in
set_option maxHeartbeats 4000000 in
theorem c_X5_status (l : Launch) (G : hG) (H : Heap) {ad : Nat → Nat} {ct : Nat → Option va_E} (hW : hw G ad ct H) {n : Nat} {ks : Nat → Nat} {A : AS} {tk : Nat → Int32} {L : LS4} {st0 : Int32} (hR : RM G ad ct n ks A tk L st0)   : Met l yX5_status wzX5_status { frames := 0, cells := 0, slots := 0, locals := 0 } (hPr [.ref (ad 8)] G H) (hQr (st0) H G.2.2.2) 0 0 (hA G.2.2.2) := by
  refine hMetr (Qc := fun H => hQr (st0) H G.2.2.2) (by decide) (Nat.le_of_ble_eq_true rfl) (fun p e s m below meth c ls S hr hlk hE hH hl => ?_)
  subst hH
  obtain ⟨hx, hb, hml, hown, hts⟩ := id S
  have hS : va_S (hA G.2.2.2) s.heap s.heap [] := va_S.rf
  have hl : lv_has ls 1 [(0, .ref (ad 8))] := hl
  obtain ⟨⟨fr, pd, fb, fa, fx, pl, h8, h19, h20, h29, h32, h33, h34, h35⟩, ⟨h10, h11, h12, h15, h18⟩, ⟨h13, h16, h17, h21, h23, h24, rw_, an, ii, h26, h27, h28⟩, hn300, hm400, hlks, hks⟩ := id hR
  refine lv_aload_n hx hb dX5_status_0 rfl (lv_at hl 0 rfl) ?_
  refine hr_get S hE hW h8 inX5 (C := RX5) (T := TX5) (N := 28) rfl 21 (by decide) q_f_5_126 rfl dX5_status_1 ?_
  exact h_rret S hr hlk hS dX5_status_4 rfl
