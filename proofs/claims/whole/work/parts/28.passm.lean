/-! PASS: a pulse on the model's side, against the class's picture of it -/
def PRl (n : Nat) (pl : Int32) (P : P2) (rw an ii : Nat → Int32) : Prop := (∀ k, k < P.2.2.2 → rw k = nI (P.2.2.1 k) ∧ an k = P.2.1.2.2 (P.2.2.1 k)) ∧ ∀ d, d < n → ii d = if P.2.1.2.1 d = pl then 1 else 0
theorem PR_tak {n d : Nat} {pl x : Int32} {ty : Nat → Int32} {P : P2} {rw an ii : Nat → Int32} (h : PRl n pl P rw an ii) (hPI : PI n pl P) (hne : ¬ P.2.1.2.1 d = pl) : PRl n pl (takP ty pl d x P) (upd rw P.2.2.2 (nI d)) (upd an P.2.2.2 (actD ty d (takActF (ty d)) x P.1).1) (upd ii d 1) := by
  have hx : ∀ k, k < P.2.2.2 → P.2.2.1 k ≠ d := fun k hk q => hne (q ▸ (hPI.1 k hk).2)
  refine ⟨fun k hk => ?_, fun e he => ?_⟩
  · have hk' : k < P.2.2.2 + 1 := hk
    show upd rw P.2.2.2 (nI d) k = nI (va_up P.2.2.1 P.2.2.2 d k) ∧ upd an P.2.2.2 (actD ty d (takActF (ty d)) x P.1).1 k = upd P.2.1.2.2 d (actD ty d (takActF (ty d)) x P.1).1 (va_up P.2.2.1 P.2.2.2 d k)
    by_cases e : k = P.2.2.2
    · rw [e, va_up_self, pk_us, pk_us, pk_us]; exact ⟨rfl, rfl⟩
    · rw [va_up_ne _ _ e, pk_un e, pk_un e, pk_un (hx k (by omega))]; exact h.1 k (by omega)
  · show upd ii d 1 e = if upd P.2.1.2.1 d pl e = pl then 1 else 0
    by_cases q : e = d
    · rw [q, pk_us, pk_us, if_pos rfl]
    · rw [pk_un q, pk_un q]; exact h.2 e he
theorem PR_0 {n : Nat} {pl : Int32} {A : AS} {T : TS} {rw an ii : Nat → Int32} (hpl : ∀ d, d < n → ¬ T.2.1 d = pl) (hii : ∀ d, d < n → ii d = 0) : PRl n pl ((A, T, (fun _ => 0), 0) : P2) rw an ii :=
  ⟨fun k hk => absurd hk (Nat.not_lt_zero k), fun d hd => by rw [hii d hd]; exact (if_neg (hpl d hd)).symm⟩
theorem PI_0 {n : Nat} {pl : Int32} {A : AS} {T : TS} : PI n pl ((A, T, (fun _ => 0), 0) : P2) := ⟨fun k hk => absurd hk (Nat.not_lt_zero k), fun j k hj => absurd hj (Nat.not_lt_zero j)⟩
/-- how much has begun -/
def PB (P : P2) : Prop := ∃ bb, P.1.2.2.1 = nI bb ∧ bb ≤ 3280 * P.2.2.2
theorem PB_tak {ks : Nat → Nat} {pl x : Int32} {d : Nat} {P : P2} (hk : ks d < 11) (h : PB P) : PB (takP (tyM ks) pl d x P) := by
  obtain ⟨bb, h1, h2⟩ := h
  have ok := put_ok (ks d) hk
  obtain ⟨b1, e1, e2⟩ := actD_b hk ok.1 ok.2.1 ok.2.2 x h1
  refine ⟨b1, ?_, ?_⟩
  · show (actD (tyM ks) d (takActF (tyM ks d)) x P.1).2.2.2.1 = nI b1
    rw [tyM_at, takA_eq _ hk]
    exact e1
  · show b1 ≤ 3280 * (P.2.2.2 + 1)
    omega
def RMI (G : hG) (ct : Nat → Option va_E) (rw an ii : Nat → Int32) : Prop := ct 26 = some (.inl (G.2.1.1, 300, .inl rw)) ∧ ct 27 = some (.inl (G.2.1.1, 300, .inl an)) ∧ ct 28 = some (.inl (G.2.1.2.1, 300, .inl ii))
theorem upd_z0 {f : Nat → Int32} {k : Nat} (h : ∀ j, j < k → f j = 0) : ∀ j, j < k + 1 → upd f k 0 j = 0 := by
  intro j hj
  by_cases e : j = k
  · rw [e, pk_us]
  · rw [pk_un e]; exact h j (by omega)
set_option maxRecDepth 100000 in
set_option maxHeartbeats 4000000 in
theorem c_X5_pass_ok (l : Launch) (G : hG) (ad : Nat → Nat) (ct : Nat → Option va_E) {n : Nat} {ks : Nat → Nat} {A : AS} {tk : Nat → Int32} {L : LS4} {st0 : Int32} (hR : RM G ad ct n ks A tk L st0) {T : TS} (hT : T.1 = tk) {pl0 : Int32} (hpl : ∀ d, d < n → ¬ T.2.1 d = pl0) {i : Nat} (hi : i < n) (x : Int32)  : Met l yX5_pass wzX5_pass { frames := 4, cells := 0, slots := 0, locals := 93 } (hPw [.ref (ad 8), .int (nI i), .int x] G ad ct) (hQi (fun r ct1 => r = nI (psR (tyM ks) pl0 n L i x A T).2.2.2 ∧ RM G ad ct1 n ks ((psR (tyM ks) pl0 n L i x A T).1) ((psR (tyM ks) pl0 n L i x A T).2.1.1) L 0 ∧ agX ct1 ct) G ad) 0 0 (hA G.2.2.2) := by
  refine hMetw (by decide) (Nat.le_of_ble_eq_true rfl) (fun p e s m below meth c ls S hr hlk hE hW hl => ?_)
  obtain ⟨hx, hb, hml, hown, hts⟩ := id S
  have hS : va_S (hA G.2.2.2) s.heap s.heap [] := va_S.rf
  have hl : lv_has ls 6 [(0, .ref (ad 8)), (1, .int (nI i)), (2, .int x)] := hl
  obtain ⟨⟨fr, pd, fb, fa, fx, pl, h8, h19, h20, h29, h32, h33, h34, h35⟩, ⟨h10, h11, h12, h15, h18⟩, ⟨h13, h16, h17, h21, h23, h24, rw_, an, ii, h26, h27, h28⟩, hn300, hm400, hlks, hks⟩ := id hR
  refine lv_aload_n hx hb dX5_pass_0 rfl (lv_at hl 0 rfl) ?_
  refine lv_iload_n hx hb dX5_pass_1 rfl (lv_at hl 1 rfl) ?_
  refine hc_r (va_runV (As := [.int (nI i)]) (rest := []) S (c_X5_isDevice l G _ hW hR (nI i)) (cwV 1 hts (gWSV q_l_5_129 q_im_X5_isDevice q_se_X5_isDevice q_in_5 q_co_X5_isDevice) rfl rfl rfl (by decide +kernel) ⟨Nat.le_of_ble_eq_true rfl, Nat.le_of_ble_eq_true rfl⟩) (hPreVr hE hS (hrecv hE hW h8 (q := (RX5, TX5, 28)) rfl)) rfl rfl hl.1 rfl (lv_room (Nat.le_of_ble_eq_true rfl)) dX5_pass_2 ⟨Nat.le_of_ble_eq_true rfl, Nat.le_of_ble_eq_true rfl⟩) hS (fun locs hS => ?_)
  refine lv_if_ne (tgt := 14) hx hb dX5_pass_5 (by decide) (fun _ => ?_) (fun q => absurd q (fun q : isDevF (nI n) (nI i) = 0 => absurd ((isDevF_ok hn300 hi).symm.trans q) (by decide)))
  refine lv_aload_n hx hb dX5_pass_14 rfl (lv_at hl 0 rfl) ?_
  refine hc_v (va_runV (As := []) (rest := []) S (c_X5_begin l G ad _ hR ) (cwV 0 hts (gWSV q_l_5_154 q_im_X5_begin q_se_X5_begin q_in_5 q_co_X5_begin) rfl rfl rfl (by decide +kernel) ⟨Nat.le_of_ble_eq_true rfl, Nat.le_of_ble_eq_true rfl⟩) (hPreVw hE hS (hrecv hE hW h8 (q := (RX5, TX5, 28)) rfl) hW) rfl rfl hl.1 rfl (lv_room (Nat.le_of_ble_eq_true rfl)) dX5_pass_15 ⟨Nat.le_of_ble_eq_true rfl, Nat.le_of_ble_eq_true rfl⟩) hS (fun ct_1 H locs hp hW hS => ?_)
  obtain ⟨hR, hag_2⟩ := hp
  obtain ⟨⟨fr, pd, fb, fa, fx, pl, h8, h19, h20, h29, h32, h33, h34, h35⟩, ⟨h10, h11, h12, h15, h18⟩, ⟨h13, h16, h17, h21, h23, h24, rw_, an, ii, h26, h27, h28⟩, hn300, hm400, hlks, hks⟩ := id hR
  subst hT
  refine lv_iconst (v := 0) hx hb dX5_pass_18 (by decide) ?_
  refine lv_istore_n (lv' := [(3, .int 0), (0, .ref (ad 8)), (1, .int (nI i)), (2, .int x)]) hx hb dX5_pass_19 rfl hl (by decide) rfl (fun ls hl => ?_)
  have loop : ∀ (rem k : Nat) (jj : Nat → Int32) (ct1 : Nat → Option va_E) (H : Heap) (locs : List Loc) (ls : Array Slot), k + rem = n → (ct1 28 = some (.inl (G.2.1.2.1, 300, .inl jj)) ∧ ∀ j, j < k → jj j = 0) → RM G ad ct1 n ks (clrA A) T.1 L 0 → agX ct1 ct → hw G ad ct1 H → va_S (hA G.2.2.2) s.heap H locs → lv_has ls 6 [(3, .int (nI k)), (0, .ref (ad 8)), (1, .int (nI i)), (2, .int x)] → W p l e { frames := 4, cells := 0, slots := 0, locals := 93 } s m ([.ref (ad 8), .int (nI i), .int x] : List Value).toArray below meth c H locs 0 0 (MQ below (hQi (fun r ct1 => r = nI (psR (tyM ks) pl0 n L i x A T).2.2.2 ∧ RM G ad ct1 n ks ((psR (tyM ks) pl0 n L i x A T).1) ((psR (tyM ks) pl0 n L i x A T).2.1.1) L 0 ∧ agX ct1 ct) G ad) ([.ref (ad 8), .int (nI i), .int x] : List Value).toArray s 0 0 (hA G.2.2.2)) (F0 m 20 ls []) := by
    intro rem
    induction rem with
    | zero =>
      intro k jj ct1 H locs ls hnk hv hR hag0 hW hS hl
      obtain ⟨⟨fr, pd, fb, fa, fx, pl, h8, h19, h20, h29, h32, h33, h34, h35⟩, ⟨h10, h11, h12, h15, h18⟩, ⟨h13, h16, h17, h21, h23, h24, rw_, an, ii, h26, h27, h28⟩, hn300, hm400, hlks, hks⟩ := id hR
      refine lv_iload_n hx hb dX5_pass_20 rfl (lv_at hl 0 rfl) ?_
      refine lv_aload_n hx hb dX5_pass_21 rfl (lv_at hl 1 rfl) ?_
      refine hr_get S hE hW h8 inX5 (C := RX5) (T := TX5) (N := 28) rfl 12 (by decide) q_f_5_123 rfl dX5_pass_22 ?_
      refine lv_icmp_ge (tgt := 41) hx hb dX5_pass_25 (by decide) (fun _ => ?_) (fun q => absurd (nI_le (by omega) (by omega)) q)
      have hjj : ∀ d, d < n → jj d = 0 := fun d hd => hv.2 d (by omega)
      obtain ⟨rw0, hr26⟩ : ∃ f, ct1 26 = some (.inl (G.2.1.1, 300, .inl f)) := ⟨_, h26⟩
      obtain ⟨an0, hr27⟩ : ∃ f, ct1 27 = some (.inl (G.2.1.1, 300, .inl f)) := ⟨_, h27⟩
      refine lv_aload_n hx hb dX5_pass_41 rfl (lv_at hl 1 rfl) ?_
      refine hr_get S hE hW h8 inX5 (C := RX5) (T := TX5) (N := 28) rfl 16 (by decide) q_f_5_52 rfl dX5_pass_42 ?_
      refine lv_iconst (v := 0) hx hb dX5_pass_45 (by decide) ?_
      refine lv_iload_n hx hb dX5_pass_46 rfl (lv_at hl 2 rfl) ?_
      refine hr_iastk S hE hW hS hr26 (j := 0) rfl (by decide) (by decide) dX5_pass_47 (fun H locs ct_3 hW hk_4 hg_5 hz hS => ?_)
      have h_6 := (hg_5 8 (by decide)).trans h8
      have h_7 := (hg_5 10 (by decide)).trans h10
      have h_8 := (hg_5 11 (by decide)).trans h11
      have h_9 := (hg_5 12 (by decide)).trans h12
      have h_10 := (hg_5 13 (by decide)).trans h13
      have h_11 := (hg_5 15 (by decide)).trans h15
      have h_12 := (hg_5 16 (by decide)).trans h16
      have h_13 := (hg_5 17 (by decide)).trans h17
      have h_14 := (hg_5 18 (by decide)).trans h18
      have h_15 := (hg_5 19 (by decide)).trans h19
      have h_16 := (hg_5 20 (by decide)).trans h20
      have h_17 := (hg_5 21 (by decide)).trans h21
      have h_18 := (hg_5 23 (by decide)).trans h23
      have h_19 := (hg_5 24 (by decide)).trans h24
      have h_20 := (hg_5 27 (by decide)).trans hr27
      have h_21 := (hg_5 28 (by decide)).trans hv.1
      have h_22 := (hg_5 29 (by decide)).trans h29
      have h_23 := (hg_5 32 (by decide)).trans h32
      have h_24 := (hg_5 33 (by decide)).trans h33
      have h_25 := (hg_5 34 (by decide)).trans h34
      have h_26 := (hg_5 35 (by decide)).trans h35
      have h_27 : ct_3 26 = some (.inl (G.2.1.1, 300, .inl (upd rw0 0 (nI i)))) := hk_4
      refine lv_aload_n hx hb dX5_pass_48 rfl (lv_at hl 1 rfl) ?_
      refine hr_get S hE hW h_6 inX5 (C := RX5) (T := TX5) (N := 28) rfl 18 (by decide) q_f_5_58 rfl dX5_pass_49 ?_
      refine lv_iload_n hx hb dX5_pass_52 rfl (lv_at hl 2 rfl) ?_
      refine lv_iconst (v := 1) hx hb dX5_pass_53 (by decide) ?_
      refine hr_zastk S hE hW hS h_21 rfl (j := i) rfl (show i < 300 by omega) (by decide) dX5_pass_54 (fun H locs ct_28 hW hk_29 hg_30 hz hS => ?_)
      have h_31 := (hg_30 8 (by decide)).trans h_6
      have h_32 := (hg_30 10 (by decide)).trans h_7
      have h_33 := (hg_30 11 (by decide)).trans h_8
      have h_34 := (hg_30 12 (by decide)).trans h_9
      have h_35 := (hg_30 13 (by decide)).trans h_10
      have h_36 := (hg_30 15 (by decide)).trans h_11
      have h_37 := (hg_30 16 (by decide)).trans h_12
      have h_38 := (hg_30 17 (by decide)).trans h_13
      have h_39 := (hg_30 18 (by decide)).trans h_14
      have h_40 := (hg_30 19 (by decide)).trans h_15
      have h_41 := (hg_30 20 (by decide)).trans h_16
      have h_42 := (hg_30 21 (by decide)).trans h_17
      have h_43 := (hg_30 23 (by decide)).trans h_18
      have h_44 := (hg_30 24 (by decide)).trans h_19
      have h_45 := (hg_30 27 (by decide)).trans h_20
      have h_46 := (hg_30 29 (by decide)).trans h_22
      have h_47 := (hg_30 32 (by decide)).trans h_23
      have h_48 := (hg_30 33 (by decide)).trans h_24
      have h_49 := (hg_30 34 (by decide)).trans h_25
      have h_50 := (hg_30 35 (by decide)).trans h_26
      have h_51 := (hg_30 26 (by decide)).trans h_27
      have h_52 : ct_28 28 = some (.inl (G.2.1.2.1, 300, .inl (upd jj i 1))) := hk_29
      refine lv_aload_n hx hb dX5_pass_55 rfl (lv_at hl 1 rfl) ?_
      refine hr_get S hE hW h_31 inX5 (C := RX5) (T := TX5) (N := 28) rfl 17 (by decide) q_f_5_55 rfl dX5_pass_56 ?_
      refine lv_iconst (v := 0) hx hb dX5_pass_59 (by decide) ?_
      refine lv_aload_n hx hb dX5_pass_60 rfl (lv_at hl 1 rfl) ?_
      refine lv_iload_n hx hb dX5_pass_61 rfl (lv_at hl 2 rfl) ?_
      refine lv_iload_n hx hb dX5_pass_62 rfl (lv_at hl 3 rfl) ?_
      have hR : RM G ad ct_28 n ks (clrA A) T.1 L 0 := ⟨⟨_, _, _, _, _, _, h_31, h_40, h_41, h_46, h_47, h_48, h_49, h_50⟩, ⟨h_32, h_33, h_34, h_36, h_39⟩, ⟨h_35, h_37, h_38, h_42, h_43, h_44, _, _, _, h_51, h_45, h_52⟩, hn300, hm400, hlks, hks⟩
      refine hc_i (va_runV (As := [.int (nI i), .int x]) (rest := [.int 0, .ref (ad 27)]) S (c_X5_takes l G ad _ hR (i := i) hi (bb := 0) rfl (by decide) x) (cwV 2 hts (gWSV q_l_5_163 q_im_X5_takes q_se_X5_takes q_in_5 q_co_X5_takes) rfl rfl rfl (by decide +kernel) ⟨Nat.le_of_ble_eq_true rfl, Nat.le_of_ble_eq_true rfl⟩) (hPreVw hE hS (hrecv hE hW h_31 (q := (RX5, TX5, 28)) rfl) hW) rfl rfl hl.1 rfl (lv_room (Nat.le_of_ble_eq_true rfl)) dX5_pass_63 ⟨Nat.le_of_ble_eq_true rfl, Nat.le_of_ble_eq_true rfl⟩) hS (fun rv_55 ct_53 H locs hp hW hS => ?_)
      obtain ⟨ev_56, hR, hag_54, hxt_57⟩ := hp
      rw [ev_56]
      obtain ⟨⟨fr, pd, fb, fa, fx, pl, h8, h19, h20, h29, h32, h33, h34, h35⟩, ⟨h10, h11, h12, h15, h18⟩, ⟨h13, h16, h17, h21, h23, h24, rw9, an9, ii9, h26, h27, h28⟩, hn300, hm400, hlks, hks⟩ := id hR
      have h_58 := (hxt_57 26 (by omega) (by omega)).trans h_51
      have h_59 := (hxt_57 27 (by omega) (by omega)).trans h_45
      have h_60 := (hxt_57 28 (by omega) (by omega)).trans h_52
      refine hr_iastk S hE hW hS h_59 (j := 0) rfl (by decide) (by decide) dX5_pass_66 (fun H locs ct_61 hW hk_62 hg_63 hz hS => ?_)
      have h_64 := (hg_63 8 (by decide)).trans h8
      have h_65 := (hg_63 10 (by decide)).trans h10
      have h_66 := (hg_63 11 (by decide)).trans h11
      have h_67 := (hg_63 12 (by decide)).trans h12
      have h_68 := (hg_63 13 (by decide)).trans h13
      have h_69 := (hg_63 15 (by decide)).trans h15
      have h_70 := (hg_63 16 (by decide)).trans h16
      have h_71 := (hg_63 17 (by decide)).trans h17
      have h_72 := (hg_63 18 (by decide)).trans h18
      have h_73 := (hg_63 19 (by decide)).trans h19
      have h_74 := (hg_63 20 (by decide)).trans h20
      have h_75 := (hg_63 21 (by decide)).trans h21
      have h_76 := (hg_63 23 (by decide)).trans h23
      have h_77 := (hg_63 24 (by decide)).trans h24
      have h_78 := (hg_63 26 (by decide)).trans h_58
      have h_79 := (hg_63 28 (by decide)).trans h_60
      have h_80 := (hg_63 29 (by decide)).trans h29
      have h_81 := (hg_63 32 (by decide)).trans h32
      have h_82 := (hg_63 33 (by decide)).trans h33
      have h_83 := (hg_63 34 (by decide)).trans h34
      have h_84 := (hg_63 35 (by decide)).trans h35
      have h_85 : ct_61 27 = some (.inl (G.2.1.1, 300, .inl (upd an0 0 ((actD (tyM ks) i (takActF (tyM ks i)) x (clrA A)).1)))) := hk_62
      refine lv_iconst (v := 1) hx hb dX5_pass_67 (by decide) ?_
      refine lv_istore_n (lv' := [(3, .int 1), (0, .ref (ad 8)), (1, .int (nI i)), (2, .int x)]) hx hb dX5_pass_68 rfl hl (by decide) rfl (fun ls hl => ?_)
      refine lv_iconst (v := 0) hx hb dX5_pass_69 (by decide) ?_
      refine lv_istore (lv' := [(4, .int 0), (3, .int 1), (0, .ref (ad 8)), (1, .int (nI i)), (2, .int x)]) hx hb dX5_pass_70 hl (by decide) rfl (fun ls hl => ?_)
      have hPI1 : PI n pl0 (takP (tyM ks) pl0 i x ((clrA A, T, (fun _ => 0), 0) : P2)) := PI_tak PI_0 hi (Or.inl rfl)
      have hPR1 := PR_tak (ty := tyM ks) (x := x) (PR_0 (A := clrA A) (rw := rw0) (an := an0) hpl hjj) PI_0 (hpl i hi)
      have hPB1 : PB (takP (tyM ks) pl0 i x ((clrA A, T, (fun _ => 0), 0) : P2)) := PB_tak (hks i) ⟨0, rfl, Nat.le_refl _⟩
      have loop1 : ∀ (rem k : Nat) (P : P2) (rw_ an ii : Nat → Int32) (ct1 : Nat → Option va_E) (H : Heap) (locs : List Loc) (ls : Array Slot), k + rem = n + 1 → (psR (tyM ks) pl0 n L i x A T) = psL (tyM ks) pl0 L rem k P → PI n pl0 P → PRl n pl0 P rw_ an ii → PB P → RMI G ct1 rw_ an ii → RM G ad ct1 n ks P.1 P.2.1.1 L 0 → agX ct1 ct → hw G ad ct1 H → va_S (hA G.2.2.2) s.heap H locs → lv_has ls 6 [(4, .int (nI k)), (3, .int (nI P.2.2.2)), (0, .ref (ad 8))] → W p l e { frames := 4, cells := 0, slots := 0, locals := 93 } s m ([.ref (ad 8), .int (nI i), .int x] : List Value).toArray below meth c H locs 0 0 (MQ below (hQi (fun r ct1 => r = nI (psR (tyM ks) pl0 n L i x A T).2.2.2 ∧ RM G ad ct1 n ks ((psR (tyM ks) pl0 n L i x A T).1) ((psR (tyM ks) pl0 n L i x A T).2.1.1) L 0 ∧ agX ct1 ct) G ad) ([.ref (ad 8), .int (nI i), .int x] : List Value).toArray s 0 0 (hA G.2.2.2)) (F0 m 72 ls []) := by
        intro rem
        induction rem with
        | zero =>
          intro k P rw_ an ii ct1 H locs ls hnk hv1 hPI hPR hPB hI hR hag0 hW hS hl
          have hcn := PI_le hPI
          obtain ⟨⟨fr, pd, fb, fa, fx, pl, h8, h19, h20, h29, h32, h33, h34, h35⟩, ⟨h10, h11, h12, h15, h18⟩, ⟨h13, h16, h17, h21, h23, h24, rw9, an9, ii9, h26, h27, h28⟩, hn300, hm400, hlks, hks⟩ := id hR
          refine lv_iload hx hb dX5_pass_72 (lv_at hl 0 rfl) ?_
          refine lv_iload_n hx hb dX5_pass_74 rfl (lv_at hl 1 rfl) ?_
          refine lv_icmp_ge (tgt := 190) hx hb dX5_pass_75 (by decide) (fun _ => ?_) (fun q => absurd (nI_le (by omega) (by omega)) q)
          refine lv_iload_n hx hb dX5_pass_190 rfl (lv_at hl 1 rfl) ?_
          exact h_iret S hr hlk hS hW dX5_pass_191 ⟨by rw [hv1]; rfl, by rw [hv1]; exact hR, (fun j hj => (hag0 j hj))⟩
        | succ rem ih1 =>
          intro k P rw_ an ii ct1 H locs ls hnk hv1 hPI hPR hPB hI hR hag0 hW hS hl
          have hcn := PI_le hPI
          obtain ⟨⟨fr, pd, fb, fa, fx, pl, h8, h19, h20, h29, h32, h33, h34, h35⟩, ⟨h10, h11, h12, h15, h18⟩, ⟨h13, h16, h17, h21, h23, h24, rw9, an9, ii9, h26, h27, h28⟩, hn300, hm400, hlks, hks⟩ := id hR
          by_cases hkc : k < P.2.2.2
          · have hkn := (hPI.1 k hkc).1
            refine lv_iload hx hb dX5_pass_72 (lv_at hl 0 rfl) ?_
            refine lv_iload_n hx hb dX5_pass_74 rfl (lv_at hl 1 rfl) ?_
            refine lv_icmp_ge (tgt := 190) hx hb dX5_pass_75 (by decide) (fun q => absurd q (nI_ge hkc (by omega))) (fun _ => ?_)
            refine lv_iconst (v := 0) hx hb dX5_pass_78 (by decide) ?_
            refine lv_istore (lv' := [(5, .int 0), (4, .int (nI k)), (3, .int (nI P.2.2.2)), (0, .ref (ad 8))]) hx hb dX5_pass_79 hl (by decide) rfl (fun ls hl => ?_)
            have loop2 : ∀ (rem2 y : Nat) (P1 : P2) (rw_ an ii : Nat → Int32) (ct1 : Nat → Option va_E) (H : Heap) (locs : List Loc) (ls : Array Slot), y + rem2 = L.1 → pnL (tyM ks) pl0 L (P.2.2.1 k) L.1 0 P = pnL (tyM ks) pl0 L (P.2.2.1 k) rem2 y P1 → (k < P1.2.2.2 ∧ P1.2.2.1 k = P.2.2.1 k) → PI n pl0 P1 → PRl n pl0 P1 rw_ an ii → PB P1 → RMI G ct1 rw_ an ii → RM G ad ct1 n ks P1.1 P1.2.1.1 L 0 → agX ct1 ct → hw G ad ct1 H → va_S (hA G.2.2.2) s.heap H locs → lv_has ls 6 [(5, .int (nI y)), (4, .int (nI k)), (3, .int (nI P1.2.2.2)), (0, .ref (ad 8))] → W p l e { frames := 4, cells := 0, slots := 0, locals := 93 } s m ([.ref (ad 8), .int (nI i), .int x] : List Value).toArray below meth c H locs 0 0 (MQ below (hQi (fun r ct1 => r = nI (psR (tyM ks) pl0 n L i x A T).2.2.2 ∧ RM G ad ct1 n ks ((psR (tyM ks) pl0 n L i x A T).1) ((psR (tyM ks) pl0 n L i x A T).2.1.1) L 0 ∧ agX ct1 ct) G ad) ([.ref (ad 8), .int (nI i), .int x] : List Value).toArray s 0 0 (hA G.2.2.2)) (F0 m 81 ls []) := by
              intro rem2
              induction rem2 with
              | zero =>
                intro y P1 rw_ an ii ct1 H locs ls hny hv2 hki hPI hPR hPB hI hR hag0 hW hS hl
                have hcn := PI_le hPI
                obtain ⟨⟨fr, pd, fb, fa, fx, pl, h8, h19, h20, h29, h32, h33, h34, h35⟩, ⟨h10, h11, h12, h15, h18⟩, ⟨h13, h16, h17, h21, h23, h24, rw9, an9, ii9, h26, h27, h28⟩, hn300, hm400, hlks, hks⟩ := id hR
                refine lv_iload hx hb dX5_pass_81 (lv_at hl 0 rfl) ?_
                refine lv_aload_n hx hb dX5_pass_83 rfl (lv_at hl 3 rfl) ?_
                refine hr_get S hE hW h8 inX5 (C := RX5) (T := TX5) (N := 28) rfl 15 (by decide) q_f_5_160 rfl dX5_pass_84 ?_
                refine lv_icmp_ge (tgt := 184) hx hb dX5_pass_87 (by decide) (fun _ => ?_) (fun q => absurd (nI_le (by omega) (by omega)) q)
                refine lv_iinc (v := (nI (k + 1))) (lv' := [(4, .int (nI (k + 1))), (5, .int (nI y)), (3, .int (nI P1.2.2.2)), (0, .ref (ad 8))]) hx hb dX5_pass_184 hl (k := 1) rfl (nI_1 k) (by decide) rfl (fun ls hl => ?_)
                refine lv_goto (tgt := 72) hx hb dX5_pass_187 (by decide) ?_
                exact ih1 (k + 1) P1 _ _ _ _ _ _ _ (by omega) (by rw [hv1, psL, if_pos hkc, hv2]; rfl) hPI hPR hPB hI hR (fun j hj => (hag0 j hj)) hW hS (lv_sub hl [0, 2, 3] rfl)
              | succ rem2 ih2 =>
                intro y P1 rw_ an ii ct1 H locs ls hny hv2 hki hPI hPR hPB hI hR hag0 hW hS hl
                have hcn := PI_le hPI
                obtain ⟨⟨fr, pd, fb, fa, fx, pl, h8, h19, h20, h29, h32, h33, h34, h35⟩, ⟨h10, h11, h12, h15, h18⟩, ⟨h13, h16, h17, h21, h23, h24, rw9, an9, ii9, h26, h27, h28⟩, hn300, hm400, hlks, hks⟩ := id hR
                have hyl : y < L.1 := by omega
                have hty := (hlks y hyl).2
                have hfy := (hlks y hyl).1
                have hrk : rw_ k = nI (P.2.2.1 k) := by rw [(hPR.1 k hki.1).1, hki.2]
                have hak : an k = P1.2.1.2.2 (P.2.2.1 k) := by rw [(hPR.1 k hki.1).2, hki.2]
                refine lv_iload hx hb dX5_pass_81 (lv_at hl 0 rfl) ?_
                refine lv_aload_n hx hb dX5_pass_83 rfl (lv_at hl 3 rfl) ?_
                refine hr_get S hE hW h8 inX5 (C := RX5) (T := TX5) (N := 28) rfl 15 (by decide) q_f_5_160 rfl dX5_pass_84 ?_
                refine lv_icmp_ge (tgt := 184) hx hb dX5_pass_87 (by decide) (fun q => absurd q (nI_ge hyl (by omega))) (fun _ => ?_)
                refine lv_aload_n hx hb dX5_pass_90 rfl (lv_at hl 3 rfl) ?_
                refine hr_get S hE hW h8 inX5 (C := RX5) (T := TX5) (N := 28) rfl 13 (by decide) q_f_5_46 rfl dX5_pass_91 ?_
                refine lv_iload hx hb dX5_pass_94 (lv_at hl 0 rfl) ?_
                refine hr_ialdk S hE hW h23 (j := y) rfl (by omega) (by decide) dX5_pass_96 ?_
                rw [kdM_at]
                refine lv_aload_n hx hb dX5_pass_97 rfl (lv_at hl 3 rfl) ?_
                refine hr_get S hE hW h8 inX5 (C := RX5) (T := TX5) (N := 28) rfl 16 (by decide) q_f_5_52 rfl dX5_pass_98 ?_
                refine lv_iload hx hb dX5_pass_101 (lv_at hl 1 rfl) ?_
                refine hr_ialdk S hE hW hI.1 (j := k) rfl (show k < 300 by omega) (by decide) dX5_pass_103 ?_
                rw [hrk]
                refine lv_icmp_ne (tgt := 178) hx hb dX5_pass_104 (by decide) (fun c_104 => ?_) (fun c_104 => ?_)
                · refine lv_iinc (v := (nI (y + 1))) (lv' := [(5, .int (nI (y + 1))), (4, .int (nI k)), (3, .int (nI P1.2.2.2)), (0, .ref (ad 8))]) hx hb dX5_pass_178 hl (k := 0) rfl (nI_1 y) (by decide) rfl (fun ls hl => ?_)
                  refine lv_goto (tgt := 81) hx hb dX5_pass_181 (by decide) ?_
                  exact ih2 (y + 1) P1 _ _ _ _ _ _ _ (by omega) (by rw [hv2, pnL, if_neg (fun q => c_104 (by rw [q]))]) hki hPI hPR hPB hI hR (fun j hj => (hag0 j hj)) hW hS (lv_sub hl [0, 1, 2, 3] rfl)
                · have e1 : L.2.1 y = P.2.2.1 k := nI_eqN (by omega) (by omega) c_104
                  by_cases e2 : P1.2.1.2.1 (L.2.2 y) = pl0
                  · refine lv_aload_n hx hb dX5_pass_107 rfl (lv_at hl 3 rfl) ?_
                    refine hr_get S hE hW h8 inX5 (C := RX5) (T := TX5) (N := 28) rfl 18 (by decide) q_f_5_58 rfl dX5_pass_108 ?_
                    refine lv_aload_n hx hb dX5_pass_111 rfl (lv_at hl 3 rfl) ?_
                    refine hr_get S hE hW h8 inX5 (C := RX5) (T := TX5) (N := 28) rfl 14 (by decide) q_f_5_49 rfl dX5_pass_112 ?_
                    refine lv_iload hx hb dX5_pass_115 (lv_at hl 0 rfl) ?_
                    refine hr_ialdk S hE hW h24 (j := y) rfl (by omega) (by decide) dX5_pass_117 ?_
                    rw [kdM_at]
                    refine hr_zaldk S hE hW hI.2.2 (j := (L.2.2 y)) rfl (show L.2.2 y < 300 by omega) (by decide) dX5_pass_118 ?_
                    rw [show ii (L.2.2 y) = 1 from (hPR.2 _ hty).trans (if_pos e2)]
                    refine lv_if_eq (tgt := 125) hx hb dX5_pass_119 (by decide) (fun q => absurd q (by decide)) (fun _ => ?_)
                    refine lv_goto (tgt := 178) hx hb dX5_pass_122 (by decide) ?_
                    refine lv_iinc (v := (nI (y + 1))) (lv' := [(5, .int (nI (y + 1))), (4, .int (nI k)), (3, .int (nI P1.2.2.2)), (0, .ref (ad 8))]) hx hb dX5_pass_178 hl (k := 0) rfl (nI_1 y) (by decide) rfl (fun ls hl => ?_)
                    refine lv_goto (tgt := 81) hx hb dX5_pass_181 (by decide) ?_
                    exact ih2 (y + 1) P1 _ _ _ _ _ _ _ (by omega) (by rw [hv2, pnL, if_pos e1, if_pos e2]) hki hPI hPR hPB hI hR (fun j hj => (hag0 j hj)) hW hS (lv_sub hl [0, 1, 2, 3] rfl)
                  · refine lv_aload_n hx hb dX5_pass_107 rfl (lv_at hl 3 rfl) ?_
                    refine hr_get S hE hW h8 inX5 (C := RX5) (T := TX5) (N := 28) rfl 18 (by decide) q_f_5_58 rfl dX5_pass_108 ?_
                    refine lv_aload_n hx hb dX5_pass_111 rfl (lv_at hl 3 rfl) ?_
                    refine hr_get S hE hW h8 inX5 (C := RX5) (T := TX5) (N := 28) rfl 14 (by decide) q_f_5_49 rfl dX5_pass_112 ?_
                    refine lv_iload hx hb dX5_pass_115 (lv_at hl 0 rfl) ?_
                    refine hr_ialdk S hE hW h24 (j := y) rfl (by omega) (by decide) dX5_pass_117 ?_
                    rw [kdM_at]
                    refine hr_zaldk S hE hW hI.2.2 (j := (L.2.2 y)) rfl (show L.2.2 y < 300 by omega) (by decide) dX5_pass_118 ?_
                    rw [show ii (L.2.2 y) = 0 from (hPR.2 _ hty).trans (if_neg e2)]
                    refine lv_if_eq (tgt := 125) hx hb dX5_pass_119 (by decide) (fun _ => ?_) (fun q => absurd (by decide) q)
                    have hc300 : P1.2.2.2 < 300 := Nat.lt_of_lt_of_le (PI_lt hPI hty e2) hn300
                    obtain ⟨bb, hbb, hbk⟩ := id hPB
                    refine lv_aload_n hx hb dX5_pass_125 rfl (lv_at hl 3 rfl) ?_
                    refine hr_get S hE hW h8 inX5 (C := RX5) (T := TX5) (N := 28) rfl 18 (by decide) q_f_5_58 rfl dX5_pass_126 ?_
                    refine lv_aload_n hx hb dX5_pass_129 rfl (lv_at hl 3 rfl) ?_
                    refine hr_get S hE hW h8 inX5 (C := RX5) (T := TX5) (N := 28) rfl 14 (by decide) q_f_5_49 rfl dX5_pass_130 ?_
                    refine lv_iload hx hb dX5_pass_133 (lv_at hl 0 rfl) ?_
                    refine hr_ialdk S hE hW h24 (j := y) rfl (by omega) (by decide) dX5_pass_135 ?_
                    rw [kdM_at]
                    refine lv_iconst (v := 1) hx hb dX5_pass_136 (by decide) ?_
                    refine hr_zastk S hE hW hS hI.2.2 rfl (j := (L.2.2 y)) rfl (show L.2.2 y < 300 by omega) (by decide) dX5_pass_137 (fun H locs ct_86 hW hk_87 hg_88 hz hS => ?_)
                    have h_89 := (hg_88 8 (by decide)).trans h8
                    have h_90 := (hg_88 10 (by decide)).trans h10
                    have h_91 := (hg_88 11 (by decide)).trans h11
                    have h_92 := (hg_88 12 (by decide)).trans h12
                    have h_93 := (hg_88 13 (by decide)).trans h13
                    have h_94 := (hg_88 15 (by decide)).trans h15
                    have h_95 := (hg_88 16 (by decide)).trans h16
                    have h_96 := (hg_88 17 (by decide)).trans h17
                    have h_97 := (hg_88 18 (by decide)).trans h18
                    have h_98 := (hg_88 19 (by decide)).trans h19
                    have h_99 := (hg_88 20 (by decide)).trans h20
                    have h_100 := (hg_88 21 (by decide)).trans h21
                    have h_101 := (hg_88 23 (by decide)).trans h23
                    have h_102 := (hg_88 24 (by decide)).trans h24
                    have h_103 := (hg_88 26 (by decide)).trans hI.1
                    have h_104 := (hg_88 27 (by decide)).trans hI.2.1
                    have h_105 := (hg_88 29 (by decide)).trans h29
                    have h_106 := (hg_88 32 (by decide)).trans h32
                    have h_107 := (hg_88 33 (by decide)).trans h33
                    have h_108 := (hg_88 34 (by decide)).trans h34
                    have h_109 := (hg_88 35 (by decide)).trans h35
                    have h_110 : ct_86 28 = some (.inl (G.2.1.2.1, 300, .inl (upd ii (L.2.2 y) 1))) := hk_87
                    refine lv_aload_n hx hb dX5_pass_138 rfl (lv_at hl 3 rfl) ?_
                    refine hr_get S hE hW h_89 inX5 (C := RX5) (T := TX5) (N := 28) rfl 16 (by decide) q_f_5_52 rfl dX5_pass_139 ?_
                    refine lv_iload_n hx hb dX5_pass_142 rfl (lv_at hl 2 rfl) ?_
                    refine lv_aload_n hx hb dX5_pass_143 rfl (lv_at hl 3 rfl) ?_
                    refine hr_get S hE hW h_89 inX5 (C := RX5) (T := TX5) (N := 28) rfl 14 (by decide) q_f_5_49 rfl dX5_pass_144 ?_
                    refine lv_iload hx hb dX5_pass_147 (lv_at hl 0 rfl) ?_
                    refine hr_ialdk S hE hW h_102 (j := y) rfl (by omega) (by decide) dX5_pass_149 ?_
                    rw [kdM_at]
                    refine hr_iastk S hE hW hS h_103 (j := P1.2.2.2) rfl hc300 (by decide) dX5_pass_150 (fun H locs ct_111 hW hk_112 hg_113 hz hS => ?_)
                    have h_114 := (hg_113 8 (by decide)).trans h_89
                    have h_115 := (hg_113 10 (by decide)).trans h_90
                    have h_116 := (hg_113 11 (by decide)).trans h_91
                    have h_117 := (hg_113 12 (by decide)).trans h_92
                    have h_118 := (hg_113 13 (by decide)).trans h_93
                    have h_119 := (hg_113 15 (by decide)).trans h_94
                    have h_120 := (hg_113 16 (by decide)).trans h_95
                    have h_121 := (hg_113 17 (by decide)).trans h_96
                    have h_122 := (hg_113 18 (by decide)).trans h_97
                    have h_123 := (hg_113 19 (by decide)).trans h_98
                    have h_124 := (hg_113 20 (by decide)).trans h_99
                    have h_125 := (hg_113 21 (by decide)).trans h_100
                    have h_126 := (hg_113 23 (by decide)).trans h_101
                    have h_127 := (hg_113 24 (by decide)).trans h_102
                    have h_128 := (hg_113 27 (by decide)).trans h_104
                    have h_129 := (hg_113 29 (by decide)).trans h_105
                    have h_130 := (hg_113 32 (by decide)).trans h_106
                    have h_131 := (hg_113 33 (by decide)).trans h_107
                    have h_132 := (hg_113 34 (by decide)).trans h_108
                    have h_133 := (hg_113 35 (by decide)).trans h_109
                    have h_134 := (hg_113 28 (by decide)).trans h_110
                    have h_135 : ct_111 26 = some (.inl (G.2.1.1, 300, .inl (upd rw_ P1.2.2.2 (nI (L.2.2 y))))) := hk_112
                    refine lv_aload_n hx hb dX5_pass_151 rfl (lv_at hl 3 rfl) ?_
                    refine hr_get S hE hW h_114 inX5 (C := RX5) (T := TX5) (N := 28) rfl 17 (by decide) q_f_5_55 rfl dX5_pass_152 ?_
                    refine lv_iload_n hx hb dX5_pass_155 rfl (lv_at hl 2 rfl) ?_
                    refine lv_aload_n hx hb dX5_pass_156 rfl (lv_at hl 3 rfl) ?_
                    refine lv_aload_n hx hb dX5_pass_157 rfl (lv_at hl 3 rfl) ?_
                    refine hr_get S hE hW h_114 inX5 (C := RX5) (T := TX5) (N := 28) rfl 14 (by decide) q_f_5_49 rfl dX5_pass_158 ?_
                    refine lv_iload hx hb dX5_pass_161 (lv_at hl 0 rfl) ?_
                    refine hr_ialdk S hE hW h_127 (j := y) rfl (by omega) (by decide) dX5_pass_163 ?_
                    rw [kdM_at]
                    refine lv_aload_n hx hb dX5_pass_164 rfl (lv_at hl 3 rfl) ?_
                    refine hr_get S hE hW h_114 inX5 (C := RX5) (T := TX5) (N := 28) rfl 17 (by decide) q_f_5_55 rfl dX5_pass_165 ?_
                    refine lv_iload hx hb dX5_pass_168 (lv_at hl 1 rfl) ?_
                    refine hr_ialdk S hE hW h_128 (j := k) rfl (show k < 300 by omega) (by decide) dX5_pass_170 ?_
                    rw [hak]
                    have hR : RM G ad ct_111 n ks P1.1 P1.2.1.1 L 0 := ⟨⟨_, _, _, _, _, _, h_114, h_123, h_124, h_129, h_130, h_131, h_132, h_133⟩, ⟨h_115, h_116, h_117, h_119, h_122⟩, ⟨h_118, h_120, h_121, h_125, h_126, h_127, _, _, _, h_135, h_128, h_134⟩, hn300, hm400, hlks, hks⟩
                    refine hc_i (va_runV (As := [.int (nI (L.2.2 y)), .int (P1.2.1.2.2 (P.2.2.1 k))]) (rest := [.int (nI P1.2.2.2), .ref (ad 27)]) S (c_X5_takes l G ad _ hR (i := (L.2.2 y)) hty (bb := bb) hbb (by omega) (P1.2.1.2.2 (P.2.2.1 k))) (cwV 2 hts (gWSV q_l_5_163 q_im_X5_takes q_se_X5_takes q_in_5 q_co_X5_takes) rfl rfl rfl (by decide +kernel) ⟨Nat.le_of_ble_eq_true rfl, Nat.le_of_ble_eq_true rfl⟩) (hPreVw hE hS (hrecv hE hW h_114 (q := (RX5, TX5, 28)) rfl) hW) rfl rfl hl.1 rfl (lv_room (Nat.le_of_ble_eq_true rfl)) dX5_pass_171 ⟨Nat.le_of_ble_eq_true rfl, Nat.le_of_ble_eq_true rfl⟩) hS (fun rv_138 ct_136 H locs hp hW hS => ?_)
                    obtain ⟨ev_139, hR, hag_137, hxt_140⟩ := hp
                    rw [ev_139]
                    obtain ⟨⟨fr, pd, fb, fa, fx, pl, h8, h19, h20, h29, h32, h33, h34, h35⟩, ⟨h10, h11, h12, h15, h18⟩, ⟨h13, h16, h17, h21, h23, h24, rw9, an9, ii9, h26, h27, h28⟩, hn300, hm400, hlks, hks⟩ := id hR
                    have h_141 := (hxt_140 26 (by omega) (by omega)).trans h_135
                    have h_142 := (hxt_140 27 (by omega) (by omega)).trans h_128
                    have h_143 := (hxt_140 28 (by omega) (by omega)).trans h_134
                    refine hr_iastk S hE hW hS h_142 (j := P1.2.2.2) rfl hc300 (by decide) dX5_pass_174 (fun H locs ct_144 hW hk_145 hg_146 hz hS => ?_)
                    have h_147 := (hg_146 8 (by decide)).trans h8
                    have h_148 := (hg_146 10 (by decide)).trans h10
                    have h_149 := (hg_146 11 (by decide)).trans h11
                    have h_150 := (hg_146 12 (by decide)).trans h12
                    have h_151 := (hg_146 13 (by decide)).trans h13
                    have h_152 := (hg_146 15 (by decide)).trans h15
                    have h_153 := (hg_146 16 (by decide)).trans h16
                    have h_154 := (hg_146 17 (by decide)).trans h17
                    have h_155 := (hg_146 18 (by decide)).trans h18
                    have h_156 := (hg_146 19 (by decide)).trans h19
                    have h_157 := (hg_146 20 (by decide)).trans h20
                    have h_158 := (hg_146 21 (by decide)).trans h21
                    have h_159 := (hg_146 23 (by decide)).trans h23
                    have h_160 := (hg_146 24 (by decide)).trans h24
                    have h_161 := (hg_146 26 (by decide)).trans h_141
                    have h_162 := (hg_146 28 (by decide)).trans h_143
                    have h_163 := (hg_146 29 (by decide)).trans h29
                    have h_164 := (hg_146 32 (by decide)).trans h32
                    have h_165 := (hg_146 33 (by decide)).trans h33
                    have h_166 := (hg_146 34 (by decide)).trans h34
                    have h_167 := (hg_146 35 (by decide)).trans h35
                    have h_168 : ct_144 27 = some (.inl (G.2.1.1, 300, .inl (upd an P1.2.2.2 ((actD (tyM ks) (L.2.2 y) (takActF (tyM ks (L.2.2 y))) (P1.2.1.2.2 (P.2.2.1 k)) P1.1).1)))) := hk_145
                    refine lv_iinc (v := (nI (P1.2.2.2 + 1))) (lv' := [(3, .int (nI (P1.2.2.2 + 1))), (5, .int (nI y)), (4, .int (nI k)), (0, .ref (ad 8))]) hx hb dX5_pass_175 hl (k := 2) rfl (nI_1 _) (by decide) rfl (fun ls hl => ?_)
                    refine lv_iinc (v := (nI (y + 1))) (lv' := [(5, .int (nI (y + 1))), (3, .int (nI (P1.2.2.2 + 1))), (4, .int (nI k)), (0, .ref (ad 8))]) hx hb dX5_pass_178 hl (k := 1) rfl (nI_1 y) (by decide) rfl (fun ls hl => ?_)
                    refine lv_goto (tgt := 81) hx hb dX5_pass_181 (by decide) ?_
                    exact ih2 (y + 1) (takP (tyM ks) pl0 (L.2.2 y) (P1.2.1.2.2 (P.2.2.1 k)) P1) _ _ _ _ _ _ _ (by omega) (by rw [hv2, pnL, if_pos e1, if_neg e2]) ⟨Nat.lt_succ_of_lt hki.1, (va_up_ne _ _ (Nat.ne_of_lt hki.1)).trans hki.2⟩ (PI_tak hPI hty (Or.inr e2)) (PR_tak hPR hPI e2) (PB_tak (hks _) hPB) ⟨h_161, h_168, h_162⟩ ⟨⟨_, _, _, _, _, _, h_147, h_156, h_157, h_163, h_164, h_165, h_166, h_167⟩, ⟨h_148, h_149, h_150, h_152, h_155⟩, ⟨h_151, h_153, h_154, h_158, h_159, h_160, _, _, _, h_161, h_168, h_162⟩, hn300, hm400, hlks, hks⟩ (fun j hj => ((hg_146 j (by omega))).trans (((hag_137 j hj)).trans (((hg_113 j (by omega))).trans (((hg_88 j (by omega))).trans ((hag0 j hj)))))) hW hS (lv_sub hl [0, 2, 1, 3] rfl)
            exact loop2 L.1 0 P _ _ _ _ _ _ _ (by omega) rfl ⟨hkc, rfl⟩ hPI hPR hPB hI hR (fun j hj => (hag0 j hj)) hW hS (lv_sub hl [0, 1, 2, 3] rfl)
          · have hkc2 : P.2.2.2 ≤ k := by omega
            refine lv_iload hx hb dX5_pass_72 (lv_at hl 0 rfl) ?_
            refine lv_iload_n hx hb dX5_pass_74 rfl (lv_at hl 1 rfl) ?_
            refine lv_icmp_ge (tgt := 190) hx hb dX5_pass_75 (by decide) (fun _ => ?_) (fun q => absurd (nI_le hkc2 (by omega)) q)
            refine lv_iload_n hx hb dX5_pass_190 rfl (lv_at hl 1 rfl) ?_
            exact h_iret S hr hlk hS hW dX5_pass_191 ⟨by rw [hv1, psL, if_neg hkc], by rw [hv1, psL, if_neg hkc]; exact hR, (fun j hj => (hag0 j hj))⟩
      exact loop1 (n + 1) 0 (takP (tyM ks) pl0 i x ((clrA A, T, (fun _ => 0), 0) : P2)) _ _ _ _ _ _ _ (by omega) rfl hPI1 hPR1 hPB1 ⟨h_78, h_85, h_79⟩ ⟨⟨_, _, _, _, _, _, h_64, h_73, h_74, h_80, h_81, h_82, h_83, h_84⟩, ⟨h_65, h_66, h_67, h_69, h_72⟩, ⟨h_68, h_70, h_71, h_75, h_76, h_77, _, _, _, h_78, h_85, h_79⟩, hn300, hm400, hlks, hks⟩ (fun j hj => ((hg_63 j (by omega))).trans (((hag_54 j hj)).trans (((hg_30 j (by omega))).trans (((hg_5 j (by omega))).trans ((hag0 j hj)))))) hW hS (lv_sub hl [0, 1, 2] rfl)
    | succ rem ih =>
      intro k jj ct1 H locs ls hnk hv hR hag0 hW hS hl
      obtain ⟨⟨fr, pd, fb, fa, fx, pl, h8, h19, h20, h29, h32, h33, h34, h35⟩, ⟨h10, h11, h12, h15, h18⟩, ⟨h13, h16, h17, h21, h23, h24, rw_, an, ii, h26, h27, h28⟩, hn300, hm400, hlks, hks⟩ := id hR
      refine lv_iload_n hx hb dX5_pass_20 rfl (lv_at hl 0 rfl) ?_
      refine lv_aload_n hx hb dX5_pass_21 rfl (lv_at hl 1 rfl) ?_
      refine hr_get S hE hW h8 inX5 (C := RX5) (T := TX5) (N := 28) rfl 12 (by decide) q_f_5_123 rfl dX5_pass_22 ?_
      refine lv_icmp_ge (tgt := 41) hx hb dX5_pass_25 (by decide) (fun q => absurd q (nI_ge (by omega) (by omega))) (fun _ => ?_)
      refine lv_aload_n hx hb dX5_pass_28 rfl (lv_at hl 1 rfl) ?_
      refine hr_get S hE hW h8 inX5 (C := RX5) (T := TX5) (N := 28) rfl 18 (by decide) q_f_5_58 rfl dX5_pass_29 ?_
      refine lv_iload_n hx hb dX5_pass_32 rfl (lv_at hl 0 rfl) ?_
      refine lv_iconst (v := 0) hx hb dX5_pass_33 (by decide) ?_
      refine hr_zastk S hE hW hS hv.1 rfl (j := k) rfl (by omega) (by decide) dX5_pass_34 (fun H locs ct_169 hW hk_170 hg_171 hz hS => ?_)
      have h_172 := (hg_171 8 (by decide)).trans h8
      have h_173 := (hg_171 10 (by decide)).trans h10
      have h_174 := (hg_171 11 (by decide)).trans h11
      have h_175 := (hg_171 12 (by decide)).trans h12
      have h_176 := (hg_171 13 (by decide)).trans h13
      have h_177 := (hg_171 15 (by decide)).trans h15
      have h_178 := (hg_171 16 (by decide)).trans h16
      have h_179 := (hg_171 17 (by decide)).trans h17
      have h_180 := (hg_171 18 (by decide)).trans h18
      have h_181 := (hg_171 19 (by decide)).trans h19
      have h_182 := (hg_171 20 (by decide)).trans h20
      have h_183 := (hg_171 21 (by decide)).trans h21
      have h_184 := (hg_171 23 (by decide)).trans h23
      have h_185 := (hg_171 24 (by decide)).trans h24
      have h_186 := (hg_171 26 (by decide)).trans h26
      have h_187 := (hg_171 27 (by decide)).trans h27
      have h_188 := (hg_171 29 (by decide)).trans h29
      have h_189 := (hg_171 32 (by decide)).trans h32
      have h_190 := (hg_171 33 (by decide)).trans h33
      have h_191 := (hg_171 34 (by decide)).trans h34
      have h_192 := (hg_171 35 (by decide)).trans h35
      have h_193 : ct_169 28 = some (.inl (G.2.1.2.1, 300, .inl (upd jj k 0))) := hk_170
      refine lv_iinc (v := (nI (k + 1))) (lv' := [(3, .int (nI (k + 1))), (0, .ref (ad 8)), (1, .int (nI i)), (2, .int x)]) hx hb dX5_pass_35 hl (k := 0) rfl (nI_1 k) (by decide) rfl (fun ls hl => ?_)
      refine lv_goto (tgt := 20) hx hb dX5_pass_38 (by decide) ?_
      exact ih (k + 1) _ _ _ _ _ (by omega) ⟨h_193, upd_z0 hv.2⟩ ⟨⟨_, _, _, _, _, _, h_172, h_181, h_182, h_188, h_189, h_190, h_191, h_192⟩, ⟨h_173, h_174, h_175, h_177, h_180⟩, ⟨h_176, h_178, h_179, h_183, h_184, h_185, _, _, _, h_186, h_187, h_193⟩, hn300, hm400, hlks, hks⟩ (fun j hj => ((hg_171 j (by omega))).trans ((hag0 j hj))) hW hS (lv_sub hl [0, 1, 2, 3] rfl)
  exact loop n 0 _ _ _ _ _ (by omega) ⟨h28, fun j hj => absurd hj (Nat.not_lt_zero j)⟩ hR (fun j hj => (hag_2 j hj)) hW hS (lv_sub hl [0, 1, 2, 3] rfl)
set_option maxRecDepth 100000 in
set_option maxHeartbeats 4000000 in
theorem c_X5_pass_no (l : Launch) (G : hG) (ad : Nat → Nat) (ct : Nat → Option va_E) {n : Nat} {ks : Nat → Nat} {A : AS} {tk : Nat → Int32} {L : LS4} {st0 : Int32} (hR : RM G ad ct n ks A tk L st0) {d : Int32} (hd : ∀ i, i < n → d ≠ nI i) (x : Int32)  : Met l yX5_pass wzX5_pass { frames := 4, cells := 0, slots := 0, locals := 93 } (hPw [.ref (ad 8), .int d, .int x] G ad ct) (hQi (fun r ct1 => r = 0 ∧ RM G ad ct1 n ks A tk L 1 ∧ agX ct1 ct) G ad) 0 0 (hA G.2.2.2) := by
  refine hMetw (by decide) (Nat.le_of_ble_eq_true rfl) (fun p e s m below meth c ls S hr hlk hE hW hl => ?_)
  obtain ⟨hx, hb, hml, hown, hts⟩ := id S
  have hS : va_S (hA G.2.2.2) s.heap s.heap [] := va_S.rf
  have hl : lv_has ls 6 [(0, .ref (ad 8)), (1, .int d), (2, .int x)] := hl
  obtain ⟨⟨fr, pd, fb, fa, fx, pl, h8, h19, h20, h29, h32, h33, h34, h35⟩, ⟨h10, h11, h12, h15, h18⟩, ⟨h13, h16, h17, h21, h23, h24, rw_, an, ii, h26, h27, h28⟩, hn300, hm400, hlks, hks⟩ := id hR
  refine lv_aload_n hx hb dX5_pass_0 rfl (lv_at hl 0 rfl) ?_
  refine lv_iload_n hx hb dX5_pass_1 rfl (lv_at hl 1 rfl) ?_
  refine hc_r (va_runV (As := [.int d]) (rest := []) S (c_X5_isDevice l G _ hW hR d) (cwV 1 hts (gWSV q_l_5_129 q_im_X5_isDevice q_se_X5_isDevice q_in_5 q_co_X5_isDevice) rfl rfl rfl (by decide +kernel) ⟨Nat.le_of_ble_eq_true rfl, Nat.le_of_ble_eq_true rfl⟩) (hPreVr hE hS (hrecv hE hW h8 (q := (RX5, TX5, 28)) rfl)) rfl rfl hl.1 rfl (lv_room (Nat.le_of_ble_eq_true rfl)) dX5_pass_2 ⟨Nat.le_of_ble_eq_true rfl, Nat.le_of_ble_eq_true rfl⟩) hS (fun locs hS => ?_)
  refine lv_if_ne (tgt := 14) hx hb dX5_pass_5 (by decide) (fun q => absurd (isDevF_no hn300 hd) q) (fun _ => ?_)
  refine lv_aload_n hx hb dX5_pass_8 rfl (lv_at hl 0 rfl) ?_
  refine lv_iconst (v := 1) hx hb dX5_pass_9 (by decide) ?_
  refine hc_i (va_runV (As := [.int 1]) (rest := []) S (c_X5_refused l G ad _ hR 1) (cwV 1 hts (gWSV q_l_5_151 q_im_X5_refused q_se_X5_refused q_in_5 q_co_X5_refused) rfl rfl rfl (by decide +kernel) ⟨Nat.le_of_ble_eq_true rfl, Nat.le_of_ble_eq_true rfl⟩) (hPreVw hE hS (hrecv hE hW h8 (q := (RX5, TX5, 28)) rfl) hW) rfl rfl hl.1 rfl (lv_room (Nat.le_of_ble_eq_true rfl)) dX5_pass_10 ⟨Nat.le_of_ble_eq_true rfl, Nat.le_of_ble_eq_true rfl⟩) hS (fun rv_3 ct_1 H locs hp hW hS => ?_)
  obtain ⟨ev_4, hR, hag_2⟩ := hp
  rw [ev_4]
  obtain ⟨⟨fr, pd, fb, fa, fx, pl, h8, h19, h20, h29, h32, h33, h34, h35⟩, ⟨h10, h11, h12, h15, h18⟩, ⟨h13, h16, h17, h21, h23, h24, rw_, an, ii, h26, h27, h28⟩, hn300, hm400, hlks, hks⟩ := id hR
  exact h_iret S hr hlk hS hW dX5_pass_13 ⟨rfl, hR, (fun j hj => (hag_2 j hj))⟩
