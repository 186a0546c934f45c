/-! the model's constructor, stage by stage -/
def HI (p : Program) (l : Launch) (e : Env) (s : State) (m : MethodId) (args : Array Value) (below : List Frame) (meth : Method) (c : Code) (Q : State → Prop) (G : hG) (ad : Nat → Nat) (ct0 : Nat → Option va_E) (pc : Nat) (I : IT) : Prop :=
  ∀ (ct : Nat → Option va_E) (H : Heap) (locs : List Loc) (ls : Array Slot), IC G ad ct0 ct I → hw G ad ct H → va_S (hA G.2.2.2) s.heap H locs → lv_has ls 3 [(0, .ref (ad 8))] → W p l e ({ frames := 4, cells := 22, slots := 4584, locals := 89 } : Room) s m args below meth c H locs 22 4584 Q (F0 m pc ls [])
theorem ICe_11 {G : hG} {ad : Nat → Nat} {ct0 ct : Nat → Option va_E} {I : IT} {H : Heap} (h : IC G ad ct0 ct I) (hW : hw G ad ct H) {f : Nat → Int32} (hf : ∀ j, j < 210 → I.1 j = f j) : ∃ ct1, IC G ad ct0 ct1 (f, I.2.1, I.2.2.1, I.2.2.2.1, I.2.2.2.2.1, I.2.2.2.2.2.1, I.2.2.2.2.2.2) ∧ hw G ad ct1 H :=
  ⟨_, IC_11 h (va_up_self ct 11 _) (fun j hj => va_up_ne _ _ hj), hW.setArr (h.2.2.1) hf⟩
theorem ICe_12 {G : hG} {ad : Nat → Nat} {ct0 ct : Nat → Option va_E} {I : IT} {H : Heap} (h : IC G ad ct0 ct I) (hW : hw G ad ct H) {f : Nat → Int32} (hf : ∀ j, j < 21 → I.2.1 j = f j) : ∃ ct1, IC G ad ct0 ct1 (I.1, f, I.2.2.1, I.2.2.2.1, I.2.2.2.2.1, I.2.2.2.2.2.1, I.2.2.2.2.2.2) ∧ hw G ad ct1 H :=
  ⟨_, IC_12 h (va_up_self ct 12 _) (fun j hj => va_up_ne _ _ hj), hW.setArr (h.2.2.2.1) hf⟩
theorem ICe_13 {G : hG} {ad : Nat → Nat} {ct0 ct : Nat → Option va_E} {I : IT} {H : Heap} (h : IC G ad ct0 ct I) (hW : hw G ad ct H) {f : Nat → Int32} (hf : ∀ j, j < 21 → I.2.2.1 j = f j) : ∃ ct1, IC G ad ct0 ct1 (I.1, I.2.1, f, I.2.2.2.1, I.2.2.2.2.1, I.2.2.2.2.2.1, I.2.2.2.2.2.2) ∧ hw G ad ct1 H :=
  ⟨_, IC_13 h (va_up_self ct 13 _) (fun j hj => va_up_ne _ _ hj), hW.setArr (h.2.2.2.2.1) hf⟩
theorem ICe_14 {G : hG} {ad : Nat → Nat} {ct0 ct : Nat → Option va_E} {I : IT} {H : Heap} (h : IC G ad ct0 ct I) (hW : hw G ad ct H) {f : Nat → Int32} (hf : ∀ j, j < 252 → I.2.2.2.1 j = f j) : ∃ ct1, IC G ad ct0 ct1 (I.1, I.2.1, I.2.2.1, f, I.2.2.2.2.1, I.2.2.2.2.2.1, I.2.2.2.2.2.2) ∧ hw G ad ct1 H :=
  ⟨_, IC_14 h (va_up_self ct 14 _) (fun j hj => va_up_ne _ _ hj), hW.setArr (h.2.2.2.2.2.1) hf⟩
theorem ICe_15 {G : hG} {ad : Nat → Nat} {ct0 ct : Nat → Option va_E} {I : IT} {H : Heap} (h : IC G ad ct0 ct I) (hW : hw G ad ct H) {f : Nat → Int32} (hf : ∀ j, j < 252 → I.2.2.2.2.1 j = f j) : ∃ ct1, IC G ad ct0 ct1 (I.1, I.2.1, I.2.2.1, I.2.2.2.1, f, I.2.2.2.2.2.1, I.2.2.2.2.2.2) ∧ hw G ad ct1 H :=
  ⟨_, IC_15 h (va_up_self ct 15 _) (fun j hj => va_up_ne _ _ hj), hW.setArr (h.2.2.2.2.2.2.1) hf⟩
theorem ICe_16 {G : hG} {ad : Nat → Nat} {ct0 ct : Nat → Option va_E} {I : IT} {H : Heap} (h : IC G ad ct0 ct I) (hW : hw G ad ct H) {f : Nat → Int32} (hf : ∀ j, j < 7 → I.2.2.2.2.2.1 j = f j) : ∃ ct1, IC G ad ct0 ct1 (I.1, I.2.1, I.2.2.1, I.2.2.2.1, I.2.2.2.2.1, f, I.2.2.2.2.2.2) ∧ hw G ad ct1 H :=
  ⟨_, IC_16 h (va_up_self ct 16 _) (fun j hj => va_up_ne _ _ hj), hW.setArr (h.2.2.2.2.2.2.2.1) hf⟩
theorem ICe_17 {G : hG} {ad : Nat → Nat} {ct0 ct : Nat → Option va_E} {I : IT} {H : Heap} (h : IC G ad ct0 ct I) (hW : hw G ad ct H) {f : Nat → Int32} (hf : ∀ j, j < 11 → I.2.2.2.2.2.2 j = f j) : ∃ ct1, IC G ad ct0 ct1 (I.1, I.2.1, I.2.2.1, I.2.2.2.1, I.2.2.2.2.1, I.2.2.2.2.2.1, f) ∧ hw G ad ct1 H :=
  ⟨_, IC_17 h (va_up_self ct 17 _) (fun j hj => va_up_ne _ _ hj), hW.setArr (h.2.2.2.2.2.2.2.2.1) hf⟩
def hsC (k : Nat) : Nat → Int32 := fun j => if j < k then -1 else 0
theorem hsC_up (t : Nat) : upd (hsC t) t (-1) = hsC (t + 1) := cut_up (g := fun _ => -1)
theorem hsC_0 : zF = hsC 0 := by funext j; unfold zF hsC; simp
def staC : Nat → Nat → Int32
  | 0 => zF
  | k + 1 => if codT k ≤ 3000 then staC k else upd (staC k) (codT k - 3000).toNatClampNeg (nI (k + 1))
theorem sta_ixB : ∀ k, k < 246 → (decide (codT k ≤ 3000) || (decide (codT k - 3000 = nI (codT k - 3000).toNatClampNeg) && decide ((codT k - 3000).toNatClampNeg < 210))) = true := by decide +kernel
theorem sta_ix {k : Nat} (hk : k < 246) (h : ¬ codT k ≤ 3000) : codT k - 3000 = nI (codT k - 3000).toNatClampNeg ∧ (codT k - 3000).toNatClampNeg < 210 := by
  have q := sta_ixB k hk
  rw [decide_eq_false h, Bool.false_or, Bool.and_eq_true, decide_eq_true_eq, decide_eq_true_eq] at q
  exact q
theorem sta_all : ∀ j, j < 210 → staC 246 j = staT j := by decide +kernel
def chC (k : Nat) : Nat → Int32 := fun j => if j < k then choT j else 0
theorem chC_up (t : Nat) : upd (chC t) t (choT t) = chC (t + 1) := cut_up
theorem chC_all : chC 252 = choT := cut_all (by decide +kernel)
theorem chC_12 : ∀ j, j < 252 → zF j = chC 12 j := by decide +kernel
theorem chs_tab : ∀ t, t < 21 → ∀ a, a < 12 → (if 5 < nI t then slM t a 20 (nI t) else if t = 0 then 0 else lowM hasT (clM (bitM (nI t))) a 5 1) = choT (t * 12 + a) := by decide +kernel
def akC (k : Nat) : Nat → Int32 := fun j => if j < k then akT j else 0
theorem akC_up (t : Nat) : upd (akC t) t (akT t) = akC (t + 1) := cut_up
theorem akC_all : akC 11 = akT := cut_all (by decide +kernel)
theorem akC_0 : zF = akC 0 := by funext j; unfold zF akC; simp
def akL (k : Nat) : Nat → Int32
  | 0 => aoT 1
  | i + 1 => if beaT (10 + k) &&& bitM (nI (i + 1)) = 0 then akL k i else akL k i ||| aoT (1 + (i + 1))
theorem akL_5 : ∀ k, k < 11 → akL k 5 = akT k := by decide +kernel
set_option maxRecDepth 100000 in
set_option maxHeartbeats 4000000 in
theorem ini_C {p : Program} {l : Launch} {e : Env} {s : State} {m : MethodId} {args : Array Value} {below : List Frame} {meth : Method} {c : Code} {Q : State → Prop} {G : hG} {ad : Nat → Nat} {ct0 : Nat → Option va_E} (S : CallFix p m c cX5_init 3 s args WS yX5_init.cls) (hE : gE G s)  (hnext : HI p l e s m args below meth c Q G ad ct0 1986 (zF, zF, zF, (hsC 252), zF, zF, zF)) : HI p l e s m args below meth c Q G ad ct0 1964 (zF, zF, zF, zF, zF, zF, zF) := by
  intro ct H locs ls hI hW hS hl
  obtain ⟨hx, hb, hml, hown, hts⟩ := id S
  refine lv_iconst (v := 0) hx hb dX5_init_1964 (by decide) ?_
  refine lv_istore_n (lv' := [(1, .int 0), (0, .ref (ad 8))]) hx hb dX5_init_1965 rfl hl (by decide) rfl (fun ls hl => ?_)
  have hI : IC G ad ct0 ct (zF, zF, zF, (hsC 0), zF, zF, zF) := by rw [← hsC_0]; exact hI
  have loop : ∀ (rem k : Nat) (ct : Nat → Option va_E) (H : Heap) (locs : List Loc) (ls : Array Slot), k + rem = 252 → IC G ad ct0 ct (zF, zF, zF, (hsC k), zF, zF, zF) → hw G ad ct H → va_S (hA G.2.2.2) s.heap H locs → lv_has ls 3 [(1, .int (nI k)), (0, .ref (ad 8))] → W p l e ({ frames := 4, cells := 22, slots := 4584, locals := 89 } : Room) s m args below meth c H locs 22 4584 Q (F0 m 1966 ls []) := by
    intro rem
    induction rem with
    | zero =>
      intro k ct H locs ls hn_loop hI hW hS hl
      have hk : k = 252 := by omega
      subst hk
      refine lv_iload_n hx hb dX5_init_1966 rfl (lv_at hl 0 rfl) ?_
      refine lv_sipush (v := 252) hx hb dX5_init_1967 (by decide) ?_
      refine lv_icmp_ge (tgt := 1986) hx hb dX5_init_1970 (by decide) (fun _ => ?_) (fun q => absurd (by decide) q)
      exact hnext _ _ _ _ hI hW hS (lv_sub hl [1] rfl)
    | succ rem ih_loop =>
      intro k ct H locs ls hn_loop hI hW hS hl
      refine lv_iload_n hx hb dX5_init_1966 rfl (lv_at hl 0 rfl) ?_
      refine lv_sipush (v := 252) hx hb dX5_init_1967 (by decide) ?_
      refine lv_icmp_ge (tgt := 1986) hx hb dX5_init_1970 (by decide) (fun q => absurd q (nI_ge (b := 252) (by omega) (by omega))) (fun _ => ?_)
      refine lv_aload_n hx hb dX5_init_1973 rfl (lv_at hl 1 rfl) ?_
      refine hr_get S hE hW hI.1 inX5 (C := RX5) (T := TX5) (N := 28) rfl 4 (by decide) q_f_5_22 rfl dX5_init_1974 ?_
      refine lv_iload_n hx hb dX5_init_1977 rfl (lv_at hl 0 rfl) ?_
      refine lv_iconst (v := (-1)) hx hb dX5_init_1978 (by decide) ?_
      refine hr_iastk S hE hW hS hI.2.2.2.2.2.1 (j := k) rfl (by omega) (by decide) dX5_init_1979 (fun H locs ct_1 hW hk_2 hg_3 hz hS => ?_)
      have hI : IC G ad ct0 ct_1 (zF, zF, zF, upd (hsC k) k (-1), zF, zF, zF) := IC_14 hI hk_2 hg_3
      refine lv_iinc (v := (nI (k + 1))) (lv' := [(1, .int (nI (k + 1))), (0, .ref (ad 8))]) hx hb dX5_init_1980 hl (k := 0) rfl (nI_1 k) (by decide) rfl (fun ls hl => ?_)
      refine lv_goto (tgt := 1966) hx hb dX5_init_1983 (by decide) ?_
      have hI : IC G ad ct0 ct_1 (zF, zF, zF, (hsC (k + 1)), zF, zF, zF) := by rw [← hsC_up]; exact hI
      exact ih_loop (k + 1) _ _ _ _ (by omega) hI hW hS (lv_sub hl [0, 1] rfl)
  exact loop 252 0 _ _ _ _ (by omega) hI hW hS (lv_sub hl [0, 1] rfl)
set_option maxRecDepth 100000 in
set_option maxHeartbeats 4000000 in
theorem ini_D {p : Program} {l : Launch} {e : Env} {s : State} {m : MethodId} {args : Array Value} {below : List Frame} {meth : Method} {c : Code} {Q : State → Prop} {G : hG} {ad : Nat → Nat} {ct0 : Nat → Option va_E} (S : CallFix p m c cX5_init 3 s args WS yX5_init.cls) (hE : gE G s)  (hnext : HI p l e s m args below meth c Q G ad ct0 2033 (staT, zF, zF, (hsC 252), zF, zF, zF)) : HI p l e s m args below meth c Q G ad ct0 1986 (zF, zF, zF, (hsC 252), zF, zF, zF) := by
  intro ct H locs ls hI hW hS hl
  obtain ⟨hx, hb, hml, hown, hts⟩ := id S
  refine lv_iconst (v := 0) hx hb dX5_init_1986 (by decide) ?_
  refine lv_istore_n (lv' := [(1, .int 0), (0, .ref (ad 8))]) hx hb dX5_init_1987 rfl hl (by decide) rfl (fun ls hl => ?_)
  have loop : ∀ (rem k : Nat) (ct : Nat → Option va_E) (H : Heap) (locs : List Loc) (ls : Array Slot), k + rem = 246 → IC G ad ct0 ct ((staC k), zF, zF, (hsC 252), zF, zF, zF) → hw G ad ct H → va_S (hA G.2.2.2) s.heap H locs → lv_has ls 3 [(1, .int (nI k)), (0, .ref (ad 8))] → W p l e ({ frames := 4, cells := 22, slots := 4584, locals := 89 } : Room) s m args below meth c H locs 22 4584 Q (F0 m 1988 ls []) := by
    intro rem
    induction rem with
    | zero =>
      intro k ct H locs ls hn_loop hI hW hS hl
      have hk : k = 246 := by omega
      subst hk
      obtain ⟨ct_e, hI, hW⟩ := ICe_11 hI hW sta_all
      refine lv_iload_n hx hb dX5_init_1988 rfl (lv_at hl 0 rfl) ?_
      refine lv_aload_n hx hb dX5_init_1989 rfl (lv_at hl 1 rfl) ?_
      refine hr_get S hE hW hI.1 inX5 (C := RX5) (T := TX5) (N := 28) rfl 0 (by decide) q_f_5_9 rfl dX5_init_1990 ?_
      refine hr_alen S hE hW hI.2.1 0 rfl (v := 246) rfl dX5_init_1993 ?_
      refine lv_icmp_ge (tgt := 2033) hx hb dX5_init_1994 (by decide) (fun _ => ?_) (fun q => absurd (by decide) q)
      exact hnext _ _ _ _ hI hW hS (lv_sub hl [1] rfl)
    | succ rem ih_loop =>
      intro k ct H locs ls hn_loop hI hW hS hl
      refine lv_iload_n hx hb dX5_init_1988 rfl (lv_at hl 0 rfl) ?_
      refine lv_aload_n hx hb dX5_init_1989 rfl (lv_at hl 1 rfl) ?_
      refine hr_get S hE hW hI.1 inX5 (C := RX5) (T := TX5) (N := 28) rfl 0 (by decide) q_f_5_9 rfl dX5_init_1990 ?_
      refine hr_alen S hE hW hI.2.1 0 rfl (v := 246) rfl dX5_init_1993 ?_
      refine lv_icmp_ge (tgt := 2033) hx hb dX5_init_1994 (by decide) (fun q => absurd q (nI_ge (b := 246) (by omega) (by omega))) (fun _ => ?_)
      refine lv_aload_n hx hb dX5_init_1997 rfl (lv_at hl 1 rfl) ?_
      refine hr_get S hE hW hI.1 inX5 (C := RX5) (T := TX5) (N := 28) rfl 0 (by decide) q_f_5_9 rfl dX5_init_1998 ?_
      refine lv_iload_n hx hb dX5_init_2001 rfl (lv_at hl 0 rfl) ?_
      refine hr_ialdk S hE hW hI.2.1 (j := k) rfl (by omega) (by decide) dX5_init_2002 ?_
      refine lv_sipush (v := 3000) hx hb dX5_init_2003 (by decide) ?_
      refine lv_icmp_le (tgt := 2027) hx hb dX5_init_2006 (by decide) (fun c_2006 => ?_) (fun c_2006 => ?_)
      · refine lv_iinc (v := (nI (k + 1))) (lv' := [(1, .int (nI (k + 1))), (0, .ref (ad 8))]) hx hb dX5_init_2027 hl (k := 0) rfl (nI_1 k) (by decide) rfl (fun ls hl => ?_)
        refine lv_goto (tgt := 1988) hx hb dX5_init_2030 (by decide) ?_
        have hI : IC G ad ct0 ct ((staC (k + 1)), zF, zF, (hsC 252), zF, zF, zF) := by rw [staC, if_pos c_2006]; exact hI
        exact ih_loop (k + 1) _ _ _ _ (by omega) hI hW hS (lv_sub hl [0, 1] rfl)
      · have hsx := sta_ix (k := k) (by omega) c_2006
        refine lv_aload_n hx hb dX5_init_2009 rfl (lv_at hl 1 rfl) ?_
        refine hr_get S hE hW hI.1 inX5 (C := RX5) (T := TX5) (N := 28) rfl 1 (by decide) q_f_5_13 rfl dX5_init_2010 ?_
        refine lv_aload_n hx hb dX5_init_2013 rfl (lv_at hl 1 rfl) ?_
        refine hr_get S hE hW hI.1 inX5 (C := RX5) (T := TX5) (N := 28) rfl 0 (by decide) q_f_5_9 rfl dX5_init_2014 ?_
        refine lv_iload_n hx hb dX5_init_2017 rfl (lv_at hl 0 rfl) ?_
        refine hr_ialdk S hE hW hI.2.1 (j := k) rfl (by omega) (by decide) dX5_init_2018 ?_
        refine lv_sipush (v := 3000) hx hb dX5_init_2019 (by decide) ?_
        refine lv_isub hx hb dX5_init_2022 ?_
        refine lv_iload_n hx hb dX5_init_2023 rfl (lv_at hl 0 rfl) ?_
        refine lv_iconst (v := 1) hx hb dX5_init_2024 (by decide) ?_
        refine lv_iadd hx hb dX5_init_2025 ?_
        rw [nI_1]
        refine hr_iastk S hE hW hS hI.2.2.1 (j := (codT k - 3000).toNatClampNeg) hsx.1 hsx.2 (by decide) dX5_init_2026 (fun H locs ct_1 hW hk_2 hg_3 hz hS => ?_)
        have hI : IC G ad ct0 ct_1 (upd (staC k) ((codT k - 3000).toNatClampNeg) (nI (k + 1)), zF, zF, (hsC 252), zF, zF, zF) := IC_11 hI hk_2 hg_3
        refine lv_iinc (v := (nI (k + 1))) (lv' := [(1, .int (nI (k + 1))), (0, .ref (ad 8))]) hx hb dX5_init_2027 hl (k := 0) rfl (nI_1 k) (by decide) rfl (fun ls hl => ?_)
        refine lv_goto (tgt := 1988) hx hb dX5_init_2030 (by decide) ?_
        have hI : IC G ad ct0 ct_1 ((staC (k + 1)), zF, zF, (hsC 252), zF, zF, zF) := by rw [staC, if_neg c_2006]; exact hI
        exact ih_loop (k + 1) _ _ _ _ (by omega) hI hW hS (lv_sub hl [0, 1] rfl)
  exact loop 246 0 _ _ _ _ (by omega) hI hW hS (lv_sub hl [0, 1] rfl)
def ha_0 : Nat → Int32 := hsC 252
def ha_1 : Nat → Int32 := upd ha_0 13 10
def ha_2 : Nat → Int32 := upd ha_1 14 11
def ha_3 : Nat → Int32 := upd ha_2 28 20
def ha_4 : Nat → Int32 := upd ha_3 26 21
def ha_5 : Nat → Int32 := upd ha_4 38 30
def ha_6 : Nat → Int32 := upd ha_5 54 40
def ha_7 : Nat → Int32 := upd ha_6 55 41
def ha_8 : Nat → Int32 := upd ha_7 67 50
def ha_9 : Nat → Int32 := upd ha_8 68 51
def ha_10 : Nat → Int32 := upd ha_9 81 60
def ha_11 : Nat → Int32 := upd ha_10 82 61
def ha_12 : Nat → Int32 := upd ha_11 75 62
def ha_13 : Nat → Int32 := upd ha_12 83 64
def ha_14 : Nat → Int32 := upd ha_13 89 70
def ha_15 : Nat → Int32 := upd ha_14 120 100
def ha_16 : Nat → Int32 := upd ha_15 129 101
def ha_17 : Nat → Int32 := upd ha_16 142 110
def ha_18 : Nat → Int32 := upd ha_17 136 111
def ha_19 : Nat → Int32 := upd ha_18 150 120
def ha_20 : Nat → Int32 := upd ha_19 156 130
def ha_21 : Nat → Int32 := upd ha_20 157 131
def ha_22 : Nat → Int32 := upd ha_21 168 140
def ha_23 : Nat → Int32 := upd ha_22 170 141
def ha_24 : Nat → Int32 := upd ha_23 178 142
def ha_25 : Nat → Int32 := upd ha_24 180 150
def ha_26 : Nat → Int32 := upd ha_25 189 151
def ha_27 : Nat → Int32 := upd ha_26 184 152
def ha_28 : Nat → Int32 := upd ha_27 197 160
def ha_29 : Nat → Int32 := upd ha_28 200 161
def ha_30 : Nat → Int32 := upd ha_29 201 163
def ha_31 : Nat → Int32 := upd ha_30 225 180
def ha_32 : Nat → Int32 := upd ha_31 218 181
def ha_33 : Nat → Int32 := upd ha_32 228 190
def ha_34 : Nat → Int32 := upd ha_33 247 201
def ha_35 : Nat → Int32 := upd ha_34 242 202
def ha_36 : Nat → Int32 := upd ha_35 245 204
theorem ha_all : ∀ j, j < 252 → ha_36 j = hasT j := by decide +kernel
set_option maxRecDepth 100000 in
set_option maxHeartbeats 4000000 in
theorem ini_E {p : Program} {l : Launch} {e : Env} {s : State} {m : MethodId} {args : Array Value} {below : List Frame} {meth : Method} {c : Code} {Q : State → Prop} {G : hG} {ad : Nat → Nat} {ct0 : Nat → Option va_E} (S : CallFix p m c cX5_init 3 s args WS yX5_init.cls) (hE : gE G s)  (hnext : HI p l e s m args below meth c Q G ad ct0 2381 (staT, zF, zF, ha_36, zF, zF, zF)) : HI p l e s m args below meth c Q G ad ct0 2033 (staT, zF, zF, (hsC 252), zF, zF, zF) := by
  intro ct H locs ls hI hW hS hl
  obtain ⟨hx, hb, hml, hown, hts⟩ := id S
  have hI : IC G ad ct0 ct (staT, zF, zF, ha_0, zF, zF, zF) := hI
  refine lv_aload_n hx hb dX5_init_2033 rfl (lv_at hl 0 rfl) ?_
  refine lv_iconst (v := 1) hx hb dX5_init_2034 (by decide) ?_
  refine lv_iconst (v := 1) hx hb dX5_init_2035 (by decide) ?_
  refine lv_bipush (v := 10) hx hb dX5_init_2036 (by decide) ?_
  refine hc_v (va_runV (As := [.int 1, .int 1, .int 10]) (rest := []) S (c_X5_have l G ad _ hI (t := 1) (a := 1) (by decide) 10) (cwV 3 hts (gWSV q_l_5_77 q_im_X5_have q_se_X5_have q_in_5 q_co_X5_have) rfl rfl rfl (by decide +kernel) ⟨Nat.le_of_ble_eq_true rfl, Nat.le_of_ble_eq_true rfl⟩) (hPreVw hE hS (hrecv hE hW hI.1 (q := (RX5, TX5, 28)) rfl) hW) rfl rfl hl.1 rfl (lv_room (Nat.le_of_ble_eq_true rfl)) dX5_init_2038 ⟨Nat.le_of_ble_eq_true rfl, Nat.le_of_ble_eq_true rfl⟩) hS (fun ct_1 H locs hI hW hS => ?_)
  have hI : IC G ad ct0 ct_1 (staT, zF, zF, ha_1, zF, zF, zF) := hI
  refine lv_aload_n hx hb dX5_init_2041 rfl (lv_at hl 0 rfl) ?_
  refine lv_iconst (v := 1) hx hb dX5_init_2042 (by decide) ?_
  refine lv_iconst (v := 2) hx hb dX5_init_2043 (by decide) ?_
  refine lv_bipush (v := 11) hx hb dX5_init_2044 (by decide) ?_
  refine hc_v (va_runV (As := [.int 1, .int 2, .int 11]) (rest := []) S (c_X5_have l G ad _ hI (t := 1) (a := 2) (by decide) 11) (cwV 3 hts (gWSV q_l_5_77 q_im_X5_have q_se_X5_have q_in_5 q_co_X5_have) rfl rfl rfl (by decide +kernel) ⟨Nat.le_of_ble_eq_true rfl, Nat.le_of_ble_eq_true rfl⟩) (hPreVw hE hS (hrecv hE hW hI.1 (q := (RX5, TX5, 28)) rfl) hW) rfl rfl hl.1 rfl (lv_room (Nat.le_of_ble_eq_true rfl)) dX5_init_2046 ⟨Nat.le_of_ble_eq_true rfl, Nat.le_of_ble_eq_true rfl⟩) hS (fun ct_2 H locs hI hW hS => ?_)
  have hI : IC G ad ct0 ct_2 (staT, zF, zF, ha_2, zF, zF, zF) := hI
  refine lv_aload_n hx hb dX5_init_2049 rfl (lv_at hl 0 rfl) ?_
  refine lv_iconst (v := 2) hx hb dX5_init_2050 (by decide) ?_
  refine lv_iconst (v := 4) hx hb dX5_init_2051 (by decide) ?_
  refine lv_bipush (v := 20) hx hb dX5_init_2052 (by decide) ?_
  refine hc_v (va_runV (As := [.int 2, .int 4, .int 20]) (rest := []) S (c_X5_have l G ad _ hI (t := 2) (a := 4) (by decide) 20) (cwV 3 hts (gWSV q_l_5_77 q_im_X5_have q_se_X5_have q_in_5 q_co_X5_have) rfl rfl rfl (by decide +kernel) ⟨Nat.le_of_ble_eq_true rfl, Nat.le_of_ble_eq_true rfl⟩) (hPreVw hE hS (hrecv hE hW hI.1 (q := (RX5, TX5, 28)) rfl) hW) rfl rfl hl.1 rfl (lv_room (Nat.le_of_ble_eq_true rfl)) dX5_init_2054 ⟨Nat.le_of_ble_eq_true rfl, Nat.le_of_ble_eq_true rfl⟩) hS (fun ct_3 H locs hI hW hS => ?_)
  have hI : IC G ad ct0 ct_3 (staT, zF, zF, ha_3, zF, zF, zF) := hI
  refine lv_aload_n hx hb dX5_init_2057 rfl (lv_at hl 0 rfl) ?_
  refine lv_iconst (v := 2) hx hb dX5_init_2058 (by decide) ?_
  refine lv_iconst (v := 2) hx hb dX5_init_2059 (by decide) ?_
  refine lv_bipush (v := 21) hx hb dX5_init_2060 (by decide) ?_
  refine hc_v (va_runV (As := [.int 2, .int 2, .int 21]) (rest := []) S (c_X5_have l G ad _ hI (t := 2) (a := 2) (by decide) 21) (cwV 3 hts (gWSV q_l_5_77 q_im_X5_have q_se_X5_have q_in_5 q_co_X5_have) rfl rfl rfl (by decide +kernel) ⟨Nat.le_of_ble_eq_true rfl, Nat.le_of_ble_eq_true rfl⟩) (hPreVw hE hS (hrecv hE hW hI.1 (q := (RX5, TX5, 28)) rfl) hW) rfl rfl hl.1 rfl (lv_room (Nat.le_of_ble_eq_true rfl)) dX5_init_2062 ⟨Nat.le_of_ble_eq_true rfl, Nat.le_of_ble_eq_true rfl⟩) hS (fun ct_4 H locs hI hW hS => ?_)
  have hI : IC G ad ct0 ct_4 (staT, zF, zF, ha_4, zF, zF, zF) := hI
  refine lv_aload_n hx hb dX5_init_2065 rfl (lv_at hl 0 rfl) ?_
  refine lv_iconst (v := 3) hx hb dX5_init_2066 (by decide) ?_
  refine lv_iconst (v := 2) hx hb dX5_init_2067 (by decide) ?_
  refine lv_bipush (v := 30) hx hb dX5_init_2068 (by decide) ?_
  refine hc_v (va_runV (As := [.int 3, .int 2, .int 30]) (rest := []) S (c_X5_have l G ad _ hI (t := 3) (a := 2) (by decide) 30) (cwV 3 hts (gWSV q_l_5_77 q_im_X5_have q_se_X5_have q_in_5 q_co_X5_have) rfl rfl rfl (by decide +kernel) ⟨Nat.le_of_ble_eq_true rfl, Nat.le_of_ble_eq_true rfl⟩) (hPreVw hE hS (hrecv hE hW hI.1 (q := (RX5, TX5, 28)) rfl) hW) rfl rfl hl.1 rfl (lv_room (Nat.le_of_ble_eq_true rfl)) dX5_init_2070 ⟨Nat.le_of_ble_eq_true rfl, Nat.le_of_ble_eq_true rfl⟩) hS (fun ct_5 H locs hI hW hS => ?_)
  have hI : IC G ad ct0 ct_5 (staT, zF, zF, ha_5, zF, zF, zF) := hI
  refine lv_aload_n hx hb dX5_init_2073 rfl (lv_at hl 0 rfl) ?_
  refine lv_iconst (v := 4) hx hb dX5_init_2074 (by decide) ?_
  refine lv_bipush (v := 6) hx hb dX5_init_2075 (by decide) ?_
  refine lv_bipush (v := 40) hx hb dX5_init_2077 (by decide) ?_
  refine hc_v (va_runV (As := [.int 4, .int 6, .int 40]) (rest := []) S (c_X5_have l G ad _ hI (t := 4) (a := 6) (by decide) 40) (cwV 3 hts (gWSV q_l_5_77 q_im_X5_have q_se_X5_have q_in_5 q_co_X5_have) rfl rfl rfl (by decide +kernel) ⟨Nat.le_of_ble_eq_true rfl, Nat.le_of_ble_eq_true rfl⟩) (hPreVw hE hS (hrecv hE hW hI.1 (q := (RX5, TX5, 28)) rfl) hW) rfl rfl hl.1 rfl (lv_room (Nat.le_of_ble_eq_true rfl)) dX5_init_2079 ⟨Nat.le_of_ble_eq_true rfl, Nat.le_of_ble_eq_true rfl⟩) hS (fun ct_6 H locs hI hW hS => ?_)
  have hI : IC G ad ct0 ct_6 (staT, zF, zF, ha_6, zF, zF, zF) := hI
  refine lv_aload_n hx hb dX5_init_2082 rfl (lv_at hl 0 rfl) ?_
  refine lv_iconst (v := 4) hx hb dX5_init_2083 (by decide) ?_
  refine lv_bipush (v := 7) hx hb dX5_init_2084 (by decide) ?_
  refine lv_bipush (v := 41) hx hb dX5_init_2086 (by decide) ?_
  refine hc_v (va_runV (As := [.int 4, .int 7, .int 41]) (rest := []) S (c_X5_have l G ad _ hI (t := 4) (a := 7) (by decide) 41) (cwV 3 hts (gWSV q_l_5_77 q_im_X5_have q_se_X5_have q_in_5 q_co_X5_have) rfl rfl rfl (by decide +kernel) ⟨Nat.le_of_ble_eq_true rfl, Nat.le_of_ble_eq_true rfl⟩) (hPreVw hE hS (hrecv hE hW hI.1 (q := (RX5, TX5, 28)) rfl) hW) rfl rfl hl.1 rfl (lv_room (Nat.le_of_ble_eq_true rfl)) dX5_init_2088 ⟨Nat.le_of_ble_eq_true rfl, Nat.le_of_ble_eq_true rfl⟩) hS (fun ct_7 H locs hI hW hS => ?_)
  have hI : IC G ad ct0 ct_7 (staT, zF, zF, ha_7, zF, zF, zF) := hI
  refine lv_aload_n hx hb dX5_init_2091 rfl (lv_at hl 0 rfl) ?_
  refine lv_iconst (v := 5) hx hb dX5_init_2092 (by decide) ?_
  refine lv_bipush (v := 7) hx hb dX5_init_2093 (by decide) ?_
  refine lv_bipush (v := 50) hx hb dX5_init_2095 (by decide) ?_
  refine hc_v (va_runV (As := [.int 5, .int 7, .int 50]) (rest := []) S (c_X5_have l G ad _ hI (t := 5) (a := 7) (by decide) 50) (cwV 3 hts (gWSV q_l_5_77 q_im_X5_have q_se_X5_have q_in_5 q_co_X5_have) rfl rfl rfl (by decide +kernel) ⟨Nat.le_of_ble_eq_true rfl, Nat.le_of_ble_eq_true rfl⟩) (hPreVw hE hS (hrecv hE hW hI.1 (q := (RX5, TX5, 28)) rfl) hW) rfl rfl hl.1 rfl (lv_room (Nat.le_of_ble_eq_true rfl)) dX5_init_2097 ⟨Nat.le_of_ble_eq_true rfl, Nat.le_of_ble_eq_true rfl⟩) hS (fun ct_8 H locs hI hW hS => ?_)
  have hI : IC G ad ct0 ct_8 (staT, zF, zF, ha_8, zF, zF, zF) := hI
  refine lv_aload_n hx hb dX5_init_2100 rfl (lv_at hl 0 rfl) ?_
  refine lv_iconst (v := 5) hx hb dX5_init_2101 (by decide) ?_
  refine lv_bipush (v := 8) hx hb dX5_init_2102 (by decide) ?_
  refine lv_bipush (v := 51) hx hb dX5_init_2104 (by decide) ?_
  refine hc_v (va_runV (As := [.int 5, .int 8, .int 51]) (rest := []) S (c_X5_have l G ad _ hI (t := 5) (a := 8) (by decide) 51) (cwV 3 hts (gWSV q_l_5_77 q_im_X5_have q_se_X5_have q_in_5 q_co_X5_have) rfl rfl rfl (by decide +kernel) ⟨Nat.le_of_ble_eq_true rfl, Nat.le_of_ble_eq_true rfl⟩) (hPreVw hE hS (hrecv hE hW hI.1 (q := (RX5, TX5, 28)) rfl) hW) rfl rfl hl.1 rfl (lv_room (Nat.le_of_ble_eq_true rfl)) dX5_init_2106 ⟨Nat.le_of_ble_eq_true rfl, Nat.le_of_ble_eq_true rfl⟩) hS (fun ct_9 H locs hI hW hS => ?_)
  have hI : IC G ad ct0 ct_9 (staT, zF, zF, ha_9, zF, zF, zF) := hI
  refine lv_aload_n hx hb dX5_init_2109 rfl (lv_at hl 0 rfl) ?_
  refine lv_bipush (v := 6) hx hb dX5_init_2110 (by decide) ?_
  refine lv_bipush (v := 9) hx hb dX5_init_2112 (by decide) ?_
  refine lv_bipush (v := 60) hx hb dX5_init_2114 (by decide) ?_
  refine hc_v (va_runV (As := [.int 6, .int 9, .int 60]) (rest := []) S (c_X5_have l G ad _ hI (t := 6) (a := 9) (by decide) 60) (cwV 3 hts (gWSV q_l_5_77 q_im_X5_have q_se_X5_have q_in_5 q_co_X5_have) rfl rfl rfl (by decide +kernel) ⟨Nat.le_of_ble_eq_true rfl, Nat.le_of_ble_eq_true rfl⟩) (hPreVw hE hS (hrecv hE hW hI.1 (q := (RX5, TX5, 28)) rfl) hW) rfl rfl hl.1 rfl (lv_room (Nat.le_of_ble_eq_true rfl)) dX5_init_2116 ⟨Nat.le_of_ble_eq_true rfl, Nat.le_of_ble_eq_true rfl⟩) hS (fun ct_10 H locs hI hW hS => ?_)
  have hI : IC G ad ct0 ct_10 (staT, zF, zF, ha_10, zF, zF, zF) := hI
  refine lv_aload_n hx hb dX5_init_2119 rfl (lv_at hl 0 rfl) ?_
  refine lv_bipush (v := 6) hx hb dX5_init_2120 (by decide) ?_
  refine lv_bipush (v := 10) hx hb dX5_init_2122 (by decide) ?_
  refine lv_bipush (v := 61) hx hb dX5_init_2124 (by decide) ?_
  refine hc_v (va_runV (As := [.int 6, .int 10, .int 61]) (rest := []) S (c_X5_have l G ad _ hI (t := 6) (a := 10) (by decide) 61) (cwV 3 hts (gWSV q_l_5_77 q_im_X5_have q_se_X5_have q_in_5 q_co_X5_have) rfl rfl rfl (by decide +kernel) ⟨Nat.le_of_ble_eq_true rfl, Nat.le_of_ble_eq_true rfl⟩) (hPreVw hE hS (hrecv hE hW hI.1 (q := (RX5, TX5, 28)) rfl) hW) rfl rfl hl.1 rfl (lv_room (Nat.le_of_ble_eq_true rfl)) dX5_init_2126 ⟨Nat.le_of_ble_eq_true rfl, Nat.le_of_ble_eq_true rfl⟩) hS (fun ct_11 H locs hI hW hS => ?_)
  have hI : IC G ad ct0 ct_11 (staT, zF, zF, ha_11, zF, zF, zF) := hI
  refine lv_aload_n hx hb dX5_init_2129 rfl (lv_at hl 0 rfl) ?_
  refine lv_bipush (v := 6) hx hb dX5_init_2130 (by decide) ?_
  refine lv_iconst (v := 3) hx hb dX5_init_2132 (by decide) ?_
  refine lv_bipush (v := 62) hx hb dX5_init_2133 (by decide) ?_
  refine hc_v (va_runV (As := [.int 6, .int 3, .int 62]) (rest := []) S (c_X5_have l G ad _ hI (t := 6) (a := 3) (by decide) 62) (cwV 3 hts (gWSV q_l_5_77 q_im_X5_have q_se_X5_have q_in_5 q_co_X5_have) rfl rfl rfl (by decide +kernel) ⟨Nat.le_of_ble_eq_true rfl, Nat.le_of_ble_eq_true rfl⟩) (hPreVw hE hS (hrecv hE hW hI.1 (q := (RX5, TX5, 28)) rfl) hW) rfl rfl hl.1 rfl (lv_room (Nat.le_of_ble_eq_true rfl)) dX5_init_2135 ⟨Nat.le_of_ble_eq_true rfl, Nat.le_of_ble_eq_true rfl⟩) hS (fun ct_12 H locs hI hW hS => ?_)
  have hI : IC G ad ct0 ct_12 (staT, zF, zF, ha_12, zF, zF, zF) := hI
  refine lv_aload_n hx hb dX5_init_2138 rfl (lv_at hl 0 rfl) ?_
  refine lv_bipush (v := 6) hx hb dX5_init_2139 (by decide) ?_
  refine lv_bipush (v := 11) hx hb dX5_init_2141 (by decide) ?_
  refine lv_bipush (v := 64) hx hb dX5_init_2143 (by decide) ?_
  refine hc_v (va_runV (As := [.int 6, .int 11, .int 64]) (rest := []) S (c_X5_have l G ad _ hI (t := 6) (a := 11) (by decide) 64) (cwV 3 hts (gWSV q_l_5_77 q_im_X5_have q_se_X5_have q_in_5 q_co_X5_have) rfl rfl rfl (by decide +kernel) ⟨Nat.le_of_ble_eq_true rfl, Nat.le_of_ble_eq_true rfl⟩) (hPreVw hE hS (hrecv hE hW hI.1 (q := (RX5, TX5, 28)) rfl) hW) rfl rfl hl.1 rfl (lv_room (Nat.le_of_ble_eq_true rfl)) dX5_init_2145 ⟨Nat.le_of_ble_eq_true rfl, Nat.le_of_ble_eq_true rfl⟩) hS (fun ct_13 H locs hI hW hS => ?_)
  have hI : IC G ad ct0 ct_13 (staT, zF, zF, ha_13, zF, zF, zF) := hI
  refine lv_aload_n hx hb dX5_init_2148 rfl (lv_at hl 0 rfl) ?_
  refine lv_bipush (v := 7) hx hb dX5_init_2149 (by decide) ?_
  refine lv_iconst (v := 5) hx hb dX5_init_2151 (by decide) ?_
  refine lv_bipush (v := 70) hx hb dX5_init_2152 (by decide) ?_
  refine hc_v (va_runV (As := [.int 7, .int 5, .int 70]) (rest := []) S (c_X5_have l G ad _ hI (t := 7) (a := 5) (by decide) 70) (cwV 3 hts (gWSV q_l_5_77 q_im_X5_have q_se_X5_have q_in_5 q_co_X5_have) rfl rfl rfl (by decide +kernel) ⟨Nat.le_of_ble_eq_true rfl, Nat.le_of_ble_eq_true rfl⟩) (hPreVw hE hS (hrecv hE hW hI.1 (q := (RX5, TX5, 28)) rfl) hW) rfl rfl hl.1 rfl (lv_room (Nat.le_of_ble_eq_true rfl)) dX5_init_2154 ⟨Nat.le_of_ble_eq_true rfl, Nat.le_of_ble_eq_true rfl⟩) hS (fun ct_14 H locs hI hW hS => ?_)
  have hI : IC G ad ct0 ct_14 (staT, zF, zF, ha_14, zF, zF, zF) := hI
  refine lv_aload_n hx hb dX5_init_2157 rfl (lv_at hl 0 rfl) ?_
  refine lv_bipush (v := 10) hx hb dX5_init_2158 (by decide) ?_
  refine lv_iconst (v := 0) hx hb dX5_init_2160 (by decide) ?_
  refine lv_bipush (v := 100) hx hb dX5_init_2161 (by decide) ?_
  refine hc_v (va_runV (As := [.int 10, .int 0, .int 100]) (rest := []) S (c_X5_have l G ad _ hI (t := 10) (a := 0) (by decide) 100) (cwV 3 hts (gWSV q_l_5_77 q_im_X5_have q_se_X5_have q_in_5 q_co_X5_have) rfl rfl rfl (by decide +kernel) ⟨Nat.le_of_ble_eq_true rfl, Nat.le_of_ble_eq_true rfl⟩) (hPreVw hE hS (hrecv hE hW hI.1 (q := (RX5, TX5, 28)) rfl) hW) rfl rfl hl.1 rfl (lv_room (Nat.le_of_ble_eq_true rfl)) dX5_init_2163 ⟨Nat.le_of_ble_eq_true rfl, Nat.le_of_ble_eq_true rfl⟩) hS (fun ct_15 H locs hI hW hS => ?_)
  have hI : IC G ad ct0 ct_15 (staT, zF, zF, ha_15, zF, zF, zF) := hI
  refine lv_aload_n hx hb dX5_init_2166 rfl (lv_at hl 0 rfl) ?_
  refine lv_bipush (v := 10) hx hb dX5_init_2167 (by decide) ?_
  refine lv_bipush (v := 9) hx hb dX5_init_2169 (by decide) ?_
  refine lv_bipush (v := 101) hx hb dX5_init_2171 (by decide) ?_
  refine hc_v (va_runV (As := [.int 10, .int 9, .int 101]) (rest := []) S (c_X5_have l G ad _ hI (t := 10) (a := 9) (by decide) 101) (cwV 3 hts (gWSV q_l_5_77 q_im_X5_have q_se_X5_have q_in_5 q_co_X5_have) rfl rfl rfl (by decide +kernel) ⟨Nat.le_of_ble_eq_true rfl, Nat.le_of_ble_eq_true rfl⟩) (hPreVw hE hS (hrecv hE hW hI.1 (q := (RX5, TX5, 28)) rfl) hW) rfl rfl hl.1 rfl (lv_room (Nat.le_of_ble_eq_true rfl)) dX5_init_2173 ⟨Nat.le_of_ble_eq_true rfl, Nat.le_of_ble_eq_true rfl⟩) hS (fun ct_16 H locs hI hW hS => ?_)
  have hI : IC G ad ct0 ct_16 (staT, zF, zF, ha_16, zF, zF, zF) := hI
  refine lv_aload_n hx hb dX5_init_2176 rfl (lv_at hl 0 rfl) ?_
  refine lv_bipush (v := 11) hx hb dX5_init_2177 (by decide) ?_
  refine lv_bipush (v := 10) hx hb dX5_init_2179 (by decide) ?_
  refine lv_bipush (v := 110) hx hb dX5_init_2181 (by decide) ?_
  refine hc_v (va_runV (As := [.int 11, .int 10, .int 110]) (rest := []) S (c_X5_have l G ad _ hI (t := 11) (a := 10) (by decide) 110) (cwV 3 hts (gWSV q_l_5_77 q_im_X5_have q_se_X5_have q_in_5 q_co_X5_have) rfl rfl rfl (by decide +kernel) ⟨Nat.le_of_ble_eq_true rfl, Nat.le_of_ble_eq_true rfl⟩) (hPreVw hE hS (hrecv hE hW hI.1 (q := (RX5, TX5, 28)) rfl) hW) rfl rfl hl.1 rfl (lv_room (Nat.le_of_ble_eq_true rfl)) dX5_init_2183 ⟨Nat.le_of_ble_eq_true rfl, Nat.le_of_ble_eq_true rfl⟩) hS (fun ct_17 H locs hI hW hS => ?_)
  have hI : IC G ad ct0 ct_17 (staT, zF, zF, ha_17, zF, zF, zF) := hI
  refine lv_aload_n hx hb dX5_init_2186 rfl (lv_at hl 0 rfl) ?_
  refine lv_bipush (v := 11) hx hb dX5_init_2187 (by decide) ?_
  refine lv_iconst (v := 4) hx hb dX5_init_2189 (by decide) ?_
  refine lv_bipush (v := 111) hx hb dX5_init_2190 (by decide) ?_
  refine hc_v (va_runV (As := [.int 11, .int 4, .int 111]) (rest := []) S (c_X5_have l G ad _ hI (t := 11) (a := 4) (by decide) 111) (cwV 3 hts (gWSV q_l_5_77 q_im_X5_have q_se_X5_have q_in_5 q_co_X5_have) rfl rfl rfl (by decide +kernel) ⟨Nat.le_of_ble_eq_true rfl, Nat.le_of_ble_eq_true rfl⟩) (hPreVw hE hS (hrecv hE hW hI.1 (q := (RX5, TX5, 28)) rfl) hW) rfl rfl hl.1 rfl (lv_room (Nat.le_of_ble_eq_true rfl)) dX5_init_2192 ⟨Nat.le_of_ble_eq_true rfl, Nat.le_of_ble_eq_true rfl⟩) hS (fun ct_18 H locs hI hW hS => ?_)
  have hI : IC G ad ct0 ct_18 (staT, zF, zF, ha_18, zF, zF, zF) := hI
  refine lv_aload_n hx hb dX5_init_2195 rfl (lv_at hl 0 rfl) ?_
  refine lv_bipush (v := 12) hx hb dX5_init_2196 (by decide) ?_
  refine lv_bipush (v := 6) hx hb dX5_init_2198 (by decide) ?_
  refine lv_bipush (v := 120) hx hb dX5_init_2200 (by decide) ?_
  refine hc_v (va_runV (As := [.int 12, .int 6, .int 120]) (rest := []) S (c_X5_have l G ad _ hI (t := 12) (a := 6) (by decide) 120) (cwV 3 hts (gWSV q_l_5_77 q_im_X5_have q_se_X5_have q_in_5 q_co_X5_have) rfl rfl rfl (by decide +kernel) ⟨Nat.le_of_ble_eq_true rfl, Nat.le_of_ble_eq_true rfl⟩) (hPreVw hE hS (hrecv hE hW hI.1 (q := (RX5, TX5, 28)) rfl) hW) rfl rfl hl.1 rfl (lv_room (Nat.le_of_ble_eq_true rfl)) dX5_init_2202 ⟨Nat.le_of_ble_eq_true rfl, Nat.le_of_ble_eq_true rfl⟩) hS (fun ct_19 H locs hI hW hS => ?_)
  have hI : IC G ad ct0 ct_19 (staT, zF, zF, ha_19, zF, zF, zF) := hI
  refine lv_aload_n hx hb dX5_init_2205 rfl (lv_at hl 0 rfl) ?_
  refine lv_bipush (v := 13) hx hb dX5_init_2206 (by decide) ?_
  refine lv_iconst (v := 0) hx hb dX5_init_2208 (by decide) ?_
  refine lv_sipush (v := 130) hx hb dX5_init_2209 (by decide) ?_
  refine hc_v (va_runV (As := [.int 13, .int 0, .int 130]) (rest := []) S (c_X5_have l G ad _ hI (t := 13) (a := 0) (by decide) 130) (cwV 3 hts (gWSV q_l_5_77 q_im_X5_have q_se_X5_have q_in_5 q_co_X5_have) rfl rfl rfl (by decide +kernel) ⟨Nat.le_of_ble_eq_true rfl, Nat.le_of_ble_eq_true rfl⟩) (hPreVw hE hS (hrecv hE hW hI.1 (q := (RX5, TX5, 28)) rfl) hW) rfl rfl hl.1 rfl (lv_room (Nat.le_of_ble_eq_true rfl)) dX5_init_2212 ⟨Nat.le_of_ble_eq_true rfl, Nat.le_of_ble_eq_true rfl⟩) hS (fun ct_20 H locs hI hW hS => ?_)
  have hI : IC G ad ct0 ct_20 (staT, zF, zF, ha_20, zF, zF, zF) := hI
  refine lv_aload_n hx hb dX5_init_2215 rfl (lv_at hl 0 rfl) ?_
  refine lv_bipush (v := 13) hx hb dX5_init_2216 (by decide) ?_
  refine lv_iconst (v := 1) hx hb dX5_init_2218 (by decide) ?_
  refine lv_sipush (v := 131) hx hb dX5_init_2219 (by decide) ?_
  refine hc_v (va_runV (As := [.int 13, .int 1, .int 131]) (rest := []) S (c_X5_have l G ad _ hI (t := 13) (a := 1) (by decide) 131) (cwV 3 hts (gWSV q_l_5_77 q_im_X5_have q_se_X5_have q_in_5 q_co_X5_have) rfl rfl rfl (by decide +kernel) ⟨Nat.le_of_ble_eq_true rfl, Nat.le_of_ble_eq_true rfl⟩) (hPreVw hE hS (hrecv hE hW hI.1 (q := (RX5, TX5, 28)) rfl) hW) rfl rfl hl.1 rfl (lv_room (Nat.le_of_ble_eq_true rfl)) dX5_init_2222 ⟨Nat.le_of_ble_eq_true rfl, Nat.le_of_ble_eq_true rfl⟩) hS (fun ct_21 H locs hI hW hS => ?_)
  have hI : IC G ad ct0 ct_21 (staT, zF, zF, ha_21, zF, zF, zF) := hI
  refine lv_aload_n hx hb dX5_init_2225 rfl (lv_at hl 0 rfl) ?_
  refine lv_bipush (v := 14) hx hb dX5_init_2226 (by decide) ?_
  refine lv_iconst (v := 0) hx hb dX5_init_2228 (by decide) ?_
  refine lv_sipush (v := 140) hx hb dX5_init_2229 (by decide) ?_
  refine hc_v (va_runV (As := [.int 14, .int 0, .int 140]) (rest := []) S (c_X5_have l G ad _ hI (t := 14) (a := 0) (by decide) 140) (cwV 3 hts (gWSV q_l_5_77 q_im_X5_have q_se_X5_have q_in_5 q_co_X5_have) rfl rfl rfl (by decide +kernel) ⟨Nat.le_of_ble_eq_true rfl, Nat.le_of_ble_eq_true rfl⟩) (hPreVw hE hS (hrecv hE hW hI.1 (q := (RX5, TX5, 28)) rfl) hW) rfl rfl hl.1 rfl (lv_room (Nat.le_of_ble_eq_true rfl)) dX5_init_2232 ⟨Nat.le_of_ble_eq_true rfl, Nat.le_of_ble_eq_true rfl⟩) hS (fun ct_22 H locs hI hW hS => ?_)
  have hI : IC G ad ct0 ct_22 (staT, zF, zF, ha_22, zF, zF, zF) := hI
  refine lv_aload_n hx hb dX5_init_2235 rfl (lv_at hl 0 rfl) ?_
  refine lv_bipush (v := 14) hx hb dX5_init_2236 (by decide) ?_
  refine lv_iconst (v := 2) hx hb dX5_init_2238 (by decide) ?_
  refine lv_sipush (v := 141) hx hb dX5_init_2239 (by decide) ?_
  refine hc_v (va_runV (As := [.int 14, .int 2, .int 141]) (rest := []) S (c_X5_have l G ad _ hI (t := 14) (a := 2) (by decide) 141) (cwV 3 hts (gWSV q_l_5_77 q_im_X5_have q_se_X5_have q_in_5 q_co_X5_have) rfl rfl rfl (by decide +kernel) ⟨Nat.le_of_ble_eq_true rfl, Nat.le_of_ble_eq_true rfl⟩) (hPreVw hE hS (hrecv hE hW hI.1 (q := (RX5, TX5, 28)) rfl) hW) rfl rfl hl.1 rfl (lv_room (Nat.le_of_ble_eq_true rfl)) dX5_init_2242 ⟨Nat.le_of_ble_eq_true rfl, Nat.le_of_ble_eq_true rfl⟩) hS (fun ct_23 H locs hI hW hS => ?_)
  have hI : IC G ad ct0 ct_23 (staT, zF, zF, ha_23, zF, zF, zF) := hI
  refine lv_aload_n hx hb dX5_init_2245 rfl (lv_at hl 0 rfl) ?_
  refine lv_bipush (v := 14) hx hb dX5_init_2246 (by decide) ?_
  refine lv_bipush (v := 10) hx hb dX5_init_2248 (by decide) ?_
  refine lv_sipush (v := 142) hx hb dX5_init_2250 (by decide) ?_
  refine hc_v (va_runV (As := [.int 14, .int 10, .int 142]) (rest := []) S (c_X5_have l G ad _ hI (t := 14) (a := 10) (by decide) 142) (cwV 3 hts (gWSV q_l_5_77 q_im_X5_have q_se_X5_have q_in_5 q_co_X5_have) rfl rfl rfl (by decide +kernel) ⟨Nat.le_of_ble_eq_true rfl, Nat.le_of_ble_eq_true rfl⟩) (hPreVw hE hS (hrecv hE hW hI.1 (q := (RX5, TX5, 28)) rfl) hW) rfl rfl hl.1 rfl (lv_room (Nat.le_of_ble_eq_true rfl)) dX5_init_2253 ⟨Nat.le_of_ble_eq_true rfl, Nat.le_of_ble_eq_true rfl⟩) hS (fun ct_24 H locs hI hW hS => ?_)
  have hI : IC G ad ct0 ct_24 (staT, zF, zF, ha_24, zF, zF, zF) := hI
  refine lv_aload_n hx hb dX5_init_2256 rfl (lv_at hl 0 rfl) ?_
  refine lv_bipush (v := 15) hx hb dX5_init_2257 (by decide) ?_
  refine lv_iconst (v := 0) hx hb dX5_init_2259 (by decide) ?_
  refine lv_sipush (v := 150) hx hb dX5_init_2260 (by decide) ?_
  refine hc_v (va_runV (As := [.int 15, .int 0, .int 150]) (rest := []) S (c_X5_have l G ad _ hI (t := 15) (a := 0) (by decide) 150) (cwV 3 hts (gWSV q_l_5_77 q_im_X5_have q_se_X5_have q_in_5 q_co_X5_have) rfl rfl rfl (by decide +kernel) ⟨Nat.le_of_ble_eq_true rfl, Nat.le_of_ble_eq_true rfl⟩) (hPreVw hE hS (hrecv hE hW hI.1 (q := (RX5, TX5, 28)) rfl) hW) rfl rfl hl.1 rfl (lv_room (Nat.le_of_ble_eq_true rfl)) dX5_init_2263 ⟨Nat.le_of_ble_eq_true rfl, Nat.le_of_ble_eq_true rfl⟩) hS (fun ct_25 H locs hI hW hS => ?_)
  have hI : IC G ad ct0 ct_25 (staT, zF, zF, ha_25, zF, zF, zF) := hI
  refine lv_aload_n hx hb dX5_init_2266 rfl (lv_at hl 0 rfl) ?_
  refine lv_bipush (v := 15) hx hb dX5_init_2267 (by decide) ?_
  refine lv_bipush (v := 9) hx hb dX5_init_2269 (by decide) ?_
  refine lv_sipush (v := 151) hx hb dX5_init_2271 (by decide) ?_
  refine hc_v (va_runV (As := [.int 15, .int 9, .int 151]) (rest := []) S (c_X5_have l G ad _ hI (t := 15) (a := 9) (by decide) 151) (cwV 3 hts (gWSV q_l_5_77 q_im_X5_have q_se_X5_have q_in_5 q_co_X5_have) rfl rfl rfl (by decide +kernel) ⟨Nat.le_of_ble_eq_true rfl, Nat.le_of_ble_eq_true rfl⟩) (hPreVw hE hS (hrecv hE hW hI.1 (q := (RX5, TX5, 28)) rfl) hW) rfl rfl hl.1 rfl (lv_room (Nat.le_of_ble_eq_true rfl)) dX5_init_2274 ⟨Nat.le_of_ble_eq_true rfl, Nat.le_of_ble_eq_true rfl⟩) hS (fun ct_26 H locs hI hW hS => ?_)
  have hI : IC G ad ct0 ct_26 (staT, zF, zF, ha_26, zF, zF, zF) := hI
  refine lv_aload_n hx hb dX5_init_2277 rfl (lv_at hl 0 rfl) ?_
  refine lv_bipush (v := 15) hx hb dX5_init_2278 (by decide) ?_
  refine lv_iconst (v := 4) hx hb dX5_init_2280 (by decide) ?_
  refine lv_sipush (v := 152) hx hb dX5_init_2281 (by decide) ?_
  refine hc_v (va_runV (As := [.int 15, .int 4, .int 152]) (rest := []) S (c_X5_have l G ad _ hI (t := 15) (a := 4) (by decide) 152) (cwV 3 hts (gWSV q_l_5_77 q_im_X5_have q_se_X5_have q_in_5 q_co_X5_have) rfl rfl rfl (by decide +kernel) ⟨Nat.le_of_ble_eq_true rfl, Nat.le_of_ble_eq_true rfl⟩) (hPreVw hE hS (hrecv hE hW hI.1 (q := (RX5, TX5, 28)) rfl) hW) rfl rfl hl.1 rfl (lv_room (Nat.le_of_ble_eq_true rfl)) dX5_init_2284 ⟨Nat.le_of_ble_eq_true rfl, Nat.le_of_ble_eq_true rfl⟩) hS (fun ct_27 H locs hI hW hS => ?_)
  have hI : IC G ad ct0 ct_27 (staT, zF, zF, ha_27, zF, zF, zF) := hI
  refine lv_aload_n hx hb dX5_init_2287 rfl (lv_at hl 0 rfl) ?_
  refine lv_bipush (v := 16) hx hb dX5_init_2288 (by decide) ?_
  refine lv_iconst (v := 5) hx hb dX5_init_2290 (by decide) ?_
  refine lv_sipush (v := 160) hx hb dX5_init_2291 (by decide) ?_
  refine hc_v (va_runV (As := [.int 16, .int 5, .int 160]) (rest := []) S (c_X5_have l G ad _ hI (t := 16) (a := 5) (by decide) 160) (cwV 3 hts (gWSV q_l_5_77 q_im_X5_have q_se_X5_have q_in_5 q_co_X5_have) rfl rfl rfl (by decide +kernel) ⟨Nat.le_of_ble_eq_true rfl, Nat.le_of_ble_eq_true rfl⟩) (hPreVw hE hS (hrecv hE hW hI.1 (q := (RX5, TX5, 28)) rfl) hW) rfl rfl hl.1 rfl (lv_room (Nat.le_of_ble_eq_true rfl)) dX5_init_2294 ⟨Nat.le_of_ble_eq_true rfl, Nat.le_of_ble_eq_true rfl⟩) hS (fun ct_28 H locs hI hW hS => ?_)
  have hI : IC G ad ct0 ct_28 (staT, zF, zF, ha_28, zF, zF, zF) := hI
  refine lv_aload_n hx hb dX5_init_2297 rfl (lv_at hl 0 rfl) ?_
  refine lv_bipush (v := 16) hx hb dX5_init_2298 (by decide) ?_
  refine lv_bipush (v := 8) hx hb dX5_init_2300 (by decide) ?_
  refine lv_sipush (v := 161) hx hb dX5_init_2302 (by decide) ?_
  refine hc_v (va_runV (As := [.int 16, .int 8, .int 161]) (rest := []) S (c_X5_have l G ad _ hI (t := 16) (a := 8) (by decide) 161) (cwV 3 hts (gWSV q_l_5_77 q_im_X5_have q_se_X5_have q_in_5 q_co_X5_have) rfl rfl rfl (by decide +kernel) ⟨Nat.le_of_ble_eq_true rfl, Nat.le_of_ble_eq_true rfl⟩) (hPreVw hE hS (hrecv hE hW hI.1 (q := (RX5, TX5, 28)) rfl) hW) rfl rfl hl.1 rfl (lv_room (Nat.le_of_ble_eq_true rfl)) dX5_init_2305 ⟨Nat.le_of_ble_eq_true rfl, Nat.le_of_ble_eq_true rfl⟩) hS (fun ct_29 H locs hI hW hS => ?_)
  have hI : IC G ad ct0 ct_29 (staT, zF, zF, ha_29, zF, zF, zF) := hI
  refine lv_aload_n hx hb dX5_init_2308 rfl (lv_at hl 0 rfl) ?_
  refine lv_bipush (v := 16) hx hb dX5_init_2309 (by decide) ?_
  refine lv_bipush (v := 9) hx hb dX5_init_2311 (by decide) ?_
  refine lv_sipush (v := 163) hx hb dX5_init_2313 (by decide) ?_
  refine hc_v (va_runV (As := [.int 16, .int 9, .int 163]) (rest := []) S (c_X5_have l G ad _ hI (t := 16) (a := 9) (by decide) 163) (cwV 3 hts (gWSV q_l_5_77 q_im_X5_have q_se_X5_have q_in_5 q_co_X5_have) rfl rfl rfl (by decide +kernel) ⟨Nat.le_of_ble_eq_true rfl, Nat.le_of_ble_eq_true rfl⟩) (hPreVw hE hS (hrecv hE hW hI.1 (q := (RX5, TX5, 28)) rfl) hW) rfl rfl hl.1 rfl (lv_room (Nat.le_of_ble_eq_true rfl)) dX5_init_2316 ⟨Nat.le_of_ble_eq_true rfl, Nat.le_of_ble_eq_true rfl⟩) hS (fun ct_30 H locs hI hW hS => ?_)
  have hI : IC G ad ct0 ct_30 (staT, zF, zF, ha_30, zF, zF, zF) := hI
  refine lv_aload_n hx hb dX5_init_2319 rfl (lv_at hl 0 rfl) ?_
  refine lv_bipush (v := 18) hx hb dX5_init_2320 (by decide) ?_
  refine lv_bipush (v := 9) hx hb dX5_init_2322 (by decide) ?_
  refine lv_sipush (v := 180) hx hb dX5_init_2324 (by decide) ?_
  refine hc_v (va_runV (As := [.int 18, .int 9, .int 180]) (rest := []) S (c_X5_have l G ad _ hI (t := 18) (a := 9) (by decide) 180) (cwV 3 hts (gWSV q_l_5_77 q_im_X5_have q_se_X5_have q_in_5 q_co_X5_have) rfl rfl rfl (by decide +kernel) ⟨Nat.le_of_ble_eq_true rfl, Nat.le_of_ble_eq_true rfl⟩) (hPreVw hE hS (hrecv hE hW hI.1 (q := (RX5, TX5, 28)) rfl) hW) rfl rfl hl.1 rfl (lv_room (Nat.le_of_ble_eq_true rfl)) dX5_init_2327 ⟨Nat.le_of_ble_eq_true rfl, Nat.le_of_ble_eq_true rfl⟩) hS (fun ct_31 H locs hI hW hS => ?_)
  have hI : IC G ad ct0 ct_31 (staT, zF, zF, ha_31, zF, zF, zF) := hI
  refine lv_aload_n hx hb dX5_init_2330 rfl (lv_at hl 0 rfl) ?_
  refine lv_bipush (v := 18) hx hb dX5_init_2331 (by decide) ?_
  refine lv_iconst (v := 2) hx hb dX5_init_2333 (by decide) ?_
  refine lv_sipush (v := 181) hx hb dX5_init_2334 (by decide) ?_
  refine hc_v (va_runV (As := [.int 18, .int 2, .int 181]) (rest := []) S (c_X5_have l G ad _ hI (t := 18) (a := 2) (by decide) 181) (cwV 3 hts (gWSV q_l_5_77 q_im_X5_have q_se_X5_have q_in_5 q_co_X5_have) rfl rfl rfl (by decide +kernel) ⟨Nat.le_of_ble_eq_true rfl, Nat.le_of_ble_eq_true rfl⟩) (hPreVw hE hS (hrecv hE hW hI.1 (q := (RX5, TX5, 28)) rfl) hW) rfl rfl hl.1 rfl (lv_room (Nat.le_of_ble_eq_true rfl)) dX5_init_2337 ⟨Nat.le_of_ble_eq_true rfl, Nat.le_of_ble_eq_true rfl⟩) hS (fun ct_32 H locs hI hW hS => ?_)
  have hI : IC G ad ct0 ct_32 (staT, zF, zF, ha_32, zF, zF, zF) := hI
  refine lv_aload_n hx hb dX5_init_2340 rfl (lv_at hl 0 rfl) ?_
  refine lv_bipush (v := 19) hx hb dX5_init_2341 (by decide) ?_
  refine lv_iconst (v := 0) hx hb dX5_init_2343 (by decide) ?_
  refine lv_sipush (v := 190) hx hb dX5_init_2344 (by decide) ?_
  refine hc_v (va_runV (As := [.int 19, .int 0, .int 190]) (rest := []) S (c_X5_have l G ad _ hI (t := 19) (a := 0) (by decide) 190) (cwV 3 hts (gWSV q_l_5_77 q_im_X5_have q_se_X5_have q_in_5 q_co_X5_have) rfl rfl rfl (by decide +kernel) ⟨Nat.le_of_ble_eq_true rfl, Nat.le_of_ble_eq_true rfl⟩) (hPreVw hE hS (hrecv hE hW hI.1 (q := (RX5, TX5, 28)) rfl) hW) rfl rfl hl.1 rfl (lv_room (Nat.le_of_ble_eq_true rfl)) dX5_init_2347 ⟨Nat.le_of_ble_eq_true rfl, Nat.le_of_ble_eq_true rfl⟩) hS (fun ct_33 H locs hI hW hS => ?_)
  have hI : IC G ad ct0 ct_33 (staT, zF, zF, ha_33, zF, zF, zF) := hI
  refine lv_aload_n hx hb dX5_init_2350 rfl (lv_at hl 0 rfl) ?_
  refine lv_bipush (v := 20) hx hb dX5_init_2351 (by decide) ?_
  refine lv_bipush (v := 7) hx hb dX5_init_2353 (by decide) ?_
  refine lv_sipush (v := 201) hx hb dX5_init_2355 (by decide) ?_
  refine hc_v (va_runV (As := [.int 20, .int 7, .int 201]) (rest := []) S (c_X5_have l G ad _ hI (t := 20) (a := 7) (by decide) 201) (cwV 3 hts (gWSV q_l_5_77 q_im_X5_have q_se_X5_have q_in_5 q_co_X5_have) rfl rfl rfl (by decide +kernel) ⟨Nat.le_of_ble_eq_true rfl, Nat.le_of_ble_eq_true rfl⟩) (hPreVw hE hS (hrecv hE hW hI.1 (q := (RX5, TX5, 28)) rfl) hW) rfl rfl hl.1 rfl (lv_room (Nat.le_of_ble_eq_true rfl)) dX5_init_2358 ⟨Nat.le_of_ble_eq_true rfl, Nat.le_of_ble_eq_true rfl⟩) hS (fun ct_34 H locs hI hW hS => ?_)
  have hI : IC G ad ct0 ct_34 (staT, zF, zF, ha_34, zF, zF, zF) := hI
  refine lv_aload_n hx hb dX5_init_2361 rfl (lv_at hl 0 rfl) ?_
  refine lv_bipush (v := 20) hx hb dX5_init_2362 (by decide) ?_
  refine lv_iconst (v := 2) hx hb dX5_init_2364 (by decide) ?_
  refine lv_sipush (v := 202) hx hb dX5_init_2365 (by decide) ?_
  refine hc_v (va_runV (As := [.int 20, .int 2, .int 202]) (rest := []) S (c_X5_have l G ad _ hI (t := 20) (a := 2) (by decide) 202) (cwV 3 hts (gWSV q_l_5_77 q_im_X5_have q_se_X5_have q_in_5 q_co_X5_have) rfl rfl rfl (by decide +kernel) ⟨Nat.le_of_ble_eq_true rfl, Nat.le_of_ble_eq_true rfl⟩) (hPreVw hE hS (hrecv hE hW hI.1 (q := (RX5, TX5, 28)) rfl) hW) rfl rfl hl.1 rfl (lv_room (Nat.le_of_ble_eq_true rfl)) dX5_init_2368 ⟨Nat.le_of_ble_eq_true rfl, Nat.le_of_ble_eq_true rfl⟩) hS (fun ct_35 H locs hI hW hS => ?_)
  have hI : IC G ad ct0 ct_35 (staT, zF, zF, ha_35, zF, zF, zF) := hI
  refine lv_aload_n hx hb dX5_init_2371 rfl (lv_at hl 0 rfl) ?_
  refine lv_bipush (v := 20) hx hb dX5_init_2372 (by decide) ?_
  refine lv_iconst (v := 5) hx hb dX5_init_2374 (by decide) ?_
  refine lv_sipush (v := 204) hx hb dX5_init_2375 (by decide) ?_
  refine hc_v (va_runV (As := [.int 20, .int 5, .int 204]) (rest := []) S (c_X5_have l G ad _ hI (t := 20) (a := 5) (by decide) 204) (cwV 3 hts (gWSV q_l_5_77 q_im_X5_have q_se_X5_have q_in_5 q_co_X5_have) rfl rfl rfl (by decide +kernel) ⟨Nat.le_of_ble_eq_true rfl, Nat.le_of_ble_eq_true rfl⟩) (hPreVw hE hS (hrecv hE hW hI.1 (q := (RX5, TX5, 28)) rfl) hW) rfl rfl hl.1 rfl (lv_room (Nat.le_of_ble_eq_true rfl)) dX5_init_2378 ⟨Nat.le_of_ble_eq_true rfl, Nat.le_of_ble_eq_true rfl⟩) hS (fun ct_36 H locs hI hW hS => ?_)
  have hI : IC G ad ct0 ct_36 (staT, zF, zF, ha_36, zF, zF, zF) := hI
  exact hnext _ _ _ _ hI hW hS (lv_sub hl [0] rfl)
def pa_0 : Nat → Int32 := upd zF 6 (-1)
def be_0 : Nat → Int32 := zF
def pa_1 : Nat → Int32 := upd pa_0 7 (nI 6)
def be_1 : Nat → Int32 := upd be_0 7 (be_0 6 ||| clM 0)
def pa_2 : Nat → Int32 := upd pa_1 10 (nI 7)
def be_2 : Nat → Int32 := upd be_1 10 (be_1 7 ||| clM (bitM 1))
def pa_3 : Nat → Int32 := upd pa_2 11 (nI 7)
def be_3 : Nat → Int32 := upd be_2 11 (be_2 7 ||| clM (bitM 2))
def pa_4 : Nat → Int32 := upd pa_3 12 (nI 7)
def be_4 : Nat → Int32 := upd be_3 12 (be_3 7 ||| clM (bitM 4))
def pa_5 : Nat → Int32 := upd pa_4 13 (nI 10)
def be_5 : Nat → Int32 := upd be_4 13 (be_4 10 ||| clM 0)
def pa_6 : Nat → Int32 := upd pa_5 14 (nI 11)
def be_6 : Nat → Int32 := upd be_5 14 (be_5 11 ||| clM (bitM 1))
def pa_7 : Nat → Int32 := upd pa_6 15 (nI 12)
def be_7 : Nat → Int32 := upd be_6 15 (be_6 12 ||| clM (bitM 3))
def pa_8 : Nat → Int32 := upd pa_7 16 (nI 7)
def be_8 : Nat → Int32 := upd be_7 16 (be_7 7 ||| clM (bitM 5))
def pa_9 : Nat → Int32 := upd pa_8 17 (nI 12)
def be_9 : Nat → Int32 := upd be_8 17 (be_8 12 ||| clM (bitM 5))
def pa_10 : Nat → Int32 := upd pa_9 18 (nI 13)
def be_10 : Nat → Int32 := upd be_9 18 (be_9 13 ||| clM 0)
def pa_11 : Nat → Int32 := upd pa_10 19 (nI 11)
def be_11 : Nat → Int32 := upd be_10 19 (be_10 11 ||| clM (bitM 3))
def pa_12 : Nat → Int32 := upd pa_11 20 (nI 14)
def be_12 : Nat → Int32 := upd be_11 20 (be_11 14 ||| clM ((bitM 5) ||| (bitM 3)))
theorem pa_all : ∀ j, j < 21 → pa_12 j = parT j := by decide +kernel
theorem be_all : ∀ j, j < 21 → be_12 j = beaT j := by decide +kernel
set_option maxRecDepth 100000 in
set_option maxHeartbeats 4000000 in
theorem ini_F {p : Program} {l : Launch} {e : Env} {s : State} {m : MethodId} {args : Array Value} {below : List Frame} {meth : Method} {c : Code} {Q : State → Prop} {G : hG} {ad : Nat → Nat} {ct0 : Nat → Option va_E} (S : CallFix p m c cX5_init 3 s args WS yX5_init.cls) (hE : gE G s)  (hnext : HI p l e s m args below meth c Q G ad ct0 2529 (staT, pa_12, be_12, hasT, zF, zF, zF)) : HI p l e s m args below meth c Q G ad ct0 2381 (staT, zF, zF, ha_36, zF, zF, zF) := by
  intro ct H locs ls hI hW hS hl
  obtain ⟨hx, hb, hml, hown, hts⟩ := id S
  obtain ⟨ct_h, hI, hW⟩ := ICe_14 hI hW ha_all
  refine lv_aload_n hx hb dX5_init_2381 rfl (lv_at hl 0 rfl) ?_
  refine hr_get S hE hW hI.1 inX5 (C := RX5) (T := TX5) (N := 28) rfl 2 (by decide) q_f_5_16 rfl dX5_init_2382 ?_
  refine lv_bipush (v := 6) hx hb dX5_init_2385 (by decide) ?_
  refine lv_iconst (v := (-1)) hx hb dX5_init_2387 (by decide) ?_
  refine hr_iastk S hE hW hS hI.2.2.2.1 (j := 6) rfl (by decide) (by decide) dX5_init_2388 (fun H locs ct_1 hW hk_2 hg_3 hz hS => ?_)
  have hI : IC G ad ct0 ct_1 (staT, upd zF 6 (-1), zF, hasT, zF, zF, zF) := IC_12 hI hk_2 hg_3
  have hI : IC G ad ct0 ct_1 (staT, pa_0, be_0, hasT, zF, zF, zF) := hI
  refine lv_aload_n hx hb dX5_init_2389 rfl (lv_at hl 0 rfl) ?_
  refine lv_bipush (v := 7) hx hb dX5_init_2390 (by decide) ?_
  refine lv_bipush (v := 6) hx hb dX5_init_2392 (by decide) ?_
  refine lv_iconst (v := 0) hx hb dX5_init_2394 (by decide) ?_
  refine hc_v (va_runV (As := [.int 7, .int 6, .int 0]) (rest := []) S (c_X5_heir l G ad _ hI (t := 7) (o := 6) (by decide) (by decide) 0) (cwV 3 hts (gWSV q_l_5_81 q_im_X5_heir q_se_X5_heir q_in_5 q_co_X5_heir) rfl rfl rfl (by decide +kernel) ⟨Nat.le_of_ble_eq_true rfl, Nat.le_of_ble_eq_true rfl⟩) (hPreVw hE hS (hrecv hE hW hI.1 (q := (RX5, TX5, 28)) rfl) hW) rfl rfl hl.1 rfl (lv_room (Nat.le_of_ble_eq_true rfl)) dX5_init_2395 ⟨Nat.le_of_ble_eq_true rfl, Nat.le_of_ble_eq_true rfl⟩) hS (fun ct_4 H locs hI hW hS => ?_)
  have hI : IC G ad ct0 ct_4 (staT, pa_1, be_1, hasT, zF, zF, zF) := hI
  refine lv_aload_n hx hb dX5_init_2398 rfl (lv_at hl 0 rfl) ?_
  refine lv_bipush (v := 10) hx hb dX5_init_2399 (by decide) ?_
  refine lv_bipush (v := 7) hx hb dX5_init_2401 (by decide) ?_
  refine lv_iconst (v := 1) hx hb dX5_init_2403 (by decide) ?_
  refine hc_r (va_runS (As := [.int 1]) (rest := [.int 7, .int 10, .ref (ad 8)]) S (c_X5_bitM l G _ 1) (va_cwS 1 hts (gWSS q_l_5_84 q_st_X5_bit q_in_5 q_co_X5_bit) rfl rfl rfl (by decide +kernel) ⟨Nat.le_of_ble_eq_true rfl, Nat.le_of_ble_eq_true rfl⟩) (hPreSr hE hS) rfl rfl hl.1 rfl (lv_room (Nat.le_of_ble_eq_true rfl)) dX5_init_2404 ⟨Nat.le_of_ble_eq_true rfl, Nat.le_of_ble_eq_true rfl⟩) hS (fun locs hS => ?_)
  refine hc_v (va_runV (As := [.int 10, .int 7, .int (bitM 1)]) (rest := []) S (c_X5_heir l G ad _ hI (t := 10) (o := 7) (by decide) (by decide) (bitM 1)) (cwV 3 hts (gWSV q_l_5_81 q_im_X5_heir q_se_X5_heir q_in_5 q_co_X5_heir) rfl rfl rfl (by decide +kernel) ⟨Nat.le_of_ble_eq_true rfl, Nat.le_of_ble_eq_true rfl⟩) (hPreVw hE hS (hrecv hE hW hI.1 (q := (RX5, TX5, 28)) rfl) hW) rfl rfl hl.1 rfl (lv_room (Nat.le_of_ble_eq_true rfl)) dX5_init_2407 ⟨Nat.le_of_ble_eq_true rfl, Nat.le_of_ble_eq_true rfl⟩) hS (fun ct_5 H locs hI hW hS => ?_)
  have hI : IC G ad ct0 ct_5 (staT, pa_2, be_2, hasT, zF, zF, zF) := hI
  refine lv_aload_n hx hb dX5_init_2410 rfl (lv_at hl 0 rfl) ?_
  refine lv_bipush (v := 11) hx hb dX5_init_2411 (by decide) ?_
  refine lv_bipush (v := 7) hx hb dX5_init_2413 (by decide) ?_
  refine lv_iconst (v := 2) hx hb dX5_init_2415 (by decide) ?_
  refine hc_r (va_runS (As := [.int 2]) (rest := [.int 7, .int 11, .ref (ad 8)]) S (c_X5_bitM l G _ 2) (va_cwS 1 hts (gWSS q_l_5_84 q_st_X5_bit q_in_5 q_co_X5_bit) rfl rfl rfl (by decide +kernel) ⟨Nat.le_of_ble_eq_true rfl, Nat.le_of_ble_eq_true rfl⟩) (hPreSr hE hS) rfl rfl hl.1 rfl (lv_room (Nat.le_of_ble_eq_true rfl)) dX5_init_2416 ⟨Nat.le_of_ble_eq_true rfl, Nat.le_of_ble_eq_true rfl⟩) hS (fun locs hS => ?_)
  refine hc_v (va_runV (As := [.int 11, .int 7, .int (bitM 2)]) (rest := []) S (c_X5_heir l G ad _ hI (t := 11) (o := 7) (by decide) (by decide) (bitM 2)) (cwV 3 hts (gWSV q_l_5_81 q_im_X5_heir q_se_X5_heir q_in_5 q_co_X5_heir) rfl rfl rfl (by decide +kernel) ⟨Nat.le_of_ble_eq_true rfl, Nat.le_of_ble_eq_true rfl⟩) (hPreVw hE hS (hrecv hE hW hI.1 (q := (RX5, TX5, 28)) rfl) hW) rfl rfl hl.1 rfl (lv_room (Nat.le_of_ble_eq_true rfl)) dX5_init_2419 ⟨Nat.le_of_ble_eq_true rfl, Nat.le_of_ble_eq_true rfl⟩) hS (fun ct_6 H locs hI hW hS => ?_)
  have hI : IC G ad ct0 ct_6 (staT, pa_3, be_3, hasT, zF, zF, zF) := hI
  refine lv_aload_n hx hb dX5_init_2422 rfl (lv_at hl 0 rfl) ?_
  refine lv_bipush (v := 12) hx hb dX5_init_2423 (by decide) ?_
  refine lv_bipush (v := 7) hx hb dX5_init_2425 (by decide) ?_
  refine lv_iconst (v := 4) hx hb dX5_init_2427 (by decide) ?_
  refine hc_r (va_runS (As := [.int 4]) (rest := [.int 7, .int 12, .ref (ad 8)]) S (c_X5_bitM l G _ 4) (va_cwS 1 hts (gWSS q_l_5_84 q_st_X5_bit q_in_5 q_co_X5_bit) rfl rfl rfl (by decide +kernel) ⟨Nat.le_of_ble_eq_true rfl, Nat.le_of_ble_eq_true rfl⟩) (hPreSr hE hS) rfl rfl hl.1 rfl (lv_room (Nat.le_of_ble_eq_true rfl)) dX5_init_2428 ⟨Nat.le_of_ble_eq_true rfl, Nat.le_of_ble_eq_true rfl⟩) hS (fun locs hS => ?_)
  refine hc_v (va_runV (As := [.int 12, .int 7, .int (bitM 4)]) (rest := []) S (c_X5_heir l G ad _ hI (t := 12) (o := 7) (by decide) (by decide) (bitM 4)) (cwV 3 hts (gWSV q_l_5_81 q_im_X5_heir q_se_X5_heir q_in_5 q_co_X5_heir) rfl rfl rfl (by decide +kernel) ⟨Nat.le_of_ble_eq_true rfl, Nat.le_of_ble_eq_true rfl⟩) (hPreVw hE hS (hrecv hE hW hI.1 (q := (RX5, TX5, 28)) rfl) hW) rfl rfl hl.1 rfl (lv_room (Nat.le_of_ble_eq_true rfl)) dX5_init_2431 ⟨Nat.le_of_ble_eq_true rfl, Nat.le_of_ble_eq_true rfl⟩) hS (fun ct_7 H locs hI hW hS => ?_)
  have hI : IC G ad ct0 ct_7 (staT, pa_4, be_4, hasT, zF, zF, zF) := hI
  refine lv_aload_n hx hb dX5_init_2434 rfl (lv_at hl 0 rfl) ?_
  refine lv_bipush (v := 13) hx hb dX5_init_2435 (by decide) ?_
  refine lv_bipush (v := 10) hx hb dX5_init_2437 (by decide) ?_
  refine lv_iconst (v := 0) hx hb dX5_init_2439 (by decide) ?_
  refine hc_v (va_runV (As := [.int 13, .int 10, .int 0]) (rest := []) S (c_X5_heir l G ad _ hI (t := 13) (o := 10) (by decide) (by decide) 0) (cwV 3 hts (gWSV q_l_5_81 q_im_X5_heir q_se_X5_heir q_in_5 q_co_X5_heir) rfl rfl rfl (by decide +kernel) ⟨Nat.le_of_ble_eq_true rfl, Nat.le_of_ble_eq_true rfl⟩) (hPreVw hE hS (hrecv hE hW hI.1 (q := (RX5, TX5, 28)) rfl) hW) rfl rfl hl.1 rfl (lv_room (Nat.le_of_ble_eq_true rfl)) dX5_init_2440 ⟨Nat.le_of_ble_eq_true rfl, Nat.le_of_ble_eq_true rfl⟩) hS (fun ct_8 H locs hI hW hS => ?_)
  have hI : IC G ad ct0 ct_8 (staT, pa_5, be_5, hasT, zF, zF, zF) := hI
  refine lv_aload_n hx hb dX5_init_2443 rfl (lv_at hl 0 rfl) ?_
  refine lv_bipush (v := 14) hx hb dX5_init_2444 (by decide) ?_
  refine lv_bipush (v := 11) hx hb dX5_init_2446 (by decide) ?_
  refine lv_iconst (v := 1) hx hb dX5_init_2448 (by decide) ?_
  refine hc_r (va_runS (As := [.int 1]) (rest := [.int 11, .int 14, .ref (ad 8)]) S (c_X5_bitM l G _ 1) (va_cwS 1 hts (gWSS q_l_5_84 q_st_X5_bit q_in_5 q_co_X5_bit) rfl rfl rfl (by decide +kernel) ⟨Nat.le_of_ble_eq_true rfl, Nat.le_of_ble_eq_true rfl⟩) (hPreSr hE hS) rfl rfl hl.1 rfl (lv_room (Nat.le_of_ble_eq_true rfl)) dX5_init_2449 ⟨Nat.le_of_ble_eq_true rfl, Nat.le_of_ble_eq_true rfl⟩) hS (fun locs hS => ?_)
  refine hc_v (va_runV (As := [.int 14, .int 11, .int (bitM 1)]) (rest := []) S (c_X5_heir l G ad _ hI (t := 14) (o := 11) (by decide) (by decide) (bitM 1)) (cwV 3 hts (gWSV q_l_5_81 q_im_X5_heir q_se_X5_heir q_in_5 q_co_X5_heir) rfl rfl rfl (by decide +kernel) ⟨Nat.le_of_ble_eq_true rfl, Nat.le_of_ble_eq_true rfl⟩) (hPreVw hE hS (hrecv hE hW hI.1 (q := (RX5, TX5, 28)) rfl) hW) rfl rfl hl.1 rfl (lv_room (Nat.le_of_ble_eq_true rfl)) dX5_init_2452 ⟨Nat.le_of_ble_eq_true rfl, Nat.le_of_ble_eq_true rfl⟩) hS (fun ct_9 H locs hI hW hS => ?_)
  have hI : IC G ad ct0 ct_9 (staT, pa_6, be_6, hasT, zF, zF, zF) := hI
  refine lv_aload_n hx hb dX5_init_2455 rfl (lv_at hl 0 rfl) ?_
  refine lv_bipush (v := 15) hx hb dX5_init_2456 (by decide) ?_
  refine lv_bipush (v := 12) hx hb dX5_init_2458 (by decide) ?_
  refine lv_iconst (v := 3) hx hb dX5_init_2460 (by decide) ?_
  refine hc_r (va_runS (As := [.int 3]) (rest := [.int 12, .int 15, .ref (ad 8)]) S (c_X5_bitM l G _ 3) (va_cwS 1 hts (gWSS q_l_5_84 q_st_X5_bit q_in_5 q_co_X5_bit) rfl rfl rfl (by decide +kernel) ⟨Nat.le_of_ble_eq_true rfl, Nat.le_of_ble_eq_true rfl⟩) (hPreSr hE hS) rfl rfl hl.1 rfl (lv_room (Nat.le_of_ble_eq_true rfl)) dX5_init_2461 ⟨Nat.le_of_ble_eq_true rfl, Nat.le_of_ble_eq_true rfl⟩) hS (fun locs hS => ?_)
  refine hc_v (va_runV (As := [.int 15, .int 12, .int (bitM 3)]) (rest := []) S (c_X5_heir l G ad _ hI (t := 15) (o := 12) (by decide) (by decide) (bitM 3)) (cwV 3 hts (gWSV q_l_5_81 q_im_X5_heir q_se_X5_heir q_in_5 q_co_X5_heir) rfl rfl rfl (by decide +kernel) ⟨Nat.le_of_ble_eq_true rfl, Nat.le_of_ble_eq_true rfl⟩) (hPreVw hE hS (hrecv hE hW hI.1 (q := (RX5, TX5, 28)) rfl) hW) rfl rfl hl.1 rfl (lv_room (Nat.le_of_ble_eq_true rfl)) dX5_init_2464 ⟨Nat.le_of_ble_eq_true rfl, Nat.le_of_ble_eq_true rfl⟩) hS (fun ct_10 H locs hI hW hS => ?_)
  have hI : IC G ad ct0 ct_10 (staT, pa_7, be_7, hasT, zF, zF, zF) := hI
  refine lv_aload_n hx hb dX5_init_2467 rfl (lv_at hl 0 rfl) ?_
  refine lv_bipush (v := 16) hx hb dX5_init_2468 (by decide) ?_
  refine lv_bipush (v := 7) hx hb dX5_init_2470 (by decide) ?_
  refine lv_iconst (v := 5) hx hb dX5_init_2472 (by decide) ?_
  refine hc_r (va_runS (As := [.int 5]) (rest := [.int 7, .int 16, .ref (ad 8)]) S (c_X5_bitM l G _ 5) (va_cwS 1 hts (gWSS q_l_5_84 q_st_X5_bit q_in_5 q_co_X5_bit) rfl rfl rfl (by decide +kernel) ⟨Nat.le_of_ble_eq_true rfl, Nat.le_of_ble_eq_true rfl⟩) (hPreSr hE hS) rfl rfl hl.1 rfl (lv_room (Nat.le_of_ble_eq_true rfl)) dX5_init_2473 ⟨Nat.le_of_ble_eq_true rfl, Nat.le_of_ble_eq_true rfl⟩) hS (fun locs hS => ?_)
  refine hc_v (va_runV (As := [.int 16, .int 7, .int (bitM 5)]) (rest := []) S (c_X5_heir l G ad _ hI (t := 16) (o := 7) (by decide) (by decide) (bitM 5)) (cwV 3 hts (gWSV q_l_5_81 q_im_X5_heir q_se_X5_heir q_in_5 q_co_X5_heir) rfl rfl rfl (by decide +kernel) ⟨Nat.le_of_ble_eq_true rfl, Nat.le_of_ble_eq_true rfl⟩) (hPreVw hE hS (hrecv hE hW hI.1 (q := (RX5, TX5, 28)) rfl) hW) rfl rfl hl.1 rfl (lv_room (Nat.le_of_ble_eq_true rfl)) dX5_init_2476 ⟨Nat.le_of_ble_eq_true rfl, Nat.le_of_ble_eq_true rfl⟩) hS (fun ct_11 H locs hI hW hS => ?_)
  have hI : IC G ad ct0 ct_11 (staT, pa_8, be_8, hasT, zF, zF, zF) := hI
  refine lv_aload_n hx hb dX5_init_2479 rfl (lv_at hl 0 rfl) ?_
  refine lv_bipush (v := 17) hx hb dX5_init_2480 (by decide) ?_
  refine lv_bipush (v := 12) hx hb dX5_init_2482 (by decide) ?_
  refine lv_iconst (v := 5) hx hb dX5_init_2484 (by decide) ?_
  refine hc_r (va_runS (As := [.int 5]) (rest := [.int 12, .int 17, .ref (ad 8)]) S (c_X5_bitM l G _ 5) (va_cwS 1 hts (gWSS q_l_5_84 q_st_X5_bit q_in_5 q_co_X5_bit) rfl rfl rfl (by decide +kernel) ⟨Nat.le_of_ble_eq_true rfl, Nat.le_of_ble_eq_true rfl⟩) (hPreSr hE hS) rfl rfl hl.1 rfl (lv_room (Nat.le_of_ble_eq_true rfl)) dX5_init_2485 ⟨Nat.le_of_ble_eq_true rfl, Nat.le_of_ble_eq_true rfl⟩) hS (fun locs hS => ?_)
  refine hc_v (va_runV (As := [.int 17, .int 12, .int (bitM 5)]) (rest := []) S (c_X5_heir l G ad _ hI (t := 17) (o := 12) (by decide) (by decide) (bitM 5)) (cwV 3 hts (gWSV q_l_5_81 q_im_X5_heir q_se_X5_heir q_in_5 q_co_X5_heir) rfl rfl rfl (by decide +kernel) ⟨Nat.le_of_ble_eq_true rfl, Nat.le_of_ble_eq_true rfl⟩) (hPreVw hE hS (hrecv hE hW hI.1 (q := (RX5, TX5, 28)) rfl) hW) rfl rfl hl.1 rfl (lv_room (Nat.le_of_ble_eq_true rfl)) dX5_init_2488 ⟨Nat.le_of_ble_eq_true rfl, Nat.le_of_ble_eq_true rfl⟩) hS (fun ct_12 H locs hI hW hS => ?_)
  have hI : IC G ad ct0 ct_12 (staT, pa_9, be_9, hasT, zF, zF, zF) := hI
  refine lv_aload_n hx hb dX5_init_2491 rfl (lv_at hl 0 rfl) ?_
  refine lv_bipush (v := 18) hx hb dX5_init_2492 (by decide) ?_
  refine lv_bipush (v := 13) hx hb dX5_init_2494 (by decide) ?_
  refine lv_iconst (v := 0) hx hb dX5_init_2496 (by decide) ?_
  refine hc_v (va_runV (As := [.int 18, .int 13, .int 0]) (rest := []) S (c_X5_heir l G ad _ hI (t := 18) (o := 13) (by decide) (by decide) 0) (cwV 3 hts (gWSV q_l_5_81 q_im_X5_heir q_se_X5_heir q_in_5 q_co_X5_heir) rfl rfl rfl (by decide +kernel) ⟨Nat.le_of_ble_eq_true rfl, Nat.le_of_ble_eq_true rfl⟩) (hPreVw hE hS (hrecv hE hW hI.1 (q := (RX5, TX5, 28)) rfl) hW) rfl rfl hl.1 rfl (lv_room (Nat.le_of_ble_eq_true rfl)) dX5_init_2497 ⟨Nat.le_of_ble_eq_true rfl, Nat.le_of_ble_eq_true rfl⟩) hS (fun ct_13 H locs hI hW hS => ?_)
  have hI : IC G ad ct0 ct_13 (staT, pa_10, be_10, hasT, zF, zF, zF) := hI
  refine lv_aload_n hx hb dX5_init_2500 rfl (lv_at hl 0 rfl) ?_
  refine lv_bipush (v := 19) hx hb dX5_init_2501 (by decide) ?_
  refine lv_bipush (v := 11) hx hb dX5_init_2503 (by decide) ?_
  refine lv_iconst (v := 3) hx hb dX5_init_2505 (by decide) ?_
  refine hc_r (va_runS (As := [.int 3]) (rest := [.int 11, .int 19, .ref (ad 8)]) S (c_X5_bitM l G _ 3) (va_cwS 1 hts (gWSS q_l_5_84 q_st_X5_bit q_in_5 q_co_X5_bit) rfl rfl rfl (by decide +kernel) ⟨Nat.le_of_ble_eq_true rfl, Nat.le_of_ble_eq_true rfl⟩) (hPreSr hE hS) rfl rfl hl.1 rfl (lv_room (Nat.le_of_ble_eq_true rfl)) dX5_init_2506 ⟨Nat.le_of_ble_eq_true rfl, Nat.le_of_ble_eq_true rfl⟩) hS (fun locs hS => ?_)
  refine hc_v (va_runV (As := [.int 19, .int 11, .int (bitM 3)]) (rest := []) S (c_X5_heir l G ad _ hI (t := 19) (o := 11) (by decide) (by decide) (bitM 3)) (cwV 3 hts (gWSV q_l_5_81 q_im_X5_heir q_se_X5_heir q_in_5 q_co_X5_heir) rfl rfl rfl (by decide +kernel) ⟨Nat.le_of_ble_eq_true rfl, Nat.le_of_ble_eq_true rfl⟩) (hPreVw hE hS (hrecv hE hW hI.1 (q := (RX5, TX5, 28)) rfl) hW) rfl rfl hl.1 rfl (lv_room (Nat.le_of_ble_eq_true rfl)) dX5_init_2509 ⟨Nat.le_of_ble_eq_true rfl, Nat.le_of_ble_eq_true rfl⟩) hS (fun ct_14 H locs hI hW hS => ?_)
  have hI : IC G ad ct0 ct_14 (staT, pa_11, be_11, hasT, zF, zF, zF) := hI
  refine lv_aload_n hx hb dX5_init_2512 rfl (lv_at hl 0 rfl) ?_
  refine lv_bipush (v := 20) hx hb dX5_init_2513 (by decide) ?_
  refine lv_bipush (v := 14) hx hb dX5_init_2515 (by decide) ?_
  refine lv_iconst (v := 5) hx hb dX5_init_2517 (by decide) ?_
  refine hc_r (va_runS (As := [.int 5]) (rest := [.int 14, .int 20, .ref (ad 8)]) S (c_X5_bitM l G _ 5) (va_cwS 1 hts (gWSS q_l_5_84 q_st_X5_bit q_in_5 q_co_X5_bit) rfl rfl rfl (by decide +kernel) ⟨Nat.le_of_ble_eq_true rfl, Nat.le_of_ble_eq_true rfl⟩) (hPreSr hE hS) rfl rfl hl.1 rfl (lv_room (Nat.le_of_ble_eq_true rfl)) dX5_init_2518 ⟨Nat.le_of_ble_eq_true rfl, Nat.le_of_ble_eq_true rfl⟩) hS (fun locs hS => ?_)
  refine lv_iconst (v := 3) hx hb dX5_init_2521 (by decide) ?_
  refine hc_r (va_runS (As := [.int 3]) (rest := [.int (bitM 5), .int 14, .int 20, .ref (ad 8)]) S (c_X5_bitM l G _ 3) (va_cwS 1 hts (gWSS q_l_5_84 q_st_X5_bit q_in_5 q_co_X5_bit) rfl rfl rfl (by decide +kernel) ⟨Nat.le_of_ble_eq_true rfl, Nat.le_of_ble_eq_true rfl⟩) (hPreSr hE hS) rfl rfl hl.1 rfl (lv_room (Nat.le_of_ble_eq_true rfl)) dX5_init_2522 ⟨Nat.le_of_ble_eq_true rfl, Nat.le_of_ble_eq_true rfl⟩) hS (fun locs hS => ?_)
  refine lv_ior hx hb dX5_init_2525 ?_
  refine hc_v (va_runV (As := [.int 20, .int 14, .int ((bitM 5) ||| (bitM 3))]) (rest := []) S (c_X5_heir l G ad _ hI (t := 20) (o := 14) (by decide) (by decide) ((bitM 5) ||| (bitM 3))) (cwV 3 hts (gWSV q_l_5_81 q_im_X5_heir q_se_X5_heir q_in_5 q_co_X5_heir) rfl rfl rfl (by decide +kernel) ⟨Nat.le_of_ble_eq_true rfl, Nat.le_of_ble_eq_true rfl⟩) (hPreVw hE hS (hrecv hE hW hI.1 (q := (RX5, TX5, 28)) rfl) hW) rfl rfl hl.1 rfl (lv_room (Nat.le_of_ble_eq_true rfl)) dX5_init_2526 ⟨Nat.le_of_ble_eq_true rfl, Nat.le_of_ble_eq_true rfl⟩) hS (fun ct_15 H locs hI hW hS => ?_)
  have hI : IC G ad ct0 ct_15 (staT, pa_12, be_12, hasT, zF, zF, zF) := hI
  exact hnext _ _ _ _ hI hW hS (lv_sub hl [0] rfl)
set_option maxRecDepth 100000 in
set_option maxHeartbeats 4000000 in
theorem ini_G {p : Program} {l : Launch} {e : Env} {s : State} {m : MethodId} {args : Array Value} {below : List Frame} {meth : Method} {c : Code} {Q : State → Prop} {G : hG} {ad : Nat → Nat} {ct0 : Nat → Option va_E} (S : CallFix p m c cX5_init 3 s args WS yX5_init.cls) (hE : gE G s)  (hnext : HI p l e s m args below meth c Q G ad ct0 2594 (staT, parT, beaT, hasT, choT, zF, zF)) : HI p l e s m args below meth c Q G ad ct0 2529 (staT, pa_12, be_12, hasT, zF, zF, zF) := by
  intro ct H locs ls hI hW hS hl
  obtain ⟨hx, hb, hml, hown, hts⟩ := id S
  obtain ⟨ct_p, hI, hW⟩ := ICe_12 hI hW pa_all
  obtain ⟨ct_b, hI, hW⟩ := ICe_13 hI hW be_all
  obtain ⟨ct_c, hI, hW⟩ := ICe_15 hI hW chC_12
  have hI : IC G ad ct0 ct_c (staT, parT, beaT, hasT, (chC (1 * 12)), zF, zF) := hI
  refine lv_iconst (v := 1) hx hb dX5_init_2529 (by decide) ?_
  refine lv_istore_n (lv' := [(1, .int 1), (0, .ref (ad 8))]) hx hb dX5_init_2530 rfl hl (by decide) rfl (fun ls hl => ?_)
  have loop : ∀ (rem t : Nat) (ct : Nat → Option va_E) (H : Heap) (locs : List Loc) (ls : Array Slot), t + rem = 21 → 1 ≤ t → IC G ad ct0 ct (staT, parT, beaT, hasT, (chC (t * 12)), zF, zF) → hw G ad ct H → va_S (hA G.2.2.2) s.heap H locs → lv_has ls 3 [(1, .int (nI t)), (0, .ref (ad 8))] → W p l e ({ frames := 4, cells := 22, slots := 4584, locals := 89 } : Room) s m args below meth c H locs 22 4584 Q (F0 m 2531 ls []) := by
    intro rem
    induction rem with
    | zero =>
      intro t ct H locs ls hn_loop hq_loop hI hW hS hl
      have ht : t = 21 := by omega
      subst ht
      have hI : IC G ad ct0 ct (staT, parT, beaT, hasT, choT, zF, zF) := by rw [← chC_all]; exact hI
      refine lv_iload_n hx hb dX5_init_2531 rfl (lv_at hl 0 rfl) ?_
      refine lv_bipush (v := 21) hx hb dX5_init_2532 (by decide) ?_
      refine lv_icmp_ge (tgt := 2594) hx hb dX5_init_2534 (by decide) (fun _ => ?_) (fun q => absurd (by decide) q)
      exact hnext _ _ _ _ hI hW hS (lv_sub hl [1] rfl)
    | succ rem ih_loop =>
      intro t ct H locs ls hn_loop hq_loop hI hW hS hl
      have ht : t < 21 := by omega
      refine lv_iload_n hx hb dX5_init_2531 rfl (lv_at hl 0 rfl) ?_
      refine lv_bipush (v := 21) hx hb dX5_init_2532 (by decide) ?_
      refine lv_icmp_ge (tgt := 2594) hx hb dX5_init_2534 (by decide) (fun q => absurd q (nI_ge (b := 21) (by omega) (by omega))) (fun _ => ?_)
      refine lv_iconst (v := 0) hx hb dX5_init_2537 (by decide) ?_
      refine lv_istore_n (lv' := [(2, .int 0), (1, .int (nI t)), (0, .ref (ad 8))]) hx hb dX5_init_2538 rfl hl (by decide) rfl (fun ls hl => ?_)
      have loop2 : ∀ (rem2 a : Nat) (ct : Nat → Option va_E) (H : Heap) (locs : List Loc) (ls : Array Slot), a + rem2 = 12 → IC G ad ct0 ct (staT, parT, beaT, hasT, (chC (t * 12 + a)), zF, zF) → hw G ad ct H → va_S (hA G.2.2.2) s.heap H locs → lv_has ls 3 [(2, .int (nI a)), (1, .int (nI t)), (0, .ref (ad 8))] → W p l e ({ frames := 4, cells := 22, slots := 4584, locals := 89 } : Room) s m args below meth c H locs 22 4584 Q (F0 m 2539 ls []) := by
        intro rem2
        induction rem2 with
        | zero =>
          intro a ct H locs ls hn_loop2 hI hW hS hl
          have ha : a = 12 := by omega
          subst ha
          refine lv_iload_n hx hb dX5_init_2539 rfl (lv_at hl 0 rfl) ?_
          refine lv_bipush (v := 12) hx hb dX5_init_2540 (by decide) ?_
          refine lv_icmp_ge (tgt := 2588) hx hb dX5_init_2542 (by decide) (fun _ => ?_) (fun q => absurd (by decide) q)
          refine lv_iinc (v := (nI (t + 1))) (lv' := [(1, .int (nI (t + 1))), (2, .int (nI 12)), (0, .ref (ad 8))]) hx hb dX5_init_2588 hl (k := 1) rfl (nI_1 t) (by decide) rfl (fun ls hl => ?_)
          refine lv_goto (tgt := 2531) hx hb dX5_init_2591 (by decide) ?_
          have hI : IC G ad ct0 ct (staT, parT, beaT, hasT, (chC ((t + 1) * 12)), zF, zF) := by rw [show (t + 1) * 12 = t * 12 + 12 by omega]; exact hI
          exact ih_loop (t + 1) _ _ _ _ (by omega) (by omega) hI hW hS (lv_sub hl [0, 2] rfl)
        | succ rem2 ih_loop2 =>
          intro a ct H locs ls hn_loop2 hI hW hS hl
          have ha : a < 12 := by omega
          refine lv_iload_n hx hb dX5_init_2539 rfl (lv_at hl 0 rfl) ?_
          refine lv_bipush (v := 12) hx hb dX5_init_2540 (by decide) ?_
          refine lv_icmp_ge (tgt := 2588) hx hb dX5_init_2542 (by decide) (fun q => absurd q (nI_ge (b := 12) (by omega) (by omega))) (fun _ => ?_)
          refine lv_aload_n hx hb dX5_init_2545 rfl (lv_at hl 2 rfl) ?_
          refine hr_get S hE hW hI.1 inX5 (C := RX5) (T := TX5) (N := 28) rfl 5 (by decide) q_f_5_25 rfl dX5_init_2546 ?_
          refine lv_iload_n hx hb dX5_init_2549 rfl (lv_at hl 1 rfl) ?_
          refine lv_bipush (v := 12) hx hb dX5_init_2550 (by decide) ?_
          refine lv_imul hx hb dX5_init_2552 ?_
          refine lv_iload_n hx hb dX5_init_2553 rfl (lv_at hl 0 rfl) ?_
          refine lv_iadd hx hb dX5_init_2554 ?_
          refine lv_iload_n hx hb dX5_init_2555 rfl (lv_at hl 1 rfl) ?_
          refine lv_iconst (v := 5) hx hb dX5_init_2556 (by decide) ?_
          refine lv_icmp_gt (tgt := 2575) hx hb dX5_init_2557 (by decide) (fun c_2557 => ?_) (fun c_2557 => ?_)
          · refine lv_aload_n hx hb dX5_init_2575 rfl (lv_at hl 2 rfl) ?_
            refine lv_iload_n hx hb dX5_init_2576 rfl (lv_at hl 1 rfl) ?_
            refine lv_iload_n hx hb dX5_init_2577 rfl (lv_at hl 0 rfl) ?_
            refine hc_r (va_runV (As := [.int (nI t), .int (nI a)]) (rest := [.int (((nI t) * 12) + (nI a)), .ref (ad 15)]) S (c_X5_select l G _ hW hI (ty := t) (a := a) ht ha) (cwV 2 hts (gWSV q_l_5_95 q_im_X5_select q_se_X5_select q_in_5 q_co_X5_select) rfl rfl rfl (by decide +kernel) ⟨Nat.le_of_ble_eq_true rfl, Nat.le_of_ble_eq_true rfl⟩) (hPreVr hE hS (hrecv hE hW hI.1 (q := (RX5, TX5, 28)) rfl)) rfl rfl hl.1 rfl (lv_room (Nat.le_of_ble_eq_true rfl)) dX5_init_2578 ⟨Nat.le_of_ble_eq_true rfl, Nat.le_of_ble_eq_true rfl⟩) hS (fun locs hS => ?_)
            rw [show slM t a 20 (nI t) = choT (t * 12 + a) by have h := chs_tab t ht a ha; rw [if_pos c_2557] at h; exact h]
            refine hr_iastk S hE hW hS hI.2.2.2.2.2.2.1 (j := (t * 12 + a)) (nI_ta t a) (by omega) (by decide) dX5_init_2581 (fun H locs ct_1 hW hk_2 hg_3 hz hS => ?_)
            have hI : IC G ad ct0 ct_1 (staT, parT, beaT, hasT, upd (chC (t * 12 + a)) (t * 12 + a) (choT (t * 12 + a)), zF, zF) := IC_15 hI hk_2 hg_3
            have hI : IC G ad ct0 ct_1 (staT, parT, beaT, hasT, (chC (t * 12 + a + 1)), zF, zF) := by rw [← chC_up]; exact hI
            refine lv_iinc (v := (nI (a + 1))) (lv' := [(2, .int (nI (a + 1))), (1, .int (nI t)), (0, .ref (ad 8))]) hx hb dX5_init_2582 hl (k := 0) rfl (nI_1 a) (by decide) rfl (fun ls hl => ?_)
            refine lv_goto (tgt := 2539) hx hb dX5_init_2585 (by decide) ?_
            exact ih_loop2 (a + 1) _ _ _ _ (by omega) hI hW hS (lv_sub hl [0, 1, 2] rfl)
          · refine lv_aload_n hx hb dX5_init_2560 rfl (lv_at hl 2 rfl) ?_
            refine lv_iload_n hx hb dX5_init_2561 rfl (lv_at hl 1 rfl) ?_
            refine hc_r (va_runS (As := [.int (nI t)]) (rest := [.ref (ad 8), .int (((nI t) * 12) + (nI a)), .ref (ad 15)]) S (c_X5_bitM l G _ (nI t)) (va_cwS 1 hts (gWSS q_l_5_84 q_st_X5_bit q_in_5 q_co_X5_bit) rfl rfl rfl (by decide +kernel) ⟨Nat.le_of_ble_eq_true rfl, Nat.le_of_ble_eq_true rfl⟩) (hPreSr hE hS) rfl rfl hl.1 rfl (lv_room (Nat.le_of_ble_eq_true rfl)) dX5_init_2562 ⟨Nat.le_of_ble_eq_true rfl, Nat.le_of_ble_eq_true rfl⟩) hS (fun locs hS => ?_)
            refine hc_r (va_runS (As := [.int (bitM (nI t))]) (rest := [.ref (ad 8), .int (((nI t) * 12) + (nI a)), .ref (ad 15)]) S (c_X5_closed l G _ (bitM (nI t))) (va_cwS 1 hts (gWSS q_l_5_88 q_st_X5_closed q_in_5 q_co_X5_closed) rfl rfl rfl (by decide +kernel) ⟨Nat.le_of_ble_eq_true rfl, Nat.le_of_ble_eq_true rfl⟩) (hPreSr hE hS) rfl rfl hl.1 rfl (lv_room (Nat.le_of_ble_eq_true rfl)) dX5_init_2565 ⟨Nat.le_of_ble_eq_true rfl, Nat.le_of_ble_eq_true rfl⟩) hS (fun locs hS => ?_)
            refine lv_iload_n hx hb dX5_init_2568 rfl (lv_at hl 0 rfl) ?_
            refine hc_r (va_runV (As := [.int (clM (bitM (nI t))), .int (nI a)]) (rest := [.int (((nI t) * 12) + (nI a)), .ref (ad 15)]) S (c_X5_lowest l G _ hW hI (clM (bitM (nI t))) (a := a) ha) (cwV 2 hts (gWSV q_l_5_91 q_im_X5_lowest q_se_X5_lowest q_in_5 q_co_X5_lowest) rfl rfl rfl (by decide +kernel) ⟨Nat.le_of_ble_eq_true rfl, Nat.le_of_ble_eq_true rfl⟩) (hPreVr hE hS (hrecv hE hW hI.1 (q := (RX5, TX5, 28)) rfl)) rfl rfl hl.1 rfl (lv_room (Nat.le_of_ble_eq_true rfl)) dX5_init_2569 ⟨Nat.le_of_ble_eq_true rfl, Nat.le_of_ble_eq_true rfl⟩) hS (fun locs hS => ?_)
            refine lv_goto (tgt := 2581) hx hb dX5_init_2572 (by decide) ?_
            rw [show lowM hasT (clM (bitM (nI t))) a 5 1 = choT (t * 12 + a) by have h := chs_tab t ht a ha; rw [if_neg c_2557, if_neg (by omega)] at h; exact h]
            refine hr_iastk S hE hW hS hI.2.2.2.2.2.2.1 (j := (t * 12 + a)) (nI_ta t a) (by omega) (by decide) dX5_init_2581 (fun H locs ct_4 hW hk_5 hg_6 hz hS => ?_)
            have hI : IC G ad ct0 ct_4 (staT, parT, beaT, hasT, upd (chC (t * 12 + a)) (t * 12 + a) (choT (t * 12 + a)), zF, zF) := IC_15 hI hk_5 hg_6
            have hI : IC G ad ct0 ct_4 (staT, parT, beaT, hasT, (chC (t * 12 + a + 1)), zF, zF) := by rw [← chC_up]; exact hI
            refine lv_iinc (v := (nI (a + 1))) (lv' := [(2, .int (nI (a + 1))), (1, .int (nI t)), (0, .ref (ad 8))]) hx hb dX5_init_2582 hl (k := 0) rfl (nI_1 a) (by decide) rfl (fun ls hl => ?_)
            refine lv_goto (tgt := 2539) hx hb dX5_init_2585 (by decide) ?_
            exact ih_loop2 (a + 1) _ _ _ _ (by omega) hI hW hS (lv_sub hl [0, 1, 2] rfl)
      exact loop2 12 0 _ _ _ _ (by omega) hI hW hS (lv_sub hl [0, 1, 2] rfl)
  exact loop 20 1 _ _ _ _ (by omega) (by omega) hI hW hS (lv_sub hl [0, 1] rfl)
set_option maxRecDepth 100000 in
set_option maxHeartbeats 4000000 in
theorem ini_H {p : Program} {l : Launch} {e : Env} {s : State} {m : MethodId} {args : Array Value} {below : List Frame} {meth : Method} {c : Code} {Q : State → Prop} {G : hG} {ad : Nat → Nat} {ct0 : Nat → Option va_E} (S : CallFix p m c cX5_init 3 s args WS yX5_init.cls) (hE : gE G s)  (hnext : HI p l e s m args below meth c Q G ad ct0 2727 (staT, parT, beaT, hasT, choT, aoT, zF)) : HI p l e s m args below meth c Q G ad ct0 2594 (staT, parT, beaT, hasT, choT, zF, zF) := by
  intro ct H locs ls hI hW hS hl
  obtain ⟨hx, hb, hml, hown, hts⟩ := id S
  refine lv_aload_n hx hb dX5_init_2594 rfl (lv_at hl 0 rfl) ?_
  refine hr_get S hE hW hI.1 inX5 (C := RX5) (T := TX5) (N := 28) rfl 6 (by decide) q_f_5_28 rfl dX5_init_2595 ?_
  refine lv_iconst (v := 1) hx hb dX5_init_2598 (by decide) ?_
  refine lv_iconst (v := 3) hx hb dX5_init_2599 (by decide) ?_
  refine hc_r (va_runS (As := [.int 3]) (rest := [.int 1, .ref (ad 16)]) S (c_X5_bitM l G _ 3) (va_cwS 1 hts (gWSS q_l_5_84 q_st_X5_bit q_in_5 q_co_X5_bit) rfl rfl rfl (by decide +kernel) ⟨Nat.le_of_ble_eq_true rfl, Nat.le_of_ble_eq_true rfl⟩) (hPreSr hE hS) rfl rfl hl.1 rfl (lv_room (Nat.le_of_ble_eq_true rfl)) dX5_init_2600 ⟨Nat.le_of_ble_eq_true rfl, Nat.le_of_ble_eq_true rfl⟩) hS (fun locs hS => ?_)
  refine lv_iconst (v := 5) hx hb dX5_init_2603 (by decide) ?_
  refine hc_r (va_runS (As := [.int 5]) (rest := [.int (bitM 3), .int 1, .ref (ad 16)]) S (c_X5_bitM l G _ 5) (va_cwS 1 hts (gWSS q_l_5_84 q_st_X5_bit q_in_5 q_co_X5_bit) rfl rfl rfl (by decide +kernel) ⟨Nat.le_of_ble_eq_true rfl, Nat.le_of_ble_eq_true rfl⟩) (hPreSr hE hS) rfl rfl hl.1 rfl (lv_room (Nat.le_of_ble_eq_true rfl)) dX5_init_2604 ⟨Nat.le_of_ble_eq_true rfl, Nat.le_of_ble_eq_true rfl⟩) hS (fun locs hS => ?_)
  refine lv_ior hx hb dX5_init_2607 ?_
  refine lv_bipush (v := 9) hx hb dX5_init_2608 (by decide) ?_
  refine hc_r (va_runS (As := [.int 9]) (rest := [.int ((bitM 3) ||| (bitM 5)), .int 1, .ref (ad 16)]) S (c_X5_bitM l G _ 9) (va_cwS 1 hts (gWSS q_l_5_84 q_st_X5_bit q_in_5 q_co_X5_bit) rfl rfl rfl (by decide +kernel) ⟨Nat.le_of_ble_eq_true rfl, Nat.le_of_ble_eq_true rfl⟩) (hPreSr hE hS) rfl rfl hl.1 rfl (lv_room (Nat.le_of_ble_eq_true rfl)) dX5_init_2610 ⟨Nat.le_of_ble_eq_true rfl, Nat.le_of_ble_eq_true rfl⟩) hS (fun locs hS => ?_)
  refine lv_ior hx hb dX5_init_2613 ?_
  refine lv_bipush (v := 10) hx hb dX5_init_2614 (by decide) ?_
  refine hc_r (va_runS (As := [.int 10]) (rest := [.int (((bitM 3) ||| (bitM 5)) ||| (bitM 9)), .int 1, .ref (ad 16)]) S (c_X5_bitM l G _ 10) (va_cwS 1 hts (gWSS q_l_5_84 q_st_X5_bit q_in_5 q_co_X5_bit) rfl rfl rfl (by decide +kernel) ⟨Nat.le_of_ble_eq_true rfl, Nat.le_of_ble_eq_true rfl⟩) (hPreSr hE hS) rfl rfl hl.1 rfl (lv_room (Nat.le_of_ble_eq_true rfl)) dX5_init_2616 ⟨Nat.le_of_ble_eq_true rfl, Nat.le_of_ble_eq_true rfl⟩) hS (fun locs hS => ?_)
  refine lv_ior hx hb dX5_init_2619 ?_
  refine lv_bipush (v := 11) hx hb dX5_init_2620 (by decide) ?_
  refine hc_r (va_runS (As := [.int 11]) (rest := [.int ((((bitM 3) ||| (bitM 5)) ||| (bitM 9)) ||| (bitM 10)), .int 1, .ref (ad 16)]) S (c_X5_bitM l G _ 11) (va_cwS 1 hts (gWSS q_l_5_84 q_st_X5_bit q_in_5 q_co_X5_bit) rfl rfl rfl (by decide +kernel) ⟨Nat.le_of_ble_eq_true rfl, Nat.le_of_ble_eq_true rfl⟩) (hPreSr hE hS) rfl rfl hl.1 rfl (lv_room (Nat.le_of_ble_eq_true rfl)) dX5_init_2622 ⟨Nat.le_of_ble_eq_true rfl, Nat.le_of_ble_eq_true rfl⟩) hS (fun locs hS => ?_)
  refine lv_ior hx hb dX5_init_2625 ?_
  refine hr_iastk S hE hW hS hI.2.2.2.2.2.2.2.1 (j := 1) rfl (by decide) (by decide) dX5_init_2626 (fun H locs ct_1 hW hk_2 hg_3 hz hS => ?_)
  have hI : IC G ad ct0 ct_1 (staT, parT, beaT, hasT, choT, upd zF 1 (((((bitM 3) ||| (bitM 5)) ||| (bitM 9)) ||| (bitM 10)) ||| (bitM 11)), zF) := IC_16 hI hk_2 hg_3
  refine lv_aload_n hx hb dX5_init_2627 rfl (lv_at hl 0 rfl) ?_
  refine hr_get S hE hW hI.1 inX5 (C := RX5) (T := TX5) (N := 28) rfl 6 (by decide) q_f_5_28 rfl dX5_init_2628 ?_
  refine lv_iconst (v := 2) hx hb dX5_init_2631 (by decide) ?_
  refine lv_iconst (v := 0) hx hb dX5_init_2632 (by decide) ?_
  refine hc_r (va_runS (As := [.int 0]) (rest := [.int 2, .ref (ad 16)]) S (c_X5_bitM l G _ 0) (va_cwS 1 hts (gWSS q_l_5_84 q_st_X5_bit q_in_5 q_co_X5_bit) rfl rfl rfl (by decide +kernel) ⟨Nat.le_of_ble_eq_true rfl, Nat.le_of_ble_eq_true rfl⟩) (hPreSr hE hS) rfl rfl hl.1 rfl (lv_room (Nat.le_of_ble_eq_true rfl)) dX5_init_2633 ⟨Nat.le_of_ble_eq_true rfl, Nat.le_of_ble_eq_true rfl⟩) hS (fun locs hS => ?_)
  refine lv_iconst (v := 1) hx hb dX5_init_2636 (by decide) ?_
  refine hc_r (va_runS (As := [.int 1]) (rest := [.int (bitM 0), .int 2, .ref (ad 16)]) S (c_X5_bitM l G _ 1) (va_cwS 1 hts (gWSS q_l_5_84 q_st_X5_bit q_in_5 q_co_X5_bit) rfl rfl rfl (by decide +kernel) ⟨Nat.le_of_ble_eq_true rfl, Nat.le_of_ble_eq_true rfl⟩) (hPreSr hE hS) rfl rfl hl.1 rfl (lv_room (Nat.le_of_ble_eq_true rfl)) dX5_init_2637 ⟨Nat.le_of_ble_eq_true rfl, Nat.le_of_ble_eq_true rfl⟩) hS (fun locs hS => ?_)
  refine lv_ior hx hb dX5_init_2640 ?_
  refine lv_iconst (v := 2) hx hb dX5_init_2641 (by decide) ?_
  refine hc_r (va_runS (As := [.int 2]) (rest := [.int ((bitM 0) ||| (bitM 1)), .int 2, .ref (ad 16)]) S (c_X5_bitM l G _ 2) (va_cwS 1 hts (gWSS q_l_5_84 q_st_X5_bit q_in_5 q_co_X5_bit) rfl rfl rfl (by decide +kernel) ⟨Nat.le_of_ble_eq_true rfl, Nat.le_of_ble_eq_true rfl⟩) (hPreSr hE hS) rfl rfl hl.1 rfl (lv_room (Nat.le_of_ble_eq_true rfl)) dX5_init_2642 ⟨Nat.le_of_ble_eq_true rfl, Nat.le_of_ble_eq_true rfl⟩) hS (fun locs hS => ?_)
  refine lv_ior hx hb dX5_init_2645 ?_
  refine hr_iastk S hE hW hS hI.2.2.2.2.2.2.2.1 (j := 2) rfl (by decide) (by decide) dX5_init_2646 (fun H locs ct_4 hW hk_5 hg_6 hz hS => ?_)
  have hI : IC G ad ct0 ct_4 (staT, parT, beaT, hasT, choT, upd (upd zF 1 (((((bitM 3) ||| (bitM 5)) ||| (bitM 9)) ||| (bitM 10)) ||| (bitM 11))) 2 (((bitM 0) ||| (bitM 1)) ||| (bitM 2)), zF) := IC_16 hI hk_5 hg_6
  refine lv_aload_n hx hb dX5_init_2647 rfl (lv_at hl 0 rfl) ?_
  refine hr_get S hE hW hI.1 inX5 (C := RX5) (T := TX5) (N := 28) rfl 6 (by decide) q_f_5_28 rfl dX5_init_2648 ?_
  refine lv_iconst (v := 3) hx hb dX5_init_2651 (by decide) ?_
  refine lv_iconst (v := 3) hx hb dX5_init_2652 (by decide) ?_
  refine hc_r (va_runS (As := [.int 3]) (rest := [.int 3, .ref (ad 16)]) S (c_X5_bitM l G _ 3) (va_cwS 1 hts (gWSS q_l_5_84 q_st_X5_bit q_in_5 q_co_X5_bit) rfl rfl rfl (by decide +kernel) ⟨Nat.le_of_ble_eq_true rfl, Nat.le_of_ble_eq_true rfl⟩) (hPreSr hE hS) rfl rfl hl.1 rfl (lv_room (Nat.le_of_ble_eq_true rfl)) dX5_init_2653 ⟨Nat.le_of_ble_eq_true rfl, Nat.le_of_ble_eq_true rfl⟩) hS (fun locs hS => ?_)
  refine lv_iconst (v := 4) hx hb dX5_init_2656 (by decide) ?_
  refine hc_r (va_runS (As := [.int 4]) (rest := [.int (bitM 3), .int 3, .ref (ad 16)]) S (c_X5_bitM l G _ 4) (va_cwS 1 hts (gWSS q_l_5_84 q_st_X5_bit q_in_5 q_co_X5_bit) rfl rfl rfl (by decide +kernel) ⟨Nat.le_of_ble_eq_true rfl, Nat.le_of_ble_eq_true rfl⟩) (hPreSr hE hS) rfl rfl hl.1 rfl (lv_room (Nat.le_of_ble_eq_true rfl)) dX5_init_2657 ⟨Nat.le_of_ble_eq_true rfl, Nat.le_of_ble_eq_true rfl⟩) hS (fun locs hS => ?_)
  refine lv_ior hx hb dX5_init_2660 ?_
  refine lv_iconst (v := 2) hx hb dX5_init_2661 (by decide) ?_
  refine hc_r (va_runS (As := [.int 2]) (rest := [.int ((bitM 3) ||| (bitM 4)), .int 3, .ref (ad 16)]) S (c_X5_bitM l G _ 2) (va_cwS 1 hts (gWSS q_l_5_84 q_st_X5_bit q_in_5 q_co_X5_bit) rfl rfl rfl (by decide +kernel) ⟨Nat.le_of_ble_eq_true rfl, Nat.le_of_ble_eq_true rfl⟩) (hPreSr hE hS) rfl rfl hl.1 rfl (lv_room (Nat.le_of_ble_eq_true rfl)) dX5_init_2662 ⟨Nat.le_of_ble_eq_true rfl, Nat.le_of_ble_eq_true rfl⟩) hS (fun locs hS => ?_)
  refine lv_ior hx hb dX5_init_2665 ?_
  refine hr_iastk S hE hW hS hI.2.2.2.2.2.2.2.1 (j := 3) rfl (by decide) (by decide) dX5_init_2666 (fun H locs ct_7 hW hk_8 hg_9 hz hS => ?_)
  have hI : IC G ad ct0 ct_7 (staT, parT, beaT, hasT, choT, upd (upd (upd zF 1 (((((bitM 3) ||| (bitM 5)) ||| (bitM 9)) ||| (bitM 10)) ||| (bitM 11))) 2 (((bitM 0) ||| (bitM 1)) ||| (bitM 2))) 3 (((bitM 3) ||| (bitM 4)) ||| (bitM 2)), zF) := IC_16 hI hk_8 hg_9
  refine lv_aload_n hx hb dX5_init_2667 rfl (lv_at hl 0 rfl) ?_
  refine hr_get S hE hW hI.1 inX5 (C := RX5) (T := TX5) (N := 28) rfl 6 (by decide) q_f_5_28 rfl dX5_init_2668 ?_
  refine lv_iconst (v := 4) hx hb dX5_init_2671 (by decide) ?_
  refine lv_aload_n hx hb dX5_init_2672 rfl (lv_at hl 0 rfl) ?_
  refine hr_get S hE hW hI.1 inX5 (C := RX5) (T := TX5) (N := 28) rfl 6 (by decide) q_f_5_28 rfl dX5_init_2673 ?_
  refine lv_iconst (v := 2) hx hb dX5_init_2676 (by decide) ?_
  refine hr_ialdk S hE hW hI.2.2.2.2.2.2.2.1 (j := 2) rfl (by decide) (by decide) dX5_init_2677 ?_
  refine lv_aload_n hx hb dX5_init_2678 rfl (lv_at hl 0 rfl) ?_
  refine hr_get S hE hW hI.1 inX5 (C := RX5) (T := TX5) (N := 28) rfl 6 (by decide) q_f_5_28 rfl dX5_init_2679 ?_
  refine lv_iconst (v := 3) hx hb dX5_init_2682 (by decide) ?_
  refine hr_ialdk S hE hW hI.2.2.2.2.2.2.2.1 (j := 3) rfl (by decide) (by decide) dX5_init_2683 ?_
  refine lv_ior hx hb dX5_init_2684 ?_
  refine hr_iastk S hE hW hS hI.2.2.2.2.2.2.2.1 (j := 4) rfl (by decide) (by decide) dX5_init_2685 (fun H locs ct_10 hW hk_11 hg_12 hz hS => ?_)
  have hI : IC G ad ct0 ct_10 (staT, parT, beaT, hasT, choT, upd (upd (upd (upd zF 1 (((((bitM 3) ||| (bitM 5)) ||| (bitM 9)) ||| (bitM 10)) ||| (bitM 11))) 2 (((bitM 0) ||| (bitM 1)) ||| (bitM 2))) 3 (((bitM 3) ||| (bitM 4)) ||| (bitM 2))) 4 (((upd (upd (upd zF 1 (((((bitM 3) ||| (bitM 5)) ||| (bitM 9)) ||| (bitM 10)) ||| (bitM 11))) 2 (((bitM 0) ||| (bitM 1)) ||| (bitM 2))) 3 (((bitM 3) ||| (bitM 4)) ||| (bitM 2))) 2) ||| ((upd (upd (upd zF 1 (((((bitM 3) ||| (bitM 5)) ||| (bitM 9)) ||| (bitM 10)) ||| (bitM 11))) 2 (((bitM 0) ||| (bitM 1)) ||| (bitM 2))) 3 (((bitM 3) ||| (bitM 4)) ||| (bitM 2))) 3)), zF) := IC_16 hI hk_11 hg_12
  refine lv_aload_n hx hb dX5_init_2686 rfl (lv_at hl 0 rfl) ?_
  refine hr_get S hE hW hI.1 inX5 (C := RX5) (T := TX5) (N := 28) rfl 6 (by decide) q_f_5_28 rfl dX5_init_2687 ?_
  refine lv_iconst (v := 5) hx hb dX5_init_2690 (by decide) ?_
  refine lv_iconst (v := 5) hx hb dX5_init_2691 (by decide) ?_
  refine hc_r (va_runS (As := [.int 5]) (rest := [.int 5, .ref (ad 16)]) S (c_X5_bitM l G _ 5) (va_cwS 1 hts (gWSS q_l_5_84 q_st_X5_bit q_in_5 q_co_X5_bit) rfl rfl rfl (by decide +kernel) ⟨Nat.le_of_ble_eq_true rfl, Nat.le_of_ble_eq_true rfl⟩) (hPreSr hE hS) rfl rfl hl.1 rfl (lv_room (Nat.le_of_ble_eq_true rfl)) dX5_init_2692 ⟨Nat.le_of_ble_eq_true rfl, Nat.le_of_ble_eq_true rfl⟩) hS (fun locs hS => ?_)
  refine lv_bipush (v := 6) hx hb dX5_init_2695 (by decide) ?_
  refine hc_r (va_runS (As := [.int 6]) (rest := [.int (bitM 5), .int 5, .ref (ad 16)]) S (c_X5_bitM l G _ 6) (va_cwS 1 hts (gWSS q_l_5_84 q_st_X5_bit q_in_5 q_co_X5_bit) rfl rfl rfl (by decide +kernel) ⟨Nat.le_of_ble_eq_true rfl, Nat.le_of_ble_eq_true rfl⟩) (hPreSr hE hS) rfl rfl hl.1 rfl (lv_room (Nat.le_of_ble_eq_true rfl)) dX5_init_2697 ⟨Nat.le_of_ble_eq_true rfl, Nat.le_of_ble_eq_true rfl⟩) hS (fun locs hS => ?_)
  refine lv_ior hx hb dX5_init_2700 ?_
  refine lv_bipush (v := 7) hx hb dX5_init_2701 (by decide) ?_
  refine hc_r (va_runS (As := [.int 7]) (rest := [.int ((bitM 5) ||| (bitM 6)), .int 5, .ref (ad 16)]) S (c_X5_bitM l G _ 7) (va_cwS 1 hts (gWSS q_l_5_84 q_st_X5_bit q_in_5 q_co_X5_bit) rfl rfl rfl (by decide +kernel) ⟨Nat.le_of_ble_eq_true rfl, Nat.le_of_ble_eq_true rfl⟩) (hPreSr hE hS) rfl rfl hl.1 rfl (lv_room (Nat.le_of_ble_eq_true rfl)) dX5_init_2703 ⟨Nat.le_of_ble_eq_true rfl, Nat.le_of_ble_eq_true rfl⟩) hS (fun locs hS => ?_)
  refine lv_ior hx hb dX5_init_2706 ?_
  refine hr_iastk S hE hW hS hI.2.2.2.2.2.2.2.1 (j := 5) rfl (by decide) (by decide) dX5_init_2707 (fun H locs ct_13 hW hk_14 hg_15 hz hS => ?_)
  have hI : IC G ad ct0 ct_13 (staT, parT, beaT, hasT, choT, upd (upd (upd (upd (upd zF 1 (((((bitM 3) ||| (bitM 5)) ||| (bitM 9)) ||| (bitM 10)) ||| (bitM 11))) 2 (((bitM 0) ||| (bitM 1)) ||| (bitM 2))) 3 (((bitM 3) ||| (bitM 4)) ||| (bitM 2))) 4 (((upd (upd (upd zF 1 (((((bitM 3) ||| (bitM 5)) ||| (bitM 9)) ||| (bitM 10)) ||| (bitM 11))) 2 (((bitM 0) ||| (bitM 1)) ||| (bitM 2))) 3 (((bitM 3) ||| (bitM 4)) ||| (bitM 2))) 2) ||| ((upd (upd (upd zF 1 (((((bitM 3) ||| (bitM 5)) ||| (bitM 9)) ||| (bitM 10)) ||| (bitM 11))) 2 (((bitM 0) ||| (bitM 1)) ||| (bitM 2))) 3 (((bitM 3) ||| (bitM 4)) ||| (bitM 2))) 3))) 5 (((bitM 5) ||| (bitM 6)) ||| (bitM 7)), zF) := IC_16 hI hk_14 hg_15
  refine lv_aload_n hx hb dX5_init_2708 rfl (lv_at hl 0 rfl) ?_
  refine hr_get S hE hW hI.1 inX5 (C := RX5) (T := TX5) (N := 28) rfl 6 (by decide) q_f_5_28 rfl dX5_init_2709 ?_
  refine lv_bipush (v := 6) hx hb dX5_init_2712 (by decide) ?_
  refine lv_aload_n hx hb dX5_init_2714 rfl (lv_at hl 0 rfl) ?_
  refine hr_get S hE hW hI.1 inX5 (C := RX5) (T := TX5) (N := 28) rfl 6 (by decide) q_f_5_28 rfl dX5_init_2715 ?_
  refine lv_iconst (v := 5) hx hb dX5_init_2718 (by decide) ?_
  refine hr_ialdk S hE hW hI.2.2.2.2.2.2.2.1 (j := 5) rfl (by decide) (by decide) dX5_init_2719 ?_
  refine lv_bipush (v := 8) hx hb dX5_init_2720 (by decide) ?_
  refine hc_r (va_runS (As := [.int 8]) (rest := [.int ((upd (upd (upd (upd (upd zF 1 (((((bitM 3) ||| (bitM 5)) ||| (bitM 9)) ||| (bitM 10)) ||| (bitM 11))) 2 (((bitM 0) ||| (bitM 1)) ||| (bitM 2))) 3 (((bitM 3) ||| (bitM 4)) ||| (bitM 2))) 4 (((upd (upd (upd zF 1 (((((bitM 3) ||| (bitM 5)) ||| (bitM 9)) ||| (bitM 10)) ||| (bitM 11))) 2 (((bitM 0) ||| (bitM 1)) ||| (bitM 2))) 3 (((bitM 3) ||| (bitM 4)) ||| (bitM 2))) 2) ||| ((upd (upd (upd zF 1 (((((bitM 3) ||| (bitM 5)) ||| (bitM 9)) ||| (bitM 10)) ||| (bitM 11))) 2 (((bitM 0) ||| (bitM 1)) ||| (bitM 2))) 3 (((bitM 3) ||| (bitM 4)) ||| (bitM 2))) 3))) 5 (((bitM 5) ||| (bitM 6)) ||| (bitM 7))) 5), .int 6, .ref (ad 16)]) S (c_X5_bitM l G _ 8) (va_cwS 1 hts (gWSS q_l_5_84 q_st_X5_bit q_in_5 q_co_X5_bit) rfl rfl rfl (by decide +kernel) ⟨Nat.le_of_ble_eq_true rfl, Nat.le_of_ble_eq_true rfl⟩) (hPreSr hE hS) rfl rfl hl.1 rfl (lv_room (Nat.le_of_ble_eq_true rfl)) dX5_init_2722 ⟨Nat.le_of_ble_eq_true rfl, Nat.le_of_ble_eq_true rfl⟩) hS (fun locs hS => ?_)
  refine lv_ior hx hb dX5_init_2725 ?_
  refine hr_iastk S hE hW hS hI.2.2.2.2.2.2.2.1 (j := 6) rfl (by decide) (by decide) dX5_init_2726 (fun H locs ct_16 hW hk_17 hg_18 hz hS => ?_)
  have hI : IC G ad ct0 ct_16 (staT, parT, beaT, hasT, choT, upd (upd (upd (upd (upd (upd zF 1 (((((bitM 3) ||| (bitM 5)) ||| (bitM 9)) ||| (bitM 10)) ||| (bitM 11))) 2 (((bitM 0) ||| (bitM 1)) ||| (bitM 2))) 3 (((bitM 3) ||| (bitM 4)) ||| (bitM 2))) 4 (((upd (upd (upd zF 1 (((((bitM 3) ||| (bitM 5)) ||| (bitM 9)) ||| (bitM 10)) ||| (bitM 11))) 2 (((bitM 0) ||| (bitM 1)) ||| (bitM 2))) 3 (((bitM 3) ||| (bitM 4)) ||| (bitM 2))) 2) ||| ((upd (upd (upd zF 1 (((((bitM 3) ||| (bitM 5)) ||| (bitM 9)) ||| (bitM 10)) ||| (bitM 11))) 2 (((bitM 0) ||| (bitM 1)) ||| (bitM 2))) 3 (((bitM 3) ||| (bitM 4)) ||| (bitM 2))) 3))) 5 (((bitM 5) ||| (bitM 6)) ||| (bitM 7))) 6 (((upd (upd (upd (upd (upd zF 1 (((((bitM 3) ||| (bitM 5)) ||| (bitM 9)) ||| (bitM 10)) ||| (bitM 11))) 2 (((bitM 0) ||| (bitM 1)) ||| (bitM 2))) 3 (((bitM 3) ||| (bitM 4)) ||| (bitM 2))) 4 (((upd (upd (upd zF 1 (((((bitM 3) ||| (bitM 5)) ||| (bitM 9)) ||| (bitM 10)) ||| (bitM 11))) 2 (((bitM 0) ||| (bitM 1)) ||| (bitM 2))) 3 (((bitM 3) ||| (bitM 4)) ||| (bitM 2))) 2) ||| ((upd (upd (upd zF 1 (((((bitM 3) ||| (bitM 5)) ||| (bitM 9)) ||| (bitM 10)) ||| (bitM 11))) 2 (((bitM 0) ||| (bitM 1)) ||| (bitM 2))) 3 (((bitM 3) ||| (bitM 4)) ||| (bitM 2))) 3))) 5 (((bitM 5) ||| (bitM 6)) ||| (bitM 7))) 5) ||| (bitM 8)), zF) := IC_16 hI hk_17 hg_18
  obtain ⟨ct_a, hI, hW⟩ := ICe_16 hI hW (f := aoT) (by decide +kernel)
  exact hnext _ _ _ _ hI hW hS (lv_sub hl [0] rfl)
set_option maxRecDepth 100000 in
set_option maxHeartbeats 4000000 in
theorem ini_I {p : Program} {l : Launch} {e : Env} {s : State} {m : MethodId} {args : Array Value} {below : List Frame} {meth : Method} {c : Code} {Q : State → Prop} {G : hG} {ad : Nat → Nat} {ct0 : Nat → Option va_E} (S : CallFix p m c cX5_init 3 s args WS yX5_init.cls) (hE : gE G s)  (hnext : HI p l e s m args below meth c Q G ad ct0 2800 (staT, parT, beaT, hasT, choT, aoT, akT)) : HI p l e s m args below meth c Q G ad ct0 2727 (staT, parT, beaT, hasT, choT, aoT, zF) := by
  intro ct H locs ls hI hW hS hl
  obtain ⟨hx, hb, hml, hown, hts⟩ := id S
  have hI : IC G ad ct0 ct (staT, parT, beaT, hasT, choT, aoT, (akC 0)) := by rw [← akC_0]; exact hI
  refine lv_iconst (v := 0) hx hb dX5_init_2727 (by decide) ?_
  refine lv_istore_n (lv' := [(1, .int 0), (0, .ref (ad 8))]) hx hb dX5_init_2728 rfl hl (by decide) rfl (fun ls hl => ?_)
  have loop : ∀ (rem k : Nat) (ct : Nat → Option va_E) (H : Heap) (locs : List Loc) (ls : Array Slot), k + rem = 11 → IC G ad ct0 ct (staT, parT, beaT, hasT, choT, aoT, (akC k)) → hw G ad ct H → va_S (hA G.2.2.2) s.heap H locs → lv_has ls 3 [(1, .int (nI k)), (0, .ref (ad 8))] → W p l e ({ frames := 4, cells := 22, slots := 4584, locals := 89 } : Room) s m args below meth c H locs 22 4584 Q (F0 m 2729 ls []) := by
    intro rem
    induction rem with
    | zero =>
      intro k ct H locs ls hn_loop hI hW hS hl
      have hk : k = 11 := by omega
      subst hk
      have hI : IC G ad ct0 ct (staT, parT, beaT, hasT, choT, aoT, akT) := by rw [← akC_all]; exact hI
      refine lv_iload_n hx hb dX5_init_2729 rfl (lv_at hl 0 rfl) ?_
      refine lv_bipush (v := 11) hx hb dX5_init_2730 (by decide) ?_
      refine lv_icmp_ge (tgt := 2800) hx hb dX5_init_2732 (by decide) (fun _ => ?_) (fun q => absurd (by decide) q)
      exact hnext _ _ _ _ hI hW hS (lv_sub hl [1] rfl)
    | succ rem ih_loop =>
      intro k ct H locs ls hn_loop hI hW hS hl
      have hk : k < 11 := by omega
      refine lv_iload_n hx hb dX5_init_2729 rfl (lv_at hl 0 rfl) ?_
      refine lv_bipush (v := 11) hx hb dX5_init_2730 (by decide) ?_
      refine lv_icmp_ge (tgt := 2800) hx hb dX5_init_2732 (by decide) (fun q => absurd q (nI_ge (b := 11) (by omega) (by omega))) (fun _ => ?_)
      refine lv_aload_n hx hb dX5_init_2735 rfl (lv_at hl 1 rfl) ?_
      refine hr_get S hE hW hI.1 inX5 (C := RX5) (T := TX5) (N := 28) rfl 7 (by decide) q_f_5_31 rfl dX5_init_2736 ?_
      refine lv_iload_n hx hb dX5_init_2739 rfl (lv_at hl 0 rfl) ?_
      refine lv_aload_n hx hb dX5_init_2740 rfl (lv_at hl 1 rfl) ?_
      refine hr_get S hE hW hI.1 inX5 (C := RX5) (T := TX5) (N := 28) rfl 6 (by decide) q_f_5_28 rfl dX5_init_2741 ?_
      refine lv_iconst (v := 1) hx hb dX5_init_2744 (by decide) ?_
      refine hr_ialdk S hE hW hI.2.2.2.2.2.2.2.1 (j := 1) rfl (by decide) (by decide) dX5_init_2745 ?_
      refine hr_iastk S hE hW hS hI.2.2.2.2.2.2.2.2.1 (j := k) rfl hk (by decide) dX5_init_2746 (fun H locs ct_1 hW hk_2 hg_3 hz hS => ?_)
      have hI : IC G ad ct0 ct_1 (staT, parT, beaT, hasT, choT, aoT, upd (akC k) k (aoT 1)) := IC_17 hI hk_2 hg_3
      refine lv_iconst (v := 1) hx hb dX5_init_2747 (by decide) ?_
      refine lv_istore_n (lv' := [(2, .int 1), (1, .int (nI k)), (0, .ref (ad 8))]) hx hb dX5_init_2748 rfl hl (by decide) rfl (fun ls hl => ?_)
      have loop2 : ∀ (rem2 i : Nat) (ct : Nat → Option va_E) (H : Heap) (locs : List Loc) (ls : Array Slot), i + rem2 = 5 → IC G ad ct0 ct (staT, parT, beaT, hasT, choT, aoT, (upd (akC k) k (akL k i))) → hw G ad ct H → va_S (hA G.2.2.2) s.heap H locs → lv_has ls 3 [(2, .int (nI (i + 1))), (1, .int (nI k)), (0, .ref (ad 8))] → W p l e ({ frames := 4, cells := 22, slots := 4584, locals := 89 } : Room) s m args below meth c H locs 22 4584 Q (F0 m 2749 ls []) := by
        intro rem2
        induction rem2 with
        | zero =>
          intro i ct H locs ls hn_loop2 hI hW hS hl
          have hi : i = 5 := by omega
          subst hi
          have hI : IC G ad ct0 ct (staT, parT, beaT, hasT, choT, aoT, (akC (k + 1))) := by rw [← akC_up, ← akL_5 k hk]; exact hI
          refine lv_iload_n hx hb dX5_init_2749 rfl (lv_at hl 0 rfl) ?_
          refine lv_iconst (v := 5) hx hb dX5_init_2750 (by decide) ?_
          refine lv_icmp_gt (tgt := 2794) hx hb dX5_init_2751 (by decide) (fun _ => ?_) (fun q => absurd (show (5 : Int32) < nI (5 + 1) by decide) q)
          refine lv_iinc (v := (nI (k + 1))) (lv' := [(1, .int (nI (k + 1))), (2, .int (nI (5 + 1))), (0, .ref (ad 8))]) hx hb dX5_init_2794 hl (k := 1) rfl (nI_1 k) (by decide) rfl (fun ls hl => ?_)
          refine lv_goto (tgt := 2729) hx hb dX5_init_2797 (by decide) ?_
          exact ih_loop (k + 1) _ _ _ _ (by omega) hI hW hS (lv_sub hl [0, 2] rfl)
        | succ rem2 ih_loop2 =>
          intro i ct H locs ls hn_loop2 hI hW hS hl
          refine lv_iload_n hx hb dX5_init_2749 rfl (lv_at hl 0 rfl) ?_
          refine lv_iconst (v := 5) hx hb dX5_init_2750 (by decide) ?_
          refine lv_icmp_gt (tgt := 2794) hx hb dX5_init_2751 (by decide) (fun q => absurd q (le5 (by omega))) (fun _ => ?_)
          refine lv_aload_n hx hb dX5_init_2754 rfl (lv_at hl 2 rfl) ?_
          refine hr_get S hE hW hI.1 inX5 (C := RX5) (T := TX5) (N := 28) rfl 3 (by decide) q_f_5_19 rfl dX5_init_2755 ?_
          refine lv_bipush (v := 10) hx hb dX5_init_2758 (by decide) ?_
          refine lv_iload_n hx hb dX5_init_2760 rfl (lv_at hl 1 rfl) ?_
          refine lv_iadd hx hb dX5_init_2761 ?_
          refine hr_ialdk S hE hW hI.2.2.2.2.1 (j := (10 + k)) (show (10 : Int32) + nI k = nI (10 + k) from nI_add 10 _) (by omega) (by decide) dX5_init_2762 ?_
          refine lv_iload_n hx hb dX5_init_2763 rfl (lv_at hl 0 rfl) ?_
          refine hc_r (va_runS (As := [.int (nI (i + 1))]) (rest := [.int (beaT (10 + k))]) S (c_X5_bitM l G _ (nI (i + 1))) (va_cwS 1 hts (gWSS q_l_5_84 q_st_X5_bit q_in_5 q_co_X5_bit) rfl rfl rfl (by decide +kernel) ⟨Nat.le_of_ble_eq_true rfl, Nat.le_of_ble_eq_true rfl⟩) (hPreSr hE hS) rfl rfl hl.1 rfl (lv_room (Nat.le_of_ble_eq_true rfl)) dX5_init_2764 ⟨Nat.le_of_ble_eq_true rfl, Nat.le_of_ble_eq_true rfl⟩) hS (fun locs hS => ?_)
          refine lv_iand hx hb dX5_init_2767 ?_
          refine lv_if_eq (tgt := 2788) hx hb dX5_init_2768 (by decide) (fun c_2768 => ?_) (fun c_2768 => ?_)
          · refine lv_iinc (v := (nI (i + 1 + 1))) (lv' := [(2, .int (nI (i + 1 + 1))), (1, .int (nI k)), (0, .ref (ad 8))]) hx hb dX5_init_2788 hl (k := 0) rfl (nI_1 (i + 1)) (by decide) rfl (fun ls hl => ?_)
            refine lv_goto (tgt := 2749) hx hb dX5_init_2791 (by decide) ?_
            have hI : IC G ad ct0 ct (staT, parT, beaT, hasT, choT, aoT, (upd (akC k) k (akL k (i + 1)))) := by rw [akL, if_pos c_2768]; exact hI
            exact ih_loop2 (i + 1) _ _ _ _ (by omega) hI hW hS (lv_sub hl [0, 1, 2] rfl)
          · refine lv_aload_n hx hb dX5_init_2771 rfl (lv_at hl 2 rfl) ?_
            refine hr_get S hE hW hI.1 inX5 (C := RX5) (T := TX5) (N := 28) rfl 7 (by decide) q_f_5_31 rfl dX5_init_2772 ?_
            refine lv_iload_n hx hb dX5_init_2775 rfl (lv_at hl 1 rfl) ?_
            refine lv_dup2_11 hx hb dX5_init_2776 rfl rfl ?_
            refine hr_ialdk S hE hW hI.2.2.2.2.2.2.2.2.1 (j := k) rfl hk (by decide) dX5_init_2777 ?_
            rw [show ((staT, parT, beaT, hasT, choT, aoT, (upd (akC k) k (akL k i))) : IT).2.2.2.2.2.2 k = akL k i from pk_us]
            refine lv_aload_n hx hb dX5_init_2778 rfl (lv_at hl 2 rfl) ?_
            refine hr_get S hE hW hI.1 inX5 (C := RX5) (T := TX5) (N := 28) rfl 6 (by decide) q_f_5_28 rfl dX5_init_2779 ?_
            refine lv_iconst (v := 1) hx hb dX5_init_2782 (by decide) ?_
            refine lv_iload_n hx hb dX5_init_2783 rfl (lv_at hl 0 rfl) ?_
            refine lv_iadd hx hb dX5_init_2784 ?_
            refine hr_ialdk S hE hW hI.2.2.2.2.2.2.2.1 (j := (1 + (i + 1))) (show (1 : Int32) + nI (i + 1) = nI (1 + (i + 1)) from nI_add 1 _) (by omega) (by decide) dX5_init_2785 ?_
            refine lv_ior hx hb dX5_init_2786 ?_
            refine hr_iastk S hE hW hS hI.2.2.2.2.2.2.2.2.1 (j := k) rfl hk (by decide) dX5_init_2787 (fun H locs ct_4 hW hk_5 hg_6 hz hS => ?_)
            have hI : IC G ad ct0 ct_4 (staT, parT, beaT, hasT, choT, aoT, upd (upd (akC k) k (akL k i)) k ((akL k i) ||| (aoT (1 + (i + 1))))) := IC_17 hI hk_5 hg_6
            refine lv_iinc (v := (nI (i + 1 + 1))) (lv' := [(2, .int (nI (i + 1 + 1))), (1, .int (nI k)), (0, .ref (ad 8))]) hx hb dX5_init_2788 hl (k := 0) rfl (nI_1 (i + 1)) (by decide) rfl (fun ls hl => ?_)
            refine lv_goto (tgt := 2749) hx hb dX5_init_2791 (by decide) ?_
            have hI : IC G ad ct0 ct_4 (staT, parT, beaT, hasT, choT, aoT, (upd (akC k) k (akL k (i + 1)))) := by rw [akL, if_neg c_2768]; rw [upd_upd] at hI; exact hI
            exact ih_loop2 (i + 1) _ _ _ _ (by omega) hI hW hS (lv_sub hl [0, 1, 2] rfl)
      exact loop2 5 0 _ _ _ _ (by omega) hI hW hS (lv_sub hl [0, 1, 2] rfl)
  exact loop 11 0 _ _ _ _ (by omega) hI hW hS (lv_sub hl [0, 1] rfl)
