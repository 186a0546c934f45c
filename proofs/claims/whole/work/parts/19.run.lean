/-! RUN: the machine goes through a body and leaves what runS says -/
def bodyNl : List Nat := [10, 11, 20, 21, 30, 40, 41, 50, 51, 52, 60, 61, 62, 63, 64, 70, 100, 101, 110, 111, 112, 120, 130, 131, 140, 141, 142, 150, 151, 152, 160, 161, 162, 163, 180, 181, 190, 200, 201, 202, 204]
def stN (b : Nat) : Nat := (staT b).toNatClampNeg
def vdT (kk a : Nat) : Bool := decide (0 ≤ choT ((10 + kk) * 12 + a))
def doB (kk a : Nat) : Nat := (choT ((10 + kk) * 12 + a)).toNatClampNeg
def callsT (b : Nat) : List (Nat × Nat) :=
  if b = 10 then [(0, 0)] else
  if b = 11 then [(0, 1), (0, 0)] else
  if b = 20 then [(0, 3), (0, 3)] else
  if b = 21 then [(0, 4)] else
  if b = 30 then [(1, 11), (1, 21)] else
  if b = 40 then [(0, 5)] else
  if b = 41 then [(0, 6), (0, 6)] else
  if b = 50 then [(1, 41), (0, 8)] else
  if b = 51 then [(1, 52), (0, 5)] else
  if b = 52 then [(0, 5)] else
  if b = 60 then [] else
  if b = 61 then [] else
  if b = 62 then [] else
  if b = 63 then [] else
  if b = 64 then [(0, 9), (0, 10), (1, 63)] else
  if b = 70 then [] else
  if b = 100 then [] else
  if b = 101 then [(1, 60)] else
  if b = 110 then [(1, 61), (1, 112)] else
  if b = 111 then [(1, 20)] else
  if b = 112 then [] else
  if b = 120 then [(0, 5)] else
  if b = 130 then [(1, 100)] else
  if b = 131 then [(1, 10)] else
  if b = 140 then [] else
  if b = 141 then [(1, 21), (1, 11)] else
  if b = 142 then [(1, 110)] else
  if b = 150 then [(0, 5)] else
  if b = 151 then [(1, 60), (0, 2)] else
  if b = 152 then [(1, 20)] else
  if b = 160 then [] else
  if b = 161 then [(1, 51)] else
  if b = 162 then [] else
  if b = 163 then [(1, 162), (1, 60)] else
  if b = 180 then [(1, 101)] else
  if b = 181 then [(1, 11), (0, 1)] else
  if b = 190 then [(0, 10)] else
  if b = 200 then [] else
  if b = 201 then [(1, 50), (1, 200)] else
  if b = 202 then [(1, 30), (1, 141)] else
  if b = 204 then [(1, 70)] else
  [(2, 0)]
theorem callsT_10 : callsT 10 = [(0, 0)] := rfl
theorem callsT_11 : callsT 11 = [(0, 1), (0, 0)] := rfl
theorem callsT_20 : callsT 20 = [(0, 3), (0, 3)] := rfl
theorem callsT_21 : callsT 21 = [(0, 4)] := rfl
theorem callsT_30 : callsT 30 = [(1, 11), (1, 21)] := rfl
theorem callsT_40 : callsT 40 = [(0, 5)] := rfl
theorem callsT_41 : callsT 41 = [(0, 6), (0, 6)] := rfl
theorem callsT_50 : callsT 50 = [(1, 41), (0, 8)] := rfl
theorem callsT_51 : callsT 51 = [(1, 52), (0, 5)] := rfl
theorem callsT_52 : callsT 52 = [(0, 5)] := rfl
theorem callsT_60 : callsT 60 = [] := rfl
theorem callsT_61 : callsT 61 = [] := rfl
theorem callsT_62 : callsT 62 = [] := rfl
theorem callsT_63 : callsT 63 = [] := rfl
theorem callsT_64 : callsT 64 = [(0, 9), (0, 10), (1, 63)] := rfl
theorem callsT_70 : callsT 70 = [] := rfl
theorem callsT_100 : callsT 100 = [] := rfl
theorem callsT_101 : callsT 101 = [(1, 60)] := rfl
theorem callsT_110 : callsT 110 = [(1, 61), (1, 112)] := rfl
theorem callsT_111 : callsT 111 = [(1, 20)] := rfl
theorem callsT_112 : callsT 112 = [] := rfl
theorem callsT_120 : callsT 120 = [(0, 5)] := rfl
theorem callsT_130 : callsT 130 = [(1, 100)] := rfl
theorem callsT_131 : callsT 131 = [(1, 10)] := rfl
theorem callsT_140 : callsT 140 = [] := rfl
theorem callsT_141 : callsT 141 = [(1, 21), (1, 11)] := rfl
theorem callsT_142 : callsT 142 = [(1, 110)] := rfl
theorem callsT_150 : callsT 150 = [(0, 5)] := rfl
theorem callsT_151 : callsT 151 = [(1, 60), (0, 2)] := rfl
theorem callsT_152 : callsT 152 = [(1, 20)] := rfl
theorem callsT_160 : callsT 160 = [] := rfl
theorem callsT_161 : callsT 161 = [(1, 51)] := rfl
theorem callsT_162 : callsT 162 = [] := rfl
theorem callsT_163 : callsT 163 = [(1, 162), (1, 60)] := rfl
theorem callsT_180 : callsT 180 = [(1, 101)] := rfl
theorem callsT_181 : callsT 181 = [(1, 11), (0, 1)] := rfl
theorem callsT_190 : callsT 190 = [(0, 10)] := rfl
theorem callsT_200 : callsT 200 = [] := rfl
theorem callsT_201 : callsT 201 = [(1, 50), (1, 200)] := rfl
theorem callsT_202 : callsT 202 = [(1, 30), (1, 141)] := rfl
theorem callsT_204 : callsT 204 = [(1, 70)] := rfl
def okM (kk : Nat) : Nat → Nat → Bool
  | 0, _ => false
  | n + 1, b => decide (b ∈ bodyNl) && (callsT b).all (fun c => if c.1 = 0 then vdT kk c.2 && okM kk n (doB kk c.2) else if c.1 = 1 then okM kk n c.2 else false)
theorem okM_0 (kk b : Nat) : okM kk 0 b = false := rfl
theorem okM_s (kk n b : Nat) : okM kk (n + 1) b = (decide (b ∈ bodyNl) && (callsT b).all (fun c => if c.1 = 0 then vdT kk c.2 && okM kk n (doB kk c.2) else if c.1 = 1 then okM kk n c.2 else false)) := rfl
theorem okM_mem {kk n b : Nat} (h : okM kk (n + 1) b = true) : b ∈ bodyNl := by
  rw [okM_s, Bool.and_eq_true, decide_eq_true_eq] at h
  exact h.1
set_option maxRecDepth 100000 in
theorem body_st : ∀ b ∈ bodyNl, b < 210 ∧ staT b = nI (stN b) := by decide +kernel
set_option maxRecDepth 100000 in
theorem do_val : ∀ kk, kk < 11 → ∀ a, a < 12 → vdT kk a = true → choT ((10 + kk) * 12 + a) = nI (doB kk a) ∧ doB kk a < 210 ∧ staT (doB kk a) = nI (stN (doB kk a)) ∧ selOfF selT (nI (7 + kk)) (nI a) = nI (doB kk a) := by decide +kernel
theorem bgS_b {q : St} {bb : Nat} (b : Int32) (h : q.2.2.1 = nI bb) : (bgS b q).2.2.1 = nI (bb + 1) := by
  show q.2.2.1 + 1 = nI (bb + 1)
  rw [h, nI_1]
def RunM (p : Program) (l : Launch) (e : Env) (s : State) (m : MethodId) (args : Array Value) (below : List Frame) (meth : Method) (c : Code) (Q : State → Prop) (G : hG) (ad : Nat → Nat) (ct0 : Nat → Option va_E) (dn lk st0 : Int32) (i : Nat) (vv cv : Nat → Int32) (kk n : Nat) : Prop :=
  ∀ b, okM kk n b = true → ∀ (x : Int32) (Fs : List (Nat × Nat × Int32)) (P : List Int32) (q : St) (bb : Nat), q.2.2.1 = nI bb → bb + cB n < 2 ^ 30 → Fs.length + n ≤ 99 → P.length + 3 * n ≤ 299 →
    HeadW p l e s m args below meth c Q G ad ct0 dn lk st0 i vv cv Fs ((runS n (nI (7 + kk)) (nI b) x q).1 :: P) (runS n (nI (7 + kk)) (nI b) x q).2 → HeadW p l e s m args below meth c Q G ad ct0 dn lk st0 i vv cv ((b, stN b, x) :: Fs) P (bgS (nI b) q)
set_option maxRecDepth 100000 in
set_option maxHeartbeats 4000000 in
theorem mrun_10 {p : Program} {l : Launch} {e : Env} {s : State} {m : MethodId} {args : Array Value} {below : List Frame} {meth : Method} {c : Code} {Q : State → Prop} {G : hG} {ad : Nat → Nat} {ct0 : Nat → Option va_E} {dn lk st0 : Int32} {i : Nat} {vv cv : Nat → Int32} {kdf : Nat → Int32} (S : CallFix p m c cX5_act 6 s args WS yX5_act.cls) (hE : gE G s) (hT : MTab G ct0 kdf) (hi : i < 300) {kk n : Nat} (hk11 : kk < 11) (hkk : kdf i = nI kk) (ih : RunM p l e s m args below meth c Q G ad ct0 dn lk st0 i vv cv kk n)
    (hok : okM kk (n + 1) 10 = true) (x : Int32) (Fs : List (Nat × Nat × Int32)) (P : List Int32) (q : St) (bb : Nat) (hq : q.2.2.1 = nI bb) (hbb : bb + cB (n + 1) < 2 ^ 30) (hF : Fs.length + (n + 1) ≤ 99) (hP : P.length + 3 * (n + 1) ≤ 299)
    (hfin : HeadW p l e s m args below meth c Q G ad ct0 dn lk st0 i vv cv Fs ((runS (n + 1) (nI (7 + kk)) (nI 10) x q).1 :: P) (runS (n + 1) (nI (7 + kk)) (nI 10) x q).2) : HeadW p l e s m args below meth c Q G ad ct0 dn lk st0 i vv cv ((10, stN 10, x) :: Fs) P (bgS (nI 10) q) := by
  rw [show cB (n + 1) = 1 + 3 * cB n from rfl] at hbb
  rw [okM_s, Bool.and_eq_true, callsT_10] at hok
  have hok2 := List.all_eq_true.mp hok.2
  have hx0 : (vdT kk 0 && okM kk n (doB kk 0)) = true := hok2 (0, 0) (by decide)
  rw [Bool.and_eq_true] at hx0
  have hv0 := hx0.1
  have ho0 := hx0.2
  have hfin2 := hfin
  rw [runS, if_neg (show ¬ nI 10 = 0 by decide), show bodyS (runS n (nI (7 + kk))) (nI (7 + kk)) (nI 10) x (bgS (nI 10) q) = _ from bodyS_10 _ _ _ _] at hfin2
  obtain ⟨hc0, hn0, hs0, hl0⟩ := do_val kk hk11 0 (by omega) hv0
  rw [show selOfF selT (nI (7 + kk)) 0 = nI (doB kk 0) from hl0] at hfin2
  rw [show stN 10 = 1 from (by decide +kernel)]
  have hq0 := bgS_b (nI 10) hq
  refine it_step S hE hT (by omega) (show 1 < 246 by omega) (o := 1000) (by decide +kernel) (by omega) (P2 := x :: P) (q2 := (bgS (nI 10) q)) (fun ct hM => c_X5_step_x l G ad ct hM (by (try simp only [List.length_cons]); omega) x) ?_
  refine it_do S hE hT (by omega) (show 2 < 246 by omega) hq0 (show (bb + 1) < 2 ^ 30 by omega) hn0 hs0 (by omega) (by (try simp only [List.length_cons]); omega) (by omega) hi hkk hk11 hc0 (by decide +kernel) ?_
  refine ih (doB kk 0) ho0 x _ (P) ((bgS (nI 10) q)) (bb + 1) hq0 (by omega) (by (try simp only [List.length_cons]); omega) (by (try simp only [List.length_cons]); omega) ?_
  obtain ⟨b1, hq1, hlo1, hhi1⟩ := gr_run (nI (7 + kk)) n (nI (doB kk 0)) x ((bgS (nI 10) q)) (bb + 1) hq0
  refine it_step S hE hT (by omega) (show 3 < 246 by omega) (o := 1) (by decide +kernel) (by omega) (P2 := 1 :: ((runS n (nI (7 + kk)) (nI (doB kk 0)) x ((bgS (nI 10) q))).1) :: P) (q2 := (runS n (nI (7 + kk)) (nI (doB kk 0)) x ((bgS (nI 10) q))).2) (fun ct hM => c_X5_step_c l G ad ct hM (o := 1) (by omega) (by (try simp only [List.length_cons]); omega) x) ?_
  refine it_step S hE hT (by omega) (show 4 < 246 by omega) (o := 1003) (by decide +kernel) (by omega) (P2 := (((runS n (nI (7 + kk)) (nI (doB kk 0)) x ((bgS (nI 10) q))).1) + 1) :: P) (q2 := (runS n (nI (7 + kk)) (nI (doB kk 0)) x ((bgS (nI 10) q))).2) (fun ct hM => c_X5_step_p l G ad ct hM (by (try simp only [List.length_cons]); omega) x) ?_
  refine it_end S hE hT (by omega) (show 5 < 246 by omega) (o := 3011) (by decide +kernel) (by omega) ?_
  exact hfin2
set_option maxRecDepth 100000 in
set_option maxHeartbeats 4000000 in
theorem mrun_11 {p : Program} {l : Launch} {e : Env} {s : State} {m : MethodId} {args : Array Value} {below : List Frame} {meth : Method} {c : Code} {Q : State → Prop} {G : hG} {ad : Nat → Nat} {ct0 : Nat → Option va_E} {dn lk st0 : Int32} {i : Nat} {vv cv : Nat → Int32} {kdf : Nat → Int32} (S : CallFix p m c cX5_act 6 s args WS yX5_act.cls) (hE : gE G s) (hT : MTab G ct0 kdf) (hi : i < 300) {kk n : Nat} (hk11 : kk < 11) (hkk : kdf i = nI kk) (ih : RunM p l e s m args below meth c Q G ad ct0 dn lk st0 i vv cv kk n)
    (hok : okM kk (n + 1) 11 = true) (x : Int32) (Fs : List (Nat × Nat × Int32)) (P : List Int32) (q : St) (bb : Nat) (hq : q.2.2.1 = nI bb) (hbb : bb + cB (n + 1) < 2 ^ 30) (hF : Fs.length + (n + 1) ≤ 99) (hP : P.length + 3 * (n + 1) ≤ 299)
    (hfin : HeadW p l e s m args below meth c Q G ad ct0 dn lk st0 i vv cv Fs ((runS (n + 1) (nI (7 + kk)) (nI 11) x q).1 :: P) (runS (n + 1) (nI (7 + kk)) (nI 11) x q).2) : HeadW p l e s m args below meth c Q G ad ct0 dn lk st0 i vv cv ((11, stN 11, x) :: Fs) P (bgS (nI 11) q) := by
  rw [show cB (n + 1) = 1 + 3 * cB n from rfl] at hbb
  rw [okM_s, Bool.and_eq_true, callsT_11] at hok
  have hok2 := List.all_eq_true.mp hok.2
  have hx0 : (vdT kk 1 && okM kk n (doB kk 1)) = true := hok2 (0, 1) (by decide)
  rw [Bool.and_eq_true] at hx0
  have hv0 := hx0.1
  have ho0 := hx0.2
  have hx1 : (vdT kk 0 && okM kk n (doB kk 0)) = true := hok2 (0, 0) (by decide)
  rw [Bool.and_eq_true] at hx1
  have hv1 := hx1.1
  have ho1 := hx1.2
  have hfin2 := hfin
  rw [runS, if_neg (show ¬ nI 11 = 0 by decide), show bodyS (runS n (nI (7 + kk))) (nI (7 + kk)) (nI 11) x (bgS (nI 11) q) = _ from bodyS_11 _ _ _ _] at hfin2
  obtain ⟨hc0, hn0, hs0, hl0⟩ := do_val kk hk11 1 (by omega) hv0
  obtain ⟨hc1, hn1, hs1, hl1⟩ := do_val kk hk11 0 (by omega) hv1
  rw [show selOfF selT (nI (7 + kk)) 1 = nI (doB kk 1) from hl0] at hfin2
  rw [show selOfF selT (nI (7 + kk)) 0 = nI (doB kk 0) from hl1] at hfin2
  rw [show stN 11 = 6 from (by decide +kernel)]
  have hq0 := bgS_b (nI 11) hq
  refine it_step S hE hT (by omega) (show 6 < 246 by omega) (o := 1000) (by decide +kernel) (by omega) (P2 := x :: P) (q2 := (bgS (nI 11) q)) (fun ct hM => c_X5_step_x l G ad ct hM (by (try simp only [List.length_cons]); omega) x) ?_
  refine it_do S hE hT (by omega) (show 7 < 246 by omega) hq0 (show (bb + 1) < 2 ^ 30 by omega) hn0 hs0 (by omega) (by (try simp only [List.length_cons]); omega) (by omega) hi hkk hk11 hc0 (by decide +kernel) ?_
  refine ih (doB kk 1) ho0 x _ (P) ((bgS (nI 11) q)) (bb + 1) hq0 (by omega) (by (try simp only [List.length_cons]); omega) (by (try simp only [List.length_cons]); omega) ?_
  obtain ⟨b1, hq1, hlo1, hhi1⟩ := gr_run (nI (7 + kk)) n (nI (doB kk 1)) x ((bgS (nI 11) q)) (bb + 1) hq0
  refine it_step S hE hT (by omega) (show 8 < 246 by omega) (o := 3) (by decide +kernel) (by omega) (P2 := 3 :: ((runS n (nI (7 + kk)) (nI (doB kk 1)) x ((bgS (nI 11) q))).1) :: P) (q2 := (runS n (nI (7 + kk)) (nI (doB kk 1)) x ((bgS (nI 11) q))).2) (fun ct hM => c_X5_step_c l G ad ct hM (o := 3) (by omega) (by (try simp only [List.length_cons]); omega) x) ?_
  refine it_step S hE hT (by omega) (show 9 < 246 by omega) (o := 1005) (by decide +kernel) (by omega) (P2 := (((runS n (nI (7 + kk)) (nI (doB kk 1)) x ((bgS (nI 11) q))).1) * 3) :: P) (q2 := (runS n (nI (7 + kk)) (nI (doB kk 1)) x ((bgS (nI 11) q))).2) (fun ct hM => c_X5_step_t l G ad ct hM (by (try simp only [List.length_cons]); omega) x) ?_
  refine it_step S hE hT (by omega) (show 10 < 246 by omega) (o := 1000) (by decide +kernel) (by omega) (P2 := x :: (((runS n (nI (7 + kk)) (nI (doB kk 1)) x ((bgS (nI 11) q))).1) * 3) :: P) (q2 := (runS n (nI (7 + kk)) (nI (doB kk 1)) x ((bgS (nI 11) q))).2) (fun ct hM => c_X5_step_x l G ad ct hM (by (try simp only [List.length_cons]); omega) x) ?_
  refine it_step S hE hT (by omega) (show 11 < 246 by omega) (o := 1) (by decide +kernel) (by omega) (P2 := 1 :: x :: (((runS n (nI (7 + kk)) (nI (doB kk 1)) x ((bgS (nI 11) q))).1) * 3) :: P) (q2 := (runS n (nI (7 + kk)) (nI (doB kk 1)) x ((bgS (nI 11) q))).2) (fun ct hM => c_X5_step_c l G ad ct hM (o := 1) (by omega) (by (try simp only [List.length_cons]); omega) x) ?_
  refine it_step S hE hT (by omega) (show 12 < 246 by omega) (o := 1003) (by decide +kernel) (by omega) (P2 := (x + 1) :: (((runS n (nI (7 + kk)) (nI (doB kk 1)) x ((bgS (nI 11) q))).1) * 3) :: P) (q2 := (runS n (nI (7 + kk)) (nI (doB kk 1)) x ((bgS (nI 11) q))).2) (fun ct hM => c_X5_step_p l G ad ct hM (by (try simp only [List.length_cons]); omega) x) ?_
  refine it_do S hE hT (by omega) (show 13 < 246 by omega) hq1 (show b1 < 2 ^ 30 by omega) hn1 hs1 (by omega) (by (try simp only [List.length_cons]); omega) (by omega) hi hkk hk11 hc1 (by decide +kernel) ?_
  refine ih (doB kk 0) ho1 (x + 1) _ ((((runS n (nI (7 + kk)) (nI (doB kk 1)) x ((bgS (nI 11) q))).1) * 3) :: P) ((runS n (nI (7 + kk)) (nI (doB kk 1)) x ((bgS (nI 11) q))).2) b1 hq1 (by omega) (by (try simp only [List.length_cons]); omega) (by (try simp only [List.length_cons]); omega) ?_
  obtain ⟨b2, hq2, hlo2, hhi2⟩ := gr_run (nI (7 + kk)) n (nI (doB kk 0)) (x + 1) ((runS n (nI (7 + kk)) (nI (doB kk 1)) x ((bgS (nI 11) q))).2) b1 hq1
  refine it_step S hE hT (by omega) (show 14 < 246 by omega) (o := 1004) (by decide +kernel) (by omega) (P2 := ((((runS n (nI (7 + kk)) (nI (doB kk 1)) x ((bgS (nI 11) q))).1) * 3) - ((runS n (nI (7 + kk)) (nI (doB kk 0)) (x + 1) ((runS n (nI (7 + kk)) (nI (doB kk 1)) x ((bgS (nI 11) q))).2)).1)) :: P) (q2 := (runS n (nI (7 + kk)) (nI (doB kk 0)) (x + 1) ((runS n (nI (7 + kk)) (nI (doB kk 1)) x ((bgS (nI 11) q))).2)).2) (fun ct hM => c_X5_step_l l G ad ct hM (by (try simp only [List.length_cons]); omega) x) ?_
  refine it_end S hE hT (by omega) (show 15 < 246 by omega) (o := 3020) (by decide +kernel) (by omega) ?_
  exact hfin2
set_option maxRecDepth 100000 in
set_option maxHeartbeats 4000000 in
theorem mrun_20 {p : Program} {l : Launch} {e : Env} {s : State} {m : MethodId} {args : Array Value} {below : List Frame} {meth : Method} {c : Code} {Q : State → Prop} {G : hG} {ad : Nat → Nat} {ct0 : Nat → Option va_E} {dn lk st0 : Int32} {i : Nat} {vv cv : Nat → Int32} {kdf : Nat → Int32} (S : CallFix p m c cX5_act 6 s args WS yX5_act.cls) (hE : gE G s) (hT : MTab G ct0 kdf) (hi : i < 300) {kk n : Nat} (hk11 : kk < 11) (hkk : kdf i = nI kk) (ih : RunM p l e s m args below meth c Q G ad ct0 dn lk st0 i vv cv kk n)
    (hok : okM kk (n + 1) 20 = true) (x : Int32) (Fs : List (Nat × Nat × Int32)) (P : List Int32) (q : St) (bb : Nat) (hq : q.2.2.1 = nI bb) (hbb : bb + cB (n + 1) < 2 ^ 30) (hF : Fs.length + (n + 1) ≤ 99) (hP : P.length + 3 * (n + 1) ≤ 299)
    (hfin : HeadW p l e s m args below meth c Q G ad ct0 dn lk st0 i vv cv Fs ((runS (n + 1) (nI (7 + kk)) (nI 20) x q).1 :: P) (runS (n + 1) (nI (7 + kk)) (nI 20) x q).2) : HeadW p l e s m args below meth c Q G ad ct0 dn lk st0 i vv cv ((20, stN 20, x) :: Fs) P (bgS (nI 20) q) := by
  rw [show cB (n + 1) = 1 + 3 * cB n from rfl] at hbb
  rw [okM_s, Bool.and_eq_true, callsT_20] at hok
  have hok2 := List.all_eq_true.mp hok.2
  have hx0 : (vdT kk 3 && okM kk n (doB kk 3)) = true := hok2 (0, 3) (by decide)
  rw [Bool.and_eq_true] at hx0
  have hv0 := hx0.1
  have ho0 := hx0.2
  have hx1 : (vdT kk 3 && okM kk n (doB kk 3)) = true := hok2 (0, 3) (by decide)
  rw [Bool.and_eq_true] at hx1
  have hv1 := hx1.1
  have ho1 := hx1.2
  have hfin2 := hfin
  rw [runS, if_neg (show ¬ nI 20 = 0 by decide), show bodyS (runS n (nI (7 + kk))) (nI (7 + kk)) (nI 20) x (bgS (nI 20) q) = _ from bodyS_20 _ _ _ _] at hfin2
  obtain ⟨hc0, hn0, hs0, hl0⟩ := do_val kk hk11 3 (by omega) hv0
  obtain ⟨hc1, hn1, hs1, hl1⟩ := do_val kk hk11 3 (by omega) hv1
  rw [show selOfF selT (nI (7 + kk)) 3 = nI (doB kk 3) from hl0] at hfin2
  rw [show stN 20 = 16 from (by decide +kernel)]
  have hq0 := bgS_b (nI 20) hq
  refine it_step S hE hT (by omega) (show 16 < 246 by omega) (o := 1000) (by decide +kernel) (by omega) (P2 := x :: P) (q2 := (bgS (nI 20) q)) (fun ct hM => c_X5_step_x l G ad ct hM (by (try simp only [List.length_cons]); omega) x) ?_
  refine it_do S hE hT (by omega) (show 17 < 246 by omega) hq0 (show (bb + 1) < 2 ^ 30 by omega) hn0 hs0 (by omega) (by (try simp only [List.length_cons]); omega) (by omega) hi hkk hk11 hc0 (by decide +kernel) ?_
  refine ih (doB kk 3) ho0 x _ (P) ((bgS (nI 20) q)) (bb + 1) hq0 (by omega) (by (try simp only [List.length_cons]); omega) (by (try simp only [List.length_cons]); omega) ?_
  obtain ⟨b1, hq1, hlo1, hhi1⟩ := gr_run (nI (7 + kk)) n (nI (doB kk 3)) x ((bgS (nI 20) q)) (bb + 1) hq0
  refine it_step S hE hT (by omega) (show 18 < 246 by omega) (o := 1000) (by decide +kernel) (by omega) (P2 := x :: ((runS n (nI (7 + kk)) (nI (doB kk 3)) x ((bgS (nI 20) q))).1) :: P) (q2 := (runS n (nI (7 + kk)) (nI (doB kk 3)) x ((bgS (nI 20) q))).2) (fun ct hM => c_X5_step_x l G ad ct hM (by (try simp only [List.length_cons]); omega) x) ?_
  refine it_step S hE hT (by omega) (show 19 < 246 by omega) (o := 1) (by decide +kernel) (by omega) (P2 := 1 :: x :: ((runS n (nI (7 + kk)) (nI (doB kk 3)) x ((bgS (nI 20) q))).1) :: P) (q2 := (runS n (nI (7 + kk)) (nI (doB kk 3)) x ((bgS (nI 20) q))).2) (fun ct hM => c_X5_step_c l G ad ct hM (o := 1) (by omega) (by (try simp only [List.length_cons]); omega) x) ?_
  refine it_step S hE hT (by omega) (show 20 < 246 by omega) (o := 1003) (by decide +kernel) (by omega) (P2 := (x + 1) :: ((runS n (nI (7 + kk)) (nI (doB kk 3)) x ((bgS (nI 20) q))).1) :: P) (q2 := (runS n (nI (7 + kk)) (nI (doB kk 3)) x ((bgS (nI 20) q))).2) (fun ct hM => c_X5_step_p l G ad ct hM (by (try simp only [List.length_cons]); omega) x) ?_
  refine it_do S hE hT (by omega) (show 21 < 246 by omega) hq1 (show b1 < 2 ^ 30 by omega) hn1 hs1 (by omega) (by (try simp only [List.length_cons]); omega) (by omega) hi hkk hk11 hc1 (by decide +kernel) ?_
  refine ih (doB kk 3) ho1 (x + 1) _ (((runS n (nI (7 + kk)) (nI (doB kk 3)) x ((bgS (nI 20) q))).1) :: P) ((runS n (nI (7 + kk)) (nI (doB kk 3)) x ((bgS (nI 20) q))).2) b1 hq1 (by omega) (by (try simp only [List.length_cons]); omega) (by (try simp only [List.length_cons]); omega) ?_
  obtain ⟨b2, hq2, hlo2, hhi2⟩ := gr_run (nI (7 + kk)) n (nI (doB kk 3)) (x + 1) ((runS n (nI (7 + kk)) (nI (doB kk 3)) x ((bgS (nI 20) q))).2) b1 hq1
  refine it_step S hE hT (by omega) (show 22 < 246 by omega) (o := 1003) (by decide +kernel) (by omega) (P2 := (((runS n (nI (7 + kk)) (nI (doB kk 3)) x ((bgS (nI 20) q))).1) + ((runS n (nI (7 + kk)) (nI (doB kk 3)) (x + 1) ((runS n (nI (7 + kk)) (nI (doB kk 3)) x ((bgS (nI 20) q))).2)).1)) :: P) (q2 := (runS n (nI (7 + kk)) (nI (doB kk 3)) (x + 1) ((runS n (nI (7 + kk)) (nI (doB kk 3)) x ((bgS (nI 20) q))).2)).2) (fun ct hM => c_X5_step_p l G ad ct hM (by (try simp only [List.length_cons]); omega) x) ?_
  refine it_end S hE hT (by omega) (show 23 < 246 by omega) (o := 3021) (by decide +kernel) (by omega) ?_
  exact hfin2
set_option maxRecDepth 100000 in
set_option maxHeartbeats 4000000 in
theorem mrun_21 {p : Program} {l : Launch} {e : Env} {s : State} {m : MethodId} {args : Array Value} {below : List Frame} {meth : Method} {c : Code} {Q : State → Prop} {G : hG} {ad : Nat → Nat} {ct0 : Nat → Option va_E} {dn lk st0 : Int32} {i : Nat} {vv cv : Nat → Int32} {kdf : Nat → Int32} (S : CallFix p m c cX5_act 6 s args WS yX5_act.cls) (hE : gE G s) (hT : MTab G ct0 kdf) (hi : i < 300) {kk n : Nat} (hk11 : kk < 11) (hkk : kdf i = nI kk) (ih : RunM p l e s m args below meth c Q G ad ct0 dn lk st0 i vv cv kk n)
    (hok : okM kk (n + 1) 21 = true) (x : Int32) (Fs : List (Nat × Nat × Int32)) (P : List Int32) (q : St) (bb : Nat) (hq : q.2.2.1 = nI bb) (hbb : bb + cB (n + 1) < 2 ^ 30) (hF : Fs.length + (n + 1) ≤ 99) (hP : P.length + 3 * (n + 1) ≤ 299)
    (hfin : HeadW p l e s m args below meth c Q G ad ct0 dn lk st0 i vv cv Fs ((runS (n + 1) (nI (7 + kk)) (nI 21) x q).1 :: P) (runS (n + 1) (nI (7 + kk)) (nI 21) x q).2) : HeadW p l e s m args below meth c Q G ad ct0 dn lk st0 i vv cv ((21, stN 21, x) :: Fs) P (bgS (nI 21) q) := by
  rw [show cB (n + 1) = 1 + 3 * cB n from rfl] at hbb
  rw [okM_s, Bool.and_eq_true, callsT_21] at hok
  have hok2 := List.all_eq_true.mp hok.2
  have hx0 : (vdT kk 4 && okM kk n (doB kk 4)) = true := hok2 (0, 4) (by decide)
  rw [Bool.and_eq_true] at hx0
  have hv0 := hx0.1
  have ho0 := hx0.2
  have hfin2 := hfin
  rw [runS, if_neg (show ¬ nI 21 = 0 by decide), show bodyS (runS n (nI (7 + kk))) (nI (7 + kk)) (nI 21) x (bgS (nI 21) q) = _ from bodyS_21 _ _ _ _] at hfin2
  obtain ⟨hc0, hn0, hs0, hl0⟩ := do_val kk hk11 4 (by omega) hv0
  rw [show selOfF selT (nI (7 + kk)) 4 = nI (doB kk 4) from hl0] at hfin2
  rw [show stN 21 = 24 from (by decide +kernel)]
  have hq0 := bgS_b (nI 21) hq
  refine it_step S hE hT (by omega) (show 24 < 246 by omega) (o := 1000) (by decide +kernel) (by omega) (P2 := x :: P) (q2 := (bgS (nI 21) q)) (fun ct hM => c_X5_step_x l G ad ct hM (by (try simp only [List.length_cons]); omega) x) ?_
  refine it_do S hE hT (by omega) (show 25 < 246 by omega) hq0 (show (bb + 1) < 2 ^ 30 by omega) hn0 hs0 (by omega) (by (try simp only [List.length_cons]); omega) (by omega) hi hkk hk11 hc0 (by decide +kernel) ?_
  refine ih (doB kk 4) ho0 x _ (P) ((bgS (nI 21) q)) (bb + 1) hq0 (by omega) (by (try simp only [List.length_cons]); omega) (by (try simp only [List.length_cons]); omega) ?_
  obtain ⟨b1, hq1, hlo1, hhi1⟩ := gr_run (nI (7 + kk)) n (nI (doB kk 4)) x ((bgS (nI 21) q)) (bb + 1) hq0
  refine it_step S hE hT (by omega) (show 26 < 246 by omega) (o := 85) (by decide +kernel) (by omega) (P2 := 85 :: ((runS n (nI (7 + kk)) (nI (doB kk 4)) x ((bgS (nI 21) q))).1) :: P) (q2 := (runS n (nI (7 + kk)) (nI (doB kk 4)) x ((bgS (nI 21) q))).2) (fun ct hM => c_X5_step_c l G ad ct hM (o := 85) (by omega) (by (try simp only [List.length_cons]); omega) x) ?_
  refine it_step S hE hT (by omega) (show 27 < 246 by omega) (o := 1006) (by decide +kernel) (by omega) (P2 := (((runS n (nI (7 + kk)) (nI (doB kk 4)) x ((bgS (nI 21) q))).1) ^^^ 85) :: P) (q2 := (runS n (nI (7 + kk)) (nI (doB kk 4)) x ((bgS (nI 21) q))).2) (fun ct hM => c_X5_step_o l G ad ct hM (by (try simp only [List.length_cons]); omega) x) ?_
  refine it_end S hE hT (by omega) (show 28 < 246 by omega) (o := 3030) (by decide +kernel) (by omega) ?_
  exact hfin2
set_option maxRecDepth 100000 in
set_option maxHeartbeats 4000000 in
theorem mrun_30 {p : Program} {l : Launch} {e : Env} {s : State} {m : MethodId} {args : Array Value} {below : List Frame} {meth : Method} {c : Code} {Q : State → Prop} {G : hG} {ad : Nat → Nat} {ct0 : Nat → Option va_E} {dn lk st0 : Int32} {i : Nat} {vv cv : Nat → Int32} {kdf : Nat → Int32} (S : CallFix p m c cX5_act 6 s args WS yX5_act.cls) (hE : gE G s) (hT : MTab G ct0 kdf) (hi : i < 300) {kk n : Nat} (hk11 : kk < 11) (hkk : kdf i = nI kk) (ih : RunM p l e s m args below meth c Q G ad ct0 dn lk st0 i vv cv kk n)
    (hok : okM kk (n + 1) 30 = true) (x : Int32) (Fs : List (Nat × Nat × Int32)) (P : List Int32) (q : St) (bb : Nat) (hq : q.2.2.1 = nI bb) (hbb : bb + cB (n + 1) < 2 ^ 30) (hF : Fs.length + (n + 1) ≤ 99) (hP : P.length + 3 * (n + 1) ≤ 299)
    (hfin : HeadW p l e s m args below meth c Q G ad ct0 dn lk st0 i vv cv Fs ((runS (n + 1) (nI (7 + kk)) (nI 30) x q).1 :: P) (runS (n + 1) (nI (7 + kk)) (nI 30) x q).2) : HeadW p l e s m args below meth c Q G ad ct0 dn lk st0 i vv cv ((30, stN 30, x) :: Fs) P (bgS (nI 30) q) := by
  rw [show cB (n + 1) = 1 + 3 * cB n from rfl] at hbb
  rw [okM_s, Bool.and_eq_true, callsT_30] at hok
  have hok2 := List.all_eq_true.mp hok.2
  have ho0 : okM kk n 11 = true := hok2 (1, 11) (by decide)
  have ho1 : okM kk n 21 = true := hok2 (1, 21) (by decide)
  have hfin2 := hfin
  rw [runS, if_neg (show ¬ nI 30 = 0 by decide), show bodyS (runS n (nI (7 + kk))) (nI (7 + kk)) (nI 30) x (bgS (nI 30) q) = _ from bodyS_30 _ _ _ _] at hfin2
  rw [show selOfF selT 2 2 = nI 11 from (by decide +kernel)] at hfin2
  rw [show selOfF selT 3 2 = nI 21 from (by decide +kernel)] at hfin2
  rw [show stN 30 = 29 from (by decide +kernel)]
  have hq0 := bgS_b (nI 30) hq
  refine it_step S hE hT (by omega) (show 29 < 246 by omega) (o := 1000) (by decide +kernel) (by omega) (P2 := x :: P) (q2 := (bgS (nI 30) q)) (fun ct hM => c_X5_step_x l G ad ct hM (by (try simp only [List.length_cons]); omega) x) ?_
  refine it_of S hE hT (by omega) (show 30 < 246 by omega) hq0 (show (bb + 1) < 2 ^ 30 by omega) (by omega) (body_st 11 (by decide)).2 (by omega) (by (try simp only [List.length_cons]); omega) (k0 := 2) (by omega) (by decide +kernel) (by decide +kernel) ?_
  refine ih 11 ho0 x _ (P) ((bgS (nI 30) q)) (bb + 1) hq0 (by omega) (by (try simp only [List.length_cons]); omega) (by (try simp only [List.length_cons]); omega) ?_
  obtain ⟨b1, hq1, hlo1, hhi1⟩ := gr_run (nI (7 + kk)) n (nI 11) x ((bgS (nI 30) q)) (bb + 1) hq0
  refine it_step S hE hT (by omega) (show 31 < 246 by omega) (o := 1000) (by decide +kernel) (by omega) (P2 := x :: ((runS n (nI (7 + kk)) (nI 11) x ((bgS (nI 30) q))).1) :: P) (q2 := (runS n (nI (7 + kk)) (nI 11) x ((bgS (nI 30) q))).2) (fun ct hM => c_X5_step_x l G ad ct hM (by (try simp only [List.length_cons]); omega) x) ?_
  refine it_step S hE hT (by omega) (show 32 < 246 by omega) (o := 1) (by decide +kernel) (by omega) (P2 := 1 :: x :: ((runS n (nI (7 + kk)) (nI 11) x ((bgS (nI 30) q))).1) :: P) (q2 := (runS n (nI (7 + kk)) (nI 11) x ((bgS (nI 30) q))).2) (fun ct hM => c_X5_step_c l G ad ct hM (o := 1) (by omega) (by (try simp only [List.length_cons]); omega) x) ?_
  refine it_step S hE hT (by omega) (show 33 < 246 by omega) (o := 1003) (by decide +kernel) (by omega) (P2 := (x + 1) :: ((runS n (nI (7 + kk)) (nI 11) x ((bgS (nI 30) q))).1) :: P) (q2 := (runS n (nI (7 + kk)) (nI 11) x ((bgS (nI 30) q))).2) (fun ct hM => c_X5_step_p l G ad ct hM (by (try simp only [List.length_cons]); omega) x) ?_
  refine it_of S hE hT (by omega) (show 34 < 246 by omega) hq1 (show b1 < 2 ^ 30 by omega) (by omega) (body_st 21 (by decide)).2 (by omega) (by (try simp only [List.length_cons]); omega) (k0 := 14) (by omega) (by decide +kernel) (by decide +kernel) ?_
  refine ih 21 ho1 (x + 1) _ (((runS n (nI (7 + kk)) (nI 11) x ((bgS (nI 30) q))).1) :: P) ((runS n (nI (7 + kk)) (nI 11) x ((bgS (nI 30) q))).2) b1 hq1 (by omega) (by (try simp only [List.length_cons]); omega) (by (try simp only [List.length_cons]); omega) ?_
  obtain ⟨b2, hq2, hlo2, hhi2⟩ := gr_run (nI (7 + kk)) n (nI 21) (x + 1) ((runS n (nI (7 + kk)) (nI 11) x ((bgS (nI 30) q))).2) b1 hq1
  refine it_step S hE hT (by omega) (show 35 < 246 by omega) (o := 1003) (by decide +kernel) (by omega) (P2 := (((runS n (nI (7 + kk)) (nI 11) x ((bgS (nI 30) q))).1) + ((runS n (nI (7 + kk)) (nI 21) (x + 1) ((runS n (nI (7 + kk)) (nI 11) x ((bgS (nI 30) q))).2)).1)) :: P) (q2 := (runS n (nI (7 + kk)) (nI 21) (x + 1) ((runS n (nI (7 + kk)) (nI 11) x ((bgS (nI 30) q))).2)).2) (fun ct hM => c_X5_step_p l G ad ct hM (by (try simp only [List.length_cons]); omega) x) ?_
  refine it_end S hE hT (by omega) (show 36 < 246 by omega) (o := 3040) (by decide +kernel) (by omega) ?_
  exact hfin2
set_option maxRecDepth 100000 in
set_option maxHeartbeats 4000000 in
theorem mrun_40 {p : Program} {l : Launch} {e : Env} {s : State} {m : MethodId} {args : Array Value} {below : List Frame} {meth : Method} {c : Code} {Q : State → Prop} {G : hG} {ad : Nat → Nat} {ct0 : Nat → Option va_E} {dn lk st0 : Int32} {i : Nat} {vv cv : Nat → Int32} {kdf : Nat → Int32} (S : CallFix p m c cX5_act 6 s args WS yX5_act.cls) (hE : gE G s) (hT : MTab G ct0 kdf) (hi : i < 300) {kk n : Nat} (hk11 : kk < 11) (hkk : kdf i = nI kk) (ih : RunM p l e s m args below meth c Q G ad ct0 dn lk st0 i vv cv kk n)
    (hok : okM kk (n + 1) 40 = true) (x : Int32) (Fs : List (Nat × Nat × Int32)) (P : List Int32) (q : St) (bb : Nat) (hq : q.2.2.1 = nI bb) (hbb : bb + cB (n + 1) < 2 ^ 30) (hF : Fs.length + (n + 1) ≤ 99) (hP : P.length + 3 * (n + 1) ≤ 299)
    (hfin : HeadW p l e s m args below meth c Q G ad ct0 dn lk st0 i vv cv Fs ((runS (n + 1) (nI (7 + kk)) (nI 40) x q).1 :: P) (runS (n + 1) (nI (7 + kk)) (nI 40) x q).2) : HeadW p l e s m args below meth c Q G ad ct0 dn lk st0 i vv cv ((40, stN 40, x) :: Fs) P (bgS (nI 40) q) := by
  rw [show cB (n + 1) = 1 + 3 * cB n from rfl] at hbb
  rw [okM_s, Bool.and_eq_true, callsT_40] at hok
  have hok2 := List.all_eq_true.mp hok.2
  have hx0 : (vdT kk 5 && okM kk n (doB kk 5)) = true := hok2 (0, 5) (by decide)
  rw [Bool.and_eq_true] at hx0
  have hv0 := hx0.1
  have ho0 := hx0.2
  have hfin2 := hfin
  rw [runS, if_neg (show ¬ nI 40 = 0 by decide), show bodyS (runS n (nI (7 + kk))) (nI (7 + kk)) (nI 40) x (bgS (nI 40) q) = _ from bodyS_40 _ _ _ _] at hfin2
  obtain ⟨hc0, hn0, hs0, hl0⟩ := do_val kk hk11 5 (by omega) hv0
  rw [show selOfF selT (nI (7 + kk)) 5 = nI (doB kk 5) from hl0] at hfin2
  rw [show stN 40 = 37 from (by decide +kernel)]
  have hq0 := bgS_b (nI 40) hq
  refine it_step S hE hT (by omega) (show 37 < 246 by omega) (o := 1000) (by decide +kernel) (by omega) (P2 := x :: P) (q2 := (bgS (nI 40) q)) (fun ct hM => c_X5_step_x l G ad ct hM (by (try simp only [List.length_cons]); omega) x) ?_
  refine it_do S hE hT (by omega) (show 38 < 246 by omega) hq0 (show (bb + 1) < 2 ^ 30 by omega) hn0 hs0 (by omega) (by (try simp only [List.length_cons]); omega) (by omega) hi hkk hk11 hc0 (by decide +kernel) ?_
  refine ih (doB kk 5) ho0 x _ (P) ((bgS (nI 40) q)) (bb + 1) hq0 (by omega) (by (try simp only [List.length_cons]); omega) (by (try simp only [List.length_cons]); omega) ?_
  obtain ⟨b1, hq1, hlo1, hhi1⟩ := gr_run (nI (7 + kk)) n (nI (doB kk 5)) x ((bgS (nI 40) q)) (bb + 1) hq0
  refine it_step S hE hT (by omega) (show 39 < 246 by omega) (o := 1000) (by decide +kernel) (by omega) (P2 := x :: ((runS n (nI (7 + kk)) (nI (doB kk 5)) x ((bgS (nI 40) q))).1) :: P) (q2 := (runS n (nI (7 + kk)) (nI (doB kk 5)) x ((bgS (nI 40) q))).2) (fun ct hM => c_X5_step_x l G ad ct hM (by (try simp only [List.length_cons]); omega) x) ?_
  refine it_step S hE hT (by omega) (show 40 < 246 by omega) (o := 1003) (by decide +kernel) (by omega) (P2 := (((runS n (nI (7 + kk)) (nI (doB kk 5)) x ((bgS (nI 40) q))).1) + x) :: P) (q2 := (runS n (nI (7 + kk)) (nI (doB kk 5)) x ((bgS (nI 40) q))).2) (fun ct hM => c_X5_step_p l G ad ct hM (by (try simp only [List.length_cons]); omega) x) ?_
  refine it_end S hE hT (by omega) (show 41 < 246 by omega) (o := 3041) (by decide +kernel) (by omega) ?_
  exact hfin2
set_option maxRecDepth 100000 in
set_option maxHeartbeats 4000000 in
theorem mrun_41 {p : Program} {l : Launch} {e : Env} {s : State} {m : MethodId} {args : Array Value} {below : List Frame} {meth : Method} {c : Code} {Q : State → Prop} {G : hG} {ad : Nat → Nat} {ct0 : Nat → Option va_E} {dn lk st0 : Int32} {i : Nat} {vv cv : Nat → Int32} {kdf : Nat → Int32} (S : CallFix p m c cX5_act 6 s args WS yX5_act.cls) (hE : gE G s) (hT : MTab G ct0 kdf) (hi : i < 300) {kk n : Nat} (hk11 : kk < 11) (hkk : kdf i = nI kk) (ih : RunM p l e s m args below meth c Q G ad ct0 dn lk st0 i vv cv kk n)
    (hok : okM kk (n + 1) 41 = true) (x : Int32) (Fs : List (Nat × Nat × Int32)) (P : List Int32) (q : St) (bb : Nat) (hq : q.2.2.1 = nI bb) (hbb : bb + cB (n + 1) < 2 ^ 30) (hF : Fs.length + (n + 1) ≤ 99) (hP : P.length + 3 * (n + 1) ≤ 299)
    (hfin : HeadW p l e s m args below meth c Q G ad ct0 dn lk st0 i vv cv Fs ((runS (n + 1) (nI (7 + kk)) (nI 41) x q).1 :: P) (runS (n + 1) (nI (7 + kk)) (nI 41) x q).2) : HeadW p l e s m args below meth c Q G ad ct0 dn lk st0 i vv cv ((41, stN 41, x) :: Fs) P (bgS (nI 41) q) := by
  rw [show cB (n + 1) = 1 + 3 * cB n from rfl] at hbb
  rw [okM_s, Bool.and_eq_true, callsT_41] at hok
  have hok2 := List.all_eq_true.mp hok.2
  have hx0 : (vdT kk 6 && okM kk n (doB kk 6)) = true := hok2 (0, 6) (by decide)
  rw [Bool.and_eq_true] at hx0
  have hv0 := hx0.1
  have ho0 := hx0.2
  have hx1 : (vdT kk 6 && okM kk n (doB kk 6)) = true := hok2 (0, 6) (by decide)
  rw [Bool.and_eq_true] at hx1
  have hv1 := hx1.1
  have ho1 := hx1.2
  have hfin2 := hfin
  rw [runS, if_neg (show ¬ nI 41 = 0 by decide), show bodyS (runS n (nI (7 + kk))) (nI (7 + kk)) (nI 41) x (bgS (nI 41) q) = _ from bodyS_41 _ _ _ _] at hfin2
  obtain ⟨hc0, hn0, hs0, hl0⟩ := do_val kk hk11 6 (by omega) hv0
  obtain ⟨hc1, hn1, hs1, hl1⟩ := do_val kk hk11 6 (by omega) hv1
  rw [show selOfF selT (nI (7 + kk)) 6 = nI (doB kk 6) from hl0] at hfin2
  rw [show stN 41 = 42 from (by decide +kernel)]
  have hq0 := bgS_b (nI 41) hq
  refine it_step S hE hT (by omega) (show 42 < 246 by omega) (o := 1000) (by decide +kernel) (by omega) (P2 := x :: P) (q2 := (bgS (nI 41) q)) (fun ct hM => c_X5_step_x l G ad ct hM (by (try simp only [List.length_cons]); omega) x) ?_
  refine it_do S hE hT (by omega) (show 43 < 246 by omega) hq0 (show (bb + 1) < 2 ^ 30 by omega) hn0 hs0 (by omega) (by (try simp only [List.length_cons]); omega) (by omega) hi hkk hk11 hc0 (by decide +kernel) ?_
  refine ih (doB kk 6) ho0 x _ (P) ((bgS (nI 41) q)) (bb + 1) hq0 (by omega) (by (try simp only [List.length_cons]); omega) (by (try simp only [List.length_cons]); omega) ?_
  obtain ⟨b1, hq1, hlo1, hhi1⟩ := gr_run (nI (7 + kk)) n (nI (doB kk 6)) x ((bgS (nI 41) q)) (bb + 1) hq0
  refine it_step S hE hT (by omega) (show 44 < 246 by omega) (o := 2) (by decide +kernel) (by omega) (P2 := 2 :: ((runS n (nI (7 + kk)) (nI (doB kk 6)) x ((bgS (nI 41) q))).1) :: P) (q2 := (runS n (nI (7 + kk)) (nI (doB kk 6)) x ((bgS (nI 41) q))).2) (fun ct hM => c_X5_step_c l G ad ct hM (o := 2) (by omega) (by (try simp only [List.length_cons]); omega) x) ?_
  refine it_step S hE hT (by omega) (show 45 < 246 by omega) (o := 1005) (by decide +kernel) (by omega) (P2 := (((runS n (nI (7 + kk)) (nI (doB kk 6)) x ((bgS (nI 41) q))).1) * 2) :: P) (q2 := (runS n (nI (7 + kk)) (nI (doB kk 6)) x ((bgS (nI 41) q))).2) (fun ct hM => c_X5_step_t l G ad ct hM (by (try simp only [List.length_cons]); omega) x) ?_
  refine it_step S hE hT (by omega) (show 46 < 246 by omega) (o := 1) (by decide +kernel) (by omega) (P2 := 1 :: (((runS n (nI (7 + kk)) (nI (doB kk 6)) x ((bgS (nI 41) q))).1) * 2) :: P) (q2 := (runS n (nI (7 + kk)) (nI (doB kk 6)) x ((bgS (nI 41) q))).2) (fun ct hM => c_X5_step_c l G ad ct hM (o := 1) (by omega) (by (try simp only [List.length_cons]); omega) x) ?_
  refine it_do S hE hT (by omega) (show 47 < 246 by omega) hq1 (show b1 < 2 ^ 30 by omega) hn1 hs1 (by omega) (by (try simp only [List.length_cons]); omega) (by omega) hi hkk hk11 hc1 (by decide +kernel) ?_
  refine ih (doB kk 6) ho1 1 _ ((((runS n (nI (7 + kk)) (nI (doB kk 6)) x ((bgS (nI 41) q))).1) * 2) :: P) ((runS n (nI (7 + kk)) (nI (doB kk 6)) x ((bgS (nI 41) q))).2) b1 hq1 (by omega) (by (try simp only [List.length_cons]); omega) (by (try simp only [List.length_cons]); omega) ?_
  obtain ⟨b2, hq2, hlo2, hhi2⟩ := gr_run (nI (7 + kk)) n (nI (doB kk 6)) 1 ((runS n (nI (7 + kk)) (nI (doB kk 6)) x ((bgS (nI 41) q))).2) b1 hq1
  refine it_step S hE hT (by omega) (show 48 < 246 by omega) (o := 1003) (by decide +kernel) (by omega) (P2 := ((((runS n (nI (7 + kk)) (nI (doB kk 6)) x ((bgS (nI 41) q))).1) * 2) + ((runS n (nI (7 + kk)) (nI (doB kk 6)) 1 ((runS n (nI (7 + kk)) (nI (doB kk 6)) x ((bgS (nI 41) q))).2)).1)) :: P) (q2 := (runS n (nI (7 + kk)) (nI (doB kk 6)) 1 ((runS n (nI (7 + kk)) (nI (doB kk 6)) x ((bgS (nI 41) q))).2)).2) (fun ct hM => c_X5_step_p l G ad ct hM (by (try simp only [List.length_cons]); omega) x) ?_
  refine it_end S hE hT (by omega) (show 49 < 246 by omega) (o := 3050) (by decide +kernel) (by omega) ?_
  exact hfin2
set_option maxRecDepth 100000 in
set_option maxHeartbeats 4000000 in
theorem mrun_50 {p : Program} {l : Launch} {e : Env} {s : State} {m : MethodId} {args : Array Value} {below : List Frame} {meth : Method} {c : Code} {Q : State → Prop} {G : hG} {ad : Nat → Nat} {ct0 : Nat → Option va_E} {dn lk st0 : Int32} {i : Nat} {vv cv : Nat → Int32} {kdf : Nat → Int32} (S : CallFix p m c cX5_act 6 s args WS yX5_act.cls) (hE : gE G s) (hT : MTab G ct0 kdf) (hi : i < 300) {kk n : Nat} (hk11 : kk < 11) (hkk : kdf i = nI kk) (ih : RunM p l e s m args below meth c Q G ad ct0 dn lk st0 i vv cv kk n)
    (hok : okM kk (n + 1) 50 = true) (x : Int32) (Fs : List (Nat × Nat × Int32)) (P : List Int32) (q : St) (bb : Nat) (hq : q.2.2.1 = nI bb) (hbb : bb + cB (n + 1) < 2 ^ 30) (hF : Fs.length + (n + 1) ≤ 99) (hP : P.length + 3 * (n + 1) ≤ 299)
    (hfin : HeadW p l e s m args below meth c Q G ad ct0 dn lk st0 i vv cv Fs ((runS (n + 1) (nI (7 + kk)) (nI 50) x q).1 :: P) (runS (n + 1) (nI (7 + kk)) (nI 50) x q).2) : HeadW p l e s m args below meth c Q G ad ct0 dn lk st0 i vv cv ((50, stN 50, x) :: Fs) P (bgS (nI 50) q) := by
  rw [show cB (n + 1) = 1 + 3 * cB n from rfl] at hbb
  rw [okM_s, Bool.and_eq_true, callsT_50] at hok
  have hok2 := List.all_eq_true.mp hok.2
  have ho0 : okM kk n 41 = true := hok2 (1, 41) (by decide)
  have hx1 : (vdT kk 8 && okM kk n (doB kk 8)) = true := hok2 (0, 8) (by decide)
  rw [Bool.and_eq_true] at hx1
  have hv1 := hx1.1
  have ho1 := hx1.2
  have hfin2 := hfin
  rw [runS, if_neg (show ¬ nI 50 = 0 by decide), show bodyS (runS n (nI (7 + kk))) (nI (7 + kk)) (nI 50) x (bgS (nI 50) q) = _ from bodyS_50 _ _ _ _] at hfin2
  obtain ⟨hc1, hn1, hs1, hl1⟩ := do_val kk hk11 8 (by omega) hv1
  rw [show selOfF selT 5 7 = nI 41 from (by decide +kernel)] at hfin2
  rw [show selOfF selT (nI (7 + kk)) 8 = nI (doB kk 8) from hl1] at hfin2
  rw [show stN 50 = 50 from (by decide +kernel)]
  have hq0 := bgS_b (nI 50) hq
  refine it_step S hE hT (by omega) (show 50 < 246 by omega) (o := 1000) (by decide +kernel) (by omega) (P2 := x :: P) (q2 := (bgS (nI 50) q)) (fun ct hM => c_X5_step_x l G ad ct hM (by (try simp only [List.length_cons]); omega) x) ?_
  refine it_of S hE hT (by omega) (show 51 < 246 by omega) hq0 (show (bb + 1) < 2 ^ 30 by omega) (by omega) (body_st 41 (by decide)).2 (by omega) (by (try simp only [List.length_cons]); omega) (k0 := 43) (by omega) (by decide +kernel) (by decide +kernel) ?_
  refine ih 41 ho0 x _ (P) ((bgS (nI 50) q)) (bb + 1) hq0 (by omega) (by (try simp only [List.length_cons]); omega) (by (try simp only [List.length_cons]); omega) ?_
  obtain ⟨b1, hq1, hlo1, hhi1⟩ := gr_run (nI (7 + kk)) n (nI 41) x ((bgS (nI 50) q)) (bb + 1) hq0
  refine it_step S hE hT (by omega) (show 52 < 246 by omega) (o := 1000) (by decide +kernel) (by omega) (P2 := x :: ((runS n (nI (7 + kk)) (nI 41) x ((bgS (nI 50) q))).1) :: P) (q2 := (runS n (nI (7 + kk)) (nI 41) x ((bgS (nI 50) q))).2) (fun ct hM => c_X5_step_x l G ad ct hM (by (try simp only [List.length_cons]); omega) x) ?_
  refine it_do S hE hT (by omega) (show 53 < 246 by omega) hq1 (show b1 < 2 ^ 30 by omega) hn1 hs1 (by omega) (by (try simp only [List.length_cons]); omega) (by omega) hi hkk hk11 hc1 (by decide +kernel) ?_
  refine ih (doB kk 8) ho1 x _ (((runS n (nI (7 + kk)) (nI 41) x ((bgS (nI 50) q))).1) :: P) ((runS n (nI (7 + kk)) (nI 41) x ((bgS (nI 50) q))).2) b1 hq1 (by omega) (by (try simp only [List.length_cons]); omega) (by (try simp only [List.length_cons]); omega) ?_
  obtain ⟨b2, hq2, hlo2, hhi2⟩ := gr_run (nI (7 + kk)) n (nI (doB kk 8)) x ((runS n (nI (7 + kk)) (nI 41) x ((bgS (nI 50) q))).2) b1 hq1
  refine it_step S hE hT (by omega) (show 54 < 246 by omega) (o := 1004) (by decide +kernel) (by omega) (P2 := (((runS n (nI (7 + kk)) (nI 41) x ((bgS (nI 50) q))).1) - ((runS n (nI (7 + kk)) (nI (doB kk 8)) x ((runS n (nI (7 + kk)) (nI 41) x ((bgS (nI 50) q))).2)).1)) :: P) (q2 := (runS n (nI (7 + kk)) (nI (doB kk 8)) x ((runS n (nI (7 + kk)) (nI 41) x ((bgS (nI 50) q))).2)).2) (fun ct hM => c_X5_step_l l G ad ct hM (by (try simp only [List.length_cons]); omega) x) ?_
  refine it_end S hE hT (by omega) (show 55 < 246 by omega) (o := 3051) (by decide +kernel) (by omega) ?_
  exact hfin2
set_option maxRecDepth 100000 in
set_option maxHeartbeats 4000000 in
theorem mrun_51 {p : Program} {l : Launch} {e : Env} {s : State} {m : MethodId} {args : Array Value} {below : List Frame} {meth : Method} {c : Code} {Q : State → Prop} {G : hG} {ad : Nat → Nat} {ct0 : Nat → Option va_E} {dn lk st0 : Int32} {i : Nat} {vv cv : Nat → Int32} {kdf : Nat → Int32} (S : CallFix p m c cX5_act 6 s args WS yX5_act.cls) (hE : gE G s) (hT : MTab G ct0 kdf) (hi : i < 300) {kk n : Nat} (hk11 : kk < 11) (hkk : kdf i = nI kk) (ih : RunM p l e s m args below meth c Q G ad ct0 dn lk st0 i vv cv kk n)
    (hok : okM kk (n + 1) 51 = true) (x : Int32) (Fs : List (Nat × Nat × Int32)) (P : List Int32) (q : St) (bb : Nat) (hq : q.2.2.1 = nI bb) (hbb : bb + cB (n + 1) < 2 ^ 30) (hF : Fs.length + (n + 1) ≤ 99) (hP : P.length + 3 * (n + 1) ≤ 299)
    (hfin : HeadW p l e s m args below meth c Q G ad ct0 dn lk st0 i vv cv Fs ((runS (n + 1) (nI (7 + kk)) (nI 51) x q).1 :: P) (runS (n + 1) (nI (7 + kk)) (nI 51) x q).2) : HeadW p l e s m args below meth c Q G ad ct0 dn lk st0 i vv cv ((51, stN 51, x) :: Fs) P (bgS (nI 51) q) := by
  rw [show cB (n + 1) = 1 + 3 * cB n from rfl] at hbb
  rw [okM_s, Bool.and_eq_true, callsT_51] at hok
  have hok2 := List.all_eq_true.mp hok.2
  have ho0 : okM kk n 52 = true := hok2 (1, 52) (by decide)
  have hx1 : (vdT kk 5 && okM kk n (doB kk 5)) = true := hok2 (0, 5) (by decide)
  rw [Bool.and_eq_true] at hx1
  have hv1 := hx1.1
  have ho1 := hx1.2
  have hfin2 := hfin
  rw [runS, if_neg (show ¬ nI 51 = 0 by decide), show bodyS (runS n (nI (7 + kk))) (nI (7 + kk)) (nI 51) x (bgS (nI 51) q) = _ from bodyS_51 _ _ _ _] at hfin2
  obtain ⟨hc1, hn1, hs1, hl1⟩ := do_val kk hk11 5 (by omega) hv1
  rw [show (52 : Int32) = nI 52 from rfl] at hfin2
  rw [show selOfF selT (nI (7 + kk)) 5 = nI (doB kk 5) from hl1] at hfin2
  rw [show stN 51 = 56 from (by decide +kernel)]
  have hq0 := bgS_b (nI 51) hq
  refine it_step S hE hT (by omega) (show 56 < 246 by omega) (o := 1000) (by decide +kernel) (by omega) (P2 := x :: P) (q2 := (bgS (nI 51) q)) (fun ct hM => c_X5_step_x l G ad ct hM (by (try simp only [List.length_cons]); omega) x) ?_
  refine it_own S hE hT (by omega) (show 57 < 246 by omega) hq0 (show (bb + 1) < 2 ^ 30 by omega) (by omega) (body_st 52 (by decide)).2 (by omega) (by (try simp only [List.length_cons]); omega) (by decide +kernel) ?_
  refine ih 52 ho0 x _ (P) ((bgS (nI 51) q)) (bb + 1) hq0 (by omega) (by (try simp only [List.length_cons]); omega) (by (try simp only [List.length_cons]); omega) ?_
  obtain ⟨b1, hq1, hlo1, hhi1⟩ := gr_run (nI (7 + kk)) n (nI 52) x ((bgS (nI 51) q)) (bb + 1) hq0
  refine it_step S hE hT (by omega) (show 58 < 246 by omega) (o := 2) (by decide +kernel) (by omega) (P2 := 2 :: ((runS n (nI (7 + kk)) (nI 52) x ((bgS (nI 51) q))).1) :: P) (q2 := (runS n (nI (7 + kk)) (nI 52) x ((bgS (nI 51) q))).2) (fun ct hM => c_X5_step_c l G ad ct hM (o := 2) (by omega) (by (try simp only [List.length_cons]); omega) x) ?_
  refine it_do S hE hT (by omega) (show 59 < 246 by omega) hq1 (show b1 < 2 ^ 30 by omega) hn1 hs1 (by omega) (by (try simp only [List.length_cons]); omega) (by omega) hi hkk hk11 hc1 (by decide +kernel) ?_
  refine ih (doB kk 5) ho1 2 _ (((runS n (nI (7 + kk)) (nI 52) x ((bgS (nI 51) q))).1) :: P) ((runS n (nI (7 + kk)) (nI 52) x ((bgS (nI 51) q))).2) b1 hq1 (by omega) (by (try simp only [List.length_cons]); omega) (by (try simp only [List.length_cons]); omega) ?_
  obtain ⟨b2, hq2, hlo2, hhi2⟩ := gr_run (nI (7 + kk)) n (nI (doB kk 5)) 2 ((runS n (nI (7 + kk)) (nI 52) x ((bgS (nI 51) q))).2) b1 hq1
  refine it_step S hE hT (by omega) (show 60 < 246 by omega) (o := 1003) (by decide +kernel) (by omega) (P2 := (((runS n (nI (7 + kk)) (nI 52) x ((bgS (nI 51) q))).1) + ((runS n (nI (7 + kk)) (nI (doB kk 5)) 2 ((runS n (nI (7 + kk)) (nI 52) x ((bgS (nI 51) q))).2)).1)) :: P) (q2 := (runS n (nI (7 + kk)) (nI (doB kk 5)) 2 ((runS n (nI (7 + kk)) (nI 52) x ((bgS (nI 51) q))).2)).2) (fun ct hM => c_X5_step_p l G ad ct hM (by (try simp only [List.length_cons]); omega) x) ?_
  refine it_end S hE hT (by omega) (show 61 < 246 by omega) (o := 3052) (by decide +kernel) (by omega) ?_
  exact hfin2
set_option maxRecDepth 100000 in
set_option maxHeartbeats 4000000 in
theorem mrun_52 {p : Program} {l : Launch} {e : Env} {s : State} {m : MethodId} {args : Array Value} {below : List Frame} {meth : Method} {c : Code} {Q : State → Prop} {G : hG} {ad : Nat → Nat} {ct0 : Nat → Option va_E} {dn lk st0 : Int32} {i : Nat} {vv cv : Nat → Int32} {kdf : Nat → Int32} (S : CallFix p m c cX5_act 6 s args WS yX5_act.cls) (hE : gE G s) (hT : MTab G ct0 kdf) (hi : i < 300) {kk n : Nat} (hk11 : kk < 11) (hkk : kdf i = nI kk) (ih : RunM p l e s m args below meth c Q G ad ct0 dn lk st0 i vv cv kk n)
    (hok : okM kk (n + 1) 52 = true) (x : Int32) (Fs : List (Nat × Nat × Int32)) (P : List Int32) (q : St) (bb : Nat) (hq : q.2.2.1 = nI bb) (hbb : bb + cB (n + 1) < 2 ^ 30) (hF : Fs.length + (n + 1) ≤ 99) (hP : P.length + 3 * (n + 1) ≤ 299)
    (hfin : HeadW p l e s m args below meth c Q G ad ct0 dn lk st0 i vv cv Fs ((runS (n + 1) (nI (7 + kk)) (nI 52) x q).1 :: P) (runS (n + 1) (nI (7 + kk)) (nI 52) x q).2) : HeadW p l e s m args below meth c Q G ad ct0 dn lk st0 i vv cv ((52, stN 52, x) :: Fs) P (bgS (nI 52) q) := by
  rw [show cB (n + 1) = 1 + 3 * cB n from rfl] at hbb
  rw [okM_s, Bool.and_eq_true, callsT_52] at hok
  have hok2 := List.all_eq_true.mp hok.2
  have hx0 : (vdT kk 5 && okM kk n (doB kk 5)) = true := hok2 (0, 5) (by decide)
  rw [Bool.and_eq_true] at hx0
  have hv0 := hx0.1
  have ho0 := hx0.2
  have hfin2 := hfin
  rw [runS, if_neg (show ¬ nI 52 = 0 by decide), show bodyS (runS n (nI (7 + kk))) (nI (7 + kk)) (nI 52) x (bgS (nI 52) q) = _ from bodyS_52 _ _ _ _] at hfin2
  obtain ⟨hc0, hn0, hs0, hl0⟩ := do_val kk hk11 5 (by omega) hv0
  rw [show selOfF selT (nI (7 + kk)) 5 = nI (doB kk 5) from hl0] at hfin2
  rw [show stN 52 = 62 from (by decide +kernel)]
  have hq0 := bgS_b (nI 52) hq
  refine it_step S hE hT (by omega) (show 62 < 246 by omega) (o := 1000) (by decide +kernel) (by omega) (P2 := x :: P) (q2 := (bgS (nI 52) q)) (fun ct hM => c_X5_step_x l G ad ct hM (by (try simp only [List.length_cons]); omega) x) ?_
  refine it_do S hE hT (by omega) (show 63 < 246 by omega) hq0 (show (bb + 1) < 2 ^ 30 by omega) hn0 hs0 (by omega) (by (try simp only [List.length_cons]); omega) (by omega) hi hkk hk11 hc0 (by decide +kernel) ?_
  refine ih (doB kk 5) ho0 x _ (P) ((bgS (nI 52) q)) (bb + 1) hq0 (by omega) (by (try simp only [List.length_cons]); omega) (by (try simp only [List.length_cons]); omega) ?_
  obtain ⟨b1, hq1, hlo1, hhi1⟩ := gr_run (nI (7 + kk)) n (nI (doB kk 5)) x ((bgS (nI 52) q)) (bb + 1) hq0
  refine it_step S hE hT (by omega) (show 64 < 246 by omega) (o := 5) (by decide +kernel) (by omega) (P2 := 5 :: ((runS n (nI (7 + kk)) (nI (doB kk 5)) x ((bgS (nI 52) q))).1) :: P) (q2 := (runS n (nI (7 + kk)) (nI (doB kk 5)) x ((bgS (nI 52) q))).2) (fun ct hM => c_X5_step_c l G ad ct hM (o := 5) (by omega) (by (try simp only [List.length_cons]); omega) x) ?_
  refine it_step S hE hT (by omega) (show 65 < 246 by omega) (o := 1005) (by decide +kernel) (by omega) (P2 := (((runS n (nI (7 + kk)) (nI (doB kk 5)) x ((bgS (nI 52) q))).1) * 5) :: P) (q2 := (runS n (nI (7 + kk)) (nI (doB kk 5)) x ((bgS (nI 52) q))).2) (fun ct hM => c_X5_step_t l G ad ct hM (by (try simp only [List.length_cons]); omega) x) ?_
  refine it_end S hE hT (by omega) (show 66 < 246 by omega) (o := 3060) (by decide +kernel) (by omega) ?_
  exact hfin2
set_option maxRecDepth 100000 in
set_option maxHeartbeats 4000000 in
theorem mrun_60 {p : Program} {l : Launch} {e : Env} {s : State} {m : MethodId} {args : Array Value} {below : List Frame} {meth : Method} {c : Code} {Q : State → Prop} {G : hG} {ad : Nat → Nat} {ct0 : Nat → Option va_E} {dn lk st0 : Int32} {i : Nat} {vv cv : Nat → Int32} {kdf : Nat → Int32} (S : CallFix p m c cX5_act 6 s args WS yX5_act.cls) (hE : gE G s) (hT : MTab G ct0 kdf) (hi : i < 300) {kk n : Nat} (hk11 : kk < 11) (hkk : kdf i = nI kk) (ih : RunM p l e s m args below meth c Q G ad ct0 dn lk st0 i vv cv kk n)
    (hok : okM kk (n + 1) 60 = true) (x : Int32) (Fs : List (Nat × Nat × Int32)) (P : List Int32) (q : St) (bb : Nat) (hq : q.2.2.1 = nI bb) (hbb : bb + cB (n + 1) < 2 ^ 30) (hF : Fs.length + (n + 1) ≤ 99) (hP : P.length + 3 * (n + 1) ≤ 299)
    (hfin : HeadW p l e s m args below meth c Q G ad ct0 dn lk st0 i vv cv Fs ((runS (n + 1) (nI (7 + kk)) (nI 60) x q).1 :: P) (runS (n + 1) (nI (7 + kk)) (nI 60) x q).2) : HeadW p l e s m args below meth c Q G ad ct0 dn lk st0 i vv cv ((60, stN 60, x) :: Fs) P (bgS (nI 60) q) := by
  rw [show cB (n + 1) = 1 + 3 * cB n from rfl] at hbb
  rw [okM_s, Bool.and_eq_true, callsT_60] at hok
  have hok2 := List.all_eq_true.mp hok.2
  have hfin2 := hfin
  rw [runS, if_neg (show ¬ nI 60 = 0 by decide), show bodyS (runS n (nI (7 + kk))) (nI (7 + kk)) (nI 60) x (bgS (nI 60) q) = _ from bodyS_60 _ _ _ _] at hfin2
  rw [show stN 60 = 67 from (by decide +kernel)]
  have hq0 := bgS_b (nI 60) hq
  refine it_step S hE hT (by omega) (show 67 < 246 by omega) (o := 1001) (by decide +kernel) (by omega) (P2 := (((bgS (nI 60) q)).1) :: P) (q2 := (bgS (nI 60) q)) (fun ct hM => c_X5_step_v l G ad ct hM (by (try simp only [List.length_cons]); omega) hi x) ?_
  refine it_step S hE hT (by omega) (show 68 < 246 by omega) (o := 1000) (by decide +kernel) (by omega) (P2 := x :: (((bgS (nI 60) q)).1) :: P) (q2 := (bgS (nI 60) q)) (fun ct hM => c_X5_step_x l G ad ct hM (by (try simp only [List.length_cons]); omega) x) ?_
  refine it_step S hE hT (by omega) (show 69 < 246 by omega) (o := 1003) (by decide +kernel) (by omega) (P2 := ((((bgS (nI 60) q)).1) + x) :: P) (q2 := (bgS (nI 60) q)) (fun ct hM => c_X5_step_p l G ad ct hM (by (try simp only [List.length_cons]); omega) x) ?_
  refine it_step S hE hT (by omega) (show 70 < 246 by omega) (o := 1008) (by decide +kernel) (by omega) (P2 := P) (q2 := ((((bgS (nI 60) q)).1) + x, ((bgS (nI 60) q)).2)) (fun ct hM => c_X5_step_tv l G ad ct hM (by (try simp only [List.length_cons]); omega) hi x) ?_
  refine it_step S hE hT (by omega) (show 71 < 246 by omega) (o := 1001) (by decide +kernel) (by omega) (P2 := ((((((bgS (nI 60) q)).1) + x, ((bgS (nI 60) q)).2)).1) :: P) (q2 := ((((bgS (nI 60) q)).1) + x, ((bgS (nI 60) q)).2)) (fun ct hM => c_X5_step_v l G ad ct hM (by (try simp only [List.length_cons]); omega) hi x) ?_
  refine it_end S hE hT (by omega) (show 72 < 246 by omega) (o := 3061) (by decide +kernel) (by omega) ?_
  exact hfin2
set_option maxRecDepth 100000 in
set_option maxHeartbeats 4000000 in
theorem mrun_61 {p : Program} {l : Launch} {e : Env} {s : State} {m : MethodId} {args : Array Value} {below : List Frame} {meth : Method} {c : Code} {Q : State → Prop} {G : hG} {ad : Nat → Nat} {ct0 : Nat → Option va_E} {dn lk st0 : Int32} {i : Nat} {vv cv : Nat → Int32} {kdf : Nat → Int32} (S : CallFix p m c cX5_act 6 s args WS yX5_act.cls) (hE : gE G s) (hT : MTab G ct0 kdf) (hi : i < 300) {kk n : Nat} (hk11 : kk < 11) (hkk : kdf i = nI kk) (ih : RunM p l e s m args below meth c Q G ad ct0 dn lk st0 i vv cv kk n)
    (hok : okM kk (n + 1) 61 = true) (x : Int32) (Fs : List (Nat × Nat × Int32)) (P : List Int32) (q : St) (bb : Nat) (hq : q.2.2.1 = nI bb) (hbb : bb + cB (n + 1) < 2 ^ 30) (hF : Fs.length + (n + 1) ≤ 99) (hP : P.length + 3 * (n + 1) ≤ 299)
    (hfin : HeadW p l e s m args below meth c Q G ad ct0 dn lk st0 i vv cv Fs ((runS (n + 1) (nI (7 + kk)) (nI 61) x q).1 :: P) (runS (n + 1) (nI (7 + kk)) (nI 61) x q).2) : HeadW p l e s m args below meth c Q G ad ct0 dn lk st0 i vv cv ((61, stN 61, x) :: Fs) P (bgS (nI 61) q) := by
  rw [show cB (n + 1) = 1 + 3 * cB n from rfl] at hbb
  rw [okM_s, Bool.and_eq_true, callsT_61] at hok
  have hok2 := List.all_eq_true.mp hok.2
  have hfin2 := hfin
  rw [runS, if_neg (show ¬ nI 61 = 0 by decide), show bodyS (runS n (nI (7 + kk))) (nI (7 + kk)) (nI 61) x (bgS (nI 61) q) = _ from bodyS_61 _ _ _ _] at hfin2
  rw [show stN 61 = 73 from (by decide +kernel)]
  have hq0 := bgS_b (nI 61) hq
  refine it_step S hE hT (by omega) (show 73 < 246 by omega) (o := 1001) (by decide +kernel) (by omega) (P2 := (((bgS (nI 61) q)).1) :: P) (q2 := (bgS (nI 61) q)) (fun ct hM => c_X5_step_v l G ad ct hM (by (try simp only [List.length_cons]); omega) hi x) ?_
  refine it_step S hE hT (by omega) (show 74 < 246 by omega) (o := 3) (by decide +kernel) (by omega) (P2 := 3 :: (((bgS (nI 61) q)).1) :: P) (q2 := (bgS (nI 61) q)) (fun ct hM => c_X5_step_c l G ad ct hM (o := 3) (by omega) (by (try simp only [List.length_cons]); omega) x) ?_
  refine it_step S hE hT (by omega) (show 75 < 246 by omega) (o := 1000) (by decide +kernel) (by omega) (P2 := x :: 3 :: (((bgS (nI 61) q)).1) :: P) (q2 := (bgS (nI 61) q)) (fun ct hM => c_X5_step_x l G ad ct hM (by (try simp only [List.length_cons]); omega) x) ?_
  refine it_step S hE hT (by omega) (show 76 < 246 by omega) (o := 1005) (by decide +kernel) (by omega) (P2 := (3 * x) :: (((bgS (nI 61) q)).1) :: P) (q2 := (bgS (nI 61) q)) (fun ct hM => c_X5_step_t l G ad ct hM (by (try simp only [List.length_cons]); omega) x) ?_
  refine it_step S hE hT (by omega) (show 77 < 246 by omega) (o := 1004) (by decide +kernel) (by omega) (P2 := ((((bgS (nI 61) q)).1) - (3 * x)) :: P) (q2 := (bgS (nI 61) q)) (fun ct hM => c_X5_step_l l G ad ct hM (by (try simp only [List.length_cons]); omega) x) ?_
  refine it_step S hE hT (by omega) (show 78 < 246 by omega) (o := 1008) (by decide +kernel) (by omega) (P2 := P) (q2 := ((((bgS (nI 61) q)).1) - (3 * x), ((bgS (nI 61) q)).2)) (fun ct hM => c_X5_step_tv l G ad ct hM (by (try simp only [List.length_cons]); omega) hi x) ?_
  refine it_step S hE hT (by omega) (show 79 < 246 by omega) (o := 1001) (by decide +kernel) (by omega) (P2 := ((((((bgS (nI 61) q)).1) - (3 * x), ((bgS (nI 61) q)).2)).1) :: P) (q2 := ((((bgS (nI 61) q)).1) - (3 * x), ((bgS (nI 61) q)).2)) (fun ct hM => c_X5_step_v l G ad ct hM (by (try simp only [List.length_cons]); omega) hi x) ?_
  refine it_end S hE hT (by omega) (show 80 < 246 by omega) (o := 3062) (by decide +kernel) (by omega) ?_
  exact hfin2
set_option maxRecDepth 100000 in
set_option maxHeartbeats 4000000 in
theorem mrun_62 {p : Program} {l : Launch} {e : Env} {s : State} {m : MethodId} {args : Array Value} {below : List Frame} {meth : Method} {c : Code} {Q : State → Prop} {G : hG} {ad : Nat → Nat} {ct0 : Nat → Option va_E} {dn lk st0 : Int32} {i : Nat} {vv cv : Nat → Int32} {kdf : Nat → Int32} (S : CallFix p m c cX5_act 6 s args WS yX5_act.cls) (hE : gE G s) (hT : MTab G ct0 kdf) (hi : i < 300) {kk n : Nat} (hk11 : kk < 11) (hkk : kdf i = nI kk) (ih : RunM p l e s m args below meth c Q G ad ct0 dn lk st0 i vv cv kk n)
    (hok : okM kk (n + 1) 62 = true) (x : Int32) (Fs : List (Nat × Nat × Int32)) (P : List Int32) (q : St) (bb : Nat) (hq : q.2.2.1 = nI bb) (hbb : bb + cB (n + 1) < 2 ^ 30) (hF : Fs.length + (n + 1) ≤ 99) (hP : P.length + 3 * (n + 1) ≤ 299)
    (hfin : HeadW p l e s m args below meth c Q G ad ct0 dn lk st0 i vv cv Fs ((runS (n + 1) (nI (7 + kk)) (nI 62) x q).1 :: P) (runS (n + 1) (nI (7 + kk)) (nI 62) x q).2) : HeadW p l e s m args below meth c Q G ad ct0 dn lk st0 i vv cv ((62, stN 62, x) :: Fs) P (bgS (nI 62) q) := by
  rw [show cB (n + 1) = 1 + 3 * cB n from rfl] at hbb
  rw [okM_s, Bool.and_eq_true, callsT_62] at hok
  have hok2 := List.all_eq_true.mp hok.2
  have hfin2 := hfin
  rw [runS, if_neg (show ¬ nI 62 = 0 by decide), show bodyS (runS n (nI (7 + kk))) (nI (7 + kk)) (nI 62) x (bgS (nI 62) q) = _ from bodyS_62 _ _ _ _] at hfin2
  rw [show stN 62 = 81 from (by decide +kernel)]
  have hq0 := bgS_b (nI 62) hq
  refine it_step S hE hT (by omega) (show 81 < 246 by omega) (o := 1001) (by decide +kernel) (by omega) (P2 := (((bgS (nI 62) q)).1) :: P) (q2 := (bgS (nI 62) q)) (fun ct hM => c_X5_step_v l G ad ct hM (by (try simp only [List.length_cons]); omega) hi x) ?_
  refine it_step S hE hT (by omega) (show 82 < 246 by omega) (o := 31) (by decide +kernel) (by omega) (P2 := 31 :: (((bgS (nI 62) q)).1) :: P) (q2 := (bgS (nI 62) q)) (fun ct hM => c_X5_step_c l G ad ct hM (o := 31) (by omega) (by (try simp only [List.length_cons]); omega) x) ?_
  refine it_step S hE hT (by omega) (show 83 < 246 by omega) (o := 1005) (by decide +kernel) (by omega) (P2 := ((((bgS (nI 62) q)).1) * 31) :: P) (q2 := (bgS (nI 62) q)) (fun ct hM => c_X5_step_t l G ad ct hM (by (try simp only [List.length_cons]); omega) x) ?_
  refine it_step S hE hT (by omega) (show 84 < 246 by omega) (o := 1000) (by decide +kernel) (by omega) (P2 := x :: ((((bgS (nI 62) q)).1) * 31) :: P) (q2 := (bgS (nI 62) q)) (fun ct hM => c_X5_step_x l G ad ct hM (by (try simp only [List.length_cons]); omega) x) ?_
  refine it_step S hE hT (by omega) (show 85 < 246 by omega) (o := 1003) (by decide +kernel) (by omega) (P2 := (((((bgS (nI 62) q)).1) * 31) + x) :: P) (q2 := (bgS (nI 62) q)) (fun ct hM => c_X5_step_p l G ad ct hM (by (try simp only [List.length_cons]); omega) x) ?_
  refine it_step S hE hT (by omega) (show 86 < 246 by omega) (o := 1008) (by decide +kernel) (by omega) (P2 := P) (q2 := (((((bgS (nI 62) q)).1) * 31) + x, ((bgS (nI 62) q)).2)) (fun ct hM => c_X5_step_tv l G ad ct hM (by (try simp only [List.length_cons]); omega) hi x) ?_
  refine it_step S hE hT (by omega) (show 87 < 246 by omega) (o := 1001) (by decide +kernel) (by omega) (P2 := (((((((bgS (nI 62) q)).1) * 31) + x, ((bgS (nI 62) q)).2)).1) :: P) (q2 := (((((bgS (nI 62) q)).1) * 31) + x, ((bgS (nI 62) q)).2)) (fun ct hM => c_X5_step_v l G ad ct hM (by (try simp only [List.length_cons]); omega) hi x) ?_
  refine it_end S hE hT (by omega) (show 88 < 246 by omega) (o := 3063) (by decide +kernel) (by omega) ?_
  exact hfin2
set_option maxRecDepth 100000 in
set_option maxHeartbeats 4000000 in
theorem mrun_63 {p : Program} {l : Launch} {e : Env} {s : State} {m : MethodId} {args : Array Value} {below : List Frame} {meth : Method} {c : Code} {Q : State → Prop} {G : hG} {ad : Nat → Nat} {ct0 : Nat → Option va_E} {dn lk st0 : Int32} {i : Nat} {vv cv : Nat → Int32} {kdf : Nat → Int32} (S : CallFix p m c cX5_act 6 s args WS yX5_act.cls) (hE : gE G s) (hT : MTab G ct0 kdf) (hi : i < 300) {kk n : Nat} (hk11 : kk < 11) (hkk : kdf i = nI kk) (ih : RunM p l e s m args below meth c Q G ad ct0 dn lk st0 i vv cv kk n)
    (hok : okM kk (n + 1) 63 = true) (x : Int32) (Fs : List (Nat × Nat × Int32)) (P : List Int32) (q : St) (bb : Nat) (hq : q.2.2.1 = nI bb) (hbb : bb + cB (n + 1) < 2 ^ 30) (hF : Fs.length + (n + 1) ≤ 99) (hP : P.length + 3 * (n + 1) ≤ 299)
    (hfin : HeadW p l e s m args below meth c Q G ad ct0 dn lk st0 i vv cv Fs ((runS (n + 1) (nI (7 + kk)) (nI 63) x q).1 :: P) (runS (n + 1) (nI (7 + kk)) (nI 63) x q).2) : HeadW p l e s m args below meth c Q G ad ct0 dn lk st0 i vv cv ((63, stN 63, x) :: Fs) P (bgS (nI 63) q) := by
  rw [show cB (n + 1) = 1 + 3 * cB n from rfl] at hbb
  rw [okM_s, Bool.and_eq_true, callsT_63] at hok
  have hok2 := List.all_eq_true.mp hok.2
  have hfin2 := hfin
  rw [runS, if_neg (show ¬ nI 63 = 0 by decide), show bodyS (runS n (nI (7 + kk))) (nI (7 + kk)) (nI 63) x (bgS (nI 63) q) = _ from bodyS_63 _ _ _ _] at hfin2
  rw [show stN 63 = 89 from (by decide +kernel)]
  have hq0 := bgS_b (nI 63) hq
  refine it_step S hE hT (by omega) (show 89 < 246 by omega) (o := 1001) (by decide +kernel) (by omega) (P2 := (((bgS (nI 63) q)).1) :: P) (q2 := (bgS (nI 63) q)) (fun ct hM => c_X5_step_v l G ad ct hM (by (try simp only [List.length_cons]); omega) hi x) ?_
  refine it_step S hE hT (by omega) (show 90 < 246 by omega) (o := 1000) (by decide +kernel) (by omega) (P2 := x :: (((bgS (nI 63) q)).1) :: P) (q2 := (bgS (nI 63) q)) (fun ct hM => c_X5_step_x l G ad ct hM (by (try simp only [List.length_cons]); omega) x) ?_
  refine it_step S hE hT (by omega) (show 91 < 246 by omega) (o := 1006) (by decide +kernel) (by omega) (P2 := ((((bgS (nI 63) q)).1) ^^^ x) :: P) (q2 := (bgS (nI 63) q)) (fun ct hM => c_X5_step_o l G ad ct hM (by (try simp only [List.length_cons]); omega) x) ?_
  refine it_end S hE hT (by omega) (show 92 < 246 by omega) (o := 3064) (by decide +kernel) (by omega) ?_
  exact hfin2
set_option maxRecDepth 100000 in
set_option maxHeartbeats 4000000 in
theorem mrun_64 {p : Program} {l : Launch} {e : Env} {s : State} {m : MethodId} {args : Array Value} {below : List Frame} {meth : Method} {c : Code} {Q : State → Prop} {G : hG} {ad : Nat → Nat} {ct0 : Nat → Option va_E} {dn lk st0 : Int32} {i : Nat} {vv cv : Nat → Int32} {kdf : Nat → Int32} (S : CallFix p m c cX5_act 6 s args WS yX5_act.cls) (hE : gE G s) (hT : MTab G ct0 kdf) (hi : i < 300) {kk n : Nat} (hk11 : kk < 11) (hkk : kdf i = nI kk) (ih : RunM p l e s m args below meth c Q G ad ct0 dn lk st0 i vv cv kk n)
    (hok : okM kk (n + 1) 64 = true) (x : Int32) (Fs : List (Nat × Nat × Int32)) (P : List Int32) (q : St) (bb : Nat) (hq : q.2.2.1 = nI bb) (hbb : bb + cB (n + 1) < 2 ^ 30) (hF : Fs.length + (n + 1) ≤ 99) (hP : P.length + 3 * (n + 1) ≤ 299)
    (hfin : HeadW p l e s m args below meth c Q G ad ct0 dn lk st0 i vv cv Fs ((runS (n + 1) (nI (7 + kk)) (nI 64) x q).1 :: P) (runS (n + 1) (nI (7 + kk)) (nI 64) x q).2) : HeadW p l e s m args below meth c Q G ad ct0 dn lk st0 i vv cv ((64, stN 64, x) :: Fs) P (bgS (nI 64) q) := by
  rw [show cB (n + 1) = 1 + 3 * cB n from rfl] at hbb
  rw [okM_s, Bool.and_eq_true, callsT_64] at hok
  have hok2 := List.all_eq_true.mp hok.2
  have hx0 : (vdT kk 9 && okM kk n (doB kk 9)) = true := hok2 (0, 9) (by decide)
  rw [Bool.and_eq_true] at hx0
  have hv0 := hx0.1
  have ho0 := hx0.2
  have hx1 : (vdT kk 10 && okM kk n (doB kk 10)) = true := hok2 (0, 10) (by decide)
  rw [Bool.and_eq_true] at hx1
  have hv1 := hx1.1
  have ho1 := hx1.2
  have ho2 : okM kk n 63 = true := hok2 (1, 63) (by decide)
  have hfin2 := hfin
  rw [runS, if_neg (show ¬ nI 64 = 0 by decide), show bodyS (runS n (nI (7 + kk))) (nI (7 + kk)) (nI 64) x (bgS (nI 64) q) = _ from bodyS_64 _ _ _ _] at hfin2
  obtain ⟨hc0, hn0, hs0, hl0⟩ := do_val kk hk11 9 (by omega) hv0
  obtain ⟨hc1, hn1, hs1, hl1⟩ := do_val kk hk11 10 (by omega) hv1
  rw [show selOfF selT (nI (7 + kk)) 9 = nI (doB kk 9) from hl0] at hfin2
  rw [show selOfF selT (nI (7 + kk)) 10 = nI (doB kk 10) from hl1] at hfin2
  rw [show (63 : Int32) = nI 63 from rfl] at hfin2
  rw [show stN 64 = 93 from (by decide +kernel)]
  have hq0 := bgS_b (nI 64) hq
  refine it_step S hE hT (by omega) (show 93 < 246 by omega) (o := 1000) (by decide +kernel) (by omega) (P2 := x :: P) (q2 := (bgS (nI 64) q)) (fun ct hM => c_X5_step_x l G ad ct hM (by (try simp only [List.length_cons]); omega) x) ?_
  refine it_do S hE hT (by omega) (show 94 < 246 by omega) hq0 (show (bb + 1) < 2 ^ 30 by omega) hn0 hs0 (by omega) (by (try simp only [List.length_cons]); omega) (by omega) hi hkk hk11 hc0 (by decide +kernel) ?_
  refine ih (doB kk 9) ho0 x _ (P) ((bgS (nI 64) q)) (bb + 1) hq0 (by omega) (by (try simp only [List.length_cons]); omega) (by (try simp only [List.length_cons]); omega) ?_
  obtain ⟨b1, hq1, hlo1, hhi1⟩ := gr_run (nI (7 + kk)) n (nI (doB kk 9)) x ((bgS (nI 64) q)) (bb + 1) hq0
  refine it_step S hE hT (by omega) (show 95 < 246 by omega) (o := 1) (by decide +kernel) (by omega) (P2 := 1 :: ((runS n (nI (7 + kk)) (nI (doB kk 9)) x ((bgS (nI 64) q))).1) :: P) (q2 := (runS n (nI (7 + kk)) (nI (doB kk 9)) x ((bgS (nI 64) q))).2) (fun ct hM => c_X5_step_c l G ad ct hM (o := 1) (by omega) (by (try simp only [List.length_cons]); omega) x) ?_
  refine it_do S hE hT (by omega) (show 96 < 246 by omega) hq1 (show b1 < 2 ^ 30 by omega) hn1 hs1 (by omega) (by (try simp only [List.length_cons]); omega) (by omega) hi hkk hk11 hc1 (by decide +kernel) ?_
  refine ih (doB kk 10) ho1 1 _ (((runS n (nI (7 + kk)) (nI (doB kk 9)) x ((bgS (nI 64) q))).1) :: P) ((runS n (nI (7 + kk)) (nI (doB kk 9)) x ((bgS (nI 64) q))).2) b1 hq1 (by omega) (by (try simp only [List.length_cons]); omega) (by (try simp only [List.length_cons]); omega) ?_
  obtain ⟨b2, hq2, hlo2, hhi2⟩ := gr_run (nI (7 + kk)) n (nI (doB kk 10)) 1 ((runS n (nI (7 + kk)) (nI (doB kk 9)) x ((bgS (nI 64) q))).2) b1 hq1
  refine it_step S hE hT (by omega) (show 97 < 246 by omega) (o := 1003) (by decide +kernel) (by omega) (P2 := (((runS n (nI (7 + kk)) (nI (doB kk 9)) x ((bgS (nI 64) q))).1) + ((runS n (nI (7 + kk)) (nI (doB kk 10)) 1 ((runS n (nI (7 + kk)) (nI (doB kk 9)) x ((bgS (nI 64) q))).2)).1)) :: P) (q2 := (runS n (nI (7 + kk)) (nI (doB kk 10)) 1 ((runS n (nI (7 + kk)) (nI (doB kk 9)) x ((bgS (nI 64) q))).2)).2) (fun ct hM => c_X5_step_p l G ad ct hM (by (try simp only [List.length_cons]); omega) x) ?_
  refine it_step S hE hT (by omega) (show 98 < 246 by omega) (o := 1000) (by decide +kernel) (by omega) (P2 := x :: (((runS n (nI (7 + kk)) (nI (doB kk 9)) x ((bgS (nI 64) q))).1) + ((runS n (nI (7 + kk)) (nI (doB kk 10)) 1 ((runS n (nI (7 + kk)) (nI (doB kk 9)) x ((bgS (nI 64) q))).2)).1)) :: P) (q2 := (runS n (nI (7 + kk)) (nI (doB kk 10)) 1 ((runS n (nI (7 + kk)) (nI (doB kk 9)) x ((bgS (nI 64) q))).2)).2) (fun ct hM => c_X5_step_x l G ad ct hM (by (try simp only [List.length_cons]); omega) x) ?_
  refine it_own S hE hT (by omega) (show 99 < 246 by omega) hq2 (show b2 < 2 ^ 30 by omega) (by omega) (body_st 63 (by decide)).2 (by omega) (by (try simp only [List.length_cons]); omega) (by decide +kernel) ?_
  refine ih 63 ho2 x _ ((((runS n (nI (7 + kk)) (nI (doB kk 9)) x ((bgS (nI 64) q))).1) + ((runS n (nI (7 + kk)) (nI (doB kk 10)) 1 ((runS n (nI (7 + kk)) (nI (doB kk 9)) x ((bgS (nI 64) q))).2)).1)) :: P) ((runS n (nI (7 + kk)) (nI (doB kk 10)) 1 ((runS n (nI (7 + kk)) (nI (doB kk 9)) x ((bgS (nI 64) q))).2)).2) b2 hq2 (by omega) (by (try simp only [List.length_cons]); omega) (by (try simp only [List.length_cons]); omega) ?_
  obtain ⟨b3, hq3, hlo3, hhi3⟩ := gr_run (nI (7 + kk)) n (nI 63) x ((runS n (nI (7 + kk)) (nI (doB kk 10)) 1 ((runS n (nI (7 + kk)) (nI (doB kk 9)) x ((bgS (nI 64) q))).2)).2) b2 hq2
  refine it_step S hE hT (by omega) (show 100 < 246 by omega) (o := 1003) (by decide +kernel) (by omega) (P2 := ((((runS n (nI (7 + kk)) (nI (doB kk 9)) x ((bgS (nI 64) q))).1) + ((runS n (nI (7 + kk)) (nI (doB kk 10)) 1 ((runS n (nI (7 + kk)) (nI (doB kk 9)) x ((bgS (nI 64) q))).2)).1)) + ((runS n (nI (7 + kk)) (nI 63) x ((runS n (nI (7 + kk)) (nI (doB kk 10)) 1 ((runS n (nI (7 + kk)) (nI (doB kk 9)) x ((bgS (nI 64) q))).2)).2)).1)) :: P) (q2 := (runS n (nI (7 + kk)) (nI 63) x ((runS n (nI (7 + kk)) (nI (doB kk 10)) 1 ((runS n (nI (7 + kk)) (nI (doB kk 9)) x ((bgS (nI 64) q))).2)).2)).2) (fun ct hM => c_X5_step_p l G ad ct hM (by (try simp only [List.length_cons]); omega) x) ?_
  refine it_end S hE hT (by omega) (show 101 < 246 by omega) (o := 3070) (by decide +kernel) (by omega) ?_
  exact hfin2
set_option maxRecDepth 100000 in
set_option maxHeartbeats 4000000 in
theorem mrun_70 {p : Program} {l : Launch} {e : Env} {s : State} {m : MethodId} {args : Array Value} {below : List Frame} {meth : Method} {c : Code} {Q : State → Prop} {G : hG} {ad : Nat → Nat} {ct0 : Nat → Option va_E} {dn lk st0 : Int32} {i : Nat} {vv cv : Nat → Int32} {kdf : Nat → Int32} (S : CallFix p m c cX5_act 6 s args WS yX5_act.cls) (hE : gE G s) (hT : MTab G ct0 kdf) (hi : i < 300) {kk n : Nat} (hk11 : kk < 11) (hkk : kdf i = nI kk) (ih : RunM p l e s m args below meth c Q G ad ct0 dn lk st0 i vv cv kk n)
    (hok : okM kk (n + 1) 70 = true) (x : Int32) (Fs : List (Nat × Nat × Int32)) (P : List Int32) (q : St) (bb : Nat) (hq : q.2.2.1 = nI bb) (hbb : bb + cB (n + 1) < 2 ^ 30) (hF : Fs.length + (n + 1) ≤ 99) (hP : P.length + 3 * (n + 1) ≤ 299)
    (hfin : HeadW p l e s m args below meth c Q G ad ct0 dn lk st0 i vv cv Fs ((runS (n + 1) (nI (7 + kk)) (nI 70) x q).1 :: P) (runS (n + 1) (nI (7 + kk)) (nI 70) x q).2) : HeadW p l e s m args below meth c Q G ad ct0 dn lk st0 i vv cv ((70, stN 70, x) :: Fs) P (bgS (nI 70) q) := by
  rw [show cB (n + 1) = 1 + 3 * cB n from rfl] at hbb
  rw [okM_s, Bool.and_eq_true, callsT_70] at hok
  have hok2 := List.all_eq_true.mp hok.2
  have hfin2 := hfin
  rw [runS, if_neg (show ¬ nI 70 = 0 by decide), show bodyS (runS n (nI (7 + kk))) (nI (7 + kk)) (nI 70) x (bgS (nI 70) q) = _ from bodyS_70 _ _ _ _] at hfin2
  rw [show stN 70 = 102 from (by decide +kernel)]
  have hq0 := bgS_b (nI 70) hq
  refine it_step S hE hT (by omega) (show 102 < 246 by omega) (o := 1002) (by decide +kernel) (by omega) (P2 := (((bgS (nI 70) q)).2.1) :: P) (q2 := (bgS (nI 70) q)) (fun ct hM => c_X5_step_w l G ad ct hM (by (try simp only [List.length_cons]); omega) hi x) ?_
  refine it_step S hE hT (by omega) (show 103 < 246 by omega) (o := 1) (by decide +kernel) (by omega) (P2 := 1 :: (((bgS (nI 70) q)).2.1) :: P) (q2 := (bgS (nI 70) q)) (fun ct hM => c_X5_step_c l G ad ct hM (o := 1) (by omega) (by (try simp only [List.length_cons]); omega) x) ?_
  refine it_step S hE hT (by omega) (show 104 < 246 by omega) (o := 1003) (by decide +kernel) (by omega) (P2 := ((((bgS (nI 70) q)).2.1) + 1) :: P) (q2 := (bgS (nI 70) q)) (fun ct hM => c_X5_step_p l G ad ct hM (by (try simp only [List.length_cons]); omega) x) ?_
  refine it_step S hE hT (by omega) (show 105 < 246 by omega) (o := 1009) (by decide +kernel) (by omega) (P2 := P) (q2 := (((bgS (nI 70) q)).1, (((bgS (nI 70) q)).2.1) + 1, ((bgS (nI 70) q)).2.2)) (fun ct hM => c_X5_step_tc l G ad ct hM (by (try simp only [List.length_cons]); omega) hi x) ?_
  refine it_step S hE hT (by omega) (show 106 < 246 by omega) (o := 1002) (by decide +kernel) (by omega) (P2 := (((((bgS (nI 70) q)).1, (((bgS (nI 70) q)).2.1) + 1, ((bgS (nI 70) q)).2.2)).2.1) :: P) (q2 := (((bgS (nI 70) q)).1, (((bgS (nI 70) q)).2.1) + 1, ((bgS (nI 70) q)).2.2)) (fun ct hM => c_X5_step_w l G ad ct hM (by (try simp only [List.length_cons]); omega) hi x) ?_
  refine it_step S hE hT (by omega) (show 107 < 246 by omega) (o := 7) (by decide +kernel) (by omega) (P2 := 7 :: (((((bgS (nI 70) q)).1, (((bgS (nI 70) q)).2.1) + 1, ((bgS (nI 70) q)).2.2)).2.1) :: P) (q2 := (((bgS (nI 70) q)).1, (((bgS (nI 70) q)).2.1) + 1, ((bgS (nI 70) q)).2.2)) (fun ct hM => c_X5_step_c l G ad ct hM (o := 7) (by omega) (by (try simp only [List.length_cons]); omega) x) ?_
  refine it_step S hE hT (by omega) (show 108 < 246 by omega) (o := 1005) (by decide +kernel) (by omega) (P2 := ((((((bgS (nI 70) q)).1, (((bgS (nI 70) q)).2.1) + 1, ((bgS (nI 70) q)).2.2)).2.1) * 7) :: P) (q2 := (((bgS (nI 70) q)).1, (((bgS (nI 70) q)).2.1) + 1, ((bgS (nI 70) q)).2.2)) (fun ct hM => c_X5_step_t l G ad ct hM (by (try simp only [List.length_cons]); omega) x) ?_
  refine it_step S hE hT (by omega) (show 109 < 246 by omega) (o := 1000) (by decide +kernel) (by omega) (P2 := x :: ((((((bgS (nI 70) q)).1, (((bgS (nI 70) q)).2.1) + 1, ((bgS (nI 70) q)).2.2)).2.1) * 7) :: P) (q2 := (((bgS (nI 70) q)).1, (((bgS (nI 70) q)).2.1) + 1, ((bgS (nI 70) q)).2.2)) (fun ct hM => c_X5_step_x l G ad ct hM (by (try simp only [List.length_cons]); omega) x) ?_
  refine it_step S hE hT (by omega) (show 110 < 246 by omega) (o := 1003) (by decide +kernel) (by omega) (P2 := (((((((bgS (nI 70) q)).1, (((bgS (nI 70) q)).2.1) + 1, ((bgS (nI 70) q)).2.2)).2.1) * 7) + x) :: P) (q2 := (((bgS (nI 70) q)).1, (((bgS (nI 70) q)).2.1) + 1, ((bgS (nI 70) q)).2.2)) (fun ct hM => c_X5_step_p l G ad ct hM (by (try simp only [List.length_cons]); omega) x) ?_
  refine it_end S hE hT (by omega) (show 111 < 246 by omega) (o := 3100) (by decide +kernel) (by omega) ?_
  exact hfin2
set_option maxRecDepth 100000 in
set_option maxHeartbeats 4000000 in
theorem mrun_100 {p : Program} {l : Launch} {e : Env} {s : State} {m : MethodId} {args : Array Value} {below : List Frame} {meth : Method} {c : Code} {Q : State → Prop} {G : hG} {ad : Nat → Nat} {ct0 : Nat → Option va_E} {dn lk st0 : Int32} {i : Nat} {vv cv : Nat → Int32} {kdf : Nat → Int32} (S : CallFix p m c cX5_act 6 s args WS yX5_act.cls) (hE : gE G s) (hT : MTab G ct0 kdf) (hi : i < 300) {kk n : Nat} (hk11 : kk < 11) (hkk : kdf i = nI kk) (ih : RunM p l e s m args below meth c Q G ad ct0 dn lk st0 i vv cv kk n)
    (hok : okM kk (n + 1) 100 = true) (x : Int32) (Fs : List (Nat × Nat × Int32)) (P : List Int32) (q : St) (bb : Nat) (hq : q.2.2.1 = nI bb) (hbb : bb + cB (n + 1) < 2 ^ 30) (hF : Fs.length + (n + 1) ≤ 99) (hP : P.length + 3 * (n + 1) ≤ 299)
    (hfin : HeadW p l e s m args below meth c Q G ad ct0 dn lk st0 i vv cv Fs ((runS (n + 1) (nI (7 + kk)) (nI 100) x q).1 :: P) (runS (n + 1) (nI (7 + kk)) (nI 100) x q).2) : HeadW p l e s m args below meth c Q G ad ct0 dn lk st0 i vv cv ((100, stN 100, x) :: Fs) P (bgS (nI 100) q) := by
  rw [show cB (n + 1) = 1 + 3 * cB n from rfl] at hbb
  rw [okM_s, Bool.and_eq_true, callsT_100] at hok
  have hok2 := List.all_eq_true.mp hok.2
  have hfin2 := hfin
  rw [runS, if_neg (show ¬ nI 100 = 0 by decide), show bodyS (runS n (nI (7 + kk))) (nI (7 + kk)) (nI 100) x (bgS (nI 100) q) = _ from bodyS_100 _ _ _ _] at hfin2
  rw [show stN 100 = 112 from (by decide +kernel)]
  have hq0 := bgS_b (nI 100) hq
  refine it_step S hE hT (by omega) (show 112 < 246 by omega) (o := 1001) (by decide +kernel) (by omega) (P2 := (((bgS (nI 100) q)).1) :: P) (q2 := (bgS (nI 100) q)) (fun ct hM => c_X5_step_v l G ad ct hM (by (try simp only [List.length_cons]); omega) hi x) ?_
  refine it_step S hE hT (by omega) (show 113 < 246 by omega) (o := 1000) (by decide +kernel) (by omega) (P2 := x :: (((bgS (nI 100) q)).1) :: P) (q2 := (bgS (nI 100) q)) (fun ct hM => c_X5_step_x l G ad ct hM (by (try simp only [List.length_cons]); omega) x) ?_
  refine it_step S hE hT (by omega) (show 114 < 246 by omega) (o := 1003) (by decide +kernel) (by omega) (P2 := ((((bgS (nI 100) q)).1) + x) :: P) (q2 := (bgS (nI 100) q)) (fun ct hM => c_X5_step_p l G ad ct hM (by (try simp only [List.length_cons]); omega) x) ?_
  refine it_end S hE hT (by omega) (show 115 < 246 by omega) (o := 3101) (by decide +kernel) (by omega) ?_
  exact hfin2
set_option maxRecDepth 100000 in
set_option maxHeartbeats 4000000 in
theorem mrun_101 {p : Program} {l : Launch} {e : Env} {s : State} {m : MethodId} {args : Array Value} {below : List Frame} {meth : Method} {c : Code} {Q : State → Prop} {G : hG} {ad : Nat → Nat} {ct0 : Nat → Option va_E} {dn lk st0 : Int32} {i : Nat} {vv cv : Nat → Int32} {kdf : Nat → Int32} (S : CallFix p m c cX5_act 6 s args WS yX5_act.cls) (hE : gE G s) (hT : MTab G ct0 kdf) (hi : i < 300) {kk n : Nat} (hk11 : kk < 11) (hkk : kdf i = nI kk) (ih : RunM p l e s m args below meth c Q G ad ct0 dn lk st0 i vv cv kk n)
    (hok : okM kk (n + 1) 101 = true) (x : Int32) (Fs : List (Nat × Nat × Int32)) (P : List Int32) (q : St) (bb : Nat) (hq : q.2.2.1 = nI bb) (hbb : bb + cB (n + 1) < 2 ^ 30) (hF : Fs.length + (n + 1) ≤ 99) (hP : P.length + 3 * (n + 1) ≤ 299)
    (hfin : HeadW p l e s m args below meth c Q G ad ct0 dn lk st0 i vv cv Fs ((runS (n + 1) (nI (7 + kk)) (nI 101) x q).1 :: P) (runS (n + 1) (nI (7 + kk)) (nI 101) x q).2) : HeadW p l e s m args below meth c Q G ad ct0 dn lk st0 i vv cv ((101, stN 101, x) :: Fs) P (bgS (nI 101) q) := by
  rw [show cB (n + 1) = 1 + 3 * cB n from rfl] at hbb
  rw [okM_s, Bool.and_eq_true, callsT_101] at hok
  have hok2 := List.all_eq_true.mp hok.2
  have ho0 : okM kk n 60 = true := hok2 (1, 60) (by decide)
  have hfin2 := hfin
  rw [runS, if_neg (show ¬ nI 101 = 0 by decide), show bodyS (runS n (nI (7 + kk))) (nI (7 + kk)) (nI 101) x (bgS (nI 101) q) = _ from bodyS_101 _ _ _ _] at hfin2
  rw [show selOfF selT (parentF 7) 9 = nI 60 from (by decide +kernel)] at hfin2
  rw [show stN 101 = 116 from (by decide +kernel)]
  have hq0 := bgS_b (nI 101) hq
  refine it_step S hE hT (by omega) (show 116 < 246 by omega) (o := 1000) (by decide +kernel) (by omega) (P2 := x :: P) (q2 := (bgS (nI 101) q)) (fun ct hM => c_X5_step_x l G ad ct hM (by (try simp only [List.length_cons]); omega) x) ?_
  refine it_step S hE hT (by omega) (show 117 < 246 by omega) (o := 2) (by decide +kernel) (by omega) (P2 := 2 :: x :: P) (q2 := (bgS (nI 101) q)) (fun ct hM => c_X5_step_c l G ad ct hM (o := 2) (by omega) (by (try simp only [List.length_cons]); omega) x) ?_
  refine it_step S hE hT (by omega) (show 118 < 246 by omega) (o := 1003) (by decide +kernel) (by omega) (P2 := (x + 2) :: P) (q2 := (bgS (nI 101) q)) (fun ct hM => c_X5_step_p l G ad ct hM (by (try simp only [List.length_cons]); omega) x) ?_
  refine it_sup S hE hT (by omega) (show 119 < 246 by omega) hq0 (show (bb + 1) < 2 ^ 30 by omega) (by omega) (body_st 60 (by decide)).2 (by omega) (by (try simp only [List.length_cons]); omega) (a := 9) (pp := 7) (by omega) (by omega) (by decide +kernel) (by omega) (by decide +kernel) (by decide +kernel) ?_
  refine ih 60 ho0 (x + 2) _ (P) ((bgS (nI 101) q)) (bb + 1) hq0 (by omega) (by (try simp only [List.length_cons]); omega) (by (try simp only [List.length_cons]); omega) ?_
  obtain ⟨b1, hq1, hlo1, hhi1⟩ := gr_run (nI (7 + kk)) n (nI 60) (x + 2) ((bgS (nI 101) q)) (bb + 1) hq0
  refine it_step S hE hT (by omega) (show 120 < 246 by omega) (o := 1) (by decide +kernel) (by omega) (P2 := 1 :: ((runS n (nI (7 + kk)) (nI 60) (x + 2) ((bgS (nI 101) q))).1) :: P) (q2 := (runS n (nI (7 + kk)) (nI 60) (x + 2) ((bgS (nI 101) q))).2) (fun ct hM => c_X5_step_c l G ad ct hM (o := 1) (by omega) (by (try simp only [List.length_cons]); omega) x) ?_
  refine it_step S hE hT (by omega) (show 121 < 246 by omega) (o := 1003) (by decide +kernel) (by omega) (P2 := (((runS n (nI (7 + kk)) (nI 60) (x + 2) ((bgS (nI 101) q))).1) + 1) :: P) (q2 := (runS n (nI (7 + kk)) (nI 60) (x + 2) ((bgS (nI 101) q))).2) (fun ct hM => c_X5_step_p l G ad ct hM (by (try simp only [List.length_cons]); omega) x) ?_
  refine it_end S hE hT (by omega) (show 122 < 246 by omega) (o := 3110) (by decide +kernel) (by omega) ?_
  exact hfin2
set_option maxRecDepth 100000 in
set_option maxHeartbeats 4000000 in
theorem mrun_110 {p : Program} {l : Launch} {e : Env} {s : State} {m : MethodId} {args : Array Value} {below : List Frame} {meth : Method} {c : Code} {Q : State → Prop} {G : hG} {ad : Nat → Nat} {ct0 : Nat → Option va_E} {dn lk st0 : Int32} {i : Nat} {vv cv : Nat → Int32} {kdf : Nat → Int32} (S : CallFix p m c cX5_act 6 s args WS yX5_act.cls) (hE : gE G s) (hT : MTab G ct0 kdf) (hi : i < 300) {kk n : Nat} (hk11 : kk < 11) (hkk : kdf i = nI kk) (ih : RunM p l e s m args below meth c Q G ad ct0 dn lk st0 i vv cv kk n)
    (hok : okM kk (n + 1) 110 = true) (x : Int32) (Fs : List (Nat × Nat × Int32)) (P : List Int32) (q : St) (bb : Nat) (hq : q.2.2.1 = nI bb) (hbb : bb + cB (n + 1) < 2 ^ 30) (hF : Fs.length + (n + 1) ≤ 99) (hP : P.length + 3 * (n + 1) ≤ 299)
    (hfin : HeadW p l e s m args below meth c Q G ad ct0 dn lk st0 i vv cv Fs ((runS (n + 1) (nI (7 + kk)) (nI 110) x q).1 :: P) (runS (n + 1) (nI (7 + kk)) (nI 110) x q).2) : HeadW p l e s m args below meth c Q G ad ct0 dn lk st0 i vv cv ((110, stN 110, x) :: Fs) P (bgS (nI 110) q) := by
  rw [show cB (n + 1) = 1 + 3 * cB n from rfl] at hbb
  rw [okM_s, Bool.and_eq_true, callsT_110] at hok
  have hok2 := List.all_eq_true.mp hok.2
  have ho0 : okM kk n 61 = true := hok2 (1, 61) (by decide)
  have ho1 : okM kk n 112 = true := hok2 (1, 112) (by decide)
  have hfin2 := hfin
  rw [runS, if_neg (show ¬ nI 110 = 0 by decide), show bodyS (runS n (nI (7 + kk))) (nI (7 + kk)) (nI 110) x (bgS (nI 110) q) = _ from bodyS_110 _ _ _ _] at hfin2
  rw [show selOfF selT (parentF 8) 10 = nI 61 from (by decide +kernel)] at hfin2
  rw [show (112 : Int32) = nI 112 from rfl] at hfin2
  rw [show stN 110 = 123 from (by decide +kernel)]
  have hq0 := bgS_b (nI 110) hq
  refine it_step S hE hT (by omega) (show 123 < 246 by omega) (o := 1000) (by decide +kernel) (by omega) (P2 := x :: P) (q2 := (bgS (nI 110) q)) (fun ct hM => c_X5_step_x l G ad ct hM (by (try simp only [List.length_cons]); omega) x) ?_
  refine it_sup S hE hT (by omega) (show 124 < 246 by omega) hq0 (show (bb + 1) < 2 ^ 30 by omega) (by omega) (body_st 61 (by decide)).2 (by omega) (by (try simp only [List.length_cons]); omega) (a := 10) (pp := 7) (by omega) (by omega) (by decide +kernel) (by omega) (by decide +kernel) (by decide +kernel) ?_
  refine ih 61 ho0 x _ (P) ((bgS (nI 110) q)) (bb + 1) hq0 (by omega) (by (try simp only [List.length_cons]); omega) (by (try simp only [List.length_cons]); omega) ?_
  obtain ⟨b1, hq1, hlo1, hhi1⟩ := gr_run (nI (7 + kk)) n (nI 61) x ((bgS (nI 110) q)) (bb + 1) hq0
  refine it_step S hE hT (by omega) (show 125 < 246 by omega) (o := 2) (by decide +kernel) (by omega) (P2 := 2 :: ((runS n (nI (7 + kk)) (nI 61) x ((bgS (nI 110) q))).1) :: P) (q2 := (runS n (nI (7 + kk)) (nI 61) x ((bgS (nI 110) q))).2) (fun ct hM => c_X5_step_c l G ad ct hM (o := 2) (by omega) (by (try simp only [List.length_cons]); omega) x) ?_
  refine it_step S hE hT (by omega) (show 126 < 246 by omega) (o := 1005) (by decide +kernel) (by omega) (P2 := (((runS n (nI (7 + kk)) (nI 61) x ((bgS (nI 110) q))).1) * 2) :: P) (q2 := (runS n (nI (7 + kk)) (nI 61) x ((bgS (nI 110) q))).2) (fun ct hM => c_X5_step_t l G ad ct hM (by (try simp only [List.length_cons]); omega) x) ?_
  refine it_step S hE hT (by omega) (show 127 < 246 by omega) (o := 1000) (by decide +kernel) (by omega) (P2 := x :: (((runS n (nI (7 + kk)) (nI 61) x ((bgS (nI 110) q))).1) * 2) :: P) (q2 := (runS n (nI (7 + kk)) (nI 61) x ((bgS (nI 110) q))).2) (fun ct hM => c_X5_step_x l G ad ct hM (by (try simp only [List.length_cons]); omega) x) ?_
  refine it_own S hE hT (by omega) (show 128 < 246 by omega) hq1 (show b1 < 2 ^ 30 by omega) (by omega) (body_st 112 (by decide)).2 (by omega) (by (try simp only [List.length_cons]); omega) (by decide +kernel) ?_
  refine ih 112 ho1 x _ ((((runS n (nI (7 + kk)) (nI 61) x ((bgS (nI 110) q))).1) * 2) :: P) ((runS n (nI (7 + kk)) (nI 61) x ((bgS (nI 110) q))).2) b1 hq1 (by omega) (by (try simp only [List.length_cons]); omega) (by (try simp only [List.length_cons]); omega) ?_
  obtain ⟨b2, hq2, hlo2, hhi2⟩ := gr_run (nI (7 + kk)) n (nI 112) x ((runS n (nI (7 + kk)) (nI 61) x ((bgS (nI 110) q))).2) b1 hq1
  refine it_step S hE hT (by omega) (show 129 < 246 by omega) (o := 1003) (by decide +kernel) (by omega) (P2 := ((((runS n (nI (7 + kk)) (nI 61) x ((bgS (nI 110) q))).1) * 2) + ((runS n (nI (7 + kk)) (nI 112) x ((runS n (nI (7 + kk)) (nI 61) x ((bgS (nI 110) q))).2)).1)) :: P) (q2 := (runS n (nI (7 + kk)) (nI 112) x ((runS n (nI (7 + kk)) (nI 61) x ((bgS (nI 110) q))).2)).2) (fun ct hM => c_X5_step_p l G ad ct hM (by (try simp only [List.length_cons]); omega) x) ?_
  refine it_end S hE hT (by omega) (show 130 < 246 by omega) (o := 3111) (by decide +kernel) (by omega) ?_
  exact hfin2
set_option maxRecDepth 100000 in
set_option maxHeartbeats 4000000 in
theorem mrun_111 {p : Program} {l : Launch} {e : Env} {s : State} {m : MethodId} {args : Array Value} {below : List Frame} {meth : Method} {c : Code} {Q : State → Prop} {G : hG} {ad : Nat → Nat} {ct0 : Nat → Option va_E} {dn lk st0 : Int32} {i : Nat} {vv cv : Nat → Int32} {kdf : Nat → Int32} (S : CallFix p m c cX5_act 6 s args WS yX5_act.cls) (hE : gE G s) (hT : MTab G ct0 kdf) (hi : i < 300) {kk n : Nat} (hk11 : kk < 11) (hkk : kdf i = nI kk) (ih : RunM p l e s m args below meth c Q G ad ct0 dn lk st0 i vv cv kk n)
    (hok : okM kk (n + 1) 111 = true) (x : Int32) (Fs : List (Nat × Nat × Int32)) (P : List Int32) (q : St) (bb : Nat) (hq : q.2.2.1 = nI bb) (hbb : bb + cB (n + 1) < 2 ^ 30) (hF : Fs.length + (n + 1) ≤ 99) (hP : P.length + 3 * (n + 1) ≤ 299)
    (hfin : HeadW p l e s m args below meth c Q G ad ct0 dn lk st0 i vv cv Fs ((runS (n + 1) (nI (7 + kk)) (nI 111) x q).1 :: P) (runS (n + 1) (nI (7 + kk)) (nI 111) x q).2) : HeadW p l e s m args below meth c Q G ad ct0 dn lk st0 i vv cv ((111, stN 111, x) :: Fs) P (bgS (nI 111) q) := by
  rw [show cB (n + 1) = 1 + 3 * cB n from rfl] at hbb
  rw [okM_s, Bool.and_eq_true, callsT_111] at hok
  have hok2 := List.all_eq_true.mp hok.2
  have ho0 : okM kk n 20 = true := hok2 (1, 20) (by decide)
  have hfin2 := hfin
  rw [runS, if_neg (show ¬ nI 111 = 0 by decide), show bodyS (runS n (nI (7 + kk))) (nI (7 + kk)) (nI 111) x (bgS (nI 111) q) = _ from bodyS_111 _ _ _ _] at hfin2
  rw [show selOfF selT 3 4 = nI 20 from (by decide +kernel)] at hfin2
  rw [show stN 111 = 131 from (by decide +kernel)]
  have hq0 := bgS_b (nI 111) hq
  refine it_step S hE hT (by omega) (show 131 < 246 by omega) (o := 1000) (by decide +kernel) (by omega) (P2 := x :: P) (q2 := (bgS (nI 111) q)) (fun ct hM => c_X5_step_x l G ad ct hM (by (try simp only [List.length_cons]); omega) x) ?_
  refine it_of S hE hT (by omega) (show 132 < 246 by omega) hq0 (show (bb + 1) < 2 ^ 30 by omega) (by omega) (body_st 20 (by decide)).2 (by omega) (by (try simp only [List.length_cons]); omega) (k0 := 16) (by omega) (by decide +kernel) (by decide +kernel) ?_
  refine ih 20 ho0 x _ (P) ((bgS (nI 111) q)) (bb + 1) hq0 (by omega) (by (try simp only [List.length_cons]); omega) (by (try simp only [List.length_cons]); omega) ?_
  obtain ⟨b1, hq1, hlo1, hhi1⟩ := gr_run (nI (7 + kk)) n (nI 20) x ((bgS (nI 111) q)) (bb + 1) hq0
  refine it_step S hE hT (by omega) (show 133 < 246 by omega) (o := 1) (by decide +kernel) (by omega) (P2 := 1 :: ((runS n (nI (7 + kk)) (nI 20) x ((bgS (nI 111) q))).1) :: P) (q2 := (runS n (nI (7 + kk)) (nI 20) x ((bgS (nI 111) q))).2) (fun ct hM => c_X5_step_c l G ad ct hM (o := 1) (by omega) (by (try simp only [List.length_cons]); omega) x) ?_
  refine it_step S hE hT (by omega) (show 134 < 246 by omega) (o := 1004) (by decide +kernel) (by omega) (P2 := (((runS n (nI (7 + kk)) (nI 20) x ((bgS (nI 111) q))).1) - 1) :: P) (q2 := (runS n (nI (7 + kk)) (nI 20) x ((bgS (nI 111) q))).2) (fun ct hM => c_X5_step_l l G ad ct hM (by (try simp only [List.length_cons]); omega) x) ?_
  refine it_end S hE hT (by omega) (show 135 < 246 by omega) (o := 3112) (by decide +kernel) (by omega) ?_
  exact hfin2
set_option maxRecDepth 100000 in
set_option maxHeartbeats 4000000 in
theorem mrun_112 {p : Program} {l : Launch} {e : Env} {s : State} {m : MethodId} {args : Array Value} {below : List Frame} {meth : Method} {c : Code} {Q : State → Prop} {G : hG} {ad : Nat → Nat} {ct0 : Nat → Option va_E} {dn lk st0 : Int32} {i : Nat} {vv cv : Nat → Int32} {kdf : Nat → Int32} (S : CallFix p m c cX5_act 6 s args WS yX5_act.cls) (hE : gE G s) (hT : MTab G ct0 kdf) (hi : i < 300) {kk n : Nat} (hk11 : kk < 11) (hkk : kdf i = nI kk) (ih : RunM p l e s m args below meth c Q G ad ct0 dn lk st0 i vv cv kk n)
    (hok : okM kk (n + 1) 112 = true) (x : Int32) (Fs : List (Nat × Nat × Int32)) (P : List Int32) (q : St) (bb : Nat) (hq : q.2.2.1 = nI bb) (hbb : bb + cB (n + 1) < 2 ^ 30) (hF : Fs.length + (n + 1) ≤ 99) (hP : P.length + 3 * (n + 1) ≤ 299)
    (hfin : HeadW p l e s m args below meth c Q G ad ct0 dn lk st0 i vv cv Fs ((runS (n + 1) (nI (7 + kk)) (nI 112) x q).1 :: P) (runS (n + 1) (nI (7 + kk)) (nI 112) x q).2) : HeadW p l e s m args below meth c Q G ad ct0 dn lk st0 i vv cv ((112, stN 112, x) :: Fs) P (bgS (nI 112) q) := by
  rw [show cB (n + 1) = 1 + 3 * cB n from rfl] at hbb
  rw [okM_s, Bool.and_eq_true, callsT_112] at hok
  have hok2 := List.all_eq_true.mp hok.2
  have hfin2 := hfin
  rw [runS, if_neg (show ¬ nI 112 = 0 by decide), show bodyS (runS n (nI (7 + kk))) (nI (7 + kk)) (nI 112) x (bgS (nI 112) q) = _ from bodyS_112 _ _ _ _] at hfin2
  rw [show stN 112 = 136 from (by decide +kernel)]
  have hq0 := bgS_b (nI 112) hq
  refine it_step S hE hT (by omega) (show 136 < 246 by omega) (o := 1002) (by decide +kernel) (by omega) (P2 := (((bgS (nI 112) q)).2.1) :: P) (q2 := (bgS (nI 112) q)) (fun ct hM => c_X5_step_w l G ad ct hM (by (try simp only [List.length_cons]); omega) hi x) ?_
  refine it_step S hE hT (by omega) (show 137 < 246 by omega) (o := 1000) (by decide +kernel) (by omega) (P2 := x :: (((bgS (nI 112) q)).2.1) :: P) (q2 := (bgS (nI 112) q)) (fun ct hM => c_X5_step_x l G ad ct hM (by (try simp only [List.length_cons]); omega) x) ?_
  refine it_step S hE hT (by omega) (show 138 < 246 by omega) (o := 1004) (by decide +kernel) (by omega) (P2 := ((((bgS (nI 112) q)).2.1) - x) :: P) (q2 := (bgS (nI 112) q)) (fun ct hM => c_X5_step_l l G ad ct hM (by (try simp only [List.length_cons]); omega) x) ?_
  refine it_end S hE hT (by omega) (show 139 < 246 by omega) (o := 3120) (by decide +kernel) (by omega) ?_
  exact hfin2
set_option maxRecDepth 100000 in
set_option maxHeartbeats 4000000 in
theorem mrun_120 {p : Program} {l : Launch} {e : Env} {s : State} {m : MethodId} {args : Array Value} {below : List Frame} {meth : Method} {c : Code} {Q : State → Prop} {G : hG} {ad : Nat → Nat} {ct0 : Nat → Option va_E} {dn lk st0 : Int32} {i : Nat} {vv cv : Nat → Int32} {kdf : Nat → Int32} (S : CallFix p m c cX5_act 6 s args WS yX5_act.cls) (hE : gE G s) (hT : MTab G ct0 kdf) (hi : i < 300) {kk n : Nat} (hk11 : kk < 11) (hkk : kdf i = nI kk) (ih : RunM p l e s m args below meth c Q G ad ct0 dn lk st0 i vv cv kk n)
    (hok : okM kk (n + 1) 120 = true) (x : Int32) (Fs : List (Nat × Nat × Int32)) (P : List Int32) (q : St) (bb : Nat) (hq : q.2.2.1 = nI bb) (hbb : bb + cB (n + 1) < 2 ^ 30) (hF : Fs.length + (n + 1) ≤ 99) (hP : P.length + 3 * (n + 1) ≤ 299)
    (hfin : HeadW p l e s m args below meth c Q G ad ct0 dn lk st0 i vv cv Fs ((runS (n + 1) (nI (7 + kk)) (nI 120) x q).1 :: P) (runS (n + 1) (nI (7 + kk)) (nI 120) x q).2) : HeadW p l e s m args below meth c Q G ad ct0 dn lk st0 i vv cv ((120, stN 120, x) :: Fs) P (bgS (nI 120) q) := by
  rw [show cB (n + 1) = 1 + 3 * cB n from rfl] at hbb
  rw [okM_s, Bool.and_eq_true, callsT_120] at hok
  have hok2 := List.all_eq_true.mp hok.2
  have hx0 : (vdT kk 5 && okM kk n (doB kk 5)) = true := hok2 (0, 5) (by decide)
  rw [Bool.and_eq_true] at hx0
  have hv0 := hx0.1
  have ho0 := hx0.2
  have hfin2 := hfin
  rw [runS, if_neg (show ¬ nI 120 = 0 by decide), show bodyS (runS n (nI (7 + kk))) (nI (7 + kk)) (nI 120) x (bgS (nI 120) q) = _ from bodyS_120 _ _ _ _] at hfin2
  obtain ⟨hc0, hn0, hs0, hl0⟩ := do_val kk hk11 5 (by omega) hv0
  rw [show selOfF selT (nI (7 + kk)) 5 = nI (doB kk 5) from hl0] at hfin2
  rw [show stN 120 = 140 from (by decide +kernel)]
  have hq0 := bgS_b (nI 120) hq
  refine it_step S hE hT (by omega) (show 140 < 246 by omega) (o := 1000) (by decide +kernel) (by omega) (P2 := x :: P) (q2 := (bgS (nI 120) q)) (fun ct hM => c_X5_step_x l G ad ct hM (by (try simp only [List.length_cons]); omega) x) ?_
  refine it_do S hE hT (by omega) (show 141 < 246 by omega) hq0 (show (bb + 1) < 2 ^ 30 by omega) hn0 hs0 (by omega) (by (try simp only [List.length_cons]); omega) (by omega) hi hkk hk11 hc0 (by decide +kernel) ?_
  refine ih (doB kk 5) ho0 x _ (P) ((bgS (nI 120) q)) (bb + 1) hq0 (by omega) (by (try simp only [List.length_cons]); omega) (by (try simp only [List.length_cons]); omega) ?_
  obtain ⟨b1, hq1, hlo1, hhi1⟩ := gr_run (nI (7 + kk)) n (nI (doB kk 5)) x ((bgS (nI 120) q)) (bb + 1) hq0
  refine it_step S hE hT (by omega) (show 142 < 246 by omega) (o := 3) (by decide +kernel) (by omega) (P2 := 3 :: ((runS n (nI (7 + kk)) (nI (doB kk 5)) x ((bgS (nI 120) q))).1) :: P) (q2 := (runS n (nI (7 + kk)) (nI (doB kk 5)) x ((bgS (nI 120) q))).2) (fun ct hM => c_X5_step_c l G ad ct hM (o := 3) (by omega) (by (try simp only [List.length_cons]); omega) x) ?_
  refine it_step S hE hT (by omega) (show 143 < 246 by omega) (o := 1005) (by decide +kernel) (by omega) (P2 := (((runS n (nI (7 + kk)) (nI (doB kk 5)) x ((bgS (nI 120) q))).1) * 3) :: P) (q2 := (runS n (nI (7 + kk)) (nI (doB kk 5)) x ((bgS (nI 120) q))).2) (fun ct hM => c_X5_step_t l G ad ct hM (by (try simp only [List.length_cons]); omega) x) ?_
  refine it_step S hE hT (by omega) (show 144 < 246 by omega) (o := 1001) (by decide +kernel) (by omega) (P2 := (((runS n (nI (7 + kk)) (nI (doB kk 5)) x ((bgS (nI 120) q))).2).1) :: (((runS n (nI (7 + kk)) (nI (doB kk 5)) x ((bgS (nI 120) q))).1) * 3) :: P) (q2 := (runS n (nI (7 + kk)) (nI (doB kk 5)) x ((bgS (nI 120) q))).2) (fun ct hM => c_X5_step_v l G ad ct hM (by (try simp only [List.length_cons]); omega) hi x) ?_
  refine it_step S hE hT (by omega) (show 145 < 246 by omega) (o := 1003) (by decide +kernel) (by omega) (P2 := ((((runS n (nI (7 + kk)) (nI (doB kk 5)) x ((bgS (nI 120) q))).1) * 3) + (((runS n (nI (7 + kk)) (nI (doB kk 5)) x ((bgS (nI 120) q))).2).1)) :: P) (q2 := (runS n (nI (7 + kk)) (nI (doB kk 5)) x ((bgS (nI 120) q))).2) (fun ct hM => c_X5_step_p l G ad ct hM (by (try simp only [List.length_cons]); omega) x) ?_
  refine it_end S hE hT (by omega) (show 146 < 246 by omega) (o := 3130) (by decide +kernel) (by omega) ?_
  exact hfin2
set_option maxRecDepth 100000 in
set_option maxHeartbeats 4000000 in
theorem mrun_130 {p : Program} {l : Launch} {e : Env} {s : State} {m : MethodId} {args : Array Value} {below : List Frame} {meth : Method} {c : Code} {Q : State → Prop} {G : hG} {ad : Nat → Nat} {ct0 : Nat → Option va_E} {dn lk st0 : Int32} {i : Nat} {vv cv : Nat → Int32} {kdf : Nat → Int32} (S : CallFix p m c cX5_act 6 s args WS yX5_act.cls) (hE : gE G s) (hT : MTab G ct0 kdf) (hi : i < 300) {kk n : Nat} (hk11 : kk < 11) (hkk : kdf i = nI kk) (ih : RunM p l e s m args below meth c Q G ad ct0 dn lk st0 i vv cv kk n)
    (hok : okM kk (n + 1) 130 = true) (x : Int32) (Fs : List (Nat × Nat × Int32)) (P : List Int32) (q : St) (bb : Nat) (hq : q.2.2.1 = nI bb) (hbb : bb + cB (n + 1) < 2 ^ 30) (hF : Fs.length + (n + 1) ≤ 99) (hP : P.length + 3 * (n + 1) ≤ 299)
    (hfin : HeadW p l e s m args below meth c Q G ad ct0 dn lk st0 i vv cv Fs ((runS (n + 1) (nI (7 + kk)) (nI 130) x q).1 :: P) (runS (n + 1) (nI (7 + kk)) (nI 130) x q).2) : HeadW p l e s m args below meth c Q G ad ct0 dn lk st0 i vv cv ((130, stN 130, x) :: Fs) P (bgS (nI 130) q) := by
  rw [show cB (n + 1) = 1 + 3 * cB n from rfl] at hbb
  rw [okM_s, Bool.and_eq_true, callsT_130] at hok
  have hok2 := List.all_eq_true.mp hok.2
  have ho0 : okM kk n 100 = true := hok2 (1, 100) (by decide)
  have hfin2 := hfin
  rw [runS, if_neg (show ¬ nI 130 = 0 by decide), show bodyS (runS n (nI (7 + kk))) (nI (7 + kk)) (nI 130) x (bgS (nI 130) q) = _ from bodyS_130 _ _ _ _] at hfin2
  rw [show selOfF selT (parentF 10) 0 = nI 100 from (by decide +kernel)] at hfin2
  rw [show stN 130 = 147 from (by decide +kernel)]
  have hq0 := bgS_b (nI 130) hq
  refine it_step S hE hT (by omega) (show 147 < 246 by omega) (o := 1000) (by decide +kernel) (by omega) (P2 := x :: P) (q2 := (bgS (nI 130) q)) (fun ct hM => c_X5_step_x l G ad ct hM (by (try simp only [List.length_cons]); omega) x) ?_
  refine it_sup S hE hT (by omega) (show 148 < 246 by omega) hq0 (show (bb + 1) < 2 ^ 30 by omega) (by omega) (body_st 100 (by decide)).2 (by omega) (by (try simp only [List.length_cons]); omega) (a := 0) (pp := 10) (by omega) (by omega) (by decide +kernel) (by omega) (by decide +kernel) (by decide +kernel) ?_
  refine ih 100 ho0 x _ (P) ((bgS (nI 130) q)) (bb + 1) hq0 (by omega) (by (try simp only [List.length_cons]); omega) (by (try simp only [List.length_cons]); omega) ?_
  obtain ⟨b1, hq1, hlo1, hhi1⟩ := gr_run (nI (7 + kk)) n (nI 100) x ((bgS (nI 130) q)) (bb + 1) hq0
  refine it_step S hE hT (by omega) (show 149 < 246 by omega) (o := 3) (by decide +kernel) (by omega) (P2 := 3 :: ((runS n (nI (7 + kk)) (nI 100) x ((bgS (nI 130) q))).1) :: P) (q2 := (runS n (nI (7 + kk)) (nI 100) x ((bgS (nI 130) q))).2) (fun ct hM => c_X5_step_c l G ad ct hM (o := 3) (by omega) (by (try simp only [List.length_cons]); omega) x) ?_
  refine it_step S hE hT (by omega) (show 150 < 246 by omega) (o := 1005) (by decide +kernel) (by omega) (P2 := (((runS n (nI (7 + kk)) (nI 100) x ((bgS (nI 130) q))).1) * 3) :: P) (q2 := (runS n (nI (7 + kk)) (nI 100) x ((bgS (nI 130) q))).2) (fun ct hM => c_X5_step_t l G ad ct hM (by (try simp only [List.length_cons]); omega) x) ?_
  refine it_end S hE hT (by omega) (show 151 < 246 by omega) (o := 3131) (by decide +kernel) (by omega) ?_
  exact hfin2
set_option maxRecDepth 100000 in
set_option maxHeartbeats 4000000 in
theorem mrun_131 {p : Program} {l : Launch} {e : Env} {s : State} {m : MethodId} {args : Array Value} {below : List Frame} {meth : Method} {c : Code} {Q : State → Prop} {G : hG} {ad : Nat → Nat} {ct0 : Nat → Option va_E} {dn lk st0 : Int32} {i : Nat} {vv cv : Nat → Int32} {kdf : Nat → Int32} (S : CallFix p m c cX5_act 6 s args WS yX5_act.cls) (hE : gE G s) (hT : MTab G ct0 kdf) (hi : i < 300) {kk n : Nat} (hk11 : kk < 11) (hkk : kdf i = nI kk) (ih : RunM p l e s m args below meth c Q G ad ct0 dn lk st0 i vv cv kk n)
    (hok : okM kk (n + 1) 131 = true) (x : Int32) (Fs : List (Nat × Nat × Int32)) (P : List Int32) (q : St) (bb : Nat) (hq : q.2.2.1 = nI bb) (hbb : bb + cB (n + 1) < 2 ^ 30) (hF : Fs.length + (n + 1) ≤ 99) (hP : P.length + 3 * (n + 1) ≤ 299)
    (hfin : HeadW p l e s m args below meth c Q G ad ct0 dn lk st0 i vv cv Fs ((runS (n + 1) (nI (7 + kk)) (nI 131) x q).1 :: P) (runS (n + 1) (nI (7 + kk)) (nI 131) x q).2) : HeadW p l e s m args below meth c Q G ad ct0 dn lk st0 i vv cv ((131, stN 131, x) :: Fs) P (bgS (nI 131) q) := by
  rw [show cB (n + 1) = 1 + 3 * cB n from rfl] at hbb
  rw [okM_s, Bool.and_eq_true, callsT_131] at hok
  have hok2 := List.all_eq_true.mp hok.2
  have ho0 : okM kk n 10 = true := hok2 (1, 10) (by decide)
  have hfin2 := hfin
  rw [runS, if_neg (show ¬ nI 131 = 0 by decide), show bodyS (runS n (nI (7 + kk))) (nI (7 + kk)) (nI 131) x (bgS (nI 131) q) = _ from bodyS_131 _ _ _ _] at hfin2
  rw [show selOfF selT (parentF 10) 1 = nI 10 from (by decide +kernel)] at hfin2
  rw [show stN 131 = 152 from (by decide +kernel)]
  have hq0 := bgS_b (nI 131) hq
  refine it_step S hE hT (by omega) (show 152 < 246 by omega) (o := 1000) (by decide +kernel) (by omega) (P2 := x :: P) (q2 := (bgS (nI 131) q)) (fun ct hM => c_X5_step_x l G ad ct hM (by (try simp only [List.length_cons]); omega) x) ?_
  refine it_step S hE hT (by omega) (show 153 < 246 by omega) (o := 1) (by decide +kernel) (by omega) (P2 := 1 :: x :: P) (q2 := (bgS (nI 131) q)) (fun ct hM => c_X5_step_c l G ad ct hM (o := 1) (by omega) (by (try simp only [List.length_cons]); omega) x) ?_
  refine it_step S hE hT (by omega) (show 154 < 246 by omega) (o := 1003) (by decide +kernel) (by omega) (P2 := (x + 1) :: P) (q2 := (bgS (nI 131) q)) (fun ct hM => c_X5_step_p l G ad ct hM (by (try simp only [List.length_cons]); omega) x) ?_
  refine it_sup S hE hT (by omega) (show 155 < 246 by omega) hq0 (show (bb + 1) < 2 ^ 30 by omega) (by omega) (body_st 10 (by decide)).2 (by omega) (by (try simp only [List.length_cons]); omega) (a := 1) (pp := 10) (by omega) (by omega) (by decide +kernel) (by omega) (by decide +kernel) (by decide +kernel) ?_
  refine ih 10 ho0 (x + 1) _ (P) ((bgS (nI 131) q)) (bb + 1) hq0 (by omega) (by (try simp only [List.length_cons]); omega) (by (try simp only [List.length_cons]); omega) ?_
  obtain ⟨b1, hq1, hlo1, hhi1⟩ := gr_run (nI (7 + kk)) n (nI 10) (x + 1) ((bgS (nI 131) q)) (bb + 1) hq0
  refine it_step S hE hT (by omega) (show 156 < 246 by omega) (o := 5) (by decide +kernel) (by omega) (P2 := 5 :: ((runS n (nI (7 + kk)) (nI 10) (x + 1) ((bgS (nI 131) q))).1) :: P) (q2 := (runS n (nI (7 + kk)) (nI 10) (x + 1) ((bgS (nI 131) q))).2) (fun ct hM => c_X5_step_c l G ad ct hM (o := 5) (by omega) (by (try simp only [List.length_cons]); omega) x) ?_
  refine it_step S hE hT (by omega) (show 157 < 246 by omega) (o := 1003) (by decide +kernel) (by omega) (P2 := (((runS n (nI (7 + kk)) (nI 10) (x + 1) ((bgS (nI 131) q))).1) + 5) :: P) (q2 := (runS n (nI (7 + kk)) (nI 10) (x + 1) ((bgS (nI 131) q))).2) (fun ct hM => c_X5_step_p l G ad ct hM (by (try simp only [List.length_cons]); omega) x) ?_
  refine it_end S hE hT (by omega) (show 158 < 246 by omega) (o := 3140) (by decide +kernel) (by omega) ?_
  exact hfin2
set_option maxRecDepth 100000 in
set_option maxHeartbeats 4000000 in
theorem mrun_140 {p : Program} {l : Launch} {e : Env} {s : State} {m : MethodId} {args : Array Value} {below : List Frame} {meth : Method} {c : Code} {Q : State → Prop} {G : hG} {ad : Nat → Nat} {ct0 : Nat → Option va_E} {dn lk st0 : Int32} {i : Nat} {vv cv : Nat → Int32} {kdf : Nat → Int32} (S : CallFix p m c cX5_act 6 s args WS yX5_act.cls) (hE : gE G s) (hT : MTab G ct0 kdf) (hi : i < 300) {kk n : Nat} (hk11 : kk < 11) (hkk : kdf i = nI kk) (ih : RunM p l e s m args below meth c Q G ad ct0 dn lk st0 i vv cv kk n)
    (hok : okM kk (n + 1) 140 = true) (x : Int32) (Fs : List (Nat × Nat × Int32)) (P : List Int32) (q : St) (bb : Nat) (hq : q.2.2.1 = nI bb) (hbb : bb + cB (n + 1) < 2 ^ 30) (hF : Fs.length + (n + 1) ≤ 99) (hP : P.length + 3 * (n + 1) ≤ 299)
    (hfin : HeadW p l e s m args below meth c Q G ad ct0 dn lk st0 i vv cv Fs ((runS (n + 1) (nI (7 + kk)) (nI 140) x q).1 :: P) (runS (n + 1) (nI (7 + kk)) (nI 140) x q).2) : HeadW p l e s m args below meth c Q G ad ct0 dn lk st0 i vv cv ((140, stN 140, x) :: Fs) P (bgS (nI 140) q) := by
  rw [show cB (n + 1) = 1 + 3 * cB n from rfl] at hbb
  rw [okM_s, Bool.and_eq_true, callsT_140] at hok
  have hok2 := List.all_eq_true.mp hok.2
  have hfin2 := hfin
  rw [runS, if_neg (show ¬ nI 140 = 0 by decide), show bodyS (runS n (nI (7 + kk))) (nI (7 + kk)) (nI 140) x (bgS (nI 140) q) = _ from bodyS_140 _ _ _ _] at hfin2
  rw [show stN 140 = 159 from (by decide +kernel)]
  have hq0 := bgS_b (nI 140) hq
  refine it_step S hE hT (by omega) (show 159 < 246 by omega) (o := 1001) (by decide +kernel) (by omega) (P2 := (((bgS (nI 140) q)).1) :: P) (q2 := (bgS (nI 140) q)) (fun ct hM => c_X5_step_v l G ad ct hM (by (try simp only [List.length_cons]); omega) hi x) ?_
  refine it_step S hE hT (by omega) (show 160 < 246 by omega) (o := 1000) (by decide +kernel) (by omega) (P2 := x :: (((bgS (nI 140) q)).1) :: P) (q2 := (bgS (nI 140) q)) (fun ct hM => c_X5_step_x l G ad ct hM (by (try simp only [List.length_cons]); omega) x) ?_
  refine it_step S hE hT (by omega) (show 161 < 246 by omega) (o := 1004) (by decide +kernel) (by omega) (P2 := ((((bgS (nI 140) q)).1) - x) :: P) (q2 := (bgS (nI 140) q)) (fun ct hM => c_X5_step_l l G ad ct hM (by (try simp only [List.length_cons]); omega) x) ?_
  refine it_end S hE hT (by omega) (show 162 < 246 by omega) (o := 3141) (by decide +kernel) (by omega) ?_
  exact hfin2
set_option maxRecDepth 100000 in
set_option maxHeartbeats 4000000 in
theorem mrun_141 {p : Program} {l : Launch} {e : Env} {s : State} {m : MethodId} {args : Array Value} {below : List Frame} {meth : Method} {c : Code} {Q : State → Prop} {G : hG} {ad : Nat → Nat} {ct0 : Nat → Option va_E} {dn lk st0 : Int32} {i : Nat} {vv cv : Nat → Int32} {kdf : Nat → Int32} (S : CallFix p m c cX5_act 6 s args WS yX5_act.cls) (hE : gE G s) (hT : MTab G ct0 kdf) (hi : i < 300) {kk n : Nat} (hk11 : kk < 11) (hkk : kdf i = nI kk) (ih : RunM p l e s m args below meth c Q G ad ct0 dn lk st0 i vv cv kk n)
    (hok : okM kk (n + 1) 141 = true) (x : Int32) (Fs : List (Nat × Nat × Int32)) (P : List Int32) (q : St) (bb : Nat) (hq : q.2.2.1 = nI bb) (hbb : bb + cB (n + 1) < 2 ^ 30) (hF : Fs.length + (n + 1) ≤ 99) (hP : P.length + 3 * (n + 1) ≤ 299)
    (hfin : HeadW p l e s m args below meth c Q G ad ct0 dn lk st0 i vv cv Fs ((runS (n + 1) (nI (7 + kk)) (nI 141) x q).1 :: P) (runS (n + 1) (nI (7 + kk)) (nI 141) x q).2) : HeadW p l e s m args below meth c Q G ad ct0 dn lk st0 i vv cv ((141, stN 141, x) :: Fs) P (bgS (nI 141) q) := by
  rw [show cB (n + 1) = 1 + 3 * cB n from rfl] at hbb
  rw [okM_s, Bool.and_eq_true, callsT_141] at hok
  have hok2 := List.all_eq_true.mp hok.2
  have ho0 : okM kk n 21 = true := hok2 (1, 21) (by decide)
  have ho1 : okM kk n 11 = true := hok2 (1, 11) (by decide)
  have hfin2 := hfin
  rw [runS, if_neg (show ¬ nI 141 = 0 by decide), show bodyS (runS n (nI (7 + kk))) (nI (7 + kk)) (nI 141) x (bgS (nI 141) q) = _ from bodyS_141 _ _ _ _] at hfin2
  rw [show selOfF selT (parentF 11) 2 = nI 21 from (by decide +kernel)] at hfin2
  rw [show selOfF selT 2 2 = nI 11 from (by decide +kernel)] at hfin2
  rw [show stN 141 = 163 from (by decide +kernel)]
  have hq0 := bgS_b (nI 141) hq
  refine it_step S hE hT (by omega) (show 163 < 246 by omega) (o := 1000) (by decide +kernel) (by omega) (P2 := x :: P) (q2 := (bgS (nI 141) q)) (fun ct hM => c_X5_step_x l G ad ct hM (by (try simp only [List.length_cons]); omega) x) ?_
  refine it_sup S hE hT (by omega) (show 164 < 246 by omega) hq0 (show (bb + 1) < 2 ^ 30 by omega) (by omega) (body_st 21 (by decide)).2 (by omega) (by (try simp only [List.length_cons]); omega) (a := 2) (pp := 11) (by omega) (by omega) (by decide +kernel) (by omega) (by decide +kernel) (by decide +kernel) ?_
  refine ih 21 ho0 x _ (P) ((bgS (nI 141) q)) (bb + 1) hq0 (by omega) (by (try simp only [List.length_cons]); omega) (by (try simp only [List.length_cons]); omega) ?_
  obtain ⟨b1, hq1, hlo1, hhi1⟩ := gr_run (nI (7 + kk)) n (nI 21) x ((bgS (nI 141) q)) (bb + 1) hq0
  refine it_step S hE hT (by omega) (show 165 < 246 by omega) (o := 1) (by decide +kernel) (by omega) (P2 := 1 :: ((runS n (nI (7 + kk)) (nI 21) x ((bgS (nI 141) q))).1) :: P) (q2 := (runS n (nI (7 + kk)) (nI 21) x ((bgS (nI 141) q))).2) (fun ct hM => c_X5_step_c l G ad ct hM (o := 1) (by omega) (by (try simp only [List.length_cons]); omega) x) ?_
  refine it_of S hE hT (by omega) (show 166 < 246 by omega) hq1 (show b1 < 2 ^ 30 by omega) (by omega) (body_st 11 (by decide)).2 (by omega) (by (try simp only [List.length_cons]); omega) (k0 := 2) (by omega) (by decide +kernel) (by decide +kernel) ?_
  refine ih 11 ho1 1 _ (((runS n (nI (7 + kk)) (nI 21) x ((bgS (nI 141) q))).1) :: P) ((runS n (nI (7 + kk)) (nI 21) x ((bgS (nI 141) q))).2) b1 hq1 (by omega) (by (try simp only [List.length_cons]); omega) (by (try simp only [List.length_cons]); omega) ?_
  obtain ⟨b2, hq2, hlo2, hhi2⟩ := gr_run (nI (7 + kk)) n (nI 11) 1 ((runS n (nI (7 + kk)) (nI 21) x ((bgS (nI 141) q))).2) b1 hq1
  refine it_step S hE hT (by omega) (show 167 < 246 by omega) (o := 1004) (by decide +kernel) (by omega) (P2 := (((runS n (nI (7 + kk)) (nI 21) x ((bgS (nI 141) q))).1) - ((runS n (nI (7 + kk)) (nI 11) 1 ((runS n (nI (7 + kk)) (nI 21) x ((bgS (nI 141) q))).2)).1)) :: P) (q2 := (runS n (nI (7 + kk)) (nI 11) 1 ((runS n (nI (7 + kk)) (nI 21) x ((bgS (nI 141) q))).2)).2) (fun ct hM => c_X5_step_l l G ad ct hM (by (try simp only [List.length_cons]); omega) x) ?_
  refine it_end S hE hT (by omega) (show 168 < 246 by omega) (o := 3142) (by decide +kernel) (by omega) ?_
  exact hfin2
set_option maxRecDepth 100000 in
set_option maxHeartbeats 4000000 in
theorem mrun_142 {p : Program} {l : Launch} {e : Env} {s : State} {m : MethodId} {args : Array Value} {below : List Frame} {meth : Method} {c : Code} {Q : State → Prop} {G : hG} {ad : Nat → Nat} {ct0 : Nat → Option va_E} {dn lk st0 : Int32} {i : Nat} {vv cv : Nat → Int32} {kdf : Nat → Int32} (S : CallFix p m c cX5_act 6 s args WS yX5_act.cls) (hE : gE G s) (hT : MTab G ct0 kdf) (hi : i < 300) {kk n : Nat} (hk11 : kk < 11) (hkk : kdf i = nI kk) (ih : RunM p l e s m args below meth c Q G ad ct0 dn lk st0 i vv cv kk n)
    (hok : okM kk (n + 1) 142 = true) (x : Int32) (Fs : List (Nat × Nat × Int32)) (P : List Int32) (q : St) (bb : Nat) (hq : q.2.2.1 = nI bb) (hbb : bb + cB (n + 1) < 2 ^ 30) (hF : Fs.length + (n + 1) ≤ 99) (hP : P.length + 3 * (n + 1) ≤ 299)
    (hfin : HeadW p l e s m args below meth c Q G ad ct0 dn lk st0 i vv cv Fs ((runS (n + 1) (nI (7 + kk)) (nI 142) x q).1 :: P) (runS (n + 1) (nI (7 + kk)) (nI 142) x q).2) : HeadW p l e s m args below meth c Q G ad ct0 dn lk st0 i vv cv ((142, stN 142, x) :: Fs) P (bgS (nI 142) q) := by
  rw [show cB (n + 1) = 1 + 3 * cB n from rfl] at hbb
  rw [okM_s, Bool.and_eq_true, callsT_142] at hok
  have hok2 := List.all_eq_true.mp hok.2
  have ho0 : okM kk n 110 = true := hok2 (1, 110) (by decide)
  have hfin2 := hfin
  rw [runS, if_neg (show ¬ nI 142 = 0 by decide), show bodyS (runS n (nI (7 + kk))) (nI (7 + kk)) (nI 142) x (bgS (nI 142) q) = _ from bodyS_142 _ _ _ _] at hfin2
  rw [show selOfF selT (parentF 11) 10 = nI 110 from (by decide +kernel)] at hfin2
  rw [show stN 142 = 169 from (by decide +kernel)]
  have hq0 := bgS_b (nI 142) hq
  refine it_step S hE hT (by omega) (show 169 < 246 by omega) (o := 1000) (by decide +kernel) (by omega) (P2 := x :: P) (q2 := (bgS (nI 142) q)) (fun ct hM => c_X5_step_x l G ad ct hM (by (try simp only [List.length_cons]); omega) x) ?_
  refine it_step S hE hT (by omega) (show 170 < 246 by omega) (o := 1) (by decide +kernel) (by omega) (P2 := 1 :: x :: P) (q2 := (bgS (nI 142) q)) (fun ct hM => c_X5_step_c l G ad ct hM (o := 1) (by omega) (by (try simp only [List.length_cons]); omega) x) ?_
  refine it_step S hE hT (by omega) (show 171 < 246 by omega) (o := 1003) (by decide +kernel) (by omega) (P2 := (x + 1) :: P) (q2 := (bgS (nI 142) q)) (fun ct hM => c_X5_step_p l G ad ct hM (by (try simp only [List.length_cons]); omega) x) ?_
  refine it_sup S hE hT (by omega) (show 172 < 246 by omega) hq0 (show (bb + 1) < 2 ^ 30 by omega) (by omega) (body_st 110 (by decide)).2 (by omega) (by (try simp only [List.length_cons]); omega) (a := 10) (pp := 11) (by omega) (by omega) (by decide +kernel) (by omega) (by decide +kernel) (by decide +kernel) ?_
  refine ih 110 ho0 (x + 1) _ (P) ((bgS (nI 142) q)) (bb + 1) hq0 (by omega) (by (try simp only [List.length_cons]); omega) (by (try simp only [List.length_cons]); omega) ?_
  obtain ⟨b1, hq1, hlo1, hhi1⟩ := gr_run (nI (7 + kk)) n (nI 110) (x + 1) ((bgS (nI 142) q)) (bb + 1) hq0
  refine it_step S hE hT (by omega) (show 173 < 246 by omega) (o := 4) (by decide +kernel) (by omega) (P2 := 4 :: ((runS n (nI (7 + kk)) (nI 110) (x + 1) ((bgS (nI 142) q))).1) :: P) (q2 := (runS n (nI (7 + kk)) (nI 110) (x + 1) ((bgS (nI 142) q))).2) (fun ct hM => c_X5_step_c l G ad ct hM (o := 4) (by omega) (by (try simp only [List.length_cons]); omega) x) ?_
  refine it_step S hE hT (by omega) (show 174 < 246 by omega) (o := 1003) (by decide +kernel) (by omega) (P2 := (((runS n (nI (7 + kk)) (nI 110) (x + 1) ((bgS (nI 142) q))).1) + 4) :: P) (q2 := (runS n (nI (7 + kk)) (nI 110) (x + 1) ((bgS (nI 142) q))).2) (fun ct hM => c_X5_step_p l G ad ct hM (by (try simp only [List.length_cons]); omega) x) ?_
  refine it_end S hE hT (by omega) (show 175 < 246 by omega) (o := 3150) (by decide +kernel) (by omega) ?_
  exact hfin2
set_option maxRecDepth 100000 in
set_option maxHeartbeats 4000000 in
theorem mrun_150 {p : Program} {l : Launch} {e : Env} {s : State} {m : MethodId} {args : Array Value} {below : List Frame} {meth : Method} {c : Code} {Q : State → Prop} {G : hG} {ad : Nat → Nat} {ct0 : Nat → Option va_E} {dn lk st0 : Int32} {i : Nat} {vv cv : Nat → Int32} {kdf : Nat → Int32} (S : CallFix p m c cX5_act 6 s args WS yX5_act.cls) (hE : gE G s) (hT : MTab G ct0 kdf) (hi : i < 300) {kk n : Nat} (hk11 : kk < 11) (hkk : kdf i = nI kk) (ih : RunM p l e s m args below meth c Q G ad ct0 dn lk st0 i vv cv kk n)
    (hok : okM kk (n + 1) 150 = true) (x : Int32) (Fs : List (Nat × Nat × Int32)) (P : List Int32) (q : St) (bb : Nat) (hq : q.2.2.1 = nI bb) (hbb : bb + cB (n + 1) < 2 ^ 30) (hF : Fs.length + (n + 1) ≤ 99) (hP : P.length + 3 * (n + 1) ≤ 299)
    (hfin : HeadW p l e s m args below meth c Q G ad ct0 dn lk st0 i vv cv Fs ((runS (n + 1) (nI (7 + kk)) (nI 150) x q).1 :: P) (runS (n + 1) (nI (7 + kk)) (nI 150) x q).2) : HeadW p l e s m args below meth c Q G ad ct0 dn lk st0 i vv cv ((150, stN 150, x) :: Fs) P (bgS (nI 150) q) := by
  rw [show cB (n + 1) = 1 + 3 * cB n from rfl] at hbb
  rw [okM_s, Bool.and_eq_true, callsT_150] at hok
  have hok2 := List.all_eq_true.mp hok.2
  have hx0 : (vdT kk 5 && okM kk n (doB kk 5)) = true := hok2 (0, 5) (by decide)
  rw [Bool.and_eq_true] at hx0
  have hv0 := hx0.1
  have ho0 := hx0.2
  have hfin2 := hfin
  rw [runS, if_neg (show ¬ nI 150 = 0 by decide), show bodyS (runS n (nI (7 + kk))) (nI (7 + kk)) (nI 150) x (bgS (nI 150) q) = _ from bodyS_150 _ _ _ _] at hfin2
  obtain ⟨hc0, hn0, hs0, hl0⟩ := do_val kk hk11 5 (by omega) hv0
  rw [show selOfF selT (nI (7 + kk)) 5 = nI (doB kk 5) from hl0] at hfin2
  rw [show stN 150 = 176 from (by decide +kernel)]
  have hq0 := bgS_b (nI 150) hq
  refine it_step S hE hT (by omega) (show 176 < 246 by omega) (o := 1000) (by decide +kernel) (by omega) (P2 := x :: P) (q2 := (bgS (nI 150) q)) (fun ct hM => c_X5_step_x l G ad ct hM (by (try simp only [List.length_cons]); omega) x) ?_
  refine it_do S hE hT (by omega) (show 177 < 246 by omega) hq0 (show (bb + 1) < 2 ^ 30 by omega) hn0 hs0 (by omega) (by (try simp only [List.length_cons]); omega) (by omega) hi hkk hk11 hc0 (by decide +kernel) ?_
  refine ih (doB kk 5) ho0 x _ (P) ((bgS (nI 150) q)) (bb + 1) hq0 (by omega) (by (try simp only [List.length_cons]); omega) (by (try simp only [List.length_cons]); omega) ?_
  obtain ⟨b1, hq1, hlo1, hhi1⟩ := gr_run (nI (7 + kk)) n (nI (doB kk 5)) x ((bgS (nI 150) q)) (bb + 1) hq0
  refine it_step S hE hT (by omega) (show 178 < 246 by omega) (o := 1001) (by decide +kernel) (by omega) (P2 := (((runS n (nI (7 + kk)) (nI (doB kk 5)) x ((bgS (nI 150) q))).2).1) :: ((runS n (nI (7 + kk)) (nI (doB kk 5)) x ((bgS (nI 150) q))).1) :: P) (q2 := (runS n (nI (7 + kk)) (nI (doB kk 5)) x ((bgS (nI 150) q))).2) (fun ct hM => c_X5_step_v l G ad ct hM (by (try simp only [List.length_cons]); omega) hi x) ?_
  refine it_step S hE hT (by omega) (show 179 < 246 by omega) (o := 1003) (by decide +kernel) (by omega) (P2 := (((runS n (nI (7 + kk)) (nI (doB kk 5)) x ((bgS (nI 150) q))).1) + (((runS n (nI (7 + kk)) (nI (doB kk 5)) x ((bgS (nI 150) q))).2).1)) :: P) (q2 := (runS n (nI (7 + kk)) (nI (doB kk 5)) x ((bgS (nI 150) q))).2) (fun ct hM => c_X5_step_p l G ad ct hM (by (try simp only [List.length_cons]); omega) x) ?_
  refine it_end S hE hT (by omega) (show 180 < 246 by omega) (o := 3151) (by decide +kernel) (by omega) ?_
  exact hfin2
set_option maxRecDepth 100000 in
set_option maxHeartbeats 4000000 in
theorem mrun_151 {p : Program} {l : Launch} {e : Env} {s : State} {m : MethodId} {args : Array Value} {below : List Frame} {meth : Method} {c : Code} {Q : State → Prop} {G : hG} {ad : Nat → Nat} {ct0 : Nat → Option va_E} {dn lk st0 : Int32} {i : Nat} {vv cv : Nat → Int32} {kdf : Nat → Int32} (S : CallFix p m c cX5_act 6 s args WS yX5_act.cls) (hE : gE G s) (hT : MTab G ct0 kdf) (hi : i < 300) {kk n : Nat} (hk11 : kk < 11) (hkk : kdf i = nI kk) (ih : RunM p l e s m args below meth c Q G ad ct0 dn lk st0 i vv cv kk n)
    (hok : okM kk (n + 1) 151 = true) (x : Int32) (Fs : List (Nat × Nat × Int32)) (P : List Int32) (q : St) (bb : Nat) (hq : q.2.2.1 = nI bb) (hbb : bb + cB (n + 1) < 2 ^ 30) (hF : Fs.length + (n + 1) ≤ 99) (hP : P.length + 3 * (n + 1) ≤ 299)
    (hfin : HeadW p l e s m args below meth c Q G ad ct0 dn lk st0 i vv cv Fs ((runS (n + 1) (nI (7 + kk)) (nI 151) x q).1 :: P) (runS (n + 1) (nI (7 + kk)) (nI 151) x q).2) : HeadW p l e s m args below meth c Q G ad ct0 dn lk st0 i vv cv ((151, stN 151, x) :: Fs) P (bgS (nI 151) q) := by
  rw [show cB (n + 1) = 1 + 3 * cB n from rfl] at hbb
  rw [okM_s, Bool.and_eq_true, callsT_151] at hok
  have hok2 := List.all_eq_true.mp hok.2
  have ho0 : okM kk n 60 = true := hok2 (1, 60) (by decide)
  have hx1 : (vdT kk 2 && okM kk n (doB kk 2)) = true := hok2 (0, 2) (by decide)
  rw [Bool.and_eq_true] at hx1
  have hv1 := hx1.1
  have ho1 := hx1.2
  have hfin2 := hfin
  rw [runS, if_neg (show ¬ nI 151 = 0 by decide), show bodyS (runS n (nI (7 + kk))) (nI (7 + kk)) (nI 151) x (bgS (nI 151) q) = _ from bodyS_151 _ _ _ _] at hfin2
  obtain ⟨hc1, hn1, hs1, hl1⟩ := do_val kk hk11 2 (by omega) hv1
  rw [show selOfF selT (parentF 12) 9 = nI 60 from (by decide +kernel)] at hfin2
  rw [show selOfF selT (nI (7 + kk)) 2 = nI (doB kk 2) from hl1] at hfin2
  rw [show stN 151 = 181 from (by decide +kernel)]
  have hq0 := bgS_b (nI 151) hq
  refine it_step S hE hT (by omega) (show 181 < 246 by omega) (o := 1000) (by decide +kernel) (by omega) (P2 := x :: P) (q2 := (bgS (nI 151) q)) (fun ct hM => c_X5_step_x l G ad ct hM (by (try simp only [List.length_cons]); omega) x) ?_
  refine it_sup S hE hT (by omega) (show 182 < 246 by omega) hq0 (show (bb + 1) < 2 ^ 30 by omega) (by omega) (body_st 60 (by decide)).2 (by omega) (by (try simp only [List.length_cons]); omega) (a := 9) (pp := 12) (by omega) (by omega) (by decide +kernel) (by omega) (by decide +kernel) (by decide +kernel) ?_
  refine ih 60 ho0 x _ (P) ((bgS (nI 151) q)) (bb + 1) hq0 (by omega) (by (try simp only [List.length_cons]); omega) (by (try simp only [List.length_cons]); omega) ?_
  obtain ⟨b1, hq1, hlo1, hhi1⟩ := gr_run (nI (7 + kk)) n (nI 60) x ((bgS (nI 151) q)) (bb + 1) hq0
  refine it_step S hE hT (by omega) (show 183 < 246 by omega) (o := 0) (by decide +kernel) (by omega) (P2 := 0 :: ((runS n (nI (7 + kk)) (nI 60) x ((bgS (nI 151) q))).1) :: P) (q2 := (runS n (nI (7 + kk)) (nI 60) x ((bgS (nI 151) q))).2) (fun ct hM => c_X5_step_c l G ad ct hM (o := 0) (by omega) (by (try simp only [List.length_cons]); omega) x) ?_
  refine it_do S hE hT (by omega) (show 184 < 246 by omega) hq1 (show b1 < 2 ^ 30 by omega) hn1 hs1 (by omega) (by (try simp only [List.length_cons]); omega) (by omega) hi hkk hk11 hc1 (by decide +kernel) ?_
  refine ih (doB kk 2) ho1 0 _ (((runS n (nI (7 + kk)) (nI 60) x ((bgS (nI 151) q))).1) :: P) ((runS n (nI (7 + kk)) (nI 60) x ((bgS (nI 151) q))).2) b1 hq1 (by omega) (by (try simp only [List.length_cons]); omega) (by (try simp only [List.length_cons]); omega) ?_
  obtain ⟨b2, hq2, hlo2, hhi2⟩ := gr_run (nI (7 + kk)) n (nI (doB kk 2)) 0 ((runS n (nI (7 + kk)) (nI 60) x ((bgS (nI 151) q))).2) b1 hq1
  refine it_step S hE hT (by omega) (show 185 < 246 by omega) (o := 1006) (by decide +kernel) (by omega) (P2 := (((runS n (nI (7 + kk)) (nI 60) x ((bgS (nI 151) q))).1) ^^^ ((runS n (nI (7 + kk)) (nI (doB kk 2)) 0 ((runS n (nI (7 + kk)) (nI 60) x ((bgS (nI 151) q))).2)).1)) :: P) (q2 := (runS n (nI (7 + kk)) (nI (doB kk 2)) 0 ((runS n (nI (7 + kk)) (nI 60) x ((bgS (nI 151) q))).2)).2) (fun ct hM => c_X5_step_o l G ad ct hM (by (try simp only [List.length_cons]); omega) x) ?_
  refine it_end S hE hT (by omega) (show 186 < 246 by omega) (o := 3152) (by decide +kernel) (by omega) ?_
  exact hfin2
set_option maxRecDepth 100000 in
set_option maxHeartbeats 4000000 in
theorem mrun_152 {p : Program} {l : Launch} {e : Env} {s : State} {m : MethodId} {args : Array Value} {below : List Frame} {meth : Method} {c : Code} {Q : State → Prop} {G : hG} {ad : Nat → Nat} {ct0 : Nat → Option va_E} {dn lk st0 : Int32} {i : Nat} {vv cv : Nat → Int32} {kdf : Nat → Int32} (S : CallFix p m c cX5_act 6 s args WS yX5_act.cls) (hE : gE G s) (hT : MTab G ct0 kdf) (hi : i < 300) {kk n : Nat} (hk11 : kk < 11) (hkk : kdf i = nI kk) (ih : RunM p l e s m args below meth c Q G ad ct0 dn lk st0 i vv cv kk n)
    (hok : okM kk (n + 1) 152 = true) (x : Int32) (Fs : List (Nat × Nat × Int32)) (P : List Int32) (q : St) (bb : Nat) (hq : q.2.2.1 = nI bb) (hbb : bb + cB (n + 1) < 2 ^ 30) (hF : Fs.length + (n + 1) ≤ 99) (hP : P.length + 3 * (n + 1) ≤ 299)
    (hfin : HeadW p l e s m args below meth c Q G ad ct0 dn lk st0 i vv cv Fs ((runS (n + 1) (nI (7 + kk)) (nI 152) x q).1 :: P) (runS (n + 1) (nI (7 + kk)) (nI 152) x q).2) : HeadW p l e s m args below meth c Q G ad ct0 dn lk st0 i vv cv ((152, stN 152, x) :: Fs) P (bgS (nI 152) q) := by
  rw [show cB (n + 1) = 1 + 3 * cB n from rfl] at hbb
  rw [okM_s, Bool.and_eq_true, callsT_152] at hok
  have hok2 := List.all_eq_true.mp hok.2
  have ho0 : okM kk n 20 = true := hok2 (1, 20) (by decide)
  have hfin2 := hfin
  rw [runS, if_neg (show ¬ nI 152 = 0 by decide), show bodyS (runS n (nI (7 + kk))) (nI (7 + kk)) (nI 152) x (bgS (nI 152) q) = _ from bodyS_152 _ _ _ _] at hfin2
  rw [show selOfF selT 4 4 = nI 20 from (by decide +kernel)] at hfin2
  rw [show stN 152 = 187 from (by decide +kernel)]
  have hq0 := bgS_b (nI 152) hq
  refine it_step S hE hT (by omega) (show 187 < 246 by omega) (o := 1000) (by decide +kernel) (by omega) (P2 := x :: P) (q2 := (bgS (nI 152) q)) (fun ct hM => c_X5_step_x l G ad ct hM (by (try simp only [List.length_cons]); omega) x) ?_
  refine it_of S hE hT (by omega) (show 188 < 246 by omega) hq0 (show (bb + 1) < 2 ^ 30 by omega) (by omega) (body_st 20 (by decide)).2 (by omega) (by (try simp only [List.length_cons]); omega) (k0 := 28) (by omega) (by decide +kernel) (by decide +kernel) ?_
  refine ih 20 ho0 x _ (P) ((bgS (nI 152) q)) (bb + 1) hq0 (by omega) (by (try simp only [List.length_cons]); omega) (by (try simp only [List.length_cons]); omega) ?_
  obtain ⟨b1, hq1, hlo1, hhi1⟩ := gr_run (nI (7 + kk)) n (nI 20) x ((bgS (nI 152) q)) (bb + 1) hq0
  refine it_step S hE hT (by omega) (show 189 < 246 by omega) (o := 1) (by decide +kernel) (by omega) (P2 := 1 :: ((runS n (nI (7 + kk)) (nI 20) x ((bgS (nI 152) q))).1) :: P) (q2 := (runS n (nI (7 + kk)) (nI 20) x ((bgS (nI 152) q))).2) (fun ct hM => c_X5_step_c l G ad ct hM (o := 1) (by omega) (by (try simp only [List.length_cons]); omega) x) ?_
  refine it_step S hE hT (by omega) (show 190 < 246 by omega) (o := 1003) (by decide +kernel) (by omega) (P2 := (((runS n (nI (7 + kk)) (nI 20) x ((bgS (nI 152) q))).1) + 1) :: P) (q2 := (runS n (nI (7 + kk)) (nI 20) x ((bgS (nI 152) q))).2) (fun ct hM => c_X5_step_p l G ad ct hM (by (try simp only [List.length_cons]); omega) x) ?_
  refine it_end S hE hT (by omega) (show 191 < 246 by omega) (o := 3160) (by decide +kernel) (by omega) ?_
  exact hfin2
set_option maxRecDepth 100000 in
set_option maxHeartbeats 4000000 in
theorem mrun_160 {p : Program} {l : Launch} {e : Env} {s : State} {m : MethodId} {args : Array Value} {below : List Frame} {meth : Method} {c : Code} {Q : State → Prop} {G : hG} {ad : Nat → Nat} {ct0 : Nat → Option va_E} {dn lk st0 : Int32} {i : Nat} {vv cv : Nat → Int32} {kdf : Nat → Int32} (S : CallFix p m c cX5_act 6 s args WS yX5_act.cls) (hE : gE G s) (hT : MTab G ct0 kdf) (hi : i < 300) {kk n : Nat} (hk11 : kk < 11) (hkk : kdf i = nI kk) (ih : RunM p l e s m args below meth c Q G ad ct0 dn lk st0 i vv cv kk n)
    (hok : okM kk (n + 1) 160 = true) (x : Int32) (Fs : List (Nat × Nat × Int32)) (P : List Int32) (q : St) (bb : Nat) (hq : q.2.2.1 = nI bb) (hbb : bb + cB (n + 1) < 2 ^ 30) (hF : Fs.length + (n + 1) ≤ 99) (hP : P.length + 3 * (n + 1) ≤ 299)
    (hfin : HeadW p l e s m args below meth c Q G ad ct0 dn lk st0 i vv cv Fs ((runS (n + 1) (nI (7 + kk)) (nI 160) x q).1 :: P) (runS (n + 1) (nI (7 + kk)) (nI 160) x q).2) : HeadW p l e s m args below meth c Q G ad ct0 dn lk st0 i vv cv ((160, stN 160, x) :: Fs) P (bgS (nI 160) q) := by
  rw [show cB (n + 1) = 1 + 3 * cB n from rfl] at hbb
  rw [okM_s, Bool.and_eq_true, callsT_160] at hok
  have hok2 := List.all_eq_true.mp hok.2
  have hfin2 := hfin
  rw [runS, if_neg (show ¬ nI 160 = 0 by decide), show bodyS (runS n (nI (7 + kk))) (nI (7 + kk)) (nI 160) x (bgS (nI 160) q) = _ from bodyS_160 _ _ _ _] at hfin2
  rw [show stN 160 = 192 from (by decide +kernel)]
  have hq0 := bgS_b (nI 160) hq
  refine it_step S hE hT (by omega) (show 192 < 246 by omega) (o := 1000) (by decide +kernel) (by omega) (P2 := x :: P) (q2 := (bgS (nI 160) q)) (fun ct hM => c_X5_step_x l G ad ct hM (by (try simp only [List.length_cons]); omega) x) ?_
  refine it_end S hE hT (by omega) (show 193 < 246 by omega) (o := 3161) (by decide +kernel) (by omega) ?_
  exact hfin2
set_option maxRecDepth 100000 in
set_option maxHeartbeats 4000000 in
theorem mrun_161 {p : Program} {l : Launch} {e : Env} {s : State} {m : MethodId} {args : Array Value} {below : List Frame} {meth : Method} {c : Code} {Q : State → Prop} {G : hG} {ad : Nat → Nat} {ct0 : Nat → Option va_E} {dn lk st0 : Int32} {i : Nat} {vv cv : Nat → Int32} {kdf : Nat → Int32} (S : CallFix p m c cX5_act 6 s args WS yX5_act.cls) (hE : gE G s) (hT : MTab G ct0 kdf) (hi : i < 300) {kk n : Nat} (hk11 : kk < 11) (hkk : kdf i = nI kk) (ih : RunM p l e s m args below meth c Q G ad ct0 dn lk st0 i vv cv kk n)
    (hok : okM kk (n + 1) 161 = true) (x : Int32) (Fs : List (Nat × Nat × Int32)) (P : List Int32) (q : St) (bb : Nat) (hq : q.2.2.1 = nI bb) (hbb : bb + cB (n + 1) < 2 ^ 30) (hF : Fs.length + (n + 1) ≤ 99) (hP : P.length + 3 * (n + 1) ≤ 299)
    (hfin : HeadW p l e s m args below meth c Q G ad ct0 dn lk st0 i vv cv Fs ((runS (n + 1) (nI (7 + kk)) (nI 161) x q).1 :: P) (runS (n + 1) (nI (7 + kk)) (nI 161) x q).2) : HeadW p l e s m args below meth c Q G ad ct0 dn lk st0 i vv cv ((161, stN 161, x) :: Fs) P (bgS (nI 161) q) := by
  rw [show cB (n + 1) = 1 + 3 * cB n from rfl] at hbb
  rw [okM_s, Bool.and_eq_true, callsT_161] at hok
  have hok2 := List.all_eq_true.mp hok.2
  have ho0 : okM kk n 51 = true := hok2 (1, 51) (by decide)
  have hfin2 := hfin
  rw [runS, if_neg (show ¬ nI 161 = 0 by decide), show bodyS (runS n (nI (7 + kk))) (nI (7 + kk)) (nI 161) x (bgS (nI 161) q) = _ from bodyS_161 _ _ _ _] at hfin2
  rw [show selOfF selT 6 8 = nI 51 from (by decide +kernel)] at hfin2
  rw [show stN 161 = 194 from (by decide +kernel)]
  have hq0 := bgS_b (nI 161) hq
  refine it_step S hE hT (by omega) (show 194 < 246 by omega) (o := 1000) (by decide +kernel) (by omega) (P2 := x :: P) (q2 := (bgS (nI 161) q)) (fun ct hM => c_X5_step_x l G ad ct hM (by (try simp only [List.length_cons]); omega) x) ?_
  refine it_of S hE hT (by omega) (show 195 < 246 by omega) hq0 (show (bb + 1) < 2 ^ 30 by omega) (by omega) (body_st 51 (by decide)).2 (by omega) (by (try simp only [List.length_cons]); omega) (k0 := 56) (by omega) (by decide +kernel) (by decide +kernel) ?_
  refine ih 51 ho0 x _ (P) ((bgS (nI 161) q)) (bb + 1) hq0 (by omega) (by (try simp only [List.length_cons]); omega) (by (try simp only [List.length_cons]); omega) ?_
  obtain ⟨b1, hq1, hlo1, hhi1⟩ := gr_run (nI (7 + kk)) n (nI 51) x ((bgS (nI 161) q)) (bb + 1) hq0
  refine it_step S hE hT (by omega) (show 196 < 246 by omega) (o := 255) (by decide +kernel) (by omega) (P2 := 255 :: ((runS n (nI (7 + kk)) (nI 51) x ((bgS (nI 161) q))).1) :: P) (q2 := (runS n (nI (7 + kk)) (nI 51) x ((bgS (nI 161) q))).2) (fun ct hM => c_X5_step_c l G ad ct hM (o := 255) (by omega) (by (try simp only [List.length_cons]); omega) x) ?_
  refine it_step S hE hT (by omega) (show 197 < 246 by omega) (o := 1007) (by decide +kernel) (by omega) (P2 := (((runS n (nI (7 + kk)) (nI 51) x ((bgS (nI 161) q))).1) &&& 255) :: P) (q2 := (runS n (nI (7 + kk)) (nI 51) x ((bgS (nI 161) q))).2) (fun ct hM => c_X5_step_a l G ad ct hM (by (try simp only [List.length_cons]); omega) x) ?_
  refine it_end S hE hT (by omega) (show 198 < 246 by omega) (o := 3162) (by decide +kernel) (by omega) ?_
  exact hfin2
set_option maxRecDepth 100000 in
set_option maxHeartbeats 4000000 in
theorem mrun_162 {p : Program} {l : Launch} {e : Env} {s : State} {m : MethodId} {args : Array Value} {below : List Frame} {meth : Method} {c : Code} {Q : State → Prop} {G : hG} {ad : Nat → Nat} {ct0 : Nat → Option va_E} {dn lk st0 : Int32} {i : Nat} {vv cv : Nat → Int32} {kdf : Nat → Int32} (S : CallFix p m c cX5_act 6 s args WS yX5_act.cls) (hE : gE G s) (hT : MTab G ct0 kdf) (hi : i < 300) {kk n : Nat} (hk11 : kk < 11) (hkk : kdf i = nI kk) (ih : RunM p l e s m args below meth c Q G ad ct0 dn lk st0 i vv cv kk n)
    (hok : okM kk (n + 1) 162 = true) (x : Int32) (Fs : List (Nat × Nat × Int32)) (P : List Int32) (q : St) (bb : Nat) (hq : q.2.2.1 = nI bb) (hbb : bb + cB (n + 1) < 2 ^ 30) (hF : Fs.length + (n + 1) ≤ 99) (hP : P.length + 3 * (n + 1) ≤ 299)
    (hfin : HeadW p l e s m args below meth c Q G ad ct0 dn lk st0 i vv cv Fs ((runS (n + 1) (nI (7 + kk)) (nI 162) x q).1 :: P) (runS (n + 1) (nI (7 + kk)) (nI 162) x q).2) : HeadW p l e s m args below meth c Q G ad ct0 dn lk st0 i vv cv ((162, stN 162, x) :: Fs) P (bgS (nI 162) q) := by
  rw [show cB (n + 1) = 1 + 3 * cB n from rfl] at hbb
  rw [okM_s, Bool.and_eq_true, callsT_162] at hok
  have hok2 := List.all_eq_true.mp hok.2
  have hfin2 := hfin
  rw [runS, if_neg (show ¬ nI 162 = 0 by decide), show bodyS (runS n (nI (7 + kk))) (nI (7 + kk)) (nI 162) x (bgS (nI 162) q) = _ from bodyS_162 _ _ _ _] at hfin2
  rw [show stN 162 = 199 from (by decide +kernel)]
  have hq0 := bgS_b (nI 162) hq
  refine it_step S hE hT (by omega) (show 199 < 246 by omega) (o := 1000) (by decide +kernel) (by omega) (P2 := x :: P) (q2 := (bgS (nI 162) q)) (fun ct hM => c_X5_step_x l G ad ct hM (by (try simp only [List.length_cons]); omega) x) ?_
  refine it_step S hE hT (by omega) (show 200 < 246 by omega) (o := 99) (by decide +kernel) (by omega) (P2 := 99 :: x :: P) (q2 := (bgS (nI 162) q)) (fun ct hM => c_X5_step_c l G ad ct hM (o := 99) (by omega) (by (try simp only [List.length_cons]); omega) x) ?_
  refine it_step S hE hT (by omega) (show 201 < 246 by omega) (o := 1003) (by decide +kernel) (by omega) (P2 := (x + 99) :: P) (q2 := (bgS (nI 162) q)) (fun ct hM => c_X5_step_p l G ad ct hM (by (try simp only [List.length_cons]); omega) x) ?_
  refine it_end S hE hT (by omega) (show 202 < 246 by omega) (o := 3163) (by decide +kernel) (by omega) ?_
  exact hfin2
set_option maxRecDepth 100000 in
set_option maxHeartbeats 4000000 in
theorem mrun_163 {p : Program} {l : Launch} {e : Env} {s : State} {m : MethodId} {args : Array Value} {below : List Frame} {meth : Method} {c : Code} {Q : State → Prop} {G : hG} {ad : Nat → Nat} {ct0 : Nat → Option va_E} {dn lk st0 : Int32} {i : Nat} {vv cv : Nat → Int32} {kdf : Nat → Int32} (S : CallFix p m c cX5_act 6 s args WS yX5_act.cls) (hE : gE G s) (hT : MTab G ct0 kdf) (hi : i < 300) {kk n : Nat} (hk11 : kk < 11) (hkk : kdf i = nI kk) (ih : RunM p l e s m args below meth c Q G ad ct0 dn lk st0 i vv cv kk n)
    (hok : okM kk (n + 1) 163 = true) (x : Int32) (Fs : List (Nat × Nat × Int32)) (P : List Int32) (q : St) (bb : Nat) (hq : q.2.2.1 = nI bb) (hbb : bb + cB (n + 1) < 2 ^ 30) (hF : Fs.length + (n + 1) ≤ 99) (hP : P.length + 3 * (n + 1) ≤ 299)
    (hfin : HeadW p l e s m args below meth c Q G ad ct0 dn lk st0 i vv cv Fs ((runS (n + 1) (nI (7 + kk)) (nI 163) x q).1 :: P) (runS (n + 1) (nI (7 + kk)) (nI 163) x q).2) : HeadW p l e s m args below meth c Q G ad ct0 dn lk st0 i vv cv ((163, stN 163, x) :: Fs) P (bgS (nI 163) q) := by
  rw [show cB (n + 1) = 1 + 3 * cB n from rfl] at hbb
  rw [okM_s, Bool.and_eq_true, callsT_163] at hok
  have hok2 := List.all_eq_true.mp hok.2
  have ho0 : okM kk n 162 = true := hok2 (1, 162) (by decide)
  have ho1 : okM kk n 60 = true := hok2 (1, 60) (by decide)
  have hfin2 := hfin
  rw [runS, if_neg (show ¬ nI 163 = 0 by decide), show bodyS (runS n (nI (7 + kk))) (nI (7 + kk)) (nI 163) x (bgS (nI 163) q) = _ from bodyS_163 _ _ _ _] at hfin2
  rw [show (162 : Int32) = nI 162 from rfl] at hfin2
  rw [show selOfF selT (parentF 13) 9 = nI 60 from (by decide +kernel)] at hfin2
  rw [show stN 163 = 203 from (by decide +kernel)]
  have hq0 := bgS_b (nI 163) hq
  refine it_step S hE hT (by omega) (show 203 < 246 by omega) (o := 1000) (by decide +kernel) (by omega) (P2 := x :: P) (q2 := (bgS (nI 163) q)) (fun ct hM => c_X5_step_x l G ad ct hM (by (try simp only [List.length_cons]); omega) x) ?_
  refine it_own S hE hT (by omega) (show 204 < 246 by omega) hq0 (show (bb + 1) < 2 ^ 30 by omega) (by omega) (body_st 162 (by decide)).2 (by omega) (by (try simp only [List.length_cons]); omega) (by decide +kernel) ?_
  refine ih 162 ho0 x _ (P) ((bgS (nI 163) q)) (bb + 1) hq0 (by omega) (by (try simp only [List.length_cons]); omega) (by (try simp only [List.length_cons]); omega) ?_
  obtain ⟨b1, hq1, hlo1, hhi1⟩ := gr_run (nI (7 + kk)) n (nI 162) x ((bgS (nI 163) q)) (bb + 1) hq0
  refine it_step S hE hT (by omega) (show 205 < 246 by omega) (o := 1) (by decide +kernel) (by omega) (P2 := 1 :: ((runS n (nI (7 + kk)) (nI 162) x ((bgS (nI 163) q))).1) :: P) (q2 := (runS n (nI (7 + kk)) (nI 162) x ((bgS (nI 163) q))).2) (fun ct hM => c_X5_step_c l G ad ct hM (o := 1) (by omega) (by (try simp only [List.length_cons]); omega) x) ?_
  refine it_sup S hE hT (by omega) (show 206 < 246 by omega) hq1 (show b1 < 2 ^ 30 by omega) (by omega) (body_st 60 (by decide)).2 (by omega) (by (try simp only [List.length_cons]); omega) (a := 9) (pp := 7) (by omega) (by omega) (by decide +kernel) (by omega) (by decide +kernel) (by decide +kernel) ?_
  refine ih 60 ho1 1 _ (((runS n (nI (7 + kk)) (nI 162) x ((bgS (nI 163) q))).1) :: P) ((runS n (nI (7 + kk)) (nI 162) x ((bgS (nI 163) q))).2) b1 hq1 (by omega) (by (try simp only [List.length_cons]); omega) (by (try simp only [List.length_cons]); omega) ?_
  obtain ⟨b2, hq2, hlo2, hhi2⟩ := gr_run (nI (7 + kk)) n (nI 60) 1 ((runS n (nI (7 + kk)) (nI 162) x ((bgS (nI 163) q))).2) b1 hq1
  refine it_step S hE hT (by omega) (show 207 < 246 by omega) (o := 1003) (by decide +kernel) (by omega) (P2 := (((runS n (nI (7 + kk)) (nI 162) x ((bgS (nI 163) q))).1) + ((runS n (nI (7 + kk)) (nI 60) 1 ((runS n (nI (7 + kk)) (nI 162) x ((bgS (nI 163) q))).2)).1)) :: P) (q2 := (runS n (nI (7 + kk)) (nI 60) 1 ((runS n (nI (7 + kk)) (nI 162) x ((bgS (nI 163) q))).2)).2) (fun ct hM => c_X5_step_p l G ad ct hM (by (try simp only [List.length_cons]); omega) x) ?_
  refine it_end S hE hT (by omega) (show 208 < 246 by omega) (o := 3180) (by decide +kernel) (by omega) ?_
  exact hfin2
set_option maxRecDepth 100000 in
set_option maxHeartbeats 4000000 in
theorem mrun_180 {p : Program} {l : Launch} {e : Env} {s : State} {m : MethodId} {args : Array Value} {below : List Frame} {meth : Method} {c : Code} {Q : State → Prop} {G : hG} {ad : Nat → Nat} {ct0 : Nat → Option va_E} {dn lk st0 : Int32} {i : Nat} {vv cv : Nat → Int32} {kdf : Nat → Int32} (S : CallFix p m c cX5_act 6 s args WS yX5_act.cls) (hE : gE G s) (hT : MTab G ct0 kdf) (hi : i < 300) {kk n : Nat} (hk11 : kk < 11) (hkk : kdf i = nI kk) (ih : RunM p l e s m args below meth c Q G ad ct0 dn lk st0 i vv cv kk n)
    (hok : okM kk (n + 1) 180 = true) (x : Int32) (Fs : List (Nat × Nat × Int32)) (P : List Int32) (q : St) (bb : Nat) (hq : q.2.2.1 = nI bb) (hbb : bb + cB (n + 1) < 2 ^ 30) (hF : Fs.length + (n + 1) ≤ 99) (hP : P.length + 3 * (n + 1) ≤ 299)
    (hfin : HeadW p l e s m args below meth c Q G ad ct0 dn lk st0 i vv cv Fs ((runS (n + 1) (nI (7 + kk)) (nI 180) x q).1 :: P) (runS (n + 1) (nI (7 + kk)) (nI 180) x q).2) : HeadW p l e s m args below meth c Q G ad ct0 dn lk st0 i vv cv ((180, stN 180, x) :: Fs) P (bgS (nI 180) q) := by
  rw [show cB (n + 1) = 1 + 3 * cB n from rfl] at hbb
  rw [okM_s, Bool.and_eq_true, callsT_180] at hok
  have hok2 := List.all_eq_true.mp hok.2
  have ho0 : okM kk n 101 = true := hok2 (1, 101) (by decide)
  have hfin2 := hfin
  rw [runS, if_neg (show ¬ nI 180 = 0 by decide), show bodyS (runS n (nI (7 + kk))) (nI (7 + kk)) (nI 180) x (bgS (nI 180) q) = _ from bodyS_180 _ _ _ _] at hfin2
  rw [show selOfF selT (parentF 15) 9 = nI 101 from (by decide +kernel)] at hfin2
  rw [show stN 180 = 209 from (by decide +kernel)]
  have hq0 := bgS_b (nI 180) hq
  refine it_step S hE hT (by omega) (show 209 < 246 by omega) (o := 1000) (by decide +kernel) (by omega) (P2 := x :: P) (q2 := (bgS (nI 180) q)) (fun ct hM => c_X5_step_x l G ad ct hM (by (try simp only [List.length_cons]); omega) x) ?_
  refine it_sup S hE hT (by omega) (show 210 < 246 by omega) hq0 (show (bb + 1) < 2 ^ 30 by omega) (by omega) (body_st 101 (by decide)).2 (by omega) (by (try simp only [List.length_cons]); omega) (a := 9) (pp := 13) (by omega) (by omega) (by decide +kernel) (by omega) (by decide +kernel) (by decide +kernel) ?_
  refine ih 101 ho0 x _ (P) ((bgS (nI 180) q)) (bb + 1) hq0 (by omega) (by (try simp only [List.length_cons]); omega) (by (try simp only [List.length_cons]); omega) ?_
  obtain ⟨b1, hq1, hlo1, hhi1⟩ := gr_run (nI (7 + kk)) n (nI 101) x ((bgS (nI 180) q)) (bb + 1) hq0
  refine it_step S hE hT (by omega) (show 211 < 246 by omega) (o := 1) (by decide +kernel) (by omega) (P2 := 1 :: ((runS n (nI (7 + kk)) (nI 101) x ((bgS (nI 180) q))).1) :: P) (q2 := (runS n (nI (7 + kk)) (nI 101) x ((bgS (nI 180) q))).2) (fun ct hM => c_X5_step_c l G ad ct hM (o := 1) (by omega) (by (try simp only [List.length_cons]); omega) x) ?_
  refine it_step S hE hT (by omega) (show 212 < 246 by omega) (o := 1004) (by decide +kernel) (by omega) (P2 := (((runS n (nI (7 + kk)) (nI 101) x ((bgS (nI 180) q))).1) - 1) :: P) (q2 := (runS n (nI (7 + kk)) (nI 101) x ((bgS (nI 180) q))).2) (fun ct hM => c_X5_step_l l G ad ct hM (by (try simp only [List.length_cons]); omega) x) ?_
  refine it_end S hE hT (by omega) (show 213 < 246 by omega) (o := 3181) (by decide +kernel) (by omega) ?_
  exact hfin2
set_option maxRecDepth 100000 in
set_option maxHeartbeats 4000000 in
theorem mrun_181 {p : Program} {l : Launch} {e : Env} {s : State} {m : MethodId} {args : Array Value} {below : List Frame} {meth : Method} {c : Code} {Q : State → Prop} {G : hG} {ad : Nat → Nat} {ct0 : Nat → Option va_E} {dn lk st0 : Int32} {i : Nat} {vv cv : Nat → Int32} {kdf : Nat → Int32} (S : CallFix p m c cX5_act 6 s args WS yX5_act.cls) (hE : gE G s) (hT : MTab G ct0 kdf) (hi : i < 300) {kk n : Nat} (hk11 : kk < 11) (hkk : kdf i = nI kk) (ih : RunM p l e s m args below meth c Q G ad ct0 dn lk st0 i vv cv kk n)
    (hok : okM kk (n + 1) 181 = true) (x : Int32) (Fs : List (Nat × Nat × Int32)) (P : List Int32) (q : St) (bb : Nat) (hq : q.2.2.1 = nI bb) (hbb : bb + cB (n + 1) < 2 ^ 30) (hF : Fs.length + (n + 1) ≤ 99) (hP : P.length + 3 * (n + 1) ≤ 299)
    (hfin : HeadW p l e s m args below meth c Q G ad ct0 dn lk st0 i vv cv Fs ((runS (n + 1) (nI (7 + kk)) (nI 181) x q).1 :: P) (runS (n + 1) (nI (7 + kk)) (nI 181) x q).2) : HeadW p l e s m args below meth c Q G ad ct0 dn lk st0 i vv cv ((181, stN 181, x) :: Fs) P (bgS (nI 181) q) := by
  rw [show cB (n + 1) = 1 + 3 * cB n from rfl] at hbb
  rw [okM_s, Bool.and_eq_true, callsT_181] at hok
  have hok2 := List.all_eq_true.mp hok.2
  have ho0 : okM kk n 11 = true := hok2 (1, 11) (by decide)
  have hx1 : (vdT kk 1 && okM kk n (doB kk 1)) = true := hok2 (0, 1) (by decide)
  rw [Bool.and_eq_true] at hx1
  have hv1 := hx1.1
  have ho1 := hx1.2
  have hfin2 := hfin
  rw [runS, if_neg (show ¬ nI 181 = 0 by decide), show bodyS (runS n (nI (7 + kk))) (nI (7 + kk)) (nI 181) x (bgS (nI 181) q) = _ from bodyS_181 _ _ _ _] at hfin2
  obtain ⟨hc1, hn1, hs1, hl1⟩ := do_val kk hk11 1 (by omega) hv1
  rw [show selOfF selT (parentF 15) 2 = nI 11 from (by decide +kernel)] at hfin2
  rw [show selOfF selT (nI (7 + kk)) 1 = nI (doB kk 1) from hl1] at hfin2
  rw [show stN 181 = 214 from (by decide +kernel)]
  have hq0 := bgS_b (nI 181) hq
  refine it_step S hE hT (by omega) (show 214 < 246 by omega) (o := 1000) (by decide +kernel) (by omega) (P2 := x :: P) (q2 := (bgS (nI 181) q)) (fun ct hM => c_X5_step_x l G ad ct hM (by (try simp only [List.length_cons]); omega) x) ?_
  refine it_sup S hE hT (by omega) (show 215 < 246 by omega) hq0 (show (bb + 1) < 2 ^ 30 by omega) (by omega) (body_st 11 (by decide)).2 (by omega) (by (try simp only [List.length_cons]); omega) (a := 2) (pp := 13) (by omega) (by omega) (by decide +kernel) (by omega) (by decide +kernel) (by decide +kernel) ?_
  refine ih 11 ho0 x _ (P) ((bgS (nI 181) q)) (bb + 1) hq0 (by omega) (by (try simp only [List.length_cons]); omega) (by (try simp only [List.length_cons]); omega) ?_
  obtain ⟨b1, hq1, hlo1, hhi1⟩ := gr_run (nI (7 + kk)) n (nI 11) x ((bgS (nI 181) q)) (bb + 1) hq0
  refine it_step S hE hT (by omega) (show 216 < 246 by omega) (o := 2) (by decide +kernel) (by omega) (P2 := 2 :: ((runS n (nI (7 + kk)) (nI 11) x ((bgS (nI 181) q))).1) :: P) (q2 := (runS n (nI (7 + kk)) (nI 11) x ((bgS (nI 181) q))).2) (fun ct hM => c_X5_step_c l G ad ct hM (o := 2) (by omega) (by (try simp only [List.length_cons]); omega) x) ?_
  refine it_do S hE hT (by omega) (show 217 < 246 by omega) hq1 (show b1 < 2 ^ 30 by omega) hn1 hs1 (by omega) (by (try simp only [List.length_cons]); omega) (by omega) hi hkk hk11 hc1 (by decide +kernel) ?_
  refine ih (doB kk 1) ho1 2 _ (((runS n (nI (7 + kk)) (nI 11) x ((bgS (nI 181) q))).1) :: P) ((runS n (nI (7 + kk)) (nI 11) x ((bgS (nI 181) q))).2) b1 hq1 (by omega) (by (try simp only [List.length_cons]); omega) (by (try simp only [List.length_cons]); omega) ?_
  obtain ⟨b2, hq2, hlo2, hhi2⟩ := gr_run (nI (7 + kk)) n (nI (doB kk 1)) 2 ((runS n (nI (7 + kk)) (nI 11) x ((bgS (nI 181) q))).2) b1 hq1
  refine it_step S hE hT (by omega) (show 218 < 246 by omega) (o := 1003) (by decide +kernel) (by omega) (P2 := (((runS n (nI (7 + kk)) (nI 11) x ((bgS (nI 181) q))).1) + ((runS n (nI (7 + kk)) (nI (doB kk 1)) 2 ((runS n (nI (7 + kk)) (nI 11) x ((bgS (nI 181) q))).2)).1)) :: P) (q2 := (runS n (nI (7 + kk)) (nI (doB kk 1)) 2 ((runS n (nI (7 + kk)) (nI 11) x ((bgS (nI 181) q))).2)).2) (fun ct hM => c_X5_step_p l G ad ct hM (by (try simp only [List.length_cons]); omega) x) ?_
  refine it_end S hE hT (by omega) (show 219 < 246 by omega) (o := 3190) (by decide +kernel) (by omega) ?_
  exact hfin2
set_option maxRecDepth 100000 in
set_option maxHeartbeats 4000000 in
theorem mrun_190 {p : Program} {l : Launch} {e : Env} {s : State} {m : MethodId} {args : Array Value} {below : List Frame} {meth : Method} {c : Code} {Q : State → Prop} {G : hG} {ad : Nat → Nat} {ct0 : Nat → Option va_E} {dn lk st0 : Int32} {i : Nat} {vv cv : Nat → Int32} {kdf : Nat → Int32} (S : CallFix p m c cX5_act 6 s args WS yX5_act.cls) (hE : gE G s) (hT : MTab G ct0 kdf) (hi : i < 300) {kk n : Nat} (hk11 : kk < 11) (hkk : kdf i = nI kk) (ih : RunM p l e s m args below meth c Q G ad ct0 dn lk st0 i vv cv kk n)
    (hok : okM kk (n + 1) 190 = true) (x : Int32) (Fs : List (Nat × Nat × Int32)) (P : List Int32) (q : St) (bb : Nat) (hq : q.2.2.1 = nI bb) (hbb : bb + cB (n + 1) < 2 ^ 30) (hF : Fs.length + (n + 1) ≤ 99) (hP : P.length + 3 * (n + 1) ≤ 299)
    (hfin : HeadW p l e s m args below meth c Q G ad ct0 dn lk st0 i vv cv Fs ((runS (n + 1) (nI (7 + kk)) (nI 190) x q).1 :: P) (runS (n + 1) (nI (7 + kk)) (nI 190) x q).2) : HeadW p l e s m args below meth c Q G ad ct0 dn lk st0 i vv cv ((190, stN 190, x) :: Fs) P (bgS (nI 190) q) := by
  rw [show cB (n + 1) = 1 + 3 * cB n from rfl] at hbb
  rw [okM_s, Bool.and_eq_true, callsT_190] at hok
  have hok2 := List.all_eq_true.mp hok.2
  have hx0 : (vdT kk 10 && okM kk n (doB kk 10)) = true := hok2 (0, 10) (by decide)
  rw [Bool.and_eq_true] at hx0
  have hv0 := hx0.1
  have ho0 := hx0.2
  have hfin2 := hfin
  rw [runS, if_neg (show ¬ nI 190 = 0 by decide), show bodyS (runS n (nI (7 + kk))) (nI (7 + kk)) (nI 190) x (bgS (nI 190) q) = _ from bodyS_190 _ _ _ _] at hfin2
  obtain ⟨hc0, hn0, hs0, hl0⟩ := do_val kk hk11 10 (by omega) hv0
  rw [show selOfF selT (nI (7 + kk)) 10 = nI (doB kk 10) from hl0] at hfin2
  rw [show stN 190 = 220 from (by decide +kernel)]
  have hq0 := bgS_b (nI 190) hq
  refine it_step S hE hT (by omega) (show 220 < 246 by omega) (o := 1000) (by decide +kernel) (by omega) (P2 := x :: P) (q2 := (bgS (nI 190) q)) (fun ct hM => c_X5_step_x l G ad ct hM (by (try simp only [List.length_cons]); omega) x) ?_
  refine it_do S hE hT (by omega) (show 221 < 246 by omega) hq0 (show (bb + 1) < 2 ^ 30 by omega) hn0 hs0 (by omega) (by (try simp only [List.length_cons]); omega) (by omega) hi hkk hk11 hc0 (by decide +kernel) ?_
  refine ih (doB kk 10) ho0 x _ (P) ((bgS (nI 190) q)) (bb + 1) hq0 (by omega) (by (try simp only [List.length_cons]); omega) (by (try simp only [List.length_cons]); omega) ?_
  obtain ⟨b1, hq1, hlo1, hhi1⟩ := gr_run (nI (7 + kk)) n (nI (doB kk 10)) x ((bgS (nI 190) q)) (bb + 1) hq0
  refine it_step S hE hT (by omega) (show 222 < 246 by omega) (o := 2) (by decide +kernel) (by omega) (P2 := 2 :: ((runS n (nI (7 + kk)) (nI (doB kk 10)) x ((bgS (nI 190) q))).1) :: P) (q2 := (runS n (nI (7 + kk)) (nI (doB kk 10)) x ((bgS (nI 190) q))).2) (fun ct hM => c_X5_step_c l G ad ct hM (o := 2) (by omega) (by (try simp only [List.length_cons]); omega) x) ?_
  refine it_step S hE hT (by omega) (show 223 < 246 by omega) (o := 1005) (by decide +kernel) (by omega) (P2 := (((runS n (nI (7 + kk)) (nI (doB kk 10)) x ((bgS (nI 190) q))).1) * 2) :: P) (q2 := (runS n (nI (7 + kk)) (nI (doB kk 10)) x ((bgS (nI 190) q))).2) (fun ct hM => c_X5_step_t l G ad ct hM (by (try simp only [List.length_cons]); omega) x) ?_
  refine it_end S hE hT (by omega) (show 224 < 246 by omega) (o := 3200) (by decide +kernel) (by omega) ?_
  exact hfin2
set_option maxRecDepth 100000 in
set_option maxHeartbeats 4000000 in
theorem mrun_200 {p : Program} {l : Launch} {e : Env} {s : State} {m : MethodId} {args : Array Value} {below : List Frame} {meth : Method} {c : Code} {Q : State → Prop} {G : hG} {ad : Nat → Nat} {ct0 : Nat → Option va_E} {dn lk st0 : Int32} {i : Nat} {vv cv : Nat → Int32} {kdf : Nat → Int32} (S : CallFix p m c cX5_act 6 s args WS yX5_act.cls) (hE : gE G s) (hT : MTab G ct0 kdf) (hi : i < 300) {kk n : Nat} (hk11 : kk < 11) (hkk : kdf i = nI kk) (ih : RunM p l e s m args below meth c Q G ad ct0 dn lk st0 i vv cv kk n)
    (hok : okM kk (n + 1) 200 = true) (x : Int32) (Fs : List (Nat × Nat × Int32)) (P : List Int32) (q : St) (bb : Nat) (hq : q.2.2.1 = nI bb) (hbb : bb + cB (n + 1) < 2 ^ 30) (hF : Fs.length + (n + 1) ≤ 99) (hP : P.length + 3 * (n + 1) ≤ 299)
    (hfin : HeadW p l e s m args below meth c Q G ad ct0 dn lk st0 i vv cv Fs ((runS (n + 1) (nI (7 + kk)) (nI 200) x q).1 :: P) (runS (n + 1) (nI (7 + kk)) (nI 200) x q).2) : HeadW p l e s m args below meth c Q G ad ct0 dn lk st0 i vv cv ((200, stN 200, x) :: Fs) P (bgS (nI 200) q) := by
  rw [show cB (n + 1) = 1 + 3 * cB n from rfl] at hbb
  rw [okM_s, Bool.and_eq_true, callsT_200] at hok
  have hok2 := List.all_eq_true.mp hok.2
  have hfin2 := hfin
  rw [runS, if_neg (show ¬ nI 200 = 0 by decide), show bodyS (runS n (nI (7 + kk))) (nI (7 + kk)) (nI 200) x (bgS (nI 200) q) = _ from bodyS_200 _ _ _ _] at hfin2
  rw [show stN 200 = 225 from (by decide +kernel)]
  have hq0 := bgS_b (nI 200) hq
  refine it_step S hE hT (by omega) (show 225 < 246 by omega) (o := 1002) (by decide +kernel) (by omega) (P2 := (((bgS (nI 200) q)).2.1) :: P) (q2 := (bgS (nI 200) q)) (fun ct hM => c_X5_step_w l G ad ct hM (by (try simp only [List.length_cons]); omega) hi x) ?_
  refine it_step S hE hT (by omega) (show 226 < 246 by omega) (o := 1000) (by decide +kernel) (by omega) (P2 := x :: (((bgS (nI 200) q)).2.1) :: P) (q2 := (bgS (nI 200) q)) (fun ct hM => c_X5_step_x l G ad ct hM (by (try simp only [List.length_cons]); omega) x) ?_
  refine it_step S hE hT (by omega) (show 227 < 246 by omega) (o := 1003) (by decide +kernel) (by omega) (P2 := ((((bgS (nI 200) q)).2.1) + x) :: P) (q2 := (bgS (nI 200) q)) (fun ct hM => c_X5_step_p l G ad ct hM (by (try simp only [List.length_cons]); omega) x) ?_
  refine it_end S hE hT (by omega) (show 228 < 246 by omega) (o := 3201) (by decide +kernel) (by omega) ?_
  exact hfin2
set_option maxRecDepth 100000 in
set_option maxHeartbeats 4000000 in
theorem mrun_201 {p : Program} {l : Launch} {e : Env} {s : State} {m : MethodId} {args : Array Value} {below : List Frame} {meth : Method} {c : Code} {Q : State → Prop} {G : hG} {ad : Nat → Nat} {ct0 : Nat → Option va_E} {dn lk st0 : Int32} {i : Nat} {vv cv : Nat → Int32} {kdf : Nat → Int32} (S : CallFix p m c cX5_act 6 s args WS yX5_act.cls) (hE : gE G s) (hT : MTab G ct0 kdf) (hi : i < 300) {kk n : Nat} (hk11 : kk < 11) (hkk : kdf i = nI kk) (ih : RunM p l e s m args below meth c Q G ad ct0 dn lk st0 i vv cv kk n)
    (hok : okM kk (n + 1) 201 = true) (x : Int32) (Fs : List (Nat × Nat × Int32)) (P : List Int32) (q : St) (bb : Nat) (hq : q.2.2.1 = nI bb) (hbb : bb + cB (n + 1) < 2 ^ 30) (hF : Fs.length + (n + 1) ≤ 99) (hP : P.length + 3 * (n + 1) ≤ 299)
    (hfin : HeadW p l e s m args below meth c Q G ad ct0 dn lk st0 i vv cv Fs ((runS (n + 1) (nI (7 + kk)) (nI 201) x q).1 :: P) (runS (n + 1) (nI (7 + kk)) (nI 201) x q).2) : HeadW p l e s m args below meth c Q G ad ct0 dn lk st0 i vv cv ((201, stN 201, x) :: Fs) P (bgS (nI 201) q) := by
  rw [show cB (n + 1) = 1 + 3 * cB n from rfl] at hbb
  rw [okM_s, Bool.and_eq_true, callsT_201] at hok
  have hok2 := List.all_eq_true.mp hok.2
  have ho0 : okM kk n 50 = true := hok2 (1, 50) (by decide)
  have ho1 : okM kk n 200 = true := hok2 (1, 200) (by decide)
  have hfin2 := hfin
  rw [runS, if_neg (show ¬ nI 201 = 0 by decide), show bodyS (runS n (nI (7 + kk))) (nI (7 + kk)) (nI 201) x (bgS (nI 201) q) = _ from bodyS_201 _ _ _ _] at hfin2
  rw [show selOfF selT 6 7 = nI 50 from (by decide +kernel)] at hfin2
  rw [show (200 : Int32) = nI 200 from rfl] at hfin2
  rw [show stN 201 = 229 from (by decide +kernel)]
  have hq0 := bgS_b (nI 201) hq
  refine it_step S hE hT (by omega) (show 229 < 246 by omega) (o := 1000) (by decide +kernel) (by omega) (P2 := x :: P) (q2 := (bgS (nI 201) q)) (fun ct hM => c_X5_step_x l G ad ct hM (by (try simp only [List.length_cons]); omega) x) ?_
  refine it_of S hE hT (by omega) (show 230 < 246 by omega) hq0 (show (bb + 1) < 2 ^ 30 by omega) (by omega) (body_st 50 (by decide)).2 (by omega) (by (try simp only [List.length_cons]); omega) (k0 := 55) (by omega) (by decide +kernel) (by decide +kernel) ?_
  refine ih 50 ho0 x _ (P) ((bgS (nI 201) q)) (bb + 1) hq0 (by omega) (by (try simp only [List.length_cons]); omega) (by (try simp only [List.length_cons]); omega) ?_
  obtain ⟨b1, hq1, hlo1, hhi1⟩ := gr_run (nI (7 + kk)) n (nI 50) x ((bgS (nI 201) q)) (bb + 1) hq0
  refine it_step S hE hT (by omega) (show 231 < 246 by omega) (o := 1000) (by decide +kernel) (by omega) (P2 := x :: ((runS n (nI (7 + kk)) (nI 50) x ((bgS (nI 201) q))).1) :: P) (q2 := (runS n (nI (7 + kk)) (nI 50) x ((bgS (nI 201) q))).2) (fun ct hM => c_X5_step_x l G ad ct hM (by (try simp only [List.length_cons]); omega) x) ?_
  refine it_own S hE hT (by omega) (show 232 < 246 by omega) hq1 (show b1 < 2 ^ 30 by omega) (by omega) (body_st 200 (by decide)).2 (by omega) (by (try simp only [List.length_cons]); omega) (by decide +kernel) ?_
  refine ih 200 ho1 x _ (((runS n (nI (7 + kk)) (nI 50) x ((bgS (nI 201) q))).1) :: P) ((runS n (nI (7 + kk)) (nI 50) x ((bgS (nI 201) q))).2) b1 hq1 (by omega) (by (try simp only [List.length_cons]); omega) (by (try simp only [List.length_cons]); omega) ?_
  obtain ⟨b2, hq2, hlo2, hhi2⟩ := gr_run (nI (7 + kk)) n (nI 200) x ((runS n (nI (7 + kk)) (nI 50) x ((bgS (nI 201) q))).2) b1 hq1
  refine it_step S hE hT (by omega) (show 233 < 246 by omega) (o := 1003) (by decide +kernel) (by omega) (P2 := (((runS n (nI (7 + kk)) (nI 50) x ((bgS (nI 201) q))).1) + ((runS n (nI (7 + kk)) (nI 200) x ((runS n (nI (7 + kk)) (nI 50) x ((bgS (nI 201) q))).2)).1)) :: P) (q2 := (runS n (nI (7 + kk)) (nI 200) x ((runS n (nI (7 + kk)) (nI 50) x ((bgS (nI 201) q))).2)).2) (fun ct hM => c_X5_step_p l G ad ct hM (by (try simp only [List.length_cons]); omega) x) ?_
  refine it_end S hE hT (by omega) (show 234 < 246 by omega) (o := 3202) (by decide +kernel) (by omega) ?_
  exact hfin2
set_option maxRecDepth 100000 in
set_option maxHeartbeats 4000000 in
theorem mrun_202 {p : Program} {l : Launch} {e : Env} {s : State} {m : MethodId} {args : Array Value} {below : List Frame} {meth : Method} {c : Code} {Q : State → Prop} {G : hG} {ad : Nat → Nat} {ct0 : Nat → Option va_E} {dn lk st0 : Int32} {i : Nat} {vv cv : Nat → Int32} {kdf : Nat → Int32} (S : CallFix p m c cX5_act 6 s args WS yX5_act.cls) (hE : gE G s) (hT : MTab G ct0 kdf) (hi : i < 300) {kk n : Nat} (hk11 : kk < 11) (hkk : kdf i = nI kk) (ih : RunM p l e s m args below meth c Q G ad ct0 dn lk st0 i vv cv kk n)
    (hok : okM kk (n + 1) 202 = true) (x : Int32) (Fs : List (Nat × Nat × Int32)) (P : List Int32) (q : St) (bb : Nat) (hq : q.2.2.1 = nI bb) (hbb : bb + cB (n + 1) < 2 ^ 30) (hF : Fs.length + (n + 1) ≤ 99) (hP : P.length + 3 * (n + 1) ≤ 299)
    (hfin : HeadW p l e s m args below meth c Q G ad ct0 dn lk st0 i vv cv Fs ((runS (n + 1) (nI (7 + kk)) (nI 202) x q).1 :: P) (runS (n + 1) (nI (7 + kk)) (nI 202) x q).2) : HeadW p l e s m args below meth c Q G ad ct0 dn lk st0 i vv cv ((202, stN 202, x) :: Fs) P (bgS (nI 202) q) := by
  rw [show cB (n + 1) = 1 + 3 * cB n from rfl] at hbb
  rw [okM_s, Bool.and_eq_true, callsT_202] at hok
  have hok2 := List.all_eq_true.mp hok.2
  have ho0 : okM kk n 30 = true := hok2 (1, 30) (by decide)
  have ho1 : okM kk n 141 = true := hok2 (1, 141) (by decide)
  have hfin2 := hfin
  rw [runS, if_neg (show ¬ nI 202 = 0 by decide), show bodyS (runS n (nI (7 + kk))) (nI (7 + kk)) (nI 202) x (bgS (nI 202) q) = _ from bodyS_202 _ _ _ _] at hfin2
  rw [show selOfF selT 4 2 = nI 30 from (by decide +kernel)] at hfin2
  rw [show selOfF selT (parentF 17) 2 = nI 141 from (by decide +kernel)] at hfin2
  rw [show stN 202 = 235 from (by decide +kernel)]
  have hq0 := bgS_b (nI 202) hq
  refine it_step S hE hT (by omega) (show 235 < 246 by omega) (o := 1000) (by decide +kernel) (by omega) (P2 := x :: P) (q2 := (bgS (nI 202) q)) (fun ct hM => c_X5_step_x l G ad ct hM (by (try simp only [List.length_cons]); omega) x) ?_
  refine it_of S hE hT (by omega) (show 236 < 246 by omega) hq0 (show (bb + 1) < 2 ^ 30 by omega) (by omega) (body_st 30 (by decide)).2 (by omega) (by (try simp only [List.length_cons]); omega) (k0 := 26) (by omega) (by decide +kernel) (by decide +kernel) ?_
  refine ih 30 ho0 x _ (P) ((bgS (nI 202) q)) (bb + 1) hq0 (by omega) (by (try simp only [List.length_cons]); omega) (by (try simp only [List.length_cons]); omega) ?_
  obtain ⟨b1, hq1, hlo1, hhi1⟩ := gr_run (nI (7 + kk)) n (nI 30) x ((bgS (nI 202) q)) (bb + 1) hq0
  refine it_step S hE hT (by omega) (show 237 < 246 by omega) (o := 1000) (by decide +kernel) (by omega) (P2 := x :: ((runS n (nI (7 + kk)) (nI 30) x ((bgS (nI 202) q))).1) :: P) (q2 := (runS n (nI (7 + kk)) (nI 30) x ((bgS (nI 202) q))).2) (fun ct hM => c_X5_step_x l G ad ct hM (by (try simp only [List.length_cons]); omega) x) ?_
  refine it_sup S hE hT (by omega) (show 238 < 246 by omega) hq1 (show b1 < 2 ^ 30 by omega) (by omega) (body_st 141 (by decide)).2 (by omega) (by (try simp only [List.length_cons]); omega) (a := 2) (pp := 14) (by omega) (by omega) (by decide +kernel) (by omega) (by decide +kernel) (by decide +kernel) ?_
  refine ih 141 ho1 x _ (((runS n (nI (7 + kk)) (nI 30) x ((bgS (nI 202) q))).1) :: P) ((runS n (nI (7 + kk)) (nI 30) x ((bgS (nI 202) q))).2) b1 hq1 (by omega) (by (try simp only [List.length_cons]); omega) (by (try simp only [List.length_cons]); omega) ?_
  obtain ⟨b2, hq2, hlo2, hhi2⟩ := gr_run (nI (7 + kk)) n (nI 141) x ((runS n (nI (7 + kk)) (nI 30) x ((bgS (nI 202) q))).2) b1 hq1
  refine it_step S hE hT (by omega) (show 239 < 246 by omega) (o := 1003) (by decide +kernel) (by omega) (P2 := (((runS n (nI (7 + kk)) (nI 30) x ((bgS (nI 202) q))).1) + ((runS n (nI (7 + kk)) (nI 141) x ((runS n (nI (7 + kk)) (nI 30) x ((bgS (nI 202) q))).2)).1)) :: P) (q2 := (runS n (nI (7 + kk)) (nI 141) x ((runS n (nI (7 + kk)) (nI 30) x ((bgS (nI 202) q))).2)).2) (fun ct hM => c_X5_step_p l G ad ct hM (by (try simp only [List.length_cons]); omega) x) ?_
  refine it_end S hE hT (by omega) (show 240 < 246 by omega) (o := 3204) (by decide +kernel) (by omega) ?_
  exact hfin2
set_option maxRecDepth 100000 in
set_option maxHeartbeats 4000000 in
theorem mrun_204 {p : Program} {l : Launch} {e : Env} {s : State} {m : MethodId} {args : Array Value} {below : List Frame} {meth : Method} {c : Code} {Q : State → Prop} {G : hG} {ad : Nat → Nat} {ct0 : Nat → Option va_E} {dn lk st0 : Int32} {i : Nat} {vv cv : Nat → Int32} {kdf : Nat → Int32} (S : CallFix p m c cX5_act 6 s args WS yX5_act.cls) (hE : gE G s) (hT : MTab G ct0 kdf) (hi : i < 300) {kk n : Nat} (hk11 : kk < 11) (hkk : kdf i = nI kk) (ih : RunM p l e s m args below meth c Q G ad ct0 dn lk st0 i vv cv kk n)
    (hok : okM kk (n + 1) 204 = true) (x : Int32) (Fs : List (Nat × Nat × Int32)) (P : List Int32) (q : St) (bb : Nat) (hq : q.2.2.1 = nI bb) (hbb : bb + cB (n + 1) < 2 ^ 30) (hF : Fs.length + (n + 1) ≤ 99) (hP : P.length + 3 * (n + 1) ≤ 299)
    (hfin : HeadW p l e s m args below meth c Q G ad ct0 dn lk st0 i vv cv Fs ((runS (n + 1) (nI (7 + kk)) (nI 204) x q).1 :: P) (runS (n + 1) (nI (7 + kk)) (nI 204) x q).2) : HeadW p l e s m args below meth c Q G ad ct0 dn lk st0 i vv cv ((204, stN 204, x) :: Fs) P (bgS (nI 204) q) := by
  rw [show cB (n + 1) = 1 + 3 * cB n from rfl] at hbb
  rw [okM_s, Bool.and_eq_true, callsT_204] at hok
  have hok2 := List.all_eq_true.mp hok.2
  have ho0 : okM kk n 70 = true := hok2 (1, 70) (by decide)
  have hfin2 := hfin
  rw [runS, if_neg (show ¬ nI 204 = 0 by decide), show bodyS (runS n (nI (7 + kk))) (nI (7 + kk)) (nI 204) x (bgS (nI 204) q) = _ from bodyS_204 _ _ _ _] at hfin2
  rw [show selOfF selT (parentF 17) 5 = nI 70 from (by decide +kernel)] at hfin2
  rw [show stN 204 = 241 from (by decide +kernel)]
  have hq0 := bgS_b (nI 204) hq
  refine it_step S hE hT (by omega) (show 241 < 246 by omega) (o := 1000) (by decide +kernel) (by omega) (P2 := x :: P) (q2 := (bgS (nI 204) q)) (fun ct hM => c_X5_step_x l G ad ct hM (by (try simp only [List.length_cons]); omega) x) ?_
  refine it_sup S hE hT (by omega) (show 242 < 246 by omega) hq0 (show (bb + 1) < 2 ^ 30 by omega) (by omega) (body_st 70 (by decide)).2 (by omega) (by (try simp only [List.length_cons]); omega) (a := 5) (pp := 14) (by omega) (by omega) (by decide +kernel) (by omega) (by decide +kernel) (by decide +kernel) ?_
  refine ih 70 ho0 x _ (P) ((bgS (nI 204) q)) (bb + 1) hq0 (by omega) (by (try simp only [List.length_cons]); omega) (by (try simp only [List.length_cons]); omega) ?_
  obtain ⟨b1, hq1, hlo1, hhi1⟩ := gr_run (nI (7 + kk)) n (nI 70) x ((bgS (nI 204) q)) (bb + 1) hq0
  refine it_step S hE hT (by omega) (show 243 < 246 by omega) (o := 1) (by decide +kernel) (by omega) (P2 := 1 :: ((runS n (nI (7 + kk)) (nI 70) x ((bgS (nI 204) q))).1) :: P) (q2 := (runS n (nI (7 + kk)) (nI 70) x ((bgS (nI 204) q))).2) (fun ct hM => c_X5_step_c l G ad ct hM (o := 1) (by omega) (by (try simp only [List.length_cons]); omega) x) ?_
  refine it_step S hE hT (by omega) (show 244 < 246 by omega) (o := 1003) (by decide +kernel) (by omega) (P2 := (((runS n (nI (7 + kk)) (nI 70) x ((bgS (nI 204) q))).1) + 1) :: P) (q2 := (runS n (nI (7 + kk)) (nI 70) x ((bgS (nI 204) q))).2) (fun ct hM => c_X5_step_p l G ad ct hM (by (try simp only [List.length_cons]); omega) x) ?_
  refine it_end S hE hT (by omega) (show 245 < 246 by omega) (o := 3000) (by decide +kernel) (by omega) ?_
  exact hfin2
theorem mrun_all {p : Program} {l : Launch} {e : Env} {s : State} {m : MethodId} {args : Array Value} {below : List Frame} {meth : Method} {c : Code} {Q : State → Prop} {G : hG} {ad : Nat → Nat} {ct0 : Nat → Option va_E} {dn lk st0 : Int32} {i : Nat} {vv cv : Nat → Int32} {kdf : Nat → Int32} (S : CallFix p m c cX5_act 6 s args WS yX5_act.cls) (hE : gE G s) (hT : MTab G ct0 kdf) (hi : i < 300) {kk : Nat} (hk11 : kk < 11) (hkk : kdf i = nI kk) : ∀ n, RunM p l e s m args below meth c Q G ad ct0 dn lk st0 i vv cv kk n
  | 0 => fun b h => absurd h (by rw [okM_0]; decide)
  | n + 1 => fun b h => by
    have ih : RunM p l e s m args below meth c Q G ad ct0 dn lk st0 i vv cv kk n := mrun_all S hE hT hi hk11 hkk n
    have hb := okM_mem h
    unfold bodyNl at hb
    simp only [List.mem_cons, List.not_mem_nil, or_false] at hb
    rcases hb with rfl | rfl | rfl | rfl | rfl | rfl | rfl | rfl | rfl | rfl | rfl | rfl | rfl | rfl | rfl | rfl | rfl | rfl | rfl | rfl | rfl | rfl | rfl | rfl | rfl | rfl | rfl | rfl | rfl | rfl | rfl | rfl | rfl | rfl | rfl | rfl | rfl | rfl | rfl | rfl | rfl
    · exact mrun_10 S hE hT hi hk11 hkk ih h
    · exact mrun_11 S hE hT hi hk11 hkk ih h
    · exact mrun_20 S hE hT hi hk11 hkk ih h
    · exact mrun_21 S hE hT hi hk11 hkk ih h
    · exact mrun_30 S hE hT hi hk11 hkk ih h
    · exact mrun_40 S hE hT hi hk11 hkk ih h
    · exact mrun_41 S hE hT hi hk11 hkk ih h
    · exact mrun_50 S hE hT hi hk11 hkk ih h
    · exact mrun_51 S hE hT hi hk11 hkk ih h
    · exact mrun_52 S hE hT hi hk11 hkk ih h
    · exact mrun_60 S hE hT hi hk11 hkk ih h
    · exact mrun_61 S hE hT hi hk11 hkk ih h
    · exact mrun_62 S hE hT hi hk11 hkk ih h
    · exact mrun_63 S hE hT hi hk11 hkk ih h
    · exact mrun_64 S hE hT hi hk11 hkk ih h
    · exact mrun_70 S hE hT hi hk11 hkk ih h
    · exact mrun_100 S hE hT hi hk11 hkk ih h
    · exact mrun_101 S hE hT hi hk11 hkk ih h
    · exact mrun_110 S hE hT hi hk11 hkk ih h
    · exact mrun_111 S hE hT hi hk11 hkk ih h
    · exact mrun_112 S hE hT hi hk11 hkk ih h
    · exact mrun_120 S hE hT hi hk11 hkk ih h
    · exact mrun_130 S hE hT hi hk11 hkk ih h
    · exact mrun_131 S hE hT hi hk11 hkk ih h
    · exact mrun_140 S hE hT hi hk11 hkk ih h
    · exact mrun_141 S hE hT hi hk11 hkk ih h
    · exact mrun_142 S hE hT hi hk11 hkk ih h
    · exact mrun_150 S hE hT hi hk11 hkk ih h
    · exact mrun_151 S hE hT hi hk11 hkk ih h
    · exact mrun_152 S hE hT hi hk11 hkk ih h
    · exact mrun_160 S hE hT hi hk11 hkk ih h
    · exact mrun_161 S hE hT hi hk11 hkk ih h
    · exact mrun_162 S hE hT hi hk11 hkk ih h
    · exact mrun_163 S hE hT hi hk11 hkk ih h
    · exact mrun_180 S hE hT hi hk11 hkk ih h
    · exact mrun_181 S hE hT hi hk11 hkk ih h
    · exact mrun_190 S hE hT hi hk11 hkk ih h
    · exact mrun_200 S hE hT hi hk11 hkk ih h
    · exact mrun_201 S hE hT hi hk11 hkk ih h
    · exact mrun_202 S hE hT hi hk11 hkk ih h
    · exact mrun_204 S hE hT hi hk11 hkk ih h
