/-! BASE: the environment of every method, the world by places, rows over it -/
abbrev hG : Type := va_G × (ClassId × ClassId × ClassId) × (Nat × Nat × Nat × Nat) × Nat
def hA (z : Nat) : Nat → Prop := fun q => z ≤ q
def hN : List Cond := [.fieldLinkNest RX4 102 "LineOfHeirs$Trail" "begun" "I" RX4,
  .fieldLinkNest RX4 123 "LineOfHeirs$Device" "firstLink" "LLineOfHeirs$Link;" RX4,
  .fieldLinkNest RX4 75 "LineOfHeirs$Device" "linksTo" "I" RX4,
  .fieldLinkNest RX4 131 "LineOfHeirs$Device" "latestPulse" "I" RX4,
  .fieldLinkNest RX4 134 "LineOfHeirs$Device" "tookAnswer" "I" RX4,
  .fieldLinkNest RX4 127 "LineOfHeirs$Link" "to" "LLineOfHeirs$Device;" RX4,
  .fieldLinkNest RX0 64 "LineOfHeirs$Link" "next" "LLineOfHeirs$Link;" RX4,
  .fieldLinkNest RX4 137 "LineOfHeirs$Link" "next" "LLineOfHeirs$Link;" RX4,
  .methodLinkNest RX4 11 yX1_init RX4,
  .methodLinkNest RX1 33 yX4_isAct RX4,
  .methodLinkNest RX4 18 yX3_init RX4,
  .methodLinkNest RX4 39 yX0_init RX4,
  .methodLinkNest RX0 23 yX1_takingActOf RX4,
  .methodLinkNest RX1 71 yX4_isWay RX4,
  .methodLinkNest RX4 95 yX0_bears RX4,
  .methodLinkNest RX0 35 yX1_bears RX4,
  .methodLinkNest RX4 114 yX0_hasAct RX4,
  .methodLinkNest RX0 39 yX1_kindHasAct RX4,
  .methodLinkNest RX0 42 yX1_hasAct RX4,
  .methodLinkNest RX4 50 yX3_clear RX4,
  .methodLinkNest RX4 53 yX0_answer RX4,
  .methodLinkNest RX0 79 yX1_selectedOf RX4,
  .methodLinkNest RX0 89 yX3_begin RX4,
  .methodLinkNest RX0 86 yX1_parentOf RX4,
  .methodLinkNest RX4 118 yX1_hasAct RX4,
  .methodLinkNest RX4 68 yX2_init RX4,
  .methodLinkNest RX4 71 yX0_addLink RX4,
  .methodLinkNest RX4 119 yX0_take RX4,
  .methodLinkNest RX4 98 yX3_keptAt RX4,
  .methodLinkNest RX4 105 yX0_fact RX4]
def hNb : Cond → Bool
  | .fieldLinkNest .. => true
  | .methodLinkNest .. => true
  | _ => false
theorem hN_b : ∀ w ∈ hN, hNb w = true := List.all_eq_true.mp (by decide +kernel)
theorem hNb_warm {w : Cond} {s U : State} (hb : hNb w = true) (hW : s.WarmedH U.vm) (h : va_Nw w s) : va_Nw w U := by
  cases w <;> first | exact va_Nw.warmF hW h | exact va_Nw.warmM hW h | (cases hb)
theorem hNb_tab {w : Cond} (hb : hNb w = true) : w.onTables = true := by
  cases w <;> first | rfl | (cases hb)
def tabPl : List Int32 := [-1, 0, -1, -1, -1, -1, -1, 1, 1, 1, 7, 8, 9, 1, 9, 10, 8, 11]
def tabNl : List Int32 := [0, 0, 0, 0, 12, 0, 32, 4, 8, 32, 0, 4, 16, 64, 64, 0, 16, 80]
def tabWl : List Int32 := [0, 3624, 7, 28, 31, 224, 480]
def tabBl : List Int32 := [0, 0, 0, 62, 0, 0, 0, 0, 0, 60, 61, 64, 0, 0, 0, 0, 0, 70, 0, 0, 0, 0, 0, 0, 0, 10, 11, 0, 0, 0, 0, 0, 0, 0, 0, 0, 0, 0, 21, 0, 20, 0, 0, 0, 0, 0, 0, 0, 0, 0, 30, 0, 0, 0, 0, 0, 0, 0, 0, 0, 0, 0, 0, 0, 0, 0, 40, 41, 0, 0, 0, 0, 0, 0, 0, 0, 0, 0, 0, 50, 51, 0, 0, 0, 100, 0, 0, 0, 0, 0, 0, 0, 0, 101, 0, 0, 0, 0, 0, 0, 111, 0, 0, 0, 0, 0, 110, 0, 0, 0, 0, 0, 0, 0, 120, 0, 0, 0, 0, 0, 130, 131, 0, 0, 0, 0, 0, 0, 0, 0, 0, 0, 140, 0, 141, 0, 0, 0, 0, 0, 0, 0, 142, 0, 150, 0, 0, 0, 152, 0, 0, 0, 0, 151, 0, 0, 0, 0, 0, 0, 0, 160, 0, 0, 161, 163, 0, 0, 0, 0, 0, 0, 0, 0, 0, 0, 0, 0, 0, 0, 0, 0, 181, 0, 0, 0, 0, 0, 0, 180, 0, 0, 190, 0, 0, 0, 0, 0, 0, 0, 0, 0, 0, 0, 0, 0, 202, 0, 0, 204, 0, 201, 0, 0, 0, 0]
def tab (l : List Int32) : Nat → Int32 := fun k => l.getD k 0
def hSt (G : hG) (U : State) (H : Heap) : Prop :=
  (va_Z RX1 "PARENTS" "[I" (.ref G.2.2.1.1) (hA G.2.2.2) U H ∧ va_T .int G.2.2.1.1 18 (fun j => .int (tab tabPl j)) (hA G.2.2.2) U H) ∧
  (va_Z RX1 "NAMED" "[I" (.ref G.2.2.1.2.1) (hA G.2.2.2) U H ∧ va_T .int G.2.2.1.2.1 18 (fun j => .int (tab tabNl j)) (hA G.2.2.2) U H) ∧
  (va_Z RX1 "WAY_ACTS" "[I" (.ref G.2.2.1.2.2.1) (hA G.2.2.2) U H ∧ va_T .int G.2.2.1.2.2.1 7 (fun j => .int (tab tabWl j)) (hA G.2.2.2) U H) ∧
  (va_Z RX1 "BODIES" "[I" (.ref G.2.2.1.2.2.2) (hA G.2.2.2) U H ∧ va_T .int G.2.2.1.2.2.2 216 (fun j => .int (tab tabBl j)) (hA G.2.2.2) U H)
theorem hSt.next {G : hG} {s U : State} {H H1 : Heap} (h : hSt G s H) (hq : ∀ a : Nat, a < H.size → ¬ hA G.2.2.2 a → H1[a]? = H[a]?) (hvm : s.vm.Alike U.vm) : hSt G U H1 := by
  obtain ⟨⟨a1, a2⟩, ⟨b1, b2⟩, ⟨c1, c2⟩, d1, d2⟩ := h
  exact ⟨⟨(a1.kept hq).moved hvm, (a2.kept hq).moved hvm⟩, ⟨(b1.kept hq).moved hvm, (b2.kept hq).moved hvm⟩, ⟨(c1.kept hq).moved hvm, (c2.kept hq).moved hvm⟩, (d1.kept hq).moved hvm, (d2.kept hq).moved hvm⟩
def gE (G : hG) (U : State) : Prop := va_K G.1 vwCl [(G.2.1.1, .int), (G.2.1.2.1, .boolean), (G.2.1.2.2, .object RX0)] U ∧ (∀ w ∈ hN, va_Nw w U) ∧ va_AO RX0 U ∧ hSt G U U.heap
theorem gE.calling {G : hG} {U : State} (h : gE G U) (g : JFrame) (mk : MethodId) (a : Array Value) : gE G (U.calling g mk a) :=
  ⟨va_K.moved (u := U) (U := U.calling g mk a) (Vm.Alike.refl U.vm) h.1, fun w hw => va_Nw.same (u := U) (U := U.calling g mk a) (hNb_tab (hN_b w hw)) rfl (h.2.1 w hw), va_AO.moved (u := U) (U := U.calling g mk a) (Vm.Alike.refl U.vm) h.2.2.1, hSt.next (s := U) (U := U.calling g mk a) h.2.2.2 (fun _ _ _ => rfl) (Vm.Alike.refl U.vm)⟩
theorem gE.next {G : hG} {s U : State} {H : Heap} {locs : List Loc} (h : gE G s) (hS : va_S (hA G.2.2.2) s.heap H locs) (hU : U.heap = H) (hW : s.WarmedH U.vm) : gE G U :=
  ⟨va_K.moved hW.alike h.1, fun w hw => hNb_warm (hN_b w hw) hW (h.2.1 w hw), va_AO.moved hW.alike h.2.2.1, hSt.next h.2.2.2 (fun a h1 h2 => by rw [hU]; exact hS.2.1 a h1 h2) hW.alike⟩
theorem gE.nest {G : hG} {U : State} (h : gE G U) {w : Cond} (i : Nat) (hw : hN[i]? = some w) : va_Nw w U := h.2.1 w (List.mem_of_getElem? hw)
/-- the world: ct k is what the cell at ad k holds, for each place k that is in use; places are apart -/
def hw (G : hG) (ad : Nat → Nat) (ct : Nat → Option va_E) (H : Heap) : Prop :=
  (∀ k e, ct k = some e → va_at G.1 vwCl (ad k, e) H ∧ G.2.2.2 ≤ ad k) ∧ ∀ j k e f, ct j = some e → ct k = some f → ad j = ad k → j = k
theorem hw.set {G : hG} {ad : Nat → Nat} {ct : Nat → Option va_E} {k : Nat} {e0 e : va_E} {H H1 : Heap} (h : hw G ad ct H) (hk : ct k = some e0) (he : va_at G.1 vwCl (ad k, e) H1) (oq : ∀ q : Nat, q ≠ ad k → H1[q]? = H[q]?) : hw G ad (va_up ct k (some e)) H1 := by
  have key : ∀ j f, va_up ct k (some e) j = some f → ∃ f0, ct j = some f0 := by
    intro j f hj
    by_cases hjk : j = k
    · subst hjk; exact ⟨e0, hk⟩
    · rw [va_up_ne _ _ hjk] at hj; exact ⟨f, hj⟩
  refine ⟨fun j f hj => ?_, fun i j f g hi hj hij => ?_⟩
  · by_cases hjk : j = k
    · subst hjk
      rw [va_up_self] at hj
      cases hj
      exact ⟨he, (h.1 _ _ hk).2⟩
    · rw [va_up_ne _ _ hjk] at hj
      exact ⟨(h.1 j f hj).1.kept (oq _ (fun q => hjk (h.2 j k f e0 hj hk q))), (h.1 j f hj).2⟩
  · obtain ⟨f0, hf⟩ := key i f hi
    obtain ⟨g0, hg⟩ := key j g hj
    exact h.2 i j f0 g0 hf hg hij
theorem hw.new {G : hG} {ad : Nat → Nat} {ct : Nat → Option va_E} {k : Nat} {e : va_E} {H H1 : Heap} (h : hw G ad ct H) (hk : ad k = H.size) (hz : G.2.2.2 ≤ H.size) (he : va_at G.1 vwCl (ad k, e) H1) (oq : ∀ q : Nat, q < H.size → H1[q]? = H[q]?) : hw G ad (va_up ct k (some e)) H1 := by
  have lt : ∀ j f, ct j = some f → ad j < H.size := fun j f hj => (h.1 j f hj).1.lt
  refine ⟨fun j f hj => ?_, fun i j f g hi hj hij => ?_⟩
  · by_cases hjk : j = k
    · subst hjk
      rw [va_up_self] at hj
      cases hj
      exact ⟨he, by rw [hk]; exact hz⟩
    · rw [va_up_ne _ _ hjk] at hj
      exact ⟨(h.1 j f hj).1.kept (oq _ (lt j f hj)), (h.1 j f hj).2⟩
  · by_cases hik : i = k
    · by_cases hjk : j = k
      · rw [hik, hjk]
      · rw [va_up_ne _ _ hjk] at hj
        have := lt j g hj
        rw [hik] at hij
        omega
    · rw [va_up_ne _ _ hik] at hi
      by_cases hjk : j = k
      · have := lt i f hi
        rw [hjk] at hij
        omega
      · rw [va_up_ne _ _ hjk] at hj
        exact h.2 i j f g hi hj hij
theorem hw.congr {G : hG} {ad : Nat → Nat} {ct ct' : Nat → Option va_E} {H : Heap} (h : hw G ad ct H) (hc : ∀ k, ct' k = ct k) : hw G ad ct' H := by
  have : ct' = ct := funext hc
  rw [this]; exact h
theorem hw.readdr {G : hG} {ad ad' : Nat → Nat} {ct : Nat → Option va_E} {H : Heap} (h : hw G ad ct H) (hc : ∀ k e, ct k = some e → ad' k = ad k) : hw G ad' ct H := by
  refine ⟨fun k e hk => ?_, fun j k e f hj hk hjk => ?_⟩
  · rw [hc k e hk]; exact h.1 k e hk
  · rw [hc j e hj, hc k f hk] at hjk; exact h.2 j k e f hj hk hjk
theorem hw.one {G : hG} {ad : Nat → Nat} {ct : Nat → Option va_E} {k : Nat} {e : va_E} {H : Heap} (h : hw G ad ct H) (hk : ct k = some e) : va_P G.1 vwCl [(ad k, e)] H := by
  intro i q hq
  have hi : i < 1 := (List.getElem?_eq_some_iff.mp hq).1
  rw [show i = 0 by omega] at hq
  cases hq
  exact (h.1 k e hk).1
theorem vp_cell_congr {cA : ClassId} {n : Nat} {f g : Nat → Int32} (h : ∀ j, j < n → f j = g j) : vp_cell cA (n, .inl f) = vp_cell cA (n, .inl g) := by
  rw [vp_cell_i, vp_cell_i]
  unfold arrV
  congr 1
  congr 1
  funext j
  exact congrArg Value.int (h j.val j.isLt)
theorem va_at_congr {D : va_G} {cl : List vw_C} {a : Nat} {cA : ClassId} {n : Nat} {f g : Nat → Int32} {H : Heap} (h : ∀ j, j < n → f j = g j) (hat : va_at D cl (a, .inl (cA, n, .inl f)) H) : va_at D cl (a, .inl (cA, n, .inl g)) H := by
  show H[a]? = some (vp_cell cA (n, .inl g))
  rw [← vp_cell_congr h]
  exact hat
theorem hw.setArr {G : hG} {ad : Nat → Nat} {ct : Nat → Option va_E} {k : Nat} {cA : ClassId} {n : Nat} {f g : Nat → Int32} {H : Heap} (h : hw G ad ct H) (hk : ct k = some (.inl (cA, n, .inl f))) (hfg : ∀ j, j < n → f j = g j) : hw G ad (va_up ct k (some (.inl (cA, n, .inl g)))) H :=
  h.set hk (va_at_congr hfg (h.1 k _ hk).1) (fun _ _ => rfl)
/-! what a method asks and says -/
abbrev hPr (As : List Value) (G : hG) (H : Heap) : Array Value → State → Prop := va_Pc As (fun U => gE G U ∧ (fun h => h = H) U.heap)
abbrev hPw (As : List Value) (G : hG) (ad : Nat → Nat) (ct : Nat → Option va_E) : Array Value → State → Prop := va_Pc As (fun U => gE G U ∧ (fun h => hw G ad ct h) U.heap)
abbrev hPz (As : List Value) (G : hG) (ad : Nat → Nat) (ct : Nat → Option va_E) (n : Nat) : Array Value → State → Prop := va_Pc As (fun U => gE G U ∧ (fun h => hw G ad ct h ∧ h.size = n) U.heap)
abbrev hQr (v : Int32) (H : Heap) (z : Nat) : Array Value → State → Outcome → State → Prop := va_Qi (fun r (_ : Unit) => r = v) (fun (_ : Unit) t => t.heap = H) (hA z)
abbrev hQq (v : Option Nat) (H : Heap) (z : Nat) : Array Value → State → Outcome → State → Prop := va_Qq (fun r (_ : Unit) => r = v) (fun (_ : Unit) t => t.heap = H) (hA z)
abbrev hQi (post : Int32 → (Nat → Option va_E) → Prop) (G : hG) (ad : Nat → Nat) : Array Value → State → Outcome → State → Prop := va_Qi post (fun u t => hw G ad u t.heap) (hA G.2.2.2)
abbrev hQv (post : (Nat → Option va_E) → Prop) (G : hG) (ad : Nat → Nat) : Array Value → State → Outcome → State → Prop := va_Qv post (fun u t => hw G ad u t.heap) (hA G.2.2.2)
abbrev hQzi (post : Int32 → (Nat → Option va_E) → Prop) (G : hG) (ad : Nat → Nat) (n : Nat) : Array Value → State → Outcome → State → Prop := va_Qi post (fun u t => hw G ad u t.heap ∧ t.heap.size ≤ n) (hA G.2.2.2)
abbrev hQzv (post : (Nat → Option va_E) → Prop) (G : hG) (ad : Nat → Nat) (n : Nat) : Array Value → State → Outcome → State → Prop := va_Qv post (fun u t => hw G ad u t.heap ∧ t.heap.size = n) (hA G.2.2.2)
theorem va_rfn {C : String} (v : Option Nat) : narrow (.object C) (va_rf v) = va_rf v := by cases v <;> rfl
theorem va_rff {C : String} (v : Option Nat) : fits (.object C) (va_rf v) = true := by cases v <;> rfl
section HR
variable {p : Program} {l : Launch} {e : Env} {R : Room} {s : State} {m : MethodId} {args : Array Value} {below : List Frame} {meth : Method} {c : Code} {H : Heap} {locs : List Loc} {cells slots : Nat} {Q : State → Prop}
variable {cc : ByteArray} {pc nL : Nat} {ls : Array Slot} {rest : List Value} {G : hG} {ad : Nat → Nat} {ct : Nat → Option va_E} {Ts : List Cond} {own : String} {k : Nat}
theorem hr_get (S : CallFix p m c cc nL s args Ts own) (hE : gE G s) (hW : hw G ad ct H) {ci : Nat} {fs : List Value} (hk : ct k = some (.inr (ci, fs))) {C : String} {T : u_T} {N : Nat} (hin : ∀ w ∈ u_ws C T N, w ∈ Ts) (hc : vwCl[ci]? = some (C, T, N)) (j : Nat) (hj : j < N) {index : Nat} (hl : Cond.fieldLink own index (T j).1 (T j).2.1 (T j).2.2.1 ∈ Ts) {v : Value} (hv : fs[j]? = some v) (hdg : decode cc pc = .ok (.getfield index, 3))
    (kk : W p l e R s m args below meth c H locs cells slots Q (F0 m (pc + 3) ls (v :: rest))) : W p l e R s m args below meth c H locs cells slots Q (F0 m pc ls (.ref (ad k) :: rest)) :=
  va_get S.1 S.2.1 S.2.2.2.2 hin S.2.2.2.1 hE.1 (hW.one hk) 0 rfl hc j hj (S.2.2.2.2 _ hl) (fun _ h => h) hv hdg kk
theorem hr_getN (S : CallFix p m c cc nL s args Ts own) (hE : gE G s) (hW : hw G ad ct H) {ci : Nat} {fs : List Value} (hk : ct k = some (.inr (ci, fs))) {C : String} {T : u_T} {N : Nat} (hin : ∀ w ∈ u_ws C T N, w ∈ Ts) (hc : vwCl[ci]? = some (C, T, N)) (j : Nat) (hj : j < N) {index : Nat} {host : String} (hl : va_Nw (Cond.fieldLinkNest own index (T j).1 (T j).2.1 (T j).2.2.1 host) s) {v : Value} (hv : fs[j]? = some v) (hdg : decode cc pc = .ok (.getfield index, 3))
    (kk : W p l e R s m args below meth c H locs cells slots Q (F0 m (pc + 3) ls (v :: rest))) : W p l e R s m args below meth c H locs cells slots Q (F0 m pc ls (.ref (ad k) :: rest)) :=
  va_getN S.1 S.2.1 S.2.2.2.2 hin S.2.2.2.1 hE.1 (hW.one hk) 0 rfl hc j hj (va_Nw.use rfl hl) (fun _ h => h) hv hdg kk
theorem hr_put (S : CallFix p m c cc nL s args Ts own) (hE : gE G s) (hW : hw G ad ct H) (hS0 : va_S (hA G.2.2.2) s.heap H locs) {ci : Nat} {fs : List Value} (hk : ct k = some (.inr (ci, fs))) {C : String} {T : u_T} {N : Nat} (hin : ∀ w ∈ u_ws C T N, w ∈ Ts) {ty0 : Nat → FieldType} (hty : ∀ k, k < N → parseFieldDescriptor (T k).2.2.1 = some (ty0 k)) (hnm : ∀ a, a < N → ∀ b, b < N → a ≠ b → (T a).2.1 ≠ (T b).2.1) (hc : vwCl[ci]? = some (C, T, N)) (j : Nat) (hj : j < N) {index : Nat} (hl : Cond.fieldLink own index (T j).1 (T j).2.1 (T j).2.2.1 ∈ Ts) (hfin : (T j).2.2.2 = false) {v : Value} (hn : narrow (ty0 j) v = v) (hfit : fits (ty0 j) v = true) (hlen : j < fs.length) (hdg : decode cc pc = .ok (.putfield index, 3))
    (kk : ∀ (H1 : Heap) (locs1 : List Loc) (ct1 : Nat → Option va_E), hw G ad ct1 H1 → ct1 k = some (.inr (ci, fs.set j v)) → (∀ i, i ≠ k → ct1 i = ct i) → H1.size = H.size → va_S (hA G.2.2.2) s.heap H1 locs1 → W p l e R s m args below meth c H1 locs1 cells slots Q (F0 m (pc + 3) ls rest)) : W p l e R s m args below meth c H locs cells slots Q (F0 m pc ls (v :: .ref (ad k) :: rest)) := by
  obtain ⟨hexec, hb, -, hown, hts⟩ := S
  have hap := va_apart (own := own) hts hin ty0 hty hnm hE.1 hc
  obtain ⟨⟨r, h1, cell, q1, q2, q3, q4⟩, hz⟩ := hW.1 k _ hk
  have hr : r = (C, T, N) := Option.some.inj (h1.symm.trans hc)
  subst hr
  obtain ⟨hS, hfc, kC, hkC, hkind⟩ := hE.1.1 ci _ hc
  obtain ⟨cf, kf, fi, f, hi, hsl⟩ := hS j hj
  have hlay := hts _ (hin _ (u_in_lay hj))
  unfold u_lay at hlay
  rw [if_neg (by rw [hfin]; decide)] at hlay
  have hst := (u_facts hfc hkC (u_lays hts hin hj) hi).1
  have h6 := u_store hfc hkC hkind hlay hi (hty j hj) hn hfit
  refine W.putK hexec hb (f := f) ⟨hown, hts _ hl, ⟨_, _, _, hi⟩, hst⟩ (by rw [q2]; exact h6) q1 q3 (by rw [hsl]; exact k2_hasslot (q4 j hj)) rfl rfl hdg fun H' e1 e2 e3 => ?_
  rw [hsl] at e1 ⊢
  exact kk H' _ _ (hW.set hk (e := .inr (ci, fs.set j v)) ⟨_, hc, t_OB.to (V := updV (vp_V fs) j v) ⟨_, e1, q2, q3, t_set q4 hap hj v⟩ (fun i _ => vp_updV_set hlen v i)⟩ e3) (va_up_self _ _ _) (fun i hi => va_up_ne _ _ hi) e2 (hS0.put e2 e3 hz)
theorem hr_putN (S : CallFix p m c cc nL s args Ts own) (hE : gE G s) (hW : hw G ad ct H) (hS0 : va_S (hA G.2.2.2) s.heap H locs) {ci : Nat} {fs : List Value} (hk : ct k = some (.inr (ci, fs))) {C : String} {T : u_T} {N : Nat} (hin : ∀ w ∈ u_ws C T N, w ∈ Ts) {ty0 : Nat → FieldType} (hty : ∀ k, k < N → parseFieldDescriptor (T k).2.2.1 = some (ty0 k)) (hnm : ∀ a, a < N → ∀ b, b < N → a ≠ b → (T a).2.1 ≠ (T b).2.1) (hc : vwCl[ci]? = some (C, T, N)) (j : Nat) (hj : j < N) {index : Nat} {host : String} (hl : va_Nw (Cond.fieldLinkNest own index (T j).1 (T j).2.1 (T j).2.2.1 host) s) (hfin : (T j).2.2.2 = false) {v : Value} (hn : narrow (ty0 j) v = v) (hfit : fits (ty0 j) v = true) (hlen : j < fs.length) (hdg : decode cc pc = .ok (.putfield index, 3))
    (kk : ∀ (H1 : Heap) (locs1 : List Loc) (ct1 : Nat → Option va_E), hw G ad ct1 H1 → ct1 k = some (.inr (ci, fs.set j v)) → (∀ i, i ≠ k → ct1 i = ct i) → H1.size = H.size → va_S (hA G.2.2.2) s.heap H1 locs1 → W p l e R s m args below meth c H1 locs1 cells slots Q (F0 m (pc + 3) ls rest)) : W p l e R s m args below meth c H locs cells slots Q (F0 m pc ls (v :: .ref (ad k) :: rest)) := by
  obtain ⟨hexec, hb, -, hown, hts⟩ := S
  have hap := va_apart (own := own) hts hin ty0 hty hnm hE.1 hc
  obtain ⟨⟨r, h1, cell, q1, q2, q3, q4⟩, hz⟩ := hW.1 k _ hk
  have hr : r = (C, T, N) := Option.some.inj (h1.symm.trans hc)
  subst hr
  obtain ⟨hS, hfc, kC, hkC, hkind⟩ := hE.1.1 ci _ hc
  obtain ⟨cf, kf, fi, f, hi, hsl⟩ := hS j hj
  have hlay := hts _ (hin _ (u_in_lay hj))
  unfold u_lay at hlay
  rw [if_neg (by rw [hfin]; decide)] at hlay
  have hst := (u_facts hfc hkC (u_lays hts hin hj) hi).1
  have h6 := u_store hfc hkC hkind hlay hi (hty j hj) hn hfit
  refine va_WputK hexec hb (f := f) hown (va_Nw.use rfl hl) hi hst (by rw [q2]; exact h6) q1 q3 (by rw [hsl]; exact k2_hasslot (q4 j hj)) rfl rfl hdg fun H' e1 e2 e3 => ?_
  rw [hsl] at e1 ⊢
  exact kk H' _ _ (hW.set hk (e := .inr (ci, fs.set j v)) ⟨_, hc, t_OB.to (V := updV (vp_V fs) j v) ⟨_, e1, q2, q3, t_set q4 hap hj v⟩ (fun i _ => vp_updV_set hlen v i)⟩ e3) (va_up_self _ _ _) (fun i hi => va_up_ne _ _ hi) e2 (hS0.put e2 e3 hz)
theorem hr_putF (S : CallFix p m c cc nL s args Ts own) (hE : gE G s) (hW : hw G ad ct H) (hS0 : va_S (hA G.2.2.2) s.heap H locs) {ci : Nat} {fs : List Value} (hk : ct k = some (.inr (ci, fs))) {C : String} {T : u_T} {N : Nat} (hin : ∀ w ∈ u_ws C T N, w ∈ Ts) {ty0 : Nat → FieldType} (hty : ∀ k, k < N → parseFieldDescriptor (T k).2.2.1 = some (ty0 k)) (hnm : ∀ a, a < N → ∀ b, b < N → a ≠ b → (T a).2.1 ≠ (T b).2.1) (hc : vwCl[ci]? = some (C, T, N)) (j : Nat) (hj : j < N) {index : Nat} (hl : Cond.fieldLink own index (T j).1 (T j).2.1 (T j).2.2.1 ∈ Ts) (hfin : (T j).2.2.2 = true) (hin2 : meth.name = "<init>") (hdecl : (T j).1 = own) {v : Value} (hn : narrow (ty0 j) v = v) (hfit : fits (ty0 j) v = true) (hlen : j < fs.length) (hdg : decode cc pc = .ok (.putfield index, 3))
    (kk : ∀ (H1 : Heap) (locs1 : List Loc) (ct1 : Nat → Option va_E), hw G ad ct1 H1 → ct1 k = some (.inr (ci, fs.set j v)) → (∀ i, i ≠ k → ct1 i = ct i) → H1.size = H.size → va_S (hA G.2.2.2) s.heap H1 locs1 → W p l e R s m args below meth c H1 locs1 cells slots Q (F0 m (pc + 3) ls rest)) : W p l e R s m args below meth c H locs cells slots Q (F0 m pc ls (v :: .ref (ad k) :: rest)) := by
  obtain ⟨hexec, hb, -, hown, hts⟩ := S
  have hap := va_apart (own := own) hts hin ty0 hty hnm hE.1 hc
  obtain ⟨⟨r, h1, cell, q1, q2, q3, q4⟩, hz⟩ := hW.1 k _ hk
  have hr : r = (C, T, N) := Option.some.inj (h1.symm.trans hc)
  subst hr
  obtain ⟨hS, hfc, kC, hkC, hkind⟩ := hE.1.1 ci _ hc
  obtain ⟨cf, kf, fi, f, hi, hsl⟩ := hS j hj
  have hlay := hts _ (hin _ (u_in_lay hj))
  unfold u_lay at hlay
  rw [if_pos hfin] at hlay
  have hst := (u_facts hfc hkC (u_lays hts hin hj) hi).1
  have hcf : m.cls = cf := by
    obtain ⟨_, _, c', _, _, _, -, -, hf', -, -, -, hown2, -⟩ := Cond.laysFinal_spec hlay
    have e1 : c' = cf := by have := hi.symm.trans hf'; simp at this; exact this.1.symm
    rw [hdecl] at hown2
    rw [← e1]; exact Option.some.inj (hown.symm.trans hown2)
  have h6 := u_fits hfc hkC hkind (Or.inr hlay) hi (hty j hj) hn hfit
  refine W.putFinK hexec hb hown (hts _ hl) hi hst hcf hin2 (by rw [q2]; exact h6) q1 q3 (by rw [hsl]; exact k2_hasslot (q4 j hj)) rfl rfl hdg fun H' e1 e2 e3 => ?_
  rw [hsl] at e1 ⊢
  exact kk H' _ _ (hW.set hk (e := .inr (ci, fs.set j v)) ⟨_, hc, t_OB.to (V := updV (vp_V fs) j v) ⟨_, e1, q2, q3, t_set q4 hap hj v⟩ (fun i _ => vp_updV_set hlen v i)⟩ e3) (va_up_self _ _ _) (fun i hi => va_up_ne _ _ hi) e2 (hS0.put e2 e3 hz)
theorem hr_iald (S : CallFix p m c cc nL s args Ts own) (hE : gE G s) (hW : hw G ad ct H) {n : Nat} {f : Nat → Int32} (hk : ct k = some (.inl (G.2.1.1, n, .inl f))) {i : Int32} (hin : vp_in i n) (hdg : decode cc pc = .ok (.iaload, 1))
    (kk : W p l e R s m args below meth c H locs cells slots Q (F0 m (pc + 1) ls (.int (f i.toNatClampNeg) :: rest))) : W p l e R s m args below meth c H locs cells slots Q (F0 m pc ls (.int i :: .ref (ad k) :: rest)) :=
  va_iald S.1 S.2.1 hE.1 (hW.one hk) 0 0 rfl rfl hin hdg kk
theorem hr_zald (S : CallFix p m c cc nL s args Ts own) (hE : gE G s) (hW : hw G ad ct H) {n : Nat} {f : Nat → Int32} (hk : ct k = some (.inl (G.2.1.2.1, n, .inl f))) {i : Int32} (hin : vp_in i n) (hdg : decode cc pc = .ok (.baload, 1))
    (kk : W p l e R s m args below meth c H locs cells slots Q (F0 m (pc + 1) ls (.int (f i.toNatClampNeg) :: rest))) : W p l e R s m args below meth c H locs cells slots Q (F0 m pc ls (.int i :: .ref (ad k) :: rest)) :=
  va_zald S.1 S.2.1 hE.1 (hW.one hk) 0 1 rfl rfl hin hdg kk
theorem hr_aald (S : CallFix p m c cc nL s args Ts own) (hE : gE G s) (hW : hw G ad ct H) {n : Nat} {f : Nat → Option Nat} (hk : ct k = some (.inl (G.2.1.2.2, n, .inr (.inr (.inr (.inr f)))))) {i : Int32} (hin : vp_in i n) (hdg : decode cc pc = .ok (.aaload, 1))
    (kk : W p l e R s m args below meth c H locs cells slots Q (F0 m (pc + 1) ls (va_rf (f i.toNatClampNeg) :: rest))) : W p l e R s m args below meth c H locs cells slots Q (F0 m pc ls (.int i :: .ref (ad k) :: rest)) :=
  va_aldq (C := RX0) S.1 S.2.1 hE.1 (hW.one hk) 0 2 rfl rfl hin hdg kk
theorem hr_alen (S : CallFix p m c cc nL s args Ts own) (hE : gE G s) (hW : hw G ad ct H) {cA : ClassId} {x : vp_A} (hk : ct k = some (.inl (cA, x))) (t0 : Nat) {ty : FieldType} (ht : [(G.2.1.1, FieldType.int), (G.2.1.2.1, .boolean), (G.2.1.2.2, .object RX0)][t0]? = some (cA, ty)) {v : Int32} (hv : Int32.ofNat x.1 = v) (hdg : decode cc pc = .ok (.arraylength, 1))
    (kk : W p l e R s m args below meth c H locs cells slots Q (F0 m (pc + 1) ls (.int v :: rest))) : W p l e R s m args below meth c H locs cells slots Q (F0 m pc ls (.ref (ad k) :: rest)) :=
  va_alen S.1 S.2.1 hE.1 (hW.one hk) 0 t0 rfl ht hv hdg kk
theorem hr_iast (S : CallFix p m c cc nL s args Ts own) (hE : gE G s) (hW : hw G ad ct H) (hS0 : va_S (hA G.2.2.2) s.heap H locs) {n : Nat} {f : Nat → Int32} (hk : ct k = some (.inl (G.2.1.1, n, .inl f))) {i x : Int32} (hin : vp_in i n) (hdg : decode cc pc = .ok (.iastore, 1))
    (kk : ∀ (H1 : Heap) (locs1 : List Loc) (ct1 : Nat → Option va_E), hw G ad ct1 H1 → ct1 k = some (.inl (G.2.1.1, n, .inl (upd f i.toNatClampNeg x))) → (∀ i, i ≠ k → ct1 i = ct i) → H1.size = H.size → va_S (hA G.2.2.2) s.heap H1 locs1 → W p l e R s m args below meth c H1 locs1 cells slots Q (F0 m (pc + 1) ls rest)) : W p l e R s m args below meth c H locs cells slots Q (F0 m pc ls (.int x :: .int i :: .ref (ad k) :: rest)) := by
  obtain ⟨h0, hz⟩ := hW.1 k _ hk
  refine W.iast S.1 S.2.1 h0 ((hE.1.2 0 _ rfl).1 n (fun j => .int (f j))) (fun q => by cases q) (by show ¬ (i < 0 ∨ (arrV _ _ _).slots.size ≤ _); rw [arrV_size]; exact hin) rfl rfl hdg fun H1 e z oq => ?_
  refine kk H1 _ _ (hW.set hk (e := .inl (G.2.1.1, n, .inl (upd f i.toNatClampNeg x))) ?_ oq) (va_up_self _ _ _) (fun i hi => va_up_ne _ _ hi) z (hS0.put z oq hz)
  show H1[ad k]? = some (vp_cell _ _)
  rw [e]
  rw [vp_cell_i, vp_cell_i, arrV_store]
  congr 2
  funext q
  by_cases hq : q = i.toNatClampNeg
  · subst hq
    simp [updV, upd]
  · simp [updV, upd, hq]
theorem hr_zast (S : CallFix p m c cc nL s args Ts own) (hE : gE G s) (hW : hw G ad ct H) (hS0 : va_S (hA G.2.2.2) s.heap H locs) {n : Nat} {f : Nat → Int32} (hk : ct k = some (.inl (G.2.1.2.1, n, .inl f))) {i x : Int32} (hx : narrow .boolean (.int x) = .int x) (hin : vp_in i n) (hdg : decode cc pc = .ok (.bastore, 1))
    (kk : ∀ (H1 : Heap) (locs1 : List Loc) (ct1 : Nat → Option va_E), hw G ad ct1 H1 → ct1 k = some (.inl (G.2.1.2.1, n, .inl (upd f i.toNatClampNeg x))) → (∀ i, i ≠ k → ct1 i = ct i) → H1.size = H.size → va_S (hA G.2.2.2) s.heap H1 locs1 → W p l e R s m args below meth c H1 locs1 cells slots Q (F0 m (pc + 1) ls rest)) : W p l e R s m args below meth c H locs cells slots Q (F0 m pc ls (.int x :: .int i :: .ref (ad k) :: rest)) := by
  obtain ⟨h0, hz⟩ := hW.1 k _ hk
  refine W.zast S.1 S.2.1 h0 ((hE.1.2 1 _ rfl).1 n (fun j => .int (f j))) (fun q => by cases q) (by show ¬ (i < 0 ∨ (arrV _ _ _).slots.size ≤ _); rw [arrV_size]; exact hin) rfl rfl hdg fun H1 e z oq => ?_
  refine kk H1 _ _ (hW.set hk (e := .inl (G.2.1.2.1, n, .inl (upd f i.toNatClampNeg x))) ?_ oq) (va_up_self _ _ _) (fun i hi => va_up_ne _ _ hi) z (hS0.put z oq hz)
  show H1[ad k]? = some (vp_cell _ _)
  rw [e, hx]
  rw [vp_cell_i, vp_cell_i, arrV_store]
  congr 2
  funext q
  by_cases hq : q = i.toNatClampNeg
  · subst hq
    simp [updV, upd]
  · simp [updV, upd, hq]
theorem hr_aast (S : CallFix p m c cc nL s args Ts own) (hE : gE G s) (hW : hw G ad ct H) (hS0 : va_S (hA G.2.2.2) s.heap H locs) {n v : Nat} {f : Nat → Option Nat} (hk : ct k = some (.inl (G.2.1.2.2, n, .inr (.inr (.inr (.inr f)))))) {vs : List Value} (hv : ct v = some (.inr (0, vs))) {i : Int32} (hin : vp_in i n) (hdg : decode cc pc = .ok (.aastore, 1))
    (kk : ∀ (H1 : Heap) (locs1 : List Loc) (ct1 : Nat → Option va_E), hw G ad ct1 H1 → ct1 k = some (.inl (G.2.1.2.2, n, .inr (.inr (.inr (.inr (va_up f i.toNatClampNeg (some (ad v)))))))) → (∀ i, i ≠ k → ct1 i = ct i) → H1.size = H.size → va_S (hA G.2.2.2) s.heap H1 locs1 → W p l e R s m args below meth c H1 locs1 cells slots Q (F0 m (pc + 1) ls rest)) : W p l e R s m args below meth c H locs cells slots Q (F0 m pc ls (.ref (ad v) :: .int i :: .ref (ad k) :: rest)) := by
  have hlt : i.toNatClampNeg < n := Nat.not_le.mp fun q => hin (Or.inr q)
  have h0 : ¬ i < 0 := fun q => hin (Or.inl q)
  obtain ⟨hat, hz⟩ := hW.1 k _ hk
  obtain ⟨⟨r', hr', cellV, g1, g2, g3, -⟩, -⟩ := hW.1 v _ hv
  have hcls := (hE.1.1 0 (RX0, TX0, 13) rfl).2
  obtain ⟨kA, comp, k1, k2, k3, -⟩ := (hE.1.2 2 _ rfl).2
  have hcomp : comp = G.1.1 0 := Option.some.inj (k3.symm.trans hcls.1)
  subst hcomp
  obtain ⟨kC, hkC, -⟩ := hcls.2
  refine W.aast S.1 S.2.1 hat (fun q h => by cases h) (fun h => by cases h) k1 k2 rfl hkC ⟨h0, by show _ < (arrV _ _ _).slots.size; rw [arrV_size]; exact hlt⟩ g1 (fun q h => by rw [g3] at h; cases h) (by rw [g2]; exact hkC) (by rw [g2]; exact va_assign hcls) rfl rfl hdg fun H1 e z oq => ?_
  refine kk H1 _ _ (hW.set hk (e := .inl (G.2.1.2.2, n, .inr (.inr (.inr (.inr (va_up f i.toNatClampNeg (some (ad v)))))))) ?_ oq) (va_up_self _ _ _) (fun i hi => va_up_ne _ _ hi) z (hS0.put z oq hz)
  show H1[ad k]? = some (vp_cell _ _)
  rw [e]
  rw [vp_cell_q, vp_cell_q, arrV_store]
  congr 2
  funext q
  by_cases hq : q = i.toNatClampNeg
  · subst hq
    simp [updV, va_up, va_rf]
  · simp [updV, va_up, hq]
theorem hr_new (S : CallFix p m c cc nL s args Ts own) (hE : gE G s) (hW : hw G ad ct H) (hS0 : va_S (hA G.2.2.2) s.heap H locs) (k : Nat) (hk : ad k = H.size) (hz : G.2.2.2 ≤ H.size) {C : String} {T : u_T} {N ci : Nat} (hin : ∀ w ∈ u_ws C T N, w ∈ Ts) {ty0 : Nat → FieldType} (hty : ∀ k, k < N → parseFieldDescriptor (T k).2.2.1 = some (ty0 k)) (hc : vwCl[ci]? = some (C, T, N)) {index : Nat} (hcl : Cond.classLink own index C ∈ Ts) (hinst : Cond.instantiable C N ∈ Ts) (hini : Cond.initialized C ∈ Ts) {fs : List Value} (hfs : ∀ j, j < N → defaultValue (ty0 j) = vp_V fs j) (hcells : cells + 1 ≤ R.cells) (hslots : slots + N ≤ R.slots) (hdg : decode cc pc = .ok (.new index, 3))
    (kk : ∀ (H1 : Heap) (ct1 : Nat → Option va_E), hw G ad ct1 H1 → ct1 k = some (.inr (ci, fs)) → (∀ i, i ≠ k → ct1 i = ct i) → H1.size = H.size + 1 → va_S (hA G.2.2.2) s.heap H1 locs → W p l e R s m args below meth c H1 locs (cells + 1) (slots + N) Q (F0 m (pc + 3) ls (.ref (ad k) :: rest))) : W p l e R s m args below meth c H locs cells slots Q (F0 m pc ls rest) := by
  obtain ⟨hexec, hb, -, hown, hts⟩ := S
  have hKn := hE.1.1 ci _ hc
  refine W.newcK hexec hb hown (hts _ hcl) (hts _ hinst) (hts _ hini) rfl hdg hcells hslots hKn.2.1 hk.symm fun H1 kC hkC e1 z1 o1 => ?_
  rw [hk] at z1 o1
  exact kk H1 _ (hW.new hk hz (e := .inr (ci, fs)) ⟨_, hc, (u_born ty0 hts hin hKn hkC e1 hty).to hfs⟩ o1) (va_up_self _ _ _) (fun i hi => va_up_ne _ _ hi) z1 ⟨Nat.le_trans hS0.1 (by omega), fun x h1 h2 => (o1 x (Nat.lt_of_lt_of_le h1 hS0.1)).trans (hS0.2.1 x h1 h2), hS0.2.2⟩
theorem hr_newi (S : CallFix p m c cc nL s args Ts own) (hE : gE G s) (hW : hw G ad ct H) (hS0 : va_S (hA G.2.2.2) s.heap H locs) (k : Nat) (hk : ad k = H.size) (hz : G.2.2.2 ≤ H.size) (harr : Cond.arrayClass .int ∈ Ts) {n : Int32} {N : Nat} (hn : ¬ n < 0) (hN : n.toNatClampNeg = N) (hbytes : N * 4 ≤ 536870912) (hcells : cells + 1 ≤ R.cells) (hslots : slots + N ≤ R.slots) (hdg : decode cc pc = .ok (.newarray .int, 2))
    (kk : ∀ (H1 : Heap) (ct1 : Nat → Option va_E), hw G ad ct1 H1 → ct1 k = some (.inl (G.2.1.1, N, .inl (fun _ => 0))) → (∀ i, i ≠ k → ct1 i = ct i) → H1.size = H.size + 1 → va_S (hA G.2.2.2) s.heap H1 locs → W p l e R s m args below meth c H1 locs (cells + 1) (slots + N) Q (F0 m (pc + 2) ls (.ref (ad k) :: rest))) : W p l e R s m args below meth c H locs cells slots Q (F0 m pc ls (.int n :: rest)) := by
  refine va_newaK (atype := .int) S.1 S.2.1 (S.2.2.2.2 _ harr) rfl hdg rfl hn hN hbytes hcells hslots hk.symm fun H1 cA e1 z1 o1 hAr hNm => ?_
  have hcA : cA = G.2.1.1 := Option.some.inj (hNm.symm.trans (hE.1.2 0 _ rfl).2)
  subst hcA
  rw [hk] at z1 o1
  exact kk H1 _ (hW.new hk hz (e := .inl (G.2.1.1, N, .inl (fun _ => 0))) e1 o1) (va_up_self _ _ _) (fun i hi => va_up_ne _ _ hi) z1 ⟨Nat.le_trans hS0.1 (by omega), fun x h1 h2 => (o1 x (Nat.lt_of_lt_of_le h1 hS0.1)).trans (hS0.2.1 x h1 h2), hS0.2.2⟩
theorem hr_newz (S : CallFix p m c cc nL s args Ts own) (hE : gE G s) (hW : hw G ad ct H) (hS0 : va_S (hA G.2.2.2) s.heap H locs) (k : Nat) (hk : ad k = H.size) (hz : G.2.2.2 ≤ H.size) (harr : Cond.arrayClass .boolean ∈ Ts) {n : Int32} {N : Nat} (hn : ¬ n < 0) (hN : n.toNatClampNeg = N) (hbytes : N * 1 ≤ 536870912) (hcells : cells + 1 ≤ R.cells) (hslots : slots + N ≤ R.slots) (hdg : decode cc pc = .ok (.newarray .boolean, 2))
    (kk : ∀ (H1 : Heap) (ct1 : Nat → Option va_E), hw G ad ct1 H1 → ct1 k = some (.inl (G.2.1.2.1, N, .inl (fun _ => 0))) → (∀ i, i ≠ k → ct1 i = ct i) → H1.size = H.size + 1 → va_S (hA G.2.2.2) s.heap H1 locs → W p l e R s m args below meth c H1 locs (cells + 1) (slots + N) Q (F0 m (pc + 2) ls (.ref (ad k) :: rest))) : W p l e R s m args below meth c H locs cells slots Q (F0 m pc ls (.int n :: rest)) := by
  refine va_newaK (atype := .boolean) S.1 S.2.1 (S.2.2.2.2 _ harr) rfl hdg rfl hn hN hbytes hcells hslots hk.symm fun H1 cA e1 z1 o1 hAr hNm => ?_
  have hcA : cA = G.2.1.2.1 := Option.some.inj (hNm.symm.trans (hE.1.2 1 _ rfl).2)
  subst hcA
  rw [hk] at z1 o1
  exact kk H1 _ (hW.new hk hz (e := .inl (G.2.1.2.1, N, .inl (fun _ => 0))) e1 o1) (va_up_self _ _ _) (fun i hi => va_up_ne _ _ hi) z1 ⟨Nat.le_trans hS0.1 (by omega), fun x h1 h2 => (o1 x (Nat.lt_of_lt_of_le h1 hS0.1)).trans (hS0.2.1 x h1 h2), hS0.2.2⟩
theorem hr_newo (S : CallFix p m c cc nL s args Ts own) (hE : gE G s) (hW : hw G ad ct H) (hS0 : va_S (hA G.2.2.2) s.heap H locs) (k : Nat) (hk : ad k = H.size) (hz : G.2.2.2 ≤ H.size) {index : Nat} (hcl : Cond.classLink own index RX0 ∈ Ts) {n : Int32} {N : Nat} (hn : ¬ n < 0) (hN : n.toNatClampNeg = N) (hbytes : N * 4 ≤ 536870912) (hcells : cells + 1 ≤ R.cells) (hslots : slots + N ≤ R.slots) (hdg : decode cc pc = .ok (.anewarray index, 3))
    (kk : ∀ (H1 : Heap) (ct1 : Nat → Option va_E), hw G ad ct1 H1 → ct1 k = some (.inl (G.2.1.2.2, N, .inr (.inr (.inr (.inr (fun _ => none)))))) → (∀ i, i ≠ k → ct1 i = ct i) → H1.size = H.size + 1 → va_S (hA G.2.2.2) s.heap H1 locs → W p l e R s m args below meth c H1 locs (cells + 1) (slots + N) Q (F0 m (pc + 3) ls (.ref (ad k) :: rest))) : W p l e R s m args below meth c H locs cells slots Q (F0 m pc ls (.int n :: rest)) := by
  subst hN
  refine W.anew S.1 S.2.1 S.2.2.2.1 (S.2.2.2.2 _ hcl) (va_AO.use hE.2.2.1) rfl hdg rfl hn hbytes hcells hslots fun cA kA comp f1 f2 f3 f4 => ?_
  have hcA : cA = G.2.1.2.2 := by
    obtain ⟨kA', comp', k1, k2, k3, k4⟩ := (hE.1.2 2 _ rfl).2
    exact Option.some.inj (f1.symm.trans k4)
  subst hcA
  generalize hH1 : H.push ({ cls := G.2.1.2.2, slots := Array.replicate n.toNatClampNeg .null, vm := .none } : Cell) = H1
  have z1 : H1.size = H.size + 1 := by rw [← hH1, Array.size_push]
  have e1 : H1[H.size]? = some (arrV G.2.1.2.2 n.toNatClampNeg (fun _ => .null)) := by rw [← hH1, Array.getElem?_push_size, ← arrV_new]
  have o1 : ∀ q : Nat, q < H.size → H1[q]? = H[q]? := fun q hq => by rw [← hH1, Array.getElem?_push, if_neg (Nat.ne_of_lt hq)]
  have kk' := kk H1 _ (hW.new hk hz (e := .inl (G.2.1.2.2, n.toNatClampNeg, .inr (.inr (.inr (.inr (fun _ => none)))))) (by show H1[ad k]? = some (vp_cell _ _); rw [hk, vp_cell_q]; exact e1) o1) (va_up_self _ _ _) (fun i hi => va_up_ne _ _ hi) z1 ⟨Nat.le_trans hS0.1 (by omega), fun x h1 h2 => (o1 x (Nat.lt_of_lt_of_le h1 hS0.1)).trans (hS0.2.1 x h1 h2), hS0.2.2⟩
  rw [hk] at kk'
  exact kk'
theorem hr_ialdk (S : CallFix p m c cc nL s args Ts own) (hE : gE G s) (hW : hw G ad ct H) {n : Nat} {f : Nat → Int32} (hk : ct k = some (.inl (G.2.1.1, n, .inl f))) {i : Int32} {j : Nat} (hj : i = nI j) (hlt : j < n) (hn : n < 2 ^ 31) (hdg : decode cc pc = .ok (.iaload, 1))
    (kk : W p l e R s m args below meth c H locs cells slots Q (F0 m (pc + 1) ls (.int (f j) :: rest))) : W p l e R s m args below meth c H locs cells slots Q (F0 m pc ls (.int i :: .ref (ad k) :: rest)) := by
  subst hj
  refine hr_iald S hE hW hk (vp_in_nI hlt hn) hdg ?_
  rw [nI_clamp (Nat.lt_trans hlt hn)]
  exact kk
theorem hr_zaldk (S : CallFix p m c cc nL s args Ts own) (hE : gE G s) (hW : hw G ad ct H) {n : Nat} {f : Nat → Int32} (hk : ct k = some (.inl (G.2.1.2.1, n, .inl f))) {i : Int32} {j : Nat} (hj : i = nI j) (hlt : j < n) (hn : n < 2 ^ 31) (hdg : decode cc pc = .ok (.baload, 1))
    (kk : W p l e R s m args below meth c H locs cells slots Q (F0 m (pc + 1) ls (.int (f j) :: rest))) : W p l e R s m args below meth c H locs cells slots Q (F0 m pc ls (.int i :: .ref (ad k) :: rest)) := by
  subst hj
  refine hr_zald S hE hW hk (vp_in_nI hlt hn) hdg ?_
  rw [nI_clamp (Nat.lt_trans hlt hn)]
  exact kk
theorem hr_aaldk (S : CallFix p m c cc nL s args Ts own) (hE : gE G s) (hW : hw G ad ct H) {n : Nat} {f : Nat → Option Nat} (hk : ct k = some (.inl (G.2.1.2.2, n, .inr (.inr (.inr (.inr f)))))) {i : Int32} {j : Nat} (hj : i = nI j) (hlt : j < n) (hn : n < 2 ^ 31) (hdg : decode cc pc = .ok (.aaload, 1))
    (kk : W p l e R s m args below meth c H locs cells slots Q (F0 m (pc + 1) ls (va_rf (f j) :: rest))) : W p l e R s m args below meth c H locs cells slots Q (F0 m pc ls (.int i :: .ref (ad k) :: rest)) := by
  subst hj
  refine hr_aald S hE hW hk (vp_in_nI hlt hn) hdg ?_
  rw [nI_clamp (Nat.lt_trans hlt hn)]
  exact kk
theorem hr_iastk (S : CallFix p m c cc nL s args Ts own) (hE : gE G s) (hW : hw G ad ct H) (hS0 : va_S (hA G.2.2.2) s.heap H locs) {n : Nat} {f : Nat → Int32} (hk : ct k = some (.inl (G.2.1.1, n, .inl f))) {i x : Int32} {j : Nat} (hj : i = nI j) (hlt : j < n) (hn : n < 2 ^ 31) (hdg : decode cc pc = .ok (.iastore, 1))
    (kk : ∀ (H1 : Heap) (locs1 : List Loc) (ct1 : Nat → Option va_E), hw G ad ct1 H1 → ct1 k = some (.inl (G.2.1.1, n, .inl (upd f j x))) → (∀ i, i ≠ k → ct1 i = ct i) → H1.size = H.size → va_S (hA G.2.2.2) s.heap H1 locs1 → W p l e R s m args below meth c H1 locs1 cells slots Q (F0 m (pc + 1) ls rest)) : W p l e R s m args below meth c H locs cells slots Q (F0 m pc ls (.int x :: .int i :: .ref (ad k) :: rest)) := by
  subst hj
  refine hr_iast S hE hW hS0 hk (vp_in_nI hlt hn) hdg ?_
  rw [nI_clamp (Nat.lt_trans hlt hn)]
  exact kk
theorem hr_zastk (S : CallFix p m c cc nL s args Ts own) (hE : gE G s) (hW : hw G ad ct H) (hS0 : va_S (hA G.2.2.2) s.heap H locs) {n : Nat} {f : Nat → Int32} (hk : ct k = some (.inl (G.2.1.2.1, n, .inl f))) {i x : Int32} (hx : narrow .boolean (.int x) = .int x) {j : Nat} (hj : i = nI j) (hlt : j < n) (hn : n < 2 ^ 31) (hdg : decode cc pc = .ok (.bastore, 1))
    (kk : ∀ (H1 : Heap) (locs1 : List Loc) (ct1 : Nat → Option va_E), hw G ad ct1 H1 → ct1 k = some (.inl (G.2.1.2.1, n, .inl (upd f j x))) → (∀ i, i ≠ k → ct1 i = ct i) → H1.size = H.size → va_S (hA G.2.2.2) s.heap H1 locs1 → W p l e R s m args below meth c H1 locs1 cells slots Q (F0 m (pc + 1) ls rest)) : W p l e R s m args below meth c H locs cells slots Q (F0 m pc ls (.int x :: .int i :: .ref (ad k) :: rest)) := by
  subst hj
  refine hr_zast S hE hW hS0 hk hx (vp_in_nI hlt hn) hdg ?_
  rw [nI_clamp (Nat.lt_trans hlt hn)]
  exact kk
theorem hr_aastk (S : CallFix p m c cc nL s args Ts own) (hE : gE G s) (hW : hw G ad ct H) (hS0 : va_S (hA G.2.2.2) s.heap H locs) {n v : Nat} {f : Nat → Option Nat} (hk : ct k = some (.inl (G.2.1.2.2, n, .inr (.inr (.inr (.inr f)))))) {vs : List Value} (hv : ct v = some (.inr (0, vs))) {i : Int32} {j : Nat} (hj : i = nI j) (hlt : j < n) (hn : n < 2 ^ 31) (hdg : decode cc pc = .ok (.aastore, 1))
    (kk : ∀ (H1 : Heap) (locs1 : List Loc) (ct1 : Nat → Option va_E), hw G ad ct1 H1 → ct1 k = some (.inl (G.2.1.2.2, n, .inr (.inr (.inr (.inr (va_up f j (some (ad v)))))))) → (∀ i, i ≠ k → ct1 i = ct i) → H1.size = H.size → va_S (hA G.2.2.2) s.heap H1 locs1 → W p l e R s m args below meth c H1 locs1 cells slots Q (F0 m (pc + 1) ls rest)) : W p l e R s m args below meth c H locs cells slots Q (F0 m pc ls (.ref (ad v) :: .int i :: .ref (ad k) :: rest)) := by
  subst hj
  refine hr_aast S hE hW hS0 hk hv (vp_in_nI hlt hn) hdg ?_
  rw [nI_clamp (Nat.lt_trans hlt hn)]
  exact kk
/-! calls: of a method that only reads (hPr, hQr, hQq), of one that changes the world (hPw, hQi, hQv) -/
theorem hPre {P : Heap → Prop} {As : List Value} (hE : gE G s) (hS : va_S (hA G.2.2.2) s.heap H locs) (hP : P H) : FrameBlind (va_Pc As (fun U => gE G U ∧ P U.heap)) ∧ ∀ U : State, U.heap = H → s.WarmedH U.vm → va_Pc As (fun U => gE G U ∧ P U.heap) As.toArray U :=
  ⟨fun a U g mk q => ⟨q.1, q.2.1.calling g mk a, q.2.2⟩, fun U hU hW => ⟨rfl, hE.next hS hU hW, by rw [hU]; exact hP⟩⟩
theorem hPreVr {C : String} {b : Addr} {As : List Value} (hE : gE G s) (hS : va_S (hA G.2.2.2) s.heap H locs) (hr : ∃ cellB : Cell, H[b]? = some cellB ∧ cellB.vm.isStatics = false ∧ s.vm.findClass C = some cellB.cls) : PreV s H C b (hPr (.ref b :: As) G H) As :=
  ⟨(hPre (P := fun h => h = H) hE hS rfl).1, hr, (hPre (P := fun h => h = H) hE hS rfl).2⟩
theorem hPreSr {As : List Value} (hE : gE G s) (hS : va_S (hA G.2.2.2) s.heap H locs) : PreS s H (hPr As G H) As := hPre (P := fun h => h = H) hE hS rfl
theorem hPreVw {C : String} {b : Addr} {As : List Value} (hE : gE G s) (hS : va_S (hA G.2.2.2) s.heap H locs) (hr : ∃ cellB : Cell, H[b]? = some cellB ∧ cellB.vm.isStatics = false ∧ s.vm.findClass C = some cellB.cls) (hW : hw G ad ct H) : PreV s H C b (hPw (.ref b :: As) G ad ct) As :=
  ⟨(hPre (P := fun h => hw G ad ct h) hE hS hW).1, hr, (hPre (P := fun h => hw G ad ct h) hE hS hW).2⟩
theorem hPreSw {As : List Value} (hE : gE G s) (hS : va_S (hA G.2.2.2) s.heap H locs) (hW : hw G ad ct H) : PreS s H (hPw As G ad ct) As := hPre (P := fun h => hw G ad ct h) hE hS hW
theorem hPreVz {C : String} {b : Addr} {As : List Value} {n : Nat} (hE : gE G s) (hS : va_S (hA G.2.2.2) s.heap H locs) (hr : ∃ cellB : Cell, H[b]? = some cellB ∧ cellB.vm.isStatics = false ∧ s.vm.findClass C = some cellB.cls) (hW : hw G ad ct H) (hn : H.size = n) : PreV s H C b (hPz (.ref b :: As) G ad ct n) As :=
  ⟨(hPre (P := fun h => hw G ad ct h ∧ h.size = n) hE hS ⟨hW, hn⟩).1, hr, (hPre (P := fun h => hw G ad ct h ∧ h.size = n) hE hS ⟨hW, hn⟩).2⟩
theorem hPreSz {As : List Value} {n : Nat} (hE : gE G s) (hS : va_S (hA G.2.2.2) s.heap H locs) (hW : hw G ad ct H) (hn : H.size = n) : PreS s H (hPz As G ad ct n) As := hPre (P := fun h => hw G ad ct h ∧ h.size = n) hE hS ⟨hW, hn⟩
theorem hrecv (hE : gE G s) (hW : hw G ad ct H) {ci : Nat} {fs : List Value} (hk : ct k = some (.inr (ci, fs))) {q : vw_C} (hc : vwCl[ci]? = some q) : ∃ cell : Cell, H[ad k]? = some cell ∧ cell.vm.isStatics = false ∧ s.vm.findClass q.1 = some cell.cls :=
  va_recv hE.1 (hW.one hk) hc (q0 := 0) rfl
variable {st0 : List Value} {a : Array Value} {mc ms : Nat}
theorem hc_r {v : Int32} {z : Nat} (hr : va_Run p l e R s m args below meth c H locs cells slots 0 0 (F0 m pc ls st0) rest (hQr v H z a) (hA z)) (hS : va_S (hA z) s.heap H locs)
    (kk : ∀ locs1 : List Loc, va_S (hA z) s.heap H locs1 → W p l e R s m args below meth c H locs1 cells slots Q (F0 m (pc + 3) ls (.int v :: rest))) : W p l e R s m args below meth c H locs cells slots Q (F0 m pc ls st0) :=
  va_calli hr hS (fun _ _ h => h) (fun _ h => h) (fun r u t H1 locs1 ht _ hp hB _ _ hS1 => by
    have e1 : H1 = H := ht.symm.trans hB
    have e2 : r = v := hp
    subst e1
    subst e2
    exact kk locs1 hS1)
theorem hc_rq {v : Option Nat} {z : Nat} (hr : va_Run p l e R s m args below meth c H locs cells slots 0 0 (F0 m pc ls st0) rest (hQq v H z a) (hA z)) (hS : va_S (hA z) s.heap H locs)
    (kk : ∀ locs1 : List Loc, va_S (hA z) s.heap H locs1 → W p l e R s m args below meth c H locs1 cells slots Q (F0 m (pc + 3) ls (va_rf v :: rest))) : W p l e R s m args below meth c H locs cells slots Q (F0 m pc ls st0) :=
  va_callq hr hS (fun _ _ h => h) (fun _ h => h) (fun r u t H1 locs1 ht _ hp hB _ _ hS1 => by
    have e1 : H1 = H := ht.symm.trans hB
    have e2 : r = v := hp
    subst e1
    subst e2
    exact kk locs1 hS1)
theorem hc_i {post : Int32 → (Nat → Option va_E) → Prop} (hr : va_Run p l e R s m args below meth c H locs cells slots mc ms (F0 m pc ls st0) rest (hQi post G ad a) (hA G.2.2.2)) (hS : va_S (hA G.2.2.2) s.heap H locs)
    (kk : ∀ (r : Int32) (ct1 : Nat → Option va_E) (H1 : Heap) (locs1 : List Loc), post r ct1 → hw G ad ct1 H1 → va_S (hA G.2.2.2) s.heap H1 locs1 → W p l e R s m args below meth c H1 locs1 (cells + mc) (slots + ms) Q (F0 m (pc + 3) ls (.int r :: rest))) : W p l e R s m args below meth c H locs cells slots Q (F0 m pc ls st0) :=
  va_calli hr hS (fun _ _ h => h) (fun _ h => h) (fun r u t H1 locs1 ht _ hp hB _ _ hS1 => kk r u _ locs1 hp (ht ▸ hB) hS1)
theorem hc_v {post : (Nat → Option va_E) → Prop} (hr : va_Run p l e R s m args below meth c H locs cells slots mc ms (F0 m pc ls st0) rest (hQv post G ad a) (hA G.2.2.2)) (hS : va_S (hA G.2.2.2) s.heap H locs)
    (kk : ∀ (ct1 : Nat → Option va_E) (H1 : Heap) (locs1 : List Loc), post ct1 → hw G ad ct1 H1 → va_S (hA G.2.2.2) s.heap H1 locs1 → W p l e R s m args below meth c H1 locs1 (cells + mc) (slots + ms) Q (F0 m (pc + 3) ls rest)) : W p l e R s m args below meth c H locs cells slots Q (F0 m pc ls st0) :=
  va_callv hr hS (fun _ _ h => h) (fun _ h => h) (fun u t H1 locs1 ht _ hp hB _ _ hS1 => kk u _ locs1 hp (ht ▸ hB) hS1)
theorem hc_zi {post : Int32 → (Nat → Option va_E) → Prop} {n : Nat} (hr : va_Run p l e R s m args below meth c H locs cells slots mc ms (F0 m pc ls st0) rest (hQzi post G ad n a) (hA G.2.2.2)) (hS : va_S (hA G.2.2.2) s.heap H locs)
    (kk : ∀ (r : Int32) (ct1 : Nat → Option va_E) (H1 : Heap) (locs1 : List Loc), post r ct1 → hw G ad ct1 H1 → H1.size ≤ n → va_S (hA G.2.2.2) s.heap H1 locs1 → W p l e R s m args below meth c H1 locs1 (cells + mc) (slots + ms) Q (F0 m (pc + 3) ls (.int r :: rest))) : W p l e R s m args below meth c H locs cells slots Q (F0 m pc ls st0) :=
  va_calli hr hS (fun _ _ h => h) (fun _ h => h) (fun r u t H1 locs1 ht _ hp hB _ _ hS1 => kk r u _ locs1 hp (ht ▸ hB.1) (ht ▸ hB.2) hS1)
theorem hc_zv {post : (Nat → Option va_E) → Prop} {n : Nat} (hr : va_Run p l e R s m args below meth c H locs cells slots mc ms (F0 m pc ls st0) rest (hQzv post G ad n a) (hA G.2.2.2)) (hS : va_S (hA G.2.2.2) s.heap H locs)
    (kk : ∀ (ct1 : Nat → Option va_E) (H1 : Heap) (locs1 : List Loc), post ct1 → hw G ad ct1 H1 → H1.size = n → va_S (hA G.2.2.2) s.heap H1 locs1 → W p l e R s m args below meth c H1 locs1 (cells + mc) (slots + ms) Q (F0 m (pc + 3) ls rest)) : W p l e R s m args below meth c H locs cells slots Q (F0 m pc ls st0) :=
  va_callv hr hS (fun _ _ h => h) (fun _ h => h) (fun u t H1 locs1 ht _ hp hB _ _ hS1 => kk u _ locs1 hp (ht ▸ hB.1) (ht ▸ hB.2) hS1)
/-! ends -/
theorem h_rret {v w : Int32} {z : Nat} (S : CallFix p m c cc nL s args Ts own) (hr : meth.sig.returnType = some .int) (hlocks : meth.locks = false) (hS : va_S (hA z) s.heap s.heap locs) (hdg : decode cc pc = .ok (.ireturn, 1)) (hp : v = w) : W p l e R s m args below meth c s.heap locs cells slots (MQ below (hQr w s.heap z) args s cells slots (hA z)) (F0 m pc ls [.int v]) :=
  W.iret S.1 S.2.1 hr (fun t ht _ => ⟨⟨v, (), rfl, hp, ht⟩, hS.F ht⟩) hS.2.2 hdg hlocks
theorem h_rzret {v w : Int32} {z : Nat} (S : CallFix p m c cc nL s args Ts own) (hr : meth.sig.returnType = some .boolean) (hlocks : meth.locks = false) (hS : va_S (hA z) s.heap s.heap locs) (hdg : decode cc pc = .ok (.ireturn, 1)) (hn : w = 0 ∨ w = 1) (hp : v = w) : W p l e R s m args below meth c s.heap locs cells slots (MQ below (hQr w s.heap z) args s cells slots (hA z)) (F0 m pc ls [.int v]) :=
  W.zret S.1 S.2.1 hr (by rw [hp]; rcases hn with h | h <;> subst h <;> rfl) (fun t ht _ => ⟨⟨v, (), rfl, hp, ht⟩, hS.F ht⟩) hS.2.2 hdg hlocks
theorem h_rqret {C : String} {v : Value} {w : Option Nat} {z : Nat} (S : CallFix p m c cc nL s args Ts own) (hr : meth.sig.returnType = some (.object C)) (hlocks : meth.locks = false) (hS : va_S (hA z) s.heap s.heap locs) (hdg : decode cc pc = .ok (.areturn, 1)) (hp : v = va_rf w) : W p l e R s m args below meth c s.heap locs cells slots (MQ below (hQq w s.heap z) args s cells slots (hA z)) (F0 m pc ls [v]) := by
  subst hp
  exact W.aret S.1 S.2.1 hr (Or.inl ⟨C, rfl⟩) (va_rf_or w) (fun t ht _ => ⟨⟨w, (), rfl, rfl, ht⟩, hS.F ht⟩) hS.2.2 hdg hlocks
theorem h_iret {post : Int32 → (Nat → Option va_E) → Prop} {v : Int32} (S : CallFix p m c cc nL s args Ts own) (hr : meth.sig.returnType = some .int) (hlocks : meth.locks = false) (hS : va_S (hA G.2.2.2) s.heap H locs) (hW : hw G ad ct H) (hdg : decode cc pc = .ok (.ireturn, 1)) (hp : post v ct) : W p l e R s m args below meth c H locs cells slots (MQ below (hQi post G ad) args s cells slots (hA G.2.2.2)) (F0 m pc ls [.int v]) :=
  W.iret S.1 S.2.1 hr (fun t ht _ => ⟨⟨v, ct, rfl, hp, by show hw G ad ct t.heap; rw [ht]; exact hW⟩, hS.F ht⟩) hS.2.2 hdg hlocks
theorem h_vret {post : (Nat → Option va_E) → Prop} (S : CallFix p m c cc nL s args Ts own) (hr : meth.sig.returnType = none) (hlocks : meth.locks = false) (hS : va_S (hA G.2.2.2) s.heap H locs) (hW : hw G ad ct H) (hdg : decode cc pc = .ok (.return_, 1)) (hp : post ct) : W p l e R s m args below meth c H locs cells slots (MQ below (hQv post G ad) args s cells slots (hA G.2.2.2)) (F0 m pc ls []) :=
  W.vret S.1 S.2.1 hr (fun t ht _ => ⟨⟨ct, rfl, hp, by show hw G ad ct t.heap; rw [ht]; exact hW⟩, hS.F ht⟩) hS.2.2 hdg hlocks
theorem h_ziret {post : Int32 → (Nat → Option va_E) → Prop} {v : Int32} {n : Nat} (S : CallFix p m c cc nL s args Ts own) (hr : meth.sig.returnType = some .int) (hlocks : meth.locks = false) (hS : va_S (hA G.2.2.2) s.heap H locs) (hW : hw G ad ct H) (hn : H.size ≤ n) (hdg : decode cc pc = .ok (.ireturn, 1)) (hp : post v ct) : W p l e R s m args below meth c H locs cells slots (MQ below (hQzi post G ad n) args s cells slots (hA G.2.2.2)) (F0 m pc ls [.int v]) :=
  W.iret S.1 S.2.1 hr (fun t ht _ => ⟨⟨v, ct, rfl, hp, by show hw G ad ct t.heap ∧ t.heap.size ≤ n; rw [ht]; exact ⟨hW, hn⟩⟩, hS.F ht⟩) hS.2.2 hdg hlocks
theorem h_zvret {post : (Nat → Option va_E) → Prop} {n : Nat} (S : CallFix p m c cc nL s args Ts own) (hr : meth.sig.returnType = none) (hlocks : meth.locks = false) (hS : va_S (hA G.2.2.2) s.heap H locs) (hW : hw G ad ct H) (hn : H.size = n) (hdg : decode cc pc = .ok (.return_, 1)) (hp : post ct) : W p l e R s m args below meth c H locs cells slots (MQ below (hQzv post G ad n) args s cells slots (hA G.2.2.2)) (F0 m pc ls []) :=
  W.vret S.1 S.2.1 hr (fun t ht _ => ⟨⟨ct, rfl, hp, by show hw G ad ct t.heap ∧ t.heap.size = n; rw [ht]; exact ⟨hW, hn⟩⟩, hS.F ht⟩) hS.2.2 hdg hlocks
end HR
theorem hMet0 {l : Launch} {y : MethodName} {rm : Room} {As : List Value} {G : hG} {P : Heap → Prop} {Qc : Array Value → State → Outcome → State → Prop} {mc ms : Nat} {free : Addr → Prop} {cc : ByteArray} {maxL : Nat} {ret : Option FieldType} (hy : plainName y.cls = true) (hle : (lg_sl As).length ≤ maxL)
    (body : ∀ (p : Program) (e : Env) (s : State) (m : MethodId) (below : List Frame) (meth : Method) (c : Code) (ls : Array Slot), CallFix p m c cc maxL s As.toArray WS y.cls → meth.sig.returnType = ret → meth.locks = false → (y.name = "<init>" → meth.name = "<init>") → gE G s → P s.heap → lv_has ls maxL (lv_args 0 As) →
      W p l e rm s m As.toArray below meth c s.heap [] 0 0 (MQ below Qc As.toArray s mc ms free) (F0 m 0 ls [])) : Met l y (Cond.code y cc maxL ret :: WS) rm (va_Pc As (fun U => gE G U ∧ P U.heap)) Qc mc ms free := by
  refine Met.ofW (cc := cc) (maxL := maxL) (ret := ret) hy rfl ?_
  intro p e s m args below meth c s₁ B hml hv
  obtain ⟨rfl, hE, hP⟩ := hv
  have hl := lv_entry As (n := maxL) hle
  rw [lg_entry_eq]
  exact body p e s m below meth c _ ⟨B.exec, B.bytes, hml, findClass_of_methodNamed B.named, fun w h => atoms_spec (ws := Cond.code y cc maxL ret :: WS) B.pre w (List.mem_cons_of_mem _ h)⟩ B.returns B.notSynchronized (fun h => ((name_of_methodNamed B.named B.method).1).trans h) hE hP hl
theorem hMetr {l : Launch} {y : MethodName} {rm : Room} {As : List Value} {G : hG} {H : Heap} {Qc : Heap → Array Value → State → Outcome → State → Prop} {mc ms : Nat} {free : Addr → Prop} {cc : ByteArray} {maxL : Nat} {ret : Option FieldType} (hy : plainName y.cls = true) (hle : (lg_sl As).length ≤ maxL)
    (body : ∀ (p : Program) (e : Env) (s : State) (m : MethodId) (below : List Frame) (meth : Method) (c : Code) (ls : Array Slot), CallFix p m c cc maxL s As.toArray WS y.cls → meth.sig.returnType = ret → meth.locks = false → gE G s → s.heap = H → lv_has ls maxL (lv_args 0 As) →
      W p l e rm s m As.toArray below meth c s.heap [] 0 0 (MQ below (Qc s.heap) As.toArray s mc ms free) (F0 m 0 ls [])) : Met l y (Cond.code y cc maxL ret :: WS) rm (hPr As G H) (Qc H) mc ms free :=
  hMet0 (P := fun h => h = H) hy hle (fun p e s m below meth c ls S hr hk _ hE hP hl => by
    have h := body p e s m below meth c ls S hr hk hE hP hl
    have e : Qc s.heap = Qc H := congrArg Qc hP
    rw [e] at h
    exact h)
theorem hMetw {l : Launch} {y : MethodName} {rm : Room} {As : List Value} {G : hG} {ad : Nat → Nat} {ct : Nat → Option va_E} {Qc : Array Value → State → Outcome → State → Prop} {mc ms : Nat} {free : Addr → Prop} {cc : ByteArray} {maxL : Nat} {ret : Option FieldType} (hy : plainName y.cls = true) (hle : (lg_sl As).length ≤ maxL)
    (body : ∀ (p : Program) (e : Env) (s : State) (m : MethodId) (below : List Frame) (meth : Method) (c : Code) (ls : Array Slot), CallFix p m c cc maxL s As.toArray WS y.cls → meth.sig.returnType = ret → meth.locks = false → gE G s → hw G ad ct s.heap → lv_has ls maxL (lv_args 0 As) →
      W p l e rm s m As.toArray below meth c s.heap [] 0 0 (MQ below Qc As.toArray s mc ms free) (F0 m 0 ls [])) : Met l y (Cond.code y cc maxL ret :: WS) rm (hPw As G ad ct) Qc mc ms free :=
  hMet0 (P := fun h => hw G ad ct h) hy hle (fun p e s m below meth c ls S hr hk _ hE hP hl => body p e s m below meth c ls S hr hk hE hP hl)
theorem hMetz {l : Launch} {y : MethodName} {rm : Room} {As : List Value} {G : hG} {ad : Nat → Nat} {ct : Nat → Option va_E} {n : Nat} {Qc : Array Value → State → Outcome → State → Prop} {mc ms : Nat} {free : Addr → Prop} {cc : ByteArray} {maxL : Nat} {ret : Option FieldType} (hy : plainName y.cls = true) (hle : (lg_sl As).length ≤ maxL)
    (body : ∀ (p : Program) (e : Env) (s : State) (m : MethodId) (below : List Frame) (meth : Method) (c : Code) (ls : Array Slot), CallFix p m c cc maxL s As.toArray WS y.cls → meth.sig.returnType = ret → meth.locks = false → (y.name = "<init>" → meth.name = "<init>") → gE G s → hw G ad ct s.heap → s.heap.size = n → lv_has ls maxL (lv_args 0 As) →
      W p l e rm s m As.toArray below meth c s.heap [] 0 0 (MQ below Qc As.toArray s mc ms free) (F0 m 0 ls [])) : Met l y (Cond.code y cc maxL ret :: WS) rm (hPz As G ad ct n) Qc mc ms free :=
  hMet0 (P := fun h => hw G ad ct h ∧ h.size = n) hy hle (fun p e s m below meth c ls S hr hk hi hE hP hl => body p e s m below meth c ls S hr hk hi hE hP.1 hP.2 hl)
