/-! MODEL: its tables, its machine -/
def codTl : List Int32 := [3010, 1000, 1100, 1, 1003, 3011, 1000, 1101, 3, 1005, 1000, 1, 1003, 1100, 1004, 3020, 1000, 1103, 1000, 1, 1003, 1103, 1003, 3021, 1000, 1104, 85, 1006, 3030, 1000, 1314, 1000, 1, 1003, 1326, 1003, 3040, 1000, 1105, 1000, 1003, 3041, 1000, 1106, 2, 1005, 1, 1106, 1003, 3050, 1000, 1355, 1000, 1108, 1004, 3051, 1000, 2052, 2, 1105, 1003, 3052, 1000, 1105, 5, 1005, 3060, 1001, 1000, 1003, 1008, 1001, 3061, 1001, 3, 1000, 1005, 1004, 1008, 1001, 3062, 1001, 31, 1005, 1000, 1003, 1008, 1001, 3063, 1001, 1000, 1006, 3064, 1000, 1109, 1, 1110, 1003, 1000, 2063, 1003, 3070, 1002, 1, 1003, 1009, 1002, 7, 1005, 1000, 1003, 3100, 1001, 1000, 1003, 3101, 1000, 2, 1003, 1209, 1, 1003, 3110, 1000, 1210, 2, 1005, 1000, 2112, 1003, 3111, 1000, 1328, 1, 1004, 3112, 1002, 1000, 1004, 3120, 1000, 1105, 3, 1005, 1001, 1003, 3130, 1000, 1200, 3, 1005, 3131, 1000, 1, 1003, 1201, 5, 1003, 3140, 1001, 1000, 1004, 3141, 1000, 1202, 1, 1314, 1004, 3142, 1000, 1, 1003, 1210, 4, 1003, 3150, 1000, 1105, 1001, 1003, 3151, 1000, 1209, 0, 1102, 1006, 3152, 1000, 1340, 1, 1003, 3160, 1000, 3161, 1000, 1368, 255, 1007, 3162, 1000, 99, 1003, 3163, 1000, 2162, 1, 1209, 1003, 3180, 1000, 1209, 1, 1004, 3181, 1000, 1202, 2, 1101, 1003, 3190, 1000, 1110, 2, 1005, 3200, 1002, 1000, 1003, 3201, 1000, 1367, 1000, 2200, 1003, 3202, 1000, 1338, 1000, 1202, 1003, 3204, 1000, 1205, 1, 1003, 3000]
def codT : Nat → Int32 := tab codTl
def staTl : List Int32 := [0, 0, 0, 0, 0, 0, 0, 0, 0, 0, 1, 6, 0, 0, 0, 0, 0, 0, 0, 0, 16, 24, 0, 0, 0, 0, 0, 0, 0, 0, 29, 0, 0, 0, 0, 0, 0, 0, 0, 0, 37, 42, 0, 0, 0, 0, 0, 0, 0, 0, 50, 56, 62, 0, 0, 0, 0, 0, 0, 0, 67, 73, 81, 89, 93, 0, 0, 0, 0, 0, 102, 0, 0, 0, 0, 0, 0, 0, 0, 0, 0, 0, 0, 0, 0, 0, 0, 0, 0, 0, 0, 0, 0, 0, 0, 0, 0, 0, 0, 0, 112, 116, 0, 0, 0, 0, 0, 0, 0, 0, 123, 131, 136, 0, 0, 0, 0, 0, 0, 0, 140, 0, 0, 0, 0, 0, 0, 0, 0, 0, 147, 152, 0, 0, 0, 0, 0, 0, 0, 0, 159, 163, 169, 0, 0, 0, 0, 0, 0, 0, 176, 181, 187, 0, 0, 0, 0, 0, 0, 0, 192, 194, 199, 203, 0, 0, 0, 0, 0, 0, 0, 0, 0, 0, 0, 0, 0, 0, 0, 0, 209, 214, 0, 0, 0, 0, 0, 0, 0, 0, 220, 0, 0, 0, 0, 0, 0, 0, 0, 0, 225, 229, 235, 0, 241, 0, 0, 0, 0, 0]
def staT : Nat → Int32 := tab staTl
def parTl : List Int32 := [0, 0, 0, 0, 0, 0, -1, 6, 0, 0, 7, 7, 7, 10, 11, 12, 7, 12, 13, 11, 14]
def parT : Nat → Int32 := tab parTl
def beaTl : List Int32 := [0, 0, 0, 0, 0, 0, 0, 0, 0, 0, 2, 4, 16, 2, 6, 30, 48, 48, 2, 14, 62]
def beaT : Nat → Int32 := tab beaTl
def hasTl : List Int32 := [-1, -1, -1, -1, -1, -1, -1, -1, -1, -1, -1, -1, -1, 10, 11, -1, -1, -1, -1, -1, -1, -1, -1, -1, -1, -1, 21, -1, 20, -1, -1, -1, -1, -1, -1, -1, -1, -1, 30, -1, -1, -1, -1, -1, -1, -1, -1, -1, -1, -1, -1, -1, -1, -1, 40, 41, -1, -1, -1, -1, -1, -1, -1, -1, -1, -1, -1, 50, 51, -1, -1, -1, -1, -1, -1, 62, -1, -1, -1, -1, -1, 60, 61, 64, -1, -1, -1, -1, -1, 70, -1, -1, -1, -1, -1, -1, -1, -1, -1, -1, -1, -1, -1, -1, -1, -1, -1, -1, -1, -1, -1, -1, -1, -1, -1, -1, -1, -1, -1, -1, 100, -1, -1, -1, -1, -1, -1, -1, -1, 101, -1, -1, -1, -1, -1, -1, 111, -1, -1, -1, -1, -1, 110, -1, -1, -1, -1, -1, -1, -1, 120, -1, -1, -1, -1, -1, 130, 131, -1, -1, -1, -1, -1, -1, -1, -1, -1, -1, 140, -1, 141, -1, -1, -1, -1, -1, -1, -1, 142, -1, 150, -1, -1, -1, 152, -1, -1, -1, -1, 151, -1, -1, -1, -1, -1, -1, -1, 160, -1, -1, 161, 163, -1, -1, -1, -1, -1, -1, -1, -1, -1, -1, -1, -1, -1, -1, -1, -1, 181, -1, -1, -1, -1, -1, -1, 180, -1, -1, 190, -1, -1, -1, -1, -1, -1, -1, -1, -1, -1, -1, -1, -1, 202, -1, -1, 204, -1, 201, -1, -1, -1, -1]
def hasT : Nat → Int32 := tab hasTl
def choTl : List Int32 := [0, 0, 0, 0, 0, 0, 0, 0, 0, 0, 0, 0, -1, 10, 11, -1, -1, -1, -1, -1, -1, -1, -1, -1, -1, -1, 21, -1, 20, -1, -1, -1, -1, -1, -1, -1, -1, 10, 30, -1, 20, -1, -1, -1, -1, -1, -1, -1, -1, -1, -1, -1, -1, -1, 40, 41, -1, -1, -1, -1, -1, -1, -1, -1, -1, -1, 40, 50, 51, -1, -1, -1, -1, -1, -1, 62, -1, -1, -1, -1, -1, 60, 61, 64, -1, -1, -1, 62, -1, 70, -1, -1, -1, 60, 61, 64, -1, -1, -1, -1, -1, -1, -1, -1, -1, -1, -1, -1, -1, -1, -1, -1, -1, -1, -1, -1, -1, -1, -1, -1, 100, 10, 11, 62, -1, 70, -1, -1, -1, 101, 61, 64, -1, -1, 21, 62, 111, 70, -1, -1, -1, 60, 110, 64, -1, -1, -1, 62, -1, 70, 120, 41, -1, 60, 61, 64, 130, 131, 11, 62, -1, 70, -1, -1, -1, 101, 61, 64, 140, 10, 141, 62, 111, 70, -1, -1, -1, 60, 142, 64, 150, 10, 30, 62, 152, 70, 120, 41, -1, 151, 61, 64, -1, -1, -1, 62, -1, 160, 40, 50, 161, 163, 61, 64, -1, -1, -1, 62, -1, 70, 120, 50, 51, 60, 61, 64, 130, 131, 181, 62, -1, 70, -1, -1, -1, 180, 61, 64, 190, 10, 30, 62, 111, 70, -1, -1, -1, 60, 110, 64, 140, 10, 202, 62, 111, 204, 40, 201, 51, 60, 142, 64]
def choT : Nat → Int32 := tab choTl
def aoTl : List Int32 := [0, 3624, 7, 28, 31, 224, 480]
def aoT : Nat → Int32 := tab aoTl
def akTl : List Int32 := [3631, 3644, 3816, 3631, 3647, 3839, 4072, 4072, 3631, 3647, 4095]
def akT : Nat → Int32 := tab akTl
/-- the object: how many devices, links, bodies; the status; how many frames, how much on the pile -/
def MO (ad : Nat → Nat) (dn lk bg st fr pd : Int32) : List Value := [.ref (ad 10), .ref (ad 11), .ref (ad 12), .ref (ad 13), .ref (ad 14), .ref (ad 15), .ref (ad 16), .ref (ad 17), .ref (ad 18), .ref (ad 19), .ref (ad 20), .ref (ad 21), .int dn, .ref (ad 23), .ref (ad 24), .int lk, .ref (ad 26), .ref (ad 27), .ref (ad 28), .ref (ad 29), .int bg, .int st, .ref (ad 32), .ref (ad 33), .ref (ad 34), .ref (ad 35), .int fr, .int pd]
def FrRep (fb fa fx : Nat → Int32) : List (Nat × Nat × Int32) → Prop
  | [] => True
  | F :: Fs => fb Fs.length = nI F.1 ∧ fa Fs.length = nI F.2.1 ∧ fx Fs.length = F.2.2 ∧ FrRep fb fa fx Fs
def PlRep (pl : Nat → Int32) : List Int32 → Prop
  | [] => True
  | x :: P => pl P.length = x ∧ PlRep pl P
theorem PlRep_up {pl : Nat → Int32} {x : Int32} : ∀ {P : List Int32} {k : Nat}, P.length ≤ k → PlRep pl P → PlRep (upd pl k x) P
  | [], _, _, _ => trivial
  | y :: P, k, h, hp => by
    have h' : P.length + 1 ≤ k := h
    exact ⟨by rw [pk_un (by omega)]; exact hp.1, PlRep_up (by omega) hp.2⟩
theorem FrRep_up {fb fa fx : Nat → Int32} {x y z : Int32} : ∀ {Fs : List (Nat × Nat × Int32)} {k : Nat}, Fs.length ≤ k → FrRep fb fa fx Fs → FrRep (upd fb k x) (upd fa k y) (upd fx k z) Fs
  | [], _, _, _ => trivial
  | F :: Fs, k, h, hp => by
    have h' : Fs.length + 1 ≤ k := h
    exact ⟨by rw [pk_un (by omega)]; exact hp.1, by rw [pk_un (by omega)]; exact hp.2.1, by rw [pk_un (by omega)]; exact hp.2.2.1, FrRep_up (by omega) hp.2.2.2⟩
theorem FrRep_at {fb fa fx : Nat → Int32} {y : Int32} : ∀ {Fs : List (Nat × Nat × Int32)} {k : Nat}, Fs.length ≤ k → FrRep fb fa fx Fs → FrRep fb (upd fa k y) fx Fs
  | [], _, _, _ => trivial
  | F :: Fs, k, h, hp => by
    have h' : Fs.length + 1 ≤ k := h
    exact ⟨hp.1, by rw [pk_un (by omega)]; exact hp.2.1, hp.2.2.1, FrRep_at (by omega) hp.2.2.2⟩
theorem PlRep_push {pl : Nat → Int32} {x : Int32} {P : List Int32} (h : PlRep pl P) : PlRep (upd pl P.length x) (x :: P) := ⟨pk_us, PlRep_up (Nat.le_refl _) h⟩
theorem FrRep_push {fb fa fx : Nat → Int32} {bd a : Nat} {x : Int32} {Fs : List (Nat × Nat × Int32)} (h : FrRep fb fa fx Fs) : FrRep (upd fb Fs.length (nI bd)) (upd fa Fs.length (nI a)) (upd fx Fs.length x) ((bd, a, x) :: Fs) := ⟨pk_us, pk_us, pk_us, FrRep_up (Nat.le_refl _) h⟩
theorem FrRep_inc {fb fa fx : Nat → Int32} {bd a : Nat} {x : Int32} {Fs : List (Nat × Nat × Int32)} (h : FrRep fb fa fx ((bd, a, x) :: Fs)) : FrRep fb (upd fa Fs.length (nI (a + 1))) fx ((bd, a + 1, x) :: Fs) := ⟨h.1, pk_us, h.2.2.1, FrRep_at (Nat.le_refl _) h.2.2.2⟩
def MC (G : hG) (ad : Nat → Nat) (ct : Nat → Option va_E) (dn lk st : Int32) (i : Nat) (vv cv : Nat → Int32) (Fs : List (Nat × Nat × Int32)) (P : List Int32) (q : St) : Prop :=
  ∃ fb fa fx pl : Nat → Int32, ct 8 = some (.inr (5, MO ad dn lk q.2.2.1 st (nI Fs.length) (nI P.length))) ∧ ct 19 = some (.inl (G.2.1.1, 300, .inl (upd vv i q.1))) ∧ ct 20 = some (.inl (G.2.1.1, 300, .inl (upd cv i q.2.1))) ∧ ct 29 = some (.inl (G.2.1.1, 64, .inl q.2.2.2)) ∧
    ct 32 = some (.inl (G.2.1.1, 100, .inl fb)) ∧ ct 33 = some (.inl (G.2.1.1, 100, .inl fa)) ∧ ct 34 = some (.inl (G.2.1.1, 100, .inl fx)) ∧ ct 35 = some (.inl (G.2.1.1, 300, .inl pl)) ∧ FrRep fb fa fx Fs ∧ PlRep pl P
theorem upd_upd (f : Nat → Int32) (i : Nat) (x y : Int32) : upd (upd f i x) i y = upd f i y := by
  funext j
  by_cases h : j = i
  · subst h; rw [pk_us, pk_us]
  · rw [pk_un h, pk_un h, pk_un h]
theorem upd_self (f : Nat → Int32) (i : Nat) : upd f i (f i) = f := by
  funext j
  by_cases h : j = i
  · subst h; rw [pk_us]
  · rw [pk_un h]
theorem bgF_nn {b : Nat} {f : Nat → Int32} {x : Int32} (hb : b < 2 ^ 31) : bgF (nI b) f x = if nI b < 64 then upd f b x else f := by
  unfold bgF
  rw [if_neg (nI_pos hb), nI_clamp hb]
  by_cases h : nI b < 64
  · rw [if_neg (fun q => absurd h (Int32.not_lt.mpr q)), if_pos h]
  · rw [if_pos (Int32.not_lt.mp h), if_neg h]
/-- at most three calls a body: how much the trail can grow -/
def cB : Nat → Nat
  | 0 => 0
  | n + 1 => 1 + 3 * cB n
def GrS (R : Int32 → Int32 → St → Int32 × St) (c : Nat) : Prop := ∀ b x q bb, q.2.2.1 = nI bb → ∃ b1, (R b x q).2.2.2.1 = nI b1 ∧ bb ≤ b1 ∧ b1 ≤ bb + c
theorem gr_10 {R : Int32 → Int32 → St → Int32 × St} {c : Nat} (hR : GrS R c) (t x : Int32) (q : St) (bb : Nat) (h0 : q.2.2.1 = nI bb) : ∃ b1, (bodyS R t 10 x q).2.2.2.1 = nI b1 ∧ bb ≤ b1 ∧ b1 ≤ bb + 3 * c := by
  rw [bodyS_10]
  obtain ⟨b1, h1, l1, u1⟩ := hR (selOfF selT t 0) x q _ h0
  exact ⟨b1, h1, by omega, by omega⟩
theorem gr_11 {R : Int32 → Int32 → St → Int32 × St} {c : Nat} (hR : GrS R c) (t x : Int32) (q : St) (bb : Nat) (h0 : q.2.2.1 = nI bb) : ∃ b1, (bodyS R t 11 x q).2.2.2.1 = nI b1 ∧ bb ≤ b1 ∧ b1 ≤ bb + 3 * c := by
  rw [bodyS_11]
  obtain ⟨b1, h1, l1, u1⟩ := hR (selOfF selT t 1) x q _ h0
  obtain ⟨b2, h2, l2, u2⟩ := hR (selOfF selT t 0) (x + 1) ((R (selOfF selT t 1) x q).2) _ h1
  exact ⟨b2, h2, by omega, by omega⟩
theorem gr_20 {R : Int32 → Int32 → St → Int32 × St} {c : Nat} (hR : GrS R c) (t x : Int32) (q : St) (bb : Nat) (h0 : q.2.2.1 = nI bb) : ∃ b1, (bodyS R t 20 x q).2.2.2.1 = nI b1 ∧ bb ≤ b1 ∧ b1 ≤ bb + 3 * c := by
  rw [bodyS_20]
  obtain ⟨b1, h1, l1, u1⟩ := hR (selOfF selT t 3) x q _ h0
  obtain ⟨b2, h2, l2, u2⟩ := hR (selOfF selT t 3) (x + 1) ((R (selOfF selT t 3) x q).2) _ h1
  exact ⟨b2, h2, by omega, by omega⟩
theorem gr_21 {R : Int32 → Int32 → St → Int32 × St} {c : Nat} (hR : GrS R c) (t x : Int32) (q : St) (bb : Nat) (h0 : q.2.2.1 = nI bb) : ∃ b1, (bodyS R t 21 x q).2.2.2.1 = nI b1 ∧ bb ≤ b1 ∧ b1 ≤ bb + 3 * c := by
  rw [bodyS_21]
  obtain ⟨b1, h1, l1, u1⟩ := hR (selOfF selT t 4) x q _ h0
  exact ⟨b1, h1, by omega, by omega⟩
theorem gr_30 {R : Int32 → Int32 → St → Int32 × St} {c : Nat} (hR : GrS R c) (t x : Int32) (q : St) (bb : Nat) (h0 : q.2.2.1 = nI bb) : ∃ b1, (bodyS R t 30 x q).2.2.2.1 = nI b1 ∧ bb ≤ b1 ∧ b1 ≤ bb + 3 * c := by
  rw [bodyS_30]
  obtain ⟨b1, h1, l1, u1⟩ := hR (selOfF selT 2 2) x q _ h0
  obtain ⟨b2, h2, l2, u2⟩ := hR (selOfF selT 3 2) (x + 1) ((R (selOfF selT 2 2) x q).2) _ h1
  exact ⟨b2, h2, by omega, by omega⟩
theorem gr_40 {R : Int32 → Int32 → St → Int32 × St} {c : Nat} (hR : GrS R c) (t x : Int32) (q : St) (bb : Nat) (h0 : q.2.2.1 = nI bb) : ∃ b1, (bodyS R t 40 x q).2.2.2.1 = nI b1 ∧ bb ≤ b1 ∧ b1 ≤ bb + 3 * c := by
  rw [bodyS_40]
  obtain ⟨b1, h1, l1, u1⟩ := hR (selOfF selT t 5) x q _ h0
  exact ⟨b1, h1, by omega, by omega⟩
theorem gr_41 {R : Int32 → Int32 → St → Int32 × St} {c : Nat} (hR : GrS R c) (t x : Int32) (q : St) (bb : Nat) (h0 : q.2.2.1 = nI bb) : ∃ b1, (bodyS R t 41 x q).2.2.2.1 = nI b1 ∧ bb ≤ b1 ∧ b1 ≤ bb + 3 * c := by
  rw [bodyS_41]
  obtain ⟨b1, h1, l1, u1⟩ := hR (selOfF selT t 6) x q _ h0
  obtain ⟨b2, h2, l2, u2⟩ := hR (selOfF selT t 6) 1 ((R (selOfF selT t 6) x q).2) _ h1
  exact ⟨b2, h2, by omega, by omega⟩
theorem gr_50 {R : Int32 → Int32 → St → Int32 × St} {c : Nat} (hR : GrS R c) (t x : Int32) (q : St) (bb : Nat) (h0 : q.2.2.1 = nI bb) : ∃ b1, (bodyS R t 50 x q).2.2.2.1 = nI b1 ∧ bb ≤ b1 ∧ b1 ≤ bb + 3 * c := by
  rw [bodyS_50]
  obtain ⟨b1, h1, l1, u1⟩ := hR (selOfF selT 5 7) x q _ h0
  obtain ⟨b2, h2, l2, u2⟩ := hR (selOfF selT t 8) x ((R (selOfF selT 5 7) x q).2) _ h1
  exact ⟨b2, h2, by omega, by omega⟩
theorem gr_51 {R : Int32 → Int32 → St → Int32 × St} {c : Nat} (hR : GrS R c) (t x : Int32) (q : St) (bb : Nat) (h0 : q.2.2.1 = nI bb) : ∃ b1, (bodyS R t 51 x q).2.2.2.1 = nI b1 ∧ bb ≤ b1 ∧ b1 ≤ bb + 3 * c := by
  rw [bodyS_51]
  obtain ⟨b1, h1, l1, u1⟩ := hR 52 x q _ h0
  obtain ⟨b2, h2, l2, u2⟩ := hR (selOfF selT t 5) 2 ((R 52 x q).2) _ h1
  exact ⟨b2, h2, by omega, by omega⟩
theorem gr_52 {R : Int32 → Int32 → St → Int32 × St} {c : Nat} (hR : GrS R c) (t x : Int32) (q : St) (bb : Nat) (h0 : q.2.2.1 = nI bb) : ∃ b1, (bodyS R t 52 x q).2.2.2.1 = nI b1 ∧ bb ≤ b1 ∧ b1 ≤ bb + 3 * c := by
  rw [bodyS_52]
  obtain ⟨b1, h1, l1, u1⟩ := hR (selOfF selT t 5) x q _ h0
  exact ⟨b1, h1, by omega, by omega⟩
theorem gr_60 {R : Int32 → Int32 → St → Int32 × St} {c : Nat} (hR : GrS R c) (t x : Int32) (q : St) (bb : Nat) (h0 : q.2.2.1 = nI bb) : ∃ b1, (bodyS R t 60 x q).2.2.2.1 = nI b1 ∧ bb ≤ b1 ∧ b1 ≤ bb + 3 * c := by
  rw [bodyS_60]
  exact ⟨bb, h0, by omega, by omega⟩
theorem gr_61 {R : Int32 → Int32 → St → Int32 × St} {c : Nat} (hR : GrS R c) (t x : Int32) (q : St) (bb : Nat) (h0 : q.2.2.1 = nI bb) : ∃ b1, (bodyS R t 61 x q).2.2.2.1 = nI b1 ∧ bb ≤ b1 ∧ b1 ≤ bb + 3 * c := by
  rw [bodyS_61]
  exact ⟨bb, h0, by omega, by omega⟩
theorem gr_62 {R : Int32 → Int32 → St → Int32 × St} {c : Nat} (hR : GrS R c) (t x : Int32) (q : St) (bb : Nat) (h0 : q.2.2.1 = nI bb) : ∃ b1, (bodyS R t 62 x q).2.2.2.1 = nI b1 ∧ bb ≤ b1 ∧ b1 ≤ bb + 3 * c := by
  rw [bodyS_62]
  exact ⟨bb, h0, by omega, by omega⟩
theorem gr_63 {R : Int32 → Int32 → St → Int32 × St} {c : Nat} (hR : GrS R c) (t x : Int32) (q : St) (bb : Nat) (h0 : q.2.2.1 = nI bb) : ∃ b1, (bodyS R t 63 x q).2.2.2.1 = nI b1 ∧ bb ≤ b1 ∧ b1 ≤ bb + 3 * c := by
  rw [bodyS_63]
  exact ⟨bb, h0, by omega, by omega⟩
theorem gr_64 {R : Int32 → Int32 → St → Int32 × St} {c : Nat} (hR : GrS R c) (t x : Int32) (q : St) (bb : Nat) (h0 : q.2.2.1 = nI bb) : ∃ b1, (bodyS R t 64 x q).2.2.2.1 = nI b1 ∧ bb ≤ b1 ∧ b1 ≤ bb + 3 * c := by
  rw [bodyS_64]
  obtain ⟨b1, h1, l1, u1⟩ := hR (selOfF selT t 9) x q _ h0
  obtain ⟨b2, h2, l2, u2⟩ := hR (selOfF selT t 10) 1 ((R (selOfF selT t 9) x q).2) _ h1
  obtain ⟨b3, h3, l3, u3⟩ := hR 63 x ((R (selOfF selT t 10) 1 ((R (selOfF selT t 9) x q).2)).2) _ h2
  exact ⟨b3, h3, by omega, by omega⟩
theorem gr_70 {R : Int32 → Int32 → St → Int32 × St} {c : Nat} (hR : GrS R c) (t x : Int32) (q : St) (bb : Nat) (h0 : q.2.2.1 = nI bb) : ∃ b1, (bodyS R t 70 x q).2.2.2.1 = nI b1 ∧ bb ≤ b1 ∧ b1 ≤ bb + 3 * c := by
  rw [bodyS_70]
  exact ⟨bb, h0, by omega, by omega⟩
theorem gr_100 {R : Int32 → Int32 → St → Int32 × St} {c : Nat} (hR : GrS R c) (t x : Int32) (q : St) (bb : Nat) (h0 : q.2.2.1 = nI bb) : ∃ b1, (bodyS R t 100 x q).2.2.2.1 = nI b1 ∧ bb ≤ b1 ∧ b1 ≤ bb + 3 * c := by
  rw [bodyS_100]
  exact ⟨bb, h0, by omega, by omega⟩
theorem gr_101 {R : Int32 → Int32 → St → Int32 × St} {c : Nat} (hR : GrS R c) (t x : Int32) (q : St) (bb : Nat) (h0 : q.2.2.1 = nI bb) : ∃ b1, (bodyS R t 101 x q).2.2.2.1 = nI b1 ∧ bb ≤ b1 ∧ b1 ≤ bb + 3 * c := by
  rw [bodyS_101]
  obtain ⟨b1, h1, l1, u1⟩ := hR (selOfF selT (parentF 7) 9) (x + 2) q _ h0
  exact ⟨b1, h1, by omega, by omega⟩
theorem gr_110 {R : Int32 → Int32 → St → Int32 × St} {c : Nat} (hR : GrS R c) (t x : Int32) (q : St) (bb : Nat) (h0 : q.2.2.1 = nI bb) : ∃ b1, (bodyS R t 110 x q).2.2.2.1 = nI b1 ∧ bb ≤ b1 ∧ b1 ≤ bb + 3 * c := by
  rw [bodyS_110]
  obtain ⟨b1, h1, l1, u1⟩ := hR (selOfF selT (parentF 8) 10) x q _ h0
  obtain ⟨b2, h2, l2, u2⟩ := hR 112 x ((R (selOfF selT (parentF 8) 10) x q).2) _ h1
  exact ⟨b2, h2, by omega, by omega⟩
theorem gr_111 {R : Int32 → Int32 → St → Int32 × St} {c : Nat} (hR : GrS R c) (t x : Int32) (q : St) (bb : Nat) (h0 : q.2.2.1 = nI bb) : ∃ b1, (bodyS R t 111 x q).2.2.2.1 = nI b1 ∧ bb ≤ b1 ∧ b1 ≤ bb + 3 * c := by
  rw [bodyS_111]
  obtain ⟨b1, h1, l1, u1⟩ := hR (selOfF selT 3 4) x q _ h0
  exact ⟨b1, h1, by omega, by omega⟩
theorem gr_112 {R : Int32 → Int32 → St → Int32 × St} {c : Nat} (hR : GrS R c) (t x : Int32) (q : St) (bb : Nat) (h0 : q.2.2.1 = nI bb) : ∃ b1, (bodyS R t 112 x q).2.2.2.1 = nI b1 ∧ bb ≤ b1 ∧ b1 ≤ bb + 3 * c := by
  rw [bodyS_112]
  exact ⟨bb, h0, by omega, by omega⟩
theorem gr_120 {R : Int32 → Int32 → St → Int32 × St} {c : Nat} (hR : GrS R c) (t x : Int32) (q : St) (bb : Nat) (h0 : q.2.2.1 = nI bb) : ∃ b1, (bodyS R t 120 x q).2.2.2.1 = nI b1 ∧ bb ≤ b1 ∧ b1 ≤ bb + 3 * c := by
  rw [bodyS_120]
  obtain ⟨b1, h1, l1, u1⟩ := hR (selOfF selT t 5) x q _ h0
  exact ⟨b1, h1, by omega, by omega⟩
theorem gr_130 {R : Int32 → Int32 → St → Int32 × St} {c : Nat} (hR : GrS R c) (t x : Int32) (q : St) (bb : Nat) (h0 : q.2.2.1 = nI bb) : ∃ b1, (bodyS R t 130 x q).2.2.2.1 = nI b1 ∧ bb ≤ b1 ∧ b1 ≤ bb + 3 * c := by
  rw [bodyS_130]
  obtain ⟨b1, h1, l1, u1⟩ := hR (selOfF selT (parentF 10) 0) x q _ h0
  exact ⟨b1, h1, by omega, by omega⟩
theorem gr_131 {R : Int32 → Int32 → St → Int32 × St} {c : Nat} (hR : GrS R c) (t x : Int32) (q : St) (bb : Nat) (h0 : q.2.2.1 = nI bb) : ∃ b1, (bodyS R t 131 x q).2.2.2.1 = nI b1 ∧ bb ≤ b1 ∧ b1 ≤ bb + 3 * c := by
  rw [bodyS_131]
  obtain ⟨b1, h1, l1, u1⟩ := hR (selOfF selT (parentF 10) 1) (x + 1) q _ h0
  exact ⟨b1, h1, by omega, by omega⟩
theorem gr_140 {R : Int32 → Int32 → St → Int32 × St} {c : Nat} (hR : GrS R c) (t x : Int32) (q : St) (bb : Nat) (h0 : q.2.2.1 = nI bb) : ∃ b1, (bodyS R t 140 x q).2.2.2.1 = nI b1 ∧ bb ≤ b1 ∧ b1 ≤ bb + 3 * c := by
  rw [bodyS_140]
  exact ⟨bb, h0, by omega, by omega⟩
theorem gr_141 {R : Int32 → Int32 → St → Int32 × St} {c : Nat} (hR : GrS R c) (t x : Int32) (q : St) (bb : Nat) (h0 : q.2.2.1 = nI bb) : ∃ b1, (bodyS R t 141 x q).2.2.2.1 = nI b1 ∧ bb ≤ b1 ∧ b1 ≤ bb + 3 * c := by
  rw [bodyS_141]
  obtain ⟨b1, h1, l1, u1⟩ := hR (selOfF selT (parentF 11) 2) x q _ h0
  obtain ⟨b2, h2, l2, u2⟩ := hR (selOfF selT 2 2) 1 ((R (selOfF selT (parentF 11) 2) x q).2) _ h1
  exact ⟨b2, h2, by omega, by omega⟩
theorem gr_142 {R : Int32 → Int32 → St → Int32 × St} {c : Nat} (hR : GrS R c) (t x : Int32) (q : St) (bb : Nat) (h0 : q.2.2.1 = nI bb) : ∃ b1, (bodyS R t 142 x q).2.2.2.1 = nI b1 ∧ bb ≤ b1 ∧ b1 ≤ bb + 3 * c := by
  rw [bodyS_142]
  obtain ⟨b1, h1, l1, u1⟩ := hR (selOfF selT (parentF 11) 10) (x + 1) q _ h0
  exact ⟨b1, h1, by omega, by omega⟩
theorem gr_150 {R : Int32 → Int32 → St → Int32 × St} {c : Nat} (hR : GrS R c) (t x : Int32) (q : St) (bb : Nat) (h0 : q.2.2.1 = nI bb) : ∃ b1, (bodyS R t 150 x q).2.2.2.1 = nI b1 ∧ bb ≤ b1 ∧ b1 ≤ bb + 3 * c := by
  rw [bodyS_150]
  obtain ⟨b1, h1, l1, u1⟩ := hR (selOfF selT t 5) x q _ h0
  exact ⟨b1, h1, by omega, by omega⟩
theorem gr_151 {R : Int32 → Int32 → St → Int32 × St} {c : Nat} (hR : GrS R c) (t x : Int32) (q : St) (bb : Nat) (h0 : q.2.2.1 = nI bb) : ∃ b1, (bodyS R t 151 x q).2.2.2.1 = nI b1 ∧ bb ≤ b1 ∧ b1 ≤ bb + 3 * c := by
  rw [bodyS_151]
  obtain ⟨b1, h1, l1, u1⟩ := hR (selOfF selT (parentF 12) 9) x q _ h0
  obtain ⟨b2, h2, l2, u2⟩ := hR (selOfF selT t 2) 0 ((R (selOfF selT (parentF 12) 9) x q).2) _ h1
  exact ⟨b2, h2, by omega, by omega⟩
theorem gr_152 {R : Int32 → Int32 → St → Int32 × St} {c : Nat} (hR : GrS R c) (t x : Int32) (q : St) (bb : Nat) (h0 : q.2.2.1 = nI bb) : ∃ b1, (bodyS R t 152 x q).2.2.2.1 = nI b1 ∧ bb ≤ b1 ∧ b1 ≤ bb + 3 * c := by
  rw [bodyS_152]
  obtain ⟨b1, h1, l1, u1⟩ := hR (selOfF selT 4 4) x q _ h0
  exact ⟨b1, h1, by omega, by omega⟩
theorem gr_160 {R : Int32 → Int32 → St → Int32 × St} {c : Nat} (hR : GrS R c) (t x : Int32) (q : St) (bb : Nat) (h0 : q.2.2.1 = nI bb) : ∃ b1, (bodyS R t 160 x q).2.2.2.1 = nI b1 ∧ bb ≤ b1 ∧ b1 ≤ bb + 3 * c := by
  rw [bodyS_160]
  exact ⟨bb, h0, by omega, by omega⟩
theorem gr_161 {R : Int32 → Int32 → St → Int32 × St} {c : Nat} (hR : GrS R c) (t x : Int32) (q : St) (bb : Nat) (h0 : q.2.2.1 = nI bb) : ∃ b1, (bodyS R t 161 x q).2.2.2.1 = nI b1 ∧ bb ≤ b1 ∧ b1 ≤ bb + 3 * c := by
  rw [bodyS_161]
  obtain ⟨b1, h1, l1, u1⟩ := hR (selOfF selT 6 8) x q _ h0
  exact ⟨b1, h1, by omega, by omega⟩
theorem gr_162 {R : Int32 → Int32 → St → Int32 × St} {c : Nat} (hR : GrS R c) (t x : Int32) (q : St) (bb : Nat) (h0 : q.2.2.1 = nI bb) : ∃ b1, (bodyS R t 162 x q).2.2.2.1 = nI b1 ∧ bb ≤ b1 ∧ b1 ≤ bb + 3 * c := by
  rw [bodyS_162]
  exact ⟨bb, h0, by omega, by omega⟩
theorem gr_163 {R : Int32 → Int32 → St → Int32 × St} {c : Nat} (hR : GrS R c) (t x : Int32) (q : St) (bb : Nat) (h0 : q.2.2.1 = nI bb) : ∃ b1, (bodyS R t 163 x q).2.2.2.1 = nI b1 ∧ bb ≤ b1 ∧ b1 ≤ bb + 3 * c := by
  rw [bodyS_163]
  obtain ⟨b1, h1, l1, u1⟩ := hR 162 x q _ h0
  obtain ⟨b2, h2, l2, u2⟩ := hR (selOfF selT (parentF 13) 9) 1 ((R 162 x q).2) _ h1
  exact ⟨b2, h2, by omega, by omega⟩
theorem gr_180 {R : Int32 → Int32 → St → Int32 × St} {c : Nat} (hR : GrS R c) (t x : Int32) (q : St) (bb : Nat) (h0 : q.2.2.1 = nI bb) : ∃ b1, (bodyS R t 180 x q).2.2.2.1 = nI b1 ∧ bb ≤ b1 ∧ b1 ≤ bb + 3 * c := by
  rw [bodyS_180]
  obtain ⟨b1, h1, l1, u1⟩ := hR (selOfF selT (parentF 15) 9) x q _ h0
  exact ⟨b1, h1, by omega, by omega⟩
theorem gr_181 {R : Int32 → Int32 → St → Int32 × St} {c : Nat} (hR : GrS R c) (t x : Int32) (q : St) (bb : Nat) (h0 : q.2.2.1 = nI bb) : ∃ b1, (bodyS R t 181 x q).2.2.2.1 = nI b1 ∧ bb ≤ b1 ∧ b1 ≤ bb + 3 * c := by
  rw [bodyS_181]
  obtain ⟨b1, h1, l1, u1⟩ := hR (selOfF selT (parentF 15) 2) x q _ h0
  obtain ⟨b2, h2, l2, u2⟩ := hR (selOfF selT t 1) 2 ((R (selOfF selT (parentF 15) 2) x q).2) _ h1
  exact ⟨b2, h2, by omega, by omega⟩
theorem gr_190 {R : Int32 → Int32 → St → Int32 × St} {c : Nat} (hR : GrS R c) (t x : Int32) (q : St) (bb : Nat) (h0 : q.2.2.1 = nI bb) : ∃ b1, (bodyS R t 190 x q).2.2.2.1 = nI b1 ∧ bb ≤ b1 ∧ b1 ≤ bb + 3 * c := by
  rw [bodyS_190]
  obtain ⟨b1, h1, l1, u1⟩ := hR (selOfF selT t 10) x q _ h0
  exact ⟨b1, h1, by omega, by omega⟩
theorem gr_200 {R : Int32 → Int32 → St → Int32 × St} {c : Nat} (hR : GrS R c) (t x : Int32) (q : St) (bb : Nat) (h0 : q.2.2.1 = nI bb) : ∃ b1, (bodyS R t 200 x q).2.2.2.1 = nI b1 ∧ bb ≤ b1 ∧ b1 ≤ bb + 3 * c := by
  rw [bodyS_200]
  exact ⟨bb, h0, by omega, by omega⟩
theorem gr_201 {R : Int32 → Int32 → St → Int32 × St} {c : Nat} (hR : GrS R c) (t x : Int32) (q : St) (bb : Nat) (h0 : q.2.2.1 = nI bb) : ∃ b1, (bodyS R t 201 x q).2.2.2.1 = nI b1 ∧ bb ≤ b1 ∧ b1 ≤ bb + 3 * c := by
  rw [bodyS_201]
  obtain ⟨b1, h1, l1, u1⟩ := hR (selOfF selT 6 7) x q _ h0
  obtain ⟨b2, h2, l2, u2⟩ := hR 200 x ((R (selOfF selT 6 7) x q).2) _ h1
  exact ⟨b2, h2, by omega, by omega⟩
theorem gr_202 {R : Int32 → Int32 → St → Int32 × St} {c : Nat} (hR : GrS R c) (t x : Int32) (q : St) (bb : Nat) (h0 : q.2.2.1 = nI bb) : ∃ b1, (bodyS R t 202 x q).2.2.2.1 = nI b1 ∧ bb ≤ b1 ∧ b1 ≤ bb + 3 * c := by
  rw [bodyS_202]
  obtain ⟨b1, h1, l1, u1⟩ := hR (selOfF selT 4 2) x q _ h0
  obtain ⟨b2, h2, l2, u2⟩ := hR (selOfF selT (parentF 17) 2) x ((R (selOfF selT 4 2) x q).2) _ h1
  exact ⟨b2, h2, by omega, by omega⟩
theorem gr_204 {R : Int32 → Int32 → St → Int32 × St} {c : Nat} (hR : GrS R c) (t x : Int32) (q : St) (bb : Nat) (h0 : q.2.2.1 = nI bb) : ∃ b1, (bodyS R t 204 x q).2.2.2.1 = nI b1 ∧ bb ≤ b1 ∧ b1 ≤ bb + 3 * c := by
  rw [bodyS_204]
  obtain ⟨b1, h1, l1, u1⟩ := hR (selOfF selT (parentF 17) 5) x q _ h0
  exact ⟨b1, h1, by omega, by omega⟩
theorem gr_all {R : Int32 → Int32 → St → Int32 × St} {c : Nat} (hR : GrS R c) (t b x : Int32) (q : St) (bb : Nat) (h0 : q.2.2.1 = nI bb) : ∃ b1, (bodyS R t b x q).2.2.2.1 = nI b1 ∧ bb ≤ b1 ∧ b1 ≤ bb + 3 * c := by
  by_cases e10 : b = 10
  · subst e10; exact gr_10 hR t x q bb h0
  by_cases e11 : b = 11
  · subst e11; exact gr_11 hR t x q bb h0
  by_cases e20 : b = 20
  · subst e20; exact gr_20 hR t x q bb h0
  by_cases e21 : b = 21
  · subst e21; exact gr_21 hR t x q bb h0
  by_cases e30 : b = 30
  · subst e30; exact gr_30 hR t x q bb h0
  by_cases e40 : b = 40
  · subst e40; exact gr_40 hR t x q bb h0
  by_cases e41 : b = 41
  · subst e41; exact gr_41 hR t x q bb h0
  by_cases e50 : b = 50
  · subst e50; exact gr_50 hR t x q bb h0
  by_cases e51 : b = 51
  · subst e51; exact gr_51 hR t x q bb h0
  by_cases e52 : b = 52
  · subst e52; exact gr_52 hR t x q bb h0
  by_cases e60 : b = 60
  · subst e60; exact gr_60 hR t x q bb h0
  by_cases e61 : b = 61
  · subst e61; exact gr_61 hR t x q bb h0
  by_cases e62 : b = 62
  · subst e62; exact gr_62 hR t x q bb h0
  by_cases e63 : b = 63
  · subst e63; exact gr_63 hR t x q bb h0
  by_cases e64 : b = 64
  · subst e64; exact gr_64 hR t x q bb h0
  by_cases e70 : b = 70
  · subst e70; exact gr_70 hR t x q bb h0
  by_cases e100 : b = 100
  · subst e100; exact gr_100 hR t x q bb h0
  by_cases e101 : b = 101
  · subst e101; exact gr_101 hR t x q bb h0
  by_cases e110 : b = 110
  · subst e110; exact gr_110 hR t x q bb h0
  by_cases e111 : b = 111
  · subst e111; exact gr_111 hR t x q bb h0
  by_cases e112 : b = 112
  · subst e112; exact gr_112 hR t x q bb h0
  by_cases e120 : b = 120
  · subst e120; exact gr_120 hR t x q bb h0
  by_cases e130 : b = 130
  · subst e130; exact gr_130 hR t x q bb h0
  by_cases e131 : b = 131
  · subst e131; exact gr_131 hR t x q bb h0
  by_cases e140 : b = 140
  · subst e140; exact gr_140 hR t x q bb h0
  by_cases e141 : b = 141
  · subst e141; exact gr_141 hR t x q bb h0
  by_cases e142 : b = 142
  · subst e142; exact gr_142 hR t x q bb h0
  by_cases e150 : b = 150
  · subst e150; exact gr_150 hR t x q bb h0
  by_cases e151 : b = 151
  · subst e151; exact gr_151 hR t x q bb h0
  by_cases e152 : b = 152
  · subst e152; exact gr_152 hR t x q bb h0
  by_cases e160 : b = 160
  · subst e160; exact gr_160 hR t x q bb h0
  by_cases e161 : b = 161
  · subst e161; exact gr_161 hR t x q bb h0
  by_cases e162 : b = 162
  · subst e162; exact gr_162 hR t x q bb h0
  by_cases e163 : b = 163
  · subst e163; exact gr_163 hR t x q bb h0
  by_cases e180 : b = 180
  · subst e180; exact gr_180 hR t x q bb h0
  by_cases e181 : b = 181
  · subst e181; exact gr_181 hR t x q bb h0
  by_cases e190 : b = 190
  · subst e190; exact gr_190 hR t x q bb h0
  by_cases e200 : b = 200
  · subst e200; exact gr_200 hR t x q bb h0
  by_cases e201 : b = 201
  · subst e201; exact gr_201 hR t x q bb h0
  by_cases e202 : b = 202
  · subst e202; exact gr_202 hR t x q bb h0
  by_cases e204 : b = 204
  · subst e204; exact gr_204 hR t x q bb h0
  unfold bodyS
  rw [if_neg e10, if_neg e11, if_neg e20, if_neg e21, if_neg e30, if_neg e40, if_neg e41, if_neg e50, if_neg e51, if_neg e52, if_neg e60, if_neg e61, if_neg e62, if_neg e63, if_neg e64, if_neg e70, if_neg e100, if_neg e101, if_neg e110, if_neg e111, if_neg e112, if_neg e120, if_neg e130, if_neg e131, if_neg e140, if_neg e141, if_neg e142, if_neg e150, if_neg e151, if_neg e152, if_neg e160, if_neg e161, if_neg e162, if_neg e163, if_neg e180, if_neg e181, if_neg e190, if_neg e200, if_neg e201, if_neg e202, if_neg e204]
  exact ⟨bb, h0, Nat.le_refl _, by omega⟩
theorem gr_run (t : Int32) : ∀ n, GrS (runS n t) (cB n)
  | 0 => fun b x q bb h => ⟨bb, h, Nat.le_refl _, by show bb ≤ bb + 0; omega⟩
  | n + 1 => fun b x q bb h => by
    have ih := gr_run t n
    rw [runS]
    by_cases e : b = 0
    · rw [if_pos e]; exact ⟨bb, h, Nat.le_refl _, by omega⟩
    · rw [if_neg e]
      obtain ⟨b1, h1, l1, u1⟩ := gr_all ih t b x (bgS b q) (bb + 1) (by show q.2.2.1 + 1 = nI (bb + 1); rw [h, nI_1])
      exact ⟨b1, h1, by omega, by show b1 ≤ bb + (1 + 3 * cB n); omega⟩
