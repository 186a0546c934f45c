/-! a pulse, on the class's side -/
abbrev P2 : Type := AS × TS × (Nat → Nat) × Nat
def takP (ty : Nat → Int32) (pl : Int32) (i : Nat) (x : Int32) (P : P2) : P2 :=
  ((actD ty i (takActF (ty i)) x P.1).2, (upd P.2.1.1 i (P.2.1.1 i + 1), upd P.2.1.2.1 i pl, upd P.2.1.2.2 i (actD ty i (takActF (ty i)) x P.1).1), va_up P.2.2.1 P.2.2.2 i, P.2.2.2 + 1)
def pnL (ty : Nat → Int32) (pl : Int32) (L : LS4) (i : Nat) : Nat → Nat → P2 → P2
  | 0, _, P => P
  | rem + 1, l, P => if L.2.1 l = i then (if P.2.1.2.1 (L.2.2 l) = pl then pnL ty pl L i rem (l + 1) P else pnL ty pl L i rem (l + 1) (takP ty pl (L.2.2 l) (P.2.1.2.2 i) P)) else pnL ty pl L i rem (l + 1) P
def psL (ty : Nat → Int32) (pl : Int32) (L : LS4) : Nat → Nat → P2 → P2
  | 0, _, P => P
  | rem + 1, k, P => if k < P.2.2.2 then psL ty pl L rem (k + 1) (pnL ty pl L (P.2.2.1 k) L.1 0 P) else P
def psR (ty : Nat → Int32) (pl : Int32) (n : Nat) (L : LS4) (i : Nat) (x : Int32) (A : AS) (T : TS) : P2 := psL ty pl L (n + 1) 0 (takP ty pl i x (clrA A, T, (fun _ => 0), 0))
def RCP (fr : Nat → Option va_E) (G : hG) (ad : Nat → Nat) (ct : Nat → Option va_E) (n : Nat) (ty : Nat → Int32) (L : LS4) (pl st : Int32) (P : P2) : Prop :=
  ∃ tkr : Nat → Option Nat, RC fr G ad ct n ty P.1 P.2.1 L (tkr, nI P.2.2.2, pl) st ∧ ∀ k, k < P.2.2.2 → tkr k = some (ad (100 + 2 * P.2.2.1 k))
def PI (n : Nat) (pl : Int32) (P : P2) : Prop := (∀ k, k < P.2.2.2 → P.2.2.1 k < n ∧ P.2.1.2.1 (P.2.2.1 k) = pl) ∧ ∀ j k, j < P.2.2.2 → k < P.2.2.2 → P.2.2.1 j = P.2.2.1 k → j = k
theorem inj_le : ∀ (n c : Nat) (r : Nat → Nat), (∀ k, k < c → r k < n) → (∀ j k, j < c → k < c → r j = r k → j = k) → c ≤ n
  | 0, c, r, h, _ => by
    rcases Nat.eq_zero_or_pos c with h0 | h0
    · omega
    · exact absurd (h 0 h0) (by omega)
  | n + 1, c, r, h, hi => by
    by_cases hex : ∃ k, k < c ∧ r k = n
    · obtain ⟨k, hk, hkn⟩ := hex
      have ih := inj_le n (c - 1) (fun j => if j = k then r (c - 1) else r j) (fun j hj => by
        show (if j = k then r (c - 1) else r j) < n
        by_cases e : j = k
        · rw [if_pos e]
          have h1 := h (c - 1) (by omega)
          have h2 : r (c - 1) ≠ n := fun q => by
            have := hi (c - 1) k (by omega) hk (q.trans hkn.symm)
            omega
          omega
        · rw [if_neg e]
          have h1 := h j (by omega)
          have h2 : r j ≠ n := fun q => e (hi j k (by omega) hk (q.trans hkn.symm))
          omega) (fun a b ha hb hab => by
        have hab' : (if a = k then r (c - 1) else r a) = (if b = k then r (c - 1) else r b) := hab
        by_cases e1 : a = k
        · by_cases e2 : b = k
          · rw [e1, e2]
          · rw [if_pos e1, if_neg e2] at hab'
            have := hi (c - 1) b (by omega) (by omega) hab'
            omega
        · by_cases e2 : b = k
          · rw [if_neg e1, if_pos e2] at hab'
            have := hi a (c - 1) (by omega) (by omega) hab'
            omega
          · rw [if_neg e1, if_neg e2] at hab'
            exact hi a b (by omega) (by omega) hab')
      omega
    · have ih := inj_le n c r (fun k hk => by
        have h1 := h k hk
        have h2 : r k ≠ n := fun q => hex ⟨k, hk, q⟩
        omega) hi
      omega
theorem PI_le {n : Nat} {pl : Int32} {P : P2} (h : PI n pl P) : P.2.2.2 ≤ n := inj_le n _ P.2.2.1 (fun k hk => (h.1 k hk).1) h.2
theorem PI_lt {n d : Nat} {pl : Int32} {P : P2} (h : PI n pl P) (hd : d < n) (hne : ¬ P.2.1.2.1 d = pl) : P.2.2.2 < n := by
  have hx : ∀ k, k < P.2.2.2 → P.2.2.1 k ≠ d := fun k hk q => hne (q ▸ (h.1 k hk).2)
  have := inj_le n (P.2.2.2 + 1) (va_up P.2.2.1 P.2.2.2 d) (fun k hk => by
    by_cases e : k = P.2.2.2
    · rw [e, va_up_self]; exact hd
    · rw [va_up_ne _ _ e]; exact (h.1 k (by omega)).1) (fun a b ha hb hab => by
    by_cases e1 : a = P.2.2.2
    · by_cases e2 : b = P.2.2.2
      · rw [e1, e2]
      · rw [e1, va_up_self, va_up_ne _ _ e2] at hab
        exact absurd hab.symm (hx b (by omega))
    · by_cases e2 : b = P.2.2.2
      · rw [e2, va_up_self, va_up_ne _ _ e1] at hab
        exact absurd hab (hx a (by omega))
      · rw [va_up_ne _ _ e1, va_up_ne _ _ e2] at hab
        exact h.2 a b (by omega) (by omega) hab)
  omega
theorem PI_tak {n d : Nat} {pl x : Int32} {ty : Nat → Int32} {P : P2} (h : PI n pl P) (hd : d < n) (hne : P.2.2.2 = 0 ∨ ¬ P.2.1.2.1 d = pl) : PI n pl (takP ty pl d x P) := by
  have hx : ∀ k, k < P.2.2.2 → P.2.2.1 k ≠ d := fun k hk q => hne.elim (fun z => by omega) (fun z => z (q ▸ (h.1 k hk).2))
  refine ⟨fun k hk => ?_, fun a b ha hb hab => ?_⟩
  · have hk' : k < P.2.2.2 + 1 := hk
    show va_up P.2.2.1 P.2.2.2 d k < n ∧ upd P.2.1.2.1 d pl (va_up P.2.2.1 P.2.2.2 d k) = pl
    by_cases e : k = P.2.2.2
    · rw [e, va_up_self]; exact ⟨hd, pk_us⟩
    · rw [va_up_ne _ _ e, pk_un (hx k (by omega))]; exact h.1 k (by omega)
  · have ha' : a < P.2.2.2 + 1 := ha
    have hb' : b < P.2.2.2 + 1 := hb
    have hab : va_up P.2.2.1 P.2.2.2 d a = va_up P.2.2.1 P.2.2.2 d b := hab
    by_cases e1 : a = P.2.2.2
    · by_cases e2 : b = P.2.2.2
      · rw [e1, e2]
      · rw [e1, va_up_self, va_up_ne _ _ e2] at hab
        exact absurd hab.symm (hx b (by omega))
    · by_cases e2 : b = P.2.2.2
      · rw [e2, va_up_self, va_up_ne _ _ e1] at hab
        exact absurd hab (hx a (by omega))
      · rw [va_up_ne _ _ e1, va_up_ne _ _ e2] at hab
        exact h.2 a b (by omega) (by omega) hab
theorem PI_pn {n : Nat} {pl : Int32} {ty : Nat → Int32} {L : LS4} {i : Nat} (hft : ∀ j, j < L.1 → L.2.1 j < n ∧ L.2.2 j < n) : ∀ rem l (P : P2), l + rem = L.1 → PI n pl P → PI n pl (pnL ty pl L i rem l P)
  | 0, _, P, _, h => h
  | rem + 1, l, P, hl, h => by
    rw [pnL]
    by_cases e1 : L.2.1 l = i
    · rw [if_pos e1]
      by_cases e2 : P.2.1.2.1 (L.2.2 l) = pl
      · rw [if_pos e2]; exact PI_pn hft rem (l + 1) P (by omega) h
      · rw [if_neg e2]; exact PI_pn hft rem (l + 1) _ (by omega) (PI_tak h (hft l (by omega)).2 (Or.inr e2))
    · rw [if_neg e1]; exact PI_pn hft rem (l + 1) P (by omega) h
theorem tkr_up {ad : Nat → Nat} {tkr : Nat → Option Nat} {row : Nat → Nat} {c i : Nat} (h : ∀ k, k < c → tkr k = some (ad (100 + 2 * row k))) : ∀ k, k < c + 1 → va_up tkr c (some (ad (100 + 2 * i))) k = some (ad (100 + 2 * va_up row c i k)) := by
  intro k hk
  by_cases e : k = c
  · rw [e, va_up_self, va_up_self]
  · rw [va_up_ne _ _ e, va_up_ne _ _ e]; exact h k (by omega)
section LVQ
variable {p : Program} {l : Launch} {e : Env} {R : Room} {s : State} {m : MethodId} {args : Array Value} {below : List Frame} {meth : Method} {c : Code} {H : Heap} {locs : List Loc} {cells slots : Nat} {Q : State → Prop}
variable {cc : ByteArray} {pc : Nat} {ls : Array Slot} {rest : List Value}
theorem lv_astore_nq (hexec : p.tables.exec = Jvm.exec) (hb : c.code = cc) {k : Fin 4} {i nL : Nat} {v : Option Nat} {lv lv' : List (Nat × Value)} (hdg : decode cc pc = .ok (.astore_n k, 1)) (hi : (k : Nat) = i) (h : lv_has ls nL lv) (hn : i < nL) (hl : (i, va_rf v) :: lv.filter (fun q => !(q.1 == i) && !(q.1 + 1 == i && q.2.category == 2)) = lv')
    (kk : ∀ ls' : Array Slot, lv_has ls' nL lv' → W p l e R s m args below meth c H locs cells slots Q (F0 m (pc + 1) ls' rest)) : W p l e R s m args below meth c H locs cells slots Q (F0 m pc ls (va_rf v :: rest)) := by
  cases v with
  | none => exact lv_astore_nN hexec hb hdg hi h hn hl kk
  | some a => exact lv_astore_n hexec hb hdg hi h hn hl kk
end LVQ
