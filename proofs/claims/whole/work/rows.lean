section
-- ===== PART A: goes FIRST, ahead of the names: the tables' words, and 'selects' of the private methods out of them =====
/-- a private method of a class that the tables say can be made, by its rows of tables_1 -/
def lw_okq (q : MethodName × Nat) : Prop := (q.1.cls ≠ "java/lang/invoke/MethodHandle" ∧ q.1.cls ≠ "java/lang/invoke/VarHandle") ∧ Cond.instantiable q.1.cls q.2 ∈ tables_1 ∧ Cond.privateMethod q.1 ∈ tables_1 ∧ Cond.instanceMethod q.1 ∈ tables_1
theorem lw_p0 : lw_okq (⟨"LineOfHeirs", "find", "(I)LLineOfHeirs$Device;"⟩, 9) := ⟨⟨by decide +kernel, by decide +kernel⟩, List.mem_of_getElem? (i := 8) (by decide +kernel), List.mem_of_getElem? (i := 167) (by decide +kernel), List.mem_of_getElem? (i := 168) (by decide +kernel)⟩
theorem lw_p1 : lw_okq (⟨"LineOfHeirs$Device", "bears", "(I)Z"⟩, 12) := ⟨⟨by decide +kernel, by decide +kernel⟩, List.mem_of_getElem? (i := 116) (by decide +kernel), List.mem_of_getElem? (i := 178) (by decide +kernel), List.mem_of_getElem? (i := 179) (by decide +kernel)⟩
theorem lw_p2 : lw_okq (⟨"LineOfHeirs$Heritage", "bears", "(II)Z"⟩, 2) := ⟨⟨by decide +kernel, by decide +kernel⟩, List.mem_of_getElem? (i := 16) (by decide +kernel), List.mem_of_getElem? (i := 182) (by decide +kernel), List.mem_of_getElem? (i := 183) (by decide +kernel)⟩
theorem lw_p3 : lw_okq (⟨"LineOfHeirs$Device", "hasAct", "(II)Z"⟩, 12) := ⟨⟨by decide +kernel, by decide +kernel⟩, List.mem_of_getElem? (i := 116) (by decide +kernel), List.mem_of_getElem? (i := 187) (by decide +kernel), List.mem_of_getElem? (i := 188) (by decide +kernel)⟩
theorem lw_p4 : lw_okq (⟨"LineOfHeirs$Heritage", "kindHasAct", "(II)Z"⟩, 2) := ⟨⟨by decide +kernel, by decide +kernel⟩, List.mem_of_getElem? (i := 16) (by decide +kernel), List.mem_of_getElem? (i := 191) (by decide +kernel), List.mem_of_getElem? (i := 192) (by decide +kernel)⟩
theorem lw_p5 : lw_okq (⟨"LineOfHeirs$Heritage", "hasAct", "(II)Z"⟩, 2) := ⟨⟨by decide +kernel, by decide +kernel⟩, List.mem_of_getElem? (i := 16) (by decide +kernel), List.mem_of_getElem? (i := 196) (by decide +kernel), List.mem_of_getElem? (i := 197) (by decide +kernel)⟩
theorem lw_p6 : lw_okq (⟨"LineOfHeirs$Trail", "clear", "()V"⟩, 2) := ⟨⟨by decide +kernel, by decide +kernel⟩, List.mem_of_getElem? (i := 69) (by decide +kernel), List.mem_of_getElem? (i := 203) (by decide +kernel), List.mem_of_getElem? (i := 204) (by decide +kernel)⟩
theorem lw_p7 : lw_okq (⟨"LineOfHeirs$Device", "answer", "(II)I"⟩, 12) := ⟨⟨by decide +kernel, by decide +kernel⟩, List.mem_of_getElem? (i := 116) (by decide +kernel), List.mem_of_getElem? (i := 207) (by decide +kernel), List.mem_of_getElem? (i := 208) (by decide +kernel)⟩
theorem lw_p8 : lw_okq (⟨"LineOfHeirs$Device", "act", "(III)I"⟩, 12) := ⟨⟨by decide +kernel, by decide +kernel⟩, List.mem_of_getElem? (i := 116) (by decide +kernel), List.mem_of_getElem? (i := 211) (by decide +kernel), List.mem_of_getElem? (i := 212) (by decide +kernel)⟩
theorem lw_p9 : lw_okq (⟨"LineOfHeirs$Heritage", "selectedOf", "(II)I"⟩, 2) := ⟨⟨by decide +kernel, by decide +kernel⟩, List.mem_of_getElem? (i := 16) (by decide +kernel), List.mem_of_getElem? (i := 215) (by decide +kernel), List.mem_of_getElem? (i := 216) (by decide +kernel)⟩
theorem lw_p10 : lw_okq (⟨"LineOfHeirs$Device", "run", "(III)I"⟩, 12) := ⟨⟨by decide +kernel, by decide +kernel⟩, List.mem_of_getElem? (i := 116) (by decide +kernel), List.mem_of_getElem? (i := 219) (by decide +kernel), List.mem_of_getElem? (i := 220) (by decide +kernel)⟩
theorem lw_p11 : lw_okq (⟨"LineOfHeirs$Trail", "begin", "(I)V"⟩, 2) := ⟨⟨by decide +kernel, by decide +kernel⟩, List.mem_of_getElem? (i := 69) (by decide +kernel), List.mem_of_getElem? (i := 223) (by decide +kernel), List.mem_of_getElem? (i := 224) (by decide +kernel)⟩
theorem lw_p12 : lw_okq (⟨"LineOfHeirs$Device", "runOfInterface", "(III)I"⟩, 12) := ⟨⟨by decide +kernel, by decide +kernel⟩, List.mem_of_getElem? (i := 116) (by decide +kernel), List.mem_of_getElem? (i := 227) (by decide +kernel), List.mem_of_getElem? (i := 228) (by decide +kernel)⟩
theorem lw_p13 : lw_okq (⟨"LineOfHeirs$Device", "interfaceAct", "(IIII)I"⟩, 12) := ⟨⟨by decide +kernel, by decide +kernel⟩, List.mem_of_getElem? (i := 116) (by decide +kernel), List.mem_of_getElem? (i := 231) (by decide +kernel), List.mem_of_getElem? (i := 232) (by decide +kernel)⟩
theorem lw_p14 : lw_okq (⟨"LineOfHeirs$Device", "runOfAncestor", "(III)I"⟩, 12) := ⟨⟨by decide +kernel, by decide +kernel⟩, List.mem_of_getElem? (i := 116) (by decide +kernel), List.mem_of_getElem? (i := 235) (by decide +kernel), List.mem_of_getElem? (i := 236) (by decide +kernel)⟩
theorem lw_p15 : lw_okq (⟨"LineOfHeirs$Device", "runOfEarlierKind", "(III)I"⟩, 12) := ⟨⟨by decide +kernel, by decide +kernel⟩, List.mem_of_getElem? (i := 116) (by decide +kernel), List.mem_of_getElem? (i := 239) (by decide +kernel), List.mem_of_getElem? (i := 240) (by decide +kernel)⟩
def lw_privs_1 : List (MethodName × Nat) := [(⟨"LineOfHeirs", "find", "(I)LLineOfHeirs$Device;"⟩, 9), (⟨"LineOfHeirs$Device", "bears", "(I)Z"⟩, 12), (⟨"LineOfHeirs$Heritage", "bears", "(II)Z"⟩, 2), (⟨"LineOfHeirs$Device", "hasAct", "(II)Z"⟩, 12), (⟨"LineOfHeirs$Heritage", "kindHasAct", "(II)Z"⟩, 2), (⟨"LineOfHeirs$Heritage", "hasAct", "(II)Z"⟩, 2), (⟨"LineOfHeirs$Trail", "clear", "()V"⟩, 2), (⟨"LineOfHeirs$Device", "answer", "(II)I"⟩, 12), (⟨"LineOfHeirs$Device", "act", "(III)I"⟩, 12), (⟨"LineOfHeirs$Heritage", "selectedOf", "(II)I"⟩, 2), (⟨"LineOfHeirs$Device", "run", "(III)I"⟩, 12), (⟨"LineOfHeirs$Trail", "begin", "(I)V"⟩, 2), (⟨"LineOfHeirs$Device", "runOfInterface", "(III)I"⟩, 12), (⟨"LineOfHeirs$Device", "interfaceAct", "(IIII)I"⟩, 12), (⟨"LineOfHeirs$Device", "runOfAncestor", "(III)I"⟩, 12), (⟨"LineOfHeirs$Device", "runOfEarlierKind", "(III)I"⟩, 12)]
theorem lw_r1 : ∀ q ∈ lw_privs_1, lw_okq q := List.forall_mem_cons.mpr ⟨lw_p0, List.forall_mem_cons.mpr ⟨lw_p1, List.forall_mem_cons.mpr ⟨lw_p2, List.forall_mem_cons.mpr ⟨lw_p3, List.forall_mem_cons.mpr ⟨lw_p4, List.forall_mem_cons.mpr ⟨lw_p5, List.forall_mem_cons.mpr ⟨lw_p6, List.forall_mem_cons.mpr ⟨lw_p7, List.forall_mem_cons.mpr ⟨lw_p8, List.forall_mem_cons.mpr ⟨lw_p9, List.forall_mem_cons.mpr ⟨lw_p10, List.forall_mem_cons.mpr ⟨lw_p11, List.forall_mem_cons.mpr ⟨lw_p12, List.forall_mem_cons.mpr ⟨lw_p13, List.forall_mem_cons.mpr ⟨lw_p14, List.forall_mem_cons.mpr ⟨lw_p15, fun _ h => absurd h List.not_mem_nil⟩⟩⟩⟩⟩⟩⟩⟩⟩⟩⟩⟩⟩⟩⟩⟩
theorem lw_p16 : lw_okq (⟨"LineOfHeirs$Device", "parentAct", "(IIII)I"⟩, 12) := ⟨⟨by decide +kernel, by decide +kernel⟩, List.mem_of_getElem? (i := 116) (by decide +kernel), List.mem_of_getElem? (i := 243) (by decide +kernel), List.mem_of_getElem? (i := 244) (by decide +kernel)⟩
theorem lw_p17 : lw_okq (⟨"LineOfHeirs$Device", "runOfLaterKind", "(III)I"⟩, 12) := ⟨⟨by decide +kernel, by decide +kernel⟩, List.mem_of_getElem? (i := 116) (by decide +kernel), List.mem_of_getElem? (i := 248) (by decide +kernel), List.mem_of_getElem? (i := 249) (by decide +kernel)⟩
theorem lw_p18 : lw_okq (⟨"LineOfHeirs", "refusalOfAll", "(II)I"⟩, 9) := ⟨⟨by decide +kernel, by decide +kernel⟩, List.mem_of_getElem? (i := 8) (by decide +kernel), List.mem_of_getElem? (i := 256) (by decide +kernel), List.mem_of_getElem? (i := 257) (by decide +kernel)⟩
theorem lw_p19 : lw_okq (⟨"LineOfHeirs$Device", "addLink", "(LLineOfHeirs$Link;)V"⟩, 12) := ⟨⟨by decide +kernel, by decide +kernel⟩, List.mem_of_getElem? (i := 116) (by decide +kernel), List.mem_of_getElem? (i := 287) (by decide +kernel), List.mem_of_getElem? (i := 288) (by decide +kernel)⟩
theorem lw_p20 : lw_okq (⟨"LineOfHeirs", "letTake", "(LLineOfHeirs$Device;I)V"⟩, 9) := ⟨⟨by decide +kernel, by decide +kernel⟩, List.mem_of_getElem? (i := 8) (by decide +kernel), List.mem_of_getElem? (i := 295) (by decide +kernel), List.mem_of_getElem? (i := 296) (by decide +kernel)⟩
theorem lw_p21 : lw_okq (⟨"LineOfHeirs$Device", "take", "(II)V"⟩, 12) := ⟨⟨by decide +kernel, by decide +kernel⟩, List.mem_of_getElem? (i := 116) (by decide +kernel), List.mem_of_getElem? (i := 299) (by decide +kernel), List.mem_of_getElem? (i := 300) (by decide +kernel)⟩
theorem lw_p22 : lw_okq (⟨"LineOfHeirs$Device", "takingAct", "()I"⟩, 12) := ⟨⟨by decide +kernel, by decide +kernel⟩, List.mem_of_getElem? (i := 116) (by decide +kernel), List.mem_of_getElem? (i := 303) (by decide +kernel), List.mem_of_getElem? (i := 304) (by decide +kernel)⟩
theorem lw_p23 : lw_okq (⟨"LineOfHeirs", "passOn", "(LLineOfHeirs$Device;)V"⟩, 9) := ⟨⟨by decide +kernel, by decide +kernel⟩, List.mem_of_getElem? (i := 8) (by decide +kernel), List.mem_of_getElem? (i := 308) (by decide +kernel), List.mem_of_getElem? (i := 309) (by decide +kernel)⟩
theorem lw_p24 : lw_okq (⟨"LineOfHeirs$Trail", "keptAt", "(I)I"⟩, 2) := ⟨⟨by decide +kernel, by decide +kernel⟩, List.mem_of_getElem? (i := 69) (by decide +kernel), List.mem_of_getElem? (i := 320) (by decide +kernel), List.mem_of_getElem? (i := 321) (by decide +kernel)⟩
theorem lw_p25 : lw_okq (⟨"LineOfHeirs$Device", "fact", "(I)I"⟩, 12) := ⟨⟨by decide +kernel, by decide +kernel⟩, List.mem_of_getElem? (i := 116) (by decide +kernel), List.mem_of_getElem? (i := 332) (by decide +kernel), List.mem_of_getElem? (i := 333) (by decide +kernel)⟩
theorem lw_p26 : lw_okq (⟨"LineOfHeirs", "countBearers", "(I)I"⟩, 9) := ⟨⟨by decide +kernel, by decide +kernel⟩, List.mem_of_getElem? (i := 8) (by decide +kernel), List.mem_of_getElem? (i := 340) (by decide +kernel), List.mem_of_getElem? (i := 341) (by decide +kernel)⟩
theorem lw_p27 : lw_okq (⟨"LineOfHeirsModel", "have", "(III)V"⟩, 28) := ⟨⟨by decide +kernel, by decide +kernel⟩, List.mem_of_getElem? (i := 348) (by decide +kernel), List.mem_of_getElem? (i := 354) (by decide +kernel), List.mem_of_getElem? (i := 355) (by decide +kernel)⟩
theorem lw_p28 : lw_okq (⟨"LineOfHeirsModel", "heir", "(III)V"⟩, 28) := ⟨⟨by decide +kernel, by decide +kernel⟩, List.mem_of_getElem? (i := 348) (by decide +kernel), List.mem_of_getElem? (i := 358) (by decide +kernel), List.mem_of_getElem? (i := 359) (by decide +kernel)⟩
theorem lw_p29 : lw_okq (⟨"LineOfHeirsModel", "lowest", "(II)I"⟩, 28) := ⟨⟨by decide +kernel, by decide +kernel⟩, List.mem_of_getElem? (i := 348) (by decide +kernel), List.mem_of_getElem? (i := 368) (by decide +kernel), List.mem_of_getElem? (i := 369) (by decide +kernel)⟩
theorem lw_p30 : lw_okq (⟨"LineOfHeirsModel", "select", "(II)I"⟩, 28) := ⟨⟨by decide +kernel, by decide +kernel⟩, List.mem_of_getElem? (i := 348) (by decide +kernel), List.mem_of_getElem? (i := 372) (by decide +kernel), List.mem_of_getElem? (i := 373) (by decide +kernel)⟩
theorem lw_p31 : lw_okq (⟨"LineOfHeirsModel", "why", "(III)I"⟩, 28) := ⟨⟨by decide +kernel, by decide +kernel⟩, List.mem_of_getElem? (i := 348) (by decide +kernel), List.mem_of_getElem? (i := 470) (by decide +kernel), List.mem_of_getElem? (i := 471) (by decide +kernel)⟩
def lw_privs_2 : List (MethodName × Nat) := [(⟨"LineOfHeirs$Device", "parentAct", "(IIII)I"⟩, 12), (⟨"LineOfHeirs$Device", "runOfLaterKind", "(III)I"⟩, 12), (⟨"LineOfHeirs", "refusalOfAll", "(II)I"⟩, 9), (⟨"LineOfHeirs$Device", "addLink", "(LLineOfHeirs$Link;)V"⟩, 12), (⟨"LineOfHeirs", "letTake", "(LLineOfHeirs$Device;I)V"⟩, 9), (⟨"LineOfHeirs$Device", "take", "(II)V"⟩, 12), (⟨"LineOfHeirs$Device", "takingAct", "()I"⟩, 12), (⟨"LineOfHeirs", "passOn", "(LLineOfHeirs$Device;)V"⟩, 9), (⟨"LineOfHeirs$Trail", "keptAt", "(I)I"⟩, 2), (⟨"LineOfHeirs$Device", "fact", "(I)I"⟩, 12), (⟨"LineOfHeirs", "countBearers", "(I)I"⟩, 9), (⟨"LineOfHeirsModel", "have", "(III)V"⟩, 28), (⟨"LineOfHeirsModel", "heir", "(III)V"⟩, 28), (⟨"LineOfHeirsModel", "lowest", "(II)I"⟩, 28), (⟨"LineOfHeirsModel", "select", "(II)I"⟩, 28), (⟨"LineOfHeirsModel", "why", "(III)I"⟩, 28)]
theorem lw_r2 : ∀ q ∈ lw_privs_2, lw_okq q := List.forall_mem_cons.mpr ⟨lw_p16, List.forall_mem_cons.mpr ⟨lw_p17, List.forall_mem_cons.mpr ⟨lw_p18, List.forall_mem_cons.mpr ⟨lw_p19, List.forall_mem_cons.mpr ⟨lw_p20, List.forall_mem_cons.mpr ⟨lw_p21, List.forall_mem_cons.mpr ⟨lw_p22, List.forall_mem_cons.mpr ⟨lw_p23, List.forall_mem_cons.mpr ⟨lw_p24, List.forall_mem_cons.mpr ⟨lw_p25, List.forall_mem_cons.mpr ⟨lw_p26, List.forall_mem_cons.mpr ⟨lw_p27, List.forall_mem_cons.mpr ⟨lw_p28, List.forall_mem_cons.mpr ⟨lw_p29, List.forall_mem_cons.mpr ⟨lw_p30, List.forall_mem_cons.mpr ⟨lw_p31, fun _ h => absurd h List.not_mem_nil⟩⟩⟩⟩⟩⟩⟩⟩⟩⟩⟩⟩⟩⟩⟩⟩
theorem lw_p32 : lw_okq (⟨"LineOfHeirsModel", "isDevice", "(I)Z"⟩, 28) := ⟨⟨by decide +kernel, by decide +kernel⟩, List.mem_of_getElem? (i := 348) (by decide +kernel), List.mem_of_getElem? (i := 474) (by decide +kernel), List.mem_of_getElem? (i := 475) (by decide +kernel)⟩
theorem lw_p33 : lw_okq (⟨"LineOfHeirsModel", "isAble", "(II)Z"⟩, 28) := ⟨⟨by decide +kernel, by decide +kernel⟩, List.mem_of_getElem? (i := 348) (by decide +kernel), List.mem_of_getElem? (i := 484) (by decide +kernel), List.mem_of_getElem? (i := 485) (by decide +kernel)⟩
theorem lw_p34 : lw_okq (⟨"LineOfHeirsModel", "isOf", "(III)Z"⟩, 28) := ⟨⟨by decide +kernel, by decide +kernel⟩, List.mem_of_getElem? (i := 348) (by decide +kernel), List.mem_of_getElem? (i := 488) (by decide +kernel), List.mem_of_getElem? (i := 489) (by decide +kernel)⟩
theorem lw_p35 : lw_okq (⟨"LineOfHeirsModel", "refused", "(I)I"⟩, 28) := ⟨⟨by decide +kernel, by decide +kernel⟩, List.mem_of_getElem? (i := 348) (by decide +kernel), List.mem_of_getElem? (i := 492) (by decide +kernel), List.mem_of_getElem? (i := 493) (by decide +kernel)⟩
theorem lw_p36 : lw_okq (⟨"LineOfHeirsModel", "begin", "()V"⟩, 28) := ⟨⟨by decide +kernel, by decide +kernel⟩, List.mem_of_getElem? (i := 348) (by decide +kernel), List.mem_of_getElem? (i := 496) (by decide +kernel), List.mem_of_getElem? (i := 497) (by decide +kernel)⟩
theorem lw_p37 : lw_okq (⟨"LineOfHeirsModel", "act", "(III)I"⟩, 28) := ⟨⟨by decide +kernel, by decide +kernel⟩, List.mem_of_getElem? (i := 348) (by decide +kernel), List.mem_of_getElem? (i := 500) (by decide +kernel), List.mem_of_getElem? (i := 501) (by decide +kernel)⟩
theorem lw_p38 : lw_okq (⟨"LineOfHeirsModel", "enter", "(II)V"⟩, 28) := ⟨⟨by decide +kernel, by decide +kernel⟩, List.mem_of_getElem? (i := 348) (by decide +kernel), List.mem_of_getElem? (i := 504) (by decide +kernel), List.mem_of_getElem? (i := 505) (by decide +kernel)⟩
theorem lw_p39 : lw_okq (⟨"LineOfHeirsModel", "pop", "()I"⟩, 28) := ⟨⟨by decide +kernel, by decide +kernel⟩, List.mem_of_getElem? (i := 348) (by decide +kernel), List.mem_of_getElem? (i := 508) (by decide +kernel), List.mem_of_getElem? (i := 509) (by decide +kernel)⟩
theorem lw_p40 : lw_okq (⟨"LineOfHeirsModel", "step", "(III)V"⟩, 28) := ⟨⟨by decide +kernel, by decide +kernel⟩, List.mem_of_getElem? (i := 348) (by decide +kernel), List.mem_of_getElem? (i := 512) (by decide +kernel), List.mem_of_getElem? (i := 513) (by decide +kernel)⟩
theorem lw_p41 : lw_okq (⟨"LineOfHeirsModel", "push", "(I)V"⟩, 28) := ⟨⟨by decide +kernel, by decide +kernel⟩, List.mem_of_getElem? (i := 348) (by decide +kernel), List.mem_of_getElem? (i := 516) (by decide +kernel), List.mem_of_getElem? (i := 517) (by decide +kernel)⟩
theorem lw_p42 : lw_okq (⟨"LineOfHeirsModel", "takes", "(II)I"⟩, 28) := ⟨⟨by decide +kernel, by decide +kernel⟩, List.mem_of_getElem? (i := 348) (by decide +kernel), List.mem_of_getElem? (i := 536) (by decide +kernel), List.mem_of_getElem? (i := 537) (by decide +kernel)⟩
def lw_privs_3 : List (MethodName × Nat) := [(⟨"LineOfHeirsModel", "isDevice", "(I)Z"⟩, 28), (⟨"LineOfHeirsModel", "isAble", "(II)Z"⟩, 28), (⟨"LineOfHeirsModel", "isOf", "(III)Z"⟩, 28), (⟨"LineOfHeirsModel", "refused", "(I)I"⟩, 28), (⟨"LineOfHeirsModel", "begin", "()V"⟩, 28), (⟨"LineOfHeirsModel", "act", "(III)I"⟩, 28), (⟨"LineOfHeirsModel", "enter", "(II)V"⟩, 28), (⟨"LineOfHeirsModel", "pop", "()I"⟩, 28), (⟨"LineOfHeirsModel", "step", "(III)V"⟩, 28), (⟨"LineOfHeirsModel", "push", "(I)V"⟩, 28), (⟨"LineOfHeirsModel", "takes", "(II)I"⟩, 28)]
theorem lw_r3 : ∀ q ∈ lw_privs_3, lw_okq q := List.forall_mem_cons.mpr ⟨lw_p32, List.forall_mem_cons.mpr ⟨lw_p33, List.forall_mem_cons.mpr ⟨lw_p34, List.forall_mem_cons.mpr ⟨lw_p35, List.forall_mem_cons.mpr ⟨lw_p36, List.forall_mem_cons.mpr ⟨lw_p37, List.forall_mem_cons.mpr ⟨lw_p38, List.forall_mem_cons.mpr ⟨lw_p39, List.forall_mem_cons.mpr ⟨lw_p40, List.forall_mem_cons.mpr ⟨lw_p41, List.forall_mem_cons.mpr ⟨lw_p42, fun _ h => absurd h List.not_mem_nil⟩⟩⟩⟩⟩⟩⟩⟩⟩⟩⟩
def lw_privs : List (MethodName × Nat) := lw_privs_1 ++ (lw_privs_2 ++ (lw_privs_3))
def lw_tbl : List Cond := k2_sels lw_privs ++ tables_1
theorem lw_privs_ok : ∀ q ∈ lw_privs, lw_okq q := by
  show ∀ q ∈ lw_privs_1 ++ (lw_privs_2 ++ (lw_privs_3)), lw_okq q
  exact List.forall_mem_append.mpr ⟨lw_r1, List.forall_mem_append.mpr ⟨lw_r2, lw_r3⟩⟩
def RX0 : String := "LineOfHeirs$Device"
def TX0 : u_T := fun k => match k with
  | 0 => ("LineOfHeirs$Device", "heritage", "LLineOfHeirs$Heritage;", true)
  | 1 => ("LineOfHeirs$Device", "trail", "LLineOfHeirs$Trail;", true)
  | 2 => ("LineOfHeirs$Device", "type", "I", true)
  | 3 => ("LineOfHeirs$Device", "v", "I", false)
  | 4 => ("LineOfHeirs$Device", "c", "I", false)
  | 5 => ("LineOfHeirs$Device", "firstLink", "LLineOfHeirs$Link;", false)
  | 6 => ("LineOfHeirs$Device", "lastLink", "LLineOfHeirs$Link;", false)
  | 7 => ("LineOfHeirs$Device", "linksFrom", "I", false)
  | 8 => ("LineOfHeirs$Device", "linksTo", "I", false)
  | 9 => ("LineOfHeirs$Device", "taken", "I", false)
  | 10 => ("LineOfHeirs$Device", "latestPulse", "I", false)
  | _ => ("LineOfHeirs$Device", "tookAnswer", "I", false)
def tyX0 : Nat → FieldType := fun k => match k with
  | 0 => .object "LineOfHeirs$Heritage"
  | 1 => .object "LineOfHeirs$Trail"
  | 2 => .int
  | 3 => .int
  | 4 => .int
  | 5 => .object "LineOfHeirs$Link"
  | 6 => .object "LineOfHeirs$Link"
  | 7 => .int
  | 8 => .int
  | 9 => .int
  | 10 => .int
  | _ => .int
abbrev wsX00 : List Cond := u_ws RX0 TX0 12
theorem nmX0 : ∀ a, a < 12 → ∀ b, b < 12 → a ≠ b → (TX0 a).2.1 ≠ (TX0 b).2.1 := by decide +kernel
theorem tyX0_ok : ∀ k, k < 12 → parseFieldDescriptor (TX0 k).2.2.1 = some (tyX0 k) := by decide +kernel
abbrev cX0_init : ByteArray := prog_2_method_1_code
def yX0_init : MethodName := ⟨RX0, "<init>", "(LLineOfHeirs$Heritage;LLineOfHeirs$Trail;II)V"⟩
abbrev cX0_bears : ByteArray := prog_2_method_2_code
def yX0_bears : MethodName := ⟨RX0, "bears", "(I)Z"⟩
abbrev cX0_hasAct : ByteArray := prog_2_method_3_code
def yX0_hasAct : MethodName := ⟨RX0, "hasAct", "(II)Z"⟩
abbrev cX0_fact : ByteArray := prog_2_method_4_code
def yX0_fact : MethodName := ⟨RX0, "fact", "(I)I"⟩
abbrev cX0_addLink : ByteArray := prog_2_method_5_code
def yX0_addLink : MethodName := ⟨RX0, "addLink", "(LLineOfHeirs$Link;)V"⟩
abbrev cX0_take : ByteArray := prog_2_method_6_code
def yX0_take : MethodName := ⟨RX0, "take", "(II)V"⟩
abbrev cX0_takingAct : ByteArray := prog_2_method_7_code
def yX0_takingAct : MethodName := ⟨RX0, "takingAct", "()I"⟩
abbrev cX0_answer : ByteArray := prog_2_method_8_code
def yX0_answer : MethodName := ⟨RX0, "answer", "(II)I"⟩
abbrev cX0_act : ByteArray := prog_2_method_9_code
def yX0_act : MethodName := ⟨RX0, "act", "(III)I"⟩
abbrev cX0_parentAct : ByteArray := prog_2_method_10_code
def yX0_parentAct : MethodName := ⟨RX0, "parentAct", "(IIII)I"⟩
abbrev cX0_interfaceAct : ByteArray := prog_2_method_11_code
def yX0_interfaceAct : MethodName := ⟨RX0, "interfaceAct", "(IIII)I"⟩
abbrev cX0_run : ByteArray := prog_2_method_12_code
def yX0_run : MethodName := ⟨RX0, "run", "(III)I"⟩
abbrev cX0_runOfInterface : ByteArray := prog_2_method_13_code
def yX0_runOfInterface : MethodName := ⟨RX0, "runOfInterface", "(III)I"⟩
abbrev cX0_runOfAncestor : ByteArray := prog_2_method_14_code
def yX0_runOfAncestor : MethodName := ⟨RX0, "runOfAncestor", "(III)I"⟩
abbrev cX0_runOfEarlierKind : ByteArray := prog_2_method_15_code
def yX0_runOfEarlierKind : MethodName := ⟨RX0, "runOfEarlierKind", "(III)I"⟩
abbrev cX0_runOfLaterKind : ByteArray := prog_2_method_16_code
def yX0_runOfLaterKind : MethodName := ⟨RX0, "runOfLaterKind", "(III)I"⟩
def RX1 : String := "LineOfHeirs$Heritage"
def TX1 : u_T := fun k => match k with
  | 0 => ("LineOfHeirs$Heritage", "borne", "[I", true)
  | _ => ("LineOfHeirs$Heritage", "selected", "[I", true)
def tyX1 : Nat → FieldType := fun k => match k with
  | 0 => .array .int
  | _ => .array .int
abbrev wsX10 : List Cond := u_ws RX1 TX1 2
theorem nmX1 : ∀ a, a < 2 → ∀ b, b < 2 → a ≠ b → (TX1 a).2.1 ≠ (TX1 b).2.1 := by decide +kernel
theorem tyX1_ok : ∀ k, k < 2 → parseFieldDescriptor (TX1 k).2.2.1 = some (tyX1 k) := by decide +kernel
abbrev cX1_init : ByteArray := prog_3_method_1_code
def yX1_init : MethodName := ⟨RX1, "<init>", "()V"⟩
abbrev cX1_isType : ByteArray := prog_3_method_2_code
def yX1_isType : MethodName := ⟨RX1, "isType", "(I)Z"⟩
abbrev cX1_isInterface : ByteArray := prog_3_method_3_code
def yX1_isInterface : MethodName := ⟨RX1, "isInterface", "(I)Z"⟩
abbrev cX1_holds : ByteArray := prog_3_method_4_code
def yX1_holds : MethodName := ⟨RX1, "holds", "(II)Z"⟩
abbrev cX1_parentOf : ByteArray := prog_3_method_5_code
def yX1_parentOf : MethodName := ⟨RX1, "parentOf", "(I)I"⟩
abbrev cX1_bodyOf : ByteArray := prog_3_method_6_code
def yX1_bodyOf : MethodName := ⟨RX1, "bodyOf", "(II)I"⟩
abbrev cX1_interfacesOf : ByteArray := prog_3_method_7_code
def yX1_interfacesOf : MethodName := ⟨RX1, "interfacesOf", "(I[I)I"⟩
abbrev cX1_select : ByteArray := prog_3_method_8_code
def yX1_select : MethodName := ⟨RX1, "select", "(II[I)I"⟩
abbrev cX1_bodyOfLine : ByteArray := prog_3_method_9_code
def yX1_bodyOfLine : MethodName := ⟨RX1, "bodyOfLine", "(II)I"⟩
abbrev cX1_bodyOfInterfaces : ByteArray := prog_3_method_10_code
def yX1_bodyOfInterfaces : MethodName := ⟨RX1, "bodyOfInterfaces", "(II[I)I"⟩
abbrev cX1_isOvertaken : ByteArray := prog_3_method_11_code
def yX1_isOvertaken : MethodName := ⟨RX1, "isOvertaken", "(III[I)Z"⟩
abbrev cX1_selectedOf : ByteArray := prog_3_method_12_code
def yX1_selectedOf : MethodName := ⟨RX1, "selectedOf", "(II)I"⟩
abbrev cX1_bears : ByteArray := prog_3_method_13_code
def yX1_bears : MethodName := ⟨RX1, "bears", "(II)Z"⟩
abbrev cX1_hasAct : ByteArray := prog_3_method_14_code
def yX1_hasAct : MethodName := ⟨RX1, "hasAct", "(II)Z"⟩
abbrev cX1_kindHasAct : ByteArray := prog_3_method_15_code
def yX1_kindHasAct : MethodName := ⟨RX1, "kindHasAct", "(II)Z"⟩
def RX2 : String := "LineOfHeirs$Link"
def TX2 : u_T := fun k => match k with
  | 0 => ("LineOfHeirs$Link", "to", "LLineOfHeirs$Device;", true)
  | _ => ("LineOfHeirs$Link", "next", "LLineOfHeirs$Link;", false)
def tyX2 : Nat → FieldType := fun k => match k with
  | 0 => .object "LineOfHeirs$Device"
  | _ => .object "LineOfHeirs$Link"
abbrev wsX20 : List Cond := u_ws RX2 TX2 2
theorem nmX2 : ∀ a, a < 2 → ∀ b, b < 2 → a ≠ b → (TX2 a).2.1 ≠ (TX2 b).2.1 := by decide +kernel
theorem tyX2_ok : ∀ k, k < 2 → parseFieldDescriptor (TX2 k).2.2.1 = some (tyX2 k) := by decide +kernel
abbrev cX2_init : ByteArray := prog_4_method_1_code
def yX2_init : MethodName := ⟨RX2, "<init>", "(LLineOfHeirs$Device;)V"⟩
def RX3 : String := "LineOfHeirs$Trail"
def TX3 : u_T := fun k => match k with
  | 0 => ("LineOfHeirs$Trail", "kept", "[I", true)
  | _ => ("LineOfHeirs$Trail", "begun", "I", false)
def tyX3 : Nat → FieldType := fun k => match k with
  | 0 => .array .int
  | _ => .int
abbrev wsX30 : List Cond := u_ws RX3 TX3 2
theorem nmX3 : ∀ a, a < 2 → ∀ b, b < 2 → a ≠ b → (TX3 a).2.1 ≠ (TX3 b).2.1 := by decide +kernel
theorem tyX3_ok : ∀ k, k < 2 → parseFieldDescriptor (TX3 k).2.2.1 = some (tyX3 k) := by decide +kernel
abbrev cX3_init : ByteArray := prog_5_method_1_code
def yX3_init : MethodName := ⟨RX3, "<init>", "()V"⟩
abbrev cX3_clear : ByteArray := prog_5_method_2_code
def yX3_clear : MethodName := ⟨RX3, "clear", "()V"⟩
abbrev cX3_begin : ByteArray := prog_5_method_3_code
def yX3_begin : MethodName := ⟨RX3, "begin", "(I)V"⟩
abbrev cX3_keptAt : ByteArray := prog_5_method_4_code
def yX3_keptAt : MethodName := ⟨RX3, "keptAt", "(I)I"⟩
def RX4 : String := "LineOfHeirs"
def TX4 : u_T := fun k => match k with
  | 0 => ("LineOfHeirs", "heritage", "LLineOfHeirs$Heritage;", true)
  | 1 => ("LineOfHeirs", "trail", "LLineOfHeirs$Trail;", true)
  | 2 => ("LineOfHeirs", "devices", "[LLineOfHeirs$Device;", true)
  | 3 => ("LineOfHeirs", "takers", "[LLineOfHeirs$Device;", true)
  | 4 => ("LineOfHeirs", "deviceCount", "I", false)
  | 5 => ("LineOfHeirs", "linkCount", "I", false)
  | 6 => ("LineOfHeirs", "takerCount", "I", false)
  | 7 => ("LineOfHeirs", "pulse", "I", false)
  | _ => ("LineOfHeirs", "latestStatus", "I", false)
def tyX4 : Nat → FieldType := fun k => match k with
  | 0 => .object "LineOfHeirs$Heritage"
  | 1 => .object "LineOfHeirs$Trail"
  | 2 => .array (.object "LineOfHeirs$Device")
  | 3 => .array (.object "LineOfHeirs$Device")
  | 4 => .int
  | 5 => .int
  | 6 => .int
  | 7 => .int
  | _ => .int
abbrev wsX40 : List Cond := u_ws RX4 TX4 9
theorem nmX4 : ∀ a, a < 9 → ∀ b, b < 9 → a ≠ b → (TX4 a).2.1 ≠ (TX4 b).2.1 := by decide +kernel
theorem tyX4_ok : ∀ k, k < 9 → parseFieldDescriptor (TX4 k).2.2.1 = some (tyX4 k) := by decide +kernel
abbrev cX4_init : ByteArray := prog_1_method_1_code
def yX4_init : MethodName := ⟨RX4, "<init>", "()V"⟩
abbrev cX4_device : ByteArray := prog_1_method_2_code
def yX4_device : MethodName := ⟨RX4, "device", "(II)I"⟩
abbrev cX4_call : ByteArray := prog_1_method_3_code
def yX4_call : MethodName := ⟨RX4, "call", "(IIII)I"⟩
abbrev cX4_every : ByteArray := prog_1_method_4_code
def yX4_every : MethodName := ⟨RX4, "every", "(III)I"⟩
abbrev cX4_feed : ByteArray := prog_1_method_5_code
def yX4_feed : MethodName := ⟨RX4, "feed", "(II)I"⟩
abbrev cX4_link : ByteArray := prog_1_method_6_code
def yX4_link : MethodName := ⟨RX4, "link", "(II)I"⟩
abbrev cX4_pass : ByteArray := prog_1_method_7_code
def yX4_pass : MethodName := ⟨RX4, "pass", "(II)I"⟩
abbrev cX4_able : ByteArray := prog_1_method_8_code
def yX4_able : MethodName := ⟨RX4, "able", "(II)I"⟩
abbrev cX4_chain : ByteArray := prog_1_method_9_code
def yX4_chain : MethodName := ⟨RX4, "chain", "(I)I"⟩
abbrev cX4_ran : ByteArray := prog_1_method_10_code
def yX4_ran : MethodName := ⟨RX4, "ran", "()I"⟩
abbrev cX4_state : ByteArray := prog_1_method_11_code
def yX4_state : MethodName := ⟨RX4, "state", "(II)I"⟩
abbrev cX4_size : ByteArray := prog_1_method_12_code
def yX4_size : MethodName := ⟨RX4, "size", "(I)I"⟩
abbrev cX4_status : ByteArray := prog_1_method_13_code
def yX4_status : MethodName := ⟨RX4, "status", "()I"⟩
abbrev cX4_isAct : ByteArray := prog_1_method_14_code
def yX4_isAct : MethodName := ⟨RX4, "isAct", "(I)Z"⟩
abbrev cX4_isWay : ByteArray := prog_1_method_15_code
def yX4_isWay : MethodName := ⟨RX4, "isWay", "(I)Z"⟩
abbrev cX4_find : ByteArray := prog_1_method_16_code
def yX4_find : MethodName := ⟨RX4, "find", "(I)LLineOfHeirs$Device;"⟩
abbrev cX4_refusal : ByteArray := prog_1_method_17_code
def yX4_refusal : MethodName := ⟨RX4, "refusal", "(LLineOfHeirs$Device;II)I"⟩
abbrev cX4_refusalOfAll : ByteArray := prog_1_method_18_code
def yX4_refusalOfAll : MethodName := ⟨RX4, "refusalOfAll", "(II)I"⟩
abbrev cX4_answerToByte : ByteArray := prog_1_method_19_code
def yX4_answerToByte : MethodName := ⟨RX4, "answerToByte", "(LLineOfHeirs$Device;II)I"⟩
abbrev cX4_letTake : ByteArray := prog_1_method_20_code
def yX4_letTake : MethodName := ⟨RX4, "letTake", "(LLineOfHeirs$Device;I)V"⟩
abbrev cX4_passOn : ByteArray := prog_1_method_21_code
def yX4_passOn : MethodName := ⟨RX4, "passOn", "(LLineOfHeirs$Device;)V"⟩
abbrev cX4_countBearers : ByteArray := prog_1_method_22_code
def yX4_countBearers : MethodName := ⟨RX4, "countBearers", "(I)I"⟩
def RX5 : String := "LineOfHeirsModel"
def TX5 : u_T := fun k => match k with
  | 0 => ("LineOfHeirsModel", "code", "[I", true)
  | 1 => ("LineOfHeirsModel", "start", "[I", true)
  | 2 => ("LineOfHeirsModel", "parent", "[I", true)
  | 3 => ("LineOfHeirsModel", "bears", "[I", true)
  | 4 => ("LineOfHeirsModel", "has", "[I", true)
  | 5 => ("LineOfHeirsModel", "chosen", "[I", true)
  | 6 => ("LineOfHeirsModel", "actsOf", "[I", true)
  | 7 => ("LineOfHeirsModel", "actsOfKind", "[I", true)
  | 8 => ("LineOfHeirsModel", "kindOf", "[I", true)
  | 9 => ("LineOfHeirsModel", "valueOf", "[I", true)
  | 10 => ("LineOfHeirsModel", "countOf", "[I", true)
  | 11 => ("LineOfHeirsModel", "takenOf", "[I", true)
  | 12 => ("LineOfHeirsModel", "devices", "I", false)
  | 13 => ("LineOfHeirsModel", "from", "[I", true)
  | 14 => ("LineOfHeirsModel", "to", "[I", true)
  | 15 => ("LineOfHeirsModel", "links", "I", false)
  | 16 => ("LineOfHeirsModel", "row", "[I", true)
  | 17 => ("LineOfHeirsModel", "answer", "[I", true)
  | 18 => ("LineOfHeirsModel", "isIn", "[Z", true)
  | 19 => ("LineOfHeirsModel", "kept", "[I", true)
  | 20 => ("LineOfHeirsModel", "began", "I", false)
  | 21 => ("LineOfHeirsModel", "status", "I", false)
  | 22 => ("LineOfHeirsModel", "frameBody", "[I", true)
  | 23 => ("LineOfHeirsModel", "frameAt", "[I", true)
  | 24 => ("LineOfHeirsModel", "frameX", "[I", true)
  | 25 => ("LineOfHeirsModel", "pile", "[I", true)
  | 26 => ("LineOfHeirsModel", "frames", "I", false)
  | _ => ("LineOfHeirsModel", "piled", "I", false)
def tyX5 : Nat → FieldType := fun k => match k with
  | 0 => .array .int
  | 1 => .array .int
  | 2 => .array .int
  | 3 => .array .int
  | 4 => .array .int
  | 5 => .array .int
  | 6 => .array .int
  | 7 => .array .int
  | 8 => .array .int
  | 9 => .array .int
  | 10 => .array .int
  | 11 => .array .int
  | 12 => .int
  | 13 => .array .int
  | 14 => .array .int
  | 15 => .int
  | 16 => .array .int
  | 17 => .array .int
  | 18 => .array .boolean
  | 19 => .array .int
  | 20 => .int
  | 21 => .int
  | 22 => .array .int
  | 23 => .array .int
  | 24 => .array .int
  | 25 => .array .int
  | 26 => .int
  | _ => .int
abbrev wsX50 : List Cond := u_ws RX5 TX5 28
theorem nmX5 : ∀ a, a < 28 → ∀ b, b < 28 → a ≠ b → (TX5 a).2.1 ≠ (TX5 b).2.1 := by decide +kernel
theorem tyX5_ok : ∀ k, k < 28 → parseFieldDescriptor (TX5 k).2.2.1 = some (tyX5 k) := by decide +kernel
abbrev cX5_init : ByteArray := prog_7_method_1_code
def yX5_init : MethodName := ⟨RX5, "<init>", "()V"⟩
abbrev cX5_bit : ByteArray := prog_7_method_2_code
def yX5_bit : MethodName := ⟨RX5, "bit", "(I)I"⟩
abbrev cX5_have : ByteArray := prog_7_method_3_code
def yX5_have : MethodName := ⟨RX5, "have", "(III)V"⟩
abbrev cX5_closed : ByteArray := prog_7_method_4_code
def yX5_closed : MethodName := ⟨RX5, "closed", "(I)I"⟩
abbrev cX5_heir : ByteArray := prog_7_method_5_code
def yX5_heir : MethodName := ⟨RX5, "heir", "(III)V"⟩
abbrev cX5_select : ByteArray := prog_7_method_6_code
def yX5_select : MethodName := ⟨RX5, "select", "(II)I"⟩
abbrev cX5_lowest : ByteArray := prog_7_method_7_code
def yX5_lowest : MethodName := ⟨RX5, "lowest", "(II)I"⟩
abbrev cX5_push : ByteArray := prog_7_method_8_code
def yX5_push : MethodName := ⟨RX5, "push", "(I)V"⟩
abbrev cX5_pop : ByteArray := prog_7_method_9_code
def yX5_pop : MethodName := ⟨RX5, "pop", "()I"⟩
abbrev cX5_enter : ByteArray := prog_7_method_10_code
def yX5_enter : MethodName := ⟨RX5, "enter", "(II)V"⟩
abbrev cX5_act : ByteArray := prog_7_method_11_code
def yX5_act : MethodName := ⟨RX5, "act", "(III)I"⟩
abbrev cX5_step : ByteArray := prog_7_method_12_code
def yX5_step : MethodName := ⟨RX5, "step", "(III)V"⟩
abbrev cX5_isDevice : ByteArray := prog_7_method_13_code
def yX5_isDevice : MethodName := ⟨RX5, "isDevice", "(I)Z"⟩
abbrev cX5_isAct : ByteArray := prog_7_method_14_code
def yX5_isAct : MethodName := ⟨RX5, "isAct", "(I)Z"⟩
abbrev cX5_isWay : ByteArray := prog_7_method_15_code
def yX5_isWay : MethodName := ⟨RX5, "isWay", "(I)Z"⟩
abbrev cX5_isAble : ByteArray := prog_7_method_16_code
def yX5_isAble : MethodName := ⟨RX5, "isAble", "(II)Z"⟩
abbrev cX5_isOf : ByteArray := prog_7_method_17_code
def yX5_isOf : MethodName := ⟨RX5, "isOf", "(III)Z"⟩
abbrev cX5_refused : ByteArray := prog_7_method_18_code
def yX5_refused : MethodName := ⟨RX5, "refused", "(I)I"⟩
abbrev cX5_why : ByteArray := prog_7_method_19_code
def yX5_why : MethodName := ⟨RX5, "why", "(III)I"⟩
abbrev cX5_begin : ByteArray := prog_7_method_20_code
def yX5_begin : MethodName := ⟨RX5, "begin", "()V"⟩
abbrev cX5_device : ByteArray := prog_7_method_21_code
def yX5_device : MethodName := ⟨RX5, "device", "(II)I"⟩
abbrev cX5_call : ByteArray := prog_7_method_22_code
def yX5_call : MethodName := ⟨RX5, "call", "(IIII)I"⟩
abbrev cX5_every : ByteArray := prog_7_method_23_code
def yX5_every : MethodName := ⟨RX5, "every", "(III)I"⟩
abbrev cX5_feed : ByteArray := prog_7_method_24_code
def yX5_feed : MethodName := ⟨RX5, "feed", "(II)I"⟩
abbrev cX5_link : ByteArray := prog_7_method_25_code
def yX5_link : MethodName := ⟨RX5, "link", "(II)I"⟩
abbrev cX5_takes : ByteArray := prog_7_method_26_code
def yX5_takes : MethodName := ⟨RX5, "takes", "(II)I"⟩
abbrev cX5_pass : ByteArray := prog_7_method_27_code
def yX5_pass : MethodName := ⟨RX5, "pass", "(II)I"⟩
abbrev cX5_able : ByteArray := prog_7_method_28_code
def yX5_able : MethodName := ⟨RX5, "able", "(II)I"⟩
abbrev cX5_chain : ByteArray := prog_7_method_29_code
def yX5_chain : MethodName := ⟨RX5, "chain", "(I)I"⟩
abbrev cX5_ran : ByteArray := prog_7_method_30_code
def yX5_ran : MethodName := ⟨RX5, "ran", "()I"⟩
abbrev cX5_state : ByteArray := prog_7_method_31_code
def yX5_state : MethodName := ⟨RX5, "state", "(II)I"⟩
abbrev cX5_size : ByteArray := prog_7_method_32_code
def yX5_size : MethodName := ⟨RX5, "size", "(I)I"⟩
abbrev cX5_status : ByteArray := prog_7_method_33_code
def yX5_status : MethodName := ⟨RX5, "status", "()I"⟩
def RL : String := "LineOfHeirsLaw"
abbrev cL_law : ByteArray := code
def yL_law : MethodName := ⟨RL, "law", "([I)Z"⟩
abbrev vwCl : List vw_C := [(RX0, TX0, 12), (RX1, TX1, 2), (RX2, TX2, 2), (RX3, TX3, 2), (RX4, TX4, 9), (RX5, TX5, 28)]
def WS : List Cond := lw_tbl.filter goodWord
theorem mWS {w : Cond} (i : Nat) (h : lw_tbl[i]? = some w) (hg : goodWord w = true) : w ∈ WS := List.mem_filter.mpr ⟨List.mem_of_getElem? h, hg⟩
theorem gWS {b : Cond} (hb : b ∈ WS) : GoodIn WS (b :: WS) := fun w h => by
  have hw : w ∈ WS := by
    rcases List.mem_cons.mp h with h | h
    · rw [h]; exact hb
    · exact h
  exact ⟨hw, good_of_word (List.mem_filter.mp hw).2⟩
theorem gWSa {b : List Cond} {a : List Cond} (ha : ∀ w ∈ a, w ∈ WS) (hb : GoodIn WS b) : GoodIn WS (a ++ b) := fun w h => by
  rcases List.mem_append.mp h with h | h
  · exact ⟨ha w h, good_of_word (List.mem_filter.mp (ha w h)).2⟩
  · exact hb w h
theorem gWSV {own C : String} {idx : Nat} {y : MethodName} {b : Cond} (h1 : Cond.methodLink own idx y ∈ WS) (h2 : Cond.instanceMethod y ∈ WS) (h3 : Cond.selects C y y ∈ WS) (h4 : Cond.initialized C ∈ WS) (hb : b ∈ WS) : GoodIn WS (wsV own idx C y (b :: WS)) :=
  gWSa (fun w h => by
    rcases List.mem_cons.mp h with h | h
    · rw [h]; exact h1
    · rcases List.mem_cons.mp h with h | h
      · rw [h]; exact h2
      · rcases List.mem_cons.mp h with h | h
        · rw [h]; exact h3
        · rw [List.mem_singleton.mp h]; exact h4) (gWS hb)
theorem gWSS {own : String} {idx : Nat} {y : MethodName} {b : Cond} (h1 : Cond.methodLink own idx y ∈ WS) (h2 : Cond.static y ∈ WS) (h4 : Cond.initialized y.cls ∈ WS) (hb : b ∈ WS) : GoodIn WS (va_wsS own idx y (b :: WS)) :=
  gWSa (fun w h => by
    rcases List.mem_cons.mp h with h | h
    · rw [h]; exact h1
    · rcases List.mem_cons.mp h with h | h
      · rw [h]; exact h2
      · rw [List.mem_singleton.mp h]; exact h4) (gWS hb)
theorem mWSu {L : List Cond} (h : L.all (fun w => decide (w ∈ lw_tbl) && goodWord w) = true) : ∀ w ∈ L, w ∈ WS := fun w hw => by
  have h1 := List.all_eq_true.mp h w hw
  simp only [Bool.and_eq_true, decide_eq_true_eq] at h1
  exact List.mem_filter.mpr ⟨h1.1, h1.2⟩
set_option maxRecDepth 20000 in
theorem q_se_X4_find : Cond.selects RX4 yX4_find yX4_find ∈ WS := mWS (w := Cond.selects RX4 yX4_find yX4_find) 0 rfl rfl
set_option maxRecDepth 20000 in
theorem q_se_X0_bears : Cond.selects RX0 yX0_bears yX0_bears ∈ WS := mWS (w := Cond.selects RX0 yX0_bears yX0_bears) 1 rfl rfl
set_option maxRecDepth 20000 in
theorem q_se_X1_bears : Cond.selects RX1 yX1_bears yX1_bears ∈ WS := mWS (w := Cond.selects RX1 yX1_bears yX1_bears) 2 rfl rfl
set_option maxRecDepth 20000 in
theorem q_se_X0_hasAct : Cond.selects RX0 yX0_hasAct yX0_hasAct ∈ WS := mWS (w := Cond.selects RX0 yX0_hasAct yX0_hasAct) 3 rfl rfl
set_option maxRecDepth 20000 in
theorem q_se_X1_kindHasAct : Cond.selects RX1 yX1_kindHasAct yX1_kindHasAct ∈ WS := mWS (w := Cond.selects RX1 yX1_kindHasAct yX1_kindHasAct) 4 rfl rfl
set_option maxRecDepth 20000 in
theorem q_se_X1_hasAct : Cond.selects RX1 yX1_hasAct yX1_hasAct ∈ WS := mWS (w := Cond.selects RX1 yX1_hasAct yX1_hasAct) 5 rfl rfl
set_option maxRecDepth 20000 in
theorem q_se_X3_clear : Cond.selects RX3 yX3_clear yX3_clear ∈ WS := mWS (w := Cond.selects RX3 yX3_clear yX3_clear) 6 rfl rfl
set_option maxRecDepth 20000 in
theorem q_se_X0_answer : Cond.selects RX0 yX0_answer yX0_answer ∈ WS := mWS (w := Cond.selects RX0 yX0_answer yX0_answer) 7 rfl rfl
set_option maxRecDepth 20000 in
theorem q_se_X0_act : Cond.selects RX0 yX0_act yX0_act ∈ WS := mWS (w := Cond.selects RX0 yX0_act yX0_act) 8 rfl rfl
set_option maxRecDepth 20000 in
theorem q_se_X1_selectedOf : Cond.selects RX1 yX1_selectedOf yX1_selectedOf ∈ WS := mWS (w := Cond.selects RX1 yX1_selectedOf yX1_selectedOf) 9 rfl rfl
set_option maxRecDepth 20000 in
theorem q_se_X0_run : Cond.selects RX0 yX0_run yX0_run ∈ WS := mWS (w := Cond.selects RX0 yX0_run yX0_run) 10 rfl rfl
set_option maxRecDepth 20000 in
theorem q_se_X3_begin : Cond.selects RX3 yX3_begin yX3_begin ∈ WS := mWS (w := Cond.selects RX3 yX3_begin yX3_begin) 11 rfl rfl
set_option maxRecDepth 20000 in
theorem q_se_X0_runOfInterface : Cond.selects RX0 yX0_runOfInterface yX0_runOfInterface ∈ WS := mWS (w := Cond.selects RX0 yX0_runOfInterface yX0_runOfInterface) 12 rfl rfl
set_option maxRecDepth 20000 in
theorem q_se_X0_interfaceAct : Cond.selects RX0 yX0_interfaceAct yX0_interfaceAct ∈ WS := mWS (w := Cond.selects RX0 yX0_interfaceAct yX0_interfaceAct) 13 rfl rfl
set_option maxRecDepth 20000 in
theorem q_se_X0_runOfAncestor : Cond.selects RX0 yX0_runOfAncestor yX0_runOfAncestor ∈ WS := mWS (w := Cond.selects RX0 yX0_runOfAncestor yX0_runOfAncestor) 14 rfl rfl
set_option maxRecDepth 20000 in
theorem q_se_X0_runOfEarlierKind : Cond.selects RX0 yX0_runOfEarlierKind yX0_runOfEarlierKind ∈ WS := mWS (w := Cond.selects RX0 yX0_runOfEarlierKind yX0_runOfEarlierKind) 15 rfl rfl
set_option maxRecDepth 20000 in
theorem q_se_X0_parentAct : Cond.selects RX0 yX0_parentAct yX0_parentAct ∈ WS := mWS (w := Cond.selects RX0 yX0_parentAct yX0_parentAct) 16 rfl rfl
set_option maxRecDepth 20000 in
theorem q_se_X0_runOfLaterKind : Cond.selects RX0 yX0_runOfLaterKind yX0_runOfLaterKind ∈ WS := mWS (w := Cond.selects RX0 yX0_runOfLaterKind yX0_runOfLaterKind) 17 rfl rfl
set_option maxRecDepth 20000 in
theorem q_se_X4_refusalOfAll : Cond.selects RX4 yX4_refusalOfAll yX4_refusalOfAll ∈ WS := mWS (w := Cond.selects RX4 yX4_refusalOfAll yX4_refusalOfAll) 18 rfl rfl
set_option maxRecDepth 20000 in
theorem q_se_X0_addLink : Cond.selects RX0 yX0_addLink yX0_addLink ∈ WS := mWS (w := Cond.selects RX0 yX0_addLink yX0_addLink) 19 rfl rfl
set_option maxRecDepth 20000 in
theorem q_se_X4_letTake : Cond.selects RX4 yX4_letTake yX4_letTake ∈ WS := mWS (w := Cond.selects RX4 yX4_letTake yX4_letTake) 20 rfl rfl
set_option maxRecDepth 20000 in
theorem q_se_X0_take : Cond.selects RX0 yX0_take yX0_take ∈ WS := mWS (w := Cond.selects RX0 yX0_take yX0_take) 21 rfl rfl
set_option maxRecDepth 20000 in
theorem q_se_X0_takingAct : Cond.selects RX0 yX0_takingAct yX0_takingAct ∈ WS := mWS (w := Cond.selects RX0 yX0_takingAct yX0_takingAct) 22 rfl rfl
set_option maxRecDepth 20000 in
theorem q_se_X4_passOn : Cond.selects RX4 yX4_passOn yX4_passOn ∈ WS := mWS (w := Cond.selects RX4 yX4_passOn yX4_passOn) 23 rfl rfl
set_option maxRecDepth 20000 in
theorem q_se_X3_keptAt : Cond.selects RX3 yX3_keptAt yX3_keptAt ∈ WS := mWS (w := Cond.selects RX3 yX3_keptAt yX3_keptAt) 24 rfl rfl
set_option maxRecDepth 20000 in
theorem q_se_X0_fact : Cond.selects RX0 yX0_fact yX0_fact ∈ WS := mWS (w := Cond.selects RX0 yX0_fact yX0_fact) 25 rfl rfl
set_option maxRecDepth 20000 in
theorem q_se_X4_countBearers : Cond.selects RX4 yX4_countBearers yX4_countBearers ∈ WS := mWS (w := Cond.selects RX4 yX4_countBearers yX4_countBearers) 26 rfl rfl
set_option maxRecDepth 20000 in
theorem q_se_X5_have : Cond.selects RX5 yX5_have yX5_have ∈ WS := mWS (w := Cond.selects RX5 yX5_have yX5_have) 27 rfl rfl
set_option maxRecDepth 20000 in
theorem q_se_X5_heir : Cond.selects RX5 yX5_heir yX5_heir ∈ WS := mWS (w := Cond.selects RX5 yX5_heir yX5_heir) 28 rfl rfl
set_option maxRecDepth 20000 in
theorem q_se_X5_lowest : Cond.selects RX5 yX5_lowest yX5_lowest ∈ WS := mWS (w := Cond.selects RX5 yX5_lowest yX5_lowest) 29 rfl rfl
set_option maxRecDepth 20000 in
theorem q_se_X5_select : Cond.selects RX5 yX5_select yX5_select ∈ WS := mWS (w := Cond.selects RX5 yX5_select yX5_select) 30 rfl rfl
set_option maxRecDepth 20000 in
theorem q_se_X5_why : Cond.selects RX5 yX5_why yX5_why ∈ WS := mWS (w := Cond.selects RX5 yX5_why yX5_why) 31 rfl rfl
set_option maxRecDepth 20000 in
theorem q_se_X5_isDevice : Cond.selects RX5 yX5_isDevice yX5_isDevice ∈ WS := mWS (w := Cond.selects RX5 yX5_isDevice yX5_isDevice) 32 rfl rfl
set_option maxRecDepth 20000 in
theorem q_se_X5_isAble : Cond.selects RX5 yX5_isAble yX5_isAble ∈ WS := mWS (w := Cond.selects RX5 yX5_isAble yX5_isAble) 33 rfl rfl
set_option maxRecDepth 20000 in
theorem q_se_X5_isOf : Cond.selects RX5 yX5_isOf yX5_isOf ∈ WS := mWS (w := Cond.selects RX5 yX5_isOf yX5_isOf) 34 rfl rfl
set_option maxRecDepth 20000 in
theorem q_se_X5_refused : Cond.selects RX5 yX5_refused yX5_refused ∈ WS := mWS (w := Cond.selects RX5 yX5_refused yX5_refused) 35 rfl rfl
set_option maxRecDepth 20000 in
theorem q_se_X5_begin : Cond.selects RX5 yX5_begin yX5_begin ∈ WS := mWS (w := Cond.selects RX5 yX5_begin yX5_begin) 36 rfl rfl
set_option maxRecDepth 20000 in
theorem q_se_X5_act : Cond.selects RX5 yX5_act yX5_act ∈ WS := mWS (w := Cond.selects RX5 yX5_act yX5_act) 37 rfl rfl
set_option maxRecDepth 20000 in
theorem q_se_X5_enter : Cond.selects RX5 yX5_enter yX5_enter ∈ WS := mWS (w := Cond.selects RX5 yX5_enter yX5_enter) 38 rfl rfl
set_option maxRecDepth 20000 in
theorem q_se_X5_pop : Cond.selects RX5 yX5_pop yX5_pop ∈ WS := mWS (w := Cond.selects RX5 yX5_pop yX5_pop) 39 rfl rfl
set_option maxRecDepth 20000 in
theorem q_se_X5_step : Cond.selects RX5 yX5_step yX5_step ∈ WS := mWS (w := Cond.selects RX5 yX5_step yX5_step) 40 rfl rfl
set_option maxRecDepth 20000 in
theorem q_se_X5_push : Cond.selects RX5 yX5_push yX5_push ∈ WS := mWS (w := Cond.selects RX5 yX5_push yX5_push) 41 rfl rfl
set_option maxRecDepth 20000 in
theorem q_se_X5_takes : Cond.selects RX5 yX5_takes yX5_takes ∈ WS := mWS (w := Cond.selects RX5 yX5_takes yX5_takes) 42 rfl rfl
set_option maxRecDepth 20000 in
theorem q_in_L : Cond.initialized RL ∈ WS := mWS (w := Cond.initialized RL) 43 rfl rfl
set_option maxRecDepth 20000 in
theorem q_in_4 : Cond.initialized RX4 ∈ WS := mWS (w := Cond.initialized RX4) 44 rfl rfl
set_option maxRecDepth 20000 in
theorem q_in_1 : Cond.initialized RX1 ∈ WS := mWS (w := Cond.initialized RX1) 45 rfl rfl
set_option maxRecDepth 20000 in
theorem q_in_3 : Cond.initialized RX3 ∈ WS := mWS (w := Cond.initialized RX3) 46 rfl rfl
set_option maxRecDepth 20000 in
theorem q_in_5 : Cond.initialized RX5 ∈ WS := mWS (w := Cond.initialized RX5) 47 rfl rfl
set_option maxRecDepth 20000 in
theorem q_in_0 : Cond.initialized RX0 ∈ WS := mWS (w := Cond.initialized RX0) 48 rfl rfl
set_option maxRecDepth 20000 in
theorem q_in_2 : Cond.initialized RX2 ∈ WS := mWS (w := Cond.initialized RX2) 49 rfl rfl
set_option maxRecDepth 20000 in
theorem q_cl_L_7 : Cond.classLink RL 7 RX4 ∈ WS := mWS (w := Cond.classLink RL 7 RX4) 50 rfl rfl
set_option maxRecDepth 20000 in
theorem q_ia_4 : Cond.instantiable RX4 9 ∈ WS := mWS (w := Cond.instantiable RX4 9) 51 rfl rfl
set_option maxRecDepth 20000 in
theorem q_l_L_9 : Cond.methodLink RL 9 yX4_init ∈ WS := mWS (w := Cond.methodLink RL 9 yX4_init) 52 rfl rfl
set_option maxRecDepth 20000 in
theorem q_im_X4_init : Cond.instanceMethod yX4_init ∈ WS := mWS (w := Cond.instanceMethod yX4_init) 53 rfl rfl
set_option maxRecDepth 20000 in
theorem q_co_X4_init : Cond.code yX4_init cX4_init 1 none ∈ WS := mWS (w := Cond.code yX4_init cX4_init 1 none) 54 rfl rfl
set_option maxRecDepth 20000 in
theorem q_l_4_3 : Cond.methodLink RX4 3 objectInit ∈ WS := mWS (w := Cond.methodLink RX4 3 objectInit) 55 rfl rfl
set_option maxRecDepth 20000 in
theorem q_im_O : Cond.instanceMethod objectInit ∈ WS := mWS (w := Cond.instanceMethod objectInit) 56 rfl rfl
set_option maxRecDepth 20000 in
theorem q_co_O : Cond.code objectInit ⟨#[0xb1]⟩ 1 none ∈ WS := mWS (w := Cond.code objectInit ⟨#[0xb1]⟩ 1 none) 57 rfl rfl
set_option maxRecDepth 20000 in
theorem q_cl_4_9 : Cond.classLink RX4 9 RX1 ∈ WS := mWS (w := Cond.classLink RX4 9 RX1) 58 rfl rfl
set_option maxRecDepth 20000 in
theorem q_ia_1 : Cond.instantiable RX1 2 ∈ WS := mWS (w := Cond.instantiable RX1 2) 59 rfl rfl
set_option maxRecDepth 20000 in
theorem q_im_X1_init : Cond.instanceMethod yX1_init ∈ WS := mWS (w := Cond.instanceMethod yX1_init) 61 rfl rfl
set_option maxRecDepth 20000 in
theorem q_co_X1_init : Cond.code yX1_init cX1_init 3 none ∈ WS := mWS (w := Cond.code yX1_init cX1_init 3 none) 62 rfl rfl
set_option maxRecDepth 20000 in
theorem q_l_1_3 : Cond.methodLink RX1 3 objectInit ∈ WS := mWS (w := Cond.methodLink RX1 3 objectInit) 63 rfl rfl
set_option maxRecDepth 20000 in
theorem q_l_1_18 : Cond.methodLink RX1 18 yX1_interfacesOf ∈ WS := mWS (w := Cond.methodLink RX1 18 yX1_interfacesOf) 64 rfl rfl
set_option maxRecDepth 20000 in
theorem q_st_X1_interfacesOf : Cond.static yX1_interfacesOf ∈ WS := mWS (w := Cond.static yX1_interfacesOf) 65 rfl rfl
set_option maxRecDepth 20000 in
theorem q_co_X1_interfacesOf : Cond.code yX1_interfacesOf cX1_interfacesOf 5 (some .int) ∈ WS := mWS (w := Cond.code yX1_interfacesOf cX1_interfacesOf 5 (some .int)) 66 rfl rfl
set_option maxRecDepth 20000 in
theorem q_l_1_26 : Cond.methodLink RX1 26 yX1_isType ∈ WS := mWS (w := Cond.methodLink RX1 26 yX1_isType) 67 rfl rfl
set_option maxRecDepth 20000 in
theorem q_st_X1_isType : Cond.static yX1_isType ∈ WS := mWS (w := Cond.static yX1_isType) 68 rfl rfl
set_option maxRecDepth 20000 in
theorem q_co_X1_isType : Cond.code yX1_isType cX1_isType 1 (some .boolean) ∈ WS := mWS (w := Cond.code yX1_isType cX1_isType 1 (some .boolean)) 69 rfl rfl
set_option maxRecDepth 20000 in
theorem q_l_1_39 : Cond.methodLink RX1 39 yX1_parentOf ∈ WS := mWS (w := Cond.methodLink RX1 39 yX1_parentOf) 70 rfl rfl
set_option maxRecDepth 20000 in
theorem q_st_X1_parentOf : Cond.static yX1_parentOf ∈ WS := mWS (w := Cond.static yX1_parentOf) 71 rfl rfl
set_option maxRecDepth 20000 in
theorem q_co_X1_parentOf : Cond.code yX1_parentOf cX1_parentOf 1 (some .int) ∈ WS := mWS (w := Cond.code yX1_parentOf cX1_parentOf 1 (some .int)) 72 rfl rfl
set_option maxRecDepth 20000 in
theorem q_f_1_30 : Cond.fieldLink RX1 30 "LineOfHeirs$Heritage" "PARENTS" "[I" ∈ WS := mWS (w := Cond.fieldLink RX1 30 "LineOfHeirs$Heritage" "PARENTS" "[I") 73 rfl rfl
set_option maxRecDepth 20000 in
theorem q_l_1_43 : Cond.methodLink RX1 43 yX1_isInterface ∈ WS := mWS (w := Cond.methodLink RX1 43 yX1_isInterface) 75 rfl rfl
set_option maxRecDepth 20000 in
theorem q_st_X1_isInterface : Cond.static yX1_isInterface ∈ WS := mWS (w := Cond.static yX1_isInterface) 76 rfl rfl
set_option maxRecDepth 20000 in
theorem q_co_X1_isInterface : Cond.code yX1_isInterface cX1_isInterface 1 (some .boolean) ∈ WS := mWS (w := Cond.code yX1_isInterface cX1_isInterface 1 (some .boolean)) 77 rfl rfl
set_option maxRecDepth 20000 in
theorem q_f_1_46 : Cond.fieldLink RX1 46 "LineOfHeirs$Heritage" "NAMED" "[I" ∈ WS := mWS (w := Cond.fieldLink RX1 46 "LineOfHeirs$Heritage" "NAMED" "[I") 78 rfl rfl
set_option maxRecDepth 20000 in
theorem q_l_1_49 : Cond.methodLink RX1 49 yX1_holds ∈ WS := mWS (w := Cond.methodLink RX1 49 yX1_holds) 80 rfl rfl
set_option maxRecDepth 20000 in
theorem q_st_X1_holds : Cond.static yX1_holds ∈ WS := mWS (w := Cond.static yX1_holds) 81 rfl rfl
set_option maxRecDepth 20000 in
theorem q_co_X1_holds : Cond.code yX1_holds cX1_holds 2 (some .boolean) ∈ WS := mWS (w := Cond.code yX1_holds cX1_holds 2 (some .boolean)) 82 rfl rfl
set_option maxRecDepth 20000 in
theorem q_l_1_22 : Cond.methodLink RX1 22 yX1_select ∈ WS := mWS (w := Cond.methodLink RX1 22 yX1_select) 83 rfl rfl
set_option maxRecDepth 20000 in
theorem q_st_X1_select : Cond.static yX1_select ∈ WS := mWS (w := Cond.static yX1_select) 84 rfl rfl
set_option maxRecDepth 20000 in
theorem q_co_X1_select : Cond.code yX1_select cX1_select 4 (some .int) ∈ WS := mWS (w := Cond.code yX1_select cX1_select 4 (some .int)) 85 rfl rfl
set_option maxRecDepth 20000 in
theorem q_l_1_53 : Cond.methodLink RX1 53 yX1_bodyOfLine ∈ WS := mWS (w := Cond.methodLink RX1 53 yX1_bodyOfLine) 86 rfl rfl
set_option maxRecDepth 20000 in
theorem q_st_X1_bodyOfLine : Cond.static yX1_bodyOfLine ∈ WS := mWS (w := Cond.static yX1_bodyOfLine) 87 rfl rfl
set_option maxRecDepth 20000 in
theorem q_co_X1_bodyOfLine : Cond.code yX1_bodyOfLine cX1_bodyOfLine 5 (some .int) ∈ WS := mWS (w := Cond.code yX1_bodyOfLine cX1_bodyOfLine 5 (some .int)) 88 rfl rfl
set_option maxRecDepth 20000 in
theorem q_l_1_60 : Cond.methodLink RX1 60 yX1_bodyOf ∈ WS := mWS (w := Cond.methodLink RX1 60 yX1_bodyOf) 89 rfl rfl
set_option maxRecDepth 20000 in
theorem q_st_X1_bodyOf : Cond.static yX1_bodyOf ∈ WS := mWS (w := Cond.static yX1_bodyOf) 90 rfl rfl
set_option maxRecDepth 20000 in
theorem q_co_X1_bodyOf : Cond.code yX1_bodyOf cX1_bodyOf 2 (some .int) ∈ WS := mWS (w := Cond.code yX1_bodyOf cX1_bodyOf 2 (some .int)) 91 rfl rfl
set_option maxRecDepth 20000 in
theorem q_st_X4_isAct : Cond.static yX4_isAct ∈ WS := mWS (w := Cond.static yX4_isAct) 93 rfl rfl
set_option maxRecDepth 20000 in
theorem q_co_X4_isAct : Cond.code yX4_isAct cX4_isAct 1 (some .boolean) ∈ WS := mWS (w := Cond.code yX4_isAct cX4_isAct 1 (some .boolean)) 94 rfl rfl
set_option maxRecDepth 20000 in
theorem q_f_1_36 : Cond.fieldLink RX1 36 "LineOfHeirs$Heritage" "BODIES" "[I" ∈ WS := mWS (w := Cond.fieldLink RX1 36 "LineOfHeirs$Heritage" "BODIES" "[I") 95 rfl rfl
set_option maxRecDepth 20000 in
theorem q_l_1_57 : Cond.methodLink RX1 57 yX1_bodyOfInterfaces ∈ WS := mWS (w := Cond.methodLink RX1 57 yX1_bodyOfInterfaces) 97 rfl rfl
set_option maxRecDepth 20000 in
theorem q_st_X1_bodyOfInterfaces : Cond.static yX1_bodyOfInterfaces ∈ WS := mWS (w := Cond.static yX1_bodyOfInterfaces) 98 rfl rfl
set_option maxRecDepth 20000 in
theorem q_co_X1_bodyOfInterfaces : Cond.code yX1_bodyOfInterfaces cX1_bodyOfInterfaces 5 (some .int) ∈ WS := mWS (w := Cond.code yX1_bodyOfInterfaces cX1_bodyOfInterfaces 5 (some .int)) 99 rfl rfl
set_option maxRecDepth 20000 in
theorem q_l_1_63 : Cond.methodLink RX1 63 yX1_isOvertaken ∈ WS := mWS (w := Cond.methodLink RX1 63 yX1_isOvertaken) 100 rfl rfl
set_option maxRecDepth 20000 in
theorem q_st_X1_isOvertaken : Cond.static yX1_isOvertaken ∈ WS := mWS (w := Cond.static yX1_isOvertaken) 101 rfl rfl
set_option maxRecDepth 20000 in
theorem q_co_X1_isOvertaken : Cond.code yX1_isOvertaken cX1_isOvertaken 6 (some .boolean) ∈ WS := mWS (w := Cond.code yX1_isOvertaken cX1_isOvertaken 6 (some .boolean)) 102 rfl rfl
set_option maxRecDepth 20000 in
theorem q_f_1_9 : Cond.fieldLink RX1 9 "LineOfHeirs$Heritage" "borne" "[I" ∈ WS := mWS (w := Cond.fieldLink RX1 9 "LineOfHeirs$Heritage" "borne" "[I") 103 rfl rfl
set_option maxRecDepth 20000 in
theorem q_f_1_15 : Cond.fieldLink RX1 15 "LineOfHeirs$Heritage" "selected" "[I" ∈ WS := mWS (w := Cond.fieldLink RX1 15 "LineOfHeirs$Heritage" "selected" "[I") 104 rfl rfl
set_option maxRecDepth 20000 in
theorem q_ac_int : Cond.arrayClass .int ∈ WS := mWS (w := Cond.arrayClass .int) 110 rfl rfl
set_option maxRecDepth 20000 in
theorem q_cl_4_16 : Cond.classLink RX4 16 RX3 ∈ WS := mWS (w := Cond.classLink RX4 16 RX3) 111 rfl rfl
set_option maxRecDepth 20000 in
theorem q_ia_3 : Cond.instantiable RX3 2 ∈ WS := mWS (w := Cond.instantiable RX3 2) 112 rfl rfl
set_option maxRecDepth 20000 in
theorem q_im_X3_init : Cond.instanceMethod yX3_init ∈ WS := mWS (w := Cond.instanceMethod yX3_init) 114 rfl rfl
set_option maxRecDepth 20000 in
theorem q_co_X3_init : Cond.code yX3_init cX3_init 1 none ∈ WS := mWS (w := Cond.code yX3_init cX3_init 1 none) 115 rfl rfl
set_option maxRecDepth 20000 in
theorem q_l_3_3 : Cond.methodLink RX3 3 objectInit ∈ WS := mWS (w := Cond.methodLink RX3 3 objectInit) 116 rfl rfl
set_option maxRecDepth 20000 in
theorem q_f_3_11 : Cond.fieldLink RX3 11 "LineOfHeirs$Trail" "kept" "[I" ∈ WS := mWS (w := Cond.fieldLink RX3 11 "LineOfHeirs$Trail" "kept" "[I") 117 rfl rfl
set_option maxRecDepth 20000 in
theorem q_f_3_15 : Cond.fieldLink RX3 15 "LineOfHeirs$Trail" "begun" "I" ∈ WS := mWS (w := Cond.fieldLink RX3 15 "LineOfHeirs$Trail" "begun" "I") 118 rfl rfl
set_option maxRecDepth 20000 in
theorem q_cl_4_23 : Cond.classLink RX4 23 RX0 ∈ WS := mWS (w := Cond.classLink RX4 23 RX0) 125 rfl rfl
set_option maxRecDepth 20000 in
theorem q_f_4_12 : Cond.fieldLink RX4 12 "LineOfHeirs" "heritage" "LLineOfHeirs$Heritage;" ∈ WS := mWS (w := Cond.fieldLink RX4 12 "LineOfHeirs" "heritage" "LLineOfHeirs$Heritage;") 127 rfl rfl
set_option maxRecDepth 20000 in
theorem q_f_4_19 : Cond.fieldLink RX4 19 "LineOfHeirs" "trail" "LLineOfHeirs$Trail;" ∈ WS := mWS (w := Cond.fieldLink RX4 19 "LineOfHeirs" "trail" "LLineOfHeirs$Trail;") 128 rfl rfl
set_option maxRecDepth 20000 in
theorem q_f_4_25 : Cond.fieldLink RX4 25 "LineOfHeirs" "devices" "[LLineOfHeirs$Device;" ∈ WS := mWS (w := Cond.fieldLink RX4 25 "LineOfHeirs" "devices" "[LLineOfHeirs$Device;") 129 rfl rfl
set_option maxRecDepth 20000 in
theorem q_f_4_29 : Cond.fieldLink RX4 29 "LineOfHeirs" "takers" "[LLineOfHeirs$Device;" ∈ WS := mWS (w := Cond.fieldLink RX4 29 "LineOfHeirs" "takers" "[LLineOfHeirs$Device;") 130 rfl rfl
set_option maxRecDepth 20000 in
theorem q_f_4_36 : Cond.fieldLink RX4 36 "LineOfHeirs" "deviceCount" "I" ∈ WS := mWS (w := Cond.fieldLink RX4 36 "LineOfHeirs" "deviceCount" "I") 131 rfl rfl
set_option maxRecDepth 20000 in
theorem q_f_4_63 : Cond.fieldLink RX4 63 "LineOfHeirs" "linkCount" "I" ∈ WS := mWS (w := Cond.fieldLink RX4 63 "LineOfHeirs" "linkCount" "I") 132 rfl rfl
set_option maxRecDepth 20000 in
theorem q_f_4_81 : Cond.fieldLink RX4 81 "LineOfHeirs" "takerCount" "I" ∈ WS := mWS (w := Cond.fieldLink RX4 81 "LineOfHeirs" "takerCount" "I") 133 rfl rfl
set_option maxRecDepth 20000 in
theorem q_f_4_78 : Cond.fieldLink RX4 78 "LineOfHeirs" "pulse" "I" ∈ WS := mWS (w := Cond.fieldLink RX4 78 "LineOfHeirs" "pulse" "I") 134 rfl rfl
set_option maxRecDepth 20000 in
theorem q_f_4_32 : Cond.fieldLink RX4 32 "LineOfHeirs" "latestStatus" "I" ∈ WS := mWS (w := Cond.fieldLink RX4 32 "LineOfHeirs" "latestStatus" "I") 135 rfl rfl
set_option maxRecDepth 20000 in
theorem q_l_L_13 : Cond.methodLink RL 13 yX4_device ∈ WS := mWS (w := Cond.methodLink RL 13 yX4_device) 155 rfl rfl
set_option maxRecDepth 20000 in
theorem q_im_X4_device : Cond.instanceMethod yX4_device ∈ WS := mWS (w := Cond.instanceMethod yX4_device) 156 rfl rfl
set_option maxRecDepth 20000 in
theorem q_se_X4_device : Cond.selects RX4 yX4_device yX4_device ∈ WS := mWS (w := Cond.selects RX4 yX4_device yX4_device) 157 rfl rfl
set_option maxRecDepth 20000 in
theorem q_co_X4_device : Cond.code yX4_device cX4_device 4 (some .int) ∈ WS := mWS (w := Cond.code yX4_device cX4_device 4 (some .int)) 158 rfl rfl
set_option maxRecDepth 20000 in
theorem q_ia_0 : Cond.instantiable RX0 12 ∈ WS := mWS (w := Cond.instantiable RX0 12) 159 rfl rfl
set_option maxRecDepth 20000 in
theorem q_im_X0_init : Cond.instanceMethod yX0_init ∈ WS := mWS (w := Cond.instanceMethod yX0_init) 161 rfl rfl
set_option maxRecDepth 20000 in
theorem q_co_X0_init : Cond.code yX0_init cX0_init 5 none ∈ WS := mWS (w := Cond.code yX0_init cX0_init 5 none) 162 rfl rfl
set_option maxRecDepth 20000 in
theorem q_l_0_3 : Cond.methodLink RX0 3 objectInit ∈ WS := mWS (w := Cond.methodLink RX0 3 objectInit) 163 rfl rfl
set_option maxRecDepth 20000 in
theorem q_f_0_9 : Cond.fieldLink RX0 9 "LineOfHeirs$Device" "heritage" "LLineOfHeirs$Heritage;" ∈ WS := mWS (w := Cond.fieldLink RX0 9 "LineOfHeirs$Device" "heritage" "LLineOfHeirs$Heritage;") 164 rfl rfl
set_option maxRecDepth 20000 in
theorem q_f_0_15 : Cond.fieldLink RX0 15 "LineOfHeirs$Device" "trail" "LLineOfHeirs$Trail;" ∈ WS := mWS (w := Cond.fieldLink RX0 15 "LineOfHeirs$Device" "trail" "LLineOfHeirs$Trail;") 165 rfl rfl
set_option maxRecDepth 20000 in
theorem q_f_0_19 : Cond.fieldLink RX0 19 "LineOfHeirs$Device" "type" "I" ∈ WS := mWS (w := Cond.fieldLink RX0 19 "LineOfHeirs$Device" "type" "I") 166 rfl rfl
set_option maxRecDepth 20000 in
theorem q_f_0_23 : Cond.fieldLink RX0 23 "LineOfHeirs$Device" "v" "I" ∈ WS := mWS (w := Cond.fieldLink RX0 23 "LineOfHeirs$Device" "v" "I") 167 rfl rfl
set_option maxRecDepth 20000 in
theorem q_f_0_38 : Cond.fieldLink RX0 38 "LineOfHeirs$Device" "c" "I" ∈ WS := mWS (w := Cond.fieldLink RX0 38 "LineOfHeirs$Device" "c" "I") 168 rfl rfl
set_option maxRecDepth 20000 in
theorem q_f_0_54 : Cond.fieldLink RX0 54 "LineOfHeirs$Device" "firstLink" "LLineOfHeirs$Link;" ∈ WS := mWS (w := Cond.fieldLink RX0 54 "LineOfHeirs$Device" "firstLink" "LLineOfHeirs$Link;") 169 rfl rfl
set_option maxRecDepth 20000 in
theorem q_f_0_50 : Cond.fieldLink RX0 50 "LineOfHeirs$Device" "lastLink" "LLineOfHeirs$Link;" ∈ WS := mWS (w := Cond.fieldLink RX0 50 "LineOfHeirs$Device" "lastLink" "LLineOfHeirs$Link;") 171 rfl rfl
set_option maxRecDepth 20000 in
theorem q_f_0_41 : Cond.fieldLink RX0 41 "LineOfHeirs$Device" "linksFrom" "I" ∈ WS := mWS (w := Cond.fieldLink RX0 41 "LineOfHeirs$Device" "linksFrom" "I") 172 rfl rfl
set_option maxRecDepth 20000 in
theorem q_f_0_44 : Cond.fieldLink RX0 44 "LineOfHeirs$Device" "linksTo" "I" ∈ WS := mWS (w := Cond.fieldLink RX0 44 "LineOfHeirs$Device" "linksTo" "I") 173 rfl rfl
set_option maxRecDepth 20000 in
theorem q_f_0_47 : Cond.fieldLink RX0 47 "LineOfHeirs$Device" "taken" "I" ∈ WS := mWS (w := Cond.fieldLink RX0 47 "LineOfHeirs$Device" "taken" "I") 175 rfl rfl
set_option maxRecDepth 20000 in
theorem q_f_0_62 : Cond.fieldLink RX0 62 "LineOfHeirs$Device" "latestPulse" "I" ∈ WS := mWS (w := Cond.fieldLink RX0 62 "LineOfHeirs$Device" "latestPulse" "I") 176 rfl rfl
set_option maxRecDepth 20000 in
theorem q_f_0_73 : Cond.fieldLink RX0 73 "LineOfHeirs$Device" "tookAnswer" "I" ∈ WS := mWS (w := Cond.fieldLink RX0 73 "LineOfHeirs$Device" "tookAnswer" "I") 178 rfl rfl
set_option maxRecDepth 20000 in
theorem q_l_L_18 : Cond.methodLink RL 18 yX4_call ∈ WS := mWS (w := Cond.methodLink RL 18 yX4_call) 205 rfl rfl
set_option maxRecDepth 20000 in
theorem q_im_X4_call : Cond.instanceMethod yX4_call ∈ WS := mWS (w := Cond.instanceMethod yX4_call) 206 rfl rfl
set_option maxRecDepth 20000 in
theorem q_se_X4_call : Cond.selects RX4 yX4_call yX4_call ∈ WS := mWS (w := Cond.selects RX4 yX4_call yX4_call) 207 rfl rfl
set_option maxRecDepth 20000 in
theorem q_co_X4_call : Cond.code yX4_call cX4_call 6 (some .int) ∈ WS := mWS (w := Cond.code yX4_call cX4_call 6 (some .int)) 208 rfl rfl
set_option maxRecDepth 20000 in
theorem q_l_4_42 : Cond.methodLink RX4 42 yX4_find ∈ WS := mWS (w := Cond.methodLink RX4 42 yX4_find) 209 rfl rfl
set_option maxRecDepth 20000 in
theorem q_im_X4_find : Cond.instanceMethod yX4_find ∈ WS := mWS (w := Cond.instanceMethod yX4_find) 211 rfl rfl
set_option maxRecDepth 20000 in
theorem q_co_X4_find : Cond.code yX4_find cX4_find 2 (some (.object "LineOfHeirs$Device")) ∈ WS := mWS (w := Cond.code yX4_find cX4_find 2 (some (.object "LineOfHeirs$Device"))) 212 rfl rfl
set_option maxRecDepth 20000 in
theorem q_l_4_46 : Cond.methodLink RX4 46 yX4_refusal ∈ WS := mWS (w := Cond.methodLink RX4 46 yX4_refusal) 213 rfl rfl
set_option maxRecDepth 20000 in
theorem q_st_X4_refusal : Cond.static yX4_refusal ∈ WS := mWS (w := Cond.static yX4_refusal) 214 rfl rfl
set_option maxRecDepth 20000 in
theorem q_co_X4_refusal : Cond.code yX4_refusal cX4_refusal 3 (some .int) ∈ WS := mWS (w := Cond.code yX4_refusal cX4_refusal 3 (some .int)) 215 rfl rfl
set_option maxRecDepth 20000 in
theorem q_l_4_111 : Cond.methodLink RX4 111 yX4_isAct ∈ WS := mWS (w := Cond.methodLink RX4 111 yX4_isAct) 216 rfl rfl
set_option maxRecDepth 20000 in
theorem q_l_4_91 : Cond.methodLink RX4 91 yX4_isWay ∈ WS := mWS (w := Cond.methodLink RX4 91 yX4_isWay) 217 rfl rfl
set_option maxRecDepth 20000 in
theorem q_st_X4_isWay : Cond.static yX4_isWay ∈ WS := mWS (w := Cond.static yX4_isWay) 218 rfl rfl
set_option maxRecDepth 20000 in
theorem q_co_X4_isWay : Cond.code yX4_isWay cX4_isWay 1 (some .boolean) ∈ WS := mWS (w := Cond.code yX4_isWay cX4_isWay 1 (some .boolean)) 219 rfl rfl
set_option maxRecDepth 20000 in
theorem q_im_X0_bears : Cond.instanceMethod yX0_bears ∈ WS := mWS (w := Cond.instanceMethod yX0_bears) 222 rfl rfl
set_option maxRecDepth 20000 in
theorem q_co_X0_bears : Cond.code yX0_bears cX0_bears 2 (some .boolean) ∈ WS := mWS (w := Cond.code yX0_bears cX0_bears 2 (some .boolean)) 223 rfl rfl
set_option maxRecDepth 20000 in
theorem q_im_X1_bears : Cond.instanceMethod yX1_bears ∈ WS := mWS (w := Cond.instanceMethod yX1_bears) 226 rfl rfl
set_option maxRecDepth 20000 in
theorem q_co_X1_bears : Cond.code yX1_bears cX1_bears 3 (some .boolean) ∈ WS := mWS (w := Cond.code yX1_bears cX1_bears 3 (some .boolean)) 227 rfl rfl
set_option maxRecDepth 20000 in
theorem q_im_X0_hasAct : Cond.instanceMethod yX0_hasAct ∈ WS := mWS (w := Cond.instanceMethod yX0_hasAct) 231 rfl rfl
set_option maxRecDepth 20000 in
theorem q_co_X0_hasAct : Cond.code yX0_hasAct cX0_hasAct 3 (some .boolean) ∈ WS := mWS (w := Cond.code yX0_hasAct cX0_hasAct 3 (some .boolean)) 232 rfl rfl
set_option maxRecDepth 20000 in
theorem q_im_X1_kindHasAct : Cond.instanceMethod yX1_kindHasAct ∈ WS := mWS (w := Cond.instanceMethod yX1_kindHasAct) 235 rfl rfl
set_option maxRecDepth 20000 in
theorem q_co_X1_kindHasAct : Cond.code yX1_kindHasAct cX1_kindHasAct 4 (some .boolean) ∈ WS := mWS (w := Cond.code yX1_kindHasAct cX1_kindHasAct 4 (some .boolean)) 236 rfl rfl
set_option maxRecDepth 20000 in
theorem q_l_1_73 : Cond.methodLink RX1 73 yX1_bears ∈ WS := mWS (w := Cond.methodLink RX1 73 yX1_bears) 237 rfl rfl
set_option maxRecDepth 20000 in
theorem q_l_1_76 : Cond.methodLink RX1 76 yX1_hasAct ∈ WS := mWS (w := Cond.methodLink RX1 76 yX1_hasAct) 238 rfl rfl
set_option maxRecDepth 20000 in
theorem q_im_X1_hasAct : Cond.instanceMethod yX1_hasAct ∈ WS := mWS (w := Cond.instanceMethod yX1_hasAct) 240 rfl rfl
set_option maxRecDepth 20000 in
theorem q_co_X1_hasAct : Cond.code yX1_hasAct cX1_hasAct 3 (some .boolean) ∈ WS := mWS (w := Cond.code yX1_hasAct cX1_hasAct 3 (some .boolean)) 241 rfl rfl
set_option maxRecDepth 20000 in
theorem q_f_1_70 : Cond.fieldLink RX1 70 "LineOfHeirs$Heritage" "WAY_ACTS" "[I" ∈ WS := mWS (w := Cond.fieldLink RX1 70 "LineOfHeirs$Heritage" "WAY_ACTS" "[I") 242 rfl rfl
set_option maxRecDepth 20000 in
theorem q_im_X3_clear : Cond.instanceMethod yX3_clear ∈ WS := mWS (w := Cond.instanceMethod yX3_clear) 247 rfl rfl
set_option maxRecDepth 20000 in
theorem q_co_X3_clear : Cond.code yX3_clear cX3_clear 1 none ∈ WS := mWS (w := Cond.code yX3_clear cX3_clear 1 none) 248 rfl rfl
set_option maxRecDepth 20000 in
theorem q_im_X0_answer : Cond.instanceMethod yX0_answer ∈ WS := mWS (w := Cond.instanceMethod yX0_answer) 251 rfl rfl
set_option maxRecDepth 20000 in
theorem q_co_X0_answer : Cond.code yX0_answer cX0_answer 3 (some .int) ∈ WS := mWS (w := Cond.code yX0_answer cX0_answer 3 (some .int)) 252 rfl rfl
set_option maxRecDepth 20000 in
theorem q_l_0_69 : Cond.methodLink RX0 69 yX0_act ∈ WS := mWS (w := Cond.methodLink RX0 69 yX0_act) 253 rfl rfl
set_option maxRecDepth 20000 in
theorem q_im_X0_act : Cond.instanceMethod yX0_act ∈ WS := mWS (w := Cond.instanceMethod yX0_act) 255 rfl rfl
set_option maxRecDepth 20000 in
theorem q_co_X0_act : Cond.code yX0_act cX0_act 4 (some .int) ∈ WS := mWS (w := Cond.code yX0_act cX0_act 4 (some .int)) 256 rfl rfl
set_option maxRecDepth 20000 in
theorem q_im_X1_selectedOf : Cond.instanceMethod yX1_selectedOf ∈ WS := mWS (w := Cond.instanceMethod yX1_selectedOf) 259 rfl rfl
set_option maxRecDepth 20000 in
theorem q_co_X1_selectedOf : Cond.code yX1_selectedOf cX1_selectedOf 3 (some .int) ∈ WS := mWS (w := Cond.code yX1_selectedOf cX1_selectedOf 3 (some .int)) 260 rfl rfl
set_option maxRecDepth 20000 in
theorem q_l_0_83 : Cond.methodLink RX0 83 yX0_run ∈ WS := mWS (w := Cond.methodLink RX0 83 yX0_run) 261 rfl rfl
set_option maxRecDepth 20000 in
theorem q_im_X0_run : Cond.instanceMethod yX0_run ∈ WS := mWS (w := Cond.instanceMethod yX0_run) 263 rfl rfl
set_option maxRecDepth 20000 in
theorem q_co_X0_run : Cond.code yX0_run cX0_run 4 (some .int) ∈ WS := mWS (w := Cond.code yX0_run cX0_run 4 (some .int)) 264 rfl rfl
set_option maxRecDepth 20000 in
theorem q_im_X3_begin : Cond.instanceMethod yX3_begin ∈ WS := mWS (w := Cond.instanceMethod yX3_begin) 267 rfl rfl
set_option maxRecDepth 20000 in
theorem q_co_X3_begin : Cond.code yX3_begin cX3_begin 2 none ∈ WS := mWS (w := Cond.code yX3_begin cX3_begin 2 none) 268 rfl rfl
set_option maxRecDepth 20000 in
theorem q_l_0_96 : Cond.methodLink RX0 96 yX0_runOfInterface ∈ WS := mWS (w := Cond.methodLink RX0 96 yX0_runOfInterface) 269 rfl rfl
set_option maxRecDepth 20000 in
theorem q_im_X0_runOfInterface : Cond.instanceMethod yX0_runOfInterface ∈ WS := mWS (w := Cond.instanceMethod yX0_runOfInterface) 271 rfl rfl
set_option maxRecDepth 20000 in
theorem q_co_X0_runOfInterface : Cond.code yX0_runOfInterface cX0_runOfInterface 4 (some .int) ∈ WS := mWS (w := Cond.code yX0_runOfInterface cX0_runOfInterface 4 (some .int)) 272 rfl rfl
set_option maxRecDepth 20000 in
theorem q_l_0_108 : Cond.methodLink RX0 108 yX0_interfaceAct ∈ WS := mWS (w := Cond.methodLink RX0 108 yX0_interfaceAct) 273 rfl rfl
set_option maxRecDepth 20000 in
theorem q_im_X0_interfaceAct : Cond.instanceMethod yX0_interfaceAct ∈ WS := mWS (w := Cond.instanceMethod yX0_interfaceAct) 275 rfl rfl
set_option maxRecDepth 20000 in
theorem q_co_X0_interfaceAct : Cond.code yX0_interfaceAct cX0_interfaceAct 5 (some .int) ∈ WS := mWS (w := Cond.code yX0_interfaceAct cX0_interfaceAct 5 (some .int)) 276 rfl rfl
set_option maxRecDepth 20000 in
theorem q_l_0_99 : Cond.methodLink RX0 99 yX0_runOfAncestor ∈ WS := mWS (w := Cond.methodLink RX0 99 yX0_runOfAncestor) 277 rfl rfl
set_option maxRecDepth 20000 in
theorem q_im_X0_runOfAncestor : Cond.instanceMethod yX0_runOfAncestor ∈ WS := mWS (w := Cond.instanceMethod yX0_runOfAncestor) 279 rfl rfl
set_option maxRecDepth 20000 in
theorem q_co_X0_runOfAncestor : Cond.code yX0_runOfAncestor cX0_runOfAncestor 4 (some .int) ∈ WS := mWS (w := Cond.code yX0_runOfAncestor cX0_runOfAncestor 4 (some .int)) 280 rfl rfl
set_option maxRecDepth 20000 in
theorem q_l_0_102 : Cond.methodLink RX0 102 yX0_runOfEarlierKind ∈ WS := mWS (w := Cond.methodLink RX0 102 yX0_runOfEarlierKind) 281 rfl rfl
set_option maxRecDepth 20000 in
theorem q_im_X0_runOfEarlierKind : Cond.instanceMethod yX0_runOfEarlierKind ∈ WS := mWS (w := Cond.instanceMethod yX0_runOfEarlierKind) 283 rfl rfl
set_option maxRecDepth 20000 in
theorem q_co_X0_runOfEarlierKind : Cond.code yX0_runOfEarlierKind cX0_runOfEarlierKind 4 (some .int) ∈ WS := mWS (w := Cond.code yX0_runOfEarlierKind cX0_runOfEarlierKind 4 (some .int)) 284 rfl rfl
set_option maxRecDepth 20000 in
theorem q_l_0_112 : Cond.methodLink RX0 112 yX0_parentAct ∈ WS := mWS (w := Cond.methodLink RX0 112 yX0_parentAct) 285 rfl rfl
set_option maxRecDepth 20000 in
theorem q_im_X0_parentAct : Cond.instanceMethod yX0_parentAct ∈ WS := mWS (w := Cond.instanceMethod yX0_parentAct) 287 rfl rfl
set_option maxRecDepth 20000 in
theorem q_co_X0_parentAct : Cond.code yX0_parentAct cX0_parentAct 5 (some .int) ∈ WS := mWS (w := Cond.code yX0_parentAct cX0_parentAct 5 (some .int)) 288 rfl rfl
set_option maxRecDepth 20000 in
theorem q_l_0_105 : Cond.methodLink RX0 105 yX0_runOfLaterKind ∈ WS := mWS (w := Cond.methodLink RX0 105 yX0_runOfLaterKind) 290 rfl rfl
set_option maxRecDepth 20000 in
theorem q_im_X0_runOfLaterKind : Cond.instanceMethod yX0_runOfLaterKind ∈ WS := mWS (w := Cond.instanceMethod yX0_runOfLaterKind) 292 rfl rfl
set_option maxRecDepth 20000 in
theorem q_co_X0_runOfLaterKind : Cond.code yX0_runOfLaterKind cX0_runOfLaterKind 4 (some .int) ∈ WS := mWS (w := Cond.code yX0_runOfLaterKind cX0_runOfLaterKind 4 (some .int)) 293 rfl rfl
set_option maxRecDepth 20000 in
theorem q_l_L_23 : Cond.methodLink RL 23 yX4_every ∈ WS := mWS (w := Cond.methodLink RL 23 yX4_every) 294 rfl rfl
set_option maxRecDepth 20000 in
theorem q_im_X4_every : Cond.instanceMethod yX4_every ∈ WS := mWS (w := Cond.instanceMethod yX4_every) 295 rfl rfl
set_option maxRecDepth 20000 in
theorem q_se_X4_every : Cond.selects RX4 yX4_every yX4_every ∈ WS := mWS (w := Cond.selects RX4 yX4_every yX4_every) 296 rfl rfl
set_option maxRecDepth 20000 in
theorem q_co_X4_every : Cond.code yX4_every cX4_every 7 (some .int) ∈ WS := mWS (w := Cond.code yX4_every cX4_every 7 (some .int)) 297 rfl rfl
set_option maxRecDepth 20000 in
theorem q_l_4_57 : Cond.methodLink RX4 57 yX4_refusalOfAll ∈ WS := mWS (w := Cond.methodLink RX4 57 yX4_refusalOfAll) 298 rfl rfl
set_option maxRecDepth 20000 in
theorem q_im_X4_refusalOfAll : Cond.instanceMethod yX4_refusalOfAll ∈ WS := mWS (w := Cond.instanceMethod yX4_refusalOfAll) 300 rfl rfl
set_option maxRecDepth 20000 in
theorem q_co_X4_refusalOfAll : Cond.code yX4_refusalOfAll cX4_refusalOfAll 3 (some .int) ∈ WS := mWS (w := Cond.code yX4_refusalOfAll cX4_refusalOfAll 3 (some .int)) 301 rfl rfl
set_option maxRecDepth 20000 in
theorem q_l_L_28 : Cond.methodLink RL 28 yX4_feed ∈ WS := mWS (w := Cond.methodLink RL 28 yX4_feed) 303 rfl rfl
set_option maxRecDepth 20000 in
theorem q_im_X4_feed : Cond.instanceMethod yX4_feed ∈ WS := mWS (w := Cond.instanceMethod yX4_feed) 304 rfl rfl
set_option maxRecDepth 20000 in
theorem q_se_X4_feed : Cond.selects RX4 yX4_feed yX4_feed ∈ WS := mWS (w := Cond.selects RX4 yX4_feed yX4_feed) 305 rfl rfl
set_option maxRecDepth 20000 in
theorem q_co_X4_feed : Cond.code yX4_feed cX4_feed 6 (some .int) ∈ WS := mWS (w := Cond.code yX4_feed cX4_feed 6 (some .int)) 306 rfl rfl
set_option maxRecDepth 20000 in
theorem q_l_4_60 : Cond.methodLink RX4 60 yX4_answerToByte ∈ WS := mWS (w := Cond.methodLink RX4 60 yX4_answerToByte) 307 rfl rfl
set_option maxRecDepth 20000 in
theorem q_st_X4_answerToByte : Cond.static yX4_answerToByte ∈ WS := mWS (w := Cond.static yX4_answerToByte) 308 rfl rfl
set_option maxRecDepth 20000 in
theorem q_co_X4_answerToByte : Cond.code yX4_answerToByte cX4_answerToByte 5 (some .int) ∈ WS := mWS (w := Cond.code yX4_answerToByte cX4_answerToByte 5 (some .int)) 309 rfl rfl
set_option maxRecDepth 20000 in
theorem q_l_L_32 : Cond.methodLink RL 32 yX4_link ∈ WS := mWS (w := Cond.methodLink RL 32 yX4_link) 310 rfl rfl
set_option maxRecDepth 20000 in
theorem q_im_X4_link : Cond.instanceMethod yX4_link ∈ WS := mWS (w := Cond.instanceMethod yX4_link) 311 rfl rfl
set_option maxRecDepth 20000 in
theorem q_se_X4_link : Cond.selects RX4 yX4_link yX4_link ∈ WS := mWS (w := Cond.selects RX4 yX4_link yX4_link) 312 rfl rfl
set_option maxRecDepth 20000 in
theorem q_co_X4_link : Cond.code yX4_link cX4_link 6 (some .int) ∈ WS := mWS (w := Cond.code yX4_link cX4_link 6 (some .int)) 313 rfl rfl
set_option maxRecDepth 20000 in
theorem q_cl_4_66 : Cond.classLink RX4 66 RX2 ∈ WS := mWS (w := Cond.classLink RX4 66 RX2) 314 rfl rfl
set_option maxRecDepth 20000 in
theorem q_ia_2 : Cond.instantiable RX2 2 ∈ WS := mWS (w := Cond.instantiable RX2 2) 315 rfl rfl
set_option maxRecDepth 20000 in
theorem q_im_X2_init : Cond.instanceMethod yX2_init ∈ WS := mWS (w := Cond.instanceMethod yX2_init) 317 rfl rfl
set_option maxRecDepth 20000 in
theorem q_co_X2_init : Cond.code yX2_init cX2_init 2 none ∈ WS := mWS (w := Cond.code yX2_init cX2_init 2 none) 318 rfl rfl
set_option maxRecDepth 20000 in
theorem q_l_2_1 : Cond.methodLink RX2 1 objectInit ∈ WS := mWS (w := Cond.methodLink RX2 1 objectInit) 319 rfl rfl
set_option maxRecDepth 20000 in
theorem q_f_2_7 : Cond.fieldLink RX2 7 "LineOfHeirs$Link" "to" "LLineOfHeirs$Device;" ∈ WS := mWS (w := Cond.fieldLink RX2 7 "LineOfHeirs$Link" "to" "LLineOfHeirs$Device;") 320 rfl rfl
set_option maxRecDepth 20000 in
theorem q_im_X0_addLink : Cond.instanceMethod yX0_addLink ∈ WS := mWS (w := Cond.instanceMethod yX0_addLink) 331 rfl rfl
set_option maxRecDepth 20000 in
theorem q_co_X0_addLink : Cond.code yX0_addLink cX0_addLink 2 none ∈ WS := mWS (w := Cond.code yX0_addLink cX0_addLink 2 none) 332 rfl rfl
set_option maxRecDepth 20000 in
theorem q_l_L_36 : Cond.methodLink RL 36 yX4_pass ∈ WS := mWS (w := Cond.methodLink RL 36 yX4_pass) 333 rfl rfl
set_option maxRecDepth 20000 in
theorem q_im_X4_pass : Cond.instanceMethod yX4_pass ∈ WS := mWS (w := Cond.instanceMethod yX4_pass) 334 rfl rfl
set_option maxRecDepth 20000 in
theorem q_se_X4_pass : Cond.selects RX4 yX4_pass yX4_pass ∈ WS := mWS (w := Cond.selects RX4 yX4_pass yX4_pass) 335 rfl rfl
set_option maxRecDepth 20000 in
theorem q_co_X4_pass : Cond.code yX4_pass cX4_pass 6 (some .int) ∈ WS := mWS (w := Cond.code yX4_pass cX4_pass 6 (some .int)) 336 rfl rfl
set_option maxRecDepth 20000 in
theorem q_l_4_84 : Cond.methodLink RX4 84 yX4_letTake ∈ WS := mWS (w := Cond.methodLink RX4 84 yX4_letTake) 337 rfl rfl
set_option maxRecDepth 20000 in
theorem q_im_X4_letTake : Cond.instanceMethod yX4_letTake ∈ WS := mWS (w := Cond.instanceMethod yX4_letTake) 339 rfl rfl
set_option maxRecDepth 20000 in
theorem q_co_X4_letTake : Cond.code yX4_letTake cX4_letTake 3 none ∈ WS := mWS (w := Cond.code yX4_letTake cX4_letTake 3 none) 340 rfl rfl
set_option maxRecDepth 20000 in
theorem q_im_X0_take : Cond.instanceMethod yX0_take ∈ WS := mWS (w := Cond.instanceMethod yX0_take) 343 rfl rfl
set_option maxRecDepth 20000 in
theorem q_co_X0_take : Cond.code yX0_take cX0_take 3 none ∈ WS := mWS (w := Cond.code yX0_take cX0_take 3 none) 344 rfl rfl
set_option maxRecDepth 20000 in
theorem q_l_0_65 : Cond.methodLink RX0 65 yX0_takingAct ∈ WS := mWS (w := Cond.methodLink RX0 65 yX0_takingAct) 345 rfl rfl
set_option maxRecDepth 20000 in
theorem q_im_X0_takingAct : Cond.instanceMethod yX0_takingAct ∈ WS := mWS (w := Cond.instanceMethod yX0_takingAct) 347 rfl rfl
set_option maxRecDepth 20000 in
theorem q_co_X0_takingAct : Cond.code yX0_takingAct cX0_takingAct 1 (some .int) ∈ WS := mWS (w := Cond.code yX0_takingAct cX0_takingAct 1 (some .int)) 348 rfl rfl
set_option maxRecDepth 20000 in
theorem q_l_0_76 : Cond.methodLink RX0 76 yX0_bears ∈ WS := mWS (w := Cond.methodLink RX0 76 yX0_bears) 349 rfl rfl
set_option maxRecDepth 20000 in
theorem q_l_4_88 : Cond.methodLink RX4 88 yX4_passOn ∈ WS := mWS (w := Cond.methodLink RX4 88 yX4_passOn) 350 rfl rfl
set_option maxRecDepth 20000 in
theorem q_im_X4_passOn : Cond.instanceMethod yX4_passOn ∈ WS := mWS (w := Cond.instanceMethod yX4_passOn) 352 rfl rfl
set_option maxRecDepth 20000 in
theorem q_co_X4_passOn : Cond.code yX4_passOn cX4_passOn 3 none ∈ WS := mWS (w := Cond.code yX4_passOn cX4_passOn 3 none) 353 rfl rfl
set_option maxRecDepth 20000 in
theorem q_l_L_40 : Cond.methodLink RL 40 yX4_able ∈ WS := mWS (w := Cond.methodLink RL 40 yX4_able) 354 rfl rfl
set_option maxRecDepth 20000 in
theorem q_im_X4_able : Cond.instanceMethod yX4_able ∈ WS := mWS (w := Cond.instanceMethod yX4_able) 355 rfl rfl
set_option maxRecDepth 20000 in
theorem q_se_X4_able : Cond.selects RX4 yX4_able yX4_able ∈ WS := mWS (w := Cond.selects RX4 yX4_able yX4_able) 356 rfl rfl
set_option maxRecDepth 20000 in
theorem q_co_X4_able : Cond.code yX4_able cX4_able 4 (some .int) ∈ WS := mWS (w := Cond.code yX4_able cX4_able 4 (some .int)) 357 rfl rfl
set_option maxRecDepth 20000 in
theorem q_l_L_44 : Cond.methodLink RL 44 yX4_chain ∈ WS := mWS (w := Cond.methodLink RL 44 yX4_chain) 358 rfl rfl
set_option maxRecDepth 20000 in
theorem q_im_X4_chain : Cond.instanceMethod yX4_chain ∈ WS := mWS (w := Cond.instanceMethod yX4_chain) 359 rfl rfl
set_option maxRecDepth 20000 in
theorem q_se_X4_chain : Cond.selects RX4 yX4_chain yX4_chain ∈ WS := mWS (w := Cond.selects RX4 yX4_chain yX4_chain) 360 rfl rfl
set_option maxRecDepth 20000 in
theorem q_co_X4_chain : Cond.code yX4_chain cX4_chain 2 (some .int) ∈ WS := mWS (w := Cond.code yX4_chain cX4_chain 2 (some .int)) 361 rfl rfl
set_option maxRecDepth 20000 in
theorem q_im_X3_keptAt : Cond.instanceMethod yX3_keptAt ∈ WS := mWS (w := Cond.instanceMethod yX3_keptAt) 364 rfl rfl
set_option maxRecDepth 20000 in
theorem q_co_X3_keptAt : Cond.code yX3_keptAt cX3_keptAt 2 (some .int) ∈ WS := mWS (w := Cond.code yX3_keptAt cX3_keptAt 2 (some .int)) 365 rfl rfl
set_option maxRecDepth 20000 in
theorem q_l_L_49 : Cond.methodLink RL 49 yX4_ran ∈ WS := mWS (w := Cond.methodLink RL 49 yX4_ran) 366 rfl rfl
set_option maxRecDepth 20000 in
theorem q_im_X4_ran : Cond.instanceMethod yX4_ran ∈ WS := mWS (w := Cond.instanceMethod yX4_ran) 367 rfl rfl
set_option maxRecDepth 20000 in
theorem q_se_X4_ran : Cond.selects RX4 yX4_ran yX4_ran ∈ WS := mWS (w := Cond.selects RX4 yX4_ran yX4_ran) 368 rfl rfl
set_option maxRecDepth 20000 in
theorem q_co_X4_ran : Cond.code yX4_ran cX4_ran 1 (some .int) ∈ WS := mWS (w := Cond.code yX4_ran cX4_ran 1 (some .int)) 369 rfl rfl
set_option maxRecDepth 20000 in
theorem q_l_L_54 : Cond.methodLink RL 54 yX4_state ∈ WS := mWS (w := Cond.methodLink RL 54 yX4_state) 370 rfl rfl
set_option maxRecDepth 20000 in
theorem q_im_X4_state : Cond.instanceMethod yX4_state ∈ WS := mWS (w := Cond.instanceMethod yX4_state) 371 rfl rfl
set_option maxRecDepth 20000 in
theorem q_se_X4_state : Cond.selects RX4 yX4_state yX4_state ∈ WS := mWS (w := Cond.selects RX4 yX4_state yX4_state) 372 rfl rfl
set_option maxRecDepth 20000 in
theorem q_co_X4_state : Cond.code yX4_state cX4_state 4 (some .int) ∈ WS := mWS (w := Cond.code yX4_state cX4_state 4 (some .int)) 373 rfl rfl
set_option maxRecDepth 20000 in
theorem q_im_X0_fact : Cond.instanceMethod yX0_fact ∈ WS := mWS (w := Cond.instanceMethod yX0_fact) 376 rfl rfl
set_option maxRecDepth 20000 in
theorem q_co_X0_fact : Cond.code yX0_fact cX0_fact 2 (some .int) ∈ WS := mWS (w := Cond.code yX0_fact cX0_fact 2 (some .int)) 377 rfl rfl
set_option maxRecDepth 20000 in
theorem q_l_L_58 : Cond.methodLink RL 58 yX4_size ∈ WS := mWS (w := Cond.methodLink RL 58 yX4_size) 378 rfl rfl
set_option maxRecDepth 20000 in
theorem q_im_X4_size : Cond.instanceMethod yX4_size ∈ WS := mWS (w := Cond.instanceMethod yX4_size) 379 rfl rfl
set_option maxRecDepth 20000 in
theorem q_se_X4_size : Cond.selects RX4 yX4_size yX4_size ∈ WS := mWS (w := Cond.selects RX4 yX4_size yX4_size) 380 rfl rfl
set_option maxRecDepth 20000 in
theorem q_co_X4_size : Cond.code yX4_size cX4_size 2 (some .int) ∈ WS := mWS (w := Cond.code yX4_size cX4_size 2 (some .int)) 381 rfl rfl
set_option maxRecDepth 20000 in
theorem q_l_4_108 : Cond.methodLink RX4 108 yX4_countBearers ∈ WS := mWS (w := Cond.methodLink RX4 108 yX4_countBearers) 382 rfl rfl
set_option maxRecDepth 20000 in
theorem q_im_X4_countBearers : Cond.instanceMethod yX4_countBearers ∈ WS := mWS (w := Cond.instanceMethod yX4_countBearers) 384 rfl rfl
set_option maxRecDepth 20000 in
theorem q_co_X4_countBearers : Cond.code yX4_countBearers cX4_countBearers 5 (some .int) ∈ WS := mWS (w := Cond.code yX4_countBearers cX4_countBearers 5 (some .int)) 385 rfl rfl
set_option maxRecDepth 20000 in
theorem q_l_L_62 : Cond.methodLink RL 62 yX4_status ∈ WS := mWS (w := Cond.methodLink RL 62 yX4_status) 386 rfl rfl
set_option maxRecDepth 20000 in
theorem q_im_X4_status : Cond.instanceMethod yX4_status ∈ WS := mWS (w := Cond.instanceMethod yX4_status) 387 rfl rfl
set_option maxRecDepth 20000 in
theorem q_se_X4_status : Cond.selects RX4 yX4_status yX4_status ∈ WS := mWS (w := Cond.selects RX4 yX4_status yX4_status) 388 rfl rfl
set_option maxRecDepth 20000 in
theorem q_co_X4_status : Cond.code yX4_status cX4_status 1 (some .int) ∈ WS := mWS (w := Cond.code yX4_status cX4_status 1 (some .int)) 389 rfl rfl
set_option maxRecDepth 20000 in
theorem q_cl_L_10 : Cond.classLink RL 10 RX5 ∈ WS := mWS (w := Cond.classLink RL 10 RX5) 390 rfl rfl
set_option maxRecDepth 20000 in
theorem q_ia_5 : Cond.instantiable RX5 28 ∈ WS := mWS (w := Cond.instantiable RX5 28) 391 rfl rfl
set_option maxRecDepth 20000 in
theorem q_l_L_12 : Cond.methodLink RL 12 yX5_init ∈ WS := mWS (w := Cond.methodLink RL 12 yX5_init) 392 rfl rfl
set_option maxRecDepth 20000 in
theorem q_im_X5_init : Cond.instanceMethod yX5_init ∈ WS := mWS (w := Cond.instanceMethod yX5_init) 393 rfl rfl
set_option maxRecDepth 20000 in
theorem q_co_X5_init : Cond.code yX5_init cX5_init 3 none ∈ WS := mWS (w := Cond.code yX5_init cX5_init 3 none) 394 rfl rfl
set_option maxRecDepth 20000 in
theorem q_l_5_1 : Cond.methodLink RX5 1 objectInit ∈ WS := mWS (w := Cond.methodLink RX5 1 objectInit) 395 rfl rfl
set_option maxRecDepth 20000 in
theorem q_l_5_77 : Cond.methodLink RX5 77 yX5_have ∈ WS := mWS (w := Cond.methodLink RX5 77 yX5_have) 396 rfl rfl
set_option maxRecDepth 20000 in
theorem q_im_X5_have : Cond.instanceMethod yX5_have ∈ WS := mWS (w := Cond.instanceMethod yX5_have) 398 rfl rfl
set_option maxRecDepth 20000 in
theorem q_co_X5_have : Cond.code yX5_have cX5_have 4 none ∈ WS := mWS (w := Cond.code yX5_have cX5_have 4 none) 399 rfl rfl
set_option maxRecDepth 20000 in
theorem q_l_5_81 : Cond.methodLink RX5 81 yX5_heir ∈ WS := mWS (w := Cond.methodLink RX5 81 yX5_heir) 400 rfl rfl
set_option maxRecDepth 20000 in
theorem q_im_X5_heir : Cond.instanceMethod yX5_heir ∈ WS := mWS (w := Cond.instanceMethod yX5_heir) 402 rfl rfl
set_option maxRecDepth 20000 in
theorem q_co_X5_heir : Cond.code yX5_heir cX5_heir 4 none ∈ WS := mWS (w := Cond.code yX5_heir cX5_heir 4 none) 403 rfl rfl
set_option maxRecDepth 20000 in
theorem q_l_5_88 : Cond.methodLink RX5 88 yX5_closed ∈ WS := mWS (w := Cond.methodLink RX5 88 yX5_closed) 404 rfl rfl
set_option maxRecDepth 20000 in
theorem q_st_X5_closed : Cond.static yX5_closed ∈ WS := mWS (w := Cond.static yX5_closed) 405 rfl rfl
set_option maxRecDepth 20000 in
theorem q_co_X5_closed : Cond.code yX5_closed cX5_closed 2 (some .int) ∈ WS := mWS (w := Cond.code yX5_closed cX5_closed 2 (some .int)) 406 rfl rfl
set_option maxRecDepth 20000 in
theorem q_l_5_84 : Cond.methodLink RX5 84 yX5_bit ∈ WS := mWS (w := Cond.methodLink RX5 84 yX5_bit) 407 rfl rfl
set_option maxRecDepth 20000 in
theorem q_st_X5_bit : Cond.static yX5_bit ∈ WS := mWS (w := Cond.static yX5_bit) 408 rfl rfl
set_option maxRecDepth 20000 in
theorem q_co_X5_bit : Cond.code yX5_bit cX5_bit 1 (some .int) ∈ WS := mWS (w := Cond.code yX5_bit cX5_bit 1 (some .int)) 409 rfl rfl
set_option maxRecDepth 20000 in
theorem q_l_5_91 : Cond.methodLink RX5 91 yX5_lowest ∈ WS := mWS (w := Cond.methodLink RX5 91 yX5_lowest) 410 rfl rfl
set_option maxRecDepth 20000 in
theorem q_im_X5_lowest : Cond.instanceMethod yX5_lowest ∈ WS := mWS (w := Cond.instanceMethod yX5_lowest) 412 rfl rfl
set_option maxRecDepth 20000 in
theorem q_co_X5_lowest : Cond.code yX5_lowest cX5_lowest 6 (some .int) ∈ WS := mWS (w := Cond.code yX5_lowest cX5_lowest 6 (some .int)) 413 rfl rfl
set_option maxRecDepth 20000 in
theorem q_l_5_95 : Cond.methodLink RX5 95 yX5_select ∈ WS := mWS (w := Cond.methodLink RX5 95 yX5_select) 414 rfl rfl
set_option maxRecDepth 20000 in
theorem q_im_X5_select : Cond.instanceMethod yX5_select ∈ WS := mWS (w := Cond.instanceMethod yX5_select) 416 rfl rfl
set_option maxRecDepth 20000 in
theorem q_co_X5_select : Cond.code yX5_select cX5_select 4 (some .int) ∈ WS := mWS (w := Cond.code yX5_select cX5_select 4 (some .int)) 417 rfl rfl
set_option maxRecDepth 20000 in
theorem q_f_5_9 : Cond.fieldLink RX5 9 "LineOfHeirsModel" "code" "[I" ∈ WS := mWS (w := Cond.fieldLink RX5 9 "LineOfHeirsModel" "code" "[I") 418 rfl rfl
set_option maxRecDepth 20000 in
theorem q_f_5_13 : Cond.fieldLink RX5 13 "LineOfHeirsModel" "start" "[I" ∈ WS := mWS (w := Cond.fieldLink RX5 13 "LineOfHeirsModel" "start" "[I") 419 rfl rfl
set_option maxRecDepth 20000 in
theorem q_f_5_16 : Cond.fieldLink RX5 16 "LineOfHeirsModel" "parent" "[I" ∈ WS := mWS (w := Cond.fieldLink RX5 16 "LineOfHeirsModel" "parent" "[I") 420 rfl rfl
set_option maxRecDepth 20000 in
theorem q_f_5_19 : Cond.fieldLink RX5 19 "LineOfHeirsModel" "bears" "[I" ∈ WS := mWS (w := Cond.fieldLink RX5 19 "LineOfHeirsModel" "bears" "[I") 421 rfl rfl
set_option maxRecDepth 20000 in
theorem q_f_5_22 : Cond.fieldLink RX5 22 "LineOfHeirsModel" "has" "[I" ∈ WS := mWS (w := Cond.fieldLink RX5 22 "LineOfHeirsModel" "has" "[I") 422 rfl rfl
set_option maxRecDepth 20000 in
theorem q_f_5_25 : Cond.fieldLink RX5 25 "LineOfHeirsModel" "chosen" "[I" ∈ WS := mWS (w := Cond.fieldLink RX5 25 "LineOfHeirsModel" "chosen" "[I") 423 rfl rfl
set_option maxRecDepth 20000 in
theorem q_f_5_28 : Cond.fieldLink RX5 28 "LineOfHeirsModel" "actsOf" "[I" ∈ WS := mWS (w := Cond.fieldLink RX5 28 "LineOfHeirsModel" "actsOf" "[I") 424 rfl rfl
set_option maxRecDepth 20000 in
theorem q_f_5_31 : Cond.fieldLink RX5 31 "LineOfHeirsModel" "actsOfKind" "[I" ∈ WS := mWS (w := Cond.fieldLink RX5 31 "LineOfHeirsModel" "actsOfKind" "[I") 425 rfl rfl
set_option maxRecDepth 20000 in
theorem q_f_5_34 : Cond.fieldLink RX5 34 "LineOfHeirsModel" "kindOf" "[I" ∈ WS := mWS (w := Cond.fieldLink RX5 34 "LineOfHeirsModel" "kindOf" "[I") 426 rfl rfl
set_option maxRecDepth 20000 in
theorem q_f_5_37 : Cond.fieldLink RX5 37 "LineOfHeirsModel" "valueOf" "[I" ∈ WS := mWS (w := Cond.fieldLink RX5 37 "LineOfHeirsModel" "valueOf" "[I") 427 rfl rfl
set_option maxRecDepth 20000 in
theorem q_f_5_40 : Cond.fieldLink RX5 40 "LineOfHeirsModel" "countOf" "[I" ∈ WS := mWS (w := Cond.fieldLink RX5 40 "LineOfHeirsModel" "countOf" "[I") 428 rfl rfl
set_option maxRecDepth 20000 in
theorem q_f_5_43 : Cond.fieldLink RX5 43 "LineOfHeirsModel" "takenOf" "[I" ∈ WS := mWS (w := Cond.fieldLink RX5 43 "LineOfHeirsModel" "takenOf" "[I") 429 rfl rfl
set_option maxRecDepth 20000 in
theorem q_f_5_123 : Cond.fieldLink RX5 123 "LineOfHeirsModel" "devices" "I" ∈ WS := mWS (w := Cond.fieldLink RX5 123 "LineOfHeirsModel" "devices" "I") 430 rfl rfl
set_option maxRecDepth 20000 in
theorem q_f_5_46 : Cond.fieldLink RX5 46 "LineOfHeirsModel" "from" "[I" ∈ WS := mWS (w := Cond.fieldLink RX5 46 "LineOfHeirsModel" "from" "[I") 431 rfl rfl
set_option maxRecDepth 20000 in
theorem q_f_5_49 : Cond.fieldLink RX5 49 "LineOfHeirsModel" "to" "[I" ∈ WS := mWS (w := Cond.fieldLink RX5 49 "LineOfHeirsModel" "to" "[I") 432 rfl rfl
set_option maxRecDepth 20000 in
theorem q_f_5_160 : Cond.fieldLink RX5 160 "LineOfHeirsModel" "links" "I" ∈ WS := mWS (w := Cond.fieldLink RX5 160 "LineOfHeirsModel" "links" "I") 433 rfl rfl
set_option maxRecDepth 20000 in
theorem q_f_5_52 : Cond.fieldLink RX5 52 "LineOfHeirsModel" "row" "[I" ∈ WS := mWS (w := Cond.fieldLink RX5 52 "LineOfHeirsModel" "row" "[I") 434 rfl rfl
set_option maxRecDepth 20000 in
theorem q_f_5_55 : Cond.fieldLink RX5 55 "LineOfHeirsModel" "answer" "[I" ∈ WS := mWS (w := Cond.fieldLink RX5 55 "LineOfHeirsModel" "answer" "[I") 435 rfl rfl
set_option maxRecDepth 20000 in
theorem q_f_5_58 : Cond.fieldLink RX5 58 "LineOfHeirsModel" "isIn" "[Z" ∈ WS := mWS (w := Cond.fieldLink RX5 58 "LineOfHeirsModel" "isIn" "[Z") 436 rfl rfl
set_option maxRecDepth 20000 in
theorem q_f_5_62 : Cond.fieldLink RX5 62 "LineOfHeirsModel" "kept" "[I" ∈ WS := mWS (w := Cond.fieldLink RX5 62 "LineOfHeirsModel" "kept" "[I") 437 rfl rfl
set_option maxRecDepth 20000 in
theorem q_f_5_102 : Cond.fieldLink RX5 102 "LineOfHeirsModel" "began" "I" ∈ WS := mWS (w := Cond.fieldLink RX5 102 "LineOfHeirsModel" "began" "I") 438 rfl rfl
set_option maxRecDepth 20000 in
theorem q_f_5_126 : Cond.fieldLink RX5 126 "LineOfHeirsModel" "status" "I" ∈ WS := mWS (w := Cond.fieldLink RX5 126 "LineOfHeirsModel" "status" "I") 439 rfl rfl
set_option maxRecDepth 20000 in
theorem q_f_5_65 : Cond.fieldLink RX5 65 "LineOfHeirsModel" "frameBody" "[I" ∈ WS := mWS (w := Cond.fieldLink RX5 65 "LineOfHeirsModel" "frameBody" "[I") 440 rfl rfl
set_option maxRecDepth 20000 in
theorem q_f_5_68 : Cond.fieldLink RX5 68 "LineOfHeirsModel" "frameAt" "[I" ∈ WS := mWS (w := Cond.fieldLink RX5 68 "LineOfHeirsModel" "frameAt" "[I") 441 rfl rfl
set_option maxRecDepth 20000 in
theorem q_f_5_71 : Cond.fieldLink RX5 71 "LineOfHeirsModel" "frameX" "[I" ∈ WS := mWS (w := Cond.fieldLink RX5 71 "LineOfHeirsModel" "frameX" "[I") 442 rfl rfl
set_option maxRecDepth 20000 in
theorem q_f_5_74 : Cond.fieldLink RX5 74 "LineOfHeirsModel" "pile" "[I" ∈ WS := mWS (w := Cond.fieldLink RX5 74 "LineOfHeirsModel" "pile" "[I") 443 rfl rfl
set_option maxRecDepth 20000 in
theorem q_f_5_105 : Cond.fieldLink RX5 105 "LineOfHeirsModel" "frames" "I" ∈ WS := mWS (w := Cond.fieldLink RX5 105 "LineOfHeirsModel" "frames" "I") 444 rfl rfl
set_option maxRecDepth 20000 in
theorem q_f_5_98 : Cond.fieldLink RX5 98 "LineOfHeirsModel" "piled" "I" ∈ WS := mWS (w := Cond.fieldLink RX5 98 "LineOfHeirsModel" "piled" "I") 445 rfl rfl
set_option maxRecDepth 20000 in
theorem q_ac_boolean : Cond.arrayClass .boolean ∈ WS := mWS (w := Cond.arrayClass .boolean) 503 rfl rfl
set_option maxRecDepth 20000 in
theorem q_l_L_17 : Cond.methodLink RL 17 yX5_device ∈ WS := mWS (w := Cond.methodLink RL 17 yX5_device) 504 rfl rfl
set_option maxRecDepth 20000 in
theorem q_im_X5_device : Cond.instanceMethod yX5_device ∈ WS := mWS (w := Cond.instanceMethod yX5_device) 505 rfl rfl
set_option maxRecDepth 20000 in
theorem q_se_X5_device : Cond.selects RX5 yX5_device yX5_device ∈ WS := mWS (w := Cond.selects RX5 yX5_device yX5_device) 506 rfl rfl
set_option maxRecDepth 20000 in
theorem q_co_X5_device : Cond.code yX5_device cX5_device 3 (some .int) ∈ WS := mWS (w := Cond.code yX5_device cX5_device 3 (some .int)) 507 rfl rfl
set_option maxRecDepth 20000 in
theorem q_l_L_22 : Cond.methodLink RL 22 yX5_call ∈ WS := mWS (w := Cond.methodLink RL 22 yX5_call) 508 rfl rfl
set_option maxRecDepth 20000 in
theorem q_im_X5_call : Cond.instanceMethod yX5_call ∈ WS := mWS (w := Cond.instanceMethod yX5_call) 509 rfl rfl
set_option maxRecDepth 20000 in
theorem q_se_X5_call : Cond.selects RX5 yX5_call yX5_call ∈ WS := mWS (w := Cond.selects RX5 yX5_call yX5_call) 510 rfl rfl
set_option maxRecDepth 20000 in
theorem q_co_X5_call : Cond.code yX5_call cX5_call 6 (some .int) ∈ WS := mWS (w := Cond.code yX5_call cX5_call 6 (some .int)) 511 rfl rfl
set_option maxRecDepth 20000 in
theorem q_l_5_147 : Cond.methodLink RX5 147 yX5_why ∈ WS := mWS (w := Cond.methodLink RX5 147 yX5_why) 512 rfl rfl
set_option maxRecDepth 20000 in
theorem q_im_X5_why : Cond.instanceMethod yX5_why ∈ WS := mWS (w := Cond.instanceMethod yX5_why) 514 rfl rfl
set_option maxRecDepth 20000 in
theorem q_co_X5_why : Cond.code yX5_why cX5_why 4 (some .int) ∈ WS := mWS (w := Cond.code yX5_why cX5_why 4 (some .int)) 515 rfl rfl
set_option maxRecDepth 20000 in
theorem q_l_5_129 : Cond.methodLink RX5 129 yX5_isDevice ∈ WS := mWS (w := Cond.methodLink RX5 129 yX5_isDevice) 516 rfl rfl
set_option maxRecDepth 20000 in
theorem q_im_X5_isDevice : Cond.instanceMethod yX5_isDevice ∈ WS := mWS (w := Cond.instanceMethod yX5_isDevice) 518 rfl rfl
set_option maxRecDepth 20000 in
theorem q_co_X5_isDevice : Cond.code yX5_isDevice cX5_isDevice 2 (some .boolean) ∈ WS := mWS (w := Cond.code yX5_isDevice cX5_isDevice 2 (some .boolean)) 519 rfl rfl
set_option maxRecDepth 20000 in
theorem q_l_5_133 : Cond.methodLink RX5 133 yX5_isAct ∈ WS := mWS (w := Cond.methodLink RX5 133 yX5_isAct) 520 rfl rfl
set_option maxRecDepth 20000 in
theorem q_st_X5_isAct : Cond.static yX5_isAct ∈ WS := mWS (w := Cond.static yX5_isAct) 521 rfl rfl
set_option maxRecDepth 20000 in
theorem q_co_X5_isAct : Cond.code yX5_isAct cX5_isAct 1 (some .boolean) ∈ WS := mWS (w := Cond.code yX5_isAct cX5_isAct 1 (some .boolean)) 522 rfl rfl
set_option maxRecDepth 20000 in
theorem q_l_5_136 : Cond.methodLink RX5 136 yX5_isWay ∈ WS := mWS (w := Cond.methodLink RX5 136 yX5_isWay) 523 rfl rfl
set_option maxRecDepth 20000 in
theorem q_st_X5_isWay : Cond.static yX5_isWay ∈ WS := mWS (w := Cond.static yX5_isWay) 524 rfl rfl
set_option maxRecDepth 20000 in
theorem q_co_X5_isWay : Cond.code yX5_isWay cX5_isWay 1 (some .boolean) ∈ WS := mWS (w := Cond.code yX5_isWay cX5_isWay 1 (some .boolean)) 525 rfl rfl
set_option maxRecDepth 20000 in
theorem q_l_5_139 : Cond.methodLink RX5 139 yX5_isAble ∈ WS := mWS (w := Cond.methodLink RX5 139 yX5_isAble) 526 rfl rfl
set_option maxRecDepth 20000 in
theorem q_im_X5_isAble : Cond.instanceMethod yX5_isAble ∈ WS := mWS (w := Cond.instanceMethod yX5_isAble) 528 rfl rfl
set_option maxRecDepth 20000 in
theorem q_co_X5_isAble : Cond.code yX5_isAble cX5_isAble 3 (some .boolean) ∈ WS := mWS (w := Cond.code yX5_isAble cX5_isAble 3 (some .boolean)) 529 rfl rfl
set_option maxRecDepth 20000 in
theorem q_l_5_143 : Cond.methodLink RX5 143 yX5_isOf ∈ WS := mWS (w := Cond.methodLink RX5 143 yX5_isOf) 530 rfl rfl
set_option maxRecDepth 20000 in
theorem q_im_X5_isOf : Cond.instanceMethod yX5_isOf ∈ WS := mWS (w := Cond.instanceMethod yX5_isOf) 532 rfl rfl
set_option maxRecDepth 20000 in
theorem q_co_X5_isOf : Cond.code yX5_isOf cX5_isOf 4 (some .boolean) ∈ WS := mWS (w := Cond.code yX5_isOf cX5_isOf 4 (some .boolean)) 533 rfl rfl
set_option maxRecDepth 20000 in
theorem q_l_5_151 : Cond.methodLink RX5 151 yX5_refused ∈ WS := mWS (w := Cond.methodLink RX5 151 yX5_refused) 534 rfl rfl
set_option maxRecDepth 20000 in
theorem q_im_X5_refused : Cond.instanceMethod yX5_refused ∈ WS := mWS (w := Cond.instanceMethod yX5_refused) 536 rfl rfl
set_option maxRecDepth 20000 in
theorem q_co_X5_refused : Cond.code yX5_refused cX5_refused 2 (some .int) ∈ WS := mWS (w := Cond.code yX5_refused cX5_refused 2 (some .int)) 537 rfl rfl
set_option maxRecDepth 20000 in
theorem q_l_5_154 : Cond.methodLink RX5 154 yX5_begin ∈ WS := mWS (w := Cond.methodLink RX5 154 yX5_begin) 538 rfl rfl
set_option maxRecDepth 20000 in
theorem q_im_X5_begin : Cond.instanceMethod yX5_begin ∈ WS := mWS (w := Cond.instanceMethod yX5_begin) 540 rfl rfl
set_option maxRecDepth 20000 in
theorem q_co_X5_begin : Cond.code yX5_begin cX5_begin 1 none ∈ WS := mWS (w := Cond.code yX5_begin cX5_begin 1 none) 541 rfl rfl
set_option maxRecDepth 20000 in
theorem q_l_5_157 : Cond.methodLink RX5 157 yX5_act ∈ WS := mWS (w := Cond.methodLink RX5 157 yX5_act) 542 rfl rfl
set_option maxRecDepth 20000 in
theorem q_im_X5_act : Cond.instanceMethod yX5_act ∈ WS := mWS (w := Cond.instanceMethod yX5_act) 544 rfl rfl
set_option maxRecDepth 20000 in
theorem q_co_X5_act : Cond.code yX5_act cX5_act 6 (some .int) ∈ WS := mWS (w := Cond.code yX5_act cX5_act 6 (some .int)) 545 rfl rfl
set_option maxRecDepth 20000 in
theorem q_l_5_108 : Cond.methodLink RX5 108 yX5_enter ∈ WS := mWS (w := Cond.methodLink RX5 108 yX5_enter) 546 rfl rfl
set_option maxRecDepth 20000 in
theorem q_im_X5_enter : Cond.instanceMethod yX5_enter ∈ WS := mWS (w := Cond.instanceMethod yX5_enter) 548 rfl rfl
set_option maxRecDepth 20000 in
theorem q_co_X5_enter : Cond.code yX5_enter cX5_enter 3 none ∈ WS := mWS (w := Cond.code yX5_enter cX5_enter 3 none) 549 rfl rfl
set_option maxRecDepth 20000 in
theorem q_l_5_112 : Cond.methodLink RX5 112 yX5_pop ∈ WS := mWS (w := Cond.methodLink RX5 112 yX5_pop) 550 rfl rfl
set_option maxRecDepth 20000 in
theorem q_im_X5_pop : Cond.instanceMethod yX5_pop ∈ WS := mWS (w := Cond.instanceMethod yX5_pop) 552 rfl rfl
set_option maxRecDepth 20000 in
theorem q_co_X5_pop : Cond.code yX5_pop cX5_pop 1 (some .int) ∈ WS := mWS (w := Cond.code yX5_pop cX5_pop 1 (some .int)) 553 rfl rfl
set_option maxRecDepth 20000 in
theorem q_l_5_116 : Cond.methodLink RX5 116 yX5_step ∈ WS := mWS (w := Cond.methodLink RX5 116 yX5_step) 554 rfl rfl
set_option maxRecDepth 20000 in
theorem q_im_X5_step : Cond.instanceMethod yX5_step ∈ WS := mWS (w := Cond.instanceMethod yX5_step) 556 rfl rfl
set_option maxRecDepth 20000 in
theorem q_co_X5_step : Cond.code yX5_step cX5_step 6 none ∈ WS := mWS (w := Cond.code yX5_step cX5_step 6 none) 557 rfl rfl
set_option maxRecDepth 20000 in
theorem q_l_5_119 : Cond.methodLink RX5 119 yX5_push ∈ WS := mWS (w := Cond.methodLink RX5 119 yX5_push) 558 rfl rfl
set_option maxRecDepth 20000 in
theorem q_im_X5_push : Cond.instanceMethod yX5_push ∈ WS := mWS (w := Cond.instanceMethod yX5_push) 560 rfl rfl
set_option maxRecDepth 20000 in
theorem q_co_X5_push : Cond.code yX5_push cX5_push 2 none ∈ WS := mWS (w := Cond.code yX5_push cX5_push 2 none) 561 rfl rfl
set_option maxRecDepth 20000 in
theorem q_l_L_27 : Cond.methodLink RL 27 yX5_every ∈ WS := mWS (w := Cond.methodLink RL 27 yX5_every) 562 rfl rfl
set_option maxRecDepth 20000 in
theorem q_im_X5_every : Cond.instanceMethod yX5_every ∈ WS := mWS (w := Cond.instanceMethod yX5_every) 563 rfl rfl
set_option maxRecDepth 20000 in
theorem q_se_X5_every : Cond.selects RX5 yX5_every yX5_every ∈ WS := mWS (w := Cond.selects RX5 yX5_every yX5_every) 564 rfl rfl
set_option maxRecDepth 20000 in
theorem q_co_X5_every : Cond.code yX5_every cX5_every 6 (some .int) ∈ WS := mWS (w := Cond.code yX5_every cX5_every 6 (some .int)) 565 rfl rfl
set_option maxRecDepth 20000 in
theorem q_l_L_31 : Cond.methodLink RL 31 yX5_feed ∈ WS := mWS (w := Cond.methodLink RL 31 yX5_feed) 566 rfl rfl
set_option maxRecDepth 20000 in
theorem q_im_X5_feed : Cond.instanceMethod yX5_feed ∈ WS := mWS (w := Cond.instanceMethod yX5_feed) 567 rfl rfl
set_option maxRecDepth 20000 in
theorem q_se_X5_feed : Cond.selects RX5 yX5_feed yX5_feed ∈ WS := mWS (w := Cond.selects RX5 yX5_feed yX5_feed) 568 rfl rfl
set_option maxRecDepth 20000 in
theorem q_co_X5_feed : Cond.code yX5_feed cX5_feed 6 (some .int) ∈ WS := mWS (w := Cond.code yX5_feed cX5_feed 6 (some .int)) 569 rfl rfl
set_option maxRecDepth 20000 in
theorem q_l_L_35 : Cond.methodLink RL 35 yX5_link ∈ WS := mWS (w := Cond.methodLink RL 35 yX5_link) 570 rfl rfl
set_option maxRecDepth 20000 in
theorem q_im_X5_link : Cond.instanceMethod yX5_link ∈ WS := mWS (w := Cond.instanceMethod yX5_link) 571 rfl rfl
set_option maxRecDepth 20000 in
theorem q_se_X5_link : Cond.selects RX5 yX5_link yX5_link ∈ WS := mWS (w := Cond.selects RX5 yX5_link yX5_link) 572 rfl rfl
set_option maxRecDepth 20000 in
theorem q_co_X5_link : Cond.code yX5_link cX5_link 3 (some .int) ∈ WS := mWS (w := Cond.code yX5_link cX5_link 3 (some .int)) 573 rfl rfl
set_option maxRecDepth 20000 in
theorem q_l_L_39 : Cond.methodLink RL 39 yX5_pass ∈ WS := mWS (w := Cond.methodLink RL 39 yX5_pass) 574 rfl rfl
set_option maxRecDepth 20000 in
theorem q_im_X5_pass : Cond.instanceMethod yX5_pass ∈ WS := mWS (w := Cond.instanceMethod yX5_pass) 575 rfl rfl
set_option maxRecDepth 20000 in
theorem q_se_X5_pass : Cond.selects RX5 yX5_pass yX5_pass ∈ WS := mWS (w := Cond.selects RX5 yX5_pass yX5_pass) 576 rfl rfl
set_option maxRecDepth 20000 in
theorem q_co_X5_pass : Cond.code yX5_pass cX5_pass 6 (some .int) ∈ WS := mWS (w := Cond.code yX5_pass cX5_pass 6 (some .int)) 577 rfl rfl
set_option maxRecDepth 20000 in
theorem q_l_5_163 : Cond.methodLink RX5 163 yX5_takes ∈ WS := mWS (w := Cond.methodLink RX5 163 yX5_takes) 578 rfl rfl
set_option maxRecDepth 20000 in
theorem q_im_X5_takes : Cond.instanceMethod yX5_takes ∈ WS := mWS (w := Cond.instanceMethod yX5_takes) 580 rfl rfl
set_option maxRecDepth 20000 in
theorem q_co_X5_takes : Cond.code yX5_takes cX5_takes 3 (some .int) ∈ WS := mWS (w := Cond.code yX5_takes cX5_takes 3 (some .int)) 581 rfl rfl
set_option maxRecDepth 20000 in
theorem q_l_L_43 : Cond.methodLink RL 43 yX5_able ∈ WS := mWS (w := Cond.methodLink RL 43 yX5_able) 582 rfl rfl
set_option maxRecDepth 20000 in
theorem q_im_X5_able : Cond.instanceMethod yX5_able ∈ WS := mWS (w := Cond.instanceMethod yX5_able) 583 rfl rfl
set_option maxRecDepth 20000 in
theorem q_se_X5_able : Cond.selects RX5 yX5_able yX5_able ∈ WS := mWS (w := Cond.selects RX5 yX5_able yX5_able) 584 rfl rfl
set_option maxRecDepth 20000 in
theorem q_co_X5_able : Cond.code yX5_able cX5_able 3 (some .int) ∈ WS := mWS (w := Cond.code yX5_able cX5_able 3 (some .int)) 585 rfl rfl
set_option maxRecDepth 20000 in
theorem q_l_L_48 : Cond.methodLink RL 48 yX5_chain ∈ WS := mWS (w := Cond.methodLink RL 48 yX5_chain) 586 rfl rfl
set_option maxRecDepth 20000 in
theorem q_im_X5_chain : Cond.instanceMethod yX5_chain ∈ WS := mWS (w := Cond.instanceMethod yX5_chain) 587 rfl rfl
set_option maxRecDepth 20000 in
theorem q_se_X5_chain : Cond.selects RX5 yX5_chain yX5_chain ∈ WS := mWS (w := Cond.selects RX5 yX5_chain yX5_chain) 588 rfl rfl
set_option maxRecDepth 20000 in
theorem q_co_X5_chain : Cond.code yX5_chain cX5_chain 2 (some .int) ∈ WS := mWS (w := Cond.code yX5_chain cX5_chain 2 (some .int)) 589 rfl rfl
set_option maxRecDepth 20000 in
theorem q_l_L_53 : Cond.methodLink RL 53 yX5_ran ∈ WS := mWS (w := Cond.methodLink RL 53 yX5_ran) 590 rfl rfl
set_option maxRecDepth 20000 in
theorem q_im_X5_ran : Cond.instanceMethod yX5_ran ∈ WS := mWS (w := Cond.instanceMethod yX5_ran) 591 rfl rfl
set_option maxRecDepth 20000 in
theorem q_se_X5_ran : Cond.selects RX5 yX5_ran yX5_ran ∈ WS := mWS (w := Cond.selects RX5 yX5_ran yX5_ran) 592 rfl rfl
set_option maxRecDepth 20000 in
theorem q_co_X5_ran : Cond.code yX5_ran cX5_ran 1 (some .int) ∈ WS := mWS (w := Cond.code yX5_ran cX5_ran 1 (some .int)) 593 rfl rfl
set_option maxRecDepth 20000 in
theorem q_l_L_57 : Cond.methodLink RL 57 yX5_state ∈ WS := mWS (w := Cond.methodLink RL 57 yX5_state) 594 rfl rfl
set_option maxRecDepth 20000 in
theorem q_im_X5_state : Cond.instanceMethod yX5_state ∈ WS := mWS (w := Cond.instanceMethod yX5_state) 595 rfl rfl
set_option maxRecDepth 20000 in
theorem q_se_X5_state : Cond.selects RX5 yX5_state yX5_state ∈ WS := mWS (w := Cond.selects RX5 yX5_state yX5_state) 596 rfl rfl
set_option maxRecDepth 20000 in
theorem q_co_X5_state : Cond.code yX5_state cX5_state 5 (some .int) ∈ WS := mWS (w := Cond.code yX5_state cX5_state 5 (some .int)) 597 rfl rfl
set_option maxRecDepth 20000 in
theorem q_l_L_61 : Cond.methodLink RL 61 yX5_size ∈ WS := mWS (w := Cond.methodLink RL 61 yX5_size) 598 rfl rfl
set_option maxRecDepth 20000 in
theorem q_im_X5_size : Cond.instanceMethod yX5_size ∈ WS := mWS (w := Cond.instanceMethod yX5_size) 599 rfl rfl
set_option maxRecDepth 20000 in
theorem q_se_X5_size : Cond.selects RX5 yX5_size yX5_size ∈ WS := mWS (w := Cond.selects RX5 yX5_size yX5_size) 600 rfl rfl
set_option maxRecDepth 20000 in
theorem q_co_X5_size : Cond.code yX5_size cX5_size 4 (some .int) ∈ WS := mWS (w := Cond.code yX5_size cX5_size 4 (some .int)) 601 rfl rfl
set_option maxRecDepth 20000 in
theorem q_l_L_65 : Cond.methodLink RL 65 yX5_status ∈ WS := mWS (w := Cond.methodLink RL 65 yX5_status) 602 rfl rfl
set_option maxRecDepth 20000 in
theorem q_im_X5_status : Cond.instanceMethod yX5_status ∈ WS := mWS (w := Cond.instanceMethod yX5_status) 603 rfl rfl
set_option maxRecDepth 20000 in
theorem q_se_X5_status : Cond.selects RX5 yX5_status yX5_status ∈ WS := mWS (w := Cond.selects RX5 yX5_status yX5_status) 604 rfl rfl
set_option maxRecDepth 20000 in
theorem q_co_X5_status : Cond.code yX5_status cX5_status 1 (some .int) ∈ WS := mWS (w := Cond.code yX5_status cX5_status 1 (some .int)) 605 rfl rfl
set_option maxRecDepth 20000 in
theorem inX0 : ∀ w ∈ u_ws RX0 TX0 12, w ∈ WS := mWSu (by decide +kernel)
set_option maxRecDepth 20000 in
theorem inX1 : ∀ w ∈ u_ws RX1 TX1 2, w ∈ WS := mWSu (by decide +kernel)
set_option maxRecDepth 20000 in
theorem inX2 : ∀ w ∈ u_ws RX2 TX2 2, w ∈ WS := mWSu (by decide +kernel)
set_option maxRecDepth 20000 in
theorem inX3 : ∀ w ∈ u_ws RX3 TX3 2, w ∈ WS := mWSu (by decide +kernel)
set_option maxRecDepth 20000 in
theorem inX4 : ∀ w ∈ u_ws RX4 TX4 9, w ∈ WS := mWSu (by decide +kernel)
set_option maxRecDepth 20000 in
theorem inX5 : ∀ w ∈ u_ws RX5 TX5 28, w ∈ WS := mWSu (by decide +kernel)
def wzX0_init : List Cond := .code yX0_init cX0_init 5 none :: WS
def wzX1_isType : List Cond := .code yX1_isType cX1_isType 1 (some .boolean) :: WS
def wzX4_isWay : List Cond := .code yX4_isWay cX4_isWay 1 (some .boolean) :: WS
def wzX1_holds : List Cond := .code yX1_holds cX1_holds 2 (some .boolean) :: WS
def wzX1_bears : List Cond := .code yX1_bears cX1_bears 3 (some .boolean) :: WS
def wzX0_bears : List Cond := .code yX0_bears cX0_bears 2 (some .boolean) :: WS
def wzX4_isAct : List Cond := .code yX4_isAct cX4_isAct 1 (some .boolean) :: WS
def wzX1_hasAct : List Cond := .code yX1_hasAct cX1_hasAct 3 (some .boolean) :: WS
def wzX1_kindHasAct : List Cond := .code yX1_kindHasAct cX1_kindHasAct 4 (some .boolean) :: WS
def wzX0_hasAct : List Cond := .code yX0_hasAct cX0_hasAct 3 (some .boolean) :: WS
def wzX0_fact : List Cond := .code yX0_fact cX0_fact 2 (some .int) :: WS
def wzX0_addLink : List Cond := .code yX0_addLink cX0_addLink 2 none :: WS
def wzX0_takingAct : List Cond := .code yX0_takingAct cX0_takingAct 1 (some .int) :: WS
def wzX1_selectedOf : List Cond := .code yX1_selectedOf cX1_selectedOf 3 (some .int) :: WS
def wzX1_parentOf : List Cond := .code yX1_parentOf cX1_parentOf 1 (some .int) :: WS
def wzX3_begin : List Cond := .code yX3_begin cX3_begin 2 none :: WS
def wzX0_act : List Cond := .code yX0_act cX0_act 4 (some .int) :: WS
def wzX0_interfaceAct : List Cond := .code yX0_interfaceAct cX0_interfaceAct 5 (some .int) :: WS
def wzX0_parentAct : List Cond := .code yX0_parentAct cX0_parentAct 5 (some .int) :: WS
def wzX0_run : List Cond := .code yX0_run cX0_run 4 (some .int) :: WS
def wzX0_runOfAncestor : List Cond := .code yX0_runOfAncestor cX0_runOfAncestor 4 (some .int) :: WS
def wzX0_runOfEarlierKind : List Cond := .code yX0_runOfEarlierKind cX0_runOfEarlierKind 4 (some .int) :: WS
def wzX0_runOfInterface : List Cond := .code yX0_runOfInterface cX0_runOfInterface 4 (some .int) :: WS
def wzX0_runOfLaterKind : List Cond := .code yX0_runOfLaterKind cX0_runOfLaterKind 4 (some .int) :: WS
def wzX0_take : List Cond := .code yX0_take cX0_take 3 none :: WS
def wzX0_answer : List Cond := .code yX0_answer cX0_answer 3 (some .int) :: WS
def wzX1_isInterface : List Cond := .code yX1_isInterface cX1_isInterface 1 (some .boolean) :: WS
def wzX1_interfacesOf : List Cond := .code yX1_interfacesOf cX1_interfacesOf 5 (some .int) :: WS
def wzX1_bodyOf : List Cond := .code yX1_bodyOf cX1_bodyOf 2 (some .int) :: WS
def wzX1_bodyOfLine : List Cond := .code yX1_bodyOfLine cX1_bodyOfLine 5 (some .int) :: WS
def wzX1_isOvertaken : List Cond := .code yX1_isOvertaken cX1_isOvertaken 6 (some .boolean) :: WS
def wzX1_bodyOfInterfaces : List Cond := .code yX1_bodyOfInterfaces cX1_bodyOfInterfaces 5 (some .int) :: WS
def wzX1_select : List Cond := .code yX1_select cX1_select 4 (some .int) :: WS
def wzX1_init : List Cond := .code yX1_init cX1_init 3 none :: WS
def wzX2_init : List Cond := .code yX2_init cX2_init 2 none :: WS
def wzX3_init : List Cond := .code yX3_init cX3_init 1 none :: WS
def wzX3_clear : List Cond := .code yX3_clear cX3_clear 1 none :: WS
def wzX3_keptAt : List Cond := .code yX3_keptAt cX3_keptAt 2 (some .int) :: WS
def wzX4_init : List Cond := .code yX4_init cX4_init 1 none :: WS
def wzX4_device : List Cond := .code yX4_device cX4_device 4 (some .int) :: WS
def wzX4_find : List Cond := .code yX4_find cX4_find 2 (some (.object "LineOfHeirs$Device")) :: WS
def wzX4_refusal : List Cond := .code yX4_refusal cX4_refusal 3 (some .int) :: WS
def wzX4_call : List Cond := .code yX4_call cX4_call 6 (some .int) :: WS
def wzX4_refusalOfAll : List Cond := .code yX4_refusalOfAll cX4_refusalOfAll 3 (some .int) :: WS
def wzX4_every : List Cond := .code yX4_every cX4_every 7 (some .int) :: WS
def wzX4_answerToByte : List Cond := .code yX4_answerToByte cX4_answerToByte 5 (some .int) :: WS
def wzX4_feed : List Cond := .code yX4_feed cX4_feed 6 (some .int) :: WS
def wzX4_link : List Cond := .code yX4_link cX4_link 6 (some .int) :: WS
def wzX4_letTake : List Cond := .code yX4_letTake cX4_letTake 3 none :: WS
def wzX4_passOn : List Cond := .code yX4_passOn cX4_passOn 3 none :: WS
def wzX4_pass : List Cond := .code yX4_pass cX4_pass 6 (some .int) :: WS
def wzX4_able : List Cond := .code yX4_able cX4_able 4 (some .int) :: WS
def wzX4_chain : List Cond := .code yX4_chain cX4_chain 2 (some .int) :: WS
def wzX4_ran : List Cond := .code yX4_ran cX4_ran 1 (some .int) :: WS
def wzX4_state : List Cond := .code yX4_state cX4_state 4 (some .int) :: WS
def wzX4_countBearers : List Cond := .code yX4_countBearers cX4_countBearers 5 (some .int) :: WS
def wzX4_size : List Cond := .code yX4_size cX4_size 2 (some .int) :: WS
def wzX4_status : List Cond := .code yX4_status cX4_status 1 (some .int) :: WS
def wzX5_have : List Cond := .code yX5_have cX5_have 4 none :: WS
def wzX5_bit : List Cond := .code yX5_bit cX5_bit 1 (some .int) :: WS
def wzX5_closed : List Cond := .code yX5_closed cX5_closed 2 (some .int) :: WS
def wzX5_heir : List Cond := .code yX5_heir cX5_heir 4 none :: WS
def wzX5_lowest : List Cond := .code yX5_lowest cX5_lowest 6 (some .int) :: WS
def wzX5_select : List Cond := .code yX5_select cX5_select 4 (some .int) :: WS
def wzX5_init : List Cond := .code yX5_init cX5_init 3 none :: WS
def wzX5_push : List Cond := .code yX5_push cX5_push 2 none :: WS
def wzX5_pop : List Cond := .code yX5_pop cX5_pop 1 (some .int) :: WS
def wzX5_enter : List Cond := .code yX5_enter cX5_enter 3 none :: WS
def wzX5_step : List Cond := .code yX5_step cX5_step 6 none :: WS
def wzX5_act : List Cond := .code yX5_act cX5_act 6 (some .int) :: WS
def wzX5_isDevice : List Cond := .code yX5_isDevice cX5_isDevice 2 (some .boolean) :: WS
def wzX5_isAct : List Cond := .code yX5_isAct cX5_isAct 1 (some .boolean) :: WS
def wzX5_isWay : List Cond := .code yX5_isWay cX5_isWay 1 (some .boolean) :: WS
def wzX5_isAble : List Cond := .code yX5_isAble cX5_isAble 3 (some .boolean) :: WS
def wzX5_isOf : List Cond := .code yX5_isOf cX5_isOf 4 (some .boolean) :: WS
def wzX5_refused : List Cond := .code yX5_refused cX5_refused 2 (some .int) :: WS
def wzX5_why : List Cond := .code yX5_why cX5_why 4 (some .int) :: WS
def wzX5_begin : List Cond := .code yX5_begin cX5_begin 1 none :: WS
def wzX5_device : List Cond := .code yX5_device cX5_device 3 (some .int) :: WS
def wzX5_call : List Cond := .code yX5_call cX5_call 6 (some .int) :: WS
def wzX5_every : List Cond := .code yX5_every cX5_every 6 (some .int) :: WS
def wzX5_feed : List Cond := .code yX5_feed cX5_feed 6 (some .int) :: WS
def wzX5_link : List Cond := .code yX5_link cX5_link 3 (some .int) :: WS
def wzX5_takes : List Cond := .code yX5_takes cX5_takes 3 (some .int) :: WS
def wzX5_pass : List Cond := .code yX5_pass cX5_pass 6 (some .int) :: WS
def wzX5_able : List Cond := .code yX5_able cX5_able 3 (some .int) :: WS
def wzX5_chain : List Cond := .code yX5_chain cX5_chain 2 (some .int) :: WS
def wzX5_ran : List Cond := .code yX5_ran cX5_ran 1 (some .int) :: WS
def wzX5_state : List Cond := .code yX5_state cX5_state 5 (some .int) :: WS
def wzX5_size : List Cond := .code yX5_size cX5_size 4 (some .int) :: WS
def wzX5_status : List Cond := .code yX5_status cX5_status 1 (some .int) :: WS
end
section
/-! BASE: the environment of every method, the world by places, rows over it -/
abbrev hG : Type := va_G × (ClassId × ClassId × ClassId) × (Nat × Nat × Nat × Nat) × Nat
def hA (z : Nat) : Nat → Prop := fun q => z ≤ q
def hN : List Cond := [.fieldLinkNest RX4 102 "LineOfHeirs$Trail" "begun" "I" RX4,
  .fieldLinkNest RX4 123 "LineOfHeirs$Device" "firstLink" "LLineOfHeirs$Link;" RX4,
  .fieldLinkNest RX4 75 "LineOfHeirs$Device" "linksTo" "I" RX4,
  .fieldLinkNest RX4 131 "LineOfHeirs$Device" "latestPulse" "I" RX4,
  .fieldLinkNest RX4 134 "LineOfHeirs$Device" "tookAnswer" "I" RX4,
  .fieldLinkNest RX4 127 "LineOfHeirs$Link" "to" "LLineOfHeirs$Device;" RX4,
  .fieldLinkNest RX0 57 "LineOfHeirs$Link" "next" "LLineOfHeirs$Link;" RX4,
  .fieldLinkNest RX4 137 "LineOfHeirs$Link" "next" "LLineOfHeirs$Link;" RX4,
  .methodLinkNest RX4 11 yX1_init RX4,
  .methodLinkNest RX1 33 yX4_isAct RX4,
  .methodLinkNest RX4 18 yX3_init RX4,
  .methodLinkNest RX4 39 yX0_init RX4,
  .methodLinkNest RX4 95 yX0_bears RX4,
  .methodLinkNest RX0 26 yX1_bears RX4,
  .methodLinkNest RX1 67 yX4_isWay RX4,
  .methodLinkNest RX4 114 yX0_hasAct RX4,
  .methodLinkNest RX0 32 yX1_kindHasAct RX4,
  .methodLinkNest RX0 35 yX1_hasAct RX4,
  .methodLinkNest RX4 50 yX3_clear RX4,
  .methodLinkNest RX4 53 yX0_answer RX4,
  .methodLinkNest RX0 79 yX1_selectedOf RX4,
  .methodLinkNest RX0 90 yX3_begin RX4,
  .methodLinkNest RX0 86 yX1_parentOf RX4,
  .methodLinkNest RX4 118 yX1_hasAct RX4,
  .methodLinkNest RX4 68 yX2_init RX4,
  .methodLinkNest RX4 71 yX0_addLink RX4,
  .methodLinkNest RX4 119 yX0_take RX4,
  .methodLinkNest RX4 98 yX3_keptAt RX4,
  .methodLinkNest RX4 105 yX0_fact RX4]
def hNb : Cond → Bool
  | .fieldLinkNest .. => true
  | .methodLinkNest .. => true
  | _ => false
theorem hN_b : ∀ w ∈ hN, hNb w = true := List.all_eq_true.mp (by decide +kernel)
theorem hNb_warm {w : Cond} {s U : State} (hb : hNb w = true) (hW : s.WarmedH U.vm) (h : va_Nw w s) : va_Nw w U := by
  cases w <;> first | exact va_Nw.warmF hW h | exact va_Nw.warmM hW h | (cases hb)
theorem hNb_tab {w : Cond} (hb : hNb w = true) : w.onTables = true := by
  cases w <;> first | rfl | (cases hb)
def tabPl : List Int32 := [-1, 0, -1, -1, -1, -1, -1, 1, 1, 1, 7, 8, 9, 1, 9, 10, 8, 11]
def tabNl : List Int32 := [0, 0, 0, 0, 12, 0, 32, 4, 8, 32, 0, 4, 16, 64, 64, 0, 16, 80]
def tabWl : List Int32 := [0, 3624, 7, 28, 31, 224, 480]
def tabBl : List Int32 := [0, 0, 0, 62, 0, 0, 0, 0, 0, 60, 61, 64, 0, 0, 0, 0, 0, 70, 0, 0, 0, 0, 0, 0, 0, 10, 11, 0, 0, 0, 0, 0, 0, 0, 0, 0, 0, 0, 21, 0, 20, 0, 0, 0, 0, 0, 0, 0, 0, 0, 30, 0, 0, 0, 0, 0, 0, 0, 0, 0, 0, 0, 0, 0, 0, 0, 40, 41, 0, 0, 0, 0, 0, 0, 0, 0, 0, 0, 0, 50, 51, 0, 0, 0, 100, 0, 0, 0, 0, 0, 0, 0, 0, 101, 0, 0, 0, 0, 0, 0, 111, 0, 0, 0, 0, 0, 110, 0, 0, 0, 0, 0, 0, 0, 120, 0, 0, 0, 0, 0, 130, 131, 0, 0, 0, 0, 0, 0, 0, 0, 0, 0, 140, 0, 141, 0, 0, 0, 0, 0, 0, 0, 142, 0, 150, 0, 0, 0, 152, 0, 0, 0, 0, 151, 0, 0, 0, 0, 0, 0, 0, 160, 0, 0, 161, 163, 0, 0, 0, 0, 0, 0, 0, 0, 0, 0, 0, 0, 0, 0, 0, 0, 181, 0, 0, 0, 0, 0, 0, 180, 0, 0, 190, 0, 0, 0, 0, 0, 0, 0, 0, 0, 0, 0, 0, 0, 202, 0, 0, 204, 0, 201, 0, 0, 0, 0]
def tab (l : List Int32) : Nat → Int32 := fun k => l.getD k 0
def hSt (G : hG) (U : State) (H : Heap) : Prop :=
  (va_Z RX1 "PARENTS" "[I" (.ref G.2.2.1.1) (hA G.2.2.2) U H ∧ va_T .int G.2.2.1.1 18 (fun j => .int (tab tabPl j)) (hA G.2.2.2) U H) ∧
  (va_Z RX1 "NAMED" "[I" (.ref G.2.2.1.2.1) (hA G.2.2.2) U H ∧ va_T .int G.2.2.1.2.1 18 (fun j => .int (tab tabNl j)) (hA G.2.2.2) U H) ∧
  (va_Z RX1 "WAY_ACTS" "[I" (.ref G.2.2.1.2.2.1) (hA G.2.2.2) U H ∧ va_T .int G.2.2.1.2.2.1 7 (fun j => .int (tab tabWl j)) (hA G.2.2.2) U H) ∧
  (va_Z RX1 "BODIES" "[I" (.ref G.2.2.1.2.2.2) (hA G.2.2.2) U H ∧ va_T .int G.2.2.1.2.2.2 216 (fun j => .int (tab tabBl j)) (hA G.2.2.2) U H)
theorem hSt.next {G : hG} {s U : State} {H H1 : Heap} (h : hSt G s H) (hq : ∀ a : Nat, a < H.size → ¬ hA G.2.2.2 a → H1[a]? = H[a]?) (hvm : s.vm.Alike U.vm) : hSt G U H1 := by
  obtain ⟨⟨a1, a2⟩, ⟨b1, b2⟩, ⟨c1, c2⟩, d1, d2⟩ := h
  exact ⟨⟨(a1.kept hq).moved hvm, (a2.kept hq).moved hvm⟩, ⟨(b1.kept hq).moved hvm, (b2.kept hq).moved hvm⟩, ⟨(c1.kept hq).moved hvm, (c2.kept hq).moved hvm⟩, (d1.kept hq).moved hvm, (d2.kept hq).moved hvm⟩
def gE (G : hG) (U : State) : Prop := va_K G.1 vwCl [(G.2.1.1, .int), (G.2.1.2.1, .boolean), (G.2.1.2.2, .object RX0)] U ∧ (∀ w ∈ hN, va_Nw w U) ∧ va_AO RX0 U ∧ hSt G U U.heap
theorem gE.calling {G : hG} {U : State} (h : gE G U) (g : JFrame) (mk : MethodId) (a : Array Value) : gE G (U.calling g mk a) :=
  ⟨va_K.moved (u := U) (U := U.calling g mk a) (Vm.Alike.refl U.vm) h.1, fun w hw => va_Nw.same (u := U) (U := U.calling g mk a) (hNb_tab (hN_b w hw)) rfl (h.2.1 w hw), va_AO.moved (u := U) (U := U.calling g mk a) (Vm.Alike.refl U.vm) h.2.2.1, hSt.next (s := U) (U := U.calling g mk a) h.2.2.2 (fun _ _ _ => rfl) (Vm.Alike.refl U.vm)⟩
theorem gE.next {G : hG} {s U : State} {H : Heap} {locs : List Loc} (h : gE G s) (hS : va_S (hA G.2.2.2) s.heap H locs) (hU : U.heap = H) (hW : s.WarmedH U.vm) : gE G U :=
  ⟨va_K.moved hW.alike h.1, fun w hw => hNb_warm (hN_b w hw) hW (h.2.1 w hw), va_AO.moved hW.alike h.2.2.1, hSt.next h.2.2.2 (fun a h1 h2 => by rw [hU]; exact hS.2.1 a h1 h2) hW.alike⟩
theorem gE.nest {G : hG} {U : State} (h : gE G U) {w : Cond} (i : Nat) (hw : hN[i]? = some w) : va_Nw w U := h.2.1 w (List.mem_of_getElem? hw)
/-- the world: ct k is what the cell at ad k holds, for each place k that is in use; places are apart -/
def hw (G : hG) (ad : Nat → Nat) (ct : Nat → Option va_E) (H : Heap) : Prop :=
  (∀ k e, ct k = some e → va_at G.1 vwCl (ad k, e) H ∧ G.2.2.2 ≤ ad k) ∧ ∀ j k e f, ct j = some e → ct k = some f → ad j = ad k → j = k
theorem hw.set {G : hG} {ad : Nat → Nat} {ct : Nat → Option va_E} {k : Nat} {e0 e : va_E} {H H1 : Heap} (h : hw G ad ct H) (hk : ct k = some e0) (he : va_at G.1 vwCl (ad k, e) H1) (oq : ∀ q : Nat, q ≠ ad k → H1[q]? = H[q]?) : hw G ad (va_up ct k (some e)) H1 := by
  have key : ∀ j f, va_up ct k (some e) j = some f → ∃ f0, ct j = some f0 := by
    intro j f hj
    by_cases hjk : j = k
    · subst hjk; exact ⟨e0, hk⟩
    · rw [va_up_ne _ _ hjk] at hj; exact ⟨f, hj⟩
  refine ⟨fun j f hj => ?_, fun i j f g hi hj hij => ?_⟩
  · by_cases hjk : j = k
    · subst hjk
      rw [va_up_self] at hj
      cases hj
      exact ⟨he, (h.1 _ _ hk).2⟩
    · rw [va_up_ne _ _ hjk] at hj
      exact ⟨(h.1 j f hj).1.kept (oq _ (fun q => hjk (h.2 j k f e0 hj hk q))), (h.1 j f hj).2⟩
  · obtain ⟨f0, hf⟩ := key i f hi
    obtain ⟨g0, hg⟩ := key j g hj
    exact h.2 i j f0 g0 hf hg hij
theorem hw.new {G : hG} {ad : Nat → Nat} {ct : Nat → Option va_E} {k : Nat} {e : va_E} {H H1 : Heap} (h : hw G ad ct H) (hk : ad k = H.size) (hz : G.2.2.2 ≤ H.size) (he : va_at G.1 vwCl (ad k, e) H1) (oq : ∀ q : Nat, q < H.size → H1[q]? = H[q]?) : hw G ad (va_up ct k (some e)) H1 := by
  have lt : ∀ j f, ct j = some f → ad j < H.size := fun j f hj => (h.1 j f hj).1.lt
  refine ⟨fun j f hj => ?_, fun i j f g hi hj hij => ?_⟩
  · by_cases hjk : j = k
    · subst hjk
      rw [va_up_self] at hj
      cases hj
      exact ⟨he, by rw [hk]; exact hz⟩
    · rw [va_up_ne _ _ hjk] at hj
      exact ⟨(h.1 j f hj).1.kept (oq _ (lt j f hj)), (h.1 j f hj).2⟩
  · by_cases hik : i = k
    · by_cases hjk : j = k
      · rw [hik, hjk]
      · rw [va_up_ne _ _ hjk] at hj
        have := lt j g hj
        rw [hik] at hij
        omega
    · rw [va_up_ne _ _ hik] at hi
      by_cases hjk : j = k
      · have := lt i f hi
        rw [hjk] at hij
        omega
      · rw [va_up_ne _ _ hjk] at hj
        exact h.2 i j f g hi hj hij
theorem hw.congr {G : hG} {ad : Nat → Nat} {ct ct' : Nat → Option va_E} {H : Heap} (h : hw G ad ct H) (hc : ∀ k, ct' k = ct k) : hw G ad ct' H := by
  have : ct' = ct := funext hc
  rw [this]; exact h
theorem hw.readdr {G : hG} {ad ad' : Nat → Nat} {ct : Nat → Option va_E} {H : Heap} (h : hw G ad ct H) (hc : ∀ k e, ct k = some e → ad' k = ad k) : hw G ad' ct H := by
  refine ⟨fun k e hk => ?_, fun j k e f hj hk hjk => ?_⟩
  · rw [hc k e hk]; exact h.1 k e hk
  · rw [hc j e hj, hc k f hk] at hjk; exact h.2 j k e f hj hk hjk
theorem hw.one {G : hG} {ad : Nat → Nat} {ct : Nat → Option va_E} {k : Nat} {e : va_E} {H : Heap} (h : hw G ad ct H) (hk : ct k = some e) : va_P G.1 vwCl [(ad k, e)] H := by
  intro i q hq
  have hi : i < 1 := (List.getElem?_eq_some_iff.mp hq).1
  rw [show i = 0 by omega] at hq
  cases hq
  exact (h.1 k e hk).1
theorem vp_cell_congr {cA : ClassId} {n : Nat} {f g : Nat → Int32} (h : ∀ j, j < n → f j = g j) : vp_cell cA (n, .inl f) = vp_cell cA (n, .inl g) := by
  rw [vp_cell_i, vp_cell_i]
  unfold arrV
  congr 1
  congr 1
  funext j
  exact congrArg Value.int (h j.val j.isLt)
theorem va_at_congr {D : va_G} {cl : List vw_C} {a : Nat} {cA : ClassId} {n : Nat} {f g : Nat → Int32} {H : Heap} (h : ∀ j, j < n → f j = g j) (hat : va_at D cl (a, .inl (cA, n, .inl f)) H) : va_at D cl (a, .inl (cA, n, .inl g)) H := by
  show H[a]? = some (vp_cell cA (n, .inl g))
  rw [← vp_cell_congr h]
  exact hat
theorem hw.setArr {G : hG} {ad : Nat → Nat} {ct : Nat → Option va_E} {k : Nat} {cA : ClassId} {n : Nat} {f g : Nat → Int32} {H : Heap} (h : hw G ad ct H) (hk : ct k = some (.inl (cA, n, .inl f))) (hfg : ∀ j, j < n → f j = g j) : hw G ad (va_up ct k (some (.inl (cA, n, .inl g)))) H :=
  h.set hk (va_at_congr hfg (h.1 k _ hk).1) (fun _ _ => rfl)
/-! what a method asks and says -/
abbrev hPr (As : List Value) (G : hG) (H : Heap) : Array Value → State → Prop := va_Pc As (fun U => gE G U ∧ (fun h => h = H) U.heap)
abbrev hPw (As : List Value) (G : hG) (ad : Nat → Nat) (ct : Nat → Option va_E) : Array Value → State → Prop := va_Pc As (fun U => gE G U ∧ (fun h => hw G ad ct h) U.heap)
abbrev hPz (As : List Value) (G : hG) (ad : Nat → Nat) (ct : Nat → Option va_E) (n : Nat) : Array Value → State → Prop := va_Pc As (fun U => gE G U ∧ (fun h => hw G ad ct h ∧ h.size = n) U.heap)
abbrev hQr (v : Int32) (H : Heap) (z : Nat) : Array Value → State → Outcome → State → Prop := va_Qi (fun r (_ : Unit) => r = v) (fun (_ : Unit) t => t.heap = H) (hA z)
abbrev hQq (v : Option Nat) (H : Heap) (z : Nat) : Array Value → State → Outcome → State → Prop := va_Qq (fun r (_ : Unit) => r = v) (fun (_ : Unit) t => t.heap = H) (hA z)
abbrev hQi (post : Int32 → (Nat → Option va_E) → Prop) (G : hG) (ad : Nat → Nat) : Array Value → State → Outcome → State → Prop := va_Qi post (fun u t => hw G ad u t.heap) (hA G.2.2.2)
abbrev hQv (post : (Nat → Option va_E) → Prop) (G : hG) (ad : Nat → Nat) : Array Value → State → Outcome → State → Prop := va_Qv post (fun u t => hw G ad u t.heap) (hA G.2.2.2)
abbrev hQzi (post : Int32 → (Nat → Option va_E) → Prop) (G : hG) (ad : Nat → Nat) (n : Nat) : Array Value → State → Outcome → State → Prop := va_Qi post (fun u t => hw G ad u t.heap ∧ t.heap.size ≤ n) (hA G.2.2.2)
abbrev hQzv (post : (Nat → Option va_E) → Prop) (G : hG) (ad : Nat → Nat) (n : Nat) : Array Value → State → Outcome → State → Prop := va_Qv post (fun u t => hw G ad u t.heap ∧ t.heap.size = n) (hA G.2.2.2)
theorem va_rfn {C : String} (v : Option Nat) : narrow (.object C) (va_rf v) = va_rf v := by cases v <;> rfl
theorem va_rff {C : String} (v : Option Nat) : fits (.object C) (va_rf v) = true := by cases v <;> rfl
section HR
variable {p : Program} {l : Launch} {e : Env} {R : Room} {s : State} {m : MethodId} {args : Array Value} {below : List Frame} {meth : Method} {c : Code} {H : Heap} {locs : List Loc} {cells slots : Nat} {Q : State → Prop}
variable {cc : ByteArray} {pc nL : Nat} {ls : Array Slot} {rest : List Value} {G : hG} {ad : Nat → Nat} {ct : Nat → Option va_E} {Ts : List Cond} {own : String} {k : Nat}
theorem hr_get (S : CallFix p m c cc nL s args Ts own) (hE : gE G s) (hW : hw G ad ct H) {ci : Nat} {fs : List Value} (hk : ct k = some (.inr (ci, fs))) {C : String} {T : u_T} {N : Nat} (hin : ∀ w ∈ u_ws C T N, w ∈ Ts) (hc : vwCl[ci]? = some (C, T, N)) (j : Nat) (hj : j < N) {index : Nat} (hl : Cond.fieldLink own index (T j).1 (T j).2.1 (T j).2.2.1 ∈ Ts) {v : Value} (hv : fs[j]? = some v) (hdg : decode cc pc = .ok (.getfield index, 3))
    (kk : W p l e R s m args below meth c H locs cells slots Q (F0 m (pc + 3) ls (v :: rest))) : W p l e R s m args below meth c H locs cells slots Q (F0 m pc ls (.ref (ad k) :: rest)) :=
  va_get S.1 S.2.1 S.2.2.2.2 hin S.2.2.2.1 hE.1 (hW.one hk) 0 rfl hc j hj (S.2.2.2.2 _ hl) (fun _ h => h) hv hdg kk
theorem hr_getN (S : CallFix p m c cc nL s args Ts own) (hE : gE G s) (hW : hw G ad ct H) {ci : Nat} {fs : List Value} (hk : ct k = some (.inr (ci, fs))) {C : String} {T : u_T} {N : Nat} (hin : ∀ w ∈ u_ws C T N, w ∈ Ts) (hc : vwCl[ci]? = some (C, T, N)) (j : Nat) (hj : j < N) {index : Nat} {host : String} (hl : va_Nw (Cond.fieldLinkNest own index (T j).1 (T j).2.1 (T j).2.2.1 host) s) {v : Value} (hv : fs[j]? = some v) (hdg : decode cc pc = .ok (.getfield index, 3))
    (kk : W p l e R s m args below meth c H locs cells slots Q (F0 m (pc + 3) ls (v :: rest))) : W p l e R s m args below meth c H locs cells slots Q (F0 m pc ls (.ref (ad k) :: rest)) :=
  va_getN S.1 S.2.1 S.2.2.2.2 hin S.2.2.2.1 hE.1 (hW.one hk) 0 rfl hc j hj (va_Nw.use rfl hl) (fun _ h => h) hv hdg kk
theorem hr_put (S : CallFix p m c cc nL s args Ts own) (hE : gE G s) (hW : hw G ad ct H) (hS0 : va_S (hA G.2.2.2) s.heap H locs) {ci : Nat} {fs : List Value} (hk : ct k = some (.inr (ci, fs))) {C : String} {T : u_T} {N : Nat} (hin : ∀ w ∈ u_ws C T N, w ∈ Ts) {ty0 : Nat → FieldType} (hty : ∀ k, k < N → parseFieldDescriptor (T k).2.2.1 = some (ty0 k)) (hnm : ∀ a, a < N → ∀ b, b < N → a ≠ b → (T a).2.1 ≠ (T b).2.1) (hc : vwCl[ci]? = some (C, T, N)) (j : Nat) (hj : j < N) {index : Nat} (hl : Cond.fieldLink own index (T j).1 (T j).2.1 (T j).2.2.1 ∈ Ts) (hfin : (T j).2.2.2 = false) {v : Value} (hn : narrow (ty0 j) v = v) (hfit : fits (ty0 j) v = true) (hlen : j < fs.length) (hdg : decode cc pc = .ok (.putfield index, 3))
    (kk : ∀ (H1 : Heap) (locs1 : List Loc) (ct1 : Nat → Option va_E), hw G ad ct1 H1 → ct1 k = some (.inr (ci, fs.set j v)) → (∀ i, i ≠ k → ct1 i = ct i) → H1.size = H.size → va_S (hA G.2.2.2) s.heap H1 locs1 → W p l e R s m args below meth c H1 locs1 cells slots Q (F0 m (pc + 3) ls rest)) : W p l e R s m args below meth c H locs cells slots Q (F0 m pc ls (v :: .ref (ad k) :: rest)) := by
  obtain ⟨hexec, hb, -, hown, hts⟩ := S
  have hap := va_apart (own := own) hts hin ty0 hty hnm hE.1 hc
  obtain ⟨⟨r, h1, cell, q1, q2, q3, q4⟩, hz⟩ := hW.1 k _ hk
  have hr : r = (C, T, N) := Option.some.inj (h1.symm.trans hc)
  subst hr
  obtain ⟨hS, hfc, kC, hkC, hkind⟩ := hE.1.1 ci _ hc
  obtain ⟨cf, kf, fi, f, hi, hsl⟩ := hS j hj
  have hlay := hts _ (hin _ (u_in_lay hj))
  unfold u_lay at hlay
  rw [if_neg (by rw [hfin]; decide)] at hlay
  have hst := (u_facts hfc hkC (u_lays hts hin hj) hi).1
  have h6 := u_store hfc hkC hkind hlay hi (hty j hj) hn hfit
  refine W.putK hexec hb (f := f) ⟨hown, hts _ hl, ⟨_, _, _, hi⟩, hst⟩ (by rw [q2]; exact h6) q1 q3 (by rw [hsl]; exact k2_hasslot (q4 j hj)) rfl rfl hdg fun H' e1 e2 e3 => ?_
  rw [hsl] at e1 ⊢
  exact kk H' _ _ (hW.set hk (e := .inr (ci, fs.set j v)) ⟨_, hc, t_OB.to (V := updV (vp_V fs) j v) ⟨_, e1, q2, q3, t_set q4 hap hj v⟩ (fun i _ => vp_updV_set hlen v i)⟩ e3) (va_up_self _ _ _) (fun i hi => va_up_ne _ _ hi) e2 (hS0.put e2 e3 hz)
theorem hr_putN (S : CallFix p m c cc nL s args Ts own) (hE : gE G s) (hW : hw G ad ct H) (hS0 : va_S (hA G.2.2.2) s.heap H locs) {ci : Nat} {fs : List Value} (hk : ct k = some (.inr (ci, fs))) {C : String} {T : u_T} {N : Nat} (hin : ∀ w ∈ u_ws C T N, w ∈ Ts) {ty0 : Nat → FieldType} (hty : ∀ k, k < N → parseFieldDescriptor (T k).2.2.1 = some (ty0 k)) (hnm : ∀ a, a < N → ∀ b, b < N → a ≠ b → (T a).2.1 ≠ (T b).2.1) (hc : vwCl[ci]? = some (C, T, N)) (j : Nat) (hj : j < N) {index : Nat} {host : String} (hl : va_Nw (Cond.fieldLinkNest own index (T j).1 (T j).2.1 (T j).2.2.1 host) s) (hfin : (T j).2.2.2 = false) {v : Value} (hn : narrow (ty0 j) v = v) (hfit : fits (ty0 j) v = true) (hlen : j < fs.length) (hdg : decode cc pc = .ok (.putfield index, 3))
    (kk : ∀ (H1 : Heap) (locs1 : List Loc) (ct1 : Nat → Option va_E), hw G ad ct1 H1 → ct1 k = some (.inr (ci, fs.set j v)) → (∀ i, i ≠ k → ct1 i = ct i) → H1.size = H.size → va_S (hA G.2.2.2) s.heap H1 locs1 → W p l e R s m args below meth c H1 locs1 cells slots Q (F0 m (pc + 3) ls rest)) : W p l e R s m args below meth c H locs cells slots Q (F0 m pc ls (v :: .ref (ad k) :: rest)) := by
  obtain ⟨hexec, hb, -, hown, hts⟩ := S
  have hap := va_apart (own := own) hts hin ty0 hty hnm hE.1 hc
  obtain ⟨⟨r, h1, cell, q1, q2, q3, q4⟩, hz⟩ := hW.1 k _ hk
  have hr : r = (C, T, N) := Option.some.inj (h1.symm.trans hc)
  subst hr
  obtain ⟨hS, hfc, kC, hkC, hkind⟩ := hE.1.1 ci _ hc
  obtain ⟨cf, kf, fi, f, hi, hsl⟩ := hS j hj
  have hlay := hts _ (hin _ (u_in_lay hj))
  unfold u_lay at hlay
  rw [if_neg (by rw [hfin]; decide)] at hlay
  have hst := (u_facts hfc hkC (u_lays hts hin hj) hi).1
  have h6 := u_store hfc hkC hkind hlay hi (hty j hj) hn hfit
  refine va_WputK hexec hb (f := f) hown (va_Nw.use rfl hl) hi hst (by rw [q2]; exact h6) q1 q3 (by rw [hsl]; exact k2_hasslot (q4 j hj)) rfl rfl hdg fun H' e1 e2 e3 => ?_
  rw [hsl] at e1 ⊢
  exact kk H' _ _ (hW.set hk (e := .inr (ci, fs.set j v)) ⟨_, hc, t_OB.to (V := updV (vp_V fs) j v) ⟨_, e1, q2, q3, t_set q4 hap hj v⟩ (fun i _ => vp_updV_set hlen v i)⟩ e3) (va_up_self _ _ _) (fun i hi => va_up_ne _ _ hi) e2 (hS0.put e2 e3 hz)
theorem hr_putF (S : CallFix p m c cc nL s args Ts own) (hE : gE G s) (hW : hw G ad ct H) (hS0 : va_S (hA G.2.2.2) s.heap H locs) {ci : Nat} {fs : List Value} (hk : ct k = some (.inr (ci, fs))) {C : String} {T : u_T} {N : Nat} (hin : ∀ w ∈ u_ws C T N, w ∈ Ts) {ty0 : Nat → FieldType} (hty : ∀ k, k < N → parseFieldDescriptor (T k).2.2.1 = some (ty0 k)) (hnm : ∀ a, a < N → ∀ b, b < N → a ≠ b → (T a).2.1 ≠ (T b).2.1) (hc : vwCl[ci]? = some (C, T, N)) (j : Nat) (hj : j < N) {index : Nat} (hl : Cond.fieldLink own index (T j).1 (T j).2.1 (T j).2.2.1 ∈ Ts) (hfin : (T j).2.2.2 = true) (hin2 : meth.name = "<init>") (hdecl : (T j).1 = own) {v : Value} (hn : narrow (ty0 j) v = v) (hfit : fits (ty0 j) v = true) (hlen : j < fs.length) (hdg : decode cc pc = .ok (.putfield index, 3))
    (kk : ∀ (H1 : Heap) (locs1 : List Loc) (ct1 : Nat → Option va_E), hw G ad ct1 H1 → ct1 k = some (.inr (ci, fs.set j v)) → (∀ i, i ≠ k → ct1 i = ct i) → H1.size = H.size → va_S (hA G.2.2.2) s.heap H1 locs1 → W p l e R s m args below meth c H1 locs1 cells slots Q (F0 m (pc + 3) ls rest)) : W p l e R s m args below meth c H locs cells slots Q (F0 m pc ls (v :: .ref (ad k) :: rest)) := by
  obtain ⟨hexec, hb, -, hown, hts⟩ := S
  have hap := va_apart (own := own) hts hin ty0 hty hnm hE.1 hc
  obtain ⟨⟨r, h1, cell, q1, q2, q3, q4⟩, hz⟩ := hW.1 k _ hk
  have hr : r = (C, T, N) := Option.some.inj (h1.symm.trans hc)
  subst hr
  obtain ⟨hS, hfc, kC, hkC, hkind⟩ := hE.1.1 ci _ hc
  obtain ⟨cf, kf, fi, f, hi, hsl⟩ := hS j hj
  have hlay := hts _ (hin _ (u_in_lay hj))
  unfold u_lay at hlay
  rw [if_pos hfin] at hlay
  have hst := (u_facts hfc hkC (u_lays hts hin hj) hi).1
  have hcf : m.cls = cf := by
    obtain ⟨_, _, c', _, _, _, -, -, hf', -, -, -, hown2, -⟩ := Cond.laysFinal_spec hlay
    have e1 : c' = cf := by have := hi.symm.trans hf'; simp at this; exact this.1.symm
    rw [hdecl] at hown2
    rw [← e1]; exact Option.some.inj (hown.symm.trans hown2)
  have h6 := u_fits hfc hkC hkind (Or.inr hlay) hi (hty j hj) hn hfit
  refine W.putFinK hexec hb hown (hts _ hl) hi hst hcf hin2 (by rw [q2]; exact h6) q1 q3 (by rw [hsl]; exact k2_hasslot (q4 j hj)) rfl rfl hdg fun H' e1 e2 e3 => ?_
  rw [hsl] at e1 ⊢
  exact kk H' _ _ (hW.set hk (e := .inr (ci, fs.set j v)) ⟨_, hc, t_OB.to (V := updV (vp_V fs) j v) ⟨_, e1, q2, q3, t_set q4 hap hj v⟩ (fun i _ => vp_updV_set hlen v i)⟩ e3) (va_up_self _ _ _) (fun i hi => va_up_ne _ _ hi) e2 (hS0.put e2 e3 hz)
theorem hr_iald (S : CallFix p m c cc nL s args Ts own) (hE : gE G s) (hW : hw G ad ct H) {n : Nat} {f : Nat → Int32} (hk : ct k = some (.inl (G.2.1.1, n, .inl f))) {i : Int32} (hin : vp_in i n) (hdg : decode cc pc = .ok (.iaload, 1))
    (kk : W p l e R s m args below meth c H locs cells slots Q (F0 m (pc + 1) ls (.int (f i.toNatClampNeg) :: rest))) : W p l e R s m args below meth c H locs cells slots Q (F0 m pc ls (.int i :: .ref (ad k) :: rest)) :=
  va_iald S.1 S.2.1 hE.1 (hW.one hk) 0 0 rfl rfl hin hdg kk
theorem hr_zald (S : CallFix p m c cc nL s args Ts own) (hE : gE G s) (hW : hw G ad ct H) {n : Nat} {f : Nat → Int32} (hk : ct k = some (.inl (G.2.1.2.1, n, .inl f))) {i : Int32} (hin : vp_in i n) (hdg : decode cc pc = .ok (.baload, 1))
    (kk : W p l e R s m args below meth c H locs cells slots Q (F0 m (pc + 1) ls (.int (f i.toNatClampNeg) :: rest))) : W p l e R s m args below meth c H locs cells slots Q (F0 m pc ls (.int i :: .ref (ad k) :: rest)) :=
  va_zald S.1 S.2.1 hE.1 (hW.one hk) 0 1 rfl rfl hin hdg kk
theorem hr_aald (S : CallFix p m c cc nL s args Ts own) (hE : gE G s) (hW : hw G ad ct H) {n : Nat} {f : Nat → Option Nat} (hk : ct k = some (.inl (G.2.1.2.2, n, .inr (.inr (.inr (.inr f)))))) {i : Int32} (hin : vp_in i n) (hdg : decode cc pc = .ok (.aaload, 1))
    (kk : W p l e R s m args below meth c H locs cells slots Q (F0 m (pc + 1) ls (va_rf (f i.toNatClampNeg) :: rest))) : W p l e R s m args below meth c H locs cells slots Q (F0 m pc ls (.int i :: .ref (ad k) :: rest)) :=
  va_aldq (C := RX0) S.1 S.2.1 hE.1 (hW.one hk) 0 2 rfl rfl hin hdg kk
theorem hr_alen (S : CallFix p m c cc nL s args Ts own) (hE : gE G s) (hW : hw G ad ct H) {cA : ClassId} {x : vp_A} (hk : ct k = some (.inl (cA, x))) (t0 : Nat) {ty : FieldType} (ht : [(G.2.1.1, FieldType.int), (G.2.1.2.1, .boolean), (G.2.1.2.2, .object RX0)][t0]? = some (cA, ty)) {v : Int32} (hv : Int32.ofNat x.1 = v) (hdg : decode cc pc = .ok (.arraylength, 1))
    (kk : W p l e R s m args below meth c H locs cells slots Q (F0 m (pc + 1) ls (.int v :: rest))) : W p l e R s m args below meth c H locs cells slots Q (F0 m pc ls (.ref (ad k) :: rest)) :=
  va_alen S.1 S.2.1 hE.1 (hW.one hk) 0 t0 rfl ht hv hdg kk
theorem hr_iast (S : CallFix p m c cc nL s args Ts own) (hE : gE G s) (hW : hw G ad ct H) (hS0 : va_S (hA G.2.2.2) s.heap H locs) {n : Nat} {f : Nat → Int32} (hk : ct k = some (.inl (G.2.1.1, n, .inl f))) {i x : Int32} (hin : vp_in i n) (hdg : decode cc pc = .ok (.iastore, 1))
    (kk : ∀ (H1 : Heap) (locs1 : List Loc) (ct1 : Nat → Option va_E), hw G ad ct1 H1 → ct1 k = some (.inl (G.2.1.1, n, .inl (upd f i.toNatClampNeg x))) → (∀ i, i ≠ k → ct1 i = ct i) → H1.size = H.size → va_S (hA G.2.2.2) s.heap H1 locs1 → W p l e R s m args below meth c H1 locs1 cells slots Q (F0 m (pc + 1) ls rest)) : W p l e R s m args below meth c H locs cells slots Q (F0 m pc ls (.int x :: .int i :: .ref (ad k) :: rest)) := by
  obtain ⟨h0, hz⟩ := hW.1 k _ hk
  refine W.iast S.1 S.2.1 h0 ((hE.1.2 0 _ rfl).1 n (fun j => .int (f j))) (fun q => by cases q) (by show ¬ (i < 0 ∨ (arrV _ _ _).slots.size ≤ _); rw [arrV_size]; exact hin) rfl rfl hdg fun H1 e z oq => ?_
  refine kk H1 _ _ (hW.set hk (e := .inl (G.2.1.1, n, .inl (upd f i.toNatClampNeg x))) ?_ oq) (va_up_self _ _ _) (fun i hi => va_up_ne _ _ hi) z (hS0.put z oq hz)
  show H1[ad k]? = some (vp_cell _ _)
  rw [e]
  rw [vp_cell_i, vp_cell_i, arrV_store]
  congr 2
  funext q
  by_cases hq : q = i.toNatClampNeg
  · subst hq
    simp [updV, upd]
  · simp [updV, upd, hq]
theorem hr_zast (S : CallFix p m c cc nL s args Ts own) (hE : gE G s) (hW : hw G ad ct H) (hS0 : va_S (hA G.2.2.2) s.heap H locs) {n : Nat} {f : Nat → Int32} (hk : ct k = some (.inl (G.2.1.2.1, n, .inl f))) {i x : Int32} (hx : narrow .boolean (.int x) = .int x) (hin : vp_in i n) (hdg : decode cc pc = .ok (.bastore, 1))
    (kk : ∀ (H1 : Heap) (locs1 : List Loc) (ct1 : Nat → Option va_E), hw G ad ct1 H1 → ct1 k = some (.inl (G.2.1.2.1, n, .inl (upd f i.toNatClampNeg x))) → (∀ i, i ≠ k → ct1 i = ct i) → H1.size = H.size → va_S (hA G.2.2.2) s.heap H1 locs1 → W p l e R s m args below meth c H1 locs1 cells slots Q (F0 m (pc + 1) ls rest)) : W p l e R s m args below meth c H locs cells slots Q (F0 m pc ls (.int x :: .int i :: .ref (ad k) :: rest)) := by
  obtain ⟨h0, hz⟩ := hW.1 k _ hk
  refine W.zast S.1 S.2.1 h0 ((hE.1.2 1 _ rfl).1 n (fun j => .int (f j))) (fun q => by cases q) (by show ¬ (i < 0 ∨ (arrV _ _ _).slots.size ≤ _); rw [arrV_size]; exact hin) rfl rfl hdg fun H1 e z oq => ?_
  refine kk H1 _ _ (hW.set hk (e := .inl (G.2.1.2.1, n, .inl (upd f i.toNatClampNeg x))) ?_ oq) (va_up_self _ _ _) (fun i hi => va_up_ne _ _ hi) z (hS0.put z oq hz)
  show H1[ad k]? = some (vp_cell _ _)
  rw [e, hx]
  rw [vp_cell_i, vp_cell_i, arrV_store]
  congr 2
  funext q
  by_cases hq : q = i.toNatClampNeg
  · subst hq
    simp [updV, upd]
  · simp [updV, upd, hq]
theorem hr_aast (S : CallFix p m c cc nL s args Ts own) (hE : gE G s) (hW : hw G ad ct H) (hS0 : va_S (hA G.2.2.2) s.heap H locs) {n v : Nat} {f : Nat → Option Nat} (hk : ct k = some (.inl (G.2.1.2.2, n, .inr (.inr (.inr (.inr f)))))) {vs : List Value} (hv : ct v = some (.inr (0, vs))) {i : Int32} (hin : vp_in i n) (hdg : decode cc pc = .ok (.aastore, 1))
    (kk : ∀ (H1 : Heap) (locs1 : List Loc) (ct1 : Nat → Option va_E), hw G ad ct1 H1 → ct1 k = some (.inl (G.2.1.2.2, n, .inr (.inr (.inr (.inr (va_up f i.toNatClampNeg (some (ad v)))))))) → (∀ i, i ≠ k → ct1 i = ct i) → H1.size = H.size → va_S (hA G.2.2.2) s.heap H1 locs1 → W p l e R s m args below meth c H1 locs1 cells slots Q (F0 m (pc + 1) ls rest)) : W p l e R s m args below meth c H locs cells slots Q (F0 m pc ls (.ref (ad v) :: .int i :: .ref (ad k) :: rest)) := by
  have hlt : i.toNatClampNeg < n := Nat.not_le.mp fun q => hin (Or.inr q)
  have h0 : ¬ i < 0 := fun q => hin (Or.inl q)
  obtain ⟨hat, hz⟩ := hW.1 k _ hk
  obtain ⟨⟨r', hr', cellV, g1, g2, g3, -⟩, -⟩ := hW.1 v _ hv
  have hcls := (hE.1.1 0 (RX0, TX0, 12) rfl).2
  obtain ⟨kA, comp, k1, k2, k3, -⟩ := (hE.1.2 2 _ rfl).2
  have hcomp : comp = G.1.1 0 := Option.some.inj (k3.symm.trans hcls.1)
  subst hcomp
  obtain ⟨kC, hkC, -⟩ := hcls.2
  refine W.aast S.1 S.2.1 hat (fun q h => by cases h) (fun h => by cases h) k1 k2 rfl hkC ⟨h0, by show _ < (arrV _ _ _).slots.size; rw [arrV_size]; exact hlt⟩ g1 (fun q h => by rw [g3] at h; cases h) (by rw [g2]; exact hkC) (by rw [g2]; exact va_assign hcls) rfl rfl hdg fun H1 e z oq => ?_
  refine kk H1 _ _ (hW.set hk (e := .inl (G.2.1.2.2, n, .inr (.inr (.inr (.inr (va_up f i.toNatClampNeg (some (ad v)))))))) ?_ oq) (va_up_self _ _ _) (fun i hi => va_up_ne _ _ hi) z (hS0.put z oq hz)
  show H1[ad k]? = some (vp_cell _ _)
  rw [e]
  rw [vp_cell_q, vp_cell_q, arrV_store]
  congr 2
  funext q
  by_cases hq : q = i.toNatClampNeg
  · subst hq
    simp [updV, va_up, va_rf]
  · simp [updV, va_up, hq]
theorem hr_new (S : CallFix p m c cc nL s args Ts own) (hE : gE G s) (hW : hw G ad ct H) (hS0 : va_S (hA G.2.2.2) s.heap H locs) (k : Nat) (hk : ad k = H.size) (hz : G.2.2.2 ≤ H.size) {C : String} {T : u_T} {N ci : Nat} (hin : ∀ w ∈ u_ws C T N, w ∈ Ts) {ty0 : Nat → FieldType} (hty : ∀ k, k < N → parseFieldDescriptor (T k).2.2.1 = some (ty0 k)) (hc : vwCl[ci]? = some (C, T, N)) {index : Nat} (hcl : Cond.classLink own index C ∈ Ts) (hinst : Cond.instantiable C N ∈ Ts) (hini : Cond.initialized C ∈ Ts) {fs : List Value} (hfs : ∀ j, j < N → defaultValue (ty0 j) = vp_V fs j) (hcells : cells + 1 ≤ R.cells) (hslots : slots + N ≤ R.slots) (hdg : decode cc pc = .ok (.new index, 3))
    (kk : ∀ (H1 : Heap) (ct1 : Nat → Option va_E), hw G ad ct1 H1 → ct1 k = some (.inr (ci, fs)) → (∀ i, i ≠ k → ct1 i = ct i) → H1.size = H.size + 1 → va_S (hA G.2.2.2) s.heap H1 locs → W p l e R s m args below meth c H1 locs (cells + 1) (slots + N) Q (F0 m (pc + 3) ls (.ref (ad k) :: rest))) : W p l e R s m args below meth c H locs cells slots Q (F0 m pc ls rest) := by
  obtain ⟨hexec, hb, -, hown, hts⟩ := S
  have hKn := hE.1.1 ci _ hc
  refine W.newcK hexec hb hown (hts _ hcl) (hts _ hinst) (hts _ hini) rfl hdg hcells hslots hKn.2.1 hk.symm fun H1 kC hkC e1 z1 o1 => ?_
  rw [hk] at z1 o1
  exact kk H1 _ (hW.new hk hz (e := .inr (ci, fs)) ⟨_, hc, (u_born ty0 hts hin hKn hkC e1 hty).to hfs⟩ o1) (va_up_self _ _ _) (fun i hi => va_up_ne _ _ hi) z1 ⟨Nat.le_trans hS0.1 (by omega), fun x h1 h2 => (o1 x (Nat.lt_of_lt_of_le h1 hS0.1)).trans (hS0.2.1 x h1 h2), hS0.2.2⟩
theorem hr_newi (S : CallFix p m c cc nL s args Ts own) (hE : gE G s) (hW : hw G ad ct H) (hS0 : va_S (hA G.2.2.2) s.heap H locs) (k : Nat) (hk : ad k = H.size) (hz : G.2.2.2 ≤ H.size) (harr : Cond.arrayClass .int ∈ Ts) {n : Int32} {N : Nat} (hn : ¬ n < 0) (hN : n.toNatClampNeg = N) (hbytes : N * 4 ≤ 536870912) (hcells : cells + 1 ≤ R.cells) (hslots : slots + N ≤ R.slots) (hdg : decode cc pc = .ok (.newarray .int, 2))
    (kk : ∀ (H1 : Heap) (ct1 : Nat → Option va_E), hw G ad ct1 H1 → ct1 k = some (.inl (G.2.1.1, N, .inl (fun _ => 0))) → (∀ i, i ≠ k → ct1 i = ct i) → H1.size = H.size + 1 → va_S (hA G.2.2.2) s.heap H1 locs → W p l e R s m args below meth c H1 locs (cells + 1) (slots + N) Q (F0 m (pc + 2) ls (.ref (ad k) :: rest))) : W p l e R s m args below meth c H locs cells slots Q (F0 m pc ls (.int n :: rest)) := by
  refine va_newaK (atype := .int) S.1 S.2.1 (S.2.2.2.2 _ harr) rfl hdg rfl hn hN hbytes hcells hslots hk.symm fun H1 cA e1 z1 o1 hAr hNm => ?_
  have hcA : cA = G.2.1.1 := Option.some.inj (hNm.symm.trans (hE.1.2 0 _ rfl).2)
  subst hcA
  rw [hk] at z1 o1
  exact kk H1 _ (hW.new hk hz (e := .inl (G.2.1.1, N, .inl (fun _ => 0))) e1 o1) (va_up_self _ _ _) (fun i hi => va_up_ne _ _ hi) z1 ⟨Nat.le_trans hS0.1 (by omega), fun x h1 h2 => (o1 x (Nat.lt_of_lt_of_le h1 hS0.1)).trans (hS0.2.1 x h1 h2), hS0.2.2⟩
theorem hr_newz (S : CallFix p m c cc nL s args Ts own) (hE : gE G s) (hW : hw G ad ct H) (hS0 : va_S (hA G.2.2.2) s.heap H locs) (k : Nat) (hk : ad k = H.size) (hz : G.2.2.2 ≤ H.size) (harr : Cond.arrayClass .boolean ∈ Ts) {n : Int32} {N : Nat} (hn : ¬ n < 0) (hN : n.toNatClampNeg = N) (hbytes : N * 1 ≤ 536870912) (hcells : cells + 1 ≤ R.cells) (hslots : slots + N ≤ R.slots) (hdg : decode cc pc = .ok (.newarray .boolean, 2))
    (kk : ∀ (H1 : Heap) (ct1 : Nat → Option va_E), hw G ad ct1 H1 → ct1 k = some (.inl (G.2.1.2.1, N, .inl (fun _ => 0))) → (∀ i, i ≠ k → ct1 i = ct i) → H1.size = H.size + 1 → va_S (hA G.2.2.2) s.heap H1 locs → W p l e R s m args below meth c H1 locs (cells + 1) (slots + N) Q (F0 m (pc + 2) ls (.ref (ad k) :: rest))) : W p l e R s m args below meth c H locs cells slots Q (F0 m pc ls (.int n :: rest)) := by
  refine va_newaK (atype := .boolean) S.1 S.2.1 (S.2.2.2.2 _ harr) rfl hdg rfl hn hN hbytes hcells hslots hk.symm fun H1 cA e1 z1 o1 hAr hNm => ?_
  have hcA : cA = G.2.1.2.1 := Option.some.inj (hNm.symm.trans (hE.1.2 1 _ rfl).2)
  subst hcA
  rw [hk] at z1 o1
  exact kk H1 _ (hW.new hk hz (e := .inl (G.2.1.2.1, N, .inl (fun _ => 0))) e1 o1) (va_up_self _ _ _) (fun i hi => va_up_ne _ _ hi) z1 ⟨Nat.le_trans hS0.1 (by omega), fun x h1 h2 => (o1 x (Nat.lt_of_lt_of_le h1 hS0.1)).trans (hS0.2.1 x h1 h2), hS0.2.2⟩
theorem hr_newo (S : CallFix p m c cc nL s args Ts own) (hE : gE G s) (hW : hw G ad ct H) (hS0 : va_S (hA G.2.2.2) s.heap H locs) (k : Nat) (hk : ad k = H.size) (hz : G.2.2.2 ≤ H.size) {index : Nat} (hcl : Cond.classLink own index RX0 ∈ Ts) {n : Int32} {N : Nat} (hn : ¬ n < 0) (hN : n.toNatClampNeg = N) (hbytes : N * 4 ≤ 536870912) (hcells : cells + 1 ≤ R.cells) (hslots : slots + N ≤ R.slots) (hdg : decode cc pc = .ok (.anewarray index, 3))
    (kk : ∀ (H1 : Heap) (ct1 : Nat → Option va_E), hw G ad ct1 H1 → ct1 k = some (.inl (G.2.1.2.2, N, .inr (.inr (.inr (.inr (fun _ => none)))))) → (∀ i, i ≠ k → ct1 i = ct i) → H1.size = H.size + 1 → va_S (hA G.2.2.2) s.heap H1 locs → W p l e R s m args below meth c H1 locs (cells + 1) (slots + N) Q (F0 m (pc + 3) ls (.ref (ad k) :: rest))) : W p l e R s m args below meth c H locs cells slots Q (F0 m pc ls (.int n :: rest)) := by
  subst hN
  refine W.anew S.1 S.2.1 S.2.2.2.1 (S.2.2.2.2 _ hcl) (va_AO.use hE.2.2.1) rfl hdg rfl hn hbytes hcells hslots fun cA kA comp f1 f2 f3 f4 => ?_
  have hcA : cA = G.2.1.2.2 := by
    obtain ⟨kA', comp', k1, k2, k3, k4⟩ := (hE.1.2 2 _ rfl).2
    exact Option.some.inj (f1.symm.trans k4)
  subst hcA
  generalize hH1 : H.push ({ cls := G.2.1.2.2, slots := Array.replicate n.toNatClampNeg .null, vm := .none } : Cell) = H1
  have z1 : H1.size = H.size + 1 := by rw [← hH1, Array.size_push]
  have e1 : H1[H.size]? = some (arrV G.2.1.2.2 n.toNatClampNeg (fun _ => .null)) := by rw [← hH1, Array.getElem?_push_size, ← arrV_new]
  have o1 : ∀ q : Nat, q < H.size → H1[q]? = H[q]? := fun q hq => by rw [← hH1, Array.getElem?_push, if_neg (Nat.ne_of_lt hq)]
  have kk' := kk H1 _ (hW.new hk hz (e := .inl (G.2.1.2.2, n.toNatClampNeg, .inr (.inr (.inr (.inr (fun _ => none)))))) (by show H1[ad k]? = some (vp_cell _ _); rw [hk, vp_cell_q]; exact e1) o1) (va_up_self _ _ _) (fun i hi => va_up_ne _ _ hi) z1 ⟨Nat.le_trans hS0.1 (by omega), fun x h1 h2 => (o1 x (Nat.lt_of_lt_of_le h1 hS0.1)).trans (hS0.2.1 x h1 h2), hS0.2.2⟩
  rw [hk] at kk'
  exact kk'
theorem hr_ialdk (S : CallFix p m c cc nL s args Ts own) (hE : gE G s) (hW : hw G ad ct H) {n : Nat} {f : Nat → Int32} (hk : ct k = some (.inl (G.2.1.1, n, .inl f))) {i : Int32} {j : Nat} (hj : i = nI j) (hlt : j < n) (hn : n < 2 ^ 31) (hdg : decode cc pc = .ok (.iaload, 1))
    (kk : W p l e R s m args below meth c H locs cells slots Q (F0 m (pc + 1) ls (.int (f j) :: rest))) : W p l e R s m args below meth c H locs cells slots Q (F0 m pc ls (.int i :: .ref (ad k) :: rest)) := by
  subst hj
  refine hr_iald S hE hW hk (vp_in_nI hlt hn) hdg ?_
  rw [nI_clamp (Nat.lt_trans hlt hn)]
  exact kk
theorem hr_zaldk (S : CallFix p m c cc nL s args Ts own) (hE : gE G s) (hW : hw G ad ct H) {n : Nat} {f : Nat → Int32} (hk : ct k = some (.inl (G.2.1.2.1, n, .inl f))) {i : Int32} {j : Nat} (hj : i = nI j) (hlt : j < n) (hn : n < 2 ^ 31) (hdg : decode cc pc = .ok (.baload, 1))
    (kk : W p l e R s m args below meth c H locs cells slots Q (F0 m (pc + 1) ls (.int (f j) :: rest))) : W p l e R s m args below meth c H locs cells slots Q (F0 m pc ls (.int i :: .ref (ad k) :: rest)) := by
  subst hj
  refine hr_zald S hE hW hk (vp_in_nI hlt hn) hdg ?_
  rw [nI_clamp (Nat.lt_trans hlt hn)]
  exact kk
theorem hr_aaldk (S : CallFix p m c cc nL s args Ts own) (hE : gE G s) (hW : hw G ad ct H) {n : Nat} {f : Nat → Option Nat} (hk : ct k = some (.inl (G.2.1.2.2, n, .inr (.inr (.inr (.inr f)))))) {i : Int32} {j : Nat} (hj : i = nI j) (hlt : j < n) (hn : n < 2 ^ 31) (hdg : decode cc pc = .ok (.aaload, 1))
    (kk : W p l e R s m args below meth c H locs cells slots Q (F0 m (pc + 1) ls (va_rf (f j) :: rest))) : W p l e R s m args below meth c H locs cells slots Q (F0 m pc ls (.int i :: .ref (ad k) :: rest)) := by
  subst hj
  refine hr_aald S hE hW hk (vp_in_nI hlt hn) hdg ?_
  rw [nI_clamp (Nat.lt_trans hlt hn)]
  exact kk
theorem hr_iastk (S : CallFix p m c cc nL s args Ts own) (hE : gE G s) (hW : hw G ad ct H) (hS0 : va_S (hA G.2.2.2) s.heap H locs) {n : Nat} {f : Nat → Int32} (hk : ct k = some (.inl (G.2.1.1, n, .inl f))) {i x : Int32} {j : Nat} (hj : i = nI j) (hlt : j < n) (hn : n < 2 ^ 31) (hdg : decode cc pc = .ok (.iastore, 1))
    (kk : ∀ (H1 : Heap) (locs1 : List Loc) (ct1 : Nat → Option va_E), hw G ad ct1 H1 → ct1 k = some (.inl (G.2.1.1, n, .inl (upd f j x))) → (∀ i, i ≠ k → ct1 i = ct i) → H1.size = H.size → va_S (hA G.2.2.2) s.heap H1 locs1 → W p l e R s m args below meth c H1 locs1 cells slots Q (F0 m (pc + 1) ls rest)) : W p l e R s m args below meth c H locs cells slots Q (F0 m pc ls (.int x :: .int i :: .ref (ad k) :: rest)) := by
  subst hj
  refine hr_iast S hE hW hS0 hk (vp_in_nI hlt hn) hdg ?_
  rw [nI_clamp (Nat.lt_trans hlt hn)]
  exact kk
theorem hr_zastk (S : CallFix p m c cc nL s args Ts own) (hE : gE G s) (hW : hw G ad ct H) (hS0 : va_S (hA G.2.2.2) s.heap H locs) {n : Nat} {f : Nat → Int32} (hk : ct k = some (.inl (G.2.1.2.1, n, .inl f))) {i x : Int32} (hx : narrow .boolean (.int x) = .int x) {j : Nat} (hj : i = nI j) (hlt : j < n) (hn : n < 2 ^ 31) (hdg : decode cc pc = .ok (.bastore, 1))
    (kk : ∀ (H1 : Heap) (locs1 : List Loc) (ct1 : Nat → Option va_E), hw G ad ct1 H1 → ct1 k = some (.inl (G.2.1.2.1, n, .inl (upd f j x))) → (∀ i, i ≠ k → ct1 i = ct i) → H1.size = H.size → va_S (hA G.2.2.2) s.heap H1 locs1 → W p l e R s m args below meth c H1 locs1 cells slots Q (F0 m (pc + 1) ls rest)) : W p l e R s m args below meth c H locs cells slots Q (F0 m pc ls (.int x :: .int i :: .ref (ad k) :: rest)) := by
  subst hj
  refine hr_zast S hE hW hS0 hk hx (vp_in_nI hlt hn) hdg ?_
  rw [nI_clamp (Nat.lt_trans hlt hn)]
  exact kk
theorem hr_aastk (S : CallFix p m c cc nL s args Ts own) (hE : gE G s) (hW : hw G ad ct H) (hS0 : va_S (hA G.2.2.2) s.heap H locs) {n v : Nat} {f : Nat → Option Nat} (hk : ct k = some (.inl (G.2.1.2.2, n, .inr (.inr (.inr (.inr f)))))) {vs : List Value} (hv : ct v = some (.inr (0, vs))) {i : Int32} {j : Nat} (hj : i = nI j) (hlt : j < n) (hn : n < 2 ^ 31) (hdg : decode cc pc = .ok (.aastore, 1))
    (kk : ∀ (H1 : Heap) (locs1 : List Loc) (ct1 : Nat → Option va_E), hw G ad ct1 H1 → ct1 k = some (.inl (G.2.1.2.2, n, .inr (.inr (.inr (.inr (va_up f j (some (ad v)))))))) → (∀ i, i ≠ k → ct1 i = ct i) → H1.size = H.size → va_S (hA G.2.2.2) s.heap H1 locs1 → W p l e R s m args below meth c H1 locs1 cells slots Q (F0 m (pc + 1) ls rest)) : W p l e R s m args below meth c H locs cells slots Q (F0 m pc ls (.ref (ad v) :: .int i :: .ref (ad k) :: rest)) := by
  subst hj
  refine hr_aast S hE hW hS0 hk hv (vp_in_nI hlt hn) hdg ?_
  rw [nI_clamp (Nat.lt_trans hlt hn)]
  exact kk
/-! calls: of a method that only reads (hPr, hQr, hQq), of one that changes the world (hPw, hQi, hQv) -/
theorem hPre {P : Heap → Prop} {As : List Value} (hE : gE G s) (hS : va_S (hA G.2.2.2) s.heap H locs) (hP : P H) : FrameBlind (va_Pc As (fun U => gE G U ∧ P U.heap)) ∧ ∀ U : State, U.heap = H → s.WarmedH U.vm → va_Pc As (fun U => gE G U ∧ P U.heap) As.toArray U :=
  ⟨fun a U g mk q => ⟨q.1, q.2.1.calling g mk a, q.2.2⟩, fun U hU hW => ⟨rfl, hE.next hS hU hW, by rw [hU]; exact hP⟩⟩
theorem hPreVr {C : String} {b : Addr} {As : List Value} (hE : gE G s) (hS : va_S (hA G.2.2.2) s.heap H locs) (hr : ∃ cellB : Cell, H[b]? = some cellB ∧ cellB.vm.isStatics = false ∧ s.vm.findClass C = some cellB.cls) : PreV s H C b (hPr (.ref b :: As) G H) As :=
  ⟨(hPre (P := fun h => h = H) hE hS rfl).1, hr, (hPre (P := fun h => h = H) hE hS rfl).2⟩
theorem hPreSr {As : List Value} (hE : gE G s) (hS : va_S (hA G.2.2.2) s.heap H locs) : PreS s H (hPr As G H) As := hPre (P := fun h => h = H) hE hS rfl
theorem hPreVw {C : String} {b : Addr} {As : List Value} (hE : gE G s) (hS : va_S (hA G.2.2.2) s.heap H locs) (hr : ∃ cellB : Cell, H[b]? = some cellB ∧ cellB.vm.isStatics = false ∧ s.vm.findClass C = some cellB.cls) (hW : hw G ad ct H) : PreV s H C b (hPw (.ref b :: As) G ad ct) As :=
  ⟨(hPre (P := fun h => hw G ad ct h) hE hS hW).1, hr, (hPre (P := fun h => hw G ad ct h) hE hS hW).2⟩
theorem hPreSw {As : List Value} (hE : gE G s) (hS : va_S (hA G.2.2.2) s.heap H locs) (hW : hw G ad ct H) : PreS s H (hPw As G ad ct) As := hPre (P := fun h => hw G ad ct h) hE hS hW
theorem hPreVz {C : String} {b : Addr} {As : List Value} {n : Nat} (hE : gE G s) (hS : va_S (hA G.2.2.2) s.heap H locs) (hr : ∃ cellB : Cell, H[b]? = some cellB ∧ cellB.vm.isStatics = false ∧ s.vm.findClass C = some cellB.cls) (hW : hw G ad ct H) (hn : H.size = n) : PreV s H C b (hPz (.ref b :: As) G ad ct n) As :=
  ⟨(hPre (P := fun h => hw G ad ct h ∧ h.size = n) hE hS ⟨hW, hn⟩).1, hr, (hPre (P := fun h => hw G ad ct h ∧ h.size = n) hE hS ⟨hW, hn⟩).2⟩
theorem hPreSz {As : List Value} {n : Nat} (hE : gE G s) (hS : va_S (hA G.2.2.2) s.heap H locs) (hW : hw G ad ct H) (hn : H.size = n) : PreS s H (hPz As G ad ct n) As := hPre (P := fun h => hw G ad ct h ∧ h.size = n) hE hS ⟨hW, hn⟩
theorem hrecv (hE : gE G s) (hW : hw G ad ct H) {ci : Nat} {fs : List Value} (hk : ct k = some (.inr (ci, fs))) {q : vw_C} (hc : vwCl[ci]? = some q) : ∃ cell : Cell, H[ad k]? = some cell ∧ cell.vm.isStatics = false ∧ s.vm.findClass q.1 = some cell.cls :=
  va_recv hE.1 (hW.one hk) hc (q0 := 0) rfl
variable {st0 : List Value} {a : Array Value} {mc ms : Nat}
theorem hc_r {v : Int32} {z : Nat} (hr : va_Run p l e R s m args below meth c H locs cells slots 0 0 (F0 m pc ls st0) rest (hQr v H z a) (hA z)) (hS : va_S (hA z) s.heap H locs)
    (kk : ∀ locs1 : List Loc, va_S (hA z) s.heap H locs1 → W p l e R s m args below meth c H locs1 cells slots Q (F0 m (pc + 3) ls (.int v :: rest))) : W p l e R s m args below meth c H locs cells slots Q (F0 m pc ls st0) :=
  va_calli hr hS (fun _ _ h => h) (fun _ h => h) (fun r u t H1 locs1 ht _ hp hB _ _ hS1 => by
    have e1 : H1 = H := ht.symm.trans hB
    have e2 : r = v := hp
    subst e1
    subst e2
    exact kk locs1 hS1)
theorem hc_rq {v : Option Nat} {z : Nat} (hr : va_Run p l e R s m args below meth c H locs cells slots 0 0 (F0 m pc ls st0) rest (hQq v H z a) (hA z)) (hS : va_S (hA z) s.heap H locs)
    (kk : ∀ locs1 : List Loc, va_S (hA z) s.heap H locs1 → W p l e R s m args below meth c H locs1 cells slots Q (F0 m (pc + 3) ls (va_rf v :: rest))) : W p l e R s m args below meth c H locs cells slots Q (F0 m pc ls st0) :=
  va_callq hr hS (fun _ _ h => h) (fun _ h => h) (fun r u t H1 locs1 ht _ hp hB _ _ hS1 => by
    have e1 : H1 = H := ht.symm.trans hB
    have e2 : r = v := hp
    subst e1
    subst e2
    exact kk locs1 hS1)
theorem hc_i {post : Int32 → (Nat → Option va_E) → Prop} (hr : va_Run p l e R s m args below meth c H locs cells slots mc ms (F0 m pc ls st0) rest (hQi post G ad a) (hA G.2.2.2)) (hS : va_S (hA G.2.2.2) s.heap H locs)
    (kk : ∀ (r : Int32) (ct1 : Nat → Option va_E) (H1 : Heap) (locs1 : List Loc), post r ct1 → hw G ad ct1 H1 → va_S (hA G.2.2.2) s.heap H1 locs1 → W p l e R s m args below meth c H1 locs1 (cells + mc) (slots + ms) Q (F0 m (pc + 3) ls (.int r :: rest))) : W p l e R s m args below meth c H locs cells slots Q (F0 m pc ls st0) :=
  va_calli hr hS (fun _ _ h => h) (fun _ h => h) (fun r u t H1 locs1 ht _ hp hB _ _ hS1 => kk r u _ locs1 hp (ht ▸ hB) hS1)
theorem hc_v {post : (Nat → Option va_E) → Prop} (hr : va_Run p l e R s m args below meth c H locs cells slots mc ms (F0 m pc ls st0) rest (hQv post G ad a) (hA G.2.2.2)) (hS : va_S (hA G.2.2.2) s.heap H locs)
    (kk : ∀ (ct1 : Nat → Option va_E) (H1 : Heap) (locs1 : List Loc), post ct1 → hw G ad ct1 H1 → va_S (hA G.2.2.2) s.heap H1 locs1 → W p l e R s m args below meth c H1 locs1 (cells + mc) (slots + ms) Q (F0 m (pc + 3) ls rest)) : W p l e R s m args below meth c H locs cells slots Q (F0 m pc ls st0) :=
  va_callv hr hS (fun _ _ h => h) (fun _ h => h) (fun u t H1 locs1 ht _ hp hB _ _ hS1 => kk u _ locs1 hp (ht ▸ hB) hS1)
theorem hc_zi {post : Int32 → (Nat → Option va_E) → Prop} {n : Nat} (hr : va_Run p l e R s m args below meth c H locs cells slots mc ms (F0 m pc ls st0) rest (hQzi post G ad n a) (hA G.2.2.2)) (hS : va_S (hA G.2.2.2) s.heap H locs)
    (kk : ∀ (r : Int32) (ct1 : Nat → Option va_E) (H1 : Heap) (locs1 : List Loc), post r ct1 → hw G ad ct1 H1 → H1.size ≤ n → va_S (hA G.2.2.2) s.heap H1 locs1 → W p l e R s m args below meth c H1 locs1 (cells + mc) (slots + ms) Q (F0 m (pc + 3) ls (.int r :: rest))) : W p l e R s m args below meth c H locs cells slots Q (F0 m pc ls st0) :=
  va_calli hr hS (fun _ _ h => h) (fun _ h => h) (fun r u t H1 locs1 ht _ hp hB _ _ hS1 => kk r u _ locs1 hp (ht ▸ hB.1) (ht ▸ hB.2) hS1)
theorem hc_zv {post : (Nat → Option va_E) → Prop} {n : Nat} (hr : va_Run p l e R s m args below meth c H locs cells slots mc ms (F0 m pc ls st0) rest (hQzv post G ad n a) (hA G.2.2.2)) (hS : va_S (hA G.2.2.2) s.heap H locs)
    (kk : ∀ (ct1 : Nat → Option va_E) (H1 : Heap) (locs1 : List Loc), post ct1 → hw G ad ct1 H1 → H1.size = n → va_S (hA G.2.2.2) s.heap H1 locs1 → W p l e R s m args below meth c H1 locs1 (cells + mc) (slots + ms) Q (F0 m (pc + 3) ls rest)) : W p l e R s m args below meth c H locs cells slots Q (F0 m pc ls st0) :=
  va_callv hr hS (fun _ _ h => h) (fun _ h => h) (fun u t H1 locs1 ht _ hp hB _ _ hS1 => kk u _ locs1 hp (ht ▸ hB.1) (ht ▸ hB.2) hS1)
/-! ends -/
theorem h_rret {v w : Int32} {z : Nat} (S : CallFix p m c cc nL s args Ts own) (hr : meth.sig.returnType = some .int) (hlocks : meth.locks = false) (hS : va_S (hA z) s.heap s.heap locs) (hdg : decode cc pc = .ok (.ireturn, 1)) (hp : v = w) : W p l e R s m args below meth c s.heap locs cells slots (MQ below (hQr w s.heap z) args s cells slots (hA z)) (F0 m pc ls [.int v]) :=
  W.iret S.1 S.2.1 hr (fun t ht _ => ⟨⟨v, (), rfl, hp, ht⟩, hS.F ht⟩) hS.2.2 hdg hlocks
theorem h_rzret {v w : Int32} {z : Nat} (S : CallFix p m c cc nL s args Ts own) (hr : meth.sig.returnType = some .boolean) (hlocks : meth.locks = false) (hS : va_S (hA z) s.heap s.heap locs) (hdg : decode cc pc = .ok (.ireturn, 1)) (hn : w = 0 ∨ w = 1) (hp : v = w) : W p l e R s m args below meth c s.heap locs cells slots (MQ below (hQr w s.heap z) args s cells slots (hA z)) (F0 m pc ls [.int v]) :=
  W.zret S.1 S.2.1 hr (by rw [hp]; rcases hn with h | h <;> subst h <;> rfl) (fun t ht _ => ⟨⟨v, (), rfl, hp, ht⟩, hS.F ht⟩) hS.2.2 hdg hlocks
theorem h_rqret {C : String} {v : Value} {w : Option Nat} {z : Nat} (S : CallFix p m c cc nL s args Ts own) (hr : meth.sig.returnType = some (.object C)) (hlocks : meth.locks = false) (hS : va_S (hA z) s.heap s.heap locs) (hdg : decode cc pc = .ok (.areturn, 1)) (hp : v = va_rf w) : W p l e R s m args below meth c s.heap locs cells slots (MQ below (hQq w s.heap z) args s cells slots (hA z)) (F0 m pc ls [v]) := by
  subst hp
  exact W.aret S.1 S.2.1 hr (Or.inl ⟨C, rfl⟩) (va_rf_or w) (fun t ht _ => ⟨⟨w, (), rfl, rfl, ht⟩, hS.F ht⟩) hS.2.2 hdg hlocks
theorem h_iret {post : Int32 → (Nat → Option va_E) → Prop} {v : Int32} (S : CallFix p m c cc nL s args Ts own) (hr : meth.sig.returnType = some .int) (hlocks : meth.locks = false) (hS : va_S (hA G.2.2.2) s.heap H locs) (hW : hw G ad ct H) (hdg : decode cc pc = .ok (.ireturn, 1)) (hp : post v ct) : W p l e R s m args below meth c H locs cells slots (MQ below (hQi post G ad) args s cells slots (hA G.2.2.2)) (F0 m pc ls [.int v]) :=
  W.iret S.1 S.2.1 hr (fun t ht _ => ⟨⟨v, ct, rfl, hp, by show hw G ad ct t.heap; rw [ht]; exact hW⟩, hS.F ht⟩) hS.2.2 hdg hlocks
theorem h_vret {post : (Nat → Option va_E) → Prop} (S : CallFix p m c cc nL s args Ts own) (hr : meth.sig.returnType = none) (hlocks : meth.locks = false) (hS : va_S (hA G.2.2.2) s.heap H locs) (hW : hw G ad ct H) (hdg : decode cc pc = .ok (.return_, 1)) (hp : post ct) : W p l e R s m args below meth c H locs cells slots (MQ below (hQv post G ad) args s cells slots (hA G.2.2.2)) (F0 m pc ls []) :=
  W.vret S.1 S.2.1 hr (fun t ht _ => ⟨⟨ct, rfl, hp, by show hw G ad ct t.heap; rw [ht]; exact hW⟩, hS.F ht⟩) hS.2.2 hdg hlocks
theorem h_ziret {post : Int32 → (Nat → Option va_E) → Prop} {v : Int32} {n : Nat} (S : CallFix p m c cc nL s args Ts own) (hr : meth.sig.returnType = some .int) (hlocks : meth.locks = false) (hS : va_S (hA G.2.2.2) s.heap H locs) (hW : hw G ad ct H) (hn : H.size ≤ n) (hdg : decode cc pc = .ok (.ireturn, 1)) (hp : post v ct) : W p l e R s m args below meth c H locs cells slots (MQ below (hQzi post G ad n) args s cells slots (hA G.2.2.2)) (F0 m pc ls [.int v]) :=
  W.iret S.1 S.2.1 hr (fun t ht _ => ⟨⟨v, ct, rfl, hp, by show hw G ad ct t.heap ∧ t.heap.size ≤ n; rw [ht]; exact ⟨hW, hn⟩⟩, hS.F ht⟩) hS.2.2 hdg hlocks
theorem h_zvret {post : (Nat → Option va_E) → Prop} {n : Nat} (S : CallFix p m c cc nL s args Ts own) (hr : meth.sig.returnType = none) (hlocks : meth.locks = false) (hS : va_S (hA G.2.2.2) s.heap H locs) (hW : hw G ad ct H) (hn : H.size = n) (hdg : decode cc pc = .ok (.return_, 1)) (hp : post ct) : W p l e R s m args below meth c H locs cells slots (MQ below (hQzv post G ad n) args s cells slots (hA G.2.2.2)) (F0 m pc ls []) :=
  W.vret S.1 S.2.1 hr (fun t ht _ => ⟨⟨ct, rfl, hp, by show hw G ad ct t.heap ∧ t.heap.size = n; rw [ht]; exact ⟨hW, hn⟩⟩, hS.F ht⟩) hS.2.2 hdg hlocks
end HR
theorem hMet0 {l : Launch} {y : MethodName} {rm : Room} {As : List Value} {G : hG} {P : Heap → Prop} {Qc : Array Value → State → Outcome → State → Prop} {mc ms : Nat} {free : Addr → Prop} {cc : ByteArray} {maxL : Nat} {ret : Option FieldType} (hy : plainName y.cls = true) (hle : (lg_sl As).length ≤ maxL)
    (body : ∀ (p : Program) (e : Env) (s : State) (m : MethodId) (below : List Frame) (meth : Method) (c : Code) (ls : Array Slot), CallFix p m c cc maxL s As.toArray WS y.cls → meth.sig.returnType = ret → meth.locks = false → (y.name = "<init>" → meth.name = "<init>") → gE G s → P s.heap → lv_has ls maxL (lv_args 0 As) →
      W p l e rm s m As.toArray below meth c s.heap [] 0 0 (MQ below Qc As.toArray s mc ms free) (F0 m 0 ls [])) : Met l y (Cond.code y cc maxL ret :: WS) rm (va_Pc As (fun U => gE G U ∧ P U.heap)) Qc mc ms free := by
  refine Met.ofW (cc := cc) (maxL := maxL) (ret := ret) hy rfl ?_
  intro p e s m args below meth c s₁ B hml hv
  obtain ⟨rfl, hE, hP⟩ := hv
  have hl := lv_entry As (n := maxL) hle
  rw [lg_entry_eq]
  exact body p e s m below meth c _ ⟨B.exec, B.bytes, hml, findClass_of_methodNamed B.named, fun w h => atoms_spec (ws := Cond.code y cc maxL ret :: WS) B.pre w (List.mem_cons_of_mem _ h)⟩ B.returns B.notSynchronized (fun h => ((name_of_methodNamed B.named B.method).1).trans h) hE hP hl
theorem hMetr {l : Launch} {y : MethodName} {rm : Room} {As : List Value} {G : hG} {H : Heap} {Qc : Heap → Array Value → State → Outcome → State → Prop} {mc ms : Nat} {free : Addr → Prop} {cc : ByteArray} {maxL : Nat} {ret : Option FieldType} (hy : plainName y.cls = true) (hle : (lg_sl As).length ≤ maxL)
    (body : ∀ (p : Program) (e : Env) (s : State) (m : MethodId) (below : List Frame) (meth : Method) (c : Code) (ls : Array Slot), CallFix p m c cc maxL s As.toArray WS y.cls → meth.sig.returnType = ret → meth.locks = false → gE G s → s.heap = H → lv_has ls maxL (lv_args 0 As) →
      W p l e rm s m As.toArray below meth c s.heap [] 0 0 (MQ below (Qc s.heap) As.toArray s mc ms free) (F0 m 0 ls [])) : Met l y (Cond.code y cc maxL ret :: WS) rm (hPr As G H) (Qc H) mc ms free :=
  hMet0 (P := fun h => h = H) hy hle (fun p e s m below meth c ls S hr hk _ hE hP hl => by
    have h := body p e s m below meth c ls S hr hk hE hP hl
    have e : Qc s.heap = Qc H := congrArg Qc hP
    rw [e] at h
    exact h)
theorem hMetw {l : Launch} {y : MethodName} {rm : Room} {As : List Value} {G : hG} {ad : Nat → Nat} {ct : Nat → Option va_E} {Qc : Array Value → State → Outcome → State → Prop} {mc ms : Nat} {free : Addr → Prop} {cc : ByteArray} {maxL : Nat} {ret : Option FieldType} (hy : plainName y.cls = true) (hle : (lg_sl As).length ≤ maxL)
    (body : ∀ (p : Program) (e : Env) (s : State) (m : MethodId) (below : List Frame) (meth : Method) (c : Code) (ls : Array Slot), CallFix p m c cc maxL s As.toArray WS y.cls → meth.sig.returnType = ret → meth.locks = false → gE G s → hw G ad ct s.heap → lv_has ls maxL (lv_args 0 As) →
      W p l e rm s m As.toArray below meth c s.heap [] 0 0 (MQ below Qc As.toArray s mc ms free) (F0 m 0 ls [])) : Met l y (Cond.code y cc maxL ret :: WS) rm (hPw As G ad ct) Qc mc ms free :=
  hMet0 (P := fun h => hw G ad ct h) hy hle (fun p e s m below meth c ls S hr hk _ hE hP hl => body p e s m below meth c ls S hr hk hE hP hl)
theorem hMetz {l : Launch} {y : MethodName} {rm : Room} {As : List Value} {G : hG} {ad : Nat → Nat} {ct : Nat → Option va_E} {n : Nat} {Qc : Array Value → State → Outcome → State → Prop} {mc ms : Nat} {free : Addr → Prop} {cc : ByteArray} {maxL : Nat} {ret : Option FieldType} (hy : plainName y.cls = true) (hle : (lg_sl As).length ≤ maxL)
    (body : ∀ (p : Program) (e : Env) (s : State) (m : MethodId) (below : List Frame) (meth : Method) (c : Code) (ls : Array Slot), CallFix p m c cc maxL s As.toArray WS y.cls → meth.sig.returnType = ret → meth.locks = false → (y.name = "<init>" → meth.name = "<init>") → gE G s → hw G ad ct s.heap → s.heap.size = n → lv_has ls maxL (lv_args 0 As) →
      W p l e rm s m As.toArray below meth c s.heap [] 0 0 (MQ below Qc As.toArray s mc ms free) (F0 m 0 ls [])) : Met l y (Cond.code y cc maxL ret :: WS) rm (hPz As G ad ct n) Qc mc ms free :=
  hMet0 (P := fun h => hw G ad ct h ∧ h.size = n) hy hle (fun p e s m below meth c ls S hr hk hi hE hP hl => body p e s m below meth c ls S hr hk hi hE hP.1 hP.2 hl)
end
section
theorem dX0_init_0 : decode cX0_init 0 = .ok (.aload_n 0, 1) := by decide +kernel
theorem dX0_init_1 : decode cX0_init 1 = .ok (.invokespecial 3, 3) := by decide +kernel
theorem dX0_init_4 : decode cX0_init 4 = .ok (.aload_n 0, 1) := by decide +kernel
theorem dX0_init_5 : decode cX0_init 5 = .ok (.aload_n 1, 1) := by decide +kernel
theorem dX0_init_6 : decode cX0_init 6 = .ok (.putfield 9, 3) := by decide +kernel
theorem dX0_init_9 : decode cX0_init 9 = .ok (.aload_n 0, 1) := by decide +kernel
theorem dX0_init_10 : decode cX0_init 10 = .ok (.aload_n 2, 1) := by decide +kernel
theorem dX0_init_11 : decode cX0_init 11 = .ok (.putfield 15, 3) := by decide +kernel
theorem dX0_init_14 : decode cX0_init 14 = .ok (.aload_n 0, 1) := by decide +kernel
theorem dX0_init_15 : decode cX0_init 15 = .ok (.bipush 7, 2) := by decide +kernel
theorem dX0_init_17 : decode cX0_init 17 = .ok (.iload_n 3, 1) := by decide +kernel
theorem dX0_init_18 : decode cX0_init 18 = .ok (.iadd, 1) := by decide +kernel
theorem dX0_init_19 : decode cX0_init 19 = .ok (.putfield 19, 3) := by decide +kernel
theorem dX0_init_22 : decode cX0_init 22 = .ok (.aload_n 0, 1) := by decide +kernel
theorem dX0_init_23 : decode cX0_init 23 = .ok (.iload 4, 2) := by decide +kernel
theorem dX0_init_25 : decode cX0_init 25 = .ok (.putfield 23, 3) := by decide +kernel
theorem dX0_init_28 : decode cX0_init 28 = .ok (.return_, 1) := by decide +kernel
theorem dX0_bears_0 : decode cX0_bears 0 = .ok (.aload_n 0, 1) := by decide +kernel
theorem dX0_bears_1 : decode cX0_bears 1 = .ok (.getfield 9, 3) := by decide +kernel
theorem dX0_bears_4 : decode cX0_bears 4 = .ok (.aload_n 0, 1) := by decide +kernel
theorem dX0_bears_5 : decode cX0_bears 5 = .ok (.getfield 19, 3) := by decide +kernel
theorem dX0_bears_8 : decode cX0_bears 8 = .ok (.iload_n 1, 1) := by decide +kernel
theorem dX0_bears_9 : decode cX0_bears 9 = .ok (.invokevirtual 26, 3) := by decide +kernel
theorem dX0_bears_12 : decode cX0_bears 12 = .ok (.ireturn, 1) := by decide +kernel
theorem dX0_hasAct_0 : decode cX0_hasAct 0 = .ok (.iload_n 1, 1) := by decide +kernel
theorem dX0_hasAct_1 : decode cX0_hasAct 1 = .ok (.ifCond .ne 18, 3) := by decide +kernel
theorem dX0_hasAct_4 : decode cX0_hasAct 4 = .ok (.aload_n 0, 1) := by decide +kernel
theorem dX0_hasAct_5 : decode cX0_hasAct 5 = .ok (.getfield 9, 3) := by decide +kernel
theorem dX0_hasAct_8 : decode cX0_hasAct 8 = .ok (.aload_n 0, 1) := by decide +kernel
theorem dX0_hasAct_9 : decode cX0_hasAct 9 = .ok (.getfield 19, 3) := by decide +kernel
theorem dX0_hasAct_12 : decode cX0_hasAct 12 = .ok (.iload_n 2, 1) := by decide +kernel
theorem dX0_hasAct_13 : decode cX0_hasAct 13 = .ok (.invokevirtual 32, 3) := by decide +kernel
theorem dX0_hasAct_16 : decode cX0_hasAct 16 = .ok (.goto 12, 3) := by decide +kernel
theorem dX0_hasAct_19 : decode cX0_hasAct 19 = .ok (.aload_n 0, 1) := by decide +kernel
theorem dX0_hasAct_20 : decode cX0_hasAct 20 = .ok (.getfield 9, 3) := by decide +kernel
theorem dX0_hasAct_23 : decode cX0_hasAct 23 = .ok (.iload_n 1, 1) := by decide +kernel
theorem dX0_hasAct_24 : decode cX0_hasAct 24 = .ok (.iload_n 2, 1) := by decide +kernel
theorem dX0_hasAct_25 : decode cX0_hasAct 25 = .ok (.invokevirtual 35, 3) := by decide +kernel
theorem dX0_hasAct_28 : decode cX0_hasAct 28 = .ok (.ireturn, 1) := by decide +kernel
theorem dX0_fact_0 : decode cX0_fact 0 = .ok (.iload_n 1, 1) := by decide +kernel
theorem dX0_fact_1 : decode cX0_fact 1 = .ok (.tableswitch 72 0 5 #[39, 47, 52, 57, 62, 67], 39) := by decide +kernel
theorem dX0_fact_40 : decode cX0_fact 40 = .ok (.aload_n 0, 1) := by decide +kernel
theorem dX0_fact_41 : decode cX0_fact 41 = .ok (.getfield 19, 3) := by decide +kernel
theorem dX0_fact_44 : decode cX0_fact 44 = .ok (.bipush 7, 2) := by decide +kernel
theorem dX0_fact_46 : decode cX0_fact 46 = .ok (.isub, 1) := by decide +kernel
theorem dX0_fact_47 : decode cX0_fact 47 = .ok (.ireturn, 1) := by decide +kernel
theorem dX0_fact_48 : decode cX0_fact 48 = .ok (.aload_n 0, 1) := by decide +kernel
theorem dX0_fact_49 : decode cX0_fact 49 = .ok (.getfield 23, 3) := by decide +kernel
theorem dX0_fact_52 : decode cX0_fact 52 = .ok (.ireturn, 1) := by decide +kernel
theorem dX0_fact_53 : decode cX0_fact 53 = .ok (.aload_n 0, 1) := by decide +kernel
theorem dX0_fact_54 : decode cX0_fact 54 = .ok (.getfield 38, 3) := by decide +kernel
theorem dX0_fact_57 : decode cX0_fact 57 = .ok (.ireturn, 1) := by decide +kernel
theorem dX0_fact_58 : decode cX0_fact 58 = .ok (.aload_n 0, 1) := by decide +kernel
theorem dX0_fact_59 : decode cX0_fact 59 = .ok (.getfield 41, 3) := by decide +kernel
theorem dX0_fact_62 : decode cX0_fact 62 = .ok (.ireturn, 1) := by decide +kernel
theorem dX0_fact_63 : decode cX0_fact 63 = .ok (.aload_n 0, 1) := by decide +kernel
theorem dX0_fact_64 : decode cX0_fact 64 = .ok (.getfield 44, 3) := by decide +kernel
theorem dX0_fact_67 : decode cX0_fact 67 = .ok (.ireturn, 1) := by decide +kernel
theorem dX0_fact_68 : decode cX0_fact 68 = .ok (.aload_n 0, 1) := by decide +kernel
theorem dX0_fact_69 : decode cX0_fact 69 = .ok (.getfield 47, 3) := by decide +kernel
theorem dX0_fact_72 : decode cX0_fact 72 = .ok (.ireturn, 1) := by decide +kernel
theorem dX0_fact_73 : decode cX0_fact 73 = .ok (.iconst 0, 1) := by decide +kernel
theorem dX0_fact_74 : decode cX0_fact 74 = .ok (.ireturn, 1) := by decide +kernel
theorem dX0_addLink_0 : decode cX0_addLink 0 = .ok (.aload_n 0, 1) := by decide +kernel
theorem dX0_addLink_1 : decode cX0_addLink 1 = .ok (.getfield 50, 3) := by decide +kernel
theorem dX0_addLink_4 : decode cX0_addLink 4 = .ok (.ifnonnull 11, 3) := by decide +kernel
theorem dX0_addLink_7 : decode cX0_addLink 7 = .ok (.aload_n 0, 1) := by decide +kernel
theorem dX0_addLink_8 : decode cX0_addLink 8 = .ok (.aload_n 1, 1) := by decide +kernel
theorem dX0_addLink_9 : decode cX0_addLink 9 = .ok (.putfield 54, 3) := by decide +kernel
theorem dX0_addLink_12 : decode cX0_addLink 12 = .ok (.goto 11, 3) := by decide +kernel
theorem dX0_addLink_15 : decode cX0_addLink 15 = .ok (.aload_n 0, 1) := by decide +kernel
theorem dX0_addLink_16 : decode cX0_addLink 16 = .ok (.getfield 50, 3) := by decide +kernel
theorem dX0_addLink_19 : decode cX0_addLink 19 = .ok (.aload_n 1, 1) := by decide +kernel
theorem dX0_addLink_20 : decode cX0_addLink 20 = .ok (.putfield 57, 3) := by decide +kernel
theorem dX0_addLink_23 : decode cX0_addLink 23 = .ok (.aload_n 0, 1) := by decide +kernel
theorem dX0_addLink_24 : decode cX0_addLink 24 = .ok (.aload_n 1, 1) := by decide +kernel
theorem dX0_addLink_25 : decode cX0_addLink 25 = .ok (.putfield 50, 3) := by decide +kernel
theorem dX0_addLink_28 : decode cX0_addLink 28 = .ok (.aload_n 0, 1) := by decide +kernel
theorem dX0_addLink_29 : decode cX0_addLink 29 = .ok (.dup, 1) := by decide +kernel
theorem dX0_addLink_30 : decode cX0_addLink 30 = .ok (.getfield 41, 3) := by decide +kernel
theorem dX0_addLink_33 : decode cX0_addLink 33 = .ok (.iconst 1, 1) := by decide +kernel
theorem dX0_addLink_34 : decode cX0_addLink 34 = .ok (.iadd, 1) := by decide +kernel
theorem dX0_addLink_35 : decode cX0_addLink 35 = .ok (.putfield 41, 3) := by decide +kernel
theorem dX0_addLink_38 : decode cX0_addLink 38 = .ok (.return_, 1) := by decide +kernel
theorem dX0_take_0 : decode cX0_take 0 = .ok (.aload_n 0, 1) := by decide +kernel
theorem dX0_take_1 : decode cX0_take 1 = .ok (.dup, 1) := by decide +kernel
theorem dX0_take_2 : decode cX0_take 2 = .ok (.getfield 47, 3) := by decide +kernel
theorem dX0_take_5 : decode cX0_take 5 = .ok (.iconst 1, 1) := by decide +kernel
theorem dX0_take_6 : decode cX0_take 6 = .ok (.iadd, 1) := by decide +kernel
theorem dX0_take_7 : decode cX0_take 7 = .ok (.putfield 47, 3) := by decide +kernel
theorem dX0_take_10 : decode cX0_take 10 = .ok (.aload_n 0, 1) := by decide +kernel
theorem dX0_take_11 : decode cX0_take 11 = .ok (.iload_n 2, 1) := by decide +kernel
theorem dX0_take_12 : decode cX0_take 12 = .ok (.putfield 62, 3) := by decide +kernel
theorem dX0_take_15 : decode cX0_take 15 = .ok (.aload_n 0, 1) := by decide +kernel
theorem dX0_take_16 : decode cX0_take 16 = .ok (.aload_n 0, 1) := by decide +kernel
theorem dX0_take_17 : decode cX0_take 17 = .ok (.aload_n 0, 1) := by decide +kernel
theorem dX0_take_18 : decode cX0_take 18 = .ok (.invokevirtual 65, 3) := by decide +kernel
theorem dX0_take_21 : decode cX0_take 21 = .ok (.iload_n 1, 1) := by decide +kernel
theorem dX0_take_22 : decode cX0_take 22 = .ok (.iconst 0, 1) := by decide +kernel
theorem dX0_take_23 : decode cX0_take 23 = .ok (.invokevirtual 69, 3) := by decide +kernel
theorem dX0_take_26 : decode cX0_take 26 = .ok (.putfield 73, 3) := by decide +kernel
theorem dX0_take_29 : decode cX0_take 29 = .ok (.return_, 1) := by decide +kernel
theorem dX0_takingAct_0 : decode cX0_takingAct 0 = .ok (.aload_n 0, 1) := by decide +kernel
theorem dX0_takingAct_1 : decode cX0_takingAct 1 = .ok (.iconst 3, 1) := by decide +kernel
theorem dX0_takingAct_2 : decode cX0_takingAct 2 = .ok (.invokevirtual 76, 3) := by decide +kernel
theorem dX0_takingAct_5 : decode cX0_takingAct 5 = .ok (.ifCond .eq 5, 3) := by decide +kernel
theorem dX0_takingAct_8 : decode cX0_takingAct 8 = .ok (.iconst 4, 1) := by decide +kernel
theorem dX0_takingAct_9 : decode cX0_takingAct 9 = .ok (.ireturn, 1) := by decide +kernel
theorem dX0_takingAct_10 : decode cX0_takingAct 10 = .ok (.aload_n 0, 1) := by decide +kernel
theorem dX0_takingAct_11 : decode cX0_takingAct 11 = .ok (.iconst 2, 1) := by decide +kernel
theorem dX0_takingAct_12 : decode cX0_takingAct 12 = .ok (.invokevirtual 76, 3) := by decide +kernel
theorem dX0_takingAct_15 : decode cX0_takingAct 15 = .ok (.ifCond .eq 7, 3) := by decide +kernel
theorem dX0_takingAct_18 : decode cX0_takingAct 18 = .ok (.iconst 1, 1) := by decide +kernel
theorem dX0_takingAct_19 : decode cX0_takingAct 19 = .ok (.goto 5, 3) := by decide +kernel
theorem dX0_takingAct_22 : decode cX0_takingAct 22 = .ok (.bipush 6, 2) := by decide +kernel
theorem dX0_takingAct_24 : decode cX0_takingAct 24 = .ok (.ireturn, 1) := by decide +kernel
theorem dX0_answer_0 : decode cX0_answer 0 = .ok (.aload_n 0, 1) := by decide +kernel
theorem dX0_answer_1 : decode cX0_answer 1 = .ok (.iload_n 1, 1) := by decide +kernel
theorem dX0_answer_2 : decode cX0_answer 2 = .ok (.iload_n 2, 1) := by decide +kernel
theorem dX0_answer_3 : decode cX0_answer 3 = .ok (.iconst 0, 1) := by decide +kernel
theorem dX0_answer_4 : decode cX0_answer 4 = .ok (.invokevirtual 69, 3) := by decide +kernel
theorem dX0_answer_7 : decode cX0_answer 7 = .ok (.ireturn, 1) := by decide +kernel
theorem dX0_act_0 : decode cX0_act 0 = .ok (.aload_n 0, 1) := by decide +kernel
theorem dX0_act_1 : decode cX0_act 1 = .ok (.aload_n 0, 1) := by decide +kernel
theorem dX0_act_2 : decode cX0_act 2 = .ok (.getfield 9, 3) := by decide +kernel
theorem dX0_act_5 : decode cX0_act 5 = .ok (.aload_n 0, 1) := by decide +kernel
theorem dX0_act_6 : decode cX0_act 6 = .ok (.getfield 19, 3) := by decide +kernel
theorem dX0_act_9 : decode cX0_act 9 = .ok (.iload_n 1, 1) := by decide +kernel
theorem dX0_act_10 : decode cX0_act 10 = .ok (.invokevirtual 79, 3) := by decide +kernel
theorem dX0_act_13 : decode cX0_act 13 = .ok (.iload_n 2, 1) := by decide +kernel
theorem dX0_act_14 : decode cX0_act 14 = .ok (.iload_n 3, 1) := by decide +kernel
theorem dX0_act_15 : decode cX0_act 15 = .ok (.invokevirtual 83, 3) := by decide +kernel
theorem dX0_act_18 : decode cX0_act 18 = .ok (.ireturn, 1) := by decide +kernel
theorem dX0_parentAct_0 : decode cX0_parentAct 0 = .ok (.aload_n 0, 1) := by decide +kernel
theorem dX0_parentAct_1 : decode cX0_parentAct 1 = .ok (.aload_n 0, 1) := by decide +kernel
theorem dX0_parentAct_2 : decode cX0_parentAct 2 = .ok (.getfield 9, 3) := by decide +kernel
theorem dX0_parentAct_5 : decode cX0_parentAct 5 = .ok (.iload_n 1, 1) := by decide +kernel
theorem dX0_parentAct_6 : decode cX0_parentAct 6 = .ok (.invokestatic 86, 3) := by decide +kernel
theorem dX0_parentAct_9 : decode cX0_parentAct 9 = .ok (.iload_n 2, 1) := by decide +kernel
theorem dX0_parentAct_10 : decode cX0_parentAct 10 = .ok (.invokevirtual 79, 3) := by decide +kernel
theorem dX0_parentAct_13 : decode cX0_parentAct 13 = .ok (.iload_n 3, 1) := by decide +kernel
theorem dX0_parentAct_14 : decode cX0_parentAct 14 = .ok (.iload 4, 2) := by decide +kernel
theorem dX0_parentAct_16 : decode cX0_parentAct 16 = .ok (.invokevirtual 83, 3) := by decide +kernel
theorem dX0_parentAct_19 : decode cX0_parentAct 19 = .ok (.ireturn, 1) := by decide +kernel
theorem dX0_interfaceAct_0 : decode cX0_interfaceAct 0 = .ok (.aload_n 0, 1) := by decide +kernel
theorem dX0_interfaceAct_1 : decode cX0_interfaceAct 1 = .ok (.aload_n 0, 1) := by decide +kernel
theorem dX0_interfaceAct_2 : decode cX0_interfaceAct 2 = .ok (.getfield 9, 3) := by decide +kernel
theorem dX0_interfaceAct_5 : decode cX0_interfaceAct 5 = .ok (.iload_n 1, 1) := by decide +kernel
theorem dX0_interfaceAct_6 : decode cX0_interfaceAct 6 = .ok (.iload_n 2, 1) := by decide +kernel
theorem dX0_interfaceAct_7 : decode cX0_interfaceAct 7 = .ok (.invokevirtual 79, 3) := by decide +kernel
theorem dX0_interfaceAct_10 : decode cX0_interfaceAct 10 = .ok (.iload_n 3, 1) := by decide +kernel
theorem dX0_interfaceAct_11 : decode cX0_interfaceAct 11 = .ok (.iload 4, 2) := by decide +kernel
theorem dX0_interfaceAct_13 : decode cX0_interfaceAct 13 = .ok (.invokevirtual 83, 3) := by decide +kernel
theorem dX0_interfaceAct_16 : decode cX0_interfaceAct 16 = .ok (.ireturn, 1) := by decide +kernel
theorem dX0_run_0 : decode cX0_run 0 = .ok (.iload_n 1, 1) := by decide +kernel
theorem dX0_run_1 : decode cX0_run 1 = .ok (.ifCond .eq 9, 3) := by decide +kernel
theorem dX0_run_4 : decode cX0_run 4 = .ok (.iload_n 3, 1) := by decide +kernel
theorem dX0_run_5 : decode cX0_run 5 = .ok (.bipush 40, 2) := by decide +kernel
theorem dX0_run_7 : decode cX0_run 7 = .ok (.if_icmp .lt 5, 3) := by decide +kernel
theorem dX0_run_10 : decode cX0_run 10 = .ok (.iconst 0, 1) := by decide +kernel
theorem dX0_run_11 : decode cX0_run 11 = .ok (.ireturn, 1) := by decide +kernel
theorem dX0_run_12 : decode cX0_run 12 = .ok (.aload_n 0, 1) := by decide +kernel
theorem dX0_run_13 : decode cX0_run 13 = .ok (.getfield 15, 3) := by decide +kernel
theorem dX0_run_16 : decode cX0_run 16 = .ok (.iload_n 1, 1) := by decide +kernel
theorem dX0_run_17 : decode cX0_run 17 = .ok (.invokevirtual 90, 3) := by decide +kernel
theorem dX0_run_20 : decode cX0_run 20 = .ok (.iload_n 1, 1) := by decide +kernel
theorem dX0_run_21 : decode cX0_run 21 = .ok (.bipush 60, 2) := by decide +kernel
theorem dX0_run_23 : decode cX0_run 23 = .ok (.if_icmp .ge 13, 3) := by decide +kernel
theorem dX0_run_26 : decode cX0_run 26 = .ok (.aload_n 0, 1) := by decide +kernel
theorem dX0_run_27 : decode cX0_run 27 = .ok (.iload_n 1, 1) := by decide +kernel
theorem dX0_run_28 : decode cX0_run 28 = .ok (.iload_n 2, 1) := by decide +kernel
theorem dX0_run_29 : decode cX0_run 29 = .ok (.iload_n 3, 1) := by decide +kernel
theorem dX0_run_30 : decode cX0_run 30 = .ok (.iconst 1, 1) := by decide +kernel
theorem dX0_run_31 : decode cX0_run 31 = .ok (.iadd, 1) := by decide +kernel
theorem dX0_run_32 : decode cX0_run 32 = .ok (.invokevirtual 96, 3) := by decide +kernel
theorem dX0_run_35 : decode cX0_run 35 = .ok (.ireturn, 1) := by decide +kernel
theorem dX0_run_36 : decode cX0_run 36 = .ok (.iload_n 1, 1) := by decide +kernel
theorem dX0_run_37 : decode cX0_run 37 = .ok (.bipush 100, 2) := by decide +kernel
theorem dX0_run_39 : decode cX0_run 39 = .ok (.if_icmp .ge 13, 3) := by decide +kernel
theorem dX0_run_42 : decode cX0_run 42 = .ok (.aload_n 0, 1) := by decide +kernel
theorem dX0_run_43 : decode cX0_run 43 = .ok (.iload_n 1, 1) := by decide +kernel
theorem dX0_run_44 : decode cX0_run 44 = .ok (.iload_n 2, 1) := by decide +kernel
theorem dX0_run_45 : decode cX0_run 45 = .ok (.iload_n 3, 1) := by decide +kernel
theorem dX0_run_46 : decode cX0_run 46 = .ok (.iconst 1, 1) := by decide +kernel
theorem dX0_run_47 : decode cX0_run 47 = .ok (.iadd, 1) := by decide +kernel
theorem dX0_run_48 : decode cX0_run 48 = .ok (.invokevirtual 99, 3) := by decide +kernel
theorem dX0_run_51 : decode cX0_run 51 = .ok (.ireturn, 1) := by decide +kernel
theorem dX0_run_52 : decode cX0_run 52 = .ok (.iload_n 1, 1) := by decide +kernel
theorem dX0_run_53 : decode cX0_run 53 = .ok (.sipush 150, 3) := by decide +kernel
theorem dX0_run_56 : decode cX0_run 56 = .ok (.if_icmp .ge 15, 3) := by decide +kernel
theorem dX0_run_59 : decode cX0_run 59 = .ok (.aload_n 0, 1) := by decide +kernel
theorem dX0_run_60 : decode cX0_run 60 = .ok (.iload_n 1, 1) := by decide +kernel
theorem dX0_run_61 : decode cX0_run 61 = .ok (.iload_n 2, 1) := by decide +kernel
theorem dX0_run_62 : decode cX0_run 62 = .ok (.iload_n 3, 1) := by decide +kernel
theorem dX0_run_63 : decode cX0_run 63 = .ok (.iconst 1, 1) := by decide +kernel
theorem dX0_run_64 : decode cX0_run 64 = .ok (.iadd, 1) := by decide +kernel
theorem dX0_run_65 : decode cX0_run 65 = .ok (.invokevirtual 102, 3) := by decide +kernel
theorem dX0_run_68 : decode cX0_run 68 = .ok (.goto 12, 3) := by decide +kernel
theorem dX0_run_71 : decode cX0_run 71 = .ok (.aload_n 0, 1) := by decide +kernel
theorem dX0_run_72 : decode cX0_run 72 = .ok (.iload_n 1, 1) := by decide +kernel
theorem dX0_run_73 : decode cX0_run 73 = .ok (.iload_n 2, 1) := by decide +kernel
theorem dX0_run_74 : decode cX0_run 74 = .ok (.iload_n 3, 1) := by decide +kernel
theorem dX0_run_75 : decode cX0_run 75 = .ok (.iconst 1, 1) := by decide +kernel
theorem dX0_run_76 : decode cX0_run 76 = .ok (.iadd, 1) := by decide +kernel
theorem dX0_run_77 : decode cX0_run 77 = .ok (.invokevirtual 105, 3) := by decide +kernel
theorem dX0_run_80 : decode cX0_run 80 = .ok (.ireturn, 1) := by decide +kernel
theorem dX0_runOfInterface_0 : decode cX0_runOfInterface 0 = .ok (.iload_n 1, 1) := by decide +kernel
theorem dX0_runOfInterface_1 : decode cX0_runOfInterface 1 = .ok (.lookupswitch 246 #[(10, 91), (11, 101), (20, 121), (21, 139), (30, 150), (40, 170), (41, 180), (50, 200), (51, 219), (52, 236)], 91) := by decide +kernel
theorem dX0_runOfInterface_92 : decode cX0_runOfInterface 92 = .ok (.aload_n 0, 1) := by decide +kernel
theorem dX0_runOfInterface_93 : decode cX0_runOfInterface 93 = .ok (.iconst 0, 1) := by decide +kernel
theorem dX0_runOfInterface_94 : decode cX0_runOfInterface 94 = .ok (.iload_n 2, 1) := by decide +kernel
theorem dX0_runOfInterface_95 : decode cX0_runOfInterface 95 = .ok (.iload_n 3, 1) := by decide +kernel
theorem dX0_runOfInterface_96 : decode cX0_runOfInterface 96 = .ok (.invokevirtual 69, 3) := by decide +kernel
theorem dX0_runOfInterface_99 : decode cX0_runOfInterface 99 = .ok (.iconst 1, 1) := by decide +kernel
theorem dX0_runOfInterface_100 : decode cX0_runOfInterface 100 = .ok (.iadd, 1) := by decide +kernel
theorem dX0_runOfInterface_101 : decode cX0_runOfInterface 101 = .ok (.ireturn, 1) := by decide +kernel
theorem dX0_runOfInterface_102 : decode cX0_runOfInterface 102 = .ok (.aload_n 0, 1) := by decide +kernel
theorem dX0_runOfInterface_103 : decode cX0_runOfInterface 103 = .ok (.iconst 1, 1) := by decide +kernel
theorem dX0_runOfInterface_104 : decode cX0_runOfInterface 104 = .ok (.iload_n 2, 1) := by decide +kernel
theorem dX0_runOfInterface_105 : decode cX0_runOfInterface 105 = .ok (.iload_n 3, 1) := by decide +kernel
theorem dX0_runOfInterface_106 : decode cX0_runOfInterface 106 = .ok (.invokevirtual 69, 3) := by decide +kernel
theorem dX0_runOfInterface_109 : decode cX0_runOfInterface 109 = .ok (.iconst 3, 1) := by decide +kernel
theorem dX0_runOfInterface_110 : decode cX0_runOfInterface 110 = .ok (.imul, 1) := by decide +kernel
theorem dX0_runOfInterface_111 : decode cX0_runOfInterface 111 = .ok (.aload_n 0, 1) := by decide +kernel
theorem dX0_runOfInterface_112 : decode cX0_runOfInterface 112 = .ok (.iconst 0, 1) := by decide +kernel
theorem dX0_runOfInterface_113 : decode cX0_runOfInterface 113 = .ok (.iload_n 2, 1) := by decide +kernel
theorem dX0_runOfInterface_114 : decode cX0_runOfInterface 114 = .ok (.iconst 1, 1) := by decide +kernel
theorem dX0_runOfInterface_115 : decode cX0_runOfInterface 115 = .ok (.iadd, 1) := by decide +kernel
theorem dX0_runOfInterface_116 : decode cX0_runOfInterface 116 = .ok (.iload_n 3, 1) := by decide +kernel
theorem dX0_runOfInterface_117 : decode cX0_runOfInterface 117 = .ok (.invokevirtual 69, 3) := by decide +kernel
theorem dX0_runOfInterface_120 : decode cX0_runOfInterface 120 = .ok (.isub, 1) := by decide +kernel
theorem dX0_runOfInterface_121 : decode cX0_runOfInterface 121 = .ok (.ireturn, 1) := by decide +kernel
theorem dX0_runOfInterface_122 : decode cX0_runOfInterface 122 = .ok (.aload_n 0, 1) := by decide +kernel
theorem dX0_runOfInterface_123 : decode cX0_runOfInterface 123 = .ok (.iconst 3, 1) := by decide +kernel
theorem dX0_runOfInterface_124 : decode cX0_runOfInterface 124 = .ok (.iload_n 2, 1) := by decide +kernel
theorem dX0_runOfInterface_125 : decode cX0_runOfInterface 125 = .ok (.iload_n 3, 1) := by decide +kernel
theorem dX0_runOfInterface_126 : decode cX0_runOfInterface 126 = .ok (.invokevirtual 69, 3) := by decide +kernel
theorem dX0_runOfInterface_129 : decode cX0_runOfInterface 129 = .ok (.aload_n 0, 1) := by decide +kernel
theorem dX0_runOfInterface_130 : decode cX0_runOfInterface 130 = .ok (.iconst 3, 1) := by decide +kernel
theorem dX0_runOfInterface_131 : decode cX0_runOfInterface 131 = .ok (.iload_n 2, 1) := by decide +kernel
theorem dX0_runOfInterface_132 : decode cX0_runOfInterface 132 = .ok (.iconst 1, 1) := by decide +kernel
theorem dX0_runOfInterface_133 : decode cX0_runOfInterface 133 = .ok (.iadd, 1) := by decide +kernel
theorem dX0_runOfInterface_134 : decode cX0_runOfInterface 134 = .ok (.iload_n 3, 1) := by decide +kernel
theorem dX0_runOfInterface_135 : decode cX0_runOfInterface 135 = .ok (.invokevirtual 69, 3) := by decide +kernel
theorem dX0_runOfInterface_138 : decode cX0_runOfInterface 138 = .ok (.iadd, 1) := by decide +kernel
theorem dX0_runOfInterface_139 : decode cX0_runOfInterface 139 = .ok (.ireturn, 1) := by decide +kernel
theorem dX0_runOfInterface_140 : decode cX0_runOfInterface 140 = .ok (.aload_n 0, 1) := by decide +kernel
theorem dX0_runOfInterface_141 : decode cX0_runOfInterface 141 = .ok (.iconst 4, 1) := by decide +kernel
theorem dX0_runOfInterface_142 : decode cX0_runOfInterface 142 = .ok (.iload_n 2, 1) := by decide +kernel
theorem dX0_runOfInterface_143 : decode cX0_runOfInterface 143 = .ok (.iload_n 3, 1) := by decide +kernel
theorem dX0_runOfInterface_144 : decode cX0_runOfInterface 144 = .ok (.invokevirtual 69, 3) := by decide +kernel
theorem dX0_runOfInterface_147 : decode cX0_runOfInterface 147 = .ok (.bipush 85, 2) := by decide +kernel
theorem dX0_runOfInterface_149 : decode cX0_runOfInterface 149 = .ok (.ixor, 1) := by decide +kernel
theorem dX0_runOfInterface_150 : decode cX0_runOfInterface 150 = .ok (.ireturn, 1) := by decide +kernel
theorem dX0_runOfInterface_151 : decode cX0_runOfInterface 151 = .ok (.aload_n 0, 1) := by decide +kernel
theorem dX0_runOfInterface_152 : decode cX0_runOfInterface 152 = .ok (.iconst 2, 1) := by decide +kernel
theorem dX0_runOfInterface_153 : decode cX0_runOfInterface 153 = .ok (.iconst 2, 1) := by decide +kernel
theorem dX0_runOfInterface_154 : decode cX0_runOfInterface 154 = .ok (.iload_n 2, 1) := by decide +kernel
theorem dX0_runOfInterface_155 : decode cX0_runOfInterface 155 = .ok (.iload_n 3, 1) := by decide +kernel
theorem dX0_runOfInterface_156 : decode cX0_runOfInterface 156 = .ok (.invokevirtual 108, 3) := by decide +kernel
theorem dX0_runOfInterface_159 : decode cX0_runOfInterface 159 = .ok (.aload_n 0, 1) := by decide +kernel
theorem dX0_runOfInterface_160 : decode cX0_runOfInterface 160 = .ok (.iconst 3, 1) := by decide +kernel
theorem dX0_runOfInterface_161 : decode cX0_runOfInterface 161 = .ok (.iconst 2, 1) := by decide +kernel
theorem dX0_runOfInterface_162 : decode cX0_runOfInterface 162 = .ok (.iload_n 2, 1) := by decide +kernel
theorem dX0_runOfInterface_163 : decode cX0_runOfInterface 163 = .ok (.iconst 1, 1) := by decide +kernel
theorem dX0_runOfInterface_164 : decode cX0_runOfInterface 164 = .ok (.iadd, 1) := by decide +kernel
theorem dX0_runOfInterface_165 : decode cX0_runOfInterface 165 = .ok (.iload_n 3, 1) := by decide +kernel
theorem dX0_runOfInterface_166 : decode cX0_runOfInterface 166 = .ok (.invokevirtual 108, 3) := by decide +kernel
theorem dX0_runOfInterface_169 : decode cX0_runOfInterface 169 = .ok (.iadd, 1) := by decide +kernel
theorem dX0_runOfInterface_170 : decode cX0_runOfInterface 170 = .ok (.ireturn, 1) := by decide +kernel
theorem dX0_runOfInterface_171 : decode cX0_runOfInterface 171 = .ok (.aload_n 0, 1) := by decide +kernel
theorem dX0_runOfInterface_172 : decode cX0_runOfInterface 172 = .ok (.iconst 5, 1) := by decide +kernel
theorem dX0_runOfInterface_173 : decode cX0_runOfInterface 173 = .ok (.iload_n 2, 1) := by decide +kernel
theorem dX0_runOfInterface_174 : decode cX0_runOfInterface 174 = .ok (.iload_n 3, 1) := by decide +kernel
theorem dX0_runOfInterface_175 : decode cX0_runOfInterface 175 = .ok (.invokevirtual 69, 3) := by decide +kernel
theorem dX0_runOfInterface_178 : decode cX0_runOfInterface 178 = .ok (.iload_n 2, 1) := by decide +kernel
theorem dX0_runOfInterface_179 : decode cX0_runOfInterface 179 = .ok (.iadd, 1) := by decide +kernel
theorem dX0_runOfInterface_180 : decode cX0_runOfInterface 180 = .ok (.ireturn, 1) := by decide +kernel
theorem dX0_runOfInterface_181 : decode cX0_runOfInterface 181 = .ok (.aload_n 0, 1) := by decide +kernel
theorem dX0_runOfInterface_182 : decode cX0_runOfInterface 182 = .ok (.bipush 6, 2) := by decide +kernel
theorem dX0_runOfInterface_184 : decode cX0_runOfInterface 184 = .ok (.iload_n 2, 1) := by decide +kernel
theorem dX0_runOfInterface_185 : decode cX0_runOfInterface 185 = .ok (.iload_n 3, 1) := by decide +kernel
theorem dX0_runOfInterface_186 : decode cX0_runOfInterface 186 = .ok (.invokevirtual 69, 3) := by decide +kernel
theorem dX0_runOfInterface_189 : decode cX0_runOfInterface 189 = .ok (.iconst 2, 1) := by decide +kernel
theorem dX0_runOfInterface_190 : decode cX0_runOfInterface 190 = .ok (.imul, 1) := by decide +kernel
theorem dX0_runOfInterface_191 : decode cX0_runOfInterface 191 = .ok (.aload_n 0, 1) := by decide +kernel
theorem dX0_runOfInterface_192 : decode cX0_runOfInterface 192 = .ok (.bipush 6, 2) := by decide +kernel
theorem dX0_runOfInterface_194 : decode cX0_runOfInterface 194 = .ok (.iconst 1, 1) := by decide +kernel
theorem dX0_runOfInterface_195 : decode cX0_runOfInterface 195 = .ok (.iload_n 3, 1) := by decide +kernel
theorem dX0_runOfInterface_196 : decode cX0_runOfInterface 196 = .ok (.invokevirtual 69, 3) := by decide +kernel
theorem dX0_runOfInterface_199 : decode cX0_runOfInterface 199 = .ok (.iadd, 1) := by decide +kernel
theorem dX0_runOfInterface_200 : decode cX0_runOfInterface 200 = .ok (.ireturn, 1) := by decide +kernel
theorem dX0_runOfInterface_201 : decode cX0_runOfInterface 201 = .ok (.aload_n 0, 1) := by decide +kernel
theorem dX0_runOfInterface_202 : decode cX0_runOfInterface 202 = .ok (.iconst 5, 1) := by decide +kernel
theorem dX0_runOfInterface_203 : decode cX0_runOfInterface 203 = .ok (.bipush 7, 2) := by decide +kernel
theorem dX0_runOfInterface_205 : decode cX0_runOfInterface 205 = .ok (.iload_n 2, 1) := by decide +kernel
theorem dX0_runOfInterface_206 : decode cX0_runOfInterface 206 = .ok (.iload_n 3, 1) := by decide +kernel
theorem dX0_runOfInterface_207 : decode cX0_runOfInterface 207 = .ok (.invokevirtual 108, 3) := by decide +kernel
theorem dX0_runOfInterface_210 : decode cX0_runOfInterface 210 = .ok (.aload_n 0, 1) := by decide +kernel
theorem dX0_runOfInterface_211 : decode cX0_runOfInterface 211 = .ok (.bipush 8, 2) := by decide +kernel
theorem dX0_runOfInterface_213 : decode cX0_runOfInterface 213 = .ok (.iload_n 2, 1) := by decide +kernel
theorem dX0_runOfInterface_214 : decode cX0_runOfInterface 214 = .ok (.iload_n 3, 1) := by decide +kernel
theorem dX0_runOfInterface_215 : decode cX0_runOfInterface 215 = .ok (.invokevirtual 69, 3) := by decide +kernel
theorem dX0_runOfInterface_218 : decode cX0_runOfInterface 218 = .ok (.isub, 1) := by decide +kernel
theorem dX0_runOfInterface_219 : decode cX0_runOfInterface 219 = .ok (.ireturn, 1) := by decide +kernel
theorem dX0_runOfInterface_220 : decode cX0_runOfInterface 220 = .ok (.aload_n 0, 1) := by decide +kernel
theorem dX0_runOfInterface_221 : decode cX0_runOfInterface 221 = .ok (.bipush 52, 2) := by decide +kernel
theorem dX0_runOfInterface_223 : decode cX0_runOfInterface 223 = .ok (.iload_n 2, 1) := by decide +kernel
theorem dX0_runOfInterface_224 : decode cX0_runOfInterface 224 = .ok (.iload_n 3, 1) := by decide +kernel
theorem dX0_runOfInterface_225 : decode cX0_runOfInterface 225 = .ok (.invokevirtual 83, 3) := by decide +kernel
theorem dX0_runOfInterface_228 : decode cX0_runOfInterface 228 = .ok (.aload_n 0, 1) := by decide +kernel
theorem dX0_runOfInterface_229 : decode cX0_runOfInterface 229 = .ok (.iconst 5, 1) := by decide +kernel
theorem dX0_runOfInterface_230 : decode cX0_runOfInterface 230 = .ok (.iconst 2, 1) := by decide +kernel
theorem dX0_runOfInterface_231 : decode cX0_runOfInterface 231 = .ok (.iload_n 3, 1) := by decide +kernel
theorem dX0_runOfInterface_232 : decode cX0_runOfInterface 232 = .ok (.invokevirtual 69, 3) := by decide +kernel
theorem dX0_runOfInterface_235 : decode cX0_runOfInterface 235 = .ok (.iadd, 1) := by decide +kernel
theorem dX0_runOfInterface_236 : decode cX0_runOfInterface 236 = .ok (.ireturn, 1) := by decide +kernel
theorem dX0_runOfInterface_237 : decode cX0_runOfInterface 237 = .ok (.aload_n 0, 1) := by decide +kernel
theorem dX0_runOfInterface_238 : decode cX0_runOfInterface 238 = .ok (.iconst 5, 1) := by decide +kernel
theorem dX0_runOfInterface_239 : decode cX0_runOfInterface 239 = .ok (.iload_n 2, 1) := by decide +kernel
theorem dX0_runOfInterface_240 : decode cX0_runOfInterface 240 = .ok (.iload_n 3, 1) := by decide +kernel
theorem dX0_runOfInterface_241 : decode cX0_runOfInterface 241 = .ok (.invokevirtual 69, 3) := by decide +kernel
theorem dX0_runOfInterface_244 : decode cX0_runOfInterface 244 = .ok (.iconst 5, 1) := by decide +kernel
theorem dX0_runOfInterface_245 : decode cX0_runOfInterface 245 = .ok (.imul, 1) := by decide +kernel
theorem dX0_runOfInterface_246 : decode cX0_runOfInterface 246 = .ok (.ireturn, 1) := by decide +kernel
theorem dX0_runOfInterface_247 : decode cX0_runOfInterface 247 = .ok (.iconst 0, 1) := by decide +kernel
theorem dX0_runOfInterface_248 : decode cX0_runOfInterface 248 = .ok (.ireturn, 1) := by decide +kernel
theorem dX0_runOfAncestor_0 : decode cX0_runOfAncestor 0 = .ok (.iload_n 1, 1) := by decide +kernel
theorem dX0_runOfAncestor_1 : decode cX0_runOfAncestor 1 = .ok (.tableswitch 163 60 70 #[59, 74, 91, 109, 116, 163, 163, 163, 163, 163, 143], 59) := by decide +kernel
theorem dX0_runOfAncestor_60 : decode cX0_runOfAncestor 60 = .ok (.aload_n 0, 1) := by decide +kernel
theorem dX0_runOfAncestor_61 : decode cX0_runOfAncestor 61 = .ok (.aload_n 0, 1) := by decide +kernel
theorem dX0_runOfAncestor_62 : decode cX0_runOfAncestor 62 = .ok (.getfield 23, 3) := by decide +kernel
theorem dX0_runOfAncestor_65 : decode cX0_runOfAncestor 65 = .ok (.iload_n 2, 1) := by decide +kernel
theorem dX0_runOfAncestor_66 : decode cX0_runOfAncestor 66 = .ok (.iadd, 1) := by decide +kernel
theorem dX0_runOfAncestor_67 : decode cX0_runOfAncestor 67 = .ok (.putfield 23, 3) := by decide +kernel
theorem dX0_runOfAncestor_70 : decode cX0_runOfAncestor 70 = .ok (.aload_n 0, 1) := by decide +kernel
theorem dX0_runOfAncestor_71 : decode cX0_runOfAncestor 71 = .ok (.getfield 23, 3) := by decide +kernel
theorem dX0_runOfAncestor_74 : decode cX0_runOfAncestor 74 = .ok (.ireturn, 1) := by decide +kernel
theorem dX0_runOfAncestor_75 : decode cX0_runOfAncestor 75 = .ok (.aload_n 0, 1) := by decide +kernel
theorem dX0_runOfAncestor_76 : decode cX0_runOfAncestor 76 = .ok (.aload_n 0, 1) := by decide +kernel
theorem dX0_runOfAncestor_77 : decode cX0_runOfAncestor 77 = .ok (.getfield 23, 3) := by decide +kernel
theorem dX0_runOfAncestor_80 : decode cX0_runOfAncestor 80 = .ok (.iconst 3, 1) := by decide +kernel
theorem dX0_runOfAncestor_81 : decode cX0_runOfAncestor 81 = .ok (.iload_n 2, 1) := by decide +kernel
theorem dX0_runOfAncestor_82 : decode cX0_runOfAncestor 82 = .ok (.imul, 1) := by decide +kernel
theorem dX0_runOfAncestor_83 : decode cX0_runOfAncestor 83 = .ok (.isub, 1) := by decide +kernel
theorem dX0_runOfAncestor_84 : decode cX0_runOfAncestor 84 = .ok (.putfield 23, 3) := by decide +kernel
theorem dX0_runOfAncestor_87 : decode cX0_runOfAncestor 87 = .ok (.aload_n 0, 1) := by decide +kernel
theorem dX0_runOfAncestor_88 : decode cX0_runOfAncestor 88 = .ok (.getfield 23, 3) := by decide +kernel
theorem dX0_runOfAncestor_91 : decode cX0_runOfAncestor 91 = .ok (.ireturn, 1) := by decide +kernel
theorem dX0_runOfAncestor_92 : decode cX0_runOfAncestor 92 = .ok (.aload_n 0, 1) := by decide +kernel
theorem dX0_runOfAncestor_93 : decode cX0_runOfAncestor 93 = .ok (.aload_n 0, 1) := by decide +kernel
theorem dX0_runOfAncestor_94 : decode cX0_runOfAncestor 94 = .ok (.getfield 23, 3) := by decide +kernel
theorem dX0_runOfAncestor_97 : decode cX0_runOfAncestor 97 = .ok (.bipush 31, 2) := by decide +kernel
theorem dX0_runOfAncestor_99 : decode cX0_runOfAncestor 99 = .ok (.imul, 1) := by decide +kernel
theorem dX0_runOfAncestor_100 : decode cX0_runOfAncestor 100 = .ok (.iload_n 2, 1) := by decide +kernel
theorem dX0_runOfAncestor_101 : decode cX0_runOfAncestor 101 = .ok (.iadd, 1) := by decide +kernel
theorem dX0_runOfAncestor_102 : decode cX0_runOfAncestor 102 = .ok (.putfield 23, 3) := by decide +kernel
theorem dX0_runOfAncestor_105 : decode cX0_runOfAncestor 105 = .ok (.aload_n 0, 1) := by decide +kernel
theorem dX0_runOfAncestor_106 : decode cX0_runOfAncestor 106 = .ok (.getfield 23, 3) := by decide +kernel
theorem dX0_runOfAncestor_109 : decode cX0_runOfAncestor 109 = .ok (.ireturn, 1) := by decide +kernel
theorem dX0_runOfAncestor_110 : decode cX0_runOfAncestor 110 = .ok (.aload_n 0, 1) := by decide +kernel
theorem dX0_runOfAncestor_111 : decode cX0_runOfAncestor 111 = .ok (.getfield 23, 3) := by decide +kernel
theorem dX0_runOfAncestor_114 : decode cX0_runOfAncestor 114 = .ok (.iload_n 2, 1) := by decide +kernel
theorem dX0_runOfAncestor_115 : decode cX0_runOfAncestor 115 = .ok (.ixor, 1) := by decide +kernel
theorem dX0_runOfAncestor_116 : decode cX0_runOfAncestor 116 = .ok (.ireturn, 1) := by decide +kernel
theorem dX0_runOfAncestor_117 : decode cX0_runOfAncestor 117 = .ok (.aload_n 0, 1) := by decide +kernel
theorem dX0_runOfAncestor_118 : decode cX0_runOfAncestor 118 = .ok (.bipush 9, 2) := by decide +kernel
theorem dX0_runOfAncestor_120 : decode cX0_runOfAncestor 120 = .ok (.iload_n 2, 1) := by decide +kernel
theorem dX0_runOfAncestor_121 : decode cX0_runOfAncestor 121 = .ok (.iload_n 3, 1) := by decide +kernel
theorem dX0_runOfAncestor_122 : decode cX0_runOfAncestor 122 = .ok (.invokevirtual 69, 3) := by decide +kernel
theorem dX0_runOfAncestor_125 : decode cX0_runOfAncestor 125 = .ok (.aload_n 0, 1) := by decide +kernel
theorem dX0_runOfAncestor_126 : decode cX0_runOfAncestor 126 = .ok (.bipush 10, 2) := by decide +kernel
theorem dX0_runOfAncestor_128 : decode cX0_runOfAncestor 128 = .ok (.iconst 1, 1) := by decide +kernel
theorem dX0_runOfAncestor_129 : decode cX0_runOfAncestor 129 = .ok (.iload_n 3, 1) := by decide +kernel
theorem dX0_runOfAncestor_130 : decode cX0_runOfAncestor 130 = .ok (.invokevirtual 69, 3) := by decide +kernel
theorem dX0_runOfAncestor_133 : decode cX0_runOfAncestor 133 = .ok (.iadd, 1) := by decide +kernel
theorem dX0_runOfAncestor_134 : decode cX0_runOfAncestor 134 = .ok (.aload_n 0, 1) := by decide +kernel
theorem dX0_runOfAncestor_135 : decode cX0_runOfAncestor 135 = .ok (.bipush 63, 2) := by decide +kernel
theorem dX0_runOfAncestor_137 : decode cX0_runOfAncestor 137 = .ok (.iload_n 2, 1) := by decide +kernel
theorem dX0_runOfAncestor_138 : decode cX0_runOfAncestor 138 = .ok (.iload_n 3, 1) := by decide +kernel
theorem dX0_runOfAncestor_139 : decode cX0_runOfAncestor 139 = .ok (.invokevirtual 83, 3) := by decide +kernel
theorem dX0_runOfAncestor_142 : decode cX0_runOfAncestor 142 = .ok (.iadd, 1) := by decide +kernel
theorem dX0_runOfAncestor_143 : decode cX0_runOfAncestor 143 = .ok (.ireturn, 1) := by decide +kernel
theorem dX0_runOfAncestor_144 : decode cX0_runOfAncestor 144 = .ok (.aload_n 0, 1) := by decide +kernel
theorem dX0_runOfAncestor_145 : decode cX0_runOfAncestor 145 = .ok (.aload_n 0, 1) := by decide +kernel
theorem dX0_runOfAncestor_146 : decode cX0_runOfAncestor 146 = .ok (.getfield 38, 3) := by decide +kernel
theorem dX0_runOfAncestor_149 : decode cX0_runOfAncestor 149 = .ok (.iconst 1, 1) := by decide +kernel
theorem dX0_runOfAncestor_150 : decode cX0_runOfAncestor 150 = .ok (.iadd, 1) := by decide +kernel
theorem dX0_runOfAncestor_151 : decode cX0_runOfAncestor 151 = .ok (.putfield 38, 3) := by decide +kernel
theorem dX0_runOfAncestor_154 : decode cX0_runOfAncestor 154 = .ok (.aload_n 0, 1) := by decide +kernel
theorem dX0_runOfAncestor_155 : decode cX0_runOfAncestor 155 = .ok (.getfield 38, 3) := by decide +kernel
theorem dX0_runOfAncestor_158 : decode cX0_runOfAncestor 158 = .ok (.bipush 7, 2) := by decide +kernel
theorem dX0_runOfAncestor_160 : decode cX0_runOfAncestor 160 = .ok (.imul, 1) := by decide +kernel
theorem dX0_runOfAncestor_161 : decode cX0_runOfAncestor 161 = .ok (.iload_n 2, 1) := by decide +kernel
theorem dX0_runOfAncestor_162 : decode cX0_runOfAncestor 162 = .ok (.iadd, 1) := by decide +kernel
theorem dX0_runOfAncestor_163 : decode cX0_runOfAncestor 163 = .ok (.ireturn, 1) := by decide +kernel
theorem dX0_runOfAncestor_164 : decode cX0_runOfAncestor 164 = .ok (.iconst 0, 1) := by decide +kernel
theorem dX0_runOfAncestor_165 : decode cX0_runOfAncestor 165 = .ok (.ireturn, 1) := by decide +kernel
theorem dX0_runOfEarlierKind_0 : decode cX0_runOfEarlierKind 0 = .ok (.iload_n 1, 1) := by decide +kernel
theorem dX0_runOfEarlierKind_1 : decode cX0_runOfEarlierKind 1 = .ok (.tableswitch 331 100 142 #[187, 194, 331, 331, 331, 331, 331, 331, 331, 331, 209, 231, 242, 331, 331, 331, 331, 331, 331, 331, 249, 331, 331, 331, 331, 331, 331, 331, 331, 331, 264, 276, 331, 331, 331, 331, 331, 331, 331, 331, 290, 297, 316], 187) := by decide +kernel
theorem dX0_runOfEarlierKind_188 : decode cX0_runOfEarlierKind 188 = .ok (.aload_n 0, 1) := by decide +kernel
theorem dX0_runOfEarlierKind_189 : decode cX0_runOfEarlierKind 189 = .ok (.getfield 23, 3) := by decide +kernel
theorem dX0_runOfEarlierKind_192 : decode cX0_runOfEarlierKind 192 = .ok (.iload_n 2, 1) := by decide +kernel
theorem dX0_runOfEarlierKind_193 : decode cX0_runOfEarlierKind 193 = .ok (.iadd, 1) := by decide +kernel
theorem dX0_runOfEarlierKind_194 : decode cX0_runOfEarlierKind 194 = .ok (.ireturn, 1) := by decide +kernel
theorem dX0_runOfEarlierKind_195 : decode cX0_runOfEarlierKind 195 = .ok (.aload_n 0, 1) := by decide +kernel
theorem dX0_runOfEarlierKind_196 : decode cX0_runOfEarlierKind 196 = .ok (.bipush 7, 2) := by decide +kernel
theorem dX0_runOfEarlierKind_198 : decode cX0_runOfEarlierKind 198 = .ok (.bipush 9, 2) := by decide +kernel
theorem dX0_runOfEarlierKind_200 : decode cX0_runOfEarlierKind 200 = .ok (.iload_n 2, 1) := by decide +kernel
theorem dX0_runOfEarlierKind_201 : decode cX0_runOfEarlierKind 201 = .ok (.iconst 2, 1) := by decide +kernel
theorem dX0_runOfEarlierKind_202 : decode cX0_runOfEarlierKind 202 = .ok (.iadd, 1) := by decide +kernel
theorem dX0_runOfEarlierKind_203 : decode cX0_runOfEarlierKind 203 = .ok (.iload_n 3, 1) := by decide +kernel
theorem dX0_runOfEarlierKind_204 : decode cX0_runOfEarlierKind 204 = .ok (.invokevirtual 112, 3) := by decide +kernel
theorem dX0_runOfEarlierKind_207 : decode cX0_runOfEarlierKind 207 = .ok (.iconst 1, 1) := by decide +kernel
theorem dX0_runOfEarlierKind_208 : decode cX0_runOfEarlierKind 208 = .ok (.iadd, 1) := by decide +kernel
theorem dX0_runOfEarlierKind_209 : decode cX0_runOfEarlierKind 209 = .ok (.ireturn, 1) := by decide +kernel
theorem dX0_runOfEarlierKind_210 : decode cX0_runOfEarlierKind 210 = .ok (.aload_n 0, 1) := by decide +kernel
theorem dX0_runOfEarlierKind_211 : decode cX0_runOfEarlierKind 211 = .ok (.bipush 8, 2) := by decide +kernel
theorem dX0_runOfEarlierKind_213 : decode cX0_runOfEarlierKind 213 = .ok (.bipush 10, 2) := by decide +kernel
theorem dX0_runOfEarlierKind_215 : decode cX0_runOfEarlierKind 215 = .ok (.iload_n 2, 1) := by decide +kernel
theorem dX0_runOfEarlierKind_216 : decode cX0_runOfEarlierKind 216 = .ok (.iload_n 3, 1) := by decide +kernel
theorem dX0_runOfEarlierKind_217 : decode cX0_runOfEarlierKind 217 = .ok (.invokevirtual 112, 3) := by decide +kernel
theorem dX0_runOfEarlierKind_220 : decode cX0_runOfEarlierKind 220 = .ok (.iconst 2, 1) := by decide +kernel
theorem dX0_runOfEarlierKind_221 : decode cX0_runOfEarlierKind 221 = .ok (.imul, 1) := by decide +kernel
theorem dX0_runOfEarlierKind_222 : decode cX0_runOfEarlierKind 222 = .ok (.aload_n 0, 1) := by decide +kernel
theorem dX0_runOfEarlierKind_223 : decode cX0_runOfEarlierKind 223 = .ok (.bipush 112, 2) := by decide +kernel
theorem dX0_runOfEarlierKind_225 : decode cX0_runOfEarlierKind 225 = .ok (.iload_n 2, 1) := by decide +kernel
theorem dX0_runOfEarlierKind_226 : decode cX0_runOfEarlierKind 226 = .ok (.iload_n 3, 1) := by decide +kernel
theorem dX0_runOfEarlierKind_227 : decode cX0_runOfEarlierKind 227 = .ok (.invokevirtual 83, 3) := by decide +kernel
theorem dX0_runOfEarlierKind_230 : decode cX0_runOfEarlierKind 230 = .ok (.iadd, 1) := by decide +kernel
theorem dX0_runOfEarlierKind_231 : decode cX0_runOfEarlierKind 231 = .ok (.ireturn, 1) := by decide +kernel
theorem dX0_runOfEarlierKind_232 : decode cX0_runOfEarlierKind 232 = .ok (.aload_n 0, 1) := by decide +kernel
theorem dX0_runOfEarlierKind_233 : decode cX0_runOfEarlierKind 233 = .ok (.iconst 3, 1) := by decide +kernel
theorem dX0_runOfEarlierKind_234 : decode cX0_runOfEarlierKind 234 = .ok (.iconst 4, 1) := by decide +kernel
theorem dX0_runOfEarlierKind_235 : decode cX0_runOfEarlierKind 235 = .ok (.iload_n 2, 1) := by decide +kernel
theorem dX0_runOfEarlierKind_236 : decode cX0_runOfEarlierKind 236 = .ok (.iload_n 3, 1) := by decide +kernel
theorem dX0_runOfEarlierKind_237 : decode cX0_runOfEarlierKind 237 = .ok (.invokevirtual 108, 3) := by decide +kernel
theorem dX0_runOfEarlierKind_240 : decode cX0_runOfEarlierKind 240 = .ok (.iconst 1, 1) := by decide +kernel
theorem dX0_runOfEarlierKind_241 : decode cX0_runOfEarlierKind 241 = .ok (.isub, 1) := by decide +kernel
theorem dX0_runOfEarlierKind_242 : decode cX0_runOfEarlierKind 242 = .ok (.ireturn, 1) := by decide +kernel
theorem dX0_runOfEarlierKind_243 : decode cX0_runOfEarlierKind 243 = .ok (.aload_n 0, 1) := by decide +kernel
theorem dX0_runOfEarlierKind_244 : decode cX0_runOfEarlierKind 244 = .ok (.getfield 38, 3) := by decide +kernel
theorem dX0_runOfEarlierKind_247 : decode cX0_runOfEarlierKind 247 = .ok (.iload_n 2, 1) := by decide +kernel
theorem dX0_runOfEarlierKind_248 : decode cX0_runOfEarlierKind 248 = .ok (.isub, 1) := by decide +kernel
theorem dX0_runOfEarlierKind_249 : decode cX0_runOfEarlierKind 249 = .ok (.ireturn, 1) := by decide +kernel
theorem dX0_runOfEarlierKind_250 : decode cX0_runOfEarlierKind 250 = .ok (.aload_n 0, 1) := by decide +kernel
theorem dX0_runOfEarlierKind_251 : decode cX0_runOfEarlierKind 251 = .ok (.iconst 5, 1) := by decide +kernel
theorem dX0_runOfEarlierKind_252 : decode cX0_runOfEarlierKind 252 = .ok (.iload_n 2, 1) := by decide +kernel
theorem dX0_runOfEarlierKind_253 : decode cX0_runOfEarlierKind 253 = .ok (.iload_n 3, 1) := by decide +kernel
theorem dX0_runOfEarlierKind_254 : decode cX0_runOfEarlierKind 254 = .ok (.invokevirtual 69, 3) := by decide +kernel
theorem dX0_runOfEarlierKind_257 : decode cX0_runOfEarlierKind 257 = .ok (.iconst 3, 1) := by decide +kernel
theorem dX0_runOfEarlierKind_258 : decode cX0_runOfEarlierKind 258 = .ok (.imul, 1) := by decide +kernel
theorem dX0_runOfEarlierKind_259 : decode cX0_runOfEarlierKind 259 = .ok (.aload_n 0, 1) := by decide +kernel
theorem dX0_runOfEarlierKind_260 : decode cX0_runOfEarlierKind 260 = .ok (.getfield 23, 3) := by decide +kernel
theorem dX0_runOfEarlierKind_263 : decode cX0_runOfEarlierKind 263 = .ok (.iadd, 1) := by decide +kernel
theorem dX0_runOfEarlierKind_264 : decode cX0_runOfEarlierKind 264 = .ok (.ireturn, 1) := by decide +kernel
theorem dX0_runOfEarlierKind_265 : decode cX0_runOfEarlierKind 265 = .ok (.aload_n 0, 1) := by decide +kernel
theorem dX0_runOfEarlierKind_266 : decode cX0_runOfEarlierKind 266 = .ok (.bipush 10, 2) := by decide +kernel
theorem dX0_runOfEarlierKind_268 : decode cX0_runOfEarlierKind 268 = .ok (.iconst 0, 1) := by decide +kernel
theorem dX0_runOfEarlierKind_269 : decode cX0_runOfEarlierKind 269 = .ok (.iload_n 2, 1) := by decide +kernel
theorem dX0_runOfEarlierKind_270 : decode cX0_runOfEarlierKind 270 = .ok (.iload_n 3, 1) := by decide +kernel
theorem dX0_runOfEarlierKind_271 : decode cX0_runOfEarlierKind 271 = .ok (.invokevirtual 112, 3) := by decide +kernel
theorem dX0_runOfEarlierKind_274 : decode cX0_runOfEarlierKind 274 = .ok (.iconst 3, 1) := by decide +kernel
theorem dX0_runOfEarlierKind_275 : decode cX0_runOfEarlierKind 275 = .ok (.imul, 1) := by decide +kernel
theorem dX0_runOfEarlierKind_276 : decode cX0_runOfEarlierKind 276 = .ok (.ireturn, 1) := by decide +kernel
theorem dX0_runOfEarlierKind_277 : decode cX0_runOfEarlierKind 277 = .ok (.aload_n 0, 1) := by decide +kernel
theorem dX0_runOfEarlierKind_278 : decode cX0_runOfEarlierKind 278 = .ok (.bipush 10, 2) := by decide +kernel
theorem dX0_runOfEarlierKind_280 : decode cX0_runOfEarlierKind 280 = .ok (.iconst 1, 1) := by decide +kernel
theorem dX0_runOfEarlierKind_281 : decode cX0_runOfEarlierKind 281 = .ok (.iload_n 2, 1) := by decide +kernel
theorem dX0_runOfEarlierKind_282 : decode cX0_runOfEarlierKind 282 = .ok (.iconst 1, 1) := by decide +kernel
theorem dX0_runOfEarlierKind_283 : decode cX0_runOfEarlierKind 283 = .ok (.iadd, 1) := by decide +kernel
theorem dX0_runOfEarlierKind_284 : decode cX0_runOfEarlierKind 284 = .ok (.iload_n 3, 1) := by decide +kernel
theorem dX0_runOfEarlierKind_285 : decode cX0_runOfEarlierKind 285 = .ok (.invokevirtual 112, 3) := by decide +kernel
theorem dX0_runOfEarlierKind_288 : decode cX0_runOfEarlierKind 288 = .ok (.iconst 5, 1) := by decide +kernel
theorem dX0_runOfEarlierKind_289 : decode cX0_runOfEarlierKind 289 = .ok (.iadd, 1) := by decide +kernel
theorem dX0_runOfEarlierKind_290 : decode cX0_runOfEarlierKind 290 = .ok (.ireturn, 1) := by decide +kernel
theorem dX0_runOfEarlierKind_291 : decode cX0_runOfEarlierKind 291 = .ok (.aload_n 0, 1) := by decide +kernel
theorem dX0_runOfEarlierKind_292 : decode cX0_runOfEarlierKind 292 = .ok (.getfield 23, 3) := by decide +kernel
theorem dX0_runOfEarlierKind_295 : decode cX0_runOfEarlierKind 295 = .ok (.iload_n 2, 1) := by decide +kernel
theorem dX0_runOfEarlierKind_296 : decode cX0_runOfEarlierKind 296 = .ok (.isub, 1) := by decide +kernel
theorem dX0_runOfEarlierKind_297 : decode cX0_runOfEarlierKind 297 = .ok (.ireturn, 1) := by decide +kernel
theorem dX0_runOfEarlierKind_298 : decode cX0_runOfEarlierKind 298 = .ok (.aload_n 0, 1) := by decide +kernel
theorem dX0_runOfEarlierKind_299 : decode cX0_runOfEarlierKind 299 = .ok (.bipush 11, 2) := by decide +kernel
theorem dX0_runOfEarlierKind_301 : decode cX0_runOfEarlierKind 301 = .ok (.iconst 2, 1) := by decide +kernel
theorem dX0_runOfEarlierKind_302 : decode cX0_runOfEarlierKind 302 = .ok (.iload_n 2, 1) := by decide +kernel
theorem dX0_runOfEarlierKind_303 : decode cX0_runOfEarlierKind 303 = .ok (.iload_n 3, 1) := by decide +kernel
theorem dX0_runOfEarlierKind_304 : decode cX0_runOfEarlierKind 304 = .ok (.invokevirtual 112, 3) := by decide +kernel
theorem dX0_runOfEarlierKind_307 : decode cX0_runOfEarlierKind 307 = .ok (.aload_n 0, 1) := by decide +kernel
theorem dX0_runOfEarlierKind_308 : decode cX0_runOfEarlierKind 308 = .ok (.iconst 2, 1) := by decide +kernel
theorem dX0_runOfEarlierKind_309 : decode cX0_runOfEarlierKind 309 = .ok (.iconst 2, 1) := by decide +kernel
theorem dX0_runOfEarlierKind_310 : decode cX0_runOfEarlierKind 310 = .ok (.iconst 1, 1) := by decide +kernel
theorem dX0_runOfEarlierKind_311 : decode cX0_runOfEarlierKind 311 = .ok (.iload_n 3, 1) := by decide +kernel
theorem dX0_runOfEarlierKind_312 : decode cX0_runOfEarlierKind 312 = .ok (.invokevirtual 108, 3) := by decide +kernel
theorem dX0_runOfEarlierKind_315 : decode cX0_runOfEarlierKind 315 = .ok (.isub, 1) := by decide +kernel
theorem dX0_runOfEarlierKind_316 : decode cX0_runOfEarlierKind 316 = .ok (.ireturn, 1) := by decide +kernel
theorem dX0_runOfEarlierKind_317 : decode cX0_runOfEarlierKind 317 = .ok (.aload_n 0, 1) := by decide +kernel
theorem dX0_runOfEarlierKind_318 : decode cX0_runOfEarlierKind 318 = .ok (.bipush 11, 2) := by decide +kernel
theorem dX0_runOfEarlierKind_320 : decode cX0_runOfEarlierKind 320 = .ok (.bipush 10, 2) := by decide +kernel
theorem dX0_runOfEarlierKind_322 : decode cX0_runOfEarlierKind 322 = .ok (.iload_n 2, 1) := by decide +kernel
theorem dX0_runOfEarlierKind_323 : decode cX0_runOfEarlierKind 323 = .ok (.iconst 1, 1) := by decide +kernel
theorem dX0_runOfEarlierKind_324 : decode cX0_runOfEarlierKind 324 = .ok (.iadd, 1) := by decide +kernel
theorem dX0_runOfEarlierKind_325 : decode cX0_runOfEarlierKind 325 = .ok (.iload_n 3, 1) := by decide +kernel
theorem dX0_runOfEarlierKind_326 : decode cX0_runOfEarlierKind 326 = .ok (.invokevirtual 112, 3) := by decide +kernel
theorem dX0_runOfEarlierKind_329 : decode cX0_runOfEarlierKind 329 = .ok (.iconst 4, 1) := by decide +kernel
theorem dX0_runOfEarlierKind_330 : decode cX0_runOfEarlierKind 330 = .ok (.iadd, 1) := by decide +kernel
theorem dX0_runOfEarlierKind_331 : decode cX0_runOfEarlierKind 331 = .ok (.ireturn, 1) := by decide +kernel
theorem dX0_runOfEarlierKind_332 : decode cX0_runOfEarlierKind 332 = .ok (.iconst 0, 1) := by decide +kernel
theorem dX0_runOfEarlierKind_333 : decode cX0_runOfEarlierKind 333 = .ok (.ireturn, 1) := by decide +kernel
theorem dX0_runOfLaterKind_0 : decode cX0_runOfLaterKind 0 = .ok (.iload_n 1, 1) := by decide +kernel
theorem dX0_runOfLaterKind_1 : decode cX0_runOfLaterKind 1 = .ok (.tableswitch 422 150 204 #[235, 248, 267, 422, 422, 422, 422, 422, 422, 422, 278, 280, 295, 300, 422, 422, 422, 422, 422, 422, 422, 422, 422, 422, 422, 422, 422, 422, 422, 422, 321, 334, 422, 422, 422, 422, 422, 422, 422, 422, 352, 422, 422, 422, 422, 422, 422, 422, 422, 422, 363, 370, 391, 422, 410], 235) := by decide +kernel
theorem dX0_runOfLaterKind_236 : decode cX0_runOfLaterKind 236 = .ok (.aload_n 0, 1) := by decide +kernel
theorem dX0_runOfLaterKind_237 : decode cX0_runOfLaterKind 237 = .ok (.iconst 5, 1) := by decide +kernel
theorem dX0_runOfLaterKind_238 : decode cX0_runOfLaterKind 238 = .ok (.iload_n 2, 1) := by decide +kernel
theorem dX0_runOfLaterKind_239 : decode cX0_runOfLaterKind 239 = .ok (.iload_n 3, 1) := by decide +kernel
theorem dX0_runOfLaterKind_240 : decode cX0_runOfLaterKind 240 = .ok (.invokevirtual 69, 3) := by decide +kernel
theorem dX0_runOfLaterKind_243 : decode cX0_runOfLaterKind 243 = .ok (.aload_n 0, 1) := by decide +kernel
theorem dX0_runOfLaterKind_244 : decode cX0_runOfLaterKind 244 = .ok (.getfield 23, 3) := by decide +kernel
theorem dX0_runOfLaterKind_247 : decode cX0_runOfLaterKind 247 = .ok (.iadd, 1) := by decide +kernel
theorem dX0_runOfLaterKind_248 : decode cX0_runOfLaterKind 248 = .ok (.ireturn, 1) := by decide +kernel
theorem dX0_runOfLaterKind_249 : decode cX0_runOfLaterKind 249 = .ok (.aload_n 0, 1) := by decide +kernel
theorem dX0_runOfLaterKind_250 : decode cX0_runOfLaterKind 250 = .ok (.bipush 12, 2) := by decide +kernel
theorem dX0_runOfLaterKind_252 : decode cX0_runOfLaterKind 252 = .ok (.bipush 9, 2) := by decide +kernel
theorem dX0_runOfLaterKind_254 : decode cX0_runOfLaterKind 254 = .ok (.iload_n 2, 1) := by decide +kernel
theorem dX0_runOfLaterKind_255 : decode cX0_runOfLaterKind 255 = .ok (.iload_n 3, 1) := by decide +kernel
theorem dX0_runOfLaterKind_256 : decode cX0_runOfLaterKind 256 = .ok (.invokevirtual 112, 3) := by decide +kernel
theorem dX0_runOfLaterKind_259 : decode cX0_runOfLaterKind 259 = .ok (.aload_n 0, 1) := by decide +kernel
theorem dX0_runOfLaterKind_260 : decode cX0_runOfLaterKind 260 = .ok (.iconst 2, 1) := by decide +kernel
theorem dX0_runOfLaterKind_261 : decode cX0_runOfLaterKind 261 = .ok (.iconst 0, 1) := by decide +kernel
theorem dX0_runOfLaterKind_262 : decode cX0_runOfLaterKind 262 = .ok (.iload_n 3, 1) := by decide +kernel
theorem dX0_runOfLaterKind_263 : decode cX0_runOfLaterKind 263 = .ok (.invokevirtual 69, 3) := by decide +kernel
theorem dX0_runOfLaterKind_266 : decode cX0_runOfLaterKind 266 = .ok (.ixor, 1) := by decide +kernel
theorem dX0_runOfLaterKind_267 : decode cX0_runOfLaterKind 267 = .ok (.ireturn, 1) := by decide +kernel
theorem dX0_runOfLaterKind_268 : decode cX0_runOfLaterKind 268 = .ok (.aload_n 0, 1) := by decide +kernel
theorem dX0_runOfLaterKind_269 : decode cX0_runOfLaterKind 269 = .ok (.iconst 4, 1) := by decide +kernel
theorem dX0_runOfLaterKind_270 : decode cX0_runOfLaterKind 270 = .ok (.iconst 4, 1) := by decide +kernel
theorem dX0_runOfLaterKind_271 : decode cX0_runOfLaterKind 271 = .ok (.iload_n 2, 1) := by decide +kernel
theorem dX0_runOfLaterKind_272 : decode cX0_runOfLaterKind 272 = .ok (.iload_n 3, 1) := by decide +kernel
theorem dX0_runOfLaterKind_273 : decode cX0_runOfLaterKind 273 = .ok (.invokevirtual 108, 3) := by decide +kernel
theorem dX0_runOfLaterKind_276 : decode cX0_runOfLaterKind 276 = .ok (.iconst 1, 1) := by decide +kernel
theorem dX0_runOfLaterKind_277 : decode cX0_runOfLaterKind 277 = .ok (.iadd, 1) := by decide +kernel
theorem dX0_runOfLaterKind_278 : decode cX0_runOfLaterKind 278 = .ok (.ireturn, 1) := by decide +kernel
theorem dX0_runOfLaterKind_279 : decode cX0_runOfLaterKind 279 = .ok (.iload_n 2, 1) := by decide +kernel
theorem dX0_runOfLaterKind_280 : decode cX0_runOfLaterKind 280 = .ok (.ireturn, 1) := by decide +kernel
theorem dX0_runOfLaterKind_281 : decode cX0_runOfLaterKind 281 = .ok (.aload_n 0, 1) := by decide +kernel
theorem dX0_runOfLaterKind_282 : decode cX0_runOfLaterKind 282 = .ok (.bipush 6, 2) := by decide +kernel
theorem dX0_runOfLaterKind_284 : decode cX0_runOfLaterKind 284 = .ok (.bipush 8, 2) := by decide +kernel
theorem dX0_runOfLaterKind_286 : decode cX0_runOfLaterKind 286 = .ok (.iload_n 2, 1) := by decide +kernel
theorem dX0_runOfLaterKind_287 : decode cX0_runOfLaterKind 287 = .ok (.iload_n 3, 1) := by decide +kernel
theorem dX0_runOfLaterKind_288 : decode cX0_runOfLaterKind 288 = .ok (.invokevirtual 108, 3) := by decide +kernel
theorem dX0_runOfLaterKind_291 : decode cX0_runOfLaterKind 291 = .ok (.sipush 255, 3) := by decide +kernel
theorem dX0_runOfLaterKind_294 : decode cX0_runOfLaterKind 294 = .ok (.iand, 1) := by decide +kernel
theorem dX0_runOfLaterKind_295 : decode cX0_runOfLaterKind 295 = .ok (.ireturn, 1) := by decide +kernel
theorem dX0_runOfLaterKind_296 : decode cX0_runOfLaterKind 296 = .ok (.iload_n 2, 1) := by decide +kernel
theorem dX0_runOfLaterKind_297 : decode cX0_runOfLaterKind 297 = .ok (.bipush 99, 2) := by decide +kernel
theorem dX0_runOfLaterKind_299 : decode cX0_runOfLaterKind 299 = .ok (.iadd, 1) := by decide +kernel
theorem dX0_runOfLaterKind_300 : decode cX0_runOfLaterKind 300 = .ok (.ireturn, 1) := by decide +kernel
theorem dX0_runOfLaterKind_301 : decode cX0_runOfLaterKind 301 = .ok (.aload_n 0, 1) := by decide +kernel
theorem dX0_runOfLaterKind_302 : decode cX0_runOfLaterKind 302 = .ok (.sipush 162, 3) := by decide +kernel
theorem dX0_runOfLaterKind_305 : decode cX0_runOfLaterKind 305 = .ok (.iload_n 2, 1) := by decide +kernel
theorem dX0_runOfLaterKind_306 : decode cX0_runOfLaterKind 306 = .ok (.iload_n 3, 1) := by decide +kernel
theorem dX0_runOfLaterKind_307 : decode cX0_runOfLaterKind 307 = .ok (.invokevirtual 83, 3) := by decide +kernel
theorem dX0_runOfLaterKind_310 : decode cX0_runOfLaterKind 310 = .ok (.aload_n 0, 1) := by decide +kernel
theorem dX0_runOfLaterKind_311 : decode cX0_runOfLaterKind 311 = .ok (.bipush 13, 2) := by decide +kernel
theorem dX0_runOfLaterKind_313 : decode cX0_runOfLaterKind 313 = .ok (.bipush 9, 2) := by decide +kernel
theorem dX0_runOfLaterKind_315 : decode cX0_runOfLaterKind 315 = .ok (.iconst 1, 1) := by decide +kernel
theorem dX0_runOfLaterKind_316 : decode cX0_runOfLaterKind 316 = .ok (.iload_n 3, 1) := by decide +kernel
theorem dX0_runOfLaterKind_317 : decode cX0_runOfLaterKind 317 = .ok (.invokevirtual 112, 3) := by decide +kernel
theorem dX0_runOfLaterKind_320 : decode cX0_runOfLaterKind 320 = .ok (.iadd, 1) := by decide +kernel
theorem dX0_runOfLaterKind_321 : decode cX0_runOfLaterKind 321 = .ok (.ireturn, 1) := by decide +kernel
theorem dX0_runOfLaterKind_322 : decode cX0_runOfLaterKind 322 = .ok (.aload_n 0, 1) := by decide +kernel
theorem dX0_runOfLaterKind_323 : decode cX0_runOfLaterKind 323 = .ok (.bipush 15, 2) := by decide +kernel
theorem dX0_runOfLaterKind_325 : decode cX0_runOfLaterKind 325 = .ok (.bipush 9, 2) := by decide +kernel
theorem dX0_runOfLaterKind_327 : decode cX0_runOfLaterKind 327 = .ok (.iload_n 2, 1) := by decide +kernel
theorem dX0_runOfLaterKind_328 : decode cX0_runOfLaterKind 328 = .ok (.iload_n 3, 1) := by decide +kernel
theorem dX0_runOfLaterKind_329 : decode cX0_runOfLaterKind 329 = .ok (.invokevirtual 112, 3) := by decide +kernel
theorem dX0_runOfLaterKind_332 : decode cX0_runOfLaterKind 332 = .ok (.iconst 1, 1) := by decide +kernel
theorem dX0_runOfLaterKind_333 : decode cX0_runOfLaterKind 333 = .ok (.isub, 1) := by decide +kernel
theorem dX0_runOfLaterKind_334 : decode cX0_runOfLaterKind 334 = .ok (.ireturn, 1) := by decide +kernel
theorem dX0_runOfLaterKind_335 : decode cX0_runOfLaterKind 335 = .ok (.aload_n 0, 1) := by decide +kernel
theorem dX0_runOfLaterKind_336 : decode cX0_runOfLaterKind 336 = .ok (.bipush 15, 2) := by decide +kernel
theorem dX0_runOfLaterKind_338 : decode cX0_runOfLaterKind 338 = .ok (.iconst 2, 1) := by decide +kernel
theorem dX0_runOfLaterKind_339 : decode cX0_runOfLaterKind 339 = .ok (.iload_n 2, 1) := by decide +kernel
theorem dX0_runOfLaterKind_340 : decode cX0_runOfLaterKind 340 = .ok (.iload_n 3, 1) := by decide +kernel
theorem dX0_runOfLaterKind_341 : decode cX0_runOfLaterKind 341 = .ok (.invokevirtual 112, 3) := by decide +kernel
theorem dX0_runOfLaterKind_344 : decode cX0_runOfLaterKind 344 = .ok (.aload_n 0, 1) := by decide +kernel
theorem dX0_runOfLaterKind_345 : decode cX0_runOfLaterKind 345 = .ok (.iconst 1, 1) := by decide +kernel
theorem dX0_runOfLaterKind_346 : decode cX0_runOfLaterKind 346 = .ok (.iconst 2, 1) := by decide +kernel
theorem dX0_runOfLaterKind_347 : decode cX0_runOfLaterKind 347 = .ok (.iload_n 3, 1) := by decide +kernel
theorem dX0_runOfLaterKind_348 : decode cX0_runOfLaterKind 348 = .ok (.invokevirtual 69, 3) := by decide +kernel
theorem dX0_runOfLaterKind_351 : decode cX0_runOfLaterKind 351 = .ok (.iadd, 1) := by decide +kernel
theorem dX0_runOfLaterKind_352 : decode cX0_runOfLaterKind 352 = .ok (.ireturn, 1) := by decide +kernel
theorem dX0_runOfLaterKind_353 : decode cX0_runOfLaterKind 353 = .ok (.aload_n 0, 1) := by decide +kernel
theorem dX0_runOfLaterKind_354 : decode cX0_runOfLaterKind 354 = .ok (.bipush 10, 2) := by decide +kernel
theorem dX0_runOfLaterKind_356 : decode cX0_runOfLaterKind 356 = .ok (.iload_n 2, 1) := by decide +kernel
theorem dX0_runOfLaterKind_357 : decode cX0_runOfLaterKind 357 = .ok (.iload_n 3, 1) := by decide +kernel
theorem dX0_runOfLaterKind_358 : decode cX0_runOfLaterKind 358 = .ok (.invokevirtual 69, 3) := by decide +kernel
theorem dX0_runOfLaterKind_361 : decode cX0_runOfLaterKind 361 = .ok (.iconst 2, 1) := by decide +kernel
theorem dX0_runOfLaterKind_362 : decode cX0_runOfLaterKind 362 = .ok (.imul, 1) := by decide +kernel
theorem dX0_runOfLaterKind_363 : decode cX0_runOfLaterKind 363 = .ok (.ireturn, 1) := by decide +kernel
theorem dX0_runOfLaterKind_364 : decode cX0_runOfLaterKind 364 = .ok (.aload_n 0, 1) := by decide +kernel
theorem dX0_runOfLaterKind_365 : decode cX0_runOfLaterKind 365 = .ok (.getfield 38, 3) := by decide +kernel
theorem dX0_runOfLaterKind_368 : decode cX0_runOfLaterKind 368 = .ok (.iload_n 2, 1) := by decide +kernel
theorem dX0_runOfLaterKind_369 : decode cX0_runOfLaterKind 369 = .ok (.iadd, 1) := by decide +kernel
theorem dX0_runOfLaterKind_370 : decode cX0_runOfLaterKind 370 = .ok (.ireturn, 1) := by decide +kernel
theorem dX0_runOfLaterKind_371 : decode cX0_runOfLaterKind 371 = .ok (.aload_n 0, 1) := by decide +kernel
theorem dX0_runOfLaterKind_372 : decode cX0_runOfLaterKind 372 = .ok (.bipush 6, 2) := by decide +kernel
theorem dX0_runOfLaterKind_374 : decode cX0_runOfLaterKind 374 = .ok (.bipush 7, 2) := by decide +kernel
theorem dX0_runOfLaterKind_376 : decode cX0_runOfLaterKind 376 = .ok (.iload_n 2, 1) := by decide +kernel
theorem dX0_runOfLaterKind_377 : decode cX0_runOfLaterKind 377 = .ok (.iload_n 3, 1) := by decide +kernel
theorem dX0_runOfLaterKind_378 : decode cX0_runOfLaterKind 378 = .ok (.invokevirtual 108, 3) := by decide +kernel
theorem dX0_runOfLaterKind_381 : decode cX0_runOfLaterKind 381 = .ok (.aload_n 0, 1) := by decide +kernel
theorem dX0_runOfLaterKind_382 : decode cX0_runOfLaterKind 382 = .ok (.sipush 200, 3) := by decide +kernel
theorem dX0_runOfLaterKind_385 : decode cX0_runOfLaterKind 385 = .ok (.iload_n 2, 1) := by decide +kernel
theorem dX0_runOfLaterKind_386 : decode cX0_runOfLaterKind 386 = .ok (.iload_n 3, 1) := by decide +kernel
theorem dX0_runOfLaterKind_387 : decode cX0_runOfLaterKind 387 = .ok (.invokevirtual 83, 3) := by decide +kernel
theorem dX0_runOfLaterKind_390 : decode cX0_runOfLaterKind 390 = .ok (.iadd, 1) := by decide +kernel
theorem dX0_runOfLaterKind_391 : decode cX0_runOfLaterKind 391 = .ok (.ireturn, 1) := by decide +kernel
theorem dX0_runOfLaterKind_392 : decode cX0_runOfLaterKind 392 = .ok (.aload_n 0, 1) := by decide +kernel
theorem dX0_runOfLaterKind_393 : decode cX0_runOfLaterKind 393 = .ok (.iconst 4, 1) := by decide +kernel
theorem dX0_runOfLaterKind_394 : decode cX0_runOfLaterKind 394 = .ok (.iconst 2, 1) := by decide +kernel
theorem dX0_runOfLaterKind_395 : decode cX0_runOfLaterKind 395 = .ok (.iload_n 2, 1) := by decide +kernel
theorem dX0_runOfLaterKind_396 : decode cX0_runOfLaterKind 396 = .ok (.iload_n 3, 1) := by decide +kernel
theorem dX0_runOfLaterKind_397 : decode cX0_runOfLaterKind 397 = .ok (.invokevirtual 108, 3) := by decide +kernel
theorem dX0_runOfLaterKind_400 : decode cX0_runOfLaterKind 400 = .ok (.aload_n 0, 1) := by decide +kernel
theorem dX0_runOfLaterKind_401 : decode cX0_runOfLaterKind 401 = .ok (.bipush 17, 2) := by decide +kernel
theorem dX0_runOfLaterKind_403 : decode cX0_runOfLaterKind 403 = .ok (.iconst 2, 1) := by decide +kernel
theorem dX0_runOfLaterKind_404 : decode cX0_runOfLaterKind 404 = .ok (.iload_n 2, 1) := by decide +kernel
theorem dX0_runOfLaterKind_405 : decode cX0_runOfLaterKind 405 = .ok (.iload_n 3, 1) := by decide +kernel
theorem dX0_runOfLaterKind_406 : decode cX0_runOfLaterKind 406 = .ok (.invokevirtual 112, 3) := by decide +kernel
theorem dX0_runOfLaterKind_409 : decode cX0_runOfLaterKind 409 = .ok (.iadd, 1) := by decide +kernel
theorem dX0_runOfLaterKind_410 : decode cX0_runOfLaterKind 410 = .ok (.ireturn, 1) := by decide +kernel
theorem dX0_runOfLaterKind_411 : decode cX0_runOfLaterKind 411 = .ok (.aload_n 0, 1) := by decide +kernel
theorem dX0_runOfLaterKind_412 : decode cX0_runOfLaterKind 412 = .ok (.bipush 17, 2) := by decide +kernel
theorem dX0_runOfLaterKind_414 : decode cX0_runOfLaterKind 414 = .ok (.iconst 5, 1) := by decide +kernel
theorem dX0_runOfLaterKind_415 : decode cX0_runOfLaterKind 415 = .ok (.iload_n 2, 1) := by decide +kernel
theorem dX0_runOfLaterKind_416 : decode cX0_runOfLaterKind 416 = .ok (.iload_n 3, 1) := by decide +kernel
theorem dX0_runOfLaterKind_417 : decode cX0_runOfLaterKind 417 = .ok (.invokevirtual 112, 3) := by decide +kernel
theorem dX0_runOfLaterKind_420 : decode cX0_runOfLaterKind 420 = .ok (.iconst 1, 1) := by decide +kernel
theorem dX0_runOfLaterKind_421 : decode cX0_runOfLaterKind 421 = .ok (.iadd, 1) := by decide +kernel
theorem dX0_runOfLaterKind_422 : decode cX0_runOfLaterKind 422 = .ok (.ireturn, 1) := by decide +kernel
theorem dX0_runOfLaterKind_423 : decode cX0_runOfLaterKind 423 = .ok (.iconst 0, 1) := by decide +kernel
theorem dX0_runOfLaterKind_424 : decode cX0_runOfLaterKind 424 = .ok (.ireturn, 1) := by decide +kernel
theorem dX1_init_0 : decode cX1_init 0 = .ok (.aload_n 0, 1) := by decide +kernel
theorem dX1_init_1 : decode cX1_init 1 = .ok (.invokespecial 3, 3) := by decide +kernel
theorem dX1_init_4 : decode cX1_init 4 = .ok (.aload_n 0, 1) := by decide +kernel
theorem dX1_init_5 : decode cX1_init 5 = .ok (.bipush 18, 2) := by decide +kernel
theorem dX1_init_7 : decode cX1_init 7 = .ok (.newarray .int, 2) := by decide +kernel
theorem dX1_init_9 : decode cX1_init 9 = .ok (.putfield 9, 3) := by decide +kernel
theorem dX1_init_12 : decode cX1_init 12 = .ok (.aload_n 0, 1) := by decide +kernel
theorem dX1_init_13 : decode cX1_init 13 = .ok (.sipush 216, 3) := by decide +kernel
theorem dX1_init_16 : decode cX1_init 16 = .ok (.newarray .int, 2) := by decide +kernel
theorem dX1_init_18 : decode cX1_init 18 = .ok (.putfield 15, 3) := by decide +kernel
theorem dX1_init_21 : decode cX1_init 21 = .ok (.iconst 0, 1) := by decide +kernel
theorem dX1_init_22 : decode cX1_init 22 = .ok (.istore_n 1, 1) := by decide +kernel
theorem dX1_init_23 : decode cX1_init 23 = .ok (.iload_n 1, 1) := by decide +kernel
theorem dX1_init_24 : decode cX1_init 24 = .ok (.bipush 18, 2) := by decide +kernel
theorem dX1_init_26 : decode cX1_init 26 = .ok (.if_icmp .ge 57, 3) := by decide +kernel
theorem dX1_init_29 : decode cX1_init 29 = .ok (.aload_n 0, 1) := by decide +kernel
theorem dX1_init_30 : decode cX1_init 30 = .ok (.getfield 9, 3) := by decide +kernel
theorem dX1_init_33 : decode cX1_init 33 = .ok (.iload_n 1, 1) := by decide +kernel
theorem dX1_init_34 : decode cX1_init 34 = .ok (.iload_n 1, 1) := by decide +kernel
theorem dX1_init_35 : decode cX1_init 35 = .ok (.aload_n 0, 1) := by decide +kernel
theorem dX1_init_36 : decode cX1_init 36 = .ok (.getfield 9, 3) := by decide +kernel
theorem dX1_init_39 : decode cX1_init 39 = .ok (.invokestatic 18, 3) := by decide +kernel
theorem dX1_init_42 : decode cX1_init 42 = .ok (.iastore, 1) := by decide +kernel
theorem dX1_init_43 : decode cX1_init 43 = .ok (.iconst 0, 1) := by decide +kernel
theorem dX1_init_44 : decode cX1_init 44 = .ok (.istore_n 2, 1) := by decide +kernel
theorem dX1_init_45 : decode cX1_init 45 = .ok (.iload_n 2, 1) := by decide +kernel
theorem dX1_init_46 : decode cX1_init 46 = .ok (.bipush 12, 2) := by decide +kernel
theorem dX1_init_48 : decode cX1_init 48 = .ok (.if_icmp .ge 29, 3) := by decide +kernel
theorem dX1_init_51 : decode cX1_init 51 = .ok (.aload_n 0, 1) := by decide +kernel
theorem dX1_init_52 : decode cX1_init 52 = .ok (.getfield 15, 3) := by decide +kernel
theorem dX1_init_55 : decode cX1_init 55 = .ok (.iload_n 1, 1) := by decide +kernel
theorem dX1_init_56 : decode cX1_init 56 = .ok (.bipush 12, 2) := by decide +kernel
theorem dX1_init_58 : decode cX1_init 58 = .ok (.imul, 1) := by decide +kernel
theorem dX1_init_59 : decode cX1_init 59 = .ok (.iload_n 2, 1) := by decide +kernel
theorem dX1_init_60 : decode cX1_init 60 = .ok (.iadd, 1) := by decide +kernel
theorem dX1_init_61 : decode cX1_init 61 = .ok (.iload_n 1, 1) := by decide +kernel
theorem dX1_init_62 : decode cX1_init 62 = .ok (.iload_n 2, 1) := by decide +kernel
theorem dX1_init_63 : decode cX1_init 63 = .ok (.aload_n 0, 1) := by decide +kernel
theorem dX1_init_64 : decode cX1_init 64 = .ok (.getfield 9, 3) := by decide +kernel
theorem dX1_init_67 : decode cX1_init 67 = .ok (.invokestatic 22, 3) := by decide +kernel
theorem dX1_init_70 : decode cX1_init 70 = .ok (.iastore, 1) := by decide +kernel
theorem dX1_init_71 : decode cX1_init 71 = .ok (.iinc 2 1, 3) := by decide +kernel
theorem dX1_init_74 : decode cX1_init 74 = .ok (.goto (-29), 3) := by decide +kernel
theorem dX1_init_77 : decode cX1_init 77 = .ok (.iinc 1 1, 3) := by decide +kernel
theorem dX1_init_80 : decode cX1_init 80 = .ok (.goto (-57), 3) := by decide +kernel
theorem dX1_init_83 : decode cX1_init 83 = .ok (.return_, 1) := by decide +kernel
theorem dX1_isType_0 : decode cX1_isType 0 = .ok (.iload_n 0, 1) := by decide +kernel
theorem dX1_isType_1 : decode cX1_isType 1 = .ok (.ifCond .lt 13, 3) := by decide +kernel
theorem dX1_isType_4 : decode cX1_isType 4 = .ok (.iload_n 0, 1) := by decide +kernel
theorem dX1_isType_5 : decode cX1_isType 5 = .ok (.bipush 18, 2) := by decide +kernel
theorem dX1_isType_7 : decode cX1_isType 7 = .ok (.if_icmp .ge 7, 3) := by decide +kernel
theorem dX1_isType_10 : decode cX1_isType 10 = .ok (.iconst 1, 1) := by decide +kernel
theorem dX1_isType_11 : decode cX1_isType 11 = .ok (.goto 4, 3) := by decide +kernel
theorem dX1_isType_14 : decode cX1_isType 14 = .ok (.iconst 0, 1) := by decide +kernel
theorem dX1_isType_15 : decode cX1_isType 15 = .ok (.ireturn, 1) := by decide +kernel
theorem dX1_isInterface_0 : decode cX1_isInterface 0 = .ok (.iload_n 0, 1) := by decide +kernel
theorem dX1_isInterface_1 : decode cX1_isInterface 1 = .ok (.iconst 2, 1) := by decide +kernel
theorem dX1_isInterface_2 : decode cX1_isInterface 2 = .ok (.if_icmp .lt 13, 3) := by decide +kernel
theorem dX1_isInterface_5 : decode cX1_isInterface 5 = .ok (.iload_n 0, 1) := by decide +kernel
theorem dX1_isInterface_6 : decode cX1_isInterface 6 = .ok (.bipush 6, 2) := by decide +kernel
theorem dX1_isInterface_8 : decode cX1_isInterface 8 = .ok (.if_icmp .gt 7, 3) := by decide +kernel
theorem dX1_isInterface_11 : decode cX1_isInterface 11 = .ok (.iconst 1, 1) := by decide +kernel
theorem dX1_isInterface_12 : decode cX1_isInterface 12 = .ok (.goto 4, 3) := by decide +kernel
theorem dX1_isInterface_15 : decode cX1_isInterface 15 = .ok (.iconst 0, 1) := by decide +kernel
theorem dX1_isInterface_16 : decode cX1_isInterface 16 = .ok (.ireturn, 1) := by decide +kernel
theorem dX1_holds_0 : decode cX1_holds 0 = .ok (.iload_n 0, 1) := by decide +kernel
theorem dX1_holds_1 : decode cX1_holds 1 = .ok (.iload_n 1, 1) := by decide +kernel
theorem dX1_holds_2 : decode cX1_holds 2 = .ok (.ishr, 1) := by decide +kernel
theorem dX1_holds_3 : decode cX1_holds 3 = .ok (.iconst 1, 1) := by decide +kernel
theorem dX1_holds_4 : decode cX1_holds 4 = .ok (.iand, 1) := by decide +kernel
theorem dX1_holds_5 : decode cX1_holds 5 = .ok (.iconst 1, 1) := by decide +kernel
theorem dX1_holds_6 : decode cX1_holds 6 = .ok (.if_icmp .ne 7, 3) := by decide +kernel
theorem dX1_holds_9 : decode cX1_holds 9 = .ok (.iconst 1, 1) := by decide +kernel
theorem dX1_holds_10 : decode cX1_holds 10 = .ok (.goto 4, 3) := by decide +kernel
theorem dX1_holds_13 : decode cX1_holds 13 = .ok (.iconst 0, 1) := by decide +kernel
theorem dX1_holds_14 : decode cX1_holds 14 = .ok (.ireturn, 1) := by decide +kernel
theorem dX1_parentOf_0 : decode cX1_parentOf 0 = .ok (.iload_n 0, 1) := by decide +kernel
theorem dX1_parentOf_1 : decode cX1_parentOf 1 = .ok (.invokestatic 26, 3) := by decide +kernel
theorem dX1_parentOf_4 : decode cX1_parentOf 4 = .ok (.ifCond .eq 11, 3) := by decide +kernel
theorem dX1_parentOf_7 : decode cX1_parentOf 7 = .ok (.getstatic 30, 3) := by decide +kernel
theorem dX1_parentOf_10 : decode cX1_parentOf 10 = .ok (.iload_n 0, 1) := by decide +kernel
theorem dX1_parentOf_11 : decode cX1_parentOf 11 = .ok (.iaload, 1) := by decide +kernel
theorem dX1_parentOf_12 : decode cX1_parentOf 12 = .ok (.goto 4, 3) := by decide +kernel
theorem dX1_parentOf_15 : decode cX1_parentOf 15 = .ok (.iconst (-1), 1) := by decide +kernel
theorem dX1_parentOf_16 : decode cX1_parentOf 16 = .ok (.ireturn, 1) := by decide +kernel
theorem dX1_bodyOf_0 : decode cX1_bodyOf 0 = .ok (.iload_n 0, 1) := by decide +kernel
theorem dX1_bodyOf_1 : decode cX1_bodyOf 1 = .ok (.invokestatic 26, 3) := by decide +kernel
theorem dX1_bodyOf_4 : decode cX1_bodyOf 4 = .ok (.ifCond .eq 23, 3) := by decide +kernel
theorem dX1_bodyOf_7 : decode cX1_bodyOf 7 = .ok (.iload_n 1, 1) := by decide +kernel
theorem dX1_bodyOf_8 : decode cX1_bodyOf 8 = .ok (.invokestatic 33, 3) := by decide +kernel
theorem dX1_bodyOf_11 : decode cX1_bodyOf 11 = .ok (.ifCond .eq 16, 3) := by decide +kernel
theorem dX1_bodyOf_14 : decode cX1_bodyOf 14 = .ok (.getstatic 36, 3) := by decide +kernel
theorem dX1_bodyOf_17 : decode cX1_bodyOf 17 = .ok (.iload_n 0, 1) := by decide +kernel
theorem dX1_bodyOf_18 : decode cX1_bodyOf 18 = .ok (.bipush 12, 2) := by decide +kernel
theorem dX1_bodyOf_20 : decode cX1_bodyOf 20 = .ok (.imul, 1) := by decide +kernel
theorem dX1_bodyOf_21 : decode cX1_bodyOf 21 = .ok (.iload_n 1, 1) := by decide +kernel
theorem dX1_bodyOf_22 : decode cX1_bodyOf 22 = .ok (.iadd, 1) := by decide +kernel
theorem dX1_bodyOf_23 : decode cX1_bodyOf 23 = .ok (.iaload, 1) := by decide +kernel
theorem dX1_bodyOf_24 : decode cX1_bodyOf 24 = .ok (.goto 4, 3) := by decide +kernel
theorem dX1_bodyOf_27 : decode cX1_bodyOf 27 = .ok (.iconst 0, 1) := by decide +kernel
theorem dX1_bodyOf_28 : decode cX1_bodyOf 28 = .ok (.ireturn, 1) := by decide +kernel
theorem dX1_interfacesOf_0 : decode cX1_interfacesOf 0 = .ok (.iload_n 0, 1) := by decide +kernel
theorem dX1_interfacesOf_1 : decode cX1_interfacesOf 1 = .ok (.invokestatic 26, 3) := by decide +kernel
theorem dX1_interfacesOf_4 : decode cX1_interfacesOf 4 = .ok (.ifCond .ne 5, 3) := by decide +kernel
theorem dX1_interfacesOf_7 : decode cX1_interfacesOf 7 = .ok (.iconst 0, 1) := by decide +kernel
theorem dX1_interfacesOf_8 : decode cX1_interfacesOf 8 = .ok (.ireturn, 1) := by decide +kernel
theorem dX1_interfacesOf_9 : decode cX1_interfacesOf 9 = .ok (.iload_n 0, 1) := by decide +kernel
theorem dX1_interfacesOf_10 : decode cX1_interfacesOf 10 = .ok (.invokestatic 39, 3) := by decide +kernel
theorem dX1_interfacesOf_13 : decode cX1_interfacesOf 13 = .ok (.istore_n 2, 1) := by decide +kernel
theorem dX1_interfacesOf_14 : decode cX1_interfacesOf 14 = .ok (.iload_n 0, 1) := by decide +kernel
theorem dX1_interfacesOf_15 : decode cX1_interfacesOf 15 = .ok (.invokestatic 43, 3) := by decide +kernel
theorem dX1_interfacesOf_18 : decode cX1_interfacesOf 18 = .ok (.ifCond .eq 9, 3) := by decide +kernel
theorem dX1_interfacesOf_21 : decode cX1_interfacesOf 21 = .ok (.iconst 1, 1) := by decide +kernel
theorem dX1_interfacesOf_22 : decode cX1_interfacesOf 22 = .ok (.iload_n 0, 1) := by decide +kernel
theorem dX1_interfacesOf_23 : decode cX1_interfacesOf 23 = .ok (.ishl, 1) := by decide +kernel
theorem dX1_interfacesOf_24 : decode cX1_interfacesOf 24 = .ok (.goto 4, 3) := by decide +kernel
theorem dX1_interfacesOf_27 : decode cX1_interfacesOf 27 = .ok (.iconst 0, 1) := by decide +kernel
theorem dX1_interfacesOf_28 : decode cX1_interfacesOf 28 = .ok (.istore_n 3, 1) := by decide +kernel
theorem dX1_interfacesOf_29 : decode cX1_interfacesOf 29 = .ok (.iload_n 2, 1) := by decide +kernel
theorem dX1_interfacesOf_30 : decode cX1_interfacesOf 30 = .ok (.invokestatic 26, 3) := by decide +kernel
theorem dX1_interfacesOf_33 : decode cX1_interfacesOf 33 = .ok (.ifCond .eq 9, 3) := by decide +kernel
theorem dX1_interfacesOf_36 : decode cX1_interfacesOf 36 = .ok (.iload_n 3, 1) := by decide +kernel
theorem dX1_interfacesOf_37 : decode cX1_interfacesOf 37 = .ok (.aload_n 1, 1) := by decide +kernel
theorem dX1_interfacesOf_38 : decode cX1_interfacesOf 38 = .ok (.iload_n 2, 1) := by decide +kernel
theorem dX1_interfacesOf_39 : decode cX1_interfacesOf 39 = .ok (.iaload, 1) := by decide +kernel
theorem dX1_interfacesOf_40 : decode cX1_interfacesOf 40 = .ok (.ior, 1) := by decide +kernel
theorem dX1_interfacesOf_41 : decode cX1_interfacesOf 41 = .ok (.istore_n 3, 1) := by decide +kernel
theorem dX1_interfacesOf_42 : decode cX1_interfacesOf 42 = .ok (.iconst 2, 1) := by decide +kernel
theorem dX1_interfacesOf_43 : decode cX1_interfacesOf 43 = .ok (.istore 4, 2) := by decide +kernel
theorem dX1_interfacesOf_45 : decode cX1_interfacesOf 45 = .ok (.iload 4, 2) := by decide +kernel
theorem dX1_interfacesOf_47 : decode cX1_interfacesOf 47 = .ok (.bipush 6, 2) := by decide +kernel
theorem dX1_interfacesOf_49 : decode cX1_interfacesOf 49 = .ok (.if_icmp .gt 29, 3) := by decide +kernel
theorem dX1_interfacesOf_52 : decode cX1_interfacesOf 52 = .ok (.getstatic 46, 3) := by decide +kernel
theorem dX1_interfacesOf_55 : decode cX1_interfacesOf 55 = .ok (.iload_n 0, 1) := by decide +kernel
theorem dX1_interfacesOf_56 : decode cX1_interfacesOf 56 = .ok (.iaload, 1) := by decide +kernel
theorem dX1_interfacesOf_57 : decode cX1_interfacesOf 57 = .ok (.iload 4, 2) := by decide +kernel
theorem dX1_interfacesOf_59 : decode cX1_interfacesOf 59 = .ok (.invokestatic 49, 3) := by decide +kernel
theorem dX1_interfacesOf_62 : decode cX1_interfacesOf 62 = .ok (.ifCond .eq 10, 3) := by decide +kernel
theorem dX1_interfacesOf_65 : decode cX1_interfacesOf 65 = .ok (.iload_n 3, 1) := by decide +kernel
theorem dX1_interfacesOf_66 : decode cX1_interfacesOf 66 = .ok (.aload_n 1, 1) := by decide +kernel
theorem dX1_interfacesOf_67 : decode cX1_interfacesOf 67 = .ok (.iload 4, 2) := by decide +kernel
theorem dX1_interfacesOf_69 : decode cX1_interfacesOf 69 = .ok (.iaload, 1) := by decide +kernel
theorem dX1_interfacesOf_70 : decode cX1_interfacesOf 70 = .ok (.ior, 1) := by decide +kernel
theorem dX1_interfacesOf_71 : decode cX1_interfacesOf 71 = .ok (.istore_n 3, 1) := by decide +kernel
theorem dX1_interfacesOf_72 : decode cX1_interfacesOf 72 = .ok (.iinc 4 1, 3) := by decide +kernel
theorem dX1_interfacesOf_75 : decode cX1_interfacesOf 75 = .ok (.goto (-30), 3) := by decide +kernel
theorem dX1_interfacesOf_78 : decode cX1_interfacesOf 78 = .ok (.iload_n 3, 1) := by decide +kernel
theorem dX1_interfacesOf_79 : decode cX1_interfacesOf 79 = .ok (.ireturn, 1) := by decide +kernel
theorem dX1_select_0 : decode cX1_select 0 = .ok (.iload_n 0, 1) := by decide +kernel
theorem dX1_select_1 : decode cX1_select 1 = .ok (.iload_n 1, 1) := by decide +kernel
theorem dX1_select_2 : decode cX1_select 2 = .ok (.invokestatic 53, 3) := by decide +kernel
theorem dX1_select_5 : decode cX1_select 5 = .ok (.istore_n 3, 1) := by decide +kernel
theorem dX1_select_6 : decode cX1_select 6 = .ok (.iload_n 3, 1) := by decide +kernel
theorem dX1_select_7 : decode cX1_select 7 = .ok (.ifCond .eq 7, 3) := by decide +kernel
theorem dX1_select_10 : decode cX1_select 10 = .ok (.iload_n 3, 1) := by decide +kernel
theorem dX1_select_11 : decode cX1_select 11 = .ok (.goto 9, 3) := by decide +kernel
theorem dX1_select_14 : decode cX1_select 14 = .ok (.iload_n 0, 1) := by decide +kernel
theorem dX1_select_15 : decode cX1_select 15 = .ok (.iload_n 1, 1) := by decide +kernel
theorem dX1_select_16 : decode cX1_select 16 = .ok (.aload_n 2, 1) := by decide +kernel
theorem dX1_select_17 : decode cX1_select 17 = .ok (.invokestatic 57, 3) := by decide +kernel
theorem dX1_select_20 : decode cX1_select 20 = .ok (.ireturn, 1) := by decide +kernel
theorem dX1_bodyOfLine_0 : decode cX1_bodyOfLine 0 = .ok (.iload_n 0, 1) := by decide +kernel
theorem dX1_bodyOfLine_1 : decode cX1_bodyOfLine 1 = .ok (.istore_n 2, 1) := by decide +kernel
theorem dX1_bodyOfLine_2 : decode cX1_bodyOfLine 2 = .ok (.iconst 0, 1) := by decide +kernel
theorem dX1_bodyOfLine_3 : decode cX1_bodyOfLine 3 = .ok (.istore_n 3, 1) := by decide +kernel
theorem dX1_bodyOfLine_4 : decode cX1_bodyOfLine 4 = .ok (.iload_n 3, 1) := by decide +kernel
theorem dX1_bodyOfLine_5 : decode cX1_bodyOfLine 5 = .ok (.bipush 18, 2) := by decide +kernel
theorem dX1_bodyOfLine_7 : decode cX1_bodyOfLine 7 = .ok (.if_icmp .ge 36, 3) := by decide +kernel
theorem dX1_bodyOfLine_10 : decode cX1_bodyOfLine 10 = .ok (.iload_n 2, 1) := by decide +kernel
theorem dX1_bodyOfLine_11 : decode cX1_bodyOfLine 11 = .ok (.invokestatic 26, 3) := by decide +kernel
theorem dX1_bodyOfLine_14 : decode cX1_bodyOfLine 14 = .ok (.ifCond .eq 29, 3) := by decide +kernel
theorem dX1_bodyOfLine_17 : decode cX1_bodyOfLine 17 = .ok (.iload_n 2, 1) := by decide +kernel
theorem dX1_bodyOfLine_18 : decode cX1_bodyOfLine 18 = .ok (.iload_n 1, 1) := by decide +kernel
theorem dX1_bodyOfLine_19 : decode cX1_bodyOfLine 19 = .ok (.invokestatic 60, 3) := by decide +kernel
theorem dX1_bodyOfLine_22 : decode cX1_bodyOfLine 22 = .ok (.istore 4, 2) := by decide +kernel
theorem dX1_bodyOfLine_24 : decode cX1_bodyOfLine 24 = .ok (.iload 4, 2) := by decide +kernel
theorem dX1_bodyOfLine_26 : decode cX1_bodyOfLine 26 = .ok (.ifCond .eq 6, 3) := by decide +kernel
theorem dX1_bodyOfLine_29 : decode cX1_bodyOfLine 29 = .ok (.iload 4, 2) := by decide +kernel
theorem dX1_bodyOfLine_31 : decode cX1_bodyOfLine 31 = .ok (.ireturn, 1) := by decide +kernel
theorem dX1_bodyOfLine_32 : decode cX1_bodyOfLine 32 = .ok (.iload_n 2, 1) := by decide +kernel
theorem dX1_bodyOfLine_33 : decode cX1_bodyOfLine 33 = .ok (.invokestatic 39, 3) := by decide +kernel
theorem dX1_bodyOfLine_36 : decode cX1_bodyOfLine 36 = .ok (.istore_n 2, 1) := by decide +kernel
theorem dX1_bodyOfLine_37 : decode cX1_bodyOfLine 37 = .ok (.iinc 3 1, 3) := by decide +kernel
theorem dX1_bodyOfLine_40 : decode cX1_bodyOfLine 40 = .ok (.goto (-36), 3) := by decide +kernel
theorem dX1_bodyOfLine_43 : decode cX1_bodyOfLine 43 = .ok (.iconst 0, 1) := by decide +kernel
theorem dX1_bodyOfLine_44 : decode cX1_bodyOfLine 44 = .ok (.ireturn, 1) := by decide +kernel
theorem dX1_bodyOfInterfaces_0 : decode cX1_bodyOfInterfaces 0 = .ok (.iconst 2, 1) := by decide +kernel
theorem dX1_bodyOfInterfaces_1 : decode cX1_bodyOfInterfaces 1 = .ok (.istore_n 3, 1) := by decide +kernel
theorem dX1_bodyOfInterfaces_2 : decode cX1_bodyOfInterfaces 2 = .ok (.iload_n 3, 1) := by decide +kernel
theorem dX1_bodyOfInterfaces_3 : decode cX1_bodyOfInterfaces 3 = .ok (.bipush 6, 2) := by decide +kernel
theorem dX1_bodyOfInterfaces_5 : decode cX1_bodyOfInterfaces 5 = .ok (.if_icmp .gt 55, 3) := by decide +kernel
theorem dX1_bodyOfInterfaces_8 : decode cX1_bodyOfInterfaces 8 = .ok (.aload_n 2, 1) := by decide +kernel
theorem dX1_bodyOfInterfaces_9 : decode cX1_bodyOfInterfaces 9 = .ok (.iload_n 0, 1) := by decide +kernel
theorem dX1_bodyOfInterfaces_10 : decode cX1_bodyOfInterfaces 10 = .ok (.iaload, 1) := by decide +kernel
theorem dX1_bodyOfInterfaces_11 : decode cX1_bodyOfInterfaces 11 = .ok (.iload_n 3, 1) := by decide +kernel
theorem dX1_bodyOfInterfaces_12 : decode cX1_bodyOfInterfaces 12 = .ok (.invokestatic 49, 3) := by decide +kernel
theorem dX1_bodyOfInterfaces_15 : decode cX1_bodyOfInterfaces 15 = .ok (.ifCond .eq 15, 3) := by decide +kernel
theorem dX1_bodyOfInterfaces_18 : decode cX1_bodyOfInterfaces 18 = .ok (.iload_n 3, 1) := by decide +kernel
theorem dX1_bodyOfInterfaces_19 : decode cX1_bodyOfInterfaces 19 = .ok (.iload_n 1, 1) := by decide +kernel
theorem dX1_bodyOfInterfaces_20 : decode cX1_bodyOfInterfaces 20 = .ok (.invokestatic 60, 3) := by decide +kernel
theorem dX1_bodyOfInterfaces_23 : decode cX1_bodyOfInterfaces 23 = .ok (.ifCond .eq 7, 3) := by decide +kernel
theorem dX1_bodyOfInterfaces_26 : decode cX1_bodyOfInterfaces 26 = .ok (.iconst 1, 1) := by decide +kernel
theorem dX1_bodyOfInterfaces_27 : decode cX1_bodyOfInterfaces 27 = .ok (.goto 4, 3) := by decide +kernel
theorem dX1_bodyOfInterfaces_30 : decode cX1_bodyOfInterfaces 30 = .ok (.iconst 0, 1) := by decide +kernel
theorem dX1_bodyOfInterfaces_31 : decode cX1_bodyOfInterfaces 31 = .ok (.istore 4, 2) := by decide +kernel
theorem dX1_bodyOfInterfaces_33 : decode cX1_bodyOfInterfaces 33 = .ok (.iload 4, 2) := by decide +kernel
theorem dX1_bodyOfInterfaces_35 : decode cX1_bodyOfInterfaces 35 = .ok (.ifCond .eq 19, 3) := by decide +kernel
theorem dX1_bodyOfInterfaces_38 : decode cX1_bodyOfInterfaces 38 = .ok (.iload_n 3, 1) := by decide +kernel
theorem dX1_bodyOfInterfaces_39 : decode cX1_bodyOfInterfaces 39 = .ok (.iload_n 0, 1) := by decide +kernel
theorem dX1_bodyOfInterfaces_40 : decode cX1_bodyOfInterfaces 40 = .ok (.iload_n 1, 1) := by decide +kernel
theorem dX1_bodyOfInterfaces_41 : decode cX1_bodyOfInterfaces 41 = .ok (.aload_n 2, 1) := by decide +kernel
theorem dX1_bodyOfInterfaces_42 : decode cX1_bodyOfInterfaces 42 = .ok (.invokestatic 63, 3) := by decide +kernel
theorem dX1_bodyOfInterfaces_45 : decode cX1_bodyOfInterfaces 45 = .ok (.ifCond .ne 9, 3) := by decide +kernel
theorem dX1_bodyOfInterfaces_48 : decode cX1_bodyOfInterfaces 48 = .ok (.iload_n 3, 1) := by decide +kernel
theorem dX1_bodyOfInterfaces_49 : decode cX1_bodyOfInterfaces 49 = .ok (.iload_n 1, 1) := by decide +kernel
theorem dX1_bodyOfInterfaces_50 : decode cX1_bodyOfInterfaces 50 = .ok (.invokestatic 60, 3) := by decide +kernel
theorem dX1_bodyOfInterfaces_53 : decode cX1_bodyOfInterfaces 53 = .ok (.ireturn, 1) := by decide +kernel
theorem dX1_bodyOfInterfaces_54 : decode cX1_bodyOfInterfaces 54 = .ok (.iinc 3 1, 3) := by decide +kernel
theorem dX1_bodyOfInterfaces_57 : decode cX1_bodyOfInterfaces 57 = .ok (.goto (-55), 3) := by decide +kernel
theorem dX1_bodyOfInterfaces_60 : decode cX1_bodyOfInterfaces 60 = .ok (.iconst 0, 1) := by decide +kernel
theorem dX1_bodyOfInterfaces_61 : decode cX1_bodyOfInterfaces 61 = .ok (.ireturn, 1) := by decide +kernel
theorem dX1_isOvertaken_0 : decode cX1_isOvertaken 0 = .ok (.iconst 2, 1) := by decide +kernel
theorem dX1_isOvertaken_1 : decode cX1_isOvertaken 1 = .ok (.istore 4, 2) := by decide +kernel
theorem dX1_isOvertaken_3 : decode cX1_isOvertaken 3 = .ok (.iload 4, 2) := by decide +kernel
theorem dX1_isOvertaken_5 : decode cX1_isOvertaken 5 = .ok (.bipush 6, 2) := by decide +kernel
theorem dX1_isOvertaken_7 : decode cX1_isOvertaken 7 = .ok (.if_icmp .gt 60, 3) := by decide +kernel
theorem dX1_isOvertaken_10 : decode cX1_isOvertaken 10 = .ok (.iload 4, 2) := by decide +kernel
theorem dX1_isOvertaken_12 : decode cX1_isOvertaken 12 = .ok (.iload_n 0, 1) := by decide +kernel
theorem dX1_isOvertaken_13 : decode cX1_isOvertaken 13 = .ok (.if_icmp .eq 18, 3) := by decide +kernel
theorem dX1_isOvertaken_16 : decode cX1_isOvertaken 16 = .ok (.aload_n 3, 1) := by decide +kernel
theorem dX1_isOvertaken_17 : decode cX1_isOvertaken 17 = .ok (.iload 4, 2) := by decide +kernel
theorem dX1_isOvertaken_19 : decode cX1_isOvertaken 19 = .ok (.iaload, 1) := by decide +kernel
theorem dX1_isOvertaken_20 : decode cX1_isOvertaken 20 = .ok (.iload_n 0, 1) := by decide +kernel
theorem dX1_isOvertaken_21 : decode cX1_isOvertaken 21 = .ok (.invokestatic 49, 3) := by decide +kernel
theorem dX1_isOvertaken_24 : decode cX1_isOvertaken 24 = .ok (.ifCond .eq 7, 3) := by decide +kernel
theorem dX1_isOvertaken_27 : decode cX1_isOvertaken 27 = .ok (.iconst 1, 1) := by decide +kernel
theorem dX1_isOvertaken_28 : decode cX1_isOvertaken 28 = .ok (.goto 4, 3) := by decide +kernel
theorem dX1_isOvertaken_31 : decode cX1_isOvertaken 31 = .ok (.iconst 0, 1) := by decide +kernel
theorem dX1_isOvertaken_32 : decode cX1_isOvertaken 32 = .ok (.istore 5, 2) := by decide +kernel
theorem dX1_isOvertaken_34 : decode cX1_isOvertaken 34 = .ok (.iload 5, 2) := by decide +kernel
theorem dX1_isOvertaken_36 : decode cX1_isOvertaken 36 = .ok (.ifCond .eq 25, 3) := by decide +kernel
theorem dX1_isOvertaken_39 : decode cX1_isOvertaken 39 = .ok (.aload_n 3, 1) := by decide +kernel
theorem dX1_isOvertaken_40 : decode cX1_isOvertaken 40 = .ok (.iload_n 1, 1) := by decide +kernel
theorem dX1_isOvertaken_41 : decode cX1_isOvertaken 41 = .ok (.iaload, 1) := by decide +kernel
theorem dX1_isOvertaken_42 : decode cX1_isOvertaken 42 = .ok (.iload 4, 2) := by decide +kernel
theorem dX1_isOvertaken_44 : decode cX1_isOvertaken 44 = .ok (.invokestatic 49, 3) := by decide +kernel
theorem dX1_isOvertaken_47 : decode cX1_isOvertaken 47 = .ok (.ifCond .eq 14, 3) := by decide +kernel
theorem dX1_isOvertaken_50 : decode cX1_isOvertaken 50 = .ok (.iload 4, 2) := by decide +kernel
theorem dX1_isOvertaken_52 : decode cX1_isOvertaken 52 = .ok (.iload_n 2, 1) := by decide +kernel
theorem dX1_isOvertaken_53 : decode cX1_isOvertaken 53 = .ok (.invokestatic 60, 3) := by decide +kernel
theorem dX1_isOvertaken_56 : decode cX1_isOvertaken 56 = .ok (.ifCond .eq 5, 3) := by decide +kernel
theorem dX1_isOvertaken_59 : decode cX1_isOvertaken 59 = .ok (.iconst 1, 1) := by decide +kernel
theorem dX1_isOvertaken_60 : decode cX1_isOvertaken 60 = .ok (.ireturn, 1) := by decide +kernel
theorem dX1_isOvertaken_61 : decode cX1_isOvertaken 61 = .ok (.iinc 4 1, 3) := by decide +kernel
theorem dX1_isOvertaken_64 : decode cX1_isOvertaken 64 = .ok (.goto (-61), 3) := by decide +kernel
theorem dX1_isOvertaken_67 : decode cX1_isOvertaken 67 = .ok (.iconst 0, 1) := by decide +kernel
theorem dX1_isOvertaken_68 : decode cX1_isOvertaken 68 = .ok (.ireturn, 1) := by decide +kernel
theorem dX1_selectedOf_0 : decode cX1_selectedOf 0 = .ok (.iload_n 1, 1) := by decide +kernel
theorem dX1_selectedOf_1 : decode cX1_selectedOf 1 = .ok (.invokestatic 26, 3) := by decide +kernel
theorem dX1_selectedOf_4 : decode cX1_selectedOf 4 = .ok (.ifCond .eq 24, 3) := by decide +kernel
theorem dX1_selectedOf_7 : decode cX1_selectedOf 7 = .ok (.iload_n 2, 1) := by decide +kernel
theorem dX1_selectedOf_8 : decode cX1_selectedOf 8 = .ok (.invokestatic 33, 3) := by decide +kernel
theorem dX1_selectedOf_11 : decode cX1_selectedOf 11 = .ok (.ifCond .eq 17, 3) := by decide +kernel
theorem dX1_selectedOf_14 : decode cX1_selectedOf 14 = .ok (.aload_n 0, 1) := by decide +kernel
theorem dX1_selectedOf_15 : decode cX1_selectedOf 15 = .ok (.getfield 15, 3) := by decide +kernel
theorem dX1_selectedOf_18 : decode cX1_selectedOf 18 = .ok (.iload_n 1, 1) := by decide +kernel
theorem dX1_selectedOf_19 : decode cX1_selectedOf 19 = .ok (.bipush 12, 2) := by decide +kernel
theorem dX1_selectedOf_21 : decode cX1_selectedOf 21 = .ok (.imul, 1) := by decide +kernel
theorem dX1_selectedOf_22 : decode cX1_selectedOf 22 = .ok (.iload_n 2, 1) := by decide +kernel
theorem dX1_selectedOf_23 : decode cX1_selectedOf 23 = .ok (.iadd, 1) := by decide +kernel
theorem dX1_selectedOf_24 : decode cX1_selectedOf 24 = .ok (.iaload, 1) := by decide +kernel
theorem dX1_selectedOf_25 : decode cX1_selectedOf 25 = .ok (.goto 4, 3) := by decide +kernel
theorem dX1_selectedOf_28 : decode cX1_selectedOf 28 = .ok (.iconst 0, 1) := by decide +kernel
theorem dX1_selectedOf_29 : decode cX1_selectedOf 29 = .ok (.ireturn, 1) := by decide +kernel
theorem dX1_bears_0 : decode cX1_bears 0 = .ok (.iload_n 1, 1) := by decide +kernel
theorem dX1_bears_1 : decode cX1_bears 1 = .ok (.invokestatic 26, 3) := by decide +kernel
theorem dX1_bears_4 : decode cX1_bears 4 = .ok (.ifCond .eq 32, 3) := by decide +kernel
theorem dX1_bears_7 : decode cX1_bears 7 = .ok (.iload_n 2, 1) := by decide +kernel
theorem dX1_bears_8 : decode cX1_bears 8 = .ok (.invokestatic 67, 3) := by decide +kernel
theorem dX1_bears_11 : decode cX1_bears 11 = .ok (.ifCond .eq 25, 3) := by decide +kernel
theorem dX1_bears_14 : decode cX1_bears 14 = .ok (.iload_n 2, 1) := by decide +kernel
theorem dX1_bears_15 : decode cX1_bears 15 = .ok (.iconst 1, 1) := by decide +kernel
theorem dX1_bears_16 : decode cX1_bears 16 = .ok (.if_icmp .le 16, 3) := by decide +kernel
theorem dX1_bears_19 : decode cX1_bears 19 = .ok (.aload_n 0, 1) := by decide +kernel
theorem dX1_bears_20 : decode cX1_bears 20 = .ok (.getfield 9, 3) := by decide +kernel
theorem dX1_bears_23 : decode cX1_bears 23 = .ok (.iload_n 1, 1) := by decide +kernel
theorem dX1_bears_24 : decode cX1_bears 24 = .ok (.iaload, 1) := by decide +kernel
theorem dX1_bears_25 : decode cX1_bears 25 = .ok (.iload_n 2, 1) := by decide +kernel
theorem dX1_bears_26 : decode cX1_bears 26 = .ok (.invokestatic 49, 3) := by decide +kernel
theorem dX1_bears_29 : decode cX1_bears 29 = .ok (.ifCond .eq 7, 3) := by decide +kernel
theorem dX1_bears_32 : decode cX1_bears 32 = .ok (.iconst 1, 1) := by decide +kernel
theorem dX1_bears_33 : decode cX1_bears 33 = .ok (.goto 4, 3) := by decide +kernel
theorem dX1_bears_36 : decode cX1_bears 36 = .ok (.iconst 0, 1) := by decide +kernel
theorem dX1_bears_37 : decode cX1_bears 37 = .ok (.ireturn, 1) := by decide +kernel
theorem dX1_hasAct_0 : decode cX1_hasAct 0 = .ok (.iload_n 1, 1) := by decide +kernel
theorem dX1_hasAct_1 : decode cX1_hasAct 1 = .ok (.invokestatic 67, 3) := by decide +kernel
theorem dX1_hasAct_4 : decode cX1_hasAct 4 = .ok (.ifCond .eq 26, 3) := by decide +kernel
theorem dX1_hasAct_7 : decode cX1_hasAct 7 = .ok (.iload_n 2, 1) := by decide +kernel
theorem dX1_hasAct_8 : decode cX1_hasAct 8 = .ok (.invokestatic 33, 3) := by decide +kernel
theorem dX1_hasAct_11 : decode cX1_hasAct 11 = .ok (.ifCond .eq 19, 3) := by decide +kernel
theorem dX1_hasAct_14 : decode cX1_hasAct 14 = .ok (.getstatic 70, 3) := by decide +kernel
theorem dX1_hasAct_17 : decode cX1_hasAct 17 = .ok (.iload_n 1, 1) := by decide +kernel
theorem dX1_hasAct_18 : decode cX1_hasAct 18 = .ok (.iaload, 1) := by decide +kernel
theorem dX1_hasAct_19 : decode cX1_hasAct 19 = .ok (.iload_n 2, 1) := by decide +kernel
theorem dX1_hasAct_20 : decode cX1_hasAct 20 = .ok (.invokestatic 49, 3) := by decide +kernel
theorem dX1_hasAct_23 : decode cX1_hasAct 23 = .ok (.ifCond .eq 7, 3) := by decide +kernel
theorem dX1_hasAct_26 : decode cX1_hasAct 26 = .ok (.iconst 1, 1) := by decide +kernel
theorem dX1_hasAct_27 : decode cX1_hasAct 27 = .ok (.goto 4, 3) := by decide +kernel
theorem dX1_hasAct_30 : decode cX1_hasAct 30 = .ok (.iconst 0, 1) := by decide +kernel
theorem dX1_hasAct_31 : decode cX1_hasAct 31 = .ok (.ireturn, 1) := by decide +kernel
theorem dX1_kindHasAct_0 : decode cX1_kindHasAct 0 = .ok (.iconst 1, 1) := by decide +kernel
theorem dX1_kindHasAct_1 : decode cX1_kindHasAct 1 = .ok (.istore_n 3, 1) := by decide +kernel
theorem dX1_kindHasAct_2 : decode cX1_kindHasAct 2 = .ok (.iload_n 3, 1) := by decide +kernel
theorem dX1_kindHasAct_3 : decode cX1_kindHasAct 3 = .ok (.bipush 6, 2) := by decide +kernel
theorem dX1_kindHasAct_5 : decode cX1_kindHasAct 5 = .ok (.if_icmp .gt 29, 3) := by decide +kernel
theorem dX1_kindHasAct_8 : decode cX1_kindHasAct 8 = .ok (.aload_n 0, 1) := by decide +kernel
theorem dX1_kindHasAct_9 : decode cX1_kindHasAct 9 = .ok (.iload_n 1, 1) := by decide +kernel
theorem dX1_kindHasAct_10 : decode cX1_kindHasAct 10 = .ok (.iload_n 3, 1) := by decide +kernel
theorem dX1_kindHasAct_11 : decode cX1_kindHasAct 11 = .ok (.invokevirtual 73, 3) := by decide +kernel
theorem dX1_kindHasAct_14 : decode cX1_kindHasAct 14 = .ok (.ifCond .eq 14, 3) := by decide +kernel
theorem dX1_kindHasAct_17 : decode cX1_kindHasAct 17 = .ok (.aload_n 0, 1) := by decide +kernel
theorem dX1_kindHasAct_18 : decode cX1_kindHasAct 18 = .ok (.iload_n 3, 1) := by decide +kernel
theorem dX1_kindHasAct_19 : decode cX1_kindHasAct 19 = .ok (.iload_n 2, 1) := by decide +kernel
theorem dX1_kindHasAct_20 : decode cX1_kindHasAct 20 = .ok (.invokevirtual 76, 3) := by decide +kernel
theorem dX1_kindHasAct_23 : decode cX1_kindHasAct 23 = .ok (.ifCond .eq 5, 3) := by decide +kernel
theorem dX1_kindHasAct_26 : decode cX1_kindHasAct 26 = .ok (.iconst 1, 1) := by decide +kernel
theorem dX1_kindHasAct_27 : decode cX1_kindHasAct 27 = .ok (.ireturn, 1) := by decide +kernel
theorem dX1_kindHasAct_28 : decode cX1_kindHasAct 28 = .ok (.iinc 3 1, 3) := by decide +kernel
theorem dX1_kindHasAct_31 : decode cX1_kindHasAct 31 = .ok (.goto (-29), 3) := by decide +kernel
theorem dX1_kindHasAct_34 : decode cX1_kindHasAct 34 = .ok (.iconst 0, 1) := by decide +kernel
theorem dX1_kindHasAct_35 : decode cX1_kindHasAct 35 = .ok (.ireturn, 1) := by decide +kernel
theorem dX2_init_0 : decode cX2_init 0 = .ok (.aload_n 0, 1) := by decide +kernel
theorem dX2_init_1 : decode cX2_init 1 = .ok (.invokespecial 1, 3) := by decide +kernel
theorem dX2_init_4 : decode cX2_init 4 = .ok (.aload_n 0, 1) := by decide +kernel
theorem dX2_init_5 : decode cX2_init 5 = .ok (.aload_n 1, 1) := by decide +kernel
theorem dX2_init_6 : decode cX2_init 6 = .ok (.putfield 7, 3) := by decide +kernel
theorem dX2_init_9 : decode cX2_init 9 = .ok (.return_, 1) := by decide +kernel
theorem dX3_init_0 : decode cX3_init 0 = .ok (.aload_n 0, 1) := by decide +kernel
theorem dX3_init_1 : decode cX3_init 1 = .ok (.invokespecial 3, 3) := by decide +kernel
theorem dX3_init_4 : decode cX3_init 4 = .ok (.aload_n 0, 1) := by decide +kernel
theorem dX3_init_5 : decode cX3_init 5 = .ok (.bipush 64, 2) := by decide +kernel
theorem dX3_init_7 : decode cX3_init 7 = .ok (.newarray .int, 2) := by decide +kernel
theorem dX3_init_9 : decode cX3_init 9 = .ok (.putfield 11, 3) := by decide +kernel
theorem dX3_init_12 : decode cX3_init 12 = .ok (.return_, 1) := by decide +kernel
theorem dX3_clear_0 : decode cX3_clear 0 = .ok (.aload_n 0, 1) := by decide +kernel
theorem dX3_clear_1 : decode cX3_clear 1 = .ok (.iconst 0, 1) := by decide +kernel
theorem dX3_clear_2 : decode cX3_clear 2 = .ok (.putfield 15, 3) := by decide +kernel
theorem dX3_clear_5 : decode cX3_clear 5 = .ok (.return_, 1) := by decide +kernel
theorem dX3_begin_0 : decode cX3_begin 0 = .ok (.aload_n 0, 1) := by decide +kernel
theorem dX3_begin_1 : decode cX3_begin 1 = .ok (.getfield 15, 3) := by decide +kernel
theorem dX3_begin_4 : decode cX3_begin 4 = .ok (.ifCond .lt 25, 3) := by decide +kernel
theorem dX3_begin_7 : decode cX3_begin 7 = .ok (.aload_n 0, 1) := by decide +kernel
theorem dX3_begin_8 : decode cX3_begin 8 = .ok (.getfield 15, 3) := by decide +kernel
theorem dX3_begin_11 : decode cX3_begin 11 = .ok (.aload_n 0, 1) := by decide +kernel
theorem dX3_begin_12 : decode cX3_begin 12 = .ok (.getfield 11, 3) := by decide +kernel
theorem dX3_begin_15 : decode cX3_begin 15 = .ok (.arraylength, 1) := by decide +kernel
theorem dX3_begin_16 : decode cX3_begin 16 = .ok (.if_icmp .ge 13, 3) := by decide +kernel
theorem dX3_begin_19 : decode cX3_begin 19 = .ok (.aload_n 0, 1) := by decide +kernel
theorem dX3_begin_20 : decode cX3_begin 20 = .ok (.getfield 11, 3) := by decide +kernel
theorem dX3_begin_23 : decode cX3_begin 23 = .ok (.aload_n 0, 1) := by decide +kernel
theorem dX3_begin_24 : decode cX3_begin 24 = .ok (.getfield 15, 3) := by decide +kernel
theorem dX3_begin_27 : decode cX3_begin 27 = .ok (.iload_n 1, 1) := by decide +kernel
theorem dX3_begin_28 : decode cX3_begin 28 = .ok (.iastore, 1) := by decide +kernel
theorem dX3_begin_29 : decode cX3_begin 29 = .ok (.aload_n 0, 1) := by decide +kernel
theorem dX3_begin_30 : decode cX3_begin 30 = .ok (.dup, 1) := by decide +kernel
theorem dX3_begin_31 : decode cX3_begin 31 = .ok (.getfield 15, 3) := by decide +kernel
theorem dX3_begin_34 : decode cX3_begin 34 = .ok (.iconst 1, 1) := by decide +kernel
theorem dX3_begin_35 : decode cX3_begin 35 = .ok (.iadd, 1) := by decide +kernel
theorem dX3_begin_36 : decode cX3_begin 36 = .ok (.putfield 15, 3) := by decide +kernel
theorem dX3_begin_39 : decode cX3_begin 39 = .ok (.return_, 1) := by decide +kernel
theorem dX3_keptAt_0 : decode cX3_keptAt 0 = .ok (.iload_n 1, 1) := by decide +kernel
theorem dX3_keptAt_1 : decode cX3_keptAt 1 = .ok (.ifCond .lt 29, 3) := by decide +kernel
theorem dX3_keptAt_4 : decode cX3_keptAt 4 = .ok (.iload_n 1, 1) := by decide +kernel
theorem dX3_keptAt_5 : decode cX3_keptAt 5 = .ok (.aload_n 0, 1) := by decide +kernel
theorem dX3_keptAt_6 : decode cX3_keptAt 6 = .ok (.getfield 15, 3) := by decide +kernel
theorem dX3_keptAt_9 : decode cX3_keptAt 9 = .ok (.if_icmp .ge 21, 3) := by decide +kernel
theorem dX3_keptAt_12 : decode cX3_keptAt 12 = .ok (.iload_n 1, 1) := by decide +kernel
theorem dX3_keptAt_13 : decode cX3_keptAt 13 = .ok (.aload_n 0, 1) := by decide +kernel
theorem dX3_keptAt_14 : decode cX3_keptAt 14 = .ok (.getfield 11, 3) := by decide +kernel
theorem dX3_keptAt_17 : decode cX3_keptAt 17 = .ok (.arraylength, 1) := by decide +kernel
theorem dX3_keptAt_18 : decode cX3_keptAt 18 = .ok (.if_icmp .ge 12, 3) := by decide +kernel
theorem dX3_keptAt_21 : decode cX3_keptAt 21 = .ok (.aload_n 0, 1) := by decide +kernel
theorem dX3_keptAt_22 : decode cX3_keptAt 22 = .ok (.getfield 11, 3) := by decide +kernel
theorem dX3_keptAt_25 : decode cX3_keptAt 25 = .ok (.iload_n 1, 1) := by decide +kernel
theorem dX3_keptAt_26 : decode cX3_keptAt 26 = .ok (.iaload, 1) := by decide +kernel
theorem dX3_keptAt_27 : decode cX3_keptAt 27 = .ok (.goto 4, 3) := by decide +kernel
theorem dX3_keptAt_30 : decode cX3_keptAt 30 = .ok (.iconst (-1), 1) := by decide +kernel
theorem dX3_keptAt_31 : decode cX3_keptAt 31 = .ok (.ireturn, 1) := by decide +kernel
theorem dX4_init_0 : decode cX4_init 0 = .ok (.aload_n 0, 1) := by decide +kernel
theorem dX4_init_1 : decode cX4_init 1 = .ok (.invokespecial 3, 3) := by decide +kernel
theorem dX4_init_4 : decode cX4_init 4 = .ok (.aload_n 0, 1) := by decide +kernel
theorem dX4_init_5 : decode cX4_init 5 = .ok (.new 9, 3) := by decide +kernel
theorem dX4_init_8 : decode cX4_init 8 = .ok (.dup, 1) := by decide +kernel
theorem dX4_init_9 : decode cX4_init 9 = .ok (.invokespecial 11, 3) := by decide +kernel
theorem dX4_init_12 : decode cX4_init 12 = .ok (.putfield 12, 3) := by decide +kernel
theorem dX4_init_15 : decode cX4_init 15 = .ok (.aload_n 0, 1) := by decide +kernel
theorem dX4_init_16 : decode cX4_init 16 = .ok (.new 16, 3) := by decide +kernel
theorem dX4_init_19 : decode cX4_init 19 = .ok (.dup, 1) := by decide +kernel
theorem dX4_init_20 : decode cX4_init 20 = .ok (.invokespecial 18, 3) := by decide +kernel
theorem dX4_init_23 : decode cX4_init 23 = .ok (.putfield 19, 3) := by decide +kernel
theorem dX4_init_26 : decode cX4_init 26 = .ok (.aload_n 0, 1) := by decide +kernel
theorem dX4_init_27 : decode cX4_init 27 = .ok (.sipush 300, 3) := by decide +kernel
theorem dX4_init_30 : decode cX4_init 30 = .ok (.anewarray 23, 3) := by decide +kernel
theorem dX4_init_33 : decode cX4_init 33 = .ok (.putfield 25, 3) := by decide +kernel
theorem dX4_init_36 : decode cX4_init 36 = .ok (.aload_n 0, 1) := by decide +kernel
theorem dX4_init_37 : decode cX4_init 37 = .ok (.sipush 300, 3) := by decide +kernel
theorem dX4_init_40 : decode cX4_init 40 = .ok (.anewarray 23, 3) := by decide +kernel
theorem dX4_init_43 : decode cX4_init 43 = .ok (.putfield 29, 3) := by decide +kernel
theorem dX4_init_46 : decode cX4_init 46 = .ok (.return_, 1) := by decide +kernel
theorem dX4_device_0 : decode cX4_device 0 = .ok (.iload_n 1, 1) := by decide +kernel
theorem dX4_device_1 : decode cX4_device 1 = .ok (.ifCond .lt 9, 3) := by decide +kernel
theorem dX4_device_4 : decode cX4_device 4 = .ok (.iload_n 1, 1) := by decide +kernel
theorem dX4_device_5 : decode cX4_device 5 = .ok (.bipush 11, 2) := by decide +kernel
theorem dX4_device_7 : decode cX4_device 7 = .ok (.if_icmp .lt 10, 3) := by decide +kernel
theorem dX4_device_10 : decode cX4_device 10 = .ok (.aload_n 0, 1) := by decide +kernel
theorem dX4_device_11 : decode cX4_device 11 = .ok (.iconst 1, 1) := by decide +kernel
theorem dX4_device_12 : decode cX4_device 12 = .ok (.putfield 32, 3) := by decide +kernel
theorem dX4_device_15 : decode cX4_device 15 = .ok (.iconst (-1), 1) := by decide +kernel
theorem dX4_device_16 : decode cX4_device 16 = .ok (.ireturn, 1) := by decide +kernel
theorem dX4_device_17 : decode cX4_device 17 = .ok (.aload_n 0, 1) := by decide +kernel
theorem dX4_device_18 : decode cX4_device 18 = .ok (.getfield 36, 3) := by decide +kernel
theorem dX4_device_21 : decode cX4_device 21 = .ok (.aload_n 0, 1) := by decide +kernel
theorem dX4_device_22 : decode cX4_device 22 = .ok (.getfield 25, 3) := by decide +kernel
theorem dX4_device_25 : decode cX4_device 25 = .ok (.arraylength, 1) := by decide +kernel
theorem dX4_device_26 : decode cX4_device 26 = .ok (.if_icmp .lt 10, 3) := by decide +kernel
theorem dX4_device_29 : decode cX4_device 29 = .ok (.aload_n 0, 1) := by decide +kernel
theorem dX4_device_30 : decode cX4_device 30 = .ok (.iconst 5, 1) := by decide +kernel
theorem dX4_device_31 : decode cX4_device 31 = .ok (.putfield 32, 3) := by decide +kernel
theorem dX4_device_34 : decode cX4_device 34 = .ok (.iconst (-1), 1) := by decide +kernel
theorem dX4_device_35 : decode cX4_device 35 = .ok (.ireturn, 1) := by decide +kernel
theorem dX4_device_36 : decode cX4_device 36 = .ok (.aload_n 0, 1) := by decide +kernel
theorem dX4_device_37 : decode cX4_device 37 = .ok (.iconst 0, 1) := by decide +kernel
theorem dX4_device_38 : decode cX4_device 38 = .ok (.putfield 32, 3) := by decide +kernel
theorem dX4_device_41 : decode cX4_device 41 = .ok (.aload_n 0, 1) := by decide +kernel
theorem dX4_device_42 : decode cX4_device 42 = .ok (.getfield 36, 3) := by decide +kernel
theorem dX4_device_45 : decode cX4_device 45 = .ok (.istore_n 3, 1) := by decide +kernel
theorem dX4_device_46 : decode cX4_device 46 = .ok (.aload_n 0, 1) := by decide +kernel
theorem dX4_device_47 : decode cX4_device 47 = .ok (.getfield 25, 3) := by decide +kernel
theorem dX4_device_50 : decode cX4_device 50 = .ok (.iload_n 3, 1) := by decide +kernel
theorem dX4_device_51 : decode cX4_device 51 = .ok (.new 23, 3) := by decide +kernel
theorem dX4_device_54 : decode cX4_device 54 = .ok (.dup, 1) := by decide +kernel
theorem dX4_device_55 : decode cX4_device 55 = .ok (.aload_n 0, 1) := by decide +kernel
theorem dX4_device_56 : decode cX4_device 56 = .ok (.getfield 12, 3) := by decide +kernel
theorem dX4_device_59 : decode cX4_device 59 = .ok (.aload_n 0, 1) := by decide +kernel
theorem dX4_device_60 : decode cX4_device 60 = .ok (.getfield 19, 3) := by decide +kernel
theorem dX4_device_63 : decode cX4_device 63 = .ok (.iload_n 1, 1) := by decide +kernel
theorem dX4_device_64 : decode cX4_device 64 = .ok (.iload_n 2, 1) := by decide +kernel
theorem dX4_device_65 : decode cX4_device 65 = .ok (.invokespecial 39, 3) := by decide +kernel
theorem dX4_device_68 : decode cX4_device 68 = .ok (.aastore, 1) := by decide +kernel
theorem dX4_device_69 : decode cX4_device 69 = .ok (.aload_n 0, 1) := by decide +kernel
theorem dX4_device_70 : decode cX4_device 70 = .ok (.dup, 1) := by decide +kernel
theorem dX4_device_71 : decode cX4_device 71 = .ok (.getfield 36, 3) := by decide +kernel
theorem dX4_device_74 : decode cX4_device 74 = .ok (.iconst 1, 1) := by decide +kernel
theorem dX4_device_75 : decode cX4_device 75 = .ok (.iadd, 1) := by decide +kernel
theorem dX4_device_76 : decode cX4_device 76 = .ok (.putfield 36, 3) := by decide +kernel
theorem dX4_device_79 : decode cX4_device 79 = .ok (.iload_n 3, 1) := by decide +kernel
theorem dX4_device_80 : decode cX4_device 80 = .ok (.ireturn, 1) := by decide +kernel
theorem dX4_call_0 : decode cX4_call 0 = .ok (.aload_n 0, 1) := by decide +kernel
theorem dX4_call_1 : decode cX4_call 1 = .ok (.iload_n 1, 1) := by decide +kernel
theorem dX4_call_2 : decode cX4_call 2 = .ok (.invokevirtual 42, 3) := by decide +kernel
theorem dX4_call_5 : decode cX4_call 5 = .ok (.astore 5, 2) := by decide +kernel
theorem dX4_call_7 : decode cX4_call 7 = .ok (.aload_n 0, 1) := by decide +kernel
theorem dX4_call_8 : decode cX4_call 8 = .ok (.aload 5, 2) := by decide +kernel
theorem dX4_call_10 : decode cX4_call 10 = .ok (.iload_n 2, 1) := by decide +kernel
theorem dX4_call_11 : decode cX4_call 11 = .ok (.iload_n 3, 1) := by decide +kernel
theorem dX4_call_12 : decode cX4_call 12 = .ok (.invokestatic 46, 3) := by decide +kernel
theorem dX4_call_15 : decode cX4_call 15 = .ok (.putfield 32, 3) := by decide +kernel
theorem dX4_call_18 : decode cX4_call 18 = .ok (.aload 5, 2) := by decide +kernel
theorem dX4_call_20 : decode cX4_call 20 = .ok (.ifnull 10, 3) := by decide +kernel
theorem dX4_call_23 : decode cX4_call 23 = .ok (.aload_n 0, 1) := by decide +kernel
theorem dX4_call_24 : decode cX4_call 24 = .ok (.getfield 32, 3) := by decide +kernel
theorem dX4_call_27 : decode cX4_call 27 = .ok (.ifCond .eq 5, 3) := by decide +kernel
theorem dX4_call_30 : decode cX4_call 30 = .ok (.iconst 0, 1) := by decide +kernel
theorem dX4_call_31 : decode cX4_call 31 = .ok (.ireturn, 1) := by decide +kernel
theorem dX4_call_32 : decode cX4_call 32 = .ok (.aload_n 0, 1) := by decide +kernel
theorem dX4_call_33 : decode cX4_call 33 = .ok (.getfield 19, 3) := by decide +kernel
theorem dX4_call_36 : decode cX4_call 36 = .ok (.invokevirtual 50, 3) := by decide +kernel
theorem dX4_call_39 : decode cX4_call 39 = .ok (.aload 5, 2) := by decide +kernel
theorem dX4_call_41 : decode cX4_call 41 = .ok (.iload_n 2, 1) := by decide +kernel
theorem dX4_call_42 : decode cX4_call 42 = .ok (.iload 4, 2) := by decide +kernel
theorem dX4_call_44 : decode cX4_call 44 = .ok (.invokevirtual 53, 3) := by decide +kernel
theorem dX4_call_47 : decode cX4_call 47 = .ok (.ireturn, 1) := by decide +kernel
theorem dX4_every_0 : decode cX4_every 0 = .ok (.aload_n 0, 1) := by decide +kernel
theorem dX4_every_1 : decode cX4_every 1 = .ok (.aload_n 0, 1) := by decide +kernel
theorem dX4_every_2 : decode cX4_every 2 = .ok (.iload_n 1, 1) := by decide +kernel
theorem dX4_every_3 : decode cX4_every 3 = .ok (.iload_n 2, 1) := by decide +kernel
theorem dX4_every_4 : decode cX4_every 4 = .ok (.invokevirtual 57, 3) := by decide +kernel
theorem dX4_every_7 : decode cX4_every 7 = .ok (.putfield 32, 3) := by decide +kernel
theorem dX4_every_10 : decode cX4_every 10 = .ok (.aload_n 0, 1) := by decide +kernel
theorem dX4_every_11 : decode cX4_every 11 = .ok (.getfield 32, 3) := by decide +kernel
theorem dX4_every_14 : decode cX4_every 14 = .ok (.ifCond .eq 5, 3) := by decide +kernel
theorem dX4_every_17 : decode cX4_every 17 = .ok (.iconst 0, 1) := by decide +kernel
theorem dX4_every_18 : decode cX4_every 18 = .ok (.ireturn, 1) := by decide +kernel
theorem dX4_every_19 : decode cX4_every 19 = .ok (.aload_n 0, 1) := by decide +kernel
theorem dX4_every_20 : decode cX4_every 20 = .ok (.getfield 19, 3) := by decide +kernel
theorem dX4_every_23 : decode cX4_every 23 = .ok (.invokevirtual 50, 3) := by decide +kernel
theorem dX4_every_26 : decode cX4_every 26 = .ok (.iconst 0, 1) := by decide +kernel
theorem dX4_every_27 : decode cX4_every 27 = .ok (.istore 4, 2) := by decide +kernel
theorem dX4_every_29 : decode cX4_every 29 = .ok (.iconst 0, 1) := by decide +kernel
theorem dX4_every_30 : decode cX4_every 30 = .ok (.istore 5, 2) := by decide +kernel
theorem dX4_every_32 : decode cX4_every 32 = .ok (.iload 5, 2) := by decide +kernel
theorem dX4_every_34 : decode cX4_every 34 = .ok (.aload_n 0, 1) := by decide +kernel
theorem dX4_every_35 : decode cX4_every 35 = .ok (.getfield 36, 3) := by decide +kernel
theorem dX4_every_38 : decode cX4_every 38 = .ok (.if_icmp .ge 44, 3) := by decide +kernel
theorem dX4_every_41 : decode cX4_every 41 = .ok (.aload_n 0, 1) := by decide +kernel
theorem dX4_every_42 : decode cX4_every 42 = .ok (.iload 5, 2) := by decide +kernel
theorem dX4_every_44 : decode cX4_every 44 = .ok (.invokevirtual 42, 3) := by decide +kernel
theorem dX4_every_47 : decode cX4_every 47 = .ok (.astore 6, 2) := by decide +kernel
theorem dX4_every_49 : decode cX4_every 49 = .ok (.aload 6, 2) := by decide +kernel
theorem dX4_every_51 : decode cX4_every 51 = .ok (.ifnull 25, 3) := by decide +kernel
theorem dX4_every_54 : decode cX4_every 54 = .ok (.aload 6, 2) := by decide +kernel
theorem dX4_every_56 : decode cX4_every 56 = .ok (.iload_n 1, 1) := by decide +kernel
theorem dX4_every_57 : decode cX4_every 57 = .ok (.iload_n 2, 1) := by decide +kernel
theorem dX4_every_58 : decode cX4_every 58 = .ok (.invokestatic 46, 3) := by decide +kernel
theorem dX4_every_61 : decode cX4_every 61 = .ok (.ifCond .ne 15, 3) := by decide +kernel
theorem dX4_every_64 : decode cX4_every 64 = .ok (.iload 4, 2) := by decide +kernel
theorem dX4_every_66 : decode cX4_every 66 = .ok (.aload 6, 2) := by decide +kernel
theorem dX4_every_68 : decode cX4_every 68 = .ok (.iload_n 1, 1) := by decide +kernel
theorem dX4_every_69 : decode cX4_every 69 = .ok (.iload_n 3, 1) := by decide +kernel
theorem dX4_every_70 : decode cX4_every 70 = .ok (.invokevirtual 53, 3) := by decide +kernel
theorem dX4_every_73 : decode cX4_every 73 = .ok (.iadd, 1) := by decide +kernel
theorem dX4_every_74 : decode cX4_every 74 = .ok (.istore 4, 2) := by decide +kernel
theorem dX4_every_76 : decode cX4_every 76 = .ok (.iinc 5 1, 3) := by decide +kernel
theorem dX4_every_79 : decode cX4_every 79 = .ok (.goto (-47), 3) := by decide +kernel
theorem dX4_every_82 : decode cX4_every 82 = .ok (.iload 4, 2) := by decide +kernel
theorem dX4_every_84 : decode cX4_every 84 = .ok (.ireturn, 1) := by decide +kernel
theorem dX4_feed_0 : decode cX4_feed 0 = .ok (.aload_n 0, 1) := by decide +kernel
theorem dX4_feed_1 : decode cX4_feed 1 = .ok (.iload_n 1, 1) := by decide +kernel
theorem dX4_feed_2 : decode cX4_feed 2 = .ok (.invokevirtual 42, 3) := by decide +kernel
theorem dX4_feed_5 : decode cX4_feed 5 = .ok (.astore_n 3, 1) := by decide +kernel
theorem dX4_feed_6 : decode cX4_feed 6 = .ok (.aload_n 3, 1) := by decide +kernel
theorem dX4_feed_7 : decode cX4_feed 7 = .ok (.ifnonnull 10, 3) := by decide +kernel
theorem dX4_feed_10 : decode cX4_feed 10 = .ok (.aload_n 0, 1) := by decide +kernel
theorem dX4_feed_11 : decode cX4_feed 11 = .ok (.iconst 1, 1) := by decide +kernel
theorem dX4_feed_12 : decode cX4_feed 12 = .ok (.putfield 32, 3) := by decide +kernel
theorem dX4_feed_15 : decode cX4_feed 15 = .ok (.iconst 0, 1) := by decide +kernel
theorem dX4_feed_16 : decode cX4_feed 16 = .ok (.ireturn, 1) := by decide +kernel
theorem dX4_feed_17 : decode cX4_feed 17 = .ok (.aload_n 0, 1) := by decide +kernel
theorem dX4_feed_18 : decode cX4_feed 18 = .ok (.iconst 0, 1) := by decide +kernel
theorem dX4_feed_19 : decode cX4_feed 19 = .ok (.putfield 32, 3) := by decide +kernel
theorem dX4_feed_22 : decode cX4_feed 22 = .ok (.aload_n 0, 1) := by decide +kernel
theorem dX4_feed_23 : decode cX4_feed 23 = .ok (.getfield 19, 3) := by decide +kernel
theorem dX4_feed_26 : decode cX4_feed 26 = .ok (.invokevirtual 50, 3) := by decide +kernel
theorem dX4_feed_29 : decode cX4_feed 29 = .ok (.iconst 0, 1) := by decide +kernel
theorem dX4_feed_30 : decode cX4_feed 30 = .ok (.istore 4, 2) := by decide +kernel
theorem dX4_feed_32 : decode cX4_feed 32 = .ok (.bipush 24, 2) := by decide +kernel
theorem dX4_feed_34 : decode cX4_feed 34 = .ok (.istore 5, 2) := by decide +kernel
theorem dX4_feed_36 : decode cX4_feed 36 = .ok (.iload 5, 2) := by decide +kernel
theorem dX4_feed_38 : decode cX4_feed 38 = .ok (.ifCond .lt 28, 3) := by decide +kernel
theorem dX4_feed_41 : decode cX4_feed 41 = .ok (.iload 4, 2) := by decide +kernel
theorem dX4_feed_43 : decode cX4_feed 43 = .ok (.aload_n 3, 1) := by decide +kernel
theorem dX4_feed_44 : decode cX4_feed 44 = .ok (.iload_n 2, 1) := by decide +kernel
theorem dX4_feed_45 : decode cX4_feed 45 = .ok (.iload 5, 2) := by decide +kernel
theorem dX4_feed_47 : decode cX4_feed 47 = .ok (.iushr, 1) := by decide +kernel
theorem dX4_feed_48 : decode cX4_feed 48 = .ok (.sipush 255, 3) := by decide +kernel
theorem dX4_feed_51 : decode cX4_feed 51 = .ok (.iand, 1) := by decide +kernel
theorem dX4_feed_52 : decode cX4_feed 52 = .ok (.iload 4, 2) := by decide +kernel
theorem dX4_feed_54 : decode cX4_feed 54 = .ok (.invokestatic 60, 3) := by decide +kernel
theorem dX4_feed_57 : decode cX4_feed 57 = .ok (.iadd, 1) := by decide +kernel
theorem dX4_feed_58 : decode cX4_feed 58 = .ok (.istore 4, 2) := by decide +kernel
theorem dX4_feed_60 : decode cX4_feed 60 = .ok (.iinc 5 (-8), 3) := by decide +kernel
theorem dX4_feed_63 : decode cX4_feed 63 = .ok (.goto (-27), 3) := by decide +kernel
theorem dX4_feed_66 : decode cX4_feed 66 = .ok (.iload 4, 2) := by decide +kernel
theorem dX4_feed_68 : decode cX4_feed 68 = .ok (.ireturn, 1) := by decide +kernel
theorem dX4_link_0 : decode cX4_link 0 = .ok (.aload_n 0, 1) := by decide +kernel
theorem dX4_link_1 : decode cX4_link 1 = .ok (.iload_n 1, 1) := by decide +kernel
theorem dX4_link_2 : decode cX4_link 2 = .ok (.invokevirtual 42, 3) := by decide +kernel
theorem dX4_link_5 : decode cX4_link 5 = .ok (.astore_n 3, 1) := by decide +kernel
theorem dX4_link_6 : decode cX4_link 6 = .ok (.aload_n 0, 1) := by decide +kernel
theorem dX4_link_7 : decode cX4_link 7 = .ok (.iload_n 2, 1) := by decide +kernel
theorem dX4_link_8 : decode cX4_link 8 = .ok (.invokevirtual 42, 3) := by decide +kernel
theorem dX4_link_11 : decode cX4_link 11 = .ok (.astore 4, 2) := by decide +kernel
theorem dX4_link_13 : decode cX4_link 13 = .ok (.aload_n 3, 1) := by decide +kernel
theorem dX4_link_14 : decode cX4_link 14 = .ok (.ifnull 8, 3) := by decide +kernel
theorem dX4_link_17 : decode cX4_link 17 = .ok (.aload 4, 2) := by decide +kernel
theorem dX4_link_19 : decode cX4_link 19 = .ok (.ifnonnull 10, 3) := by decide +kernel
theorem dX4_link_22 : decode cX4_link 22 = .ok (.aload_n 0, 1) := by decide +kernel
theorem dX4_link_23 : decode cX4_link 23 = .ok (.iconst 1, 1) := by decide +kernel
theorem dX4_link_24 : decode cX4_link 24 = .ok (.putfield 32, 3) := by decide +kernel
theorem dX4_link_27 : decode cX4_link 27 = .ok (.iconst (-1), 1) := by decide +kernel
theorem dX4_link_28 : decode cX4_link 28 = .ok (.ireturn, 1) := by decide +kernel
theorem dX4_link_29 : decode cX4_link 29 = .ok (.aload_n 0, 1) := by decide +kernel
theorem dX4_link_30 : decode cX4_link 30 = .ok (.getfield 63, 3) := by decide +kernel
theorem dX4_link_33 : decode cX4_link 33 = .ok (.sipush 400, 3) := by decide +kernel
theorem dX4_link_36 : decode cX4_link 36 = .ok (.if_icmp .lt 10, 3) := by decide +kernel
theorem dX4_link_39 : decode cX4_link 39 = .ok (.aload_n 0, 1) := by decide +kernel
theorem dX4_link_40 : decode cX4_link 40 = .ok (.iconst 5, 1) := by decide +kernel
theorem dX4_link_41 : decode cX4_link 41 = .ok (.putfield 32, 3) := by decide +kernel
theorem dX4_link_44 : decode cX4_link 44 = .ok (.iconst (-1), 1) := by decide +kernel
theorem dX4_link_45 : decode cX4_link 45 = .ok (.ireturn, 1) := by decide +kernel
theorem dX4_link_46 : decode cX4_link 46 = .ok (.aload_n 0, 1) := by decide +kernel
theorem dX4_link_47 : decode cX4_link 47 = .ok (.iconst 0, 1) := by decide +kernel
theorem dX4_link_48 : decode cX4_link 48 = .ok (.putfield 32, 3) := by decide +kernel
theorem dX4_link_51 : decode cX4_link 51 = .ok (.aload_n 3, 1) := by decide +kernel
theorem dX4_link_52 : decode cX4_link 52 = .ok (.new 66, 3) := by decide +kernel
theorem dX4_link_55 : decode cX4_link 55 = .ok (.dup, 1) := by decide +kernel
theorem dX4_link_56 : decode cX4_link 56 = .ok (.aload 4, 2) := by decide +kernel
theorem dX4_link_58 : decode cX4_link 58 = .ok (.invokespecial 68, 3) := by decide +kernel
theorem dX4_link_61 : decode cX4_link 61 = .ok (.invokevirtual 71, 3) := by decide +kernel
theorem dX4_link_64 : decode cX4_link 64 = .ok (.aload 4, 2) := by decide +kernel
theorem dX4_link_66 : decode cX4_link 66 = .ok (.dup, 1) := by decide +kernel
theorem dX4_link_67 : decode cX4_link 67 = .ok (.getfield 75, 3) := by decide +kernel
theorem dX4_link_70 : decode cX4_link 70 = .ok (.iconst 1, 1) := by decide +kernel
theorem dX4_link_71 : decode cX4_link 71 = .ok (.iadd, 1) := by decide +kernel
theorem dX4_link_72 : decode cX4_link 72 = .ok (.putfield 75, 3) := by decide +kernel
theorem dX4_link_75 : decode cX4_link 75 = .ok (.aload_n 0, 1) := by decide +kernel
theorem dX4_link_76 : decode cX4_link 76 = .ok (.getfield 63, 3) := by decide +kernel
theorem dX4_link_79 : decode cX4_link 79 = .ok (.istore 5, 2) := by decide +kernel
theorem dX4_link_81 : decode cX4_link 81 = .ok (.aload_n 0, 1) := by decide +kernel
theorem dX4_link_82 : decode cX4_link 82 = .ok (.dup, 1) := by decide +kernel
theorem dX4_link_83 : decode cX4_link 83 = .ok (.getfield 63, 3) := by decide +kernel
theorem dX4_link_86 : decode cX4_link 86 = .ok (.iconst 1, 1) := by decide +kernel
theorem dX4_link_87 : decode cX4_link 87 = .ok (.iadd, 1) := by decide +kernel
theorem dX4_link_88 : decode cX4_link 88 = .ok (.putfield 63, 3) := by decide +kernel
theorem dX4_link_91 : decode cX4_link 91 = .ok (.iload 5, 2) := by decide +kernel
theorem dX4_link_93 : decode cX4_link 93 = .ok (.ireturn, 1) := by decide +kernel
theorem dX4_pass_0 : decode cX4_pass 0 = .ok (.aload_n 0, 1) := by decide +kernel
theorem dX4_pass_1 : decode cX4_pass 1 = .ok (.iload_n 1, 1) := by decide +kernel
theorem dX4_pass_2 : decode cX4_pass 2 = .ok (.invokevirtual 42, 3) := by decide +kernel
theorem dX4_pass_5 : decode cX4_pass 5 = .ok (.astore_n 3, 1) := by decide +kernel
theorem dX4_pass_6 : decode cX4_pass 6 = .ok (.aload_n 3, 1) := by decide +kernel
theorem dX4_pass_7 : decode cX4_pass 7 = .ok (.ifnonnull 10, 3) := by decide +kernel
theorem dX4_pass_10 : decode cX4_pass 10 = .ok (.aload_n 0, 1) := by decide +kernel
theorem dX4_pass_11 : decode cX4_pass 11 = .ok (.iconst 1, 1) := by decide +kernel
theorem dX4_pass_12 : decode cX4_pass 12 = .ok (.putfield 32, 3) := by decide +kernel
theorem dX4_pass_15 : decode cX4_pass 15 = .ok (.iconst 0, 1) := by decide +kernel
theorem dX4_pass_16 : decode cX4_pass 16 = .ok (.ireturn, 1) := by decide +kernel
theorem dX4_pass_17 : decode cX4_pass 17 = .ok (.aload_n 0, 1) := by decide +kernel
theorem dX4_pass_18 : decode cX4_pass 18 = .ok (.iconst 0, 1) := by decide +kernel
theorem dX4_pass_19 : decode cX4_pass 19 = .ok (.putfield 32, 3) := by decide +kernel
theorem dX4_pass_22 : decode cX4_pass 22 = .ok (.aload_n 0, 1) := by decide +kernel
theorem dX4_pass_23 : decode cX4_pass 23 = .ok (.getfield 19, 3) := by decide +kernel
theorem dX4_pass_26 : decode cX4_pass 26 = .ok (.invokevirtual 50, 3) := by decide +kernel
theorem dX4_pass_29 : decode cX4_pass 29 = .ok (.aload_n 0, 1) := by decide +kernel
theorem dX4_pass_30 : decode cX4_pass 30 = .ok (.dup, 1) := by decide +kernel
theorem dX4_pass_31 : decode cX4_pass 31 = .ok (.getfield 78, 3) := by decide +kernel
theorem dX4_pass_34 : decode cX4_pass 34 = .ok (.iconst 1, 1) := by decide +kernel
theorem dX4_pass_35 : decode cX4_pass 35 = .ok (.iadd, 1) := by decide +kernel
theorem dX4_pass_36 : decode cX4_pass 36 = .ok (.putfield 78, 3) := by decide +kernel
theorem dX4_pass_39 : decode cX4_pass 39 = .ok (.aload_n 0, 1) := by decide +kernel
theorem dX4_pass_40 : decode cX4_pass 40 = .ok (.iconst 0, 1) := by decide +kernel
theorem dX4_pass_41 : decode cX4_pass 41 = .ok (.putfield 81, 3) := by decide +kernel
theorem dX4_pass_44 : decode cX4_pass 44 = .ok (.aload_n 0, 1) := by decide +kernel
theorem dX4_pass_45 : decode cX4_pass 45 = .ok (.aload_n 3, 1) := by decide +kernel
theorem dX4_pass_46 : decode cX4_pass 46 = .ok (.iload_n 2, 1) := by decide +kernel
theorem dX4_pass_47 : decode cX4_pass 47 = .ok (.invokevirtual 84, 3) := by decide +kernel
theorem dX4_pass_50 : decode cX4_pass 50 = .ok (.iconst 0, 1) := by decide +kernel
theorem dX4_pass_51 : decode cX4_pass 51 = .ok (.istore 4, 2) := by decide +kernel
theorem dX4_pass_53 : decode cX4_pass 53 = .ok (.iload 4, 2) := by decide +kernel
theorem dX4_pass_55 : decode cX4_pass 55 = .ok (.aload_n 0, 1) := by decide +kernel
theorem dX4_pass_56 : decode cX4_pass 56 = .ok (.getfield 81, 3) := by decide +kernel
theorem dX4_pass_59 : decode cX4_pass 59 = .ok (.if_icmp .ge 39, 3) := by decide +kernel
theorem dX4_pass_62 : decode cX4_pass 62 = .ok (.iload 4, 2) := by decide +kernel
theorem dX4_pass_64 : decode cX4_pass 64 = .ok (.aload_n 0, 1) := by decide +kernel
theorem dX4_pass_65 : decode cX4_pass 65 = .ok (.getfield 29, 3) := by decide +kernel
theorem dX4_pass_68 : decode cX4_pass 68 = .ok (.arraylength, 1) := by decide +kernel
theorem dX4_pass_69 : decode cX4_pass 69 = .ok (.if_icmp .ge 29, 3) := by decide +kernel
theorem dX4_pass_72 : decode cX4_pass 72 = .ok (.aload_n 0, 1) := by decide +kernel
theorem dX4_pass_73 : decode cX4_pass 73 = .ok (.getfield 29, 3) := by decide +kernel
theorem dX4_pass_76 : decode cX4_pass 76 = .ok (.iload 4, 2) := by decide +kernel
theorem dX4_pass_78 : decode cX4_pass 78 = .ok (.aaload, 1) := by decide +kernel
theorem dX4_pass_79 : decode cX4_pass 79 = .ok (.astore 5, 2) := by decide +kernel
theorem dX4_pass_81 : decode cX4_pass 81 = .ok (.aload 5, 2) := by decide +kernel
theorem dX4_pass_83 : decode cX4_pass 83 = .ok (.ifnull 9, 3) := by decide +kernel
theorem dX4_pass_86 : decode cX4_pass 86 = .ok (.aload_n 0, 1) := by decide +kernel
theorem dX4_pass_87 : decode cX4_pass 87 = .ok (.aload 5, 2) := by decide +kernel
theorem dX4_pass_89 : decode cX4_pass 89 = .ok (.invokevirtual 88, 3) := by decide +kernel
theorem dX4_pass_92 : decode cX4_pass 92 = .ok (.iinc 4 1, 3) := by decide +kernel
theorem dX4_pass_95 : decode cX4_pass 95 = .ok (.goto (-42), 3) := by decide +kernel
theorem dX4_pass_98 : decode cX4_pass 98 = .ok (.aload_n 0, 1) := by decide +kernel
theorem dX4_pass_99 : decode cX4_pass 99 = .ok (.getfield 81, 3) := by decide +kernel
theorem dX4_pass_102 : decode cX4_pass 102 = .ok (.ireturn, 1) := by decide +kernel
theorem dX4_able_0 : decode cX4_able 0 = .ok (.aload_n 0, 1) := by decide +kernel
theorem dX4_able_1 : decode cX4_able 1 = .ok (.iload_n 1, 1) := by decide +kernel
theorem dX4_able_2 : decode cX4_able 2 = .ok (.invokevirtual 42, 3) := by decide +kernel
theorem dX4_able_5 : decode cX4_able 5 = .ok (.astore_n 3, 1) := by decide +kernel
theorem dX4_able_6 : decode cX4_able 6 = .ok (.aload_n 3, 1) := by decide +kernel
theorem dX4_able_7 : decode cX4_able 7 = .ok (.ifnull 10, 3) := by decide +kernel
theorem dX4_able_10 : decode cX4_able 10 = .ok (.iload_n 2, 1) := by decide +kernel
theorem dX4_able_11 : decode cX4_able 11 = .ok (.invokestatic 91, 3) := by decide +kernel
theorem dX4_able_14 : decode cX4_able 14 = .ok (.ifCond .ne 5, 3) := by decide +kernel
theorem dX4_able_17 : decode cX4_able 17 = .ok (.iconst (-1), 1) := by decide +kernel
theorem dX4_able_18 : decode cX4_able 18 = .ok (.ireturn, 1) := by decide +kernel
theorem dX4_able_19 : decode cX4_able 19 = .ok (.aload_n 3, 1) := by decide +kernel
theorem dX4_able_20 : decode cX4_able 20 = .ok (.iload_n 2, 1) := by decide +kernel
theorem dX4_able_21 : decode cX4_able 21 = .ok (.invokevirtual 95, 3) := by decide +kernel
theorem dX4_able_24 : decode cX4_able 24 = .ok (.ifCond .eq 7, 3) := by decide +kernel
theorem dX4_able_27 : decode cX4_able 27 = .ok (.iconst 1, 1) := by decide +kernel
theorem dX4_able_28 : decode cX4_able 28 = .ok (.goto 4, 3) := by decide +kernel
theorem dX4_able_31 : decode cX4_able 31 = .ok (.iconst 0, 1) := by decide +kernel
theorem dX4_able_32 : decode cX4_able 32 = .ok (.ireturn, 1) := by decide +kernel
theorem dX4_chain_0 : decode cX4_chain 0 = .ok (.aload_n 0, 1) := by decide +kernel
theorem dX4_chain_1 : decode cX4_chain 1 = .ok (.getfield 19, 3) := by decide +kernel
theorem dX4_chain_4 : decode cX4_chain 4 = .ok (.iload_n 1, 1) := by decide +kernel
theorem dX4_chain_5 : decode cX4_chain 5 = .ok (.invokevirtual 98, 3) := by decide +kernel
theorem dX4_chain_8 : decode cX4_chain 8 = .ok (.ireturn, 1) := by decide +kernel
theorem dX4_ran_0 : decode cX4_ran 0 = .ok (.aload_n 0, 1) := by decide +kernel
theorem dX4_ran_1 : decode cX4_ran 1 = .ok (.getfield 19, 3) := by decide +kernel
theorem dX4_ran_4 : decode cX4_ran 4 = .ok (.getfield 102, 3) := by decide +kernel
theorem dX4_ran_7 : decode cX4_ran 7 = .ok (.ireturn, 1) := by decide +kernel
theorem dX4_state_0 : decode cX4_state 0 = .ok (.aload_n 0, 1) := by decide +kernel
theorem dX4_state_1 : decode cX4_state 1 = .ok (.iload_n 1, 1) := by decide +kernel
theorem dX4_state_2 : decode cX4_state 2 = .ok (.invokevirtual 42, 3) := by decide +kernel
theorem dX4_state_5 : decode cX4_state 5 = .ok (.astore_n 3, 1) := by decide +kernel
theorem dX4_state_6 : decode cX4_state 6 = .ok (.aload_n 3, 1) := by decide +kernel
theorem dX4_state_7 : decode cX4_state 7 = .ok (.ifnull 13, 3) := by decide +kernel
theorem dX4_state_10 : decode cX4_state 10 = .ok (.iload_n 2, 1) := by decide +kernel
theorem dX4_state_11 : decode cX4_state 11 = .ok (.ifCond .lt 9, 3) := by decide +kernel
theorem dX4_state_14 : decode cX4_state 14 = .ok (.iload_n 2, 1) := by decide +kernel
theorem dX4_state_15 : decode cX4_state 15 = .ok (.bipush 6, 2) := by decide +kernel
theorem dX4_state_17 : decode cX4_state 17 = .ok (.if_icmp .lt 10, 3) := by decide +kernel
theorem dX4_state_20 : decode cX4_state 20 = .ok (.aload_n 0, 1) := by decide +kernel
theorem dX4_state_21 : decode cX4_state 21 = .ok (.iconst 1, 1) := by decide +kernel
theorem dX4_state_22 : decode cX4_state 22 = .ok (.putfield 32, 3) := by decide +kernel
theorem dX4_state_25 : decode cX4_state 25 = .ok (.iconst 0, 1) := by decide +kernel
theorem dX4_state_26 : decode cX4_state 26 = .ok (.ireturn, 1) := by decide +kernel
theorem dX4_state_27 : decode cX4_state 27 = .ok (.aload_n 0, 1) := by decide +kernel
theorem dX4_state_28 : decode cX4_state 28 = .ok (.iconst 0, 1) := by decide +kernel
theorem dX4_state_29 : decode cX4_state 29 = .ok (.putfield 32, 3) := by decide +kernel
theorem dX4_state_32 : decode cX4_state 32 = .ok (.aload_n 3, 1) := by decide +kernel
theorem dX4_state_33 : decode cX4_state 33 = .ok (.iload_n 2, 1) := by decide +kernel
theorem dX4_state_34 : decode cX4_state 34 = .ok (.invokevirtual 105, 3) := by decide +kernel
theorem dX4_state_37 : decode cX4_state 37 = .ok (.ireturn, 1) := by decide +kernel
theorem dX4_size_0 : decode cX4_size 0 = .ok (.iload_n 1, 1) := by decide +kernel
theorem dX4_size_1 : decode cX4_size 1 = .ok (.ifCond .ne 8, 3) := by decide +kernel
theorem dX4_size_4 : decode cX4_size 4 = .ok (.aload_n 0, 1) := by decide +kernel
theorem dX4_size_5 : decode cX4_size 5 = .ok (.getfield 36, 3) := by decide +kernel
theorem dX4_size_8 : decode cX4_size 8 = .ok (.ireturn, 1) := by decide +kernel
theorem dX4_size_9 : decode cX4_size 9 = .ok (.iload_n 1, 1) := by decide +kernel
theorem dX4_size_10 : decode cX4_size 10 = .ok (.iconst 1, 1) := by decide +kernel
theorem dX4_size_11 : decode cX4_size 11 = .ok (.if_icmp .ne 8, 3) := by decide +kernel
theorem dX4_size_14 : decode cX4_size 14 = .ok (.aload_n 0, 1) := by decide +kernel
theorem dX4_size_15 : decode cX4_size 15 = .ok (.getfield 63, 3) := by decide +kernel
theorem dX4_size_18 : decode cX4_size 18 = .ok (.ireturn, 1) := by decide +kernel
theorem dX4_size_19 : decode cX4_size 19 = .ok (.iload_n 1, 1) := by decide +kernel
theorem dX4_size_20 : decode cX4_size 20 = .ok (.iconst 2, 1) := by decide +kernel
theorem dX4_size_21 : decode cX4_size 21 = .ok (.if_icmp .lt 9, 3) := by decide +kernel
theorem dX4_size_24 : decode cX4_size 24 = .ok (.iload_n 1, 1) := by decide +kernel
theorem dX4_size_25 : decode cX4_size 25 = .ok (.bipush 6, 2) := by decide +kernel
theorem dX4_size_27 : decode cX4_size 27 = .ok (.if_icmp .le 5, 3) := by decide +kernel
theorem dX4_size_30 : decode cX4_size 30 = .ok (.iconst (-1), 1) := by decide +kernel
theorem dX4_size_31 : decode cX4_size 31 = .ok (.ireturn, 1) := by decide +kernel
theorem dX4_size_32 : decode cX4_size 32 = .ok (.aload_n 0, 1) := by decide +kernel
theorem dX4_size_33 : decode cX4_size 33 = .ok (.iload_n 1, 1) := by decide +kernel
theorem dX4_size_34 : decode cX4_size 34 = .ok (.invokevirtual 108, 3) := by decide +kernel
theorem dX4_size_37 : decode cX4_size 37 = .ok (.ireturn, 1) := by decide +kernel
theorem dX4_status_0 : decode cX4_status 0 = .ok (.aload_n 0, 1) := by decide +kernel
theorem dX4_status_1 : decode cX4_status 1 = .ok (.getfield 32, 3) := by decide +kernel
theorem dX4_status_4 : decode cX4_status 4 = .ok (.ireturn, 1) := by decide +kernel
theorem dX4_isAct_0 : decode cX4_isAct 0 = .ok (.iload_n 0, 1) := by decide +kernel
theorem dX4_isAct_1 : decode cX4_isAct 1 = .ok (.ifCond .lt 13, 3) := by decide +kernel
theorem dX4_isAct_4 : decode cX4_isAct 4 = .ok (.iload_n 0, 1) := by decide +kernel
theorem dX4_isAct_5 : decode cX4_isAct 5 = .ok (.bipush 12, 2) := by decide +kernel
theorem dX4_isAct_7 : decode cX4_isAct 7 = .ok (.if_icmp .ge 7, 3) := by decide +kernel
theorem dX4_isAct_10 : decode cX4_isAct 10 = .ok (.iconst 1, 1) := by decide +kernel
theorem dX4_isAct_11 : decode cX4_isAct 11 = .ok (.goto 4, 3) := by decide +kernel
theorem dX4_isAct_14 : decode cX4_isAct 14 = .ok (.iconst 0, 1) := by decide +kernel
theorem dX4_isAct_15 : decode cX4_isAct 15 = .ok (.ireturn, 1) := by decide +kernel
theorem dX4_isWay_0 : decode cX4_isWay 0 = .ok (.iload_n 0, 1) := by decide +kernel
theorem dX4_isWay_1 : decode cX4_isWay 1 = .ok (.ifCond .lt 13, 3) := by decide +kernel
theorem dX4_isWay_4 : decode cX4_isWay 4 = .ok (.iload_n 0, 1) := by decide +kernel
theorem dX4_isWay_5 : decode cX4_isWay 5 = .ok (.bipush 7, 2) := by decide +kernel
theorem dX4_isWay_7 : decode cX4_isWay 7 = .ok (.if_icmp .ge 7, 3) := by decide +kernel
theorem dX4_isWay_10 : decode cX4_isWay 10 = .ok (.iconst 1, 1) := by decide +kernel
theorem dX4_isWay_11 : decode cX4_isWay 11 = .ok (.goto 4, 3) := by decide +kernel
theorem dX4_isWay_14 : decode cX4_isWay 14 = .ok (.iconst 0, 1) := by decide +kernel
theorem dX4_isWay_15 : decode cX4_isWay 15 = .ok (.ireturn, 1) := by decide +kernel
theorem dX4_find_0 : decode cX4_find 0 = .ok (.iload_n 1, 1) := by decide +kernel
theorem dX4_find_1 : decode cX4_find 1 = .ok (.ifCond .lt 29, 3) := by decide +kernel
theorem dX4_find_4 : decode cX4_find 4 = .ok (.iload_n 1, 1) := by decide +kernel
theorem dX4_find_5 : decode cX4_find 5 = .ok (.aload_n 0, 1) := by decide +kernel
theorem dX4_find_6 : decode cX4_find 6 = .ok (.getfield 36, 3) := by decide +kernel
theorem dX4_find_9 : decode cX4_find 9 = .ok (.if_icmp .ge 21, 3) := by decide +kernel
theorem dX4_find_12 : decode cX4_find 12 = .ok (.iload_n 1, 1) := by decide +kernel
theorem dX4_find_13 : decode cX4_find 13 = .ok (.aload_n 0, 1) := by decide +kernel
theorem dX4_find_14 : decode cX4_find 14 = .ok (.getfield 25, 3) := by decide +kernel
theorem dX4_find_17 : decode cX4_find 17 = .ok (.arraylength, 1) := by decide +kernel
theorem dX4_find_18 : decode cX4_find 18 = .ok (.if_icmp .ge 12, 3) := by decide +kernel
theorem dX4_find_21 : decode cX4_find 21 = .ok (.aload_n 0, 1) := by decide +kernel
theorem dX4_find_22 : decode cX4_find 22 = .ok (.getfield 25, 3) := by decide +kernel
theorem dX4_find_25 : decode cX4_find 25 = .ok (.iload_n 1, 1) := by decide +kernel
theorem dX4_find_26 : decode cX4_find 26 = .ok (.aaload, 1) := by decide +kernel
theorem dX4_find_27 : decode cX4_find 27 = .ok (.goto 4, 3) := by decide +kernel
theorem dX4_find_30 : decode cX4_find 30 = .ok (.aconst_null, 1) := by decide +kernel
theorem dX4_find_31 : decode cX4_find 31 = .ok (.areturn, 1) := by decide +kernel
theorem dX4_refusal_0 : decode cX4_refusal 0 = .ok (.aload_n 0, 1) := by decide +kernel
theorem dX4_refusal_1 : decode cX4_refusal 1 = .ok (.ifnull 17, 3) := by decide +kernel
theorem dX4_refusal_4 : decode cX4_refusal 4 = .ok (.iload_n 1, 1) := by decide +kernel
theorem dX4_refusal_5 : decode cX4_refusal 5 = .ok (.invokestatic 111, 3) := by decide +kernel
theorem dX4_refusal_8 : decode cX4_refusal 8 = .ok (.ifCond .eq 10, 3) := by decide +kernel
theorem dX4_refusal_11 : decode cX4_refusal 11 = .ok (.iload_n 2, 1) := by decide +kernel
theorem dX4_refusal_12 : decode cX4_refusal 12 = .ok (.invokestatic 91, 3) := by decide +kernel
theorem dX4_refusal_15 : decode cX4_refusal 15 = .ok (.ifCond .ne 5, 3) := by decide +kernel
theorem dX4_refusal_18 : decode cX4_refusal 18 = .ok (.iconst 1, 1) := by decide +kernel
theorem dX4_refusal_19 : decode cX4_refusal 19 = .ok (.ireturn, 1) := by decide +kernel
theorem dX4_refusal_20 : decode cX4_refusal 20 = .ok (.aload_n 0, 1) := by decide +kernel
theorem dX4_refusal_21 : decode cX4_refusal 21 = .ok (.iload_n 2, 1) := by decide +kernel
theorem dX4_refusal_22 : decode cX4_refusal 22 = .ok (.invokevirtual 95, 3) := by decide +kernel
theorem dX4_refusal_25 : decode cX4_refusal 25 = .ok (.ifCond .ne 5, 3) := by decide +kernel
theorem dX4_refusal_28 : decode cX4_refusal 28 = .ok (.iconst 2, 1) := by decide +kernel
theorem dX4_refusal_29 : decode cX4_refusal 29 = .ok (.ireturn, 1) := by decide +kernel
theorem dX4_refusal_30 : decode cX4_refusal 30 = .ok (.aload_n 0, 1) := by decide +kernel
theorem dX4_refusal_31 : decode cX4_refusal 31 = .ok (.iload_n 2, 1) := by decide +kernel
theorem dX4_refusal_32 : decode cX4_refusal 32 = .ok (.iload_n 1, 1) := by decide +kernel
theorem dX4_refusal_33 : decode cX4_refusal 33 = .ok (.invokevirtual 114, 3) := by decide +kernel
theorem dX4_refusal_36 : decode cX4_refusal 36 = .ok (.ifCond .eq 7, 3) := by decide +kernel
theorem dX4_refusal_39 : decode cX4_refusal 39 = .ok (.iconst 0, 1) := by decide +kernel
theorem dX4_refusal_40 : decode cX4_refusal 40 = .ok (.goto 4, 3) := by decide +kernel
theorem dX4_refusal_43 : decode cX4_refusal 43 = .ok (.iconst 3, 1) := by decide +kernel
theorem dX4_refusal_44 : decode cX4_refusal 44 = .ok (.ireturn, 1) := by decide +kernel
theorem dX4_refusalOfAll_0 : decode cX4_refusalOfAll 0 = .ok (.iload_n 1, 1) := by decide +kernel
theorem dX4_refusalOfAll_1 : decode cX4_refusalOfAll 1 = .ok (.invokestatic 111, 3) := by decide +kernel
theorem dX4_refusalOfAll_4 : decode cX4_refusalOfAll 4 = .ok (.ifCond .eq 10, 3) := by decide +kernel
theorem dX4_refusalOfAll_7 : decode cX4_refusalOfAll 7 = .ok (.iload_n 2, 1) := by decide +kernel
theorem dX4_refusalOfAll_8 : decode cX4_refusalOfAll 8 = .ok (.invokestatic 91, 3) := by decide +kernel
theorem dX4_refusalOfAll_11 : decode cX4_refusalOfAll 11 = .ok (.ifCond .ne 5, 3) := by decide +kernel
theorem dX4_refusalOfAll_14 : decode cX4_refusalOfAll 14 = .ok (.iconst 1, 1) := by decide +kernel
theorem dX4_refusalOfAll_15 : decode cX4_refusalOfAll 15 = .ok (.ireturn, 1) := by decide +kernel
theorem dX4_refusalOfAll_16 : decode cX4_refusalOfAll 16 = .ok (.iload_n 2, 1) := by decide +kernel
theorem dX4_refusalOfAll_17 : decode cX4_refusalOfAll 17 = .ok (.ifCond .eq 15, 3) := by decide +kernel
theorem dX4_refusalOfAll_20 : decode cX4_refusalOfAll 20 = .ok (.aload_n 0, 1) := by decide +kernel
theorem dX4_refusalOfAll_21 : decode cX4_refusalOfAll 21 = .ok (.getfield 12, 3) := by decide +kernel
theorem dX4_refusalOfAll_24 : decode cX4_refusalOfAll 24 = .ok (.iload_n 2, 1) := by decide +kernel
theorem dX4_refusalOfAll_25 : decode cX4_refusalOfAll 25 = .ok (.iload_n 1, 1) := by decide +kernel
theorem dX4_refusalOfAll_26 : decode cX4_refusalOfAll 26 = .ok (.invokevirtual 118, 3) := by decide +kernel
theorem dX4_refusalOfAll_29 : decode cX4_refusalOfAll 29 = .ok (.ifCond .eq 7, 3) := by decide +kernel
theorem dX4_refusalOfAll_32 : decode cX4_refusalOfAll 32 = .ok (.iconst 0, 1) := by decide +kernel
theorem dX4_refusalOfAll_33 : decode cX4_refusalOfAll 33 = .ok (.goto 4, 3) := by decide +kernel
theorem dX4_refusalOfAll_36 : decode cX4_refusalOfAll 36 = .ok (.iconst 3, 1) := by decide +kernel
theorem dX4_refusalOfAll_37 : decode cX4_refusalOfAll 37 = .ok (.ireturn, 1) := by decide +kernel
theorem dX4_answerToByte_0 : decode cX4_answerToByte 0 = .ok (.iload_n 1, 1) := by decide +kernel
theorem dX4_answerToByte_1 : decode cX4_answerToByte 1 = .ok (.bipush 15, 2) := by decide +kernel
theorem dX4_answerToByte_3 : decode cX4_answerToByte 3 = .ok (.iand, 1) := by decide +kernel
theorem dX4_answerToByte_4 : decode cX4_answerToByte 4 = .ok (.istore_n 3, 1) := by decide +kernel
theorem dX4_answerToByte_5 : decode cX4_answerToByte 5 = .ok (.iload_n 1, 1) := by decide +kernel
theorem dX4_answerToByte_6 : decode cX4_answerToByte 6 = .ok (.iconst 4, 1) := by decide +kernel
theorem dX4_answerToByte_7 : decode cX4_answerToByte 7 = .ok (.ishr, 1) := by decide +kernel
theorem dX4_answerToByte_8 : decode cX4_answerToByte 8 = .ok (.bipush 7, 2) := by decide +kernel
theorem dX4_answerToByte_10 : decode cX4_answerToByte 10 = .ok (.iand, 1) := by decide +kernel
theorem dX4_answerToByte_11 : decode cX4_answerToByte 11 = .ok (.istore 4, 2) := by decide +kernel
theorem dX4_answerToByte_13 : decode cX4_answerToByte 13 = .ok (.aload_n 0, 1) := by decide +kernel
theorem dX4_answerToByte_14 : decode cX4_answerToByte 14 = .ok (.iload_n 3, 1) := by decide +kernel
theorem dX4_answerToByte_15 : decode cX4_answerToByte 15 = .ok (.iload 4, 2) := by decide +kernel
theorem dX4_answerToByte_17 : decode cX4_answerToByte 17 = .ok (.invokestatic 46, 3) := by decide +kernel
theorem dX4_answerToByte_20 : decode cX4_answerToByte 20 = .ok (.ifCond .eq 5, 3) := by decide +kernel
theorem dX4_answerToByte_23 : decode cX4_answerToByte 23 = .ok (.iconst 0, 1) := by decide +kernel
theorem dX4_answerToByte_24 : decode cX4_answerToByte 24 = .ok (.ireturn, 1) := by decide +kernel
theorem dX4_answerToByte_25 : decode cX4_answerToByte 25 = .ok (.aload_n 0, 1) := by decide +kernel
theorem dX4_answerToByte_26 : decode cX4_answerToByte 26 = .ok (.iload_n 3, 1) := by decide +kernel
theorem dX4_answerToByte_27 : decode cX4_answerToByte 27 = .ok (.iload_n 1, 1) := by decide +kernel
theorem dX4_answerToByte_28 : decode cX4_answerToByte 28 = .ok (.sipush 128, 3) := by decide +kernel
theorem dX4_answerToByte_31 : decode cX4_answerToByte 31 = .ok (.if_icmp .lt 9, 3) := by decide +kernel
theorem dX4_answerToByte_34 : decode cX4_answerToByte 34 = .ok (.iconst 0, 1) := by decide +kernel
theorem dX4_answerToByte_35 : decode cX4_answerToByte 35 = .ok (.iload_n 2, 1) := by decide +kernel
theorem dX4_answerToByte_36 : decode cX4_answerToByte 36 = .ok (.isub, 1) := by decide +kernel
theorem dX4_answerToByte_37 : decode cX4_answerToByte 37 = .ok (.goto 4, 3) := by decide +kernel
theorem dX4_answerToByte_40 : decode cX4_answerToByte 40 = .ok (.iload_n 2, 1) := by decide +kernel
theorem dX4_answerToByte_41 : decode cX4_answerToByte 41 = .ok (.invokevirtual 53, 3) := by decide +kernel
theorem dX4_answerToByte_44 : decode cX4_answerToByte 44 = .ok (.ireturn, 1) := by decide +kernel
theorem dX4_letTake_0 : decode cX4_letTake 0 = .ok (.aload_n 0, 1) := by decide +kernel
theorem dX4_letTake_1 : decode cX4_letTake 1 = .ok (.getfield 81, 3) := by decide +kernel
theorem dX4_letTake_4 : decode cX4_letTake 4 = .ok (.aload_n 0, 1) := by decide +kernel
theorem dX4_letTake_5 : decode cX4_letTake 5 = .ok (.getfield 29, 3) := by decide +kernel
theorem dX4_letTake_8 : decode cX4_letTake 8 = .ok (.arraylength, 1) := by decide +kernel
theorem dX4_letTake_9 : decode cX4_letTake 9 = .ok (.if_icmp .ge 32, 3) := by decide +kernel
theorem dX4_letTake_12 : decode cX4_letTake 12 = .ok (.aload_n 0, 1) := by decide +kernel
theorem dX4_letTake_13 : decode cX4_letTake 13 = .ok (.getfield 29, 3) := by decide +kernel
theorem dX4_letTake_16 : decode cX4_letTake 16 = .ok (.aload_n 0, 1) := by decide +kernel
theorem dX4_letTake_17 : decode cX4_letTake 17 = .ok (.getfield 81, 3) := by decide +kernel
theorem dX4_letTake_20 : decode cX4_letTake 20 = .ok (.aload_n 1, 1) := by decide +kernel
theorem dX4_letTake_21 : decode cX4_letTake 21 = .ok (.aastore, 1) := by decide +kernel
theorem dX4_letTake_22 : decode cX4_letTake 22 = .ok (.aload_n 0, 1) := by decide +kernel
theorem dX4_letTake_23 : decode cX4_letTake 23 = .ok (.dup, 1) := by decide +kernel
theorem dX4_letTake_24 : decode cX4_letTake 24 = .ok (.getfield 81, 3) := by decide +kernel
theorem dX4_letTake_27 : decode cX4_letTake 27 = .ok (.iconst 1, 1) := by decide +kernel
theorem dX4_letTake_28 : decode cX4_letTake 28 = .ok (.iadd, 1) := by decide +kernel
theorem dX4_letTake_29 : decode cX4_letTake 29 = .ok (.putfield 81, 3) := by decide +kernel
theorem dX4_letTake_32 : decode cX4_letTake 32 = .ok (.aload_n 1, 1) := by decide +kernel
theorem dX4_letTake_33 : decode cX4_letTake 33 = .ok (.iload_n 2, 1) := by decide +kernel
theorem dX4_letTake_34 : decode cX4_letTake 34 = .ok (.aload_n 0, 1) := by decide +kernel
theorem dX4_letTake_35 : decode cX4_letTake 35 = .ok (.getfield 78, 3) := by decide +kernel
theorem dX4_letTake_38 : decode cX4_letTake 38 = .ok (.invokevirtual 119, 3) := by decide +kernel
theorem dX4_letTake_41 : decode cX4_letTake 41 = .ok (.return_, 1) := by decide +kernel
theorem dX4_passOn_0 : decode cX4_passOn 0 = .ok (.aload_n 1, 1) := by decide +kernel
theorem dX4_passOn_1 : decode cX4_passOn 1 = .ok (.getfield 123, 3) := by decide +kernel
theorem dX4_passOn_4 : decode cX4_passOn 4 = .ok (.astore_n 2, 1) := by decide +kernel
theorem dX4_passOn_5 : decode cX4_passOn 5 = .ok (.aload_n 2, 1) := by decide +kernel
theorem dX4_passOn_6 : decode cX4_passOn 6 = .ok (.ifnull 37, 3) := by decide +kernel
theorem dX4_passOn_9 : decode cX4_passOn 9 = .ok (.aload_n 2, 1) := by decide +kernel
theorem dX4_passOn_10 : decode cX4_passOn 10 = .ok (.getfield 127, 3) := by decide +kernel
theorem dX4_passOn_13 : decode cX4_passOn 13 = .ok (.getfield 131, 3) := by decide +kernel
theorem dX4_passOn_16 : decode cX4_passOn 16 = .ok (.aload_n 0, 1) := by decide +kernel
theorem dX4_passOn_17 : decode cX4_passOn 17 = .ok (.getfield 78, 3) := by decide +kernel
theorem dX4_passOn_20 : decode cX4_passOn 20 = .ok (.if_icmp .eq 15, 3) := by decide +kernel
theorem dX4_passOn_23 : decode cX4_passOn 23 = .ok (.aload_n 0, 1) := by decide +kernel
theorem dX4_passOn_24 : decode cX4_passOn 24 = .ok (.aload_n 2, 1) := by decide +kernel
theorem dX4_passOn_25 : decode cX4_passOn 25 = .ok (.getfield 127, 3) := by decide +kernel
theorem dX4_passOn_28 : decode cX4_passOn 28 = .ok (.aload_n 1, 1) := by decide +kernel
theorem dX4_passOn_29 : decode cX4_passOn 29 = .ok (.getfield 134, 3) := by decide +kernel
theorem dX4_passOn_32 : decode cX4_passOn 32 = .ok (.invokevirtual 84, 3) := by decide +kernel
theorem dX4_passOn_35 : decode cX4_passOn 35 = .ok (.aload_n 2, 1) := by decide +kernel
theorem dX4_passOn_36 : decode cX4_passOn 36 = .ok (.getfield 137, 3) := by decide +kernel
theorem dX4_passOn_39 : decode cX4_passOn 39 = .ok (.astore_n 2, 1) := by decide +kernel
theorem dX4_passOn_40 : decode cX4_passOn 40 = .ok (.goto (-35), 3) := by decide +kernel
theorem dX4_passOn_43 : decode cX4_passOn 43 = .ok (.return_, 1) := by decide +kernel
theorem dX4_countBearers_0 : decode cX4_countBearers 0 = .ok (.iconst 0, 1) := by decide +kernel
theorem dX4_countBearers_1 : decode cX4_countBearers 1 = .ok (.istore_n 2, 1) := by decide +kernel
theorem dX4_countBearers_2 : decode cX4_countBearers 2 = .ok (.iconst 0, 1) := by decide +kernel
theorem dX4_countBearers_3 : decode cX4_countBearers 3 = .ok (.istore_n 3, 1) := by decide +kernel
theorem dX4_countBearers_4 : decode cX4_countBearers 4 = .ok (.iload_n 3, 1) := by decide +kernel
theorem dX4_countBearers_5 : decode cX4_countBearers 5 = .ok (.aload_n 0, 1) := by decide +kernel
theorem dX4_countBearers_6 : decode cX4_countBearers 6 = .ok (.getfield 36, 3) := by decide +kernel
theorem dX4_countBearers_9 : decode cX4_countBearers 9 = .ok (.if_icmp .ge 33, 3) := by decide +kernel
theorem dX4_countBearers_12 : decode cX4_countBearers 12 = .ok (.aload_n 0, 1) := by decide +kernel
theorem dX4_countBearers_13 : decode cX4_countBearers 13 = .ok (.iload_n 3, 1) := by decide +kernel
theorem dX4_countBearers_14 : decode cX4_countBearers 14 = .ok (.invokevirtual 42, 3) := by decide +kernel
theorem dX4_countBearers_17 : decode cX4_countBearers 17 = .ok (.astore 4, 2) := by decide +kernel
theorem dX4_countBearers_19 : decode cX4_countBearers 19 = .ok (.aload 4, 2) := by decide +kernel
theorem dX4_countBearers_21 : decode cX4_countBearers 21 = .ok (.ifnull 15, 3) := by decide +kernel
theorem dX4_countBearers_24 : decode cX4_countBearers 24 = .ok (.aload 4, 2) := by decide +kernel
theorem dX4_countBearers_26 : decode cX4_countBearers 26 = .ok (.iload_n 1, 1) := by decide +kernel
theorem dX4_countBearers_27 : decode cX4_countBearers 27 = .ok (.invokevirtual 95, 3) := by decide +kernel
theorem dX4_countBearers_30 : decode cX4_countBearers 30 = .ok (.ifCond .eq 6, 3) := by decide +kernel
theorem dX4_countBearers_33 : decode cX4_countBearers 33 = .ok (.iinc 2 1, 3) := by decide +kernel
theorem dX4_countBearers_36 : decode cX4_countBearers 36 = .ok (.iinc 3 1, 3) := by decide +kernel
theorem dX4_countBearers_39 : decode cX4_countBearers 39 = .ok (.goto (-35), 3) := by decide +kernel
theorem dX4_countBearers_42 : decode cX4_countBearers 42 = .ok (.iload_n 2, 1) := by decide +kernel
theorem dX4_countBearers_43 : decode cX4_countBearers 43 = .ok (.ireturn, 1) := by decide +kernel
theorem dX5_bit_0 : decode cX5_bit 0 = .ok (.iconst 1, 1) := by decide +kernel
theorem dX5_bit_1 : decode cX5_bit 1 = .ok (.iload_n 0, 1) := by decide +kernel
theorem dX5_bit_2 : decode cX5_bit 2 = .ok (.ishl, 1) := by decide +kernel
theorem dX5_bit_3 : decode cX5_bit 3 = .ok (.ireturn, 1) := by decide +kernel
theorem dX5_have_0 : decode cX5_have 0 = .ok (.aload_n 0, 1) := by decide +kernel
theorem dX5_have_1 : decode cX5_have 1 = .ok (.getfield 22, 3) := by decide +kernel
theorem dX5_have_4 : decode cX5_have 4 = .ok (.iload_n 1, 1) := by decide +kernel
theorem dX5_have_5 : decode cX5_have 5 = .ok (.bipush 12, 2) := by decide +kernel
theorem dX5_have_7 : decode cX5_have 7 = .ok (.imul, 1) := by decide +kernel
theorem dX5_have_8 : decode cX5_have 8 = .ok (.iload_n 2, 1) := by decide +kernel
theorem dX5_have_9 : decode cX5_have 9 = .ok (.iadd, 1) := by decide +kernel
theorem dX5_have_10 : decode cX5_have 10 = .ok (.iload_n 3, 1) := by decide +kernel
theorem dX5_have_11 : decode cX5_have 11 = .ok (.iastore, 1) := by decide +kernel
theorem dX5_have_12 : decode cX5_have 12 = .ok (.return_, 1) := by decide +kernel
theorem dX5_closed_0 : decode cX5_closed 0 = .ok (.iload_n 0, 1) := by decide +kernel
theorem dX5_closed_1 : decode cX5_closed 1 = .ok (.istore_n 1, 1) := by decide +kernel
theorem dX5_closed_2 : decode cX5_closed 2 = .ok (.iload_n 1, 1) := by decide +kernel
theorem dX5_closed_3 : decode cX5_closed 3 = .ok (.iconst 3, 1) := by decide +kernel
theorem dX5_closed_4 : decode cX5_closed 4 = .ok (.invokestatic 84, 3) := by decide +kernel
theorem dX5_closed_7 : decode cX5_closed 7 = .ok (.iand, 1) := by decide +kernel
theorem dX5_closed_8 : decode cX5_closed 8 = .ok (.ifCond .eq 15, 3) := by decide +kernel
theorem dX5_closed_11 : decode cX5_closed 11 = .ok (.iload_n 1, 1) := by decide +kernel
theorem dX5_closed_12 : decode cX5_closed 12 = .ok (.iconst 1, 1) := by decide +kernel
theorem dX5_closed_13 : decode cX5_closed 13 = .ok (.invokestatic 84, 3) := by decide +kernel
theorem dX5_closed_16 : decode cX5_closed 16 = .ok (.iconst 2, 1) := by decide +kernel
theorem dX5_closed_17 : decode cX5_closed 17 = .ok (.invokestatic 84, 3) := by decide +kernel
theorem dX5_closed_20 : decode cX5_closed 20 = .ok (.ior, 1) := by decide +kernel
theorem dX5_closed_21 : decode cX5_closed 21 = .ok (.ior, 1) := by decide +kernel
theorem dX5_closed_22 : decode cX5_closed 22 = .ok (.istore_n 1, 1) := by decide +kernel
theorem dX5_closed_23 : decode cX5_closed 23 = .ok (.iload_n 1, 1) := by decide +kernel
theorem dX5_closed_24 : decode cX5_closed 24 = .ok (.iconst 5, 1) := by decide +kernel
theorem dX5_closed_25 : decode cX5_closed 25 = .ok (.invokestatic 84, 3) := by decide +kernel
theorem dX5_closed_28 : decode cX5_closed 28 = .ok (.iand, 1) := by decide +kernel
theorem dX5_closed_29 : decode cX5_closed 29 = .ok (.ifCond .eq 10, 3) := by decide +kernel
theorem dX5_closed_32 : decode cX5_closed 32 = .ok (.iload_n 1, 1) := by decide +kernel
theorem dX5_closed_33 : decode cX5_closed 33 = .ok (.iconst 4, 1) := by decide +kernel
theorem dX5_closed_34 : decode cX5_closed 34 = .ok (.invokestatic 84, 3) := by decide +kernel
theorem dX5_closed_37 : decode cX5_closed 37 = .ok (.ior, 1) := by decide +kernel
theorem dX5_closed_38 : decode cX5_closed 38 = .ok (.istore_n 1, 1) := by decide +kernel
theorem dX5_closed_39 : decode cX5_closed 39 = .ok (.iload_n 1, 1) := by decide +kernel
theorem dX5_closed_40 : decode cX5_closed 40 = .ok (.ireturn, 1) := by decide +kernel
theorem dX5_heir_0 : decode cX5_heir 0 = .ok (.aload_n 0, 1) := by decide +kernel
theorem dX5_heir_1 : decode cX5_heir 1 = .ok (.getfield 16, 3) := by decide +kernel
theorem dX5_heir_4 : decode cX5_heir 4 = .ok (.iload_n 1, 1) := by decide +kernel
theorem dX5_heir_5 : decode cX5_heir 5 = .ok (.iload_n 2, 1) := by decide +kernel
theorem dX5_heir_6 : decode cX5_heir 6 = .ok (.iastore, 1) := by decide +kernel
theorem dX5_heir_7 : decode cX5_heir 7 = .ok (.aload_n 0, 1) := by decide +kernel
theorem dX5_heir_8 : decode cX5_heir 8 = .ok (.getfield 19, 3) := by decide +kernel
theorem dX5_heir_11 : decode cX5_heir 11 = .ok (.iload_n 1, 1) := by decide +kernel
theorem dX5_heir_12 : decode cX5_heir 12 = .ok (.aload_n 0, 1) := by decide +kernel
theorem dX5_heir_13 : decode cX5_heir 13 = .ok (.getfield 19, 3) := by decide +kernel
theorem dX5_heir_16 : decode cX5_heir 16 = .ok (.iload_n 2, 1) := by decide +kernel
theorem dX5_heir_17 : decode cX5_heir 17 = .ok (.iaload, 1) := by decide +kernel
theorem dX5_heir_18 : decode cX5_heir 18 = .ok (.iload_n 3, 1) := by decide +kernel
theorem dX5_heir_19 : decode cX5_heir 19 = .ok (.invokestatic 88, 3) := by decide +kernel
theorem dX5_heir_22 : decode cX5_heir 22 = .ok (.ior, 1) := by decide +kernel
theorem dX5_heir_23 : decode cX5_heir 23 = .ok (.iastore, 1) := by decide +kernel
theorem dX5_heir_24 : decode cX5_heir 24 = .ok (.return_, 1) := by decide +kernel
theorem dX5_select_0 : decode cX5_select 0 = .ok (.iload_n 1, 1) := by decide +kernel
theorem dX5_select_1 : decode cX5_select 1 = .ok (.istore_n 3, 1) := by decide +kernel
theorem dX5_select_2 : decode cX5_select 2 = .ok (.iload_n 3, 1) := by decide +kernel
theorem dX5_select_3 : decode cX5_select 3 = .ok (.bipush 6, 2) := by decide +kernel
theorem dX5_select_5 : decode cX5_select 5 = .ok (.if_icmp .lt 40, 3) := by decide +kernel
theorem dX5_select_8 : decode cX5_select 8 = .ok (.aload_n 0, 1) := by decide +kernel
theorem dX5_select_9 : decode cX5_select 9 = .ok (.getfield 22, 3) := by decide +kernel
theorem dX5_select_12 : decode cX5_select 12 = .ok (.iload_n 3, 1) := by decide +kernel
theorem dX5_select_13 : decode cX5_select 13 = .ok (.bipush 12, 2) := by decide +kernel
theorem dX5_select_15 : decode cX5_select 15 = .ok (.imul, 1) := by decide +kernel
theorem dX5_select_16 : decode cX5_select 16 = .ok (.iload_n 2, 1) := by decide +kernel
theorem dX5_select_17 : decode cX5_select 17 = .ok (.iadd, 1) := by decide +kernel
theorem dX5_select_18 : decode cX5_select 18 = .ok (.iaload, 1) := by decide +kernel
theorem dX5_select_19 : decode cX5_select 19 = .ok (.iconst (-1), 1) := by decide +kernel
theorem dX5_select_20 : decode cX5_select 20 = .ok (.if_icmp .eq 15, 3) := by decide +kernel
theorem dX5_select_23 : decode cX5_select 23 = .ok (.aload_n 0, 1) := by decide +kernel
theorem dX5_select_24 : decode cX5_select 24 = .ok (.getfield 22, 3) := by decide +kernel
theorem dX5_select_27 : decode cX5_select 27 = .ok (.iload_n 3, 1) := by decide +kernel
theorem dX5_select_28 : decode cX5_select 28 = .ok (.bipush 12, 2) := by decide +kernel
theorem dX5_select_30 : decode cX5_select 30 = .ok (.imul, 1) := by decide +kernel
theorem dX5_select_31 : decode cX5_select 31 = .ok (.iload_n 2, 1) := by decide +kernel
theorem dX5_select_32 : decode cX5_select 32 = .ok (.iadd, 1) := by decide +kernel
theorem dX5_select_33 : decode cX5_select 33 = .ok (.iaload, 1) := by decide +kernel
theorem dX5_select_34 : decode cX5_select 34 = .ok (.ireturn, 1) := by decide +kernel
theorem dX5_select_35 : decode cX5_select 35 = .ok (.aload_n 0, 1) := by decide +kernel
theorem dX5_select_36 : decode cX5_select 36 = .ok (.getfield 16, 3) := by decide +kernel
theorem dX5_select_39 : decode cX5_select 39 = .ok (.iload_n 3, 1) := by decide +kernel
theorem dX5_select_40 : decode cX5_select 40 = .ok (.iaload, 1) := by decide +kernel
theorem dX5_select_41 : decode cX5_select 41 = .ok (.istore_n 3, 1) := by decide +kernel
theorem dX5_select_42 : decode cX5_select 42 = .ok (.goto (-40), 3) := by decide +kernel
theorem dX5_select_45 : decode cX5_select 45 = .ok (.aload_n 0, 1) := by decide +kernel
theorem dX5_select_46 : decode cX5_select 46 = .ok (.aload_n 0, 1) := by decide +kernel
theorem dX5_select_47 : decode cX5_select 47 = .ok (.getfield 19, 3) := by decide +kernel
theorem dX5_select_50 : decode cX5_select 50 = .ok (.iload_n 1, 1) := by decide +kernel
theorem dX5_select_51 : decode cX5_select 51 = .ok (.iaload, 1) := by decide +kernel
theorem dX5_select_52 : decode cX5_select 52 = .ok (.iload_n 2, 1) := by decide +kernel
theorem dX5_select_53 : decode cX5_select 53 = .ok (.invokevirtual 91, 3) := by decide +kernel
theorem dX5_select_56 : decode cX5_select 56 = .ok (.ireturn, 1) := by decide +kernel
theorem dX5_lowest_0 : decode cX5_lowest 0 = .ok (.iconst 1, 1) := by decide +kernel
theorem dX5_lowest_1 : decode cX5_lowest 1 = .ok (.istore_n 3, 1) := by decide +kernel
theorem dX5_lowest_2 : decode cX5_lowest 2 = .ok (.iload_n 3, 1) := by decide +kernel
theorem dX5_lowest_3 : decode cX5_lowest 3 = .ok (.iconst 5, 1) := by decide +kernel
theorem dX5_lowest_4 : decode cX5_lowest 4 = .ok (.if_icmp .gt 122, 3) := by decide +kernel
theorem dX5_lowest_7 : decode cX5_lowest 7 = .ok (.iload_n 1, 1) := by decide +kernel
theorem dX5_lowest_8 : decode cX5_lowest 8 = .ok (.iload_n 3, 1) := by decide +kernel
theorem dX5_lowest_9 : decode cX5_lowest 9 = .ok (.invokestatic 84, 3) := by decide +kernel
theorem dX5_lowest_12 : decode cX5_lowest 12 = .ok (.iand, 1) := by decide +kernel
theorem dX5_lowest_13 : decode cX5_lowest 13 = .ok (.ifCond .eq 107, 3) := by decide +kernel
theorem dX5_lowest_16 : decode cX5_lowest 16 = .ok (.aload_n 0, 1) := by decide +kernel
theorem dX5_lowest_17 : decode cX5_lowest 17 = .ok (.getfield 22, 3) := by decide +kernel
theorem dX5_lowest_20 : decode cX5_lowest 20 = .ok (.iload_n 3, 1) := by decide +kernel
theorem dX5_lowest_21 : decode cX5_lowest 21 = .ok (.bipush 12, 2) := by decide +kernel
theorem dX5_lowest_23 : decode cX5_lowest 23 = .ok (.imul, 1) := by decide +kernel
theorem dX5_lowest_24 : decode cX5_lowest 24 = .ok (.iload_n 2, 1) := by decide +kernel
theorem dX5_lowest_25 : decode cX5_lowest 25 = .ok (.iadd, 1) := by decide +kernel
theorem dX5_lowest_26 : decode cX5_lowest 26 = .ok (.iaload, 1) := by decide +kernel
theorem dX5_lowest_27 : decode cX5_lowest 27 = .ok (.iconst (-1), 1) := by decide +kernel
theorem dX5_lowest_28 : decode cX5_lowest 28 = .ok (.if_icmp .ne 6, 3) := by decide +kernel
theorem dX5_lowest_31 : decode cX5_lowest 31 = .ok (.goto 89, 3) := by decide +kernel
theorem dX5_lowest_34 : decode cX5_lowest 34 = .ok (.iconst 1, 1) := by decide +kernel
theorem dX5_lowest_35 : decode cX5_lowest 35 = .ok (.istore 4, 2) := by decide +kernel
theorem dX5_lowest_37 : decode cX5_lowest 37 = .ok (.iconst 1, 1) := by decide +kernel
theorem dX5_lowest_38 : decode cX5_lowest 38 = .ok (.istore 5, 2) := by decide +kernel
theorem dX5_lowest_40 : decode cX5_lowest 40 = .ok (.iload 5, 2) := by decide +kernel
theorem dX5_lowest_42 : decode cX5_lowest 42 = .ok (.iconst 5, 1) := by decide +kernel
theorem dX5_lowest_43 : decode cX5_lowest 43 = .ok (.if_icmp .gt 60, 3) := by decide +kernel
theorem dX5_lowest_46 : decode cX5_lowest 46 = .ok (.iload 5, 2) := by decide +kernel
theorem dX5_lowest_48 : decode cX5_lowest 48 = .ok (.iload_n 3, 1) := by decide +kernel
theorem dX5_lowest_49 : decode cX5_lowest 49 = .ok (.if_icmp .eq 48, 3) := by decide +kernel
theorem dX5_lowest_52 : decode cX5_lowest 52 = .ok (.iload_n 1, 1) := by decide +kernel
theorem dX5_lowest_53 : decode cX5_lowest 53 = .ok (.iload 5, 2) := by decide +kernel
theorem dX5_lowest_55 : decode cX5_lowest 55 = .ok (.invokestatic 84, 3) := by decide +kernel
theorem dX5_lowest_58 : decode cX5_lowest 58 = .ok (.iand, 1) := by decide +kernel
theorem dX5_lowest_59 : decode cX5_lowest 59 = .ok (.ifCond .eq 38, 3) := by decide +kernel
theorem dX5_lowest_62 : decode cX5_lowest 62 = .ok (.aload_n 0, 1) := by decide +kernel
theorem dX5_lowest_63 : decode cX5_lowest 63 = .ok (.getfield 22, 3) := by decide +kernel
theorem dX5_lowest_66 : decode cX5_lowest 66 = .ok (.iload 5, 2) := by decide +kernel
theorem dX5_lowest_68 : decode cX5_lowest 68 = .ok (.bipush 12, 2) := by decide +kernel
theorem dX5_lowest_70 : decode cX5_lowest 70 = .ok (.imul, 1) := by decide +kernel
theorem dX5_lowest_71 : decode cX5_lowest 71 = .ok (.iload_n 2, 1) := by decide +kernel
theorem dX5_lowest_72 : decode cX5_lowest 72 = .ok (.iadd, 1) := by decide +kernel
theorem dX5_lowest_73 : decode cX5_lowest 73 = .ok (.iaload, 1) := by decide +kernel
theorem dX5_lowest_74 : decode cX5_lowest 74 = .ok (.iconst (-1), 1) := by decide +kernel
theorem dX5_lowest_75 : decode cX5_lowest 75 = .ok (.if_icmp .eq 22, 3) := by decide +kernel
theorem dX5_lowest_78 : decode cX5_lowest 78 = .ok (.iload 5, 2) := by decide +kernel
theorem dX5_lowest_80 : decode cX5_lowest 80 = .ok (.invokestatic 84, 3) := by decide +kernel
theorem dX5_lowest_83 : decode cX5_lowest 83 = .ok (.invokestatic 88, 3) := by decide +kernel
theorem dX5_lowest_86 : decode cX5_lowest 86 = .ok (.iload_n 3, 1) := by decide +kernel
theorem dX5_lowest_87 : decode cX5_lowest 87 = .ok (.invokestatic 84, 3) := by decide +kernel
theorem dX5_lowest_90 : decode cX5_lowest 90 = .ok (.iand, 1) := by decide +kernel
theorem dX5_lowest_91 : decode cX5_lowest 91 = .ok (.ifCond .eq 6, 3) := by decide +kernel
theorem dX5_lowest_94 : decode cX5_lowest 94 = .ok (.iconst 0, 1) := by decide +kernel
theorem dX5_lowest_95 : decode cX5_lowest 95 = .ok (.istore 4, 2) := by decide +kernel
theorem dX5_lowest_97 : decode cX5_lowest 97 = .ok (.iinc 5 1, 3) := by decide +kernel
theorem dX5_lowest_100 : decode cX5_lowest 100 = .ok (.goto (-60), 3) := by decide +kernel
theorem dX5_lowest_103 : decode cX5_lowest 103 = .ok (.iload 4, 2) := by decide +kernel
theorem dX5_lowest_105 : decode cX5_lowest 105 = .ok (.ifCond .eq 15, 3) := by decide +kernel
theorem dX5_lowest_108 : decode cX5_lowest 108 = .ok (.aload_n 0, 1) := by decide +kernel
theorem dX5_lowest_109 : decode cX5_lowest 109 = .ok (.getfield 22, 3) := by decide +kernel
theorem dX5_lowest_112 : decode cX5_lowest 112 = .ok (.iload_n 3, 1) := by decide +kernel
theorem dX5_lowest_113 : decode cX5_lowest 113 = .ok (.bipush 12, 2) := by decide +kernel
theorem dX5_lowest_115 : decode cX5_lowest 115 = .ok (.imul, 1) := by decide +kernel
theorem dX5_lowest_116 : decode cX5_lowest 116 = .ok (.iload_n 2, 1) := by decide +kernel
theorem dX5_lowest_117 : decode cX5_lowest 117 = .ok (.iadd, 1) := by decide +kernel
theorem dX5_lowest_118 : decode cX5_lowest 118 = .ok (.iaload, 1) := by decide +kernel
theorem dX5_lowest_119 : decode cX5_lowest 119 = .ok (.ireturn, 1) := by decide +kernel
theorem dX5_lowest_120 : decode cX5_lowest 120 = .ok (.iinc 3 1, 3) := by decide +kernel
theorem dX5_lowest_123 : decode cX5_lowest 123 = .ok (.goto (-121), 3) := by decide +kernel
theorem dX5_lowest_126 : decode cX5_lowest 126 = .ok (.iconst (-1), 1) := by decide +kernel
theorem dX5_lowest_127 : decode cX5_lowest 127 = .ok (.ireturn, 1) := by decide +kernel
theorem dX5_push_0 : decode cX5_push 0 = .ok (.aload_n 0, 1) := by decide +kernel
theorem dX5_push_1 : decode cX5_push 1 = .ok (.getfield 74, 3) := by decide +kernel
theorem dX5_push_4 : decode cX5_push 4 = .ok (.aload_n 0, 1) := by decide +kernel
theorem dX5_push_5 : decode cX5_push 5 = .ok (.getfield 98, 3) := by decide +kernel
theorem dX5_push_8 : decode cX5_push 8 = .ok (.iload_n 1, 1) := by decide +kernel
theorem dX5_push_9 : decode cX5_push 9 = .ok (.iastore, 1) := by decide +kernel
theorem dX5_push_10 : decode cX5_push 10 = .ok (.aload_n 0, 1) := by decide +kernel
theorem dX5_push_11 : decode cX5_push 11 = .ok (.dup, 1) := by decide +kernel
theorem dX5_push_12 : decode cX5_push 12 = .ok (.getfield 98, 3) := by decide +kernel
theorem dX5_push_15 : decode cX5_push 15 = .ok (.iconst 1, 1) := by decide +kernel
theorem dX5_push_16 : decode cX5_push 16 = .ok (.iadd, 1) := by decide +kernel
theorem dX5_push_17 : decode cX5_push 17 = .ok (.putfield 98, 3) := by decide +kernel
theorem dX5_push_20 : decode cX5_push 20 = .ok (.return_, 1) := by decide +kernel
theorem dX5_pop_0 : decode cX5_pop 0 = .ok (.aload_n 0, 1) := by decide +kernel
theorem dX5_pop_1 : decode cX5_pop 1 = .ok (.dup, 1) := by decide +kernel
theorem dX5_pop_2 : decode cX5_pop 2 = .ok (.getfield 98, 3) := by decide +kernel
theorem dX5_pop_5 : decode cX5_pop 5 = .ok (.iconst 1, 1) := by decide +kernel
theorem dX5_pop_6 : decode cX5_pop 6 = .ok (.isub, 1) := by decide +kernel
theorem dX5_pop_7 : decode cX5_pop 7 = .ok (.putfield 98, 3) := by decide +kernel
theorem dX5_pop_10 : decode cX5_pop 10 = .ok (.aload_n 0, 1) := by decide +kernel
theorem dX5_pop_11 : decode cX5_pop 11 = .ok (.getfield 74, 3) := by decide +kernel
theorem dX5_pop_14 : decode cX5_pop 14 = .ok (.aload_n 0, 1) := by decide +kernel
theorem dX5_pop_15 : decode cX5_pop 15 = .ok (.getfield 98, 3) := by decide +kernel
theorem dX5_pop_18 : decode cX5_pop 18 = .ok (.iaload, 1) := by decide +kernel
theorem dX5_pop_19 : decode cX5_pop 19 = .ok (.ireturn, 1) := by decide +kernel
theorem dX5_enter_0 : decode cX5_enter 0 = .ok (.aload_n 0, 1) := by decide +kernel
theorem dX5_enter_1 : decode cX5_enter 1 = .ok (.getfield 102, 3) := by decide +kernel
theorem dX5_enter_4 : decode cX5_enter 4 = .ok (.bipush 64, 2) := by decide +kernel
theorem dX5_enter_6 : decode cX5_enter 6 = .ok (.if_icmp .ge 13, 3) := by decide +kernel
theorem dX5_enter_9 : decode cX5_enter 9 = .ok (.aload_n 0, 1) := by decide +kernel
theorem dX5_enter_10 : decode cX5_enter 10 = .ok (.getfield 62, 3) := by decide +kernel
theorem dX5_enter_13 : decode cX5_enter 13 = .ok (.aload_n 0, 1) := by decide +kernel
theorem dX5_enter_14 : decode cX5_enter 14 = .ok (.getfield 102, 3) := by decide +kernel
theorem dX5_enter_17 : decode cX5_enter 17 = .ok (.iload_n 1, 1) := by decide +kernel
theorem dX5_enter_18 : decode cX5_enter 18 = .ok (.iastore, 1) := by decide +kernel
theorem dX5_enter_19 : decode cX5_enter 19 = .ok (.aload_n 0, 1) := by decide +kernel
theorem dX5_enter_20 : decode cX5_enter 20 = .ok (.dup, 1) := by decide +kernel
theorem dX5_enter_21 : decode cX5_enter 21 = .ok (.getfield 102, 3) := by decide +kernel
theorem dX5_enter_24 : decode cX5_enter 24 = .ok (.iconst 1, 1) := by decide +kernel
theorem dX5_enter_25 : decode cX5_enter 25 = .ok (.iadd, 1) := by decide +kernel
theorem dX5_enter_26 : decode cX5_enter 26 = .ok (.putfield 102, 3) := by decide +kernel
theorem dX5_enter_29 : decode cX5_enter 29 = .ok (.aload_n 0, 1) := by decide +kernel
theorem dX5_enter_30 : decode cX5_enter 30 = .ok (.getfield 65, 3) := by decide +kernel
theorem dX5_enter_33 : decode cX5_enter 33 = .ok (.aload_n 0, 1) := by decide +kernel
theorem dX5_enter_34 : decode cX5_enter 34 = .ok (.getfield 105, 3) := by decide +kernel
theorem dX5_enter_37 : decode cX5_enter 37 = .ok (.iload_n 1, 1) := by decide +kernel
theorem dX5_enter_38 : decode cX5_enter 38 = .ok (.iastore, 1) := by decide +kernel
theorem dX5_enter_39 : decode cX5_enter 39 = .ok (.aload_n 0, 1) := by decide +kernel
theorem dX5_enter_40 : decode cX5_enter 40 = .ok (.getfield 68, 3) := by decide +kernel
theorem dX5_enter_43 : decode cX5_enter 43 = .ok (.aload_n 0, 1) := by decide +kernel
theorem dX5_enter_44 : decode cX5_enter 44 = .ok (.getfield 105, 3) := by decide +kernel
theorem dX5_enter_47 : decode cX5_enter 47 = .ok (.aload_n 0, 1) := by decide +kernel
theorem dX5_enter_48 : decode cX5_enter 48 = .ok (.getfield 13, 3) := by decide +kernel
theorem dX5_enter_51 : decode cX5_enter 51 = .ok (.iload_n 1, 1) := by decide +kernel
theorem dX5_enter_52 : decode cX5_enter 52 = .ok (.iaload, 1) := by decide +kernel
theorem dX5_enter_53 : decode cX5_enter 53 = .ok (.iastore, 1) := by decide +kernel
theorem dX5_enter_54 : decode cX5_enter 54 = .ok (.aload_n 0, 1) := by decide +kernel
theorem dX5_enter_55 : decode cX5_enter 55 = .ok (.getfield 71, 3) := by decide +kernel
theorem dX5_enter_58 : decode cX5_enter 58 = .ok (.aload_n 0, 1) := by decide +kernel
theorem dX5_enter_59 : decode cX5_enter 59 = .ok (.getfield 105, 3) := by decide +kernel
theorem dX5_enter_62 : decode cX5_enter 62 = .ok (.iload_n 2, 1) := by decide +kernel
theorem dX5_enter_63 : decode cX5_enter 63 = .ok (.iastore, 1) := by decide +kernel
theorem dX5_enter_64 : decode cX5_enter 64 = .ok (.aload_n 0, 1) := by decide +kernel
theorem dX5_enter_65 : decode cX5_enter 65 = .ok (.dup, 1) := by decide +kernel
theorem dX5_enter_66 : decode cX5_enter 66 = .ok (.getfield 105, 3) := by decide +kernel
theorem dX5_enter_69 : decode cX5_enter 69 = .ok (.iconst 1, 1) := by decide +kernel
theorem dX5_enter_70 : decode cX5_enter 70 = .ok (.iadd, 1) := by decide +kernel
theorem dX5_enter_71 : decode cX5_enter 71 = .ok (.putfield 105, 3) := by decide +kernel
theorem dX5_enter_74 : decode cX5_enter 74 = .ok (.return_, 1) := by decide +kernel
theorem dX5_act_0 : decode cX5_act 0 = .ok (.aload_n 0, 1) := by decide +kernel
theorem dX5_act_1 : decode cX5_act 1 = .ok (.iconst 0, 1) := by decide +kernel
theorem dX5_act_2 : decode cX5_act 2 = .ok (.putfield 105, 3) := by decide +kernel
theorem dX5_act_5 : decode cX5_act 5 = .ok (.aload_n 0, 1) := by decide +kernel
theorem dX5_act_6 : decode cX5_act 6 = .ok (.iconst 0, 1) := by decide +kernel
theorem dX5_act_7 : decode cX5_act 7 = .ok (.putfield 98, 3) := by decide +kernel
theorem dX5_act_10 : decode cX5_act 10 = .ok (.aload_n 0, 1) := by decide +kernel
theorem dX5_act_11 : decode cX5_act 11 = .ok (.aload_n 0, 1) := by decide +kernel
theorem dX5_act_12 : decode cX5_act 12 = .ok (.getfield 25, 3) := by decide +kernel
theorem dX5_act_15 : decode cX5_act 15 = .ok (.bipush 10, 2) := by decide +kernel
theorem dX5_act_17 : decode cX5_act 17 = .ok (.aload_n 0, 1) := by decide +kernel
theorem dX5_act_18 : decode cX5_act 18 = .ok (.getfield 34, 3) := by decide +kernel
theorem dX5_act_21 : decode cX5_act 21 = .ok (.iload_n 1, 1) := by decide +kernel
theorem dX5_act_22 : decode cX5_act 22 = .ok (.iaload, 1) := by decide +kernel
theorem dX5_act_23 : decode cX5_act 23 = .ok (.iadd, 1) := by decide +kernel
theorem dX5_act_24 : decode cX5_act 24 = .ok (.bipush 12, 2) := by decide +kernel
theorem dX5_act_26 : decode cX5_act 26 = .ok (.imul, 1) := by decide +kernel
theorem dX5_act_27 : decode cX5_act 27 = .ok (.iload_n 2, 1) := by decide +kernel
theorem dX5_act_28 : decode cX5_act 28 = .ok (.iadd, 1) := by decide +kernel
theorem dX5_act_29 : decode cX5_act 29 = .ok (.iaload, 1) := by decide +kernel
theorem dX5_act_30 : decode cX5_act 30 = .ok (.iload_n 3, 1) := by decide +kernel
theorem dX5_act_31 : decode cX5_act 31 = .ok (.invokevirtual 108, 3) := by decide +kernel
theorem dX5_act_34 : decode cX5_act 34 = .ok (.aload_n 0, 1) := by decide +kernel
theorem dX5_act_35 : decode cX5_act 35 = .ok (.getfield 105, 3) := by decide +kernel
theorem dX5_act_38 : decode cX5_act 38 = .ok (.ifCond .le 224, 3) := by decide +kernel
theorem dX5_act_41 : decode cX5_act 41 = .ok (.aload_n 0, 1) := by decide +kernel
theorem dX5_act_42 : decode cX5_act 42 = .ok (.getfield 105, 3) := by decide +kernel
theorem dX5_act_45 : decode cX5_act 45 = .ok (.iconst 1, 1) := by decide +kernel
theorem dX5_act_46 : decode cX5_act 46 = .ok (.isub, 1) := by decide +kernel
theorem dX5_act_47 : decode cX5_act 47 = .ok (.istore 4, 2) := by decide +kernel
theorem dX5_act_49 : decode cX5_act 49 = .ok (.aload_n 0, 1) := by decide +kernel
theorem dX5_act_50 : decode cX5_act 50 = .ok (.getfield 9, 3) := by decide +kernel
theorem dX5_act_53 : decode cX5_act 53 = .ok (.aload_n 0, 1) := by decide +kernel
theorem dX5_act_54 : decode cX5_act 54 = .ok (.getfield 68, 3) := by decide +kernel
theorem dX5_act_57 : decode cX5_act 57 = .ok (.iload 4, 2) := by decide +kernel
theorem dX5_act_59 : decode cX5_act 59 = .ok (.iaload, 1) := by decide +kernel
theorem dX5_act_60 : decode cX5_act 60 = .ok (.iaload, 1) := by decide +kernel
theorem dX5_act_61 : decode cX5_act 61 = .ok (.istore 5, 2) := by decide +kernel
theorem dX5_act_63 : decode cX5_act 63 = .ok (.aload_n 0, 1) := by decide +kernel
theorem dX5_act_64 : decode cX5_act 64 = .ok (.getfield 68, 3) := by decide +kernel
theorem dX5_act_67 : decode cX5_act 67 = .ok (.iload 4, 2) := by decide +kernel
theorem dX5_act_69 : decode cX5_act 69 = .ok (.dup2, 1) := by decide +kernel
theorem dX5_act_70 : decode cX5_act 70 = .ok (.iaload, 1) := by decide +kernel
theorem dX5_act_71 : decode cX5_act 71 = .ok (.iconst 1, 1) := by decide +kernel
theorem dX5_act_72 : decode cX5_act 72 = .ok (.iadd, 1) := by decide +kernel
theorem dX5_act_73 : decode cX5_act 73 = .ok (.iastore, 1) := by decide +kernel
theorem dX5_act_74 : decode cX5_act 74 = .ok (.iload 5, 2) := by decide +kernel
theorem dX5_act_76 : decode cX5_act 76 = .ok (.sipush 3000, 3) := by decide +kernel
theorem dX5_act_79 : decode cX5_act 79 = .ok (.if_icmp .lt 16, 3) := by decide +kernel
theorem dX5_act_82 : decode cX5_act 82 = .ok (.aload_n 0, 1) := by decide +kernel
theorem dX5_act_83 : decode cX5_act 83 = .ok (.dup, 1) := by decide +kernel
theorem dX5_act_84 : decode cX5_act 84 = .ok (.getfield 105, 3) := by decide +kernel
theorem dX5_act_87 : decode cX5_act 87 = .ok (.iconst 1, 1) := by decide +kernel
theorem dX5_act_88 : decode cX5_act 88 = .ok (.isub, 1) := by decide +kernel
theorem dX5_act_89 : decode cX5_act 89 = .ok (.putfield 105, 3) := by decide +kernel
theorem dX5_act_92 : decode cX5_act 92 = .ok (.goto 167, 3) := by decide +kernel
theorem dX5_act_95 : decode cX5_act 95 = .ok (.iload 5, 2) := by decide +kernel
theorem dX5_act_97 : decode cX5_act 97 = .ok (.sipush 2000, 3) := by decide +kernel
theorem dX5_act_100 : decode cX5_act 100 = .ok (.if_icmp .lt 20, 3) := by decide +kernel
theorem dX5_act_103 : decode cX5_act 103 = .ok (.aload_n 0, 1) := by decide +kernel
theorem dX5_act_104 : decode cX5_act 104 = .ok (.iload 5, 2) := by decide +kernel
theorem dX5_act_106 : decode cX5_act 106 = .ok (.sipush 2000, 3) := by decide +kernel
theorem dX5_act_109 : decode cX5_act 109 = .ok (.isub, 1) := by decide +kernel
theorem dX5_act_110 : decode cX5_act 110 = .ok (.aload_n 0, 1) := by decide +kernel
theorem dX5_act_111 : decode cX5_act 111 = .ok (.invokevirtual 112, 3) := by decide +kernel
theorem dX5_act_114 : decode cX5_act 114 = .ok (.invokevirtual 108, 3) := by decide +kernel
theorem dX5_act_117 : decode cX5_act 117 = .ok (.goto 142, 3) := by decide +kernel
theorem dX5_act_120 : decode cX5_act 120 = .ok (.iload 5, 2) := by decide +kernel
theorem dX5_act_122 : decode cX5_act 122 = .ok (.sipush 1312, 3) := by decide +kernel
theorem dX5_act_125 : decode cX5_act 125 = .ok (.if_icmp .lt 28, 3) := by decide +kernel
theorem dX5_act_128 : decode cX5_act 128 = .ok (.aload_n 0, 1) := by decide +kernel
theorem dX5_act_129 : decode cX5_act 129 = .ok (.aload_n 0, 1) := by decide +kernel
theorem dX5_act_130 : decode cX5_act 130 = .ok (.getfield 25, 3) := by decide +kernel
theorem dX5_act_133 : decode cX5_act 133 = .ok (.iload 5, 2) := by decide +kernel
theorem dX5_act_135 : decode cX5_act 135 = .ok (.sipush 1312, 3) := by decide +kernel
theorem dX5_act_138 : decode cX5_act 138 = .ok (.isub, 1) := by decide +kernel
theorem dX5_act_139 : decode cX5_act 139 = .ok (.bipush 12, 2) := by decide +kernel
theorem dX5_act_141 : decode cX5_act 141 = .ok (.iadd, 1) := by decide +kernel
theorem dX5_act_142 : decode cX5_act 142 = .ok (.iaload, 1) := by decide +kernel
theorem dX5_act_143 : decode cX5_act 143 = .ok (.aload_n 0, 1) := by decide +kernel
theorem dX5_act_144 : decode cX5_act 144 = .ok (.invokevirtual 112, 3) := by decide +kernel
theorem dX5_act_147 : decode cX5_act 147 = .ok (.invokevirtual 108, 3) := by decide +kernel
theorem dX5_act_150 : decode cX5_act 150 = .ok (.goto 109, 3) := by decide +kernel
theorem dX5_act_153 : decode cX5_act 153 = .ok (.iload 5, 2) := by decide +kernel
theorem dX5_act_155 : decode cX5_act 155 = .ok (.sipush 1200, 3) := by decide +kernel
theorem dX5_act_158 : decode cX5_act 158 = .ok (.if_icmp .lt 44, 3) := by decide +kernel
theorem dX5_act_161 : decode cX5_act 161 = .ok (.aload_n 0, 1) := by decide +kernel
theorem dX5_act_162 : decode cX5_act 162 = .ok (.aload_n 0, 1) := by decide +kernel
theorem dX5_act_163 : decode cX5_act 163 = .ok (.getfield 25, 3) := by decide +kernel
theorem dX5_act_166 : decode cX5_act 166 = .ok (.aload_n 0, 1) := by decide +kernel
theorem dX5_act_167 : decode cX5_act 167 = .ok (.getfield 16, 3) := by decide +kernel
theorem dX5_act_170 : decode cX5_act 170 = .ok (.aload_n 0, 1) := by decide +kernel
theorem dX5_act_171 : decode cX5_act 171 = .ok (.getfield 65, 3) := by decide +kernel
theorem dX5_act_174 : decode cX5_act 174 = .ok (.iload 4, 2) := by decide +kernel
theorem dX5_act_176 : decode cX5_act 176 = .ok (.iaload, 1) := by decide +kernel
theorem dX5_act_177 : decode cX5_act 177 = .ok (.bipush 10, 2) := by decide +kernel
theorem dX5_act_179 : decode cX5_act 179 = .ok (.idiv, 1) := by decide +kernel
theorem dX5_act_180 : decode cX5_act 180 = .ok (.iaload, 1) := by decide +kernel
theorem dX5_act_181 : decode cX5_act 181 = .ok (.bipush 12, 2) := by decide +kernel
theorem dX5_act_183 : decode cX5_act 183 = .ok (.imul, 1) := by decide +kernel
theorem dX5_act_184 : decode cX5_act 184 = .ok (.iload 5, 2) := by decide +kernel
theorem dX5_act_186 : decode cX5_act 186 = .ok (.iadd, 1) := by decide +kernel
theorem dX5_act_187 : decode cX5_act 187 = .ok (.sipush 1200, 3) := by decide +kernel
theorem dX5_act_190 : decode cX5_act 190 = .ok (.isub, 1) := by decide +kernel
theorem dX5_act_191 : decode cX5_act 191 = .ok (.iaload, 1) := by decide +kernel
theorem dX5_act_192 : decode cX5_act 192 = .ok (.aload_n 0, 1) := by decide +kernel
theorem dX5_act_193 : decode cX5_act 193 = .ok (.invokevirtual 112, 3) := by decide +kernel
theorem dX5_act_196 : decode cX5_act 196 = .ok (.invokevirtual 108, 3) := by decide +kernel
theorem dX5_act_199 : decode cX5_act 199 = .ok (.goto 60, 3) := by decide +kernel
theorem dX5_act_202 : decode cX5_act 202 = .ok (.iload 5, 2) := by decide +kernel
theorem dX5_act_204 : decode cX5_act 204 = .ok (.sipush 1100, 3) := by decide +kernel
theorem dX5_act_207 : decode cX5_act 207 = .ok (.if_icmp .lt 38, 3) := by decide +kernel
theorem dX5_act_210 : decode cX5_act 210 = .ok (.aload_n 0, 1) := by decide +kernel
theorem dX5_act_211 : decode cX5_act 211 = .ok (.aload_n 0, 1) := by decide +kernel
theorem dX5_act_212 : decode cX5_act 212 = .ok (.getfield 25, 3) := by decide +kernel
theorem dX5_act_215 : decode cX5_act 215 = .ok (.bipush 10, 2) := by decide +kernel
theorem dX5_act_217 : decode cX5_act 217 = .ok (.aload_n 0, 1) := by decide +kernel
theorem dX5_act_218 : decode cX5_act 218 = .ok (.getfield 34, 3) := by decide +kernel
theorem dX5_act_221 : decode cX5_act 221 = .ok (.iload_n 1, 1) := by decide +kernel
theorem dX5_act_222 : decode cX5_act 222 = .ok (.iaload, 1) := by decide +kernel
theorem dX5_act_223 : decode cX5_act 223 = .ok (.iadd, 1) := by decide +kernel
theorem dX5_act_224 : decode cX5_act 224 = .ok (.bipush 12, 2) := by decide +kernel
theorem dX5_act_226 : decode cX5_act 226 = .ok (.imul, 1) := by decide +kernel
theorem dX5_act_227 : decode cX5_act 227 = .ok (.iload 5, 2) := by decide +kernel
theorem dX5_act_229 : decode cX5_act 229 = .ok (.iadd, 1) := by decide +kernel
theorem dX5_act_230 : decode cX5_act 230 = .ok (.sipush 1100, 3) := by decide +kernel
theorem dX5_act_233 : decode cX5_act 233 = .ok (.isub, 1) := by decide +kernel
theorem dX5_act_234 : decode cX5_act 234 = .ok (.iaload, 1) := by decide +kernel
theorem dX5_act_235 : decode cX5_act 235 = .ok (.aload_n 0, 1) := by decide +kernel
theorem dX5_act_236 : decode cX5_act 236 = .ok (.invokevirtual 112, 3) := by decide +kernel
theorem dX5_act_239 : decode cX5_act 239 = .ok (.invokevirtual 108, 3) := by decide +kernel
theorem dX5_act_242 : decode cX5_act 242 = .ok (.goto 17, 3) := by decide +kernel
theorem dX5_act_245 : decode cX5_act 245 = .ok (.aload_n 0, 1) := by decide +kernel
theorem dX5_act_246 : decode cX5_act 246 = .ok (.iload_n 1, 1) := by decide +kernel
theorem dX5_act_247 : decode cX5_act 247 = .ok (.iload 5, 2) := by decide +kernel
theorem dX5_act_249 : decode cX5_act 249 = .ok (.aload_n 0, 1) := by decide +kernel
theorem dX5_act_250 : decode cX5_act 250 = .ok (.getfield 71, 3) := by decide +kernel
theorem dX5_act_253 : decode cX5_act 253 = .ok (.iload 4, 2) := by decide +kernel
theorem dX5_act_255 : decode cX5_act 255 = .ok (.iaload, 1) := by decide +kernel
theorem dX5_act_256 : decode cX5_act 256 = .ok (.invokevirtual 116, 3) := by decide +kernel
theorem dX5_act_259 : decode cX5_act 259 = .ok (.goto (-225), 3) := by decide +kernel
theorem dX5_act_262 : decode cX5_act 262 = .ok (.aload_n 0, 1) := by decide +kernel
theorem dX5_act_263 : decode cX5_act 263 = .ok (.invokevirtual 112, 3) := by decide +kernel
theorem dX5_act_266 : decode cX5_act 266 = .ok (.ireturn, 1) := by decide +kernel
theorem dX5_step_0 : decode cX5_step 0 = .ok (.iload_n 2, 1) := by decide +kernel
theorem dX5_step_1 : decode cX5_step 1 = .ok (.sipush 1000, 3) := by decide +kernel
theorem dX5_step_4 : decode cX5_step 4 = .ok (.if_icmp .ge 9, 3) := by decide +kernel
theorem dX5_step_7 : decode cX5_step 7 = .ok (.aload_n 0, 1) := by decide +kernel
theorem dX5_step_8 : decode cX5_step 8 = .ok (.iload_n 2, 1) := by decide +kernel
theorem dX5_step_9 : decode cX5_step 9 = .ok (.invokevirtual 119, 3) := by decide +kernel
theorem dX5_step_12 : decode cX5_step 12 = .ok (.return_, 1) := by decide +kernel
theorem dX5_step_13 : decode cX5_step 13 = .ok (.iload_n 2, 1) := by decide +kernel
theorem dX5_step_14 : decode cX5_step 14 = .ok (.tableswitch 104 1000 1009 #[54, 60, 71, 104, 104, 104, 104, 104, 82, 93], 54) := by decide +kernel
theorem dX5_step_68 : decode cX5_step 68 = .ok (.aload_n 0, 1) := by decide +kernel
theorem dX5_step_69 : decode cX5_step 69 = .ok (.iload_n 3, 1) := by decide +kernel
theorem dX5_step_70 : decode cX5_step 70 = .ok (.invokevirtual 119, 3) := by decide +kernel
theorem dX5_step_73 : decode cX5_step 73 = .ok (.return_, 1) := by decide +kernel
theorem dX5_step_74 : decode cX5_step 74 = .ok (.aload_n 0, 1) := by decide +kernel
theorem dX5_step_75 : decode cX5_step 75 = .ok (.aload_n 0, 1) := by decide +kernel
theorem dX5_step_76 : decode cX5_step 76 = .ok (.getfield 37, 3) := by decide +kernel
theorem dX5_step_79 : decode cX5_step 79 = .ok (.iload_n 1, 1) := by decide +kernel
theorem dX5_step_80 : decode cX5_step 80 = .ok (.iaload, 1) := by decide +kernel
theorem dX5_step_81 : decode cX5_step 81 = .ok (.invokevirtual 119, 3) := by decide +kernel
theorem dX5_step_84 : decode cX5_step 84 = .ok (.return_, 1) := by decide +kernel
theorem dX5_step_85 : decode cX5_step 85 = .ok (.aload_n 0, 1) := by decide +kernel
theorem dX5_step_86 : decode cX5_step 86 = .ok (.aload_n 0, 1) := by decide +kernel
theorem dX5_step_87 : decode cX5_step 87 = .ok (.getfield 40, 3) := by decide +kernel
theorem dX5_step_90 : decode cX5_step 90 = .ok (.iload_n 1, 1) := by decide +kernel
theorem dX5_step_91 : decode cX5_step 91 = .ok (.iaload, 1) := by decide +kernel
theorem dX5_step_92 : decode cX5_step 92 = .ok (.invokevirtual 119, 3) := by decide +kernel
theorem dX5_step_95 : decode cX5_step 95 = .ok (.return_, 1) := by decide +kernel
theorem dX5_step_96 : decode cX5_step 96 = .ok (.aload_n 0, 1) := by decide +kernel
theorem dX5_step_97 : decode cX5_step 97 = .ok (.getfield 37, 3) := by decide +kernel
theorem dX5_step_100 : decode cX5_step 100 = .ok (.iload_n 1, 1) := by decide +kernel
theorem dX5_step_101 : decode cX5_step 101 = .ok (.aload_n 0, 1) := by decide +kernel
theorem dX5_step_102 : decode cX5_step 102 = .ok (.invokevirtual 112, 3) := by decide +kernel
theorem dX5_step_105 : decode cX5_step 105 = .ok (.iastore, 1) := by decide +kernel
theorem dX5_step_106 : decode cX5_step 106 = .ok (.return_, 1) := by decide +kernel
theorem dX5_step_107 : decode cX5_step 107 = .ok (.aload_n 0, 1) := by decide +kernel
theorem dX5_step_108 : decode cX5_step 108 = .ok (.getfield 40, 3) := by decide +kernel
theorem dX5_step_111 : decode cX5_step 111 = .ok (.iload_n 1, 1) := by decide +kernel
theorem dX5_step_112 : decode cX5_step 112 = .ok (.aload_n 0, 1) := by decide +kernel
theorem dX5_step_113 : decode cX5_step 113 = .ok (.invokevirtual 112, 3) := by decide +kernel
theorem dX5_step_116 : decode cX5_step 116 = .ok (.iastore, 1) := by decide +kernel
theorem dX5_step_117 : decode cX5_step 117 = .ok (.return_, 1) := by decide +kernel
theorem dX5_step_118 : decode cX5_step 118 = .ok (.aload_n 0, 1) := by decide +kernel
theorem dX5_step_119 : decode cX5_step 119 = .ok (.invokevirtual 112, 3) := by decide +kernel
theorem dX5_step_122 : decode cX5_step 122 = .ok (.istore 4, 2) := by decide +kernel
theorem dX5_step_124 : decode cX5_step 124 = .ok (.aload_n 0, 1) := by decide +kernel
theorem dX5_step_125 : decode cX5_step 125 = .ok (.invokevirtual 112, 3) := by decide +kernel
theorem dX5_step_128 : decode cX5_step 128 = .ok (.istore 5, 2) := by decide +kernel
theorem dX5_step_130 : decode cX5_step 130 = .ok (.aload_n 0, 1) := by decide +kernel
theorem dX5_step_131 : decode cX5_step 131 = .ok (.iload_n 2, 1) := by decide +kernel
theorem dX5_step_132 : decode cX5_step 132 = .ok (.sipush 1003, 3) := by decide +kernel
theorem dX5_step_135 : decode cX5_step 135 = .ok (.if_icmp .ne 11, 3) := by decide +kernel
theorem dX5_step_138 : decode cX5_step 138 = .ok (.iload 5, 2) := by decide +kernel
theorem dX5_step_140 : decode cX5_step 140 = .ok (.iload 4, 2) := by decide +kernel
theorem dX5_step_142 : decode cX5_step 142 = .ok (.iadd, 1) := by decide +kernel
theorem dX5_step_143 : decode cX5_step 143 = .ok (.goto 53, 3) := by decide +kernel
theorem dX5_step_146 : decode cX5_step 146 = .ok (.iload_n 2, 1) := by decide +kernel
theorem dX5_step_147 : decode cX5_step 147 = .ok (.sipush 1004, 3) := by decide +kernel
theorem dX5_step_150 : decode cX5_step 150 = .ok (.if_icmp .ne 11, 3) := by decide +kernel
theorem dX5_step_153 : decode cX5_step 153 = .ok (.iload 5, 2) := by decide +kernel
theorem dX5_step_155 : decode cX5_step 155 = .ok (.iload 4, 2) := by decide +kernel
theorem dX5_step_157 : decode cX5_step 157 = .ok (.isub, 1) := by decide +kernel
theorem dX5_step_158 : decode cX5_step 158 = .ok (.goto 38, 3) := by decide +kernel
theorem dX5_step_161 : decode cX5_step 161 = .ok (.iload_n 2, 1) := by decide +kernel
theorem dX5_step_162 : decode cX5_step 162 = .ok (.sipush 1005, 3) := by decide +kernel
theorem dX5_step_165 : decode cX5_step 165 = .ok (.if_icmp .ne 11, 3) := by decide +kernel
theorem dX5_step_168 : decode cX5_step 168 = .ok (.iload 5, 2) := by decide +kernel
theorem dX5_step_170 : decode cX5_step 170 = .ok (.iload 4, 2) := by decide +kernel
theorem dX5_step_172 : decode cX5_step 172 = .ok (.imul, 1) := by decide +kernel
theorem dX5_step_173 : decode cX5_step 173 = .ok (.goto 23, 3) := by decide +kernel
theorem dX5_step_176 : decode cX5_step 176 = .ok (.iload_n 2, 1) := by decide +kernel
theorem dX5_step_177 : decode cX5_step 177 = .ok (.sipush 1006, 3) := by decide +kernel
theorem dX5_step_180 : decode cX5_step 180 = .ok (.if_icmp .ne 11, 3) := by decide +kernel
theorem dX5_step_183 : decode cX5_step 183 = .ok (.iload 5, 2) := by decide +kernel
theorem dX5_step_185 : decode cX5_step 185 = .ok (.iload 4, 2) := by decide +kernel
theorem dX5_step_187 : decode cX5_step 187 = .ok (.ixor, 1) := by decide +kernel
theorem dX5_step_188 : decode cX5_step 188 = .ok (.goto 8, 3) := by decide +kernel
theorem dX5_step_191 : decode cX5_step 191 = .ok (.iload 5, 2) := by decide +kernel
theorem dX5_step_193 : decode cX5_step 193 = .ok (.iload 4, 2) := by decide +kernel
theorem dX5_step_195 : decode cX5_step 195 = .ok (.iand, 1) := by decide +kernel
theorem dX5_step_196 : decode cX5_step 196 = .ok (.invokevirtual 119, 3) := by decide +kernel
theorem dX5_step_199 : decode cX5_step 199 = .ok (.return_, 1) := by decide +kernel
theorem dX5_isDevice_0 : decode cX5_isDevice 0 = .ok (.iload_n 1, 1) := by decide +kernel
theorem dX5_isDevice_1 : decode cX5_isDevice 1 = .ok (.ifCond .lt 15, 3) := by decide +kernel
theorem dX5_isDevice_4 : decode cX5_isDevice 4 = .ok (.iload_n 1, 1) := by decide +kernel
theorem dX5_isDevice_5 : decode cX5_isDevice 5 = .ok (.aload_n 0, 1) := by decide +kernel
theorem dX5_isDevice_6 : decode cX5_isDevice 6 = .ok (.getfield 123, 3) := by decide +kernel
theorem dX5_isDevice_9 : decode cX5_isDevice 9 = .ok (.if_icmp .ge 7, 3) := by decide +kernel
theorem dX5_isDevice_12 : decode cX5_isDevice 12 = .ok (.iconst 1, 1) := by decide +kernel
theorem dX5_isDevice_13 : decode cX5_isDevice 13 = .ok (.goto 4, 3) := by decide +kernel
theorem dX5_isDevice_16 : decode cX5_isDevice 16 = .ok (.iconst 0, 1) := by decide +kernel
theorem dX5_isDevice_17 : decode cX5_isDevice 17 = .ok (.ireturn, 1) := by decide +kernel
theorem dX5_isAct_0 : decode cX5_isAct 0 = .ok (.iload_n 0, 1) := by decide +kernel
theorem dX5_isAct_1 : decode cX5_isAct 1 = .ok (.ifCond .lt 13, 3) := by decide +kernel
theorem dX5_isAct_4 : decode cX5_isAct 4 = .ok (.iload_n 0, 1) := by decide +kernel
theorem dX5_isAct_5 : decode cX5_isAct 5 = .ok (.bipush 12, 2) := by decide +kernel
theorem dX5_isAct_7 : decode cX5_isAct 7 = .ok (.if_icmp .ge 7, 3) := by decide +kernel
theorem dX5_isAct_10 : decode cX5_isAct 10 = .ok (.iconst 1, 1) := by decide +kernel
theorem dX5_isAct_11 : decode cX5_isAct 11 = .ok (.goto 4, 3) := by decide +kernel
theorem dX5_isAct_14 : decode cX5_isAct 14 = .ok (.iconst 0, 1) := by decide +kernel
theorem dX5_isAct_15 : decode cX5_isAct 15 = .ok (.ireturn, 1) := by decide +kernel
theorem dX5_isWay_0 : decode cX5_isWay 0 = .ok (.iload_n 0, 1) := by decide +kernel
theorem dX5_isWay_1 : decode cX5_isWay 1 = .ok (.ifCond .lt 13, 3) := by decide +kernel
theorem dX5_isWay_4 : decode cX5_isWay 4 = .ok (.iload_n 0, 1) := by decide +kernel
theorem dX5_isWay_5 : decode cX5_isWay 5 = .ok (.bipush 7, 2) := by decide +kernel
theorem dX5_isWay_7 : decode cX5_isWay 7 = .ok (.if_icmp .ge 7, 3) := by decide +kernel
theorem dX5_isWay_10 : decode cX5_isWay 10 = .ok (.iconst 1, 1) := by decide +kernel
theorem dX5_isWay_11 : decode cX5_isWay 11 = .ok (.goto 4, 3) := by decide +kernel
theorem dX5_isWay_14 : decode cX5_isWay 14 = .ok (.iconst 0, 1) := by decide +kernel
theorem dX5_isWay_15 : decode cX5_isWay 15 = .ok (.ireturn, 1) := by decide +kernel
theorem dX5_isAble_0 : decode cX5_isAble 0 = .ok (.iload_n 2, 1) := by decide +kernel
theorem dX5_isAble_1 : decode cX5_isAble 1 = .ok (.iconst 1, 1) := by decide +kernel
theorem dX5_isAble_2 : decode cX5_isAble 2 = .ok (.if_icmp .le 27, 3) := by decide +kernel
theorem dX5_isAble_5 : decode cX5_isAble 5 = .ok (.aload_n 0, 1) := by decide +kernel
theorem dX5_isAble_6 : decode cX5_isAble 6 = .ok (.getfield 19, 3) := by decide +kernel
theorem dX5_isAble_9 : decode cX5_isAble 9 = .ok (.bipush 10, 2) := by decide +kernel
theorem dX5_isAble_11 : decode cX5_isAble 11 = .ok (.aload_n 0, 1) := by decide +kernel
theorem dX5_isAble_12 : decode cX5_isAble 12 = .ok (.getfield 34, 3) := by decide +kernel
theorem dX5_isAble_15 : decode cX5_isAble 15 = .ok (.iload_n 1, 1) := by decide +kernel
theorem dX5_isAble_16 : decode cX5_isAble 16 = .ok (.iaload, 1) := by decide +kernel
theorem dX5_isAble_17 : decode cX5_isAble 17 = .ok (.iadd, 1) := by decide +kernel
theorem dX5_isAble_18 : decode cX5_isAble 18 = .ok (.iaload, 1) := by decide +kernel
theorem dX5_isAble_19 : decode cX5_isAble 19 = .ok (.iload_n 2, 1) := by decide +kernel
theorem dX5_isAble_20 : decode cX5_isAble 20 = .ok (.iconst 1, 1) := by decide +kernel
theorem dX5_isAble_21 : decode cX5_isAble 21 = .ok (.isub, 1) := by decide +kernel
theorem dX5_isAble_22 : decode cX5_isAble 22 = .ok (.invokestatic 84, 3) := by decide +kernel
theorem dX5_isAble_25 : decode cX5_isAble 25 = .ok (.iand, 1) := by decide +kernel
theorem dX5_isAble_26 : decode cX5_isAble 26 = .ok (.ifCond .eq 7, 3) := by decide +kernel
theorem dX5_isAble_29 : decode cX5_isAble 29 = .ok (.iconst 1, 1) := by decide +kernel
theorem dX5_isAble_30 : decode cX5_isAble 30 = .ok (.goto 4, 3) := by decide +kernel
theorem dX5_isAble_33 : decode cX5_isAble 33 = .ok (.iconst 0, 1) := by decide +kernel
theorem dX5_isAble_34 : decode cX5_isAble 34 = .ok (.ireturn, 1) := by decide +kernel
theorem dX5_isOf_0 : decode cX5_isOf 0 = .ok (.iload_n 2, 1) := by decide +kernel
theorem dX5_isOf_1 : decode cX5_isOf 1 = .ok (.ifCond .ne 17, 3) := by decide +kernel
theorem dX5_isOf_4 : decode cX5_isOf 4 = .ok (.aload_n 0, 1) := by decide +kernel
theorem dX5_isOf_5 : decode cX5_isOf 5 = .ok (.getfield 31, 3) := by decide +kernel
theorem dX5_isOf_8 : decode cX5_isOf 8 = .ok (.aload_n 0, 1) := by decide +kernel
theorem dX5_isOf_9 : decode cX5_isOf 9 = .ok (.getfield 34, 3) := by decide +kernel
theorem dX5_isOf_12 : decode cX5_isOf 12 = .ok (.iload_n 3, 1) := by decide +kernel
theorem dX5_isOf_13 : decode cX5_isOf 13 = .ok (.iaload, 1) := by decide +kernel
theorem dX5_isOf_14 : decode cX5_isOf 14 = .ok (.iaload, 1) := by decide +kernel
theorem dX5_isOf_15 : decode cX5_isOf 15 = .ok (.goto 9, 3) := by decide +kernel
theorem dX5_isOf_18 : decode cX5_isOf 18 = .ok (.aload_n 0, 1) := by decide +kernel
theorem dX5_isOf_19 : decode cX5_isOf 19 = .ok (.getfield 28, 3) := by decide +kernel
theorem dX5_isOf_22 : decode cX5_isOf 22 = .ok (.iload_n 2, 1) := by decide +kernel
theorem dX5_isOf_23 : decode cX5_isOf 23 = .ok (.iaload, 1) := by decide +kernel
theorem dX5_isOf_24 : decode cX5_isOf 24 = .ok (.iload_n 1, 1) := by decide +kernel
theorem dX5_isOf_25 : decode cX5_isOf 25 = .ok (.invokestatic 84, 3) := by decide +kernel
theorem dX5_isOf_28 : decode cX5_isOf 28 = .ok (.iand, 1) := by decide +kernel
theorem dX5_isOf_29 : decode cX5_isOf 29 = .ok (.ifCond .eq 7, 3) := by decide +kernel
theorem dX5_isOf_32 : decode cX5_isOf 32 = .ok (.iconst 1, 1) := by decide +kernel
theorem dX5_isOf_33 : decode cX5_isOf 33 = .ok (.goto 4, 3) := by decide +kernel
theorem dX5_isOf_36 : decode cX5_isOf 36 = .ok (.iconst 0, 1) := by decide +kernel
theorem dX5_isOf_37 : decode cX5_isOf 37 = .ok (.ireturn, 1) := by decide +kernel
theorem dX5_refused_0 : decode cX5_refused 0 = .ok (.aload_n 0, 1) := by decide +kernel
theorem dX5_refused_1 : decode cX5_refused 1 = .ok (.iload_n 1, 1) := by decide +kernel
theorem dX5_refused_2 : decode cX5_refused 2 = .ok (.putfield 126, 3) := by decide +kernel
theorem dX5_refused_5 : decode cX5_refused 5 = .ok (.iconst 0, 1) := by decide +kernel
theorem dX5_refused_6 : decode cX5_refused 6 = .ok (.ireturn, 1) := by decide +kernel
theorem dX5_why_0 : decode cX5_why 0 = .ok (.aload_n 0, 1) := by decide +kernel
theorem dX5_why_1 : decode cX5_why 1 = .ok (.iload_n 1, 1) := by decide +kernel
theorem dX5_why_2 : decode cX5_why 2 = .ok (.invokevirtual 129, 3) := by decide +kernel
theorem dX5_why_5 : decode cX5_why 5 = .ok (.ifCond .eq 17, 3) := by decide +kernel
theorem dX5_why_8 : decode cX5_why 8 = .ok (.iload_n 2, 1) := by decide +kernel
theorem dX5_why_9 : decode cX5_why 9 = .ok (.invokestatic 133, 3) := by decide +kernel
theorem dX5_why_12 : decode cX5_why 12 = .ok (.ifCond .eq 10, 3) := by decide +kernel
theorem dX5_why_15 : decode cX5_why 15 = .ok (.iload_n 3, 1) := by decide +kernel
theorem dX5_why_16 : decode cX5_why 16 = .ok (.invokestatic 136, 3) := by decide +kernel
theorem dX5_why_19 : decode cX5_why 19 = .ok (.ifCond .ne 5, 3) := by decide +kernel
theorem dX5_why_22 : decode cX5_why 22 = .ok (.iconst 1, 1) := by decide +kernel
theorem dX5_why_23 : decode cX5_why 23 = .ok (.ireturn, 1) := by decide +kernel
theorem dX5_why_24 : decode cX5_why 24 = .ok (.aload_n 0, 1) := by decide +kernel
theorem dX5_why_25 : decode cX5_why 25 = .ok (.iload_n 1, 1) := by decide +kernel
theorem dX5_why_26 : decode cX5_why 26 = .ok (.iload_n 3, 1) := by decide +kernel
theorem dX5_why_27 : decode cX5_why 27 = .ok (.invokevirtual 139, 3) := by decide +kernel
theorem dX5_why_30 : decode cX5_why 30 = .ok (.ifCond .ne 5, 3) := by decide +kernel
theorem dX5_why_33 : decode cX5_why 33 = .ok (.iconst 2, 1) := by decide +kernel
theorem dX5_why_34 : decode cX5_why 34 = .ok (.ireturn, 1) := by decide +kernel
theorem dX5_why_35 : decode cX5_why 35 = .ok (.aload_n 0, 1) := by decide +kernel
theorem dX5_why_36 : decode cX5_why 36 = .ok (.iload_n 2, 1) := by decide +kernel
theorem dX5_why_37 : decode cX5_why 37 = .ok (.iload_n 3, 1) := by decide +kernel
theorem dX5_why_38 : decode cX5_why 38 = .ok (.iload_n 1, 1) := by decide +kernel
theorem dX5_why_39 : decode cX5_why 39 = .ok (.invokevirtual 143, 3) := by decide +kernel
theorem dX5_why_42 : decode cX5_why 42 = .ok (.ifCond .eq 7, 3) := by decide +kernel
theorem dX5_why_45 : decode cX5_why 45 = .ok (.iconst 0, 1) := by decide +kernel
theorem dX5_why_46 : decode cX5_why 46 = .ok (.goto 4, 3) := by decide +kernel
theorem dX5_why_49 : decode cX5_why 49 = .ok (.iconst 3, 1) := by decide +kernel
theorem dX5_why_50 : decode cX5_why 50 = .ok (.ireturn, 1) := by decide +kernel
theorem dX5_begin_0 : decode cX5_begin 0 = .ok (.aload_n 0, 1) := by decide +kernel
theorem dX5_begin_1 : decode cX5_begin 1 = .ok (.iconst 0, 1) := by decide +kernel
theorem dX5_begin_2 : decode cX5_begin 2 = .ok (.putfield 126, 3) := by decide +kernel
theorem dX5_begin_5 : decode cX5_begin 5 = .ok (.aload_n 0, 1) := by decide +kernel
theorem dX5_begin_6 : decode cX5_begin 6 = .ok (.iconst 0, 1) := by decide +kernel
theorem dX5_begin_7 : decode cX5_begin 7 = .ok (.putfield 102, 3) := by decide +kernel
theorem dX5_begin_10 : decode cX5_begin 10 = .ok (.return_, 1) := by decide +kernel
theorem dX5_device_0 : decode cX5_device 0 = .ok (.aload_n 0, 1) := by decide +kernel
theorem dX5_device_1 : decode cX5_device 1 = .ok (.iload_n 1, 1) := by decide +kernel
theorem dX5_device_2 : decode cX5_device 2 = .ok (.ifCond .lt 9, 3) := by decide +kernel
theorem dX5_device_5 : decode cX5_device 5 = .ok (.iload_n 1, 1) := by decide +kernel
theorem dX5_device_6 : decode cX5_device 6 = .ok (.bipush 11, 2) := by decide +kernel
theorem dX5_device_8 : decode cX5_device 8 = .ok (.if_icmp .lt 7, 3) := by decide +kernel
theorem dX5_device_11 : decode cX5_device 11 = .ok (.iconst 1, 1) := by decide +kernel
theorem dX5_device_12 : decode cX5_device 12 = .ok (.goto 18, 3) := by decide +kernel
theorem dX5_device_15 : decode cX5_device 15 = .ok (.aload_n 0, 1) := by decide +kernel
theorem dX5_device_16 : decode cX5_device 16 = .ok (.getfield 123, 3) := by decide +kernel
theorem dX5_device_19 : decode cX5_device 19 = .ok (.sipush 300, 3) := by decide +kernel
theorem dX5_device_22 : decode cX5_device 22 = .ok (.if_icmp .ne 7, 3) := by decide +kernel
theorem dX5_device_25 : decode cX5_device 25 = .ok (.iconst 5, 1) := by decide +kernel
theorem dX5_device_26 : decode cX5_device 26 = .ok (.goto 4, 3) := by decide +kernel
theorem dX5_device_29 : decode cX5_device 29 = .ok (.iconst 0, 1) := by decide +kernel
theorem dX5_device_30 : decode cX5_device 30 = .ok (.putfield 126, 3) := by decide +kernel
theorem dX5_device_33 : decode cX5_device 33 = .ok (.aload_n 0, 1) := by decide +kernel
theorem dX5_device_34 : decode cX5_device 34 = .ok (.getfield 126, 3) := by decide +kernel
theorem dX5_device_37 : decode cX5_device 37 = .ok (.ifCond .eq 5, 3) := by decide +kernel
theorem dX5_device_40 : decode cX5_device 40 = .ok (.iconst (-1), 1) := by decide +kernel
theorem dX5_device_41 : decode cX5_device 41 = .ok (.ireturn, 1) := by decide +kernel
theorem dX5_device_42 : decode cX5_device 42 = .ok (.aload_n 0, 1) := by decide +kernel
theorem dX5_device_43 : decode cX5_device 43 = .ok (.getfield 34, 3) := by decide +kernel
theorem dX5_device_46 : decode cX5_device 46 = .ok (.aload_n 0, 1) := by decide +kernel
theorem dX5_device_47 : decode cX5_device 47 = .ok (.getfield 123, 3) := by decide +kernel
theorem dX5_device_50 : decode cX5_device 50 = .ok (.iload_n 1, 1) := by decide +kernel
theorem dX5_device_51 : decode cX5_device 51 = .ok (.iastore, 1) := by decide +kernel
theorem dX5_device_52 : decode cX5_device 52 = .ok (.aload_n 0, 1) := by decide +kernel
theorem dX5_device_53 : decode cX5_device 53 = .ok (.getfield 37, 3) := by decide +kernel
theorem dX5_device_56 : decode cX5_device 56 = .ok (.aload_n 0, 1) := by decide +kernel
theorem dX5_device_57 : decode cX5_device 57 = .ok (.getfield 123, 3) := by decide +kernel
theorem dX5_device_60 : decode cX5_device 60 = .ok (.iload_n 2, 1) := by decide +kernel
theorem dX5_device_61 : decode cX5_device 61 = .ok (.iastore, 1) := by decide +kernel
theorem dX5_device_62 : decode cX5_device 62 = .ok (.aload_n 0, 1) := by decide +kernel
theorem dX5_device_63 : decode cX5_device 63 = .ok (.dup, 1) := by decide +kernel
theorem dX5_device_64 : decode cX5_device 64 = .ok (.getfield 123, 3) := by decide +kernel
theorem dX5_device_67 : decode cX5_device 67 = .ok (.iconst 1, 1) := by decide +kernel
theorem dX5_device_68 : decode cX5_device 68 = .ok (.iadd, 1) := by decide +kernel
theorem dX5_device_69 : decode cX5_device 69 = .ok (.putfield 123, 3) := by decide +kernel
theorem dX5_device_72 : decode cX5_device 72 = .ok (.aload_n 0, 1) := by decide +kernel
theorem dX5_device_73 : decode cX5_device 73 = .ok (.getfield 123, 3) := by decide +kernel
theorem dX5_device_76 : decode cX5_device 76 = .ok (.iconst 1, 1) := by decide +kernel
theorem dX5_device_77 : decode cX5_device 77 = .ok (.isub, 1) := by decide +kernel
theorem dX5_device_78 : decode cX5_device 78 = .ok (.ireturn, 1) := by decide +kernel
theorem dX5_call_0 : decode cX5_call 0 = .ok (.aload_n 0, 1) := by decide +kernel
theorem dX5_call_1 : decode cX5_call 1 = .ok (.iload_n 1, 1) := by decide +kernel
theorem dX5_call_2 : decode cX5_call 2 = .ok (.iload_n 2, 1) := by decide +kernel
theorem dX5_call_3 : decode cX5_call 3 = .ok (.iload_n 3, 1) := by decide +kernel
theorem dX5_call_4 : decode cX5_call 4 = .ok (.invokevirtual 147, 3) := by decide +kernel
theorem dX5_call_7 : decode cX5_call 7 = .ok (.istore 5, 2) := by decide +kernel
theorem dX5_call_9 : decode cX5_call 9 = .ok (.iload 5, 2) := by decide +kernel
theorem dX5_call_11 : decode cX5_call 11 = .ok (.ifCond .eq 10, 3) := by decide +kernel
theorem dX5_call_14 : decode cX5_call 14 = .ok (.aload_n 0, 1) := by decide +kernel
theorem dX5_call_15 : decode cX5_call 15 = .ok (.iload 5, 2) := by decide +kernel
theorem dX5_call_17 : decode cX5_call 17 = .ok (.invokevirtual 151, 3) := by decide +kernel
theorem dX5_call_20 : decode cX5_call 20 = .ok (.ireturn, 1) := by decide +kernel
theorem dX5_call_21 : decode cX5_call 21 = .ok (.aload_n 0, 1) := by decide +kernel
theorem dX5_call_22 : decode cX5_call 22 = .ok (.invokevirtual 154, 3) := by decide +kernel
theorem dX5_call_25 : decode cX5_call 25 = .ok (.aload_n 0, 1) := by decide +kernel
theorem dX5_call_26 : decode cX5_call 26 = .ok (.iload_n 1, 1) := by decide +kernel
theorem dX5_call_27 : decode cX5_call 27 = .ok (.iload_n 2, 1) := by decide +kernel
theorem dX5_call_28 : decode cX5_call 28 = .ok (.iload 4, 2) := by decide +kernel
theorem dX5_call_30 : decode cX5_call 30 = .ok (.invokevirtual 157, 3) := by decide +kernel
theorem dX5_call_33 : decode cX5_call 33 = .ok (.ireturn, 1) := by decide +kernel
theorem dX5_every_0 : decode cX5_every 0 = .ok (.iload_n 1, 1) := by decide +kernel
theorem dX5_every_1 : decode cX5_every 1 = .ok (.invokestatic 133, 3) := by decide +kernel
theorem dX5_every_4 : decode cX5_every 4 = .ok (.ifCond .eq 10, 3) := by decide +kernel
theorem dX5_every_7 : decode cX5_every 7 = .ok (.iload_n 2, 1) := by decide +kernel
theorem dX5_every_8 : decode cX5_every 8 = .ok (.invokestatic 136, 3) := by decide +kernel
theorem dX5_every_11 : decode cX5_every 11 = .ok (.ifCond .ne 9, 3) := by decide +kernel
theorem dX5_every_14 : decode cX5_every 14 = .ok (.aload_n 0, 1) := by decide +kernel
theorem dX5_every_15 : decode cX5_every 15 = .ok (.iconst 1, 1) := by decide +kernel
theorem dX5_every_16 : decode cX5_every 16 = .ok (.invokevirtual 151, 3) := by decide +kernel
theorem dX5_every_19 : decode cX5_every 19 = .ok (.ireturn, 1) := by decide +kernel
theorem dX5_every_20 : decode cX5_every 20 = .ok (.iload_n 2, 1) := by decide +kernel
theorem dX5_every_21 : decode cX5_every 21 = .ok (.ifCond .eq 23, 3) := by decide +kernel
theorem dX5_every_24 : decode cX5_every 24 = .ok (.aload_n 0, 1) := by decide +kernel
theorem dX5_every_25 : decode cX5_every 25 = .ok (.getfield 28, 3) := by decide +kernel
theorem dX5_every_28 : decode cX5_every 28 = .ok (.iload_n 2, 1) := by decide +kernel
theorem dX5_every_29 : decode cX5_every 29 = .ok (.iaload, 1) := by decide +kernel
theorem dX5_every_30 : decode cX5_every 30 = .ok (.iload_n 1, 1) := by decide +kernel
theorem dX5_every_31 : decode cX5_every 31 = .ok (.invokestatic 84, 3) := by decide +kernel
theorem dX5_every_34 : decode cX5_every 34 = .ok (.iand, 1) := by decide +kernel
theorem dX5_every_35 : decode cX5_every 35 = .ok (.ifCond .ne 9, 3) := by decide +kernel
theorem dX5_every_38 : decode cX5_every 38 = .ok (.aload_n 0, 1) := by decide +kernel
theorem dX5_every_39 : decode cX5_every 39 = .ok (.iconst 3, 1) := by decide +kernel
theorem dX5_every_40 : decode cX5_every 40 = .ok (.invokevirtual 151, 3) := by decide +kernel
theorem dX5_every_43 : decode cX5_every 43 = .ok (.ireturn, 1) := by decide +kernel
theorem dX5_every_44 : decode cX5_every 44 = .ok (.aload_n 0, 1) := by decide +kernel
theorem dX5_every_45 : decode cX5_every 45 = .ok (.invokevirtual 154, 3) := by decide +kernel
theorem dX5_every_48 : decode cX5_every 48 = .ok (.iconst 0, 1) := by decide +kernel
theorem dX5_every_49 : decode cX5_every 49 = .ok (.istore 4, 2) := by decide +kernel
theorem dX5_every_51 : decode cX5_every 51 = .ok (.iconst 0, 1) := by decide +kernel
theorem dX5_every_52 : decode cX5_every 52 = .ok (.istore 5, 2) := by decide +kernel
theorem dX5_every_54 : decode cX5_every 54 = .ok (.iload 5, 2) := by decide +kernel
theorem dX5_every_56 : decode cX5_every 56 = .ok (.aload_n 0, 1) := by decide +kernel
theorem dX5_every_57 : decode cX5_every 57 = .ok (.getfield 123, 3) := by decide +kernel
theorem dX5_every_60 : decode cX5_every 60 = .ok (.if_icmp .ge 43, 3) := by decide +kernel
theorem dX5_every_63 : decode cX5_every 63 = .ok (.aload_n 0, 1) := by decide +kernel
theorem dX5_every_64 : decode cX5_every 64 = .ok (.iload 5, 2) := by decide +kernel
theorem dX5_every_66 : decode cX5_every 66 = .ok (.iload_n 2, 1) := by decide +kernel
theorem dX5_every_67 : decode cX5_every 67 = .ok (.invokevirtual 139, 3) := by decide +kernel
theorem dX5_every_70 : decode cX5_every 70 = .ok (.ifCond .eq 27, 3) := by decide +kernel
theorem dX5_every_73 : decode cX5_every 73 = .ok (.aload_n 0, 1) := by decide +kernel
theorem dX5_every_74 : decode cX5_every 74 = .ok (.iload_n 1, 1) := by decide +kernel
theorem dX5_every_75 : decode cX5_every 75 = .ok (.iload_n 2, 1) := by decide +kernel
theorem dX5_every_76 : decode cX5_every 76 = .ok (.iload 5, 2) := by decide +kernel
theorem dX5_every_78 : decode cX5_every 78 = .ok (.invokevirtual 143, 3) := by decide +kernel
theorem dX5_every_81 : decode cX5_every 81 = .ok (.ifCond .eq 16, 3) := by decide +kernel
theorem dX5_every_84 : decode cX5_every 84 = .ok (.iload 4, 2) := by decide +kernel
theorem dX5_every_86 : decode cX5_every 86 = .ok (.aload_n 0, 1) := by decide +kernel
theorem dX5_every_87 : decode cX5_every 87 = .ok (.iload 5, 2) := by decide +kernel
theorem dX5_every_89 : decode cX5_every 89 = .ok (.iload_n 1, 1) := by decide +kernel
theorem dX5_every_90 : decode cX5_every 90 = .ok (.iload_n 3, 1) := by decide +kernel
theorem dX5_every_91 : decode cX5_every 91 = .ok (.invokevirtual 157, 3) := by decide +kernel
theorem dX5_every_94 : decode cX5_every 94 = .ok (.iadd, 1) := by decide +kernel
theorem dX5_every_95 : decode cX5_every 95 = .ok (.istore 4, 2) := by decide +kernel
theorem dX5_every_97 : decode cX5_every 97 = .ok (.iinc 5 1, 3) := by decide +kernel
theorem dX5_every_100 : decode cX5_every 100 = .ok (.goto (-46), 3) := by decide +kernel
theorem dX5_every_103 : decode cX5_every 103 = .ok (.iload 4, 2) := by decide +kernel
theorem dX5_every_105 : decode cX5_every 105 = .ok (.ireturn, 1) := by decide +kernel
theorem dX5_feed_0 : decode cX5_feed 0 = .ok (.aload_n 0, 1) := by decide +kernel
theorem dX5_feed_1 : decode cX5_feed 1 = .ok (.iload_n 1, 1) := by decide +kernel
theorem dX5_feed_2 : decode cX5_feed 2 = .ok (.invokevirtual 129, 3) := by decide +kernel
theorem dX5_feed_5 : decode cX5_feed 5 = .ok (.ifCond .ne 9, 3) := by decide +kernel
theorem dX5_feed_8 : decode cX5_feed 8 = .ok (.aload_n 0, 1) := by decide +kernel
theorem dX5_feed_9 : decode cX5_feed 9 = .ok (.iconst 1, 1) := by decide +kernel
theorem dX5_feed_10 : decode cX5_feed 10 = .ok (.invokevirtual 151, 3) := by decide +kernel
theorem dX5_feed_13 : decode cX5_feed 13 = .ok (.ireturn, 1) := by decide +kernel
theorem dX5_feed_14 : decode cX5_feed 14 = .ok (.aload_n 0, 1) := by decide +kernel
theorem dX5_feed_15 : decode cX5_feed 15 = .ok (.invokevirtual 154, 3) := by decide +kernel
theorem dX5_feed_18 : decode cX5_feed 18 = .ok (.iconst 0, 1) := by decide +kernel
theorem dX5_feed_19 : decode cX5_feed 19 = .ok (.istore_n 3, 1) := by decide +kernel
theorem dX5_feed_20 : decode cX5_feed 20 = .ok (.bipush 24, 2) := by decide +kernel
theorem dX5_feed_22 : decode cX5_feed 22 = .ok (.istore 4, 2) := by decide +kernel
theorem dX5_feed_24 : decode cX5_feed 24 = .ok (.iload 4, 2) := by decide +kernel
theorem dX5_feed_26 : decode cX5_feed 26 = .ok (.ifCond .lt 65, 3) := by decide +kernel
theorem dX5_feed_29 : decode cX5_feed 29 = .ok (.iload_n 2, 1) := by decide +kernel
theorem dX5_feed_30 : decode cX5_feed 30 = .ok (.iload 4, 2) := by decide +kernel
theorem dX5_feed_32 : decode cX5_feed 32 = .ok (.ishr, 1) := by decide +kernel
theorem dX5_feed_33 : decode cX5_feed 33 = .ok (.sipush 255, 3) := by decide +kernel
theorem dX5_feed_36 : decode cX5_feed 36 = .ok (.iand, 1) := by decide +kernel
theorem dX5_feed_37 : decode cX5_feed 37 = .ok (.istore 5, 2) := by decide +kernel
theorem dX5_feed_39 : decode cX5_feed 39 = .ok (.aload_n 0, 1) := by decide +kernel
theorem dX5_feed_40 : decode cX5_feed 40 = .ok (.iload_n 1, 1) := by decide +kernel
theorem dX5_feed_41 : decode cX5_feed 41 = .ok (.iload 5, 2) := by decide +kernel
theorem dX5_feed_43 : decode cX5_feed 43 = .ok (.bipush 15, 2) := by decide +kernel
theorem dX5_feed_45 : decode cX5_feed 45 = .ok (.iand, 1) := by decide +kernel
theorem dX5_feed_46 : decode cX5_feed 46 = .ok (.iload 5, 2) := by decide +kernel
theorem dX5_feed_48 : decode cX5_feed 48 = .ok (.iconst 4, 1) := by decide +kernel
theorem dX5_feed_49 : decode cX5_feed 49 = .ok (.ishr, 1) := by decide +kernel
theorem dX5_feed_50 : decode cX5_feed 50 = .ok (.bipush 7, 2) := by decide +kernel
theorem dX5_feed_52 : decode cX5_feed 52 = .ok (.iand, 1) := by decide +kernel
theorem dX5_feed_53 : decode cX5_feed 53 = .ok (.invokevirtual 147, 3) := by decide +kernel
theorem dX5_feed_56 : decode cX5_feed 56 = .ok (.ifCond .ne 29, 3) := by decide +kernel
theorem dX5_feed_59 : decode cX5_feed 59 = .ok (.iload_n 3, 1) := by decide +kernel
theorem dX5_feed_60 : decode cX5_feed 60 = .ok (.aload_n 0, 1) := by decide +kernel
theorem dX5_feed_61 : decode cX5_feed 61 = .ok (.iload_n 1, 1) := by decide +kernel
theorem dX5_feed_62 : decode cX5_feed 62 = .ok (.iload 5, 2) := by decide +kernel
theorem dX5_feed_64 : decode cX5_feed 64 = .ok (.bipush 15, 2) := by decide +kernel
theorem dX5_feed_66 : decode cX5_feed 66 = .ok (.iand, 1) := by decide +kernel
theorem dX5_feed_67 : decode cX5_feed 67 = .ok (.iload 5, 2) := by decide +kernel
theorem dX5_feed_69 : decode cX5_feed 69 = .ok (.bipush 127, 2) := by decide +kernel
theorem dX5_feed_71 : decode cX5_feed 71 = .ok (.if_icmp .le 8, 3) := by decide +kernel
theorem dX5_feed_74 : decode cX5_feed 74 = .ok (.iload_n 3, 1) := by decide +kernel
theorem dX5_feed_75 : decode cX5_feed 75 = .ok (.ineg, 1) := by decide +kernel
theorem dX5_feed_76 : decode cX5_feed 76 = .ok (.goto 4, 3) := by decide +kernel
theorem dX5_feed_79 : decode cX5_feed 79 = .ok (.iload_n 3, 1) := by decide +kernel
theorem dX5_feed_80 : decode cX5_feed 80 = .ok (.invokevirtual 157, 3) := by decide +kernel
theorem dX5_feed_83 : decode cX5_feed 83 = .ok (.iadd, 1) := by decide +kernel
theorem dX5_feed_84 : decode cX5_feed 84 = .ok (.istore_n 3, 1) := by decide +kernel
theorem dX5_feed_85 : decode cX5_feed 85 = .ok (.iinc 4 (-8), 3) := by decide +kernel
theorem dX5_feed_88 : decode cX5_feed 88 = .ok (.goto (-64), 3) := by decide +kernel
theorem dX5_feed_91 : decode cX5_feed 91 = .ok (.iload_n 3, 1) := by decide +kernel
theorem dX5_feed_92 : decode cX5_feed 92 = .ok (.ireturn, 1) := by decide +kernel
theorem dX5_link_0 : decode cX5_link 0 = .ok (.aload_n 0, 1) := by decide +kernel
theorem dX5_link_1 : decode cX5_link 1 = .ok (.aload_n 0, 1) := by decide +kernel
theorem dX5_link_2 : decode cX5_link 2 = .ok (.iload_n 1, 1) := by decide +kernel
theorem dX5_link_3 : decode cX5_link 3 = .ok (.invokevirtual 129, 3) := by decide +kernel
theorem dX5_link_6 : decode cX5_link 6 = .ok (.ifCond .eq 11, 3) := by decide +kernel
theorem dX5_link_9 : decode cX5_link 9 = .ok (.aload_n 0, 1) := by decide +kernel
theorem dX5_link_10 : decode cX5_link 10 = .ok (.iload_n 2, 1) := by decide +kernel
theorem dX5_link_11 : decode cX5_link 11 = .ok (.invokevirtual 129, 3) := by decide +kernel
theorem dX5_link_14 : decode cX5_link 14 = .ok (.ifCond .ne 7, 3) := by decide +kernel
theorem dX5_link_17 : decode cX5_link 17 = .ok (.iconst 1, 1) := by decide +kernel
theorem dX5_link_18 : decode cX5_link 18 = .ok (.goto 18, 3) := by decide +kernel
theorem dX5_link_21 : decode cX5_link 21 = .ok (.aload_n 0, 1) := by decide +kernel
theorem dX5_link_22 : decode cX5_link 22 = .ok (.getfield 160, 3) := by decide +kernel
theorem dX5_link_25 : decode cX5_link 25 = .ok (.sipush 400, 3) := by decide +kernel
theorem dX5_link_28 : decode cX5_link 28 = .ok (.if_icmp .ne 7, 3) := by decide +kernel
theorem dX5_link_31 : decode cX5_link 31 = .ok (.iconst 5, 1) := by decide +kernel
theorem dX5_link_32 : decode cX5_link 32 = .ok (.goto 4, 3) := by decide +kernel
theorem dX5_link_35 : decode cX5_link 35 = .ok (.iconst 0, 1) := by decide +kernel
theorem dX5_link_36 : decode cX5_link 36 = .ok (.putfield 126, 3) := by decide +kernel
theorem dX5_link_39 : decode cX5_link 39 = .ok (.aload_n 0, 1) := by decide +kernel
theorem dX5_link_40 : decode cX5_link 40 = .ok (.getfield 126, 3) := by decide +kernel
theorem dX5_link_43 : decode cX5_link 43 = .ok (.ifCond .eq 5, 3) := by decide +kernel
theorem dX5_link_46 : decode cX5_link 46 = .ok (.iconst (-1), 1) := by decide +kernel
theorem dX5_link_47 : decode cX5_link 47 = .ok (.ireturn, 1) := by decide +kernel
theorem dX5_link_48 : decode cX5_link 48 = .ok (.aload_n 0, 1) := by decide +kernel
theorem dX5_link_49 : decode cX5_link 49 = .ok (.getfield 46, 3) := by decide +kernel
theorem dX5_link_52 : decode cX5_link 52 = .ok (.aload_n 0, 1) := by decide +kernel
theorem dX5_link_53 : decode cX5_link 53 = .ok (.getfield 160, 3) := by decide +kernel
theorem dX5_link_56 : decode cX5_link 56 = .ok (.iload_n 1, 1) := by decide +kernel
theorem dX5_link_57 : decode cX5_link 57 = .ok (.iastore, 1) := by decide +kernel
theorem dX5_link_58 : decode cX5_link 58 = .ok (.aload_n 0, 1) := by decide +kernel
theorem dX5_link_59 : decode cX5_link 59 = .ok (.getfield 49, 3) := by decide +kernel
theorem dX5_link_62 : decode cX5_link 62 = .ok (.aload_n 0, 1) := by decide +kernel
theorem dX5_link_63 : decode cX5_link 63 = .ok (.getfield 160, 3) := by decide +kernel
theorem dX5_link_66 : decode cX5_link 66 = .ok (.iload_n 2, 1) := by decide +kernel
theorem dX5_link_67 : decode cX5_link 67 = .ok (.iastore, 1) := by decide +kernel
theorem dX5_link_68 : decode cX5_link 68 = .ok (.aload_n 0, 1) := by decide +kernel
theorem dX5_link_69 : decode cX5_link 69 = .ok (.dup, 1) := by decide +kernel
theorem dX5_link_70 : decode cX5_link 70 = .ok (.getfield 160, 3) := by decide +kernel
theorem dX5_link_73 : decode cX5_link 73 = .ok (.iconst 1, 1) := by decide +kernel
theorem dX5_link_74 : decode cX5_link 74 = .ok (.iadd, 1) := by decide +kernel
theorem dX5_link_75 : decode cX5_link 75 = .ok (.putfield 160, 3) := by decide +kernel
theorem dX5_link_78 : decode cX5_link 78 = .ok (.aload_n 0, 1) := by decide +kernel
theorem dX5_link_79 : decode cX5_link 79 = .ok (.getfield 160, 3) := by decide +kernel
theorem dX5_link_82 : decode cX5_link 82 = .ok (.iconst 1, 1) := by decide +kernel
theorem dX5_link_83 : decode cX5_link 83 = .ok (.isub, 1) := by decide +kernel
theorem dX5_link_84 : decode cX5_link 84 = .ok (.ireturn, 1) := by decide +kernel
theorem dX5_takes_0 : decode cX5_takes 0 = .ok (.aload_n 0, 1) := by decide +kernel
theorem dX5_takes_1 : decode cX5_takes 1 = .ok (.getfield 43, 3) := by decide +kernel
theorem dX5_takes_4 : decode cX5_takes 4 = .ok (.iload_n 1, 1) := by decide +kernel
theorem dX5_takes_5 : decode cX5_takes 5 = .ok (.dup2, 1) := by decide +kernel
theorem dX5_takes_6 : decode cX5_takes 6 = .ok (.iaload, 1) := by decide +kernel
theorem dX5_takes_7 : decode cX5_takes 7 = .ok (.iconst 1, 1) := by decide +kernel
theorem dX5_takes_8 : decode cX5_takes 8 = .ok (.iadd, 1) := by decide +kernel
theorem dX5_takes_9 : decode cX5_takes 9 = .ok (.iastore, 1) := by decide +kernel
theorem dX5_takes_10 : decode cX5_takes 10 = .ok (.aload_n 0, 1) := by decide +kernel
theorem dX5_takes_11 : decode cX5_takes 11 = .ok (.iload_n 1, 1) := by decide +kernel
theorem dX5_takes_12 : decode cX5_takes 12 = .ok (.aload_n 0, 1) := by decide +kernel
theorem dX5_takes_13 : decode cX5_takes 13 = .ok (.iload_n 1, 1) := by decide +kernel
theorem dX5_takes_14 : decode cX5_takes 14 = .ok (.iconst 3, 1) := by decide +kernel
theorem dX5_takes_15 : decode cX5_takes 15 = .ok (.invokevirtual 139, 3) := by decide +kernel
theorem dX5_takes_18 : decode cX5_takes 18 = .ok (.ifCond .eq 7, 3) := by decide +kernel
theorem dX5_takes_21 : decode cX5_takes 21 = .ok (.iconst 4, 1) := by decide +kernel
theorem dX5_takes_22 : decode cX5_takes 22 = .ok (.goto 18, 3) := by decide +kernel
theorem dX5_takes_25 : decode cX5_takes 25 = .ok (.aload_n 0, 1) := by decide +kernel
theorem dX5_takes_26 : decode cX5_takes 26 = .ok (.iload_n 1, 1) := by decide +kernel
theorem dX5_takes_27 : decode cX5_takes 27 = .ok (.iconst 2, 1) := by decide +kernel
theorem dX5_takes_28 : decode cX5_takes 28 = .ok (.invokevirtual 139, 3) := by decide +kernel
theorem dX5_takes_31 : decode cX5_takes 31 = .ok (.ifCond .eq 7, 3) := by decide +kernel
theorem dX5_takes_34 : decode cX5_takes 34 = .ok (.iconst 1, 1) := by decide +kernel
theorem dX5_takes_35 : decode cX5_takes 35 = .ok (.goto 5, 3) := by decide +kernel
theorem dX5_takes_38 : decode cX5_takes 38 = .ok (.bipush 6, 2) := by decide +kernel
theorem dX5_takes_40 : decode cX5_takes 40 = .ok (.iload_n 2, 1) := by decide +kernel
theorem dX5_takes_41 : decode cX5_takes 41 = .ok (.invokevirtual 157, 3) := by decide +kernel
theorem dX5_takes_44 : decode cX5_takes 44 = .ok (.ireturn, 1) := by decide +kernel
theorem dX5_pass_0 : decode cX5_pass 0 = .ok (.aload_n 0, 1) := by decide +kernel
theorem dX5_pass_1 : decode cX5_pass 1 = .ok (.iload_n 1, 1) := by decide +kernel
theorem dX5_pass_2 : decode cX5_pass 2 = .ok (.invokevirtual 129, 3) := by decide +kernel
theorem dX5_pass_5 : decode cX5_pass 5 = .ok (.ifCond .ne 9, 3) := by decide +kernel
theorem dX5_pass_8 : decode cX5_pass 8 = .ok (.aload_n 0, 1) := by decide +kernel
theorem dX5_pass_9 : decode cX5_pass 9 = .ok (.iconst 1, 1) := by decide +kernel
theorem dX5_pass_10 : decode cX5_pass 10 = .ok (.invokevirtual 151, 3) := by decide +kernel
theorem dX5_pass_13 : decode cX5_pass 13 = .ok (.ireturn, 1) := by decide +kernel
theorem dX5_pass_14 : decode cX5_pass 14 = .ok (.aload_n 0, 1) := by decide +kernel
theorem dX5_pass_15 : decode cX5_pass 15 = .ok (.invokevirtual 154, 3) := by decide +kernel
theorem dX5_pass_18 : decode cX5_pass 18 = .ok (.iconst 0, 1) := by decide +kernel
theorem dX5_pass_19 : decode cX5_pass 19 = .ok (.istore_n 3, 1) := by decide +kernel
theorem dX5_pass_20 : decode cX5_pass 20 = .ok (.iload_n 3, 1) := by decide +kernel
theorem dX5_pass_21 : decode cX5_pass 21 = .ok (.aload_n 0, 1) := by decide +kernel
theorem dX5_pass_22 : decode cX5_pass 22 = .ok (.getfield 123, 3) := by decide +kernel
theorem dX5_pass_25 : decode cX5_pass 25 = .ok (.if_icmp .ge 16, 3) := by decide +kernel
theorem dX5_pass_28 : decode cX5_pass 28 = .ok (.aload_n 0, 1) := by decide +kernel
theorem dX5_pass_29 : decode cX5_pass 29 = .ok (.getfield 58, 3) := by decide +kernel
theorem dX5_pass_32 : decode cX5_pass 32 = .ok (.iload_n 3, 1) := by decide +kernel
theorem dX5_pass_33 : decode cX5_pass 33 = .ok (.iconst 0, 1) := by decide +kernel
theorem dX5_pass_34 : decode cX5_pass 34 = .ok (.bastore, 1) := by decide +kernel
theorem dX5_pass_35 : decode cX5_pass 35 = .ok (.iinc 3 1, 3) := by decide +kernel
theorem dX5_pass_38 : decode cX5_pass 38 = .ok (.goto (-18), 3) := by decide +kernel
theorem dX5_pass_41 : decode cX5_pass 41 = .ok (.aload_n 0, 1) := by decide +kernel
theorem dX5_pass_42 : decode cX5_pass 42 = .ok (.getfield 52, 3) := by decide +kernel
theorem dX5_pass_45 : decode cX5_pass 45 = .ok (.iconst 0, 1) := by decide +kernel
theorem dX5_pass_46 : decode cX5_pass 46 = .ok (.iload_n 1, 1) := by decide +kernel
theorem dX5_pass_47 : decode cX5_pass 47 = .ok (.iastore, 1) := by decide +kernel
theorem dX5_pass_48 : decode cX5_pass 48 = .ok (.aload_n 0, 1) := by decide +kernel
theorem dX5_pass_49 : decode cX5_pass 49 = .ok (.getfield 58, 3) := by decide +kernel
theorem dX5_pass_52 : decode cX5_pass 52 = .ok (.iload_n 1, 1) := by decide +kernel
theorem dX5_pass_53 : decode cX5_pass 53 = .ok (.iconst 1, 1) := by decide +kernel
theorem dX5_pass_54 : decode cX5_pass 54 = .ok (.bastore, 1) := by decide +kernel
theorem dX5_pass_55 : decode cX5_pass 55 = .ok (.aload_n 0, 1) := by decide +kernel
theorem dX5_pass_56 : decode cX5_pass 56 = .ok (.getfield 55, 3) := by decide +kernel
theorem dX5_pass_59 : decode cX5_pass 59 = .ok (.iconst 0, 1) := by decide +kernel
theorem dX5_pass_60 : decode cX5_pass 60 = .ok (.aload_n 0, 1) := by decide +kernel
theorem dX5_pass_61 : decode cX5_pass 61 = .ok (.iload_n 1, 1) := by decide +kernel
theorem dX5_pass_62 : decode cX5_pass 62 = .ok (.iload_n 2, 1) := by decide +kernel
theorem dX5_pass_63 : decode cX5_pass 63 = .ok (.invokevirtual 163, 3) := by decide +kernel
theorem dX5_pass_66 : decode cX5_pass 66 = .ok (.iastore, 1) := by decide +kernel
theorem dX5_pass_67 : decode cX5_pass 67 = .ok (.iconst 1, 1) := by decide +kernel
theorem dX5_pass_68 : decode cX5_pass 68 = .ok (.istore_n 3, 1) := by decide +kernel
theorem dX5_pass_69 : decode cX5_pass 69 = .ok (.iconst 0, 1) := by decide +kernel
theorem dX5_pass_70 : decode cX5_pass 70 = .ok (.istore 4, 2) := by decide +kernel
theorem dX5_pass_72 : decode cX5_pass 72 = .ok (.iload 4, 2) := by decide +kernel
theorem dX5_pass_74 : decode cX5_pass 74 = .ok (.iload_n 3, 1) := by decide +kernel
theorem dX5_pass_75 : decode cX5_pass 75 = .ok (.if_icmp .ge 115, 3) := by decide +kernel
theorem dX5_pass_78 : decode cX5_pass 78 = .ok (.iconst 0, 1) := by decide +kernel
theorem dX5_pass_79 : decode cX5_pass 79 = .ok (.istore 5, 2) := by decide +kernel
theorem dX5_pass_81 : decode cX5_pass 81 = .ok (.iload 5, 2) := by decide +kernel
theorem dX5_pass_83 : decode cX5_pass 83 = .ok (.aload_n 0, 1) := by decide +kernel
theorem dX5_pass_84 : decode cX5_pass 84 = .ok (.getfield 160, 3) := by decide +kernel
theorem dX5_pass_87 : decode cX5_pass 87 = .ok (.if_icmp .ge 97, 3) := by decide +kernel
theorem dX5_pass_90 : decode cX5_pass 90 = .ok (.aload_n 0, 1) := by decide +kernel
theorem dX5_pass_91 : decode cX5_pass 91 = .ok (.getfield 46, 3) := by decide +kernel
theorem dX5_pass_94 : decode cX5_pass 94 = .ok (.iload 5, 2) := by decide +kernel
theorem dX5_pass_96 : decode cX5_pass 96 = .ok (.iaload, 1) := by decide +kernel
theorem dX5_pass_97 : decode cX5_pass 97 = .ok (.aload_n 0, 1) := by decide +kernel
theorem dX5_pass_98 : decode cX5_pass 98 = .ok (.getfield 52, 3) := by decide +kernel
theorem dX5_pass_101 : decode cX5_pass 101 = .ok (.iload 4, 2) := by decide +kernel
theorem dX5_pass_103 : decode cX5_pass 103 = .ok (.iaload, 1) := by decide +kernel
theorem dX5_pass_104 : decode cX5_pass 104 = .ok (.if_icmp .ne 74, 3) := by decide +kernel
theorem dX5_pass_107 : decode cX5_pass 107 = .ok (.aload_n 0, 1) := by decide +kernel
theorem dX5_pass_108 : decode cX5_pass 108 = .ok (.getfield 58, 3) := by decide +kernel
theorem dX5_pass_111 : decode cX5_pass 111 = .ok (.aload_n 0, 1) := by decide +kernel
theorem dX5_pass_112 : decode cX5_pass 112 = .ok (.getfield 49, 3) := by decide +kernel
theorem dX5_pass_115 : decode cX5_pass 115 = .ok (.iload 5, 2) := by decide +kernel
theorem dX5_pass_117 : decode cX5_pass 117 = .ok (.iaload, 1) := by decide +kernel
theorem dX5_pass_118 : decode cX5_pass 118 = .ok (.baload, 1) := by decide +kernel
theorem dX5_pass_119 : decode cX5_pass 119 = .ok (.ifCond .eq 6, 3) := by decide +kernel
theorem dX5_pass_122 : decode cX5_pass 122 = .ok (.goto 56, 3) := by decide +kernel
theorem dX5_pass_125 : decode cX5_pass 125 = .ok (.aload_n 0, 1) := by decide +kernel
theorem dX5_pass_126 : decode cX5_pass 126 = .ok (.getfield 58, 3) := by decide +kernel
theorem dX5_pass_129 : decode cX5_pass 129 = .ok (.aload_n 0, 1) := by decide +kernel
theorem dX5_pass_130 : decode cX5_pass 130 = .ok (.getfield 49, 3) := by decide +kernel
theorem dX5_pass_133 : decode cX5_pass 133 = .ok (.iload 5, 2) := by decide +kernel
theorem dX5_pass_135 : decode cX5_pass 135 = .ok (.iaload, 1) := by decide +kernel
theorem dX5_pass_136 : decode cX5_pass 136 = .ok (.iconst 1, 1) := by decide +kernel
theorem dX5_pass_137 : decode cX5_pass 137 = .ok (.bastore, 1) := by decide +kernel
theorem dX5_pass_138 : decode cX5_pass 138 = .ok (.aload_n 0, 1) := by decide +kernel
theorem dX5_pass_139 : decode cX5_pass 139 = .ok (.getfield 52, 3) := by decide +kernel
theorem dX5_pass_142 : decode cX5_pass 142 = .ok (.iload_n 3, 1) := by decide +kernel
theorem dX5_pass_143 : decode cX5_pass 143 = .ok (.aload_n 0, 1) := by decide +kernel
theorem dX5_pass_144 : decode cX5_pass 144 = .ok (.getfield 49, 3) := by decide +kernel
theorem dX5_pass_147 : decode cX5_pass 147 = .ok (.iload 5, 2) := by decide +kernel
theorem dX5_pass_149 : decode cX5_pass 149 = .ok (.iaload, 1) := by decide +kernel
theorem dX5_pass_150 : decode cX5_pass 150 = .ok (.iastore, 1) := by decide +kernel
theorem dX5_pass_151 : decode cX5_pass 151 = .ok (.aload_n 0, 1) := by decide +kernel
theorem dX5_pass_152 : decode cX5_pass 152 = .ok (.getfield 55, 3) := by decide +kernel
theorem dX5_pass_155 : decode cX5_pass 155 = .ok (.iload_n 3, 1) := by decide +kernel
theorem dX5_pass_156 : decode cX5_pass 156 = .ok (.aload_n 0, 1) := by decide +kernel
theorem dX5_pass_157 : decode cX5_pass 157 = .ok (.aload_n 0, 1) := by decide +kernel
theorem dX5_pass_158 : decode cX5_pass 158 = .ok (.getfield 49, 3) := by decide +kernel
theorem dX5_pass_161 : decode cX5_pass 161 = .ok (.iload 5, 2) := by decide +kernel
theorem dX5_pass_163 : decode cX5_pass 163 = .ok (.iaload, 1) := by decide +kernel
theorem dX5_pass_164 : decode cX5_pass 164 = .ok (.aload_n 0, 1) := by decide +kernel
theorem dX5_pass_165 : decode cX5_pass 165 = .ok (.getfield 55, 3) := by decide +kernel
theorem dX5_pass_168 : decode cX5_pass 168 = .ok (.iload 4, 2) := by decide +kernel
theorem dX5_pass_170 : decode cX5_pass 170 = .ok (.iaload, 1) := by decide +kernel
theorem dX5_pass_171 : decode cX5_pass 171 = .ok (.invokevirtual 163, 3) := by decide +kernel
theorem dX5_pass_174 : decode cX5_pass 174 = .ok (.iastore, 1) := by decide +kernel
theorem dX5_pass_175 : decode cX5_pass 175 = .ok (.iinc 3 1, 3) := by decide +kernel
theorem dX5_pass_178 : decode cX5_pass 178 = .ok (.iinc 5 1, 3) := by decide +kernel
theorem dX5_pass_181 : decode cX5_pass 181 = .ok (.goto (-100), 3) := by decide +kernel
theorem dX5_pass_184 : decode cX5_pass 184 = .ok (.iinc 4 1, 3) := by decide +kernel
theorem dX5_pass_187 : decode cX5_pass 187 = .ok (.goto (-115), 3) := by decide +kernel
theorem dX5_pass_190 : decode cX5_pass 190 = .ok (.iload_n 3, 1) := by decide +kernel
theorem dX5_pass_191 : decode cX5_pass 191 = .ok (.ireturn, 1) := by decide +kernel
theorem dX5_able_0 : decode cX5_able 0 = .ok (.aload_n 0, 1) := by decide +kernel
theorem dX5_able_1 : decode cX5_able 1 = .ok (.iload_n 1, 1) := by decide +kernel
theorem dX5_able_2 : decode cX5_able 2 = .ok (.invokevirtual 129, 3) := by decide +kernel
theorem dX5_able_5 : decode cX5_able 5 = .ok (.ifCond .eq 10, 3) := by decide +kernel
theorem dX5_able_8 : decode cX5_able 8 = .ok (.iload_n 2, 1) := by decide +kernel
theorem dX5_able_9 : decode cX5_able 9 = .ok (.invokestatic 136, 3) := by decide +kernel
theorem dX5_able_12 : decode cX5_able 12 = .ok (.ifCond .ne 7, 3) := by decide +kernel
theorem dX5_able_15 : decode cX5_able 15 = .ok (.iconst (-1), 1) := by decide +kernel
theorem dX5_able_16 : decode cX5_able 16 = .ok (.goto 17, 3) := by decide +kernel
theorem dX5_able_19 : decode cX5_able 19 = .ok (.aload_n 0, 1) := by decide +kernel
theorem dX5_able_20 : decode cX5_able 20 = .ok (.iload_n 1, 1) := by decide +kernel
theorem dX5_able_21 : decode cX5_able 21 = .ok (.iload_n 2, 1) := by decide +kernel
theorem dX5_able_22 : decode cX5_able 22 = .ok (.invokevirtual 139, 3) := by decide +kernel
theorem dX5_able_25 : decode cX5_able 25 = .ok (.ifCond .eq 7, 3) := by decide +kernel
theorem dX5_able_28 : decode cX5_able 28 = .ok (.iconst 1, 1) := by decide +kernel
theorem dX5_able_29 : decode cX5_able 29 = .ok (.goto 4, 3) := by decide +kernel
theorem dX5_able_32 : decode cX5_able 32 = .ok (.iconst 0, 1) := by decide +kernel
theorem dX5_able_33 : decode cX5_able 33 = .ok (.ireturn, 1) := by decide +kernel
theorem dX5_chain_0 : decode cX5_chain 0 = .ok (.iload_n 1, 1) := by decide +kernel
theorem dX5_chain_1 : decode cX5_chain 1 = .ok (.ifCond .lt 17, 3) := by decide +kernel
theorem dX5_chain_4 : decode cX5_chain 4 = .ok (.iload_n 1, 1) := by decide +kernel
theorem dX5_chain_5 : decode cX5_chain 5 = .ok (.bipush 64, 2) := by decide +kernel
theorem dX5_chain_7 : decode cX5_chain 7 = .ok (.if_icmp .ge 11, 3) := by decide +kernel
theorem dX5_chain_10 : decode cX5_chain 10 = .ok (.iload_n 1, 1) := by decide +kernel
theorem dX5_chain_11 : decode cX5_chain 11 = .ok (.aload_n 0, 1) := by decide +kernel
theorem dX5_chain_12 : decode cX5_chain 12 = .ok (.getfield 102, 3) := by decide +kernel
theorem dX5_chain_15 : decode cX5_chain 15 = .ok (.if_icmp .lt 7, 3) := by decide +kernel
theorem dX5_chain_18 : decode cX5_chain 18 = .ok (.iconst (-1), 1) := by decide +kernel
theorem dX5_chain_19 : decode cX5_chain 19 = .ok (.goto 9, 3) := by decide +kernel
theorem dX5_chain_22 : decode cX5_chain 22 = .ok (.aload_n 0, 1) := by decide +kernel
theorem dX5_chain_23 : decode cX5_chain 23 = .ok (.getfield 62, 3) := by decide +kernel
theorem dX5_chain_26 : decode cX5_chain 26 = .ok (.iload_n 1, 1) := by decide +kernel
theorem dX5_chain_27 : decode cX5_chain 27 = .ok (.iaload, 1) := by decide +kernel
theorem dX5_chain_28 : decode cX5_chain 28 = .ok (.ireturn, 1) := by decide +kernel
theorem dX5_ran_0 : decode cX5_ran 0 = .ok (.aload_n 0, 1) := by decide +kernel
theorem dX5_ran_1 : decode cX5_ran 1 = .ok (.getfield 102, 3) := by decide +kernel
theorem dX5_ran_4 : decode cX5_ran 4 = .ok (.ireturn, 1) := by decide +kernel
theorem dX5_state_0 : decode cX5_state 0 = .ok (.aload_n 0, 1) := by decide +kernel
theorem dX5_state_1 : decode cX5_state 1 = .ok (.iload_n 1, 1) := by decide +kernel
theorem dX5_state_2 : decode cX5_state 2 = .ok (.invokevirtual 129, 3) := by decide +kernel
theorem dX5_state_5 : decode cX5_state 5 = .ok (.ifCond .eq 12, 3) := by decide +kernel
theorem dX5_state_8 : decode cX5_state 8 = .ok (.iload_n 2, 1) := by decide +kernel
theorem dX5_state_9 : decode cX5_state 9 = .ok (.ifCond .lt 8, 3) := by decide +kernel
theorem dX5_state_12 : decode cX5_state 12 = .ok (.iload_n 2, 1) := by decide +kernel
theorem dX5_state_13 : decode cX5_state 13 = .ok (.iconst 5, 1) := by decide +kernel
theorem dX5_state_14 : decode cX5_state 14 = .ok (.if_icmp .le 9, 3) := by decide +kernel
theorem dX5_state_17 : decode cX5_state 17 = .ok (.aload_n 0, 1) := by decide +kernel
theorem dX5_state_18 : decode cX5_state 18 = .ok (.iconst 1, 1) := by decide +kernel
theorem dX5_state_19 : decode cX5_state 19 = .ok (.invokevirtual 151, 3) := by decide +kernel
theorem dX5_state_22 : decode cX5_state 22 = .ok (.ireturn, 1) := by decide +kernel
theorem dX5_state_23 : decode cX5_state 23 = .ok (.aload_n 0, 1) := by decide +kernel
theorem dX5_state_24 : decode cX5_state 24 = .ok (.iconst 0, 1) := by decide +kernel
theorem dX5_state_25 : decode cX5_state 25 = .ok (.putfield 126, 3) := by decide +kernel
theorem dX5_state_28 : decode cX5_state 28 = .ok (.iload_n 2, 1) := by decide +kernel
theorem dX5_state_29 : decode cX5_state 29 = .ok (.ifCond .ne 10, 3) := by decide +kernel
theorem dX5_state_32 : decode cX5_state 32 = .ok (.aload_n 0, 1) := by decide +kernel
theorem dX5_state_33 : decode cX5_state 33 = .ok (.getfield 34, 3) := by decide +kernel
theorem dX5_state_36 : decode cX5_state 36 = .ok (.iload_n 1, 1) := by decide +kernel
theorem dX5_state_37 : decode cX5_state 37 = .ok (.iaload, 1) := by decide +kernel
theorem dX5_state_38 : decode cX5_state 38 = .ok (.ireturn, 1) := by decide +kernel
theorem dX5_state_39 : decode cX5_state 39 = .ok (.iload_n 2, 1) := by decide +kernel
theorem dX5_state_40 : decode cX5_state 40 = .ok (.iconst 1, 1) := by decide +kernel
theorem dX5_state_41 : decode cX5_state 41 = .ok (.if_icmp .ne 10, 3) := by decide +kernel
theorem dX5_state_44 : decode cX5_state 44 = .ok (.aload_n 0, 1) := by decide +kernel
theorem dX5_state_45 : decode cX5_state 45 = .ok (.getfield 37, 3) := by decide +kernel
theorem dX5_state_48 : decode cX5_state 48 = .ok (.iload_n 1, 1) := by decide +kernel
theorem dX5_state_49 : decode cX5_state 49 = .ok (.iaload, 1) := by decide +kernel
theorem dX5_state_50 : decode cX5_state 50 = .ok (.ireturn, 1) := by decide +kernel
theorem dX5_state_51 : decode cX5_state 51 = .ok (.iload_n 2, 1) := by decide +kernel
theorem dX5_state_52 : decode cX5_state 52 = .ok (.iconst 2, 1) := by decide +kernel
theorem dX5_state_53 : decode cX5_state 53 = .ok (.if_icmp .ne 10, 3) := by decide +kernel
theorem dX5_state_56 : decode cX5_state 56 = .ok (.aload_n 0, 1) := by decide +kernel
theorem dX5_state_57 : decode cX5_state 57 = .ok (.getfield 40, 3) := by decide +kernel
theorem dX5_state_60 : decode cX5_state 60 = .ok (.iload_n 1, 1) := by decide +kernel
theorem dX5_state_61 : decode cX5_state 61 = .ok (.iaload, 1) := by decide +kernel
theorem dX5_state_62 : decode cX5_state 62 = .ok (.ireturn, 1) := by decide +kernel
theorem dX5_state_63 : decode cX5_state 63 = .ok (.iload_n 2, 1) := by decide +kernel
theorem dX5_state_64 : decode cX5_state 64 = .ok (.iconst 5, 1) := by decide +kernel
theorem dX5_state_65 : decode cX5_state 65 = .ok (.if_icmp .ne 10, 3) := by decide +kernel
theorem dX5_state_68 : decode cX5_state 68 = .ok (.aload_n 0, 1) := by decide +kernel
theorem dX5_state_69 : decode cX5_state 69 = .ok (.getfield 43, 3) := by decide +kernel
theorem dX5_state_72 : decode cX5_state 72 = .ok (.iload_n 1, 1) := by decide +kernel
theorem dX5_state_73 : decode cX5_state 73 = .ok (.iaload, 1) := by decide +kernel
theorem dX5_state_74 : decode cX5_state 74 = .ok (.ireturn, 1) := by decide +kernel
theorem dX5_state_75 : decode cX5_state 75 = .ok (.iconst 0, 1) := by decide +kernel
theorem dX5_state_76 : decode cX5_state 76 = .ok (.istore_n 3, 1) := by decide +kernel
theorem dX5_state_77 : decode cX5_state 77 = .ok (.iconst 0, 1) := by decide +kernel
theorem dX5_state_78 : decode cX5_state 78 = .ok (.istore 4, 2) := by decide +kernel
theorem dX5_state_80 : decode cX5_state 80 = .ok (.iload 4, 2) := by decide +kernel
theorem dX5_state_82 : decode cX5_state 82 = .ok (.aload_n 0, 1) := by decide +kernel
theorem dX5_state_83 : decode cX5_state 83 = .ok (.getfield 160, 3) := by decide +kernel
theorem dX5_state_86 : decode cX5_state 86 = .ok (.if_icmp .ge 38, 3) := by decide +kernel
theorem dX5_state_89 : decode cX5_state 89 = .ok (.iload_n 2, 1) := by decide +kernel
theorem dX5_state_90 : decode cX5_state 90 = .ok (.iconst 3, 1) := by decide +kernel
theorem dX5_state_91 : decode cX5_state 91 = .ok (.if_icmp .ne 13, 3) := by decide +kernel
theorem dX5_state_94 : decode cX5_state 94 = .ok (.aload_n 0, 1) := by decide +kernel
theorem dX5_state_95 : decode cX5_state 95 = .ok (.getfield 46, 3) := by decide +kernel
theorem dX5_state_98 : decode cX5_state 98 = .ok (.iload 4, 2) := by decide +kernel
theorem dX5_state_100 : decode cX5_state 100 = .ok (.iaload, 1) := by decide +kernel
theorem dX5_state_101 : decode cX5_state 101 = .ok (.goto 10, 3) := by decide +kernel
theorem dX5_state_104 : decode cX5_state 104 = .ok (.aload_n 0, 1) := by decide +kernel
theorem dX5_state_105 : decode cX5_state 105 = .ok (.getfield 49, 3) := by decide +kernel
theorem dX5_state_108 : decode cX5_state 108 = .ok (.iload 4, 2) := by decide +kernel
theorem dX5_state_110 : decode cX5_state 110 = .ok (.iaload, 1) := by decide +kernel
theorem dX5_state_111 : decode cX5_state 111 = .ok (.iload_n 1, 1) := by decide +kernel
theorem dX5_state_112 : decode cX5_state 112 = .ok (.if_icmp .ne 6, 3) := by decide +kernel
theorem dX5_state_115 : decode cX5_state 115 = .ok (.iinc 3 1, 3) := by decide +kernel
theorem dX5_state_118 : decode cX5_state 118 = .ok (.iinc 4 1, 3) := by decide +kernel
theorem dX5_state_121 : decode cX5_state 121 = .ok (.goto (-41), 3) := by decide +kernel
theorem dX5_state_124 : decode cX5_state 124 = .ok (.iload_n 3, 1) := by decide +kernel
theorem dX5_state_125 : decode cX5_state 125 = .ok (.ireturn, 1) := by decide +kernel
theorem dX5_size_0 : decode cX5_size 0 = .ok (.iload_n 1, 1) := by decide +kernel
theorem dX5_size_1 : decode cX5_size 1 = .ok (.ifCond .lt 9, 3) := by decide +kernel
theorem dX5_size_4 : decode cX5_size 4 = .ok (.iload_n 1, 1) := by decide +kernel
theorem dX5_size_5 : decode cX5_size 5 = .ok (.bipush 7, 2) := by decide +kernel
theorem dX5_size_7 : decode cX5_size 7 = .ok (.if_icmp .lt 5, 3) := by decide +kernel
theorem dX5_size_10 : decode cX5_size 10 = .ok (.iconst (-1), 1) := by decide +kernel
theorem dX5_size_11 : decode cX5_size 11 = .ok (.ireturn, 1) := by decide +kernel
theorem dX5_size_12 : decode cX5_size 12 = .ok (.iload_n 1, 1) := by decide +kernel
theorem dX5_size_13 : decode cX5_size 13 = .ok (.iconst 2, 1) := by decide +kernel
theorem dX5_size_14 : decode cX5_size 14 = .ok (.if_icmp .ge 19, 3) := by decide +kernel
theorem dX5_size_17 : decode cX5_size 17 = .ok (.iload_n 1, 1) := by decide +kernel
theorem dX5_size_18 : decode cX5_size 18 = .ok (.ifCond .ne 10, 3) := by decide +kernel
theorem dX5_size_21 : decode cX5_size 21 = .ok (.aload_n 0, 1) := by decide +kernel
theorem dX5_size_22 : decode cX5_size 22 = .ok (.getfield 123, 3) := by decide +kernel
theorem dX5_size_25 : decode cX5_size 25 = .ok (.goto 7, 3) := by decide +kernel
theorem dX5_size_28 : decode cX5_size 28 = .ok (.aload_n 0, 1) := by decide +kernel
theorem dX5_size_29 : decode cX5_size 29 = .ok (.getfield 160, 3) := by decide +kernel
theorem dX5_size_32 : decode cX5_size 32 = .ok (.ireturn, 1) := by decide +kernel
theorem dX5_size_33 : decode cX5_size 33 = .ok (.iconst 0, 1) := by decide +kernel
theorem dX5_size_34 : decode cX5_size 34 = .ok (.istore_n 2, 1) := by decide +kernel
theorem dX5_size_35 : decode cX5_size 35 = .ok (.iconst 0, 1) := by decide +kernel
theorem dX5_size_36 : decode cX5_size 36 = .ok (.istore_n 3, 1) := by decide +kernel
theorem dX5_size_37 : decode cX5_size 37 = .ok (.iload_n 3, 1) := by decide +kernel
theorem dX5_size_38 : decode cX5_size 38 = .ok (.aload_n 0, 1) := by decide +kernel
theorem dX5_size_39 : decode cX5_size 39 = .ok (.getfield 123, 3) := by decide +kernel
theorem dX5_size_42 : decode cX5_size 42 = .ok (.if_icmp .ge 21, 3) := by decide +kernel
theorem dX5_size_45 : decode cX5_size 45 = .ok (.aload_n 0, 1) := by decide +kernel
theorem dX5_size_46 : decode cX5_size 46 = .ok (.iload_n 3, 1) := by decide +kernel
theorem dX5_size_47 : decode cX5_size 47 = .ok (.iload_n 1, 1) := by decide +kernel
theorem dX5_size_48 : decode cX5_size 48 = .ok (.invokevirtual 139, 3) := by decide +kernel
theorem dX5_size_51 : decode cX5_size 51 = .ok (.ifCond .eq 6, 3) := by decide +kernel
theorem dX5_size_54 : decode cX5_size 54 = .ok (.iinc 2 1, 3) := by decide +kernel
theorem dX5_size_57 : decode cX5_size 57 = .ok (.iinc 3 1, 3) := by decide +kernel
theorem dX5_size_60 : decode cX5_size 60 = .ok (.goto (-23), 3) := by decide +kernel
theorem dX5_size_63 : decode cX5_size 63 = .ok (.iload_n 2, 1) := by decide +kernel
theorem dX5_size_64 : decode cX5_size 64 = .ok (.ireturn, 1) := by decide +kernel
theorem dX5_status_0 : decode cX5_status 0 = .ok (.aload_n 0, 1) := by decide +kernel
theorem dX5_status_1 : decode cX5_status 1 = .ok (.getfield 126, 3) := by decide +kernel
theorem dX5_status_4 : decode cX5_status 4 = .ok (.ireturn, 1) := by decide +kernel
theorem dL_law_0 : decode cL_law 0 = .ok (.new 7, 3) := by decide +kernel
theorem dL_law_3 : decode cL_law 3 = .ok (.dup, 1) := by decide +kernel
theorem dL_law_4 : decode cL_law 4 = .ok (.invokespecial 9, 3) := by decide +kernel
theorem dL_law_7 : decode cL_law 7 = .ok (.astore_n 1, 1) := by decide +kernel
theorem dL_law_8 : decode cL_law 8 = .ok (.new 10, 3) := by decide +kernel
theorem dL_law_11 : decode cL_law 11 = .ok (.dup, 1) := by decide +kernel
theorem dL_law_12 : decode cL_law 12 = .ok (.invokespecial 12, 3) := by decide +kernel
theorem dL_law_15 : decode cL_law 15 = .ok (.astore_n 2, 1) := by decide +kernel
theorem dL_law_16 : decode cL_law 16 = .ok (.iconst 0, 1) := by decide +kernel
theorem dL_law_17 : decode cL_law 17 = .ok (.istore_n 3, 1) := by decide +kernel
theorem dL_law_18 : decode cL_law 18 = .ok (.iload_n 3, 1) := by decide +kernel
theorem dL_law_19 : decode cL_law 19 = .ok (.aload_n 0, 1) := by decide +kernel
theorem dL_law_20 : decode cL_law 20 = .ok (.arraylength, 1) := by decide +kernel
theorem dL_law_21 : decode cL_law 21 = .ok (.iconst 5, 1) := by decide +kernel
theorem dL_law_22 : decode cL_law 22 = .ok (.isub, 1) := by decide +kernel
theorem dL_law_23 : decode cL_law 23 = .ok (.if_icmp .gt 445, 3) := by decide +kernel
theorem dL_law_26 : decode cL_law 26 = .ok (.aload_n 0, 1) := by decide +kernel
theorem dL_law_27 : decode cL_law 27 = .ok (.iload_n 3, 1) := by decide +kernel
theorem dL_law_28 : decode cL_law 28 = .ok (.iaload, 1) := by decide +kernel
theorem dL_law_29 : decode cL_law 29 = .ok (.bipush 15, 2) := by decide +kernel
theorem dL_law_31 : decode cL_law 31 = .ok (.iand, 1) := by decide +kernel
theorem dL_law_32 : decode cL_law 32 = .ok (.tableswitch 430 0 11 #[64, 97, 150, 193, 226, 259, 292, 325, 348, 361, 394, 417], 64) := by decide +kernel
theorem dL_law_96 : decode cL_law 96 = .ok (.aload_n 1, 1) := by decide +kernel
theorem dL_law_97 : decode cL_law 97 = .ok (.aload_n 0, 1) := by decide +kernel
theorem dL_law_98 : decode cL_law 98 = .ok (.iload_n 3, 1) := by decide +kernel
theorem dL_law_99 : decode cL_law 99 = .ok (.iconst 1, 1) := by decide +kernel
theorem dL_law_100 : decode cL_law 100 = .ok (.iadd, 1) := by decide +kernel
theorem dL_law_101 : decode cL_law 101 = .ok (.iaload, 1) := by decide +kernel
theorem dL_law_102 : decode cL_law 102 = .ok (.aload_n 0, 1) := by decide +kernel
theorem dL_law_103 : decode cL_law 103 = .ok (.iload_n 3, 1) := by decide +kernel
theorem dL_law_104 : decode cL_law 104 = .ok (.iconst 2, 1) := by decide +kernel
theorem dL_law_105 : decode cL_law 105 = .ok (.iadd, 1) := by decide +kernel
theorem dL_law_106 : decode cL_law 106 = .ok (.iaload, 1) := by decide +kernel
theorem dL_law_107 : decode cL_law 107 = .ok (.invokevirtual 13, 3) := by decide +kernel
theorem dL_law_110 : decode cL_law 110 = .ok (.aload_n 2, 1) := by decide +kernel
theorem dL_law_111 : decode cL_law 111 = .ok (.aload_n 0, 1) := by decide +kernel
theorem dL_law_112 : decode cL_law 112 = .ok (.iload_n 3, 1) := by decide +kernel
theorem dL_law_113 : decode cL_law 113 = .ok (.iconst 1, 1) := by decide +kernel
theorem dL_law_114 : decode cL_law 114 = .ok (.iadd, 1) := by decide +kernel
theorem dL_law_115 : decode cL_law 115 = .ok (.iaload, 1) := by decide +kernel
theorem dL_law_116 : decode cL_law 116 = .ok (.aload_n 0, 1) := by decide +kernel
theorem dL_law_117 : decode cL_law 117 = .ok (.iload_n 3, 1) := by decide +kernel
theorem dL_law_118 : decode cL_law 118 = .ok (.iconst 2, 1) := by decide +kernel
theorem dL_law_119 : decode cL_law 119 = .ok (.iadd, 1) := by decide +kernel
theorem dL_law_120 : decode cL_law 120 = .ok (.iaload, 1) := by decide +kernel
theorem dL_law_121 : decode cL_law 121 = .ok (.invokevirtual 17, 3) := by decide +kernel
theorem dL_law_124 : decode cL_law 124 = .ok (.if_icmp .eq 338, 3) := by decide +kernel
theorem dL_law_127 : decode cL_law 127 = .ok (.iconst 0, 1) := by decide +kernel
theorem dL_law_128 : decode cL_law 128 = .ok (.ireturn, 1) := by decide +kernel
theorem dL_law_129 : decode cL_law 129 = .ok (.aload_n 1, 1) := by decide +kernel
theorem dL_law_130 : decode cL_law 130 = .ok (.aload_n 0, 1) := by decide +kernel
theorem dL_law_131 : decode cL_law 131 = .ok (.iload_n 3, 1) := by decide +kernel
theorem dL_law_132 : decode cL_law 132 = .ok (.iconst 1, 1) := by decide +kernel
theorem dL_law_133 : decode cL_law 133 = .ok (.iadd, 1) := by decide +kernel
theorem dL_law_134 : decode cL_law 134 = .ok (.iaload, 1) := by decide +kernel
theorem dL_law_135 : decode cL_law 135 = .ok (.aload_n 0, 1) := by decide +kernel
theorem dL_law_136 : decode cL_law 136 = .ok (.iload_n 3, 1) := by decide +kernel
theorem dL_law_137 : decode cL_law 137 = .ok (.iconst 2, 1) := by decide +kernel
theorem dL_law_138 : decode cL_law 138 = .ok (.iadd, 1) := by decide +kernel
theorem dL_law_139 : decode cL_law 139 = .ok (.iaload, 1) := by decide +kernel
theorem dL_law_140 : decode cL_law 140 = .ok (.aload_n 0, 1) := by decide +kernel
theorem dL_law_141 : decode cL_law 141 = .ok (.iload_n 3, 1) := by decide +kernel
theorem dL_law_142 : decode cL_law 142 = .ok (.iconst 3, 1) := by decide +kernel
theorem dL_law_143 : decode cL_law 143 = .ok (.iadd, 1) := by decide +kernel
theorem dL_law_144 : decode cL_law 144 = .ok (.iaload, 1) := by decide +kernel
theorem dL_law_145 : decode cL_law 145 = .ok (.aload_n 0, 1) := by decide +kernel
theorem dL_law_146 : decode cL_law 146 = .ok (.iload_n 3, 1) := by decide +kernel
theorem dL_law_147 : decode cL_law 147 = .ok (.iconst 4, 1) := by decide +kernel
theorem dL_law_148 : decode cL_law 148 = .ok (.iadd, 1) := by decide +kernel
theorem dL_law_149 : decode cL_law 149 = .ok (.iaload, 1) := by decide +kernel
theorem dL_law_150 : decode cL_law 150 = .ok (.invokevirtual 18, 3) := by decide +kernel
theorem dL_law_153 : decode cL_law 153 = .ok (.aload_n 2, 1) := by decide +kernel
theorem dL_law_154 : decode cL_law 154 = .ok (.aload_n 0, 1) := by decide +kernel
theorem dL_law_155 : decode cL_law 155 = .ok (.iload_n 3, 1) := by decide +kernel
theorem dL_law_156 : decode cL_law 156 = .ok (.iconst 1, 1) := by decide +kernel
theorem dL_law_157 : decode cL_law 157 = .ok (.iadd, 1) := by decide +kernel
theorem dL_law_158 : decode cL_law 158 = .ok (.iaload, 1) := by decide +kernel
theorem dL_law_159 : decode cL_law 159 = .ok (.aload_n 0, 1) := by decide +kernel
theorem dL_law_160 : decode cL_law 160 = .ok (.iload_n 3, 1) := by decide +kernel
theorem dL_law_161 : decode cL_law 161 = .ok (.iconst 2, 1) := by decide +kernel
theorem dL_law_162 : decode cL_law 162 = .ok (.iadd, 1) := by decide +kernel
theorem dL_law_163 : decode cL_law 163 = .ok (.iaload, 1) := by decide +kernel
theorem dL_law_164 : decode cL_law 164 = .ok (.aload_n 0, 1) := by decide +kernel
theorem dL_law_165 : decode cL_law 165 = .ok (.iload_n 3, 1) := by decide +kernel
theorem dL_law_166 : decode cL_law 166 = .ok (.iconst 3, 1) := by decide +kernel
theorem dL_law_167 : decode cL_law 167 = .ok (.iadd, 1) := by decide +kernel
theorem dL_law_168 : decode cL_law 168 = .ok (.iaload, 1) := by decide +kernel
theorem dL_law_169 : decode cL_law 169 = .ok (.aload_n 0, 1) := by decide +kernel
theorem dL_law_170 : decode cL_law 170 = .ok (.iload_n 3, 1) := by decide +kernel
theorem dL_law_171 : decode cL_law 171 = .ok (.iconst 4, 1) := by decide +kernel
theorem dL_law_172 : decode cL_law 172 = .ok (.iadd, 1) := by decide +kernel
theorem dL_law_173 : decode cL_law 173 = .ok (.iaload, 1) := by decide +kernel
theorem dL_law_174 : decode cL_law 174 = .ok (.invokevirtual 22, 3) := by decide +kernel
theorem dL_law_177 : decode cL_law 177 = .ok (.if_icmp .eq 285, 3) := by decide +kernel
theorem dL_law_180 : decode cL_law 180 = .ok (.iconst 0, 1) := by decide +kernel
theorem dL_law_181 : decode cL_law 181 = .ok (.ireturn, 1) := by decide +kernel
theorem dL_law_182 : decode cL_law 182 = .ok (.aload_n 1, 1) := by decide +kernel
theorem dL_law_183 : decode cL_law 183 = .ok (.aload_n 0, 1) := by decide +kernel
theorem dL_law_184 : decode cL_law 184 = .ok (.iload_n 3, 1) := by decide +kernel
theorem dL_law_185 : decode cL_law 185 = .ok (.iconst 1, 1) := by decide +kernel
theorem dL_law_186 : decode cL_law 186 = .ok (.iadd, 1) := by decide +kernel
theorem dL_law_187 : decode cL_law 187 = .ok (.iaload, 1) := by decide +kernel
theorem dL_law_188 : decode cL_law 188 = .ok (.aload_n 0, 1) := by decide +kernel
theorem dL_law_189 : decode cL_law 189 = .ok (.iload_n 3, 1) := by decide +kernel
theorem dL_law_190 : decode cL_law 190 = .ok (.iconst 2, 1) := by decide +kernel
theorem dL_law_191 : decode cL_law 191 = .ok (.iadd, 1) := by decide +kernel
theorem dL_law_192 : decode cL_law 192 = .ok (.iaload, 1) := by decide +kernel
theorem dL_law_193 : decode cL_law 193 = .ok (.aload_n 0, 1) := by decide +kernel
theorem dL_law_194 : decode cL_law 194 = .ok (.iload_n 3, 1) := by decide +kernel
theorem dL_law_195 : decode cL_law 195 = .ok (.iconst 3, 1) := by decide +kernel
theorem dL_law_196 : decode cL_law 196 = .ok (.iadd, 1) := by decide +kernel
theorem dL_law_197 : decode cL_law 197 = .ok (.iaload, 1) := by decide +kernel
theorem dL_law_198 : decode cL_law 198 = .ok (.invokevirtual 23, 3) := by decide +kernel
theorem dL_law_201 : decode cL_law 201 = .ok (.aload_n 2, 1) := by decide +kernel
theorem dL_law_202 : decode cL_law 202 = .ok (.aload_n 0, 1) := by decide +kernel
theorem dL_law_203 : decode cL_law 203 = .ok (.iload_n 3, 1) := by decide +kernel
theorem dL_law_204 : decode cL_law 204 = .ok (.iconst 1, 1) := by decide +kernel
theorem dL_law_205 : decode cL_law 205 = .ok (.iadd, 1) := by decide +kernel
theorem dL_law_206 : decode cL_law 206 = .ok (.iaload, 1) := by decide +kernel
theorem dL_law_207 : decode cL_law 207 = .ok (.aload_n 0, 1) := by decide +kernel
theorem dL_law_208 : decode cL_law 208 = .ok (.iload_n 3, 1) := by decide +kernel
theorem dL_law_209 : decode cL_law 209 = .ok (.iconst 2, 1) := by decide +kernel
theorem dL_law_210 : decode cL_law 210 = .ok (.iadd, 1) := by decide +kernel
theorem dL_law_211 : decode cL_law 211 = .ok (.iaload, 1) := by decide +kernel
theorem dL_law_212 : decode cL_law 212 = .ok (.aload_n 0, 1) := by decide +kernel
theorem dL_law_213 : decode cL_law 213 = .ok (.iload_n 3, 1) := by decide +kernel
theorem dL_law_214 : decode cL_law 214 = .ok (.iconst 3, 1) := by decide +kernel
theorem dL_law_215 : decode cL_law 215 = .ok (.iadd, 1) := by decide +kernel
theorem dL_law_216 : decode cL_law 216 = .ok (.iaload, 1) := by decide +kernel
theorem dL_law_217 : decode cL_law 217 = .ok (.invokevirtual 27, 3) := by decide +kernel
theorem dL_law_220 : decode cL_law 220 = .ok (.if_icmp .eq 242, 3) := by decide +kernel
theorem dL_law_223 : decode cL_law 223 = .ok (.iconst 0, 1) := by decide +kernel
theorem dL_law_224 : decode cL_law 224 = .ok (.ireturn, 1) := by decide +kernel
theorem dL_law_225 : decode cL_law 225 = .ok (.aload_n 1, 1) := by decide +kernel
theorem dL_law_226 : decode cL_law 226 = .ok (.aload_n 0, 1) := by decide +kernel
theorem dL_law_227 : decode cL_law 227 = .ok (.iload_n 3, 1) := by decide +kernel
theorem dL_law_228 : decode cL_law 228 = .ok (.iconst 1, 1) := by decide +kernel
theorem dL_law_229 : decode cL_law 229 = .ok (.iadd, 1) := by decide +kernel
theorem dL_law_230 : decode cL_law 230 = .ok (.iaload, 1) := by decide +kernel
theorem dL_law_231 : decode cL_law 231 = .ok (.aload_n 0, 1) := by decide +kernel
theorem dL_law_232 : decode cL_law 232 = .ok (.iload_n 3, 1) := by decide +kernel
theorem dL_law_233 : decode cL_law 233 = .ok (.iconst 2, 1) := by decide +kernel
theorem dL_law_234 : decode cL_law 234 = .ok (.iadd, 1) := by decide +kernel
theorem dL_law_235 : decode cL_law 235 = .ok (.iaload, 1) := by decide +kernel
theorem dL_law_236 : decode cL_law 236 = .ok (.invokevirtual 28, 3) := by decide +kernel
theorem dL_law_239 : decode cL_law 239 = .ok (.aload_n 2, 1) := by decide +kernel
theorem dL_law_240 : decode cL_law 240 = .ok (.aload_n 0, 1) := by decide +kernel
theorem dL_law_241 : decode cL_law 241 = .ok (.iload_n 3, 1) := by decide +kernel
theorem dL_law_242 : decode cL_law 242 = .ok (.iconst 1, 1) := by decide +kernel
theorem dL_law_243 : decode cL_law 243 = .ok (.iadd, 1) := by decide +kernel
theorem dL_law_244 : decode cL_law 244 = .ok (.iaload, 1) := by decide +kernel
theorem dL_law_245 : decode cL_law 245 = .ok (.aload_n 0, 1) := by decide +kernel
theorem dL_law_246 : decode cL_law 246 = .ok (.iload_n 3, 1) := by decide +kernel
theorem dL_law_247 : decode cL_law 247 = .ok (.iconst 2, 1) := by decide +kernel
theorem dL_law_248 : decode cL_law 248 = .ok (.iadd, 1) := by decide +kernel
theorem dL_law_249 : decode cL_law 249 = .ok (.iaload, 1) := by decide +kernel
theorem dL_law_250 : decode cL_law 250 = .ok (.invokevirtual 31, 3) := by decide +kernel
theorem dL_law_253 : decode cL_law 253 = .ok (.if_icmp .eq 209, 3) := by decide +kernel
theorem dL_law_256 : decode cL_law 256 = .ok (.iconst 0, 1) := by decide +kernel
theorem dL_law_257 : decode cL_law 257 = .ok (.ireturn, 1) := by decide +kernel
theorem dL_law_258 : decode cL_law 258 = .ok (.aload_n 1, 1) := by decide +kernel
theorem dL_law_259 : decode cL_law 259 = .ok (.aload_n 0, 1) := by decide +kernel
theorem dL_law_260 : decode cL_law 260 = .ok (.iload_n 3, 1) := by decide +kernel
theorem dL_law_261 : decode cL_law 261 = .ok (.iconst 1, 1) := by decide +kernel
theorem dL_law_262 : decode cL_law 262 = .ok (.iadd, 1) := by decide +kernel
theorem dL_law_263 : decode cL_law 263 = .ok (.iaload, 1) := by decide +kernel
theorem dL_law_264 : decode cL_law 264 = .ok (.aload_n 0, 1) := by decide +kernel
theorem dL_law_265 : decode cL_law 265 = .ok (.iload_n 3, 1) := by decide +kernel
theorem dL_law_266 : decode cL_law 266 = .ok (.iconst 2, 1) := by decide +kernel
theorem dL_law_267 : decode cL_law 267 = .ok (.iadd, 1) := by decide +kernel
theorem dL_law_268 : decode cL_law 268 = .ok (.iaload, 1) := by decide +kernel
theorem dL_law_269 : decode cL_law 269 = .ok (.invokevirtual 32, 3) := by decide +kernel
theorem dL_law_272 : decode cL_law 272 = .ok (.aload_n 2, 1) := by decide +kernel
theorem dL_law_273 : decode cL_law 273 = .ok (.aload_n 0, 1) := by decide +kernel
theorem dL_law_274 : decode cL_law 274 = .ok (.iload_n 3, 1) := by decide +kernel
theorem dL_law_275 : decode cL_law 275 = .ok (.iconst 1, 1) := by decide +kernel
theorem dL_law_276 : decode cL_law 276 = .ok (.iadd, 1) := by decide +kernel
theorem dL_law_277 : decode cL_law 277 = .ok (.iaload, 1) := by decide +kernel
theorem dL_law_278 : decode cL_law 278 = .ok (.aload_n 0, 1) := by decide +kernel
theorem dL_law_279 : decode cL_law 279 = .ok (.iload_n 3, 1) := by decide +kernel
theorem dL_law_280 : decode cL_law 280 = .ok (.iconst 2, 1) := by decide +kernel
theorem dL_law_281 : decode cL_law 281 = .ok (.iadd, 1) := by decide +kernel
theorem dL_law_282 : decode cL_law 282 = .ok (.iaload, 1) := by decide +kernel
theorem dL_law_283 : decode cL_law 283 = .ok (.invokevirtual 35, 3) := by decide +kernel
theorem dL_law_286 : decode cL_law 286 = .ok (.if_icmp .eq 176, 3) := by decide +kernel
theorem dL_law_289 : decode cL_law 289 = .ok (.iconst 0, 1) := by decide +kernel
theorem dL_law_290 : decode cL_law 290 = .ok (.ireturn, 1) := by decide +kernel
theorem dL_law_291 : decode cL_law 291 = .ok (.aload_n 1, 1) := by decide +kernel
theorem dL_law_292 : decode cL_law 292 = .ok (.aload_n 0, 1) := by decide +kernel
theorem dL_law_293 : decode cL_law 293 = .ok (.iload_n 3, 1) := by decide +kernel
theorem dL_law_294 : decode cL_law 294 = .ok (.iconst 1, 1) := by decide +kernel
theorem dL_law_295 : decode cL_law 295 = .ok (.iadd, 1) := by decide +kernel
theorem dL_law_296 : decode cL_law 296 = .ok (.iaload, 1) := by decide +kernel
theorem dL_law_297 : decode cL_law 297 = .ok (.aload_n 0, 1) := by decide +kernel
theorem dL_law_298 : decode cL_law 298 = .ok (.iload_n 3, 1) := by decide +kernel
theorem dL_law_299 : decode cL_law 299 = .ok (.iconst 2, 1) := by decide +kernel
theorem dL_law_300 : decode cL_law 300 = .ok (.iadd, 1) := by decide +kernel
theorem dL_law_301 : decode cL_law 301 = .ok (.iaload, 1) := by decide +kernel
theorem dL_law_302 : decode cL_law 302 = .ok (.invokevirtual 36, 3) := by decide +kernel
theorem dL_law_305 : decode cL_law 305 = .ok (.aload_n 2, 1) := by decide +kernel
theorem dL_law_306 : decode cL_law 306 = .ok (.aload_n 0, 1) := by decide +kernel
theorem dL_law_307 : decode cL_law 307 = .ok (.iload_n 3, 1) := by decide +kernel
theorem dL_law_308 : decode cL_law 308 = .ok (.iconst 1, 1) := by decide +kernel
theorem dL_law_309 : decode cL_law 309 = .ok (.iadd, 1) := by decide +kernel
theorem dL_law_310 : decode cL_law 310 = .ok (.iaload, 1) := by decide +kernel
theorem dL_law_311 : decode cL_law 311 = .ok (.aload_n 0, 1) := by decide +kernel
theorem dL_law_312 : decode cL_law 312 = .ok (.iload_n 3, 1) := by decide +kernel
theorem dL_law_313 : decode cL_law 313 = .ok (.iconst 2, 1) := by decide +kernel
theorem dL_law_314 : decode cL_law 314 = .ok (.iadd, 1) := by decide +kernel
theorem dL_law_315 : decode cL_law 315 = .ok (.iaload, 1) := by decide +kernel
theorem dL_law_316 : decode cL_law 316 = .ok (.invokevirtual 39, 3) := by decide +kernel
theorem dL_law_319 : decode cL_law 319 = .ok (.if_icmp .eq 143, 3) := by decide +kernel
theorem dL_law_322 : decode cL_law 322 = .ok (.iconst 0, 1) := by decide +kernel
theorem dL_law_323 : decode cL_law 323 = .ok (.ireturn, 1) := by decide +kernel
theorem dL_law_324 : decode cL_law 324 = .ok (.aload_n 1, 1) := by decide +kernel
theorem dL_law_325 : decode cL_law 325 = .ok (.aload_n 0, 1) := by decide +kernel
theorem dL_law_326 : decode cL_law 326 = .ok (.iload_n 3, 1) := by decide +kernel
theorem dL_law_327 : decode cL_law 327 = .ok (.iconst 1, 1) := by decide +kernel
theorem dL_law_328 : decode cL_law 328 = .ok (.iadd, 1) := by decide +kernel
theorem dL_law_329 : decode cL_law 329 = .ok (.iaload, 1) := by decide +kernel
theorem dL_law_330 : decode cL_law 330 = .ok (.aload_n 0, 1) := by decide +kernel
theorem dL_law_331 : decode cL_law 331 = .ok (.iload_n 3, 1) := by decide +kernel
theorem dL_law_332 : decode cL_law 332 = .ok (.iconst 2, 1) := by decide +kernel
theorem dL_law_333 : decode cL_law 333 = .ok (.iadd, 1) := by decide +kernel
theorem dL_law_334 : decode cL_law 334 = .ok (.iaload, 1) := by decide +kernel
theorem dL_law_335 : decode cL_law 335 = .ok (.invokevirtual 40, 3) := by decide +kernel
theorem dL_law_338 : decode cL_law 338 = .ok (.aload_n 2, 1) := by decide +kernel
theorem dL_law_339 : decode cL_law 339 = .ok (.aload_n 0, 1) := by decide +kernel
theorem dL_law_340 : decode cL_law 340 = .ok (.iload_n 3, 1) := by decide +kernel
theorem dL_law_341 : decode cL_law 341 = .ok (.iconst 1, 1) := by decide +kernel
theorem dL_law_342 : decode cL_law 342 = .ok (.iadd, 1) := by decide +kernel
theorem dL_law_343 : decode cL_law 343 = .ok (.iaload, 1) := by decide +kernel
theorem dL_law_344 : decode cL_law 344 = .ok (.aload_n 0, 1) := by decide +kernel
theorem dL_law_345 : decode cL_law 345 = .ok (.iload_n 3, 1) := by decide +kernel
theorem dL_law_346 : decode cL_law 346 = .ok (.iconst 2, 1) := by decide +kernel
theorem dL_law_347 : decode cL_law 347 = .ok (.iadd, 1) := by decide +kernel
theorem dL_law_348 : decode cL_law 348 = .ok (.iaload, 1) := by decide +kernel
theorem dL_law_349 : decode cL_law 349 = .ok (.invokevirtual 43, 3) := by decide +kernel
theorem dL_law_352 : decode cL_law 352 = .ok (.if_icmp .eq 110, 3) := by decide +kernel
theorem dL_law_355 : decode cL_law 355 = .ok (.iconst 0, 1) := by decide +kernel
theorem dL_law_356 : decode cL_law 356 = .ok (.ireturn, 1) := by decide +kernel
theorem dL_law_357 : decode cL_law 357 = .ok (.aload_n 1, 1) := by decide +kernel
theorem dL_law_358 : decode cL_law 358 = .ok (.aload_n 0, 1) := by decide +kernel
theorem dL_law_359 : decode cL_law 359 = .ok (.iload_n 3, 1) := by decide +kernel
theorem dL_law_360 : decode cL_law 360 = .ok (.iconst 1, 1) := by decide +kernel
theorem dL_law_361 : decode cL_law 361 = .ok (.iadd, 1) := by decide +kernel
theorem dL_law_362 : decode cL_law 362 = .ok (.iaload, 1) := by decide +kernel
theorem dL_law_363 : decode cL_law 363 = .ok (.invokevirtual 44, 3) := by decide +kernel
theorem dL_law_366 : decode cL_law 366 = .ok (.aload_n 2, 1) := by decide +kernel
theorem dL_law_367 : decode cL_law 367 = .ok (.aload_n 0, 1) := by decide +kernel
theorem dL_law_368 : decode cL_law 368 = .ok (.iload_n 3, 1) := by decide +kernel
theorem dL_law_369 : decode cL_law 369 = .ok (.iconst 1, 1) := by decide +kernel
theorem dL_law_370 : decode cL_law 370 = .ok (.iadd, 1) := by decide +kernel
theorem dL_law_371 : decode cL_law 371 = .ok (.iaload, 1) := by decide +kernel
theorem dL_law_372 : decode cL_law 372 = .ok (.invokevirtual 48, 3) := by decide +kernel
theorem dL_law_375 : decode cL_law 375 = .ok (.if_icmp .eq 87, 3) := by decide +kernel
theorem dL_law_378 : decode cL_law 378 = .ok (.iconst 0, 1) := by decide +kernel
theorem dL_law_379 : decode cL_law 379 = .ok (.ireturn, 1) := by decide +kernel
theorem dL_law_380 : decode cL_law 380 = .ok (.aload_n 1, 1) := by decide +kernel
theorem dL_law_381 : decode cL_law 381 = .ok (.invokevirtual 49, 3) := by decide +kernel
theorem dL_law_384 : decode cL_law 384 = .ok (.aload_n 2, 1) := by decide +kernel
theorem dL_law_385 : decode cL_law 385 = .ok (.invokevirtual 53, 3) := by decide +kernel
theorem dL_law_388 : decode cL_law 388 = .ok (.if_icmp .eq 74, 3) := by decide +kernel
theorem dL_law_391 : decode cL_law 391 = .ok (.iconst 0, 1) := by decide +kernel
theorem dL_law_392 : decode cL_law 392 = .ok (.ireturn, 1) := by decide +kernel
theorem dL_law_393 : decode cL_law 393 = .ok (.aload_n 1, 1) := by decide +kernel
theorem dL_law_394 : decode cL_law 394 = .ok (.aload_n 0, 1) := by decide +kernel
theorem dL_law_395 : decode cL_law 395 = .ok (.iload_n 3, 1) := by decide +kernel
theorem dL_law_396 : decode cL_law 396 = .ok (.iconst 1, 1) := by decide +kernel
theorem dL_law_397 : decode cL_law 397 = .ok (.iadd, 1) := by decide +kernel
theorem dL_law_398 : decode cL_law 398 = .ok (.iaload, 1) := by decide +kernel
theorem dL_law_399 : decode cL_law 399 = .ok (.aload_n 0, 1) := by decide +kernel
theorem dL_law_400 : decode cL_law 400 = .ok (.iload_n 3, 1) := by decide +kernel
theorem dL_law_401 : decode cL_law 401 = .ok (.iconst 2, 1) := by decide +kernel
theorem dL_law_402 : decode cL_law 402 = .ok (.iadd, 1) := by decide +kernel
theorem dL_law_403 : decode cL_law 403 = .ok (.iaload, 1) := by decide +kernel
theorem dL_law_404 : decode cL_law 404 = .ok (.invokevirtual 54, 3) := by decide +kernel
theorem dL_law_407 : decode cL_law 407 = .ok (.aload_n 2, 1) := by decide +kernel
theorem dL_law_408 : decode cL_law 408 = .ok (.aload_n 0, 1) := by decide +kernel
theorem dL_law_409 : decode cL_law 409 = .ok (.iload_n 3, 1) := by decide +kernel
theorem dL_law_410 : decode cL_law 410 = .ok (.iconst 1, 1) := by decide +kernel
theorem dL_law_411 : decode cL_law 411 = .ok (.iadd, 1) := by decide +kernel
theorem dL_law_412 : decode cL_law 412 = .ok (.iaload, 1) := by decide +kernel
theorem dL_law_413 : decode cL_law 413 = .ok (.aload_n 0, 1) := by decide +kernel
theorem dL_law_414 : decode cL_law 414 = .ok (.iload_n 3, 1) := by decide +kernel
theorem dL_law_415 : decode cL_law 415 = .ok (.iconst 2, 1) := by decide +kernel
theorem dL_law_416 : decode cL_law 416 = .ok (.iadd, 1) := by decide +kernel
theorem dL_law_417 : decode cL_law 417 = .ok (.iaload, 1) := by decide +kernel
theorem dL_law_418 : decode cL_law 418 = .ok (.invokevirtual 57, 3) := by decide +kernel
theorem dL_law_421 : decode cL_law 421 = .ok (.if_icmp .eq 41, 3) := by decide +kernel
theorem dL_law_424 : decode cL_law 424 = .ok (.iconst 0, 1) := by decide +kernel
theorem dL_law_425 : decode cL_law 425 = .ok (.ireturn, 1) := by decide +kernel
theorem dL_law_426 : decode cL_law 426 = .ok (.aload_n 1, 1) := by decide +kernel
theorem dL_law_427 : decode cL_law 427 = .ok (.aload_n 0, 1) := by decide +kernel
theorem dL_law_428 : decode cL_law 428 = .ok (.iload_n 3, 1) := by decide +kernel
theorem dL_law_429 : decode cL_law 429 = .ok (.iconst 1, 1) := by decide +kernel
theorem dL_law_430 : decode cL_law 430 = .ok (.iadd, 1) := by decide +kernel
theorem dL_law_431 : decode cL_law 431 = .ok (.iaload, 1) := by decide +kernel
theorem dL_law_432 : decode cL_law 432 = .ok (.invokevirtual 58, 3) := by decide +kernel
theorem dL_law_435 : decode cL_law 435 = .ok (.aload_n 2, 1) := by decide +kernel
theorem dL_law_436 : decode cL_law 436 = .ok (.aload_n 0, 1) := by decide +kernel
theorem dL_law_437 : decode cL_law 437 = .ok (.iload_n 3, 1) := by decide +kernel
theorem dL_law_438 : decode cL_law 438 = .ok (.iconst 1, 1) := by decide +kernel
theorem dL_law_439 : decode cL_law 439 = .ok (.iadd, 1) := by decide +kernel
theorem dL_law_440 : decode cL_law 440 = .ok (.iaload, 1) := by decide +kernel
theorem dL_law_441 : decode cL_law 441 = .ok (.invokevirtual 61, 3) := by decide +kernel
theorem dL_law_444 : decode cL_law 444 = .ok (.if_icmp .eq 18, 3) := by decide +kernel
theorem dL_law_447 : decode cL_law 447 = .ok (.iconst 0, 1) := by decide +kernel
theorem dL_law_448 : decode cL_law 448 = .ok (.ireturn, 1) := by decide +kernel
theorem dL_law_449 : decode cL_law 449 = .ok (.aload_n 1, 1) := by decide +kernel
theorem dL_law_450 : decode cL_law 450 = .ok (.invokevirtual 62, 3) := by decide +kernel
theorem dL_law_453 : decode cL_law 453 = .ok (.aload_n 2, 1) := by decide +kernel
theorem dL_law_454 : decode cL_law 454 = .ok (.invokevirtual 65, 3) := by decide +kernel
theorem dL_law_457 : decode cL_law 457 = .ok (.if_icmp .eq 5, 3) := by decide +kernel
theorem dL_law_460 : decode cL_law 460 = .ok (.iconst 0, 1) := by decide +kernel
theorem dL_law_461 : decode cL_law 461 = .ok (.ireturn, 1) := by decide +kernel
theorem dL_law_462 : decode cL_law 462 = .ok (.iinc 3 5, 3) := by decide +kernel
theorem dL_law_465 : decode cL_law 465 = .ok (.goto (-447), 3) := by decide +kernel
theorem dL_law_468 : decode cL_law 468 = .ok (.iconst 1, 1) := by decide +kernel
theorem dL_law_469 : decode cL_law 469 = .ok (.ireturn, 1) := by decide +kernel
end
section
/-! PURE: what the class's tables and their readers answer -/
def isTypeF (x : Int32) : Int32 := if x < 0 then 0 else if 18 ≤ x then 0 else 1
def isActF (x : Int32) : Int32 := if x < 0 then 0 else if 12 ≤ x then 0 else 1
def isWayF (x : Int32) : Int32 := if x < 0 then 0 else if 7 ≤ x then 0 else 1
def isIfcF (x : Int32) : Int32 := if x < 2 then 0 else if 6 < x then 0 else 1
def holdsF (b n : Int32) : Int32 := if b >>> (n &&& 31) &&& 1 = 1 then 1 else 0
def parentF (t : Int32) : Int32 := if isTypeF t = 0 then -1 else tab tabPl t.toNatClampNeg
def bodyF (t a : Int32) : Int32 := if isTypeF t = 0 then 0 else if isActF a = 0 then 0 else tab tabBl (t * 12 + a).toNatClampNeg
def ifcL (f : Nat → Int32) (t : Int32) : Nat → Nat → Int32 → Int32
  | 0, _, b => b
  | n + 1, k, b => ifcL f t n (k + 1) (if holdsF (tab tabNl t.toNatClampNeg) (nI k) = 0 then b else b ||| f k)
def ifcU (t : Int32) : Int32 := if isIfcF t = 0 then 0 else 1 <<< (t &&& 31)
def ifcB (f : Nat → Int32) (t : Int32) : Int32 := if isTypeF (parentF t) = 0 then ifcU t else ifcU t ||| f (parentF t).toNatClampNeg
def ifcF (f : Nat → Int32) (t : Int32) : Int32 := if isTypeF t = 0 then 0 else ifcL f t 5 2 (ifcB f t)
def bolF (a : Int32) : Nat → Int32 → Int32
  | 0, _ => 0
  | n + 1, h => if isTypeF h = 0 then 0 else if bodyF h a = 0 then bolF a n (parentF h) else bodyF h a
def ovL (f : Nat → Int32) (one t a : Int32) : Nat → Nat → Int32
  | 0, _ => 0
  | n + 1, k => if (if nI k = one then (0 : Int32) else if holdsF (f k) one = 0 then 0 else 1) = 0 then ovL f one t a n (k + 1) else if holdsF (f t.toNatClampNeg) (nI k) = 0 then ovL f one t a n (k + 1) else if bodyF (nI k) a = 0 then ovL f one t a n (k + 1) else 1
def boiL (f : Nat → Int32) (t a : Int32) : Nat → Nat → Int32
  | 0, _ => 0
  | n + 1, k => if (if holdsF (f t.toNatClampNeg) (nI k) = 0 then (0 : Int32) else if bodyF (nI k) a = 0 then 0 else 1) = 0 then boiL f t a n (k + 1) else if ovL f (nI k) t a 5 2 = 0 then bodyF (nI k) a else boiL f t a n (k + 1)
def selF (f : Nat → Int32) (t a : Int32) : Int32 := if bolF a 18 t = 0 then boiL f t a 5 2 else bolF a 18 t
def selOfF (f : Nat → Int32) (t a : Int32) : Int32 := if isTypeF t = 0 then 0 else if isActF a = 0 then 0 else f (t * 12 + a).toNatClampNeg
def bearsF (f : Nat → Int32) (t w : Int32) : Int32 := if isTypeF t = 0 then 0 else if isWayF w = 0 then 0 else if w ≤ 1 then 1 else if holdsF (f t.toNatClampNeg) w = 0 then 0 else 1
def hasActF (w a : Int32) : Int32 := if isWayF w = 0 then 0 else if isActF a = 0 then 0 else if holdsF (tab tabWl w.toNatClampNeg) a = 0 then 0 else 1
def khaL (f : Nat → Int32) (t a : Int32) : Nat → Nat → Int32
  | 0, _ => 0
  | n + 1, k => if bearsF f t (nI k) = 0 then khaL f t a n (k + 1) else if hasActF (nI k) a = 0 then khaL f t a n (k + 1) else 1
theorem isTypeF_b (x : Int32) : isTypeF x = 0 ∨ isTypeF x = 1 := by unfold isTypeF; split; exact Or.inl rfl; split; exact Or.inl rfl; exact Or.inr rfl
theorem isActF_b (x : Int32) : isActF x = 0 ∨ isActF x = 1 := by unfold isActF; split; exact Or.inl rfl; split; exact Or.inl rfl; exact Or.inr rfl
theorem isWayF_b (x : Int32) : isWayF x = 0 ∨ isWayF x = 1 := by unfold isWayF; split; exact Or.inl rfl; split; exact Or.inl rfl; exact Or.inr rfl
theorem isIfcF_b (x : Int32) : isIfcF x = 0 ∨ isIfcF x = 1 := by unfold isIfcF; split; exact Or.inl rfl; split; exact Or.inl rfl; exact Or.inr rfl
theorem holdsF_b (b n : Int32) : holdsF b n = 0 ∨ holdsF b n = 1 := by unfold holdsF; split; exact Or.inr rfl; exact Or.inl rfl
theorem ovL_b (f : Nat → Int32) (one t a : Int32) : ∀ n k, ovL f one t a n k = 0 ∨ ovL f one t a n k = 1
  | 0, _ => Or.inl rfl
  | n + 1, k => by
    have ih := ovL_b f one t a n (k + 1)
    rw [ovL]
    generalize ovL f one t a n (k + 1) = r at ih
    (repeat' split) <;> first | exact ih | exact Or.inr rfl
theorem bearsF_b (f : Nat → Int32) (t w : Int32) : bearsF f t w = 0 ∨ bearsF f t w = 1 := by
  unfold bearsF
  (repeat' split) <;> first | exact Or.inl rfl | exact Or.inr rfl
theorem hasActF_b (w a : Int32) : hasActF w a = 0 ∨ hasActF w a = 1 := by
  unfold hasActF
  (repeat' split) <;> first | exact Or.inl rfl | exact Or.inr rfl
theorem khaL_b (f : Nat → Int32) (t a : Int32) : ∀ n k, khaL f t a n k = 0 ∨ khaL f t a n k = 1
  | 0, _ => Or.inl rfl
  | n + 1, k => by
    have ih := khaL_b f t a n (k + 1)
    rw [khaL]
    generalize khaL f t a n (k + 1) = r at ih
    (repeat' split) <;> first | exact ih | exact Or.inr rfl
theorem in_lt {x n : Int32} {N : Nat} (hN : N < 2 ^ 31) (hn : n = nI N) (h0 : ¬ x < 0) (h1 : ¬ n ≤ x) : vp_in x N := by
  rw [vp_in_iff]
  rw [Int32.lt_iff_toInt_lt] at h0
  rw [Int32.le_iff_toInt_le, hn, nI_toInt hN] at h1
  have e : (0 : Int32).toInt = 0 := rfl
  rw [e] at h0
  omega
theorem isTypeF_in {x : Int32} (h : ¬ isTypeF x = 0) : vp_in x 18 := by
  unfold isTypeF at h
  by_cases h0 : x < 0
  · rw [if_pos h0] at h; exact absurd rfl h
  · rw [if_neg h0] at h
    by_cases h1 : 18 ≤ x
    · rw [if_pos h1] at h; exact absurd rfl h
    · exact in_lt (by omega) rfl h0 h1
theorem isActF_in {x : Int32} (h : ¬ isActF x = 0) : vp_in x 12 := by
  unfold isActF at h
  by_cases h0 : x < 0
  · rw [if_pos h0] at h; exact absurd rfl h
  · rw [if_neg h0] at h
    by_cases h1 : 12 ≤ x
    · rw [if_pos h1] at h; exact absurd rfl h
    · exact in_lt (by omega) rfl h0 h1
theorem isWayF_in {x : Int32} (h : ¬ isWayF x = 0) : vp_in x 7 := by
  unfold isWayF at h
  by_cases h0 : x < 0
  · rw [if_pos h0] at h; exact absurd rfl h
  · rw [if_neg h0] at h
    by_cases h1 : 7 ≤ x
    · rw [if_pos h1] at h; exact absurd rfl h
    · exact in_lt (by omega) rfl h0 h1
theorem in_ta {t a : Int32} (h : vp_in t 18) (g : vp_in a 12) : vp_in (t * 12 + a) 216 := by
  obtain ⟨i, hi, rfl⟩ := vp_in_of h (by omega)
  obtain ⟨j, hj, rfl⟩ := vp_in_of g (by omega)
  rw [show (12 : Int32) = nI 12 from rfl, pk_mul, nI_add]
  exact vp_in_nI (by omega) (by omega)
theorem le6 {k : Nat} (h : k ≤ 6) : ¬ (6 : Int32) < nI k := nI_nlt (a := 6) (b := k) h (by omega)
theorem typeF_nI {k : Nat} (h : k < 18) : isTypeF (nI k) = 1 := by
  unfold isTypeF
  rw [if_neg (nI_pos (by omega)), if_neg (show ¬ (18 : Int32) ≤ nI k from nI_ge (b := 18) h (by omega))]
theorem actF_nI {k : Nat} (h : k < 12) : isActF (nI k) = 1 := by
  unfold isActF
  rw [if_neg (nI_pos (by omega)), if_neg (show ¬ (12 : Int32) ≤ nI k from nI_ge (b := 12) h (by omega))]
theorem wayF_nI {k : Nat} (h : k < 7) : isWayF (nI k) = 1 := by
  unfold isWayF
  rw [if_neg (nI_pos (by omega)), if_neg (show ¬ (7 : Int32) ≤ nI k from nI_ge (b := 7) h (by omega))]
end
section
set_option maxRecDepth 100000 in
set_option maxHeartbeats 4000000 in
theorem c_X1_isType (l : Launch) (G : hG) (H : Heap) (x : Int32)  : Met l yX1_isType wzX1_isType { frames := 0, cells := 0, slots := 0, locals := 0 } (hPr [.int x] G H) (hQr (isTypeF x) H G.2.2.2) 0 0 (hA G.2.2.2) := by
  refine hMetr (Qc := fun H => hQr (isTypeF x) H G.2.2.2) (by decide) (Nat.le_of_ble_eq_true rfl) (fun p e s m below meth c ls S hr hlk hE hH hl => ?_)
  subst hH
  obtain ⟨hx, hb, hml, hown, hts⟩ := id S
  have hS : va_S (hA G.2.2.2) s.heap s.heap [] := va_S.rf
  have hl : lv_has ls 1 [(0, .int x)] := hl
  refine lv_iload_n hx hb dX1_isType_0 rfl (lv_at hl 0 rfl) ?_
  refine lv_if_lt (tgt := 14) hx hb dX1_isType_1 (by decide) (fun c_1 => ?_) (fun c_1 => ?_)
  · refine lv_iconst (v := 0) hx hb dX1_isType_14 (by decide) ?_
    exact h_rzret S hr hlk hS dX1_isType_15 (isTypeF_b x) (by simp [isTypeF, c_1])
  · refine lv_iload_n hx hb dX1_isType_4 rfl (lv_at hl 0 rfl) ?_
    refine lv_bipush (v := 18) hx hb dX1_isType_5 (by decide) ?_
    refine lv_icmp_ge (tgt := 14) hx hb dX1_isType_7 (by decide) (fun c_7 => ?_) (fun c_7 => ?_)
    · refine lv_iconst (v := 0) hx hb dX1_isType_14 (by decide) ?_
      exact h_rzret S hr hlk hS dX1_isType_15 (isTypeF_b x) (by simp [isTypeF, c_1, c_7])
    · refine lv_iconst (v := 1) hx hb dX1_isType_10 (by decide) ?_
      refine lv_goto (tgt := 15) hx hb dX1_isType_11 (by decide) ?_
      exact h_rzret S hr hlk hS dX1_isType_15 (isTypeF_b x) (by simp [isTypeF, c_1, c_7])
set_option maxRecDepth 100000 in
set_option maxHeartbeats 4000000 in
theorem c_X1_isInterface (l : Launch) (G : hG) (H : Heap) (x : Int32)  : Met l yX1_isInterface wzX1_isInterface { frames := 0, cells := 0, slots := 0, locals := 0 } (hPr [.int x] G H) (hQr (isIfcF x) H G.2.2.2) 0 0 (hA G.2.2.2) := by
  refine hMetr (Qc := fun H => hQr (isIfcF x) H G.2.2.2) (by decide) (Nat.le_of_ble_eq_true rfl) (fun p e s m below meth c ls S hr hlk hE hH hl => ?_)
  subst hH
  obtain ⟨hx, hb, hml, hown, hts⟩ := id S
  have hS : va_S (hA G.2.2.2) s.heap s.heap [] := va_S.rf
  have hl : lv_has ls 1 [(0, .int x)] := hl
  refine lv_iload_n hx hb dX1_isInterface_0 rfl (lv_at hl 0 rfl) ?_
  refine lv_iconst (v := 2) hx hb dX1_isInterface_1 (by decide) ?_
  refine lv_icmp_lt (tgt := 15) hx hb dX1_isInterface_2 (by decide) (fun c_2 => ?_) (fun c_2 => ?_)
  · refine lv_iconst (v := 0) hx hb dX1_isInterface_15 (by decide) ?_
    exact h_rzret S hr hlk hS dX1_isInterface_16 (isIfcF_b x) (by simp [isIfcF, c_2])
  · refine lv_iload_n hx hb dX1_isInterface_5 rfl (lv_at hl 0 rfl) ?_
    refine lv_bipush (v := 6) hx hb dX1_isInterface_6 (by decide) ?_
    refine lv_icmp_gt (tgt := 15) hx hb dX1_isInterface_8 (by decide) (fun c_8 => ?_) (fun c_8 => ?_)
    · refine lv_iconst (v := 0) hx hb dX1_isInterface_15 (by decide) ?_
      exact h_rzret S hr hlk hS dX1_isInterface_16 (isIfcF_b x) (by simp [isIfcF, c_2, c_8])
    · refine lv_iconst (v := 1) hx hb dX1_isInterface_11 (by decide) ?_
      refine lv_goto (tgt := 16) hx hb dX1_isInterface_12 (by decide) ?_
      exact h_rzret S hr hlk hS dX1_isInterface_16 (isIfcF_b x) (by simp [isIfcF, c_2, c_8])
set_option maxRecDepth 100000 in
set_option maxHeartbeats 4000000 in
theorem c_X1_holds (l : Launch) (G : hG) (H : Heap) (b n : Int32)  : Met l yX1_holds wzX1_holds { frames := 0, cells := 0, slots := 0, locals := 0 } (hPr [.int b, .int n] G H) (hQr (holdsF b n) H G.2.2.2) 0 0 (hA G.2.2.2) := by
  refine hMetr (Qc := fun H => hQr (holdsF b n) H G.2.2.2) (by decide) (Nat.le_of_ble_eq_true rfl) (fun p e s m below meth c ls S hr hlk hE hH hl => ?_)
  subst hH
  obtain ⟨hx, hb, hml, hown, hts⟩ := id S
  have hS : va_S (hA G.2.2.2) s.heap s.heap [] := va_S.rf
  have hl : lv_has ls 2 [(0, .int b), (1, .int n)] := hl
  refine lv_iload_n hx hb dX1_holds_0 rfl (lv_at hl 0 rfl) ?_
  refine lv_iload_n hx hb dX1_holds_1 rfl (lv_at hl 1 rfl) ?_
  refine lv_ishr hx hb dX1_holds_2 ?_
  refine lv_iconst (v := 1) hx hb dX1_holds_3 (by decide) ?_
  refine lv_iand hx hb dX1_holds_4 ?_
  refine lv_iconst (v := 1) hx hb dX1_holds_5 (by decide) ?_
  refine lv_icmp_ne (tgt := 13) hx hb dX1_holds_6 (by decide) (fun c_6 => ?_) (fun c_6 => ?_)
  · refine lv_iconst (v := 0) hx hb dX1_holds_13 (by decide) ?_
    exact h_rzret S hr hlk hS dX1_holds_14 (holdsF_b b n) (by simp [holdsF, c_6])
  · refine lv_iconst (v := 1) hx hb dX1_holds_9 (by decide) ?_
    refine lv_goto (tgt := 14) hx hb dX1_holds_10 (by decide) ?_
    exact h_rzret S hr hlk hS dX1_holds_14 (holdsF_b b n) (by simp [holdsF, c_6])
set_option maxRecDepth 100000 in
set_option maxHeartbeats 4000000 in
theorem c_X4_isAct (l : Launch) (G : hG) (H : Heap) (x : Int32)  : Met l yX4_isAct wzX4_isAct { frames := 0, cells := 0, slots := 0, locals := 0 } (hPr [.int x] G H) (hQr (isActF x) H G.2.2.2) 0 0 (hA G.2.2.2) := by
  refine hMetr (Qc := fun H => hQr (isActF x) H G.2.2.2) (by decide) (Nat.le_of_ble_eq_true rfl) (fun p e s m below meth c ls S hr hlk hE hH hl => ?_)
  subst hH
  obtain ⟨hx, hb, hml, hown, hts⟩ := id S
  have hS : va_S (hA G.2.2.2) s.heap s.heap [] := va_S.rf
  have hl : lv_has ls 1 [(0, .int x)] := hl
  refine lv_iload_n hx hb dX4_isAct_0 rfl (lv_at hl 0 rfl) ?_
  refine lv_if_lt (tgt := 14) hx hb dX4_isAct_1 (by decide) (fun c_1 => ?_) (fun c_1 => ?_)
  · refine lv_iconst (v := 0) hx hb dX4_isAct_14 (by decide) ?_
    exact h_rzret S hr hlk hS dX4_isAct_15 (isActF_b x) (by simp [isActF, c_1])
  · refine lv_iload_n hx hb dX4_isAct_4 rfl (lv_at hl 0 rfl) ?_
    refine lv_bipush (v := 12) hx hb dX4_isAct_5 (by decide) ?_
    refine lv_icmp_ge (tgt := 14) hx hb dX4_isAct_7 (by decide) (fun c_7 => ?_) (fun c_7 => ?_)
    · refine lv_iconst (v := 0) hx hb dX4_isAct_14 (by decide) ?_
      exact h_rzret S hr hlk hS dX4_isAct_15 (isActF_b x) (by simp [isActF, c_1, c_7])
    · refine lv_iconst (v := 1) hx hb dX4_isAct_10 (by decide) ?_
      refine lv_goto (tgt := 15) hx hb dX4_isAct_11 (by decide) ?_
      exact h_rzret S hr hlk hS dX4_isAct_15 (isActF_b x) (by simp [isActF, c_1, c_7])
set_option maxRecDepth 100000 in
set_option maxHeartbeats 4000000 in
theorem c_X4_isWay (l : Launch) (G : hG) (H : Heap) (x : Int32)  : Met l yX4_isWay wzX4_isWay { frames := 0, cells := 0, slots := 0, locals := 0 } (hPr [.int x] G H) (hQr (isWayF x) H G.2.2.2) 0 0 (hA G.2.2.2) := by
  refine hMetr (Qc := fun H => hQr (isWayF x) H G.2.2.2) (by decide) (Nat.le_of_ble_eq_true rfl) (fun p e s m below meth c ls S hr hlk hE hH hl => ?_)
  subst hH
  obtain ⟨hx, hb, hml, hown, hts⟩ := id S
  have hS : va_S (hA G.2.2.2) s.heap s.heap [] := va_S.rf
  have hl : lv_has ls 1 [(0, .int x)] := hl
  refine lv_iload_n hx hb dX4_isWay_0 rfl (lv_at hl 0 rfl) ?_
  refine lv_if_lt (tgt := 14) hx hb dX4_isWay_1 (by decide) (fun c_1 => ?_) (fun c_1 => ?_)
  · refine lv_iconst (v := 0) hx hb dX4_isWay_14 (by decide) ?_
    exact h_rzret S hr hlk hS dX4_isWay_15 (isWayF_b x) (by simp [isWayF, c_1])
  · refine lv_iload_n hx hb dX4_isWay_4 rfl (lv_at hl 0 rfl) ?_
    refine lv_bipush (v := 7) hx hb dX4_isWay_5 (by decide) ?_
    refine lv_icmp_ge (tgt := 14) hx hb dX4_isWay_7 (by decide) (fun c_7 => ?_) (fun c_7 => ?_)
    · refine lv_iconst (v := 0) hx hb dX4_isWay_14 (by decide) ?_
      exact h_rzret S hr hlk hS dX4_isWay_15 (isWayF_b x) (by simp [isWayF, c_1, c_7])
    · refine lv_iconst (v := 1) hx hb dX4_isWay_10 (by decide) ?_
      refine lv_goto (tgt := 15) hx hb dX4_isWay_11 (by decide) ?_
      exact h_rzret S hr hlk hS dX4_isWay_15 (isWayF_b x) (by simp [isWayF, c_1, c_7])
set_option maxRecDepth 100000 in
set_option maxHeartbeats 4000000 in
theorem c_X1_parentOf (l : Launch) (G : hG) (H : Heap) (t : Int32)  : Met l yX1_parentOf wzX1_parentOf { frames := 1, cells := 0, slots := 0, locals := 20 } (hPr [.int t] G H) (hQr (parentF t) H G.2.2.2) 0 0 (hA G.2.2.2) := by
  refine hMetr (Qc := fun H => hQr (parentF t) H G.2.2.2) (by decide) (Nat.le_of_ble_eq_true rfl) (fun p e s m below meth c ls S hr hlk hE hH hl => ?_)
  subst hH
  obtain ⟨hx, hb, hml, hown, hts⟩ := id S
  have hS : va_S (hA G.2.2.2) s.heap s.heap [] := va_S.rf
  have hl : lv_has ls 1 [(0, .int t)] := hl
  refine lv_iload_n hx hb dX1_parentOf_0 rfl (lv_at hl 0 rfl) ?_
  refine hc_r (va_runS (As := [.int t]) (rest := []) S (c_X1_isType l G _ t) (va_cwS 1 hts (gWSS q_l_1_26 q_st_X1_isType q_in_1 q_co_X1_isType) rfl rfl rfl (by decide +kernel) ⟨Nat.le_of_ble_eq_true rfl, Nat.le_of_ble_eq_true rfl⟩) (hPreSr hE hS) rfl rfl hl.1 rfl (lv_room (Nat.le_of_ble_eq_true rfl)) dX1_parentOf_1 ⟨Nat.le_of_ble_eq_true rfl, Nat.le_of_ble_eq_true rfl⟩) hS (fun locs hS => ?_)
  refine lv_if_eq (tgt := 15) hx hb dX1_parentOf_4 (by decide) (fun c_4 => ?_) (fun c_4 => ?_)
  · refine lv_iconst (v := (-1)) hx hb dX1_parentOf_15 (by decide) ?_
    exact h_rret S hr hlk hS dX1_parentOf_16 (by simp [parentF, c_4])
  · refine va_gets hx hb hE.2.2.2.1.1 hS hown (hts _ q_f_1_30) (fun _ h => h) dX1_parentOf_7 ?_
    refine lv_iload_n hx hb dX1_parentOf_10 rfl (lv_at hl 0 rfl) ?_
    refine va_ti hx hb hE.2.2.2.1.2 hS (isTypeF_in c_4) (v := .int (tab tabPl (t).toNatClampNeg)) rfl dX1_parentOf_11 ?_
    refine lv_goto (tgt := 16) hx hb dX1_parentOf_12 (by decide) ?_
    exact h_rret S hr hlk hS dX1_parentOf_16 (by simp [parentF, c_4])
set_option maxRecDepth 100000 in
set_option maxHeartbeats 4000000 in
theorem c_X1_bodyOf (l : Launch) (G : hG) (H : Heap) (t a : Int32)  : Met l yX1_bodyOf wzX1_bodyOf { frames := 1, cells := 0, slots := 0, locals := 20 } (hPr [.int t, .int a] G H) (hQr (bodyF t a) H G.2.2.2) 0 0 (hA G.2.2.2) := by
  refine hMetr (Qc := fun H => hQr (bodyF t a) H G.2.2.2) (by decide) (Nat.le_of_ble_eq_true rfl) (fun p e s m below meth c ls S hr hlk hE hH hl => ?_)
  subst hH
  obtain ⟨hx, hb, hml, hown, hts⟩ := id S
  have hS : va_S (hA G.2.2.2) s.heap s.heap [] := va_S.rf
  have hl : lv_has ls 2 [(0, .int t), (1, .int a)] := hl
  refine lv_iload_n hx hb dX1_bodyOf_0 rfl (lv_at hl 0 rfl) ?_
  refine hc_r (va_runS (As := [.int t]) (rest := []) S (c_X1_isType l G _ t) (va_cwS 1 hts (gWSS q_l_1_26 q_st_X1_isType q_in_1 q_co_X1_isType) rfl rfl rfl (by decide +kernel) ⟨Nat.le_of_ble_eq_true rfl, Nat.le_of_ble_eq_true rfl⟩) (hPreSr hE hS) rfl rfl hl.1 rfl (lv_room (Nat.le_of_ble_eq_true rfl)) dX1_bodyOf_1 ⟨Nat.le_of_ble_eq_true rfl, Nat.le_of_ble_eq_true rfl⟩) hS (fun locs hS => ?_)
  refine lv_if_eq (tgt := 27) hx hb dX1_bodyOf_4 (by decide) (fun c_4 => ?_) (fun c_4 => ?_)
  · refine lv_iconst (v := 0) hx hb dX1_bodyOf_27 (by decide) ?_
    exact h_rret S hr hlk hS dX1_bodyOf_28 (by simp [bodyF, c_4])
  · refine lv_iload_n hx hb dX1_bodyOf_7 rfl (lv_at hl 1 rfl) ?_
    refine hc_r (va_runSN (As := [.int a]) (rest := []) S (c_X4_isAct l G _ a) ⟨va_cnB 1 hts (gWS q_co_X4_isAct) rfl rfl rfl (hE.nest 9 rfl) (hts _ q_in_4) (by decide +kernel) ⟨Nat.le_of_ble_eq_true rfl, Nat.le_of_ble_eq_true rfl⟩, hts _ q_st_X4_isAct, trivial⟩ (hPreSr hE hS) rfl rfl hl.1 rfl (lv_room (Nat.le_of_ble_eq_true rfl)) dX1_bodyOf_8 ⟨Nat.le_of_ble_eq_true rfl, Nat.le_of_ble_eq_true rfl⟩) hS (fun locs hS => ?_)
    refine lv_if_eq (tgt := 27) hx hb dX1_bodyOf_11 (by decide) (fun c_11 => ?_) (fun c_11 => ?_)
    · refine lv_iconst (v := 0) hx hb dX1_bodyOf_27 (by decide) ?_
      exact h_rret S hr hlk hS dX1_bodyOf_28 (by simp [bodyF, c_4, c_11])
    · refine va_gets hx hb hE.2.2.2.2.2.2.1 hS hown (hts _ q_f_1_36) (fun _ h => h) dX1_bodyOf_14 ?_
      refine lv_iload_n hx hb dX1_bodyOf_17 rfl (lv_at hl 0 rfl) ?_
      refine lv_bipush (v := 12) hx hb dX1_bodyOf_18 (by decide) ?_
      refine lv_imul hx hb dX1_bodyOf_20 ?_
      refine lv_iload_n hx hb dX1_bodyOf_21 rfl (lv_at hl 1 rfl) ?_
      refine lv_iadd hx hb dX1_bodyOf_22 ?_
      refine va_ti hx hb hE.2.2.2.2.2.2.2 hS (in_ta (isTypeF_in c_4) (isActF_in c_11)) (v := .int (tab tabBl ((t * 12) + a).toNatClampNeg)) rfl dX1_bodyOf_23 ?_
      refine lv_goto (tgt := 28) hx hb dX1_bodyOf_24 (by decide) ?_
      exact h_rret S hr hlk hS dX1_bodyOf_28 (by simp [bodyF, c_4, c_11])
set_option maxRecDepth 100000 in
set_option maxHeartbeats 4000000 in
theorem c_X1_interfacesOf (l : Launch) (G : hG) (H : Heap) {ad : Nat → Nat} {ct : Nat → Option va_E} (hW : hw G ad ct H) {f : Nat → Int32} (h4 : ct 4 = some (.inl (G.2.1.1, 18, .inl f))) (t : Int32)  : Met l yX1_interfacesOf wzX1_interfacesOf { frames := 2, cells := 0, slots := 0, locals := 40 } (hPr [.int t, .ref (ad 4)] G H) (hQr (ifcF f t) H G.2.2.2) 0 0 (hA G.2.2.2) := by
  refine hMetr (Qc := fun H => hQr (ifcF f t) H G.2.2.2) (by decide) (Nat.le_of_ble_eq_true rfl) (fun p e s m below meth c ls S hr hlk hE hH hl => ?_)
  subst hH
  obtain ⟨hx, hb, hml, hown, hts⟩ := id S
  have hS : va_S (hA G.2.2.2) s.heap s.heap [] := va_S.rf
  have hl : lv_has ls 5 [(0, .int t), (1, .ref (ad 4))] := hl
  refine lv_iload_n hx hb dX1_interfacesOf_0 rfl (lv_at hl 0 rfl) ?_
  refine hc_r (va_runS (As := [.int t]) (rest := []) S (c_X1_isType l G _ t) (va_cwS 1 hts (gWSS q_l_1_26 q_st_X1_isType q_in_1 q_co_X1_isType) rfl rfl rfl (by decide +kernel) ⟨Nat.le_of_ble_eq_true rfl, Nat.le_of_ble_eq_true rfl⟩) (hPreSr hE hS) rfl rfl hl.1 rfl (lv_room (Nat.le_of_ble_eq_true rfl)) dX1_interfacesOf_1 ⟨Nat.le_of_ble_eq_true rfl, Nat.le_of_ble_eq_true rfl⟩) hS (fun locs hS => ?_)
  refine lv_if_ne (tgt := 9) hx hb dX1_interfacesOf_4 (by decide) (fun c_4 => ?_) (fun c_4 => ?_)
  · refine lv_iload_n hx hb dX1_interfacesOf_9 rfl (lv_at hl 0 rfl) ?_
    refine hc_r (va_runS (As := [.int t]) (rest := []) S (c_X1_parentOf l G _ t) (va_cwS 1 hts (gWSS q_l_1_39 q_st_X1_parentOf q_in_1 q_co_X1_parentOf) rfl rfl rfl (by decide +kernel) ⟨Nat.le_of_ble_eq_true rfl, Nat.le_of_ble_eq_true rfl⟩) (hPreSr hE hS) rfl rfl hl.1 rfl (lv_room (Nat.le_of_ble_eq_true rfl)) dX1_interfacesOf_10 ⟨Nat.le_of_ble_eq_true rfl, Nat.le_of_ble_eq_true rfl⟩) hS (fun locs hS => ?_)
    refine lv_istore_n (lv' := [(2, .int (parentF t)), (0, .int t), (1, .ref (ad 4))]) hx hb dX1_interfacesOf_13 rfl hl (by decide) rfl (fun ls hl => ?_)
    refine lv_iload_n hx hb dX1_interfacesOf_14 rfl (lv_at hl 1 rfl) ?_
    refine hc_r (va_runS (As := [.int t]) (rest := []) S (c_X1_isInterface l G _ t) (va_cwS 1 hts (gWSS q_l_1_43 q_st_X1_isInterface q_in_1 q_co_X1_isInterface) rfl rfl rfl (by decide +kernel) ⟨Nat.le_of_ble_eq_true rfl, Nat.le_of_ble_eq_true rfl⟩) (hPreSr hE hS) rfl rfl hl.1 rfl (lv_room (Nat.le_of_ble_eq_true rfl)) dX1_interfacesOf_15 ⟨Nat.le_of_ble_eq_true rfl, Nat.le_of_ble_eq_true rfl⟩) hS (fun locs hS => ?_)
    refine lv_if_eq (tgt := 27) hx hb dX1_interfacesOf_18 (by decide) (fun c_18 => ?_) (fun c_18 => ?_)
    · refine lv_iconst (v := 0) hx hb dX1_interfacesOf_27 (by decide) ?_
      refine lv_istore_n (lv' := [(3, .int 0), (2, .int (parentF t)), (0, .int t), (1, .ref (ad 4))]) hx hb dX1_interfacesOf_28 rfl hl (by decide) rfl (fun ls hl => ?_)
      refine lv_iload_n hx hb dX1_interfacesOf_29 rfl (lv_at hl 1 rfl) ?_
      refine hc_r (va_runS (As := [.int (parentF t)]) (rest := []) S (c_X1_isType l G _ (parentF t)) (va_cwS 1 hts (gWSS q_l_1_26 q_st_X1_isType q_in_1 q_co_X1_isType) rfl rfl rfl (by decide +kernel) ⟨Nat.le_of_ble_eq_true rfl, Nat.le_of_ble_eq_true rfl⟩) (hPreSr hE hS) rfl rfl hl.1 rfl (lv_room (Nat.le_of_ble_eq_true rfl)) dX1_interfacesOf_30 ⟨Nat.le_of_ble_eq_true rfl, Nat.le_of_ble_eq_true rfl⟩) hS (fun locs hS => ?_)
      refine lv_if_eq (tgt := 42) hx hb dX1_interfacesOf_33 (by decide) (fun c_33 => ?_) (fun c_33 => ?_)
      · refine lv_iconst (v := 2) hx hb dX1_interfacesOf_42 (by decide) ?_
        refine lv_istore (lv' := [(4, .int 2), (3, .int 0), (2, .int (parentF t)), (0, .int t), (1, .ref (ad 4))]) hx hb dX1_interfacesOf_43 hl (by decide) rfl (fun ls hl => ?_)
        have loop : ∀ (n k : Nat) (b : Int32) (locs : List Loc) (ls : Array Slot), n + k = 7 → (ifcF f t = ifcL f t n k b) → va_S (hA G.2.2.2) s.heap s.heap locs → lv_has ls 5 [(4, .int (nI k)), (3, .int b), (0, .int t), (1, .ref (ad 4))] → W p l e { frames := 2, cells := 0, slots := 0, locals := 40 } s m ([.int t, .ref (ad 4)] : List Value).toArray below meth c s.heap locs 0 0 (MQ below (hQr (ifcF f t) s.heap G.2.2.2) ([.int t, .ref (ad 4)] : List Value).toArray s 0 0 (hA G.2.2.2)) (F0 m 45 ls []) := by
          intro n
          induction n with
          | zero =>
            intro k b locs ls hnk hv hS hl
            have hk : k = 7 := by omega
            subst hk
            refine lv_iload hx hb dX1_interfacesOf_45 (lv_at hl 0 rfl) ?_
            refine lv_bipush (v := 6) hx hb dX1_interfacesOf_47 (by decide) ?_
            refine lv_icmp_gt (tgt := 78) hx hb dX1_interfacesOf_49 (by decide) (fun _ => ?_) (fun q => absurd (by decide) q)
            refine lv_iload_n hx hb dX1_interfacesOf_78 rfl (lv_at hl 1 rfl) ?_
            exact h_rret S hr hlk hS dX1_interfacesOf_79 (by rw [hv]; simp [ifcL, c_4, c_18, c_33])
          | succ n ih =>
            intro k b locs ls hnk hv hS hl
            refine lv_iload hx hb dX1_interfacesOf_45 (lv_at hl 0 rfl) ?_
            refine lv_bipush (v := 6) hx hb dX1_interfacesOf_47 (by decide) ?_
            refine lv_icmp_gt (tgt := 78) hx hb dX1_interfacesOf_49 (by decide) (fun q => absurd q (le6 (by omega))) (fun _ => ?_)
            refine va_gets hx hb hE.2.2.2.2.1.1 hS hown (hts _ q_f_1_46) (fun _ h => h) dX1_interfacesOf_52 ?_
            refine lv_iload_n hx hb dX1_interfacesOf_55 rfl (lv_at hl 2 rfl) ?_
            refine va_ti hx hb hE.2.2.2.2.1.2 hS (isTypeF_in c_4) (v := .int (tab tabNl (t).toNatClampNeg)) rfl dX1_interfacesOf_56 ?_
            refine lv_iload hx hb dX1_interfacesOf_57 (lv_at hl 0 rfl) ?_
            refine hc_r (va_runS (As := [.int (tab tabNl (t).toNatClampNeg), .int (nI k)]) (rest := []) S (c_X1_holds l G _ (tab tabNl (t).toNatClampNeg) (nI k)) (va_cwS 2 hts (gWSS q_l_1_49 q_st_X1_holds q_in_1 q_co_X1_holds) rfl rfl rfl (by decide +kernel) ⟨Nat.le_of_ble_eq_true rfl, Nat.le_of_ble_eq_true rfl⟩) (hPreSr hE hS) rfl rfl hl.1 rfl (lv_room (Nat.le_of_ble_eq_true rfl)) dX1_interfacesOf_59 ⟨Nat.le_of_ble_eq_true rfl, Nat.le_of_ble_eq_true rfl⟩) hS (fun locs hS => ?_)
            refine lv_if_eq (tgt := 72) hx hb dX1_interfacesOf_62 (by decide) (fun c_62 => ?_) (fun c_62 => ?_)
            · refine lv_iinc (v := (nI (k + 1))) (lv' := [(4, .int (nI (k + 1))), (3, .int b), (0, .int t), (1, .ref (ad 4))]) hx hb dX1_interfacesOf_72 hl (k := 0) rfl (nI_1 k) (by decide) rfl (fun ls hl => ?_)
              refine lv_goto (tgt := 45) hx hb dX1_interfacesOf_75 (by decide) ?_
              exact ih (k + 1) b _ _ (by omega) (by rw [hv]; simp [ifcL, c_62]) hS (lv_sub hl [0, 1, 2, 3] rfl)
            · refine lv_iload_n hx hb dX1_interfacesOf_65 rfl (lv_at hl 1 rfl) ?_
              refine lv_aload_n hx hb dX1_interfacesOf_66 rfl (lv_at hl 3 rfl) ?_
              refine lv_iload hx hb dX1_interfacesOf_67 (lv_at hl 0 rfl) ?_
              refine hr_ialdk S hE hW h4 (j := k) rfl (by omega) (by decide) dX1_interfacesOf_69 ?_
              refine lv_ior hx hb dX1_interfacesOf_70 ?_
              refine lv_istore_n (lv' := [(3, .int (b ||| (f k))), (4, .int (nI k)), (0, .int t), (1, .ref (ad 4))]) hx hb dX1_interfacesOf_71 rfl hl (by decide) rfl (fun ls hl => ?_)
              refine lv_iinc (v := (nI (k + 1))) (lv' := [(4, .int (nI (k + 1))), (3, .int (b ||| (f k))), (0, .int t), (1, .ref (ad 4))]) hx hb dX1_interfacesOf_72 hl (k := 1) rfl (nI_1 k) (by decide) rfl (fun ls hl => ?_)
              refine lv_goto (tgt := 45) hx hb dX1_interfacesOf_75 (by decide) ?_
              exact ih (k + 1) (b ||| (f k)) _ _ (by omega) (by rw [hv]; simp [ifcL, c_62]) hS (lv_sub hl [0, 1, 2, 3] rfl)
        exact loop 5 2 0 _ _ (by decide) (by simp [ifcF, ifcB, ifcU, c_4, c_18, c_33]) hS (lv_sub hl [0, 1, 3, 4] rfl)
      · refine lv_iload_n hx hb dX1_interfacesOf_36 rfl (lv_at hl 0 rfl) ?_
        refine lv_aload_n hx hb dX1_interfacesOf_37 rfl (lv_at hl 3 rfl) ?_
        refine lv_iload_n hx hb dX1_interfacesOf_38 rfl (lv_at hl 1 rfl) ?_
        refine hr_iald S hE hW h4 (isTypeF_in c_33) dX1_interfacesOf_39 ?_
        refine lv_ior hx hb dX1_interfacesOf_40 ?_
        refine lv_istore_n (lv' := [(3, .int (0 ||| (f (parentF t).toNatClampNeg))), (2, .int (parentF t)), (0, .int t), (1, .ref (ad 4))]) hx hb dX1_interfacesOf_41 rfl hl (by decide) rfl (fun ls hl => ?_)
        refine lv_iconst (v := 2) hx hb dX1_interfacesOf_42 (by decide) ?_
        refine lv_istore (lv' := [(4, .int 2), (3, .int (0 ||| (f (parentF t).toNatClampNeg))), (2, .int (parentF t)), (0, .int t), (1, .ref (ad 4))]) hx hb dX1_interfacesOf_43 hl (by decide) rfl (fun ls hl => ?_)
        have loop : ∀ (n k : Nat) (b : Int32) (locs : List Loc) (ls : Array Slot), n + k = 7 → (ifcF f t = ifcL f t n k b) → va_S (hA G.2.2.2) s.heap s.heap locs → lv_has ls 5 [(4, .int (nI k)), (3, .int b), (0, .int t), (1, .ref (ad 4))] → W p l e { frames := 2, cells := 0, slots := 0, locals := 40 } s m ([.int t, .ref (ad 4)] : List Value).toArray below meth c s.heap locs 0 0 (MQ below (hQr (ifcF f t) s.heap G.2.2.2) ([.int t, .ref (ad 4)] : List Value).toArray s 0 0 (hA G.2.2.2)) (F0 m 45 ls []) := by
          intro n
          induction n with
          | zero =>
            intro k b locs ls hnk hv hS hl
            have hk : k = 7 := by omega
            subst hk
            refine lv_iload hx hb dX1_interfacesOf_45 (lv_at hl 0 rfl) ?_
            refine lv_bipush (v := 6) hx hb dX1_interfacesOf_47 (by decide) ?_
            refine lv_icmp_gt (tgt := 78) hx hb dX1_interfacesOf_49 (by decide) (fun _ => ?_) (fun q => absurd (by decide) q)
            refine lv_iload_n hx hb dX1_interfacesOf_78 rfl (lv_at hl 1 rfl) ?_
            exact h_rret S hr hlk hS dX1_interfacesOf_79 (by rw [hv]; simp [ifcL, c_4, c_18, c_33])
          | succ n ih =>
            intro k b locs ls hnk hv hS hl
            refine lv_iload hx hb dX1_interfacesOf_45 (lv_at hl 0 rfl) ?_
            refine lv_bipush (v := 6) hx hb dX1_interfacesOf_47 (by decide) ?_
            refine lv_icmp_gt (tgt := 78) hx hb dX1_interfacesOf_49 (by decide) (fun q => absurd q (le6 (by omega))) (fun _ => ?_)
            refine va_gets hx hb hE.2.2.2.2.1.1 hS hown (hts _ q_f_1_46) (fun _ h => h) dX1_interfacesOf_52 ?_
            refine lv_iload_n hx hb dX1_interfacesOf_55 rfl (lv_at hl 2 rfl) ?_
            refine va_ti hx hb hE.2.2.2.2.1.2 hS (isTypeF_in c_4) (v := .int (tab tabNl (t).toNatClampNeg)) rfl dX1_interfacesOf_56 ?_
            refine lv_iload hx hb dX1_interfacesOf_57 (lv_at hl 0 rfl) ?_
            refine hc_r (va_runS (As := [.int (tab tabNl (t).toNatClampNeg), .int (nI k)]) (rest := []) S (c_X1_holds l G _ (tab tabNl (t).toNatClampNeg) (nI k)) (va_cwS 2 hts (gWSS q_l_1_49 q_st_X1_holds q_in_1 q_co_X1_holds) rfl rfl rfl (by decide +kernel) ⟨Nat.le_of_ble_eq_true rfl, Nat.le_of_ble_eq_true rfl⟩) (hPreSr hE hS) rfl rfl hl.1 rfl (lv_room (Nat.le_of_ble_eq_true rfl)) dX1_interfacesOf_59 ⟨Nat.le_of_ble_eq_true rfl, Nat.le_of_ble_eq_true rfl⟩) hS (fun locs hS => ?_)
            refine lv_if_eq (tgt := 72) hx hb dX1_interfacesOf_62 (by decide) (fun c_62 => ?_) (fun c_62 => ?_)
            · refine lv_iinc (v := (nI (k + 1))) (lv' := [(4, .int (nI (k + 1))), (3, .int b), (0, .int t), (1, .ref (ad 4))]) hx hb dX1_interfacesOf_72 hl (k := 0) rfl (nI_1 k) (by decide) rfl (fun ls hl => ?_)
              refine lv_goto (tgt := 45) hx hb dX1_interfacesOf_75 (by decide) ?_
              exact ih (k + 1) b _ _ (by omega) (by rw [hv]; simp [ifcL, c_62]) hS (lv_sub hl [0, 1, 2, 3] rfl)
            · refine lv_iload_n hx hb dX1_interfacesOf_65 rfl (lv_at hl 1 rfl) ?_
              refine lv_aload_n hx hb dX1_interfacesOf_66 rfl (lv_at hl 3 rfl) ?_
              refine lv_iload hx hb dX1_interfacesOf_67 (lv_at hl 0 rfl) ?_
              refine hr_ialdk S hE hW h4 (j := k) rfl (by omega) (by decide) dX1_interfacesOf_69 ?_
              refine lv_ior hx hb dX1_interfacesOf_70 ?_
              refine lv_istore_n (lv' := [(3, .int (b ||| (f k))), (4, .int (nI k)), (0, .int t), (1, .ref (ad 4))]) hx hb dX1_interfacesOf_71 rfl hl (by decide) rfl (fun ls hl => ?_)
              refine lv_iinc (v := (nI (k + 1))) (lv' := [(4, .int (nI (k + 1))), (3, .int (b ||| (f k))), (0, .int t), (1, .ref (ad 4))]) hx hb dX1_interfacesOf_72 hl (k := 1) rfl (nI_1 k) (by decide) rfl (fun ls hl => ?_)
              refine lv_goto (tgt := 45) hx hb dX1_interfacesOf_75 (by decide) ?_
              exact ih (k + 1) (b ||| (f k)) _ _ (by omega) (by rw [hv]; simp [ifcL, c_62]) hS (lv_sub hl [0, 1, 2, 3] rfl)
        exact loop 5 2 (0 ||| (f (parentF t).toNatClampNeg)) _ _ (by decide) (by simp [ifcF, ifcB, ifcU, c_4, c_18, c_33]) hS (lv_sub hl [0, 1, 3, 4] rfl)
    · refine lv_iconst (v := 1) hx hb dX1_interfacesOf_21 (by decide) ?_
      refine lv_iload_n hx hb dX1_interfacesOf_22 rfl (lv_at hl 1 rfl) ?_
      refine lv_ishl hx hb dX1_interfacesOf_23 ?_
      refine lv_goto (tgt := 28) hx hb dX1_interfacesOf_24 (by decide) ?_
      refine lv_istore_n (lv' := [(3, .int (1 <<< (t &&& 31))), (2, .int (parentF t)), (0, .int t), (1, .ref (ad 4))]) hx hb dX1_interfacesOf_28 rfl hl (by decide) rfl (fun ls hl => ?_)
      refine lv_iload_n hx hb dX1_interfacesOf_29 rfl (lv_at hl 1 rfl) ?_
      refine hc_r (va_runS (As := [.int (parentF t)]) (rest := []) S (c_X1_isType l G _ (parentF t)) (va_cwS 1 hts (gWSS q_l_1_26 q_st_X1_isType q_in_1 q_co_X1_isType) rfl rfl rfl (by decide +kernel) ⟨Nat.le_of_ble_eq_true rfl, Nat.le_of_ble_eq_true rfl⟩) (hPreSr hE hS) rfl rfl hl.1 rfl (lv_room (Nat.le_of_ble_eq_true rfl)) dX1_interfacesOf_30 ⟨Nat.le_of_ble_eq_true rfl, Nat.le_of_ble_eq_true rfl⟩) hS (fun locs hS => ?_)
      refine lv_if_eq (tgt := 42) hx hb dX1_interfacesOf_33 (by decide) (fun c_33 => ?_) (fun c_33 => ?_)
      · refine lv_iconst (v := 2) hx hb dX1_interfacesOf_42 (by decide) ?_
        refine lv_istore (lv' := [(4, .int 2), (3, .int (1 <<< (t &&& 31))), (2, .int (parentF t)), (0, .int t), (1, .ref (ad 4))]) hx hb dX1_interfacesOf_43 hl (by decide) rfl (fun ls hl => ?_)
        have loop : ∀ (n k : Nat) (b : Int32) (locs : List Loc) (ls : Array Slot), n + k = 7 → (ifcF f t = ifcL f t n k b) → va_S (hA G.2.2.2) s.heap s.heap locs → lv_has ls 5 [(4, .int (nI k)), (3, .int b), (0, .int t), (1, .ref (ad 4))] → W p l e { frames := 2, cells := 0, slots := 0, locals := 40 } s m ([.int t, .ref (ad 4)] : List Value).toArray below meth c s.heap locs 0 0 (MQ below (hQr (ifcF f t) s.heap G.2.2.2) ([.int t, .ref (ad 4)] : List Value).toArray s 0 0 (hA G.2.2.2)) (F0 m 45 ls []) := by
          intro n
          induction n with
          | zero =>
            intro k b locs ls hnk hv hS hl
            have hk : k = 7 := by omega
            subst hk
            refine lv_iload hx hb dX1_interfacesOf_45 (lv_at hl 0 rfl) ?_
            refine lv_bipush (v := 6) hx hb dX1_interfacesOf_47 (by decide) ?_
            refine lv_icmp_gt (tgt := 78) hx hb dX1_interfacesOf_49 (by decide) (fun _ => ?_) (fun q => absurd (by decide) q)
            refine lv_iload_n hx hb dX1_interfacesOf_78 rfl (lv_at hl 1 rfl) ?_
            exact h_rret S hr hlk hS dX1_interfacesOf_79 (by rw [hv]; simp [ifcL, c_4, c_18, c_33])
          | succ n ih =>
            intro k b locs ls hnk hv hS hl
            refine lv_iload hx hb dX1_interfacesOf_45 (lv_at hl 0 rfl) ?_
            refine lv_bipush (v := 6) hx hb dX1_interfacesOf_47 (by decide) ?_
            refine lv_icmp_gt (tgt := 78) hx hb dX1_interfacesOf_49 (by decide) (fun q => absurd q (le6 (by omega))) (fun _ => ?_)
            refine va_gets hx hb hE.2.2.2.2.1.1 hS hown (hts _ q_f_1_46) (fun _ h => h) dX1_interfacesOf_52 ?_
            refine lv_iload_n hx hb dX1_interfacesOf_55 rfl (lv_at hl 2 rfl) ?_
            refine va_ti hx hb hE.2.2.2.2.1.2 hS (isTypeF_in c_4) (v := .int (tab tabNl (t).toNatClampNeg)) rfl dX1_interfacesOf_56 ?_
            refine lv_iload hx hb dX1_interfacesOf_57 (lv_at hl 0 rfl) ?_
            refine hc_r (va_runS (As := [.int (tab tabNl (t).toNatClampNeg), .int (nI k)]) (rest := []) S (c_X1_holds l G _ (tab tabNl (t).toNatClampNeg) (nI k)) (va_cwS 2 hts (gWSS q_l_1_49 q_st_X1_holds q_in_1 q_co_X1_holds) rfl rfl rfl (by decide +kernel) ⟨Nat.le_of_ble_eq_true rfl, Nat.le_of_ble_eq_true rfl⟩) (hPreSr hE hS) rfl rfl hl.1 rfl (lv_room (Nat.le_of_ble_eq_true rfl)) dX1_interfacesOf_59 ⟨Nat.le_of_ble_eq_true rfl, Nat.le_of_ble_eq_true rfl⟩) hS (fun locs hS => ?_)
            refine lv_if_eq (tgt := 72) hx hb dX1_interfacesOf_62 (by decide) (fun c_62 => ?_) (fun c_62 => ?_)
            · refine lv_iinc (v := (nI (k + 1))) (lv' := [(4, .int (nI (k + 1))), (3, .int b), (0, .int t), (1, .ref (ad 4))]) hx hb dX1_interfacesOf_72 hl (k := 0) rfl (nI_1 k) (by decide) rfl (fun ls hl => ?_)
              refine lv_goto (tgt := 45) hx hb dX1_interfacesOf_75 (by decide) ?_
              exact ih (k + 1) b _ _ (by omega) (by rw [hv]; simp [ifcL, c_62]) hS (lv_sub hl [0, 1, 2, 3] rfl)
            · refine lv_iload_n hx hb dX1_interfacesOf_65 rfl (lv_at hl 1 rfl) ?_
              refine lv_aload_n hx hb dX1_interfacesOf_66 rfl (lv_at hl 3 rfl) ?_
              refine lv_iload hx hb dX1_interfacesOf_67 (lv_at hl 0 rfl) ?_
              refine hr_ialdk S hE hW h4 (j := k) rfl (by omega) (by decide) dX1_interfacesOf_69 ?_
              refine lv_ior hx hb dX1_interfacesOf_70 ?_
              refine lv_istore_n (lv' := [(3, .int (b ||| (f k))), (4, .int (nI k)), (0, .int t), (1, .ref (ad 4))]) hx hb dX1_interfacesOf_71 rfl hl (by decide) rfl (fun ls hl => ?_)
              refine lv_iinc (v := (nI (k + 1))) (lv' := [(4, .int (nI (k + 1))), (3, .int (b ||| (f k))), (0, .int t), (1, .ref (ad 4))]) hx hb dX1_interfacesOf_72 hl (k := 1) rfl (nI_1 k) (by decide) rfl (fun ls hl => ?_)
              refine lv_goto (tgt := 45) hx hb dX1_interfacesOf_75 (by decide) ?_
              exact ih (k + 1) (b ||| (f k)) _ _ (by omega) (by rw [hv]; simp [ifcL, c_62]) hS (lv_sub hl [0, 1, 2, 3] rfl)
        exact loop 5 2 (1 <<< (t &&& 31)) _ _ (by decide) (by simp [ifcF, ifcB, ifcU, c_4, c_18, c_33]) hS (lv_sub hl [0, 1, 3, 4] rfl)
      · refine lv_iload_n hx hb dX1_interfacesOf_36 rfl (lv_at hl 0 rfl) ?_
        refine lv_aload_n hx hb dX1_interfacesOf_37 rfl (lv_at hl 3 rfl) ?_
        refine lv_iload_n hx hb dX1_interfacesOf_38 rfl (lv_at hl 1 rfl) ?_
        refine hr_iald S hE hW h4 (isTypeF_in c_33) dX1_interfacesOf_39 ?_
        refine lv_ior hx hb dX1_interfacesOf_40 ?_
        refine lv_istore_n (lv' := [(3, .int ((1 <<< (t &&& 31)) ||| (f (parentF t).toNatClampNeg))), (2, .int (parentF t)), (0, .int t), (1, .ref (ad 4))]) hx hb dX1_interfacesOf_41 rfl hl (by decide) rfl (fun ls hl => ?_)
        refine lv_iconst (v := 2) hx hb dX1_interfacesOf_42 (by decide) ?_
        refine lv_istore (lv' := [(4, .int 2), (3, .int ((1 <<< (t &&& 31)) ||| (f (parentF t).toNatClampNeg))), (2, .int (parentF t)), (0, .int t), (1, .ref (ad 4))]) hx hb dX1_interfacesOf_43 hl (by decide) rfl (fun ls hl => ?_)
        have loop : ∀ (n k : Nat) (b : Int32) (locs : List Loc) (ls : Array Slot), n + k = 7 → (ifcF f t = ifcL f t n k b) → va_S (hA G.2.2.2) s.heap s.heap locs → lv_has ls 5 [(4, .int (nI k)), (3, .int b), (0, .int t), (1, .ref (ad 4))] → W p l e { frames := 2, cells := 0, slots := 0, locals := 40 } s m ([.int t, .ref (ad 4)] : List Value).toArray below meth c s.heap locs 0 0 (MQ below (hQr (ifcF f t) s.heap G.2.2.2) ([.int t, .ref (ad 4)] : List Value).toArray s 0 0 (hA G.2.2.2)) (F0 m 45 ls []) := by
          intro n
          induction n with
          | zero =>
            intro k b locs ls hnk hv hS hl
            have hk : k = 7 := by omega
            subst hk
            refine lv_iload hx hb dX1_interfacesOf_45 (lv_at hl 0 rfl) ?_
            refine lv_bipush (v := 6) hx hb dX1_interfacesOf_47 (by decide) ?_
            refine lv_icmp_gt (tgt := 78) hx hb dX1_interfacesOf_49 (by decide) (fun _ => ?_) (fun q => absurd (by decide) q)
            refine lv_iload_n hx hb dX1_interfacesOf_78 rfl (lv_at hl 1 rfl) ?_
            exact h_rret S hr hlk hS dX1_interfacesOf_79 (by rw [hv]; simp [ifcL, c_4, c_18, c_33])
          | succ n ih =>
            intro k b locs ls hnk hv hS hl
            refine lv_iload hx hb dX1_interfacesOf_45 (lv_at hl 0 rfl) ?_
            refine lv_bipush (v := 6) hx hb dX1_interfacesOf_47 (by decide) ?_
            refine lv_icmp_gt (tgt := 78) hx hb dX1_interfacesOf_49 (by decide) (fun q => absurd q (le6 (by omega))) (fun _ => ?_)
            refine va_gets hx hb hE.2.2.2.2.1.1 hS hown (hts _ q_f_1_46) (fun _ h => h) dX1_interfacesOf_52 ?_
            refine lv_iload_n hx hb dX1_interfacesOf_55 rfl (lv_at hl 2 rfl) ?_
            refine va_ti hx hb hE.2.2.2.2.1.2 hS (isTypeF_in c_4) (v := .int (tab tabNl (t).toNatClampNeg)) rfl dX1_interfacesOf_56 ?_
            refine lv_iload hx hb dX1_interfacesOf_57 (lv_at hl 0 rfl) ?_
            refine hc_r (va_runS (As := [.int (tab tabNl (t).toNatClampNeg), .int (nI k)]) (rest := []) S (c_X1_holds l G _ (tab tabNl (t).toNatClampNeg) (nI k)) (va_cwS 2 hts (gWSS q_l_1_49 q_st_X1_holds q_in_1 q_co_X1_holds) rfl rfl rfl (by decide +kernel) ⟨Nat.le_of_ble_eq_true rfl, Nat.le_of_ble_eq_true rfl⟩) (hPreSr hE hS) rfl rfl hl.1 rfl (lv_room (Nat.le_of_ble_eq_true rfl)) dX1_interfacesOf_59 ⟨Nat.le_of_ble_eq_true rfl, Nat.le_of_ble_eq_true rfl⟩) hS (fun locs hS => ?_)
            refine lv_if_eq (tgt := 72) hx hb dX1_interfacesOf_62 (by decide) (fun c_62 => ?_) (fun c_62 => ?_)
            · refine lv_iinc (v := (nI (k + 1))) (lv' := [(4, .int (nI (k + 1))), (3, .int b), (0, .int t), (1, .ref (ad 4))]) hx hb dX1_interfacesOf_72 hl (k := 0) rfl (nI_1 k) (by decide) rfl (fun ls hl => ?_)
              refine lv_goto (tgt := 45) hx hb dX1_interfacesOf_75 (by decide) ?_
              exact ih (k + 1) b _ _ (by omega) (by rw [hv]; simp [ifcL, c_62]) hS (lv_sub hl [0, 1, 2, 3] rfl)
            · refine lv_iload_n hx hb dX1_interfacesOf_65 rfl (lv_at hl 1 rfl) ?_
              refine lv_aload_n hx hb dX1_interfacesOf_66 rfl (lv_at hl 3 rfl) ?_
              refine lv_iload hx hb dX1_interfacesOf_67 (lv_at hl 0 rfl) ?_
              refine hr_ialdk S hE hW h4 (j := k) rfl (by omega) (by decide) dX1_interfacesOf_69 ?_
              refine lv_ior hx hb dX1_interfacesOf_70 ?_
              refine lv_istore_n (lv' := [(3, .int (b ||| (f k))), (4, .int (nI k)), (0, .int t), (1, .ref (ad 4))]) hx hb dX1_interfacesOf_71 rfl hl (by decide) rfl (fun ls hl => ?_)
              refine lv_iinc (v := (nI (k + 1))) (lv' := [(4, .int (nI (k + 1))), (3, .int (b ||| (f k))), (0, .int t), (1, .ref (ad 4))]) hx hb dX1_interfacesOf_72 hl (k := 1) rfl (nI_1 k) (by decide) rfl (fun ls hl => ?_)
              refine lv_goto (tgt := 45) hx hb dX1_interfacesOf_75 (by decide) ?_
              exact ih (k + 1) (b ||| (f k)) _ _ (by omega) (by rw [hv]; simp [ifcL, c_62]) hS (lv_sub hl [0, 1, 2, 3] rfl)
        exact loop 5 2 ((1 <<< (t &&& 31)) ||| (f (parentF t).toNatClampNeg)) _ _ (by decide) (by simp [ifcF, ifcB, ifcU, c_4, c_18, c_33]) hS (lv_sub hl [0, 1, 3, 4] rfl)
  · refine lv_iconst (v := 0) hx hb dX1_interfacesOf_7 (by decide) ?_
    exact h_rret S hr hlk hS dX1_interfacesOf_8 (by simp [ifcF, c_4])
set_option maxRecDepth 100000 in
set_option maxHeartbeats 4000000 in
theorem c_X1_bodyOfLine (l : Launch) (G : hG) (H : Heap) (t a : Int32)  : Met l yX1_bodyOfLine wzX1_bodyOfLine { frames := 2, cells := 0, slots := 0, locals := 41 } (hPr [.int t, .int a] G H) (hQr (bolF a 18 t) H G.2.2.2) 0 0 (hA G.2.2.2) := by
  refine hMetr (Qc := fun H => hQr (bolF a 18 t) H G.2.2.2) (by decide) (Nat.le_of_ble_eq_true rfl) (fun p e s m below meth c ls S hr hlk hE hH hl => ?_)
  subst hH
  obtain ⟨hx, hb, hml, hown, hts⟩ := id S
  have hS : va_S (hA G.2.2.2) s.heap s.heap [] := va_S.rf
  have hl : lv_has ls 5 [(0, .int t), (1, .int a)] := hl
  refine lv_iload_n hx hb dX1_bodyOfLine_0 rfl (lv_at hl 0 rfl) ?_
  refine lv_istore_n (lv' := [(2, .int t), (0, .int t), (1, .int a)]) hx hb dX1_bodyOfLine_1 rfl hl (by decide) rfl (fun ls hl => ?_)
  refine lv_iconst (v := 0) hx hb dX1_bodyOfLine_2 (by decide) ?_
  refine lv_istore_n (lv' := [(3, .int 0), (2, .int t), (0, .int t), (1, .int a)]) hx hb dX1_bodyOfLine_3 rfl hl (by decide) rfl (fun ls hl => ?_)
  have loop : ∀ (n k : Nat) (h : Int32) (locs : List Loc) (ls : Array Slot), n + k = 18 → (bolF a 18 t = bolF a n h) → va_S (hA G.2.2.2) s.heap s.heap locs → lv_has ls 5 [(3, .int (nI k)), (2, .int h), (1, .int a)] → W p l e { frames := 2, cells := 0, slots := 0, locals := 41 } s m ([.int t, .int a] : List Value).toArray below meth c s.heap locs 0 0 (MQ below (hQr (bolF a 18 t) s.heap G.2.2.2) ([.int t, .int a] : List Value).toArray s 0 0 (hA G.2.2.2)) (F0 m 4 ls []) := by
    intro n
    induction n with
    | zero =>
      intro k h locs ls hnk hv hS hl
      have hk : k = 18 := by omega
      subst hk
      refine lv_iload_n hx hb dX1_bodyOfLine_4 rfl (lv_at hl 0 rfl) ?_
      refine lv_bipush (v := 18) hx hb dX1_bodyOfLine_5 (by decide) ?_
      refine lv_icmp_ge (tgt := 43) hx hb dX1_bodyOfLine_7 (by decide) (fun _ => ?_) (fun q => absurd (by decide) q)
      refine lv_iconst (v := 0) hx hb dX1_bodyOfLine_43 (by decide) ?_
      exact h_rret S hr hlk hS dX1_bodyOfLine_44 (by rw [hv]; rfl)
    | succ n ih =>
      intro k h locs ls hnk hv hS hl
      refine lv_iload_n hx hb dX1_bodyOfLine_4 rfl (lv_at hl 0 rfl) ?_
      refine lv_bipush (v := 18) hx hb dX1_bodyOfLine_5 (by decide) ?_
      refine lv_icmp_ge (tgt := 43) hx hb dX1_bodyOfLine_7 (by decide) (fun q => absurd q (nI_ge (b := 18) (a := k) (by omega) (by omega))) (fun _ => ?_)
      refine lv_iload_n hx hb dX1_bodyOfLine_10 rfl (lv_at hl 1 rfl) ?_
      refine hc_r (va_runS (As := [.int h]) (rest := []) S (c_X1_isType l G _ h) (va_cwS 1 hts (gWSS q_l_1_26 q_st_X1_isType q_in_1 q_co_X1_isType) rfl rfl rfl (by decide +kernel) ⟨Nat.le_of_ble_eq_true rfl, Nat.le_of_ble_eq_true rfl⟩) (hPreSr hE hS) rfl rfl hl.1 rfl (lv_room (Nat.le_of_ble_eq_true rfl)) dX1_bodyOfLine_11 ⟨Nat.le_of_ble_eq_true rfl, Nat.le_of_ble_eq_true rfl⟩) hS (fun locs hS => ?_)
      refine lv_if_eq (tgt := 43) hx hb dX1_bodyOfLine_14 (by decide) (fun c_14 => ?_) (fun c_14 => ?_)
      · refine lv_iconst (v := 0) hx hb dX1_bodyOfLine_43 (by decide) ?_
        exact h_rret S hr hlk hS dX1_bodyOfLine_44 (by rw [hv]; simp [bolF, c_14])
      · refine lv_iload_n hx hb dX1_bodyOfLine_17 rfl (lv_at hl 1 rfl) ?_
        refine lv_iload_n hx hb dX1_bodyOfLine_18 rfl (lv_at hl 2 rfl) ?_
        refine hc_r (va_runS (As := [.int h, .int a]) (rest := []) S (c_X1_bodyOf l G _ h a) (va_cwS 2 hts (gWSS q_l_1_60 q_st_X1_bodyOf q_in_1 q_co_X1_bodyOf) rfl rfl rfl (by decide +kernel) ⟨Nat.le_of_ble_eq_true rfl, Nat.le_of_ble_eq_true rfl⟩) (hPreSr hE hS) rfl rfl hl.1 rfl (lv_room (Nat.le_of_ble_eq_true rfl)) dX1_bodyOfLine_19 ⟨Nat.le_of_ble_eq_true rfl, Nat.le_of_ble_eq_true rfl⟩) hS (fun locs hS => ?_)
        refine lv_istore (lv' := [(4, .int (bodyF h a)), (3, .int (nI k)), (2, .int h), (1, .int a)]) hx hb dX1_bodyOfLine_22 hl (by decide) rfl (fun ls hl => ?_)
        refine lv_iload hx hb dX1_bodyOfLine_24 (lv_at hl 0 rfl) ?_
        refine lv_if_eq (tgt := 32) hx hb dX1_bodyOfLine_26 (by decide) (fun c_26 => ?_) (fun c_26 => ?_)
        · refine lv_iload_n hx hb dX1_bodyOfLine_32 rfl (lv_at hl 2 rfl) ?_
          refine hc_r (va_runS (As := [.int h]) (rest := []) S (c_X1_parentOf l G _ h) (va_cwS 1 hts (gWSS q_l_1_39 q_st_X1_parentOf q_in_1 q_co_X1_parentOf) rfl rfl rfl (by decide +kernel) ⟨Nat.le_of_ble_eq_true rfl, Nat.le_of_ble_eq_true rfl⟩) (hPreSr hE hS) rfl rfl hl.1 rfl (lv_room (Nat.le_of_ble_eq_true rfl)) dX1_bodyOfLine_33 ⟨Nat.le_of_ble_eq_true rfl, Nat.le_of_ble_eq_true rfl⟩) hS (fun locs hS => ?_)
          refine lv_istore_n (lv' := [(2, .int (parentF h)), (4, .int (bodyF h a)), (3, .int (nI k)), (1, .int a)]) hx hb dX1_bodyOfLine_36 rfl hl (by decide) rfl (fun ls hl => ?_)
          refine lv_iinc (v := (nI (k + 1))) (lv' := [(3, .int (nI (k + 1))), (2, .int (parentF h)), (4, .int (bodyF h a)), (1, .int a)]) hx hb dX1_bodyOfLine_37 hl (k := 2) rfl (nI_1 k) (by decide) rfl (fun ls hl => ?_)
          refine lv_goto (tgt := 4) hx hb dX1_bodyOfLine_40 (by decide) ?_
          exact ih (k + 1) (parentF h) _ _ (by omega) (by rw [hv]; simp [bolF, c_14, c_26]) hS (lv_sub hl [0, 1, 3] rfl)
        · refine lv_iload hx hb dX1_bodyOfLine_29 (lv_at hl 0 rfl) ?_
          exact h_rret S hr hlk hS dX1_bodyOfLine_31 (by rw [hv]; simp [bolF, c_14, c_26])
  exact loop 18 0 t _ _ (by decide) rfl hS (lv_sub hl [0, 1, 3] rfl)
set_option maxRecDepth 100000 in
set_option maxHeartbeats 4000000 in
theorem c_X1_isOvertaken (l : Launch) (G : hG) (H : Heap) {ad : Nat → Nat} {ct : Nat → Option va_E} (hW : hw G ad ct H) {f : Nat → Int32} (h4 : ct 4 = some (.inl (G.2.1.1, 18, .inl f))) (one t a : Int32) (ht : vp_in t 18)  : Met l yX1_isOvertaken wzX1_isOvertaken { frames := 2, cells := 0, slots := 0, locals := 41 } (hPr [.int one, .int t, .int a, .ref (ad 4)] G H) (hQr (ovL f one t a 5 2) H G.2.2.2) 0 0 (hA G.2.2.2) := by
  refine hMetr (Qc := fun H => hQr (ovL f one t a 5 2) H G.2.2.2) (by decide) (Nat.le_of_ble_eq_true rfl) (fun p e s m below meth c ls S hr hlk hE hH hl => ?_)
  subst hH
  obtain ⟨hx, hb, hml, hown, hts⟩ := id S
  have hS : va_S (hA G.2.2.2) s.heap s.heap [] := va_S.rf
  have hl : lv_has ls 6 [(0, .int one), (1, .int t), (2, .int a), (3, .ref (ad 4))] := hl
  refine lv_iconst (v := 2) hx hb dX1_isOvertaken_0 (by decide) ?_
  refine lv_istore (lv' := [(4, .int 2), (0, .int one), (1, .int t), (2, .int a), (3, .ref (ad 4))]) hx hb dX1_isOvertaken_1 hl (by decide) rfl (fun ls hl => ?_)
  have loop : ∀ (n k : Nat)  (locs : List Loc) (ls : Array Slot), n + k = 7 → (ovL f one t a 5 2 = ovL f one t a n k) → va_S (hA G.2.2.2) s.heap s.heap locs → lv_has ls 6 [(4, .int (nI k)), (0, .int one), (1, .int t), (2, .int a), (3, .ref (ad 4))] → W p l e { frames := 2, cells := 0, slots := 0, locals := 41 } s m ([.int one, .int t, .int a, .ref (ad 4)] : List Value).toArray below meth c s.heap locs 0 0 (MQ below (hQr (ovL f one t a 5 2) s.heap G.2.2.2) ([.int one, .int t, .int a, .ref (ad 4)] : List Value).toArray s 0 0 (hA G.2.2.2)) (F0 m 3 ls []) := by
    intro n
    induction n with
    | zero =>
      intro k  locs ls hnk hv hS hl
      have hk : k = 7 := by omega
      subst hk
      refine lv_iload hx hb dX1_isOvertaken_3 (lv_at hl 0 rfl) ?_
      refine lv_bipush (v := 6) hx hb dX1_isOvertaken_5 (by decide) ?_
      refine lv_icmp_gt (tgt := 67) hx hb dX1_isOvertaken_7 (by decide) (fun _ => ?_) (fun q => absurd (by decide) q)
      refine lv_iconst (v := 0) hx hb dX1_isOvertaken_67 (by decide) ?_
      exact h_rzret S hr hlk hS dX1_isOvertaken_68 (ovL_b f one t a 5 2) (by rw [hv]; rfl)
    | succ n ih =>
      intro k  locs ls hnk hv hS hl
      refine lv_iload hx hb dX1_isOvertaken_3 (lv_at hl 0 rfl) ?_
      refine lv_bipush (v := 6) hx hb dX1_isOvertaken_5 (by decide) ?_
      refine lv_icmp_gt (tgt := 67) hx hb dX1_isOvertaken_7 (by decide) (fun q => absurd q (le6 (by omega))) (fun _ => ?_)
      refine lv_iload hx hb dX1_isOvertaken_10 (lv_at hl 0 rfl) ?_
      refine lv_iload_n hx hb dX1_isOvertaken_12 rfl (lv_at hl 1 rfl) ?_
      refine lv_icmp_eq (tgt := 31) hx hb dX1_isOvertaken_13 (by decide) (fun c_13 => ?_) (fun c_13 => ?_)
      · refine lv_iconst (v := 0) hx hb dX1_isOvertaken_31 (by decide) ?_
        refine lv_istore (lv' := [(5, .int 0), (4, .int (nI k)), (0, .int one), (1, .int t), (2, .int a), (3, .ref (ad 4))]) hx hb dX1_isOvertaken_32 hl (by decide) rfl (fun ls hl => ?_)
        refine lv_iload hx hb dX1_isOvertaken_34 (lv_at hl 0 rfl) ?_
        refine lv_if_eq (tgt := 61) hx hb dX1_isOvertaken_36 (by decide) (fun _ => ?_) (fun q => absurd (by decide) q)
        refine lv_iinc (v := (nI (k + 1))) (lv' := [(4, .int (nI (k + 1))), (5, .int 0), (0, .int one), (1, .int t), (2, .int a), (3, .ref (ad 4))]) hx hb dX1_isOvertaken_61 hl (k := 1) rfl (nI_1 k) (by decide) rfl (fun ls hl => ?_)
        refine lv_goto (tgt := 3) hx hb dX1_isOvertaken_64 (by decide) ?_
        exact ih (k + 1)  _ _ (by omega) (by rw [hv]; simp [ovL, c_13]) hS (lv_sub hl [0, 2, 3, 4, 5] rfl)
      · refine lv_aload_n hx hb dX1_isOvertaken_16 rfl (lv_at hl 4 rfl) ?_
        refine lv_iload hx hb dX1_isOvertaken_17 (lv_at hl 0 rfl) ?_
        refine hr_ialdk S hE hW h4 (j := k) rfl (by omega) (by decide) dX1_isOvertaken_19 ?_
        refine lv_iload_n hx hb dX1_isOvertaken_20 rfl (lv_at hl 1 rfl) ?_
        refine hc_r (va_runS (As := [.int (f k), .int one]) (rest := []) S (c_X1_holds l G _ (f k) one) (va_cwS 2 hts (gWSS q_l_1_49 q_st_X1_holds q_in_1 q_co_X1_holds) rfl rfl rfl (by decide +kernel) ⟨Nat.le_of_ble_eq_true rfl, Nat.le_of_ble_eq_true rfl⟩) (hPreSr hE hS) rfl rfl hl.1 rfl (lv_room (Nat.le_of_ble_eq_true rfl)) dX1_isOvertaken_21 ⟨Nat.le_of_ble_eq_true rfl, Nat.le_of_ble_eq_true rfl⟩) hS (fun locs hS => ?_)
        refine lv_if_eq (tgt := 31) hx hb dX1_isOvertaken_24 (by decide) (fun c_24 => ?_) (fun c_24 => ?_)
        · refine lv_iconst (v := 0) hx hb dX1_isOvertaken_31 (by decide) ?_
          refine lv_istore (lv' := [(5, .int 0), (4, .int (nI k)), (0, .int one), (1, .int t), (2, .int a), (3, .ref (ad 4))]) hx hb dX1_isOvertaken_32 hl (by decide) rfl (fun ls hl => ?_)
          refine lv_iload hx hb dX1_isOvertaken_34 (lv_at hl 0 rfl) ?_
          refine lv_if_eq (tgt := 61) hx hb dX1_isOvertaken_36 (by decide) (fun _ => ?_) (fun q => absurd (by decide) q)
          refine lv_iinc (v := (nI (k + 1))) (lv' := [(4, .int (nI (k + 1))), (5, .int 0), (0, .int one), (1, .int t), (2, .int a), (3, .ref (ad 4))]) hx hb dX1_isOvertaken_61 hl (k := 1) rfl (nI_1 k) (by decide) rfl (fun ls hl => ?_)
          refine lv_goto (tgt := 3) hx hb dX1_isOvertaken_64 (by decide) ?_
          exact ih (k + 1)  _ _ (by omega) (by rw [hv]; simp [ovL, c_13, c_24]) hS (lv_sub hl [0, 2, 3, 4, 5] rfl)
        · refine lv_iconst (v := 1) hx hb dX1_isOvertaken_27 (by decide) ?_
          refine lv_goto (tgt := 32) hx hb dX1_isOvertaken_28 (by decide) ?_
          refine lv_istore (lv' := [(5, .int 1), (4, .int (nI k)), (0, .int one), (1, .int t), (2, .int a), (3, .ref (ad 4))]) hx hb dX1_isOvertaken_32 hl (by decide) rfl (fun ls hl => ?_)
          refine lv_iload hx hb dX1_isOvertaken_34 (lv_at hl 0 rfl) ?_
          refine lv_if_eq (tgt := 61) hx hb dX1_isOvertaken_36 (by decide) (fun q => absurd q (by decide)) (fun _ => ?_)
          refine lv_aload_n hx hb dX1_isOvertaken_39 rfl (lv_at hl 5 rfl) ?_
          refine lv_iload_n hx hb dX1_isOvertaken_40 rfl (lv_at hl 3 rfl) ?_
          refine hr_iald S hE hW h4 ht dX1_isOvertaken_41 ?_
          refine lv_iload hx hb dX1_isOvertaken_42 (lv_at hl 1 rfl) ?_
          refine hc_r (va_runS (As := [.int (f (t).toNatClampNeg), .int (nI k)]) (rest := []) S (c_X1_holds l G _ (f (t).toNatClampNeg) (nI k)) (va_cwS 2 hts (gWSS q_l_1_49 q_st_X1_holds q_in_1 q_co_X1_holds) rfl rfl rfl (by decide +kernel) ⟨Nat.le_of_ble_eq_true rfl, Nat.le_of_ble_eq_true rfl⟩) (hPreSr hE hS) rfl rfl hl.1 rfl (lv_room (Nat.le_of_ble_eq_true rfl)) dX1_isOvertaken_44 ⟨Nat.le_of_ble_eq_true rfl, Nat.le_of_ble_eq_true rfl⟩) hS (fun locs hS => ?_)
          refine lv_if_eq (tgt := 61) hx hb dX1_isOvertaken_47 (by decide) (fun c_47 => ?_) (fun c_47 => ?_)
          · refine lv_iinc (v := (nI (k + 1))) (lv' := [(4, .int (nI (k + 1))), (5, .int 1), (0, .int one), (1, .int t), (2, .int a), (3, .ref (ad 4))]) hx hb dX1_isOvertaken_61 hl (k := 1) rfl (nI_1 k) (by decide) rfl (fun ls hl => ?_)
            refine lv_goto (tgt := 3) hx hb dX1_isOvertaken_64 (by decide) ?_
            exact ih (k + 1)  _ _ (by omega) (by rw [hv]; simp [ovL, c_13, c_24, c_47]) hS (lv_sub hl [0, 2, 3, 4, 5] rfl)
          · refine lv_iload hx hb dX1_isOvertaken_50 (lv_at hl 1 rfl) ?_
            refine lv_iload_n hx hb dX1_isOvertaken_52 rfl (lv_at hl 4 rfl) ?_
            refine hc_r (va_runS (As := [.int (nI k), .int a]) (rest := []) S (c_X1_bodyOf l G _ (nI k) a) (va_cwS 2 hts (gWSS q_l_1_60 q_st_X1_bodyOf q_in_1 q_co_X1_bodyOf) rfl rfl rfl (by decide +kernel) ⟨Nat.le_of_ble_eq_true rfl, Nat.le_of_ble_eq_true rfl⟩) (hPreSr hE hS) rfl rfl hl.1 rfl (lv_room (Nat.le_of_ble_eq_true rfl)) dX1_isOvertaken_53 ⟨Nat.le_of_ble_eq_true rfl, Nat.le_of_ble_eq_true rfl⟩) hS (fun locs hS => ?_)
            refine lv_if_eq (tgt := 61) hx hb dX1_isOvertaken_56 (by decide) (fun c_56 => ?_) (fun c_56 => ?_)
            · refine lv_iinc (v := (nI (k + 1))) (lv' := [(4, .int (nI (k + 1))), (5, .int 1), (0, .int one), (1, .int t), (2, .int a), (3, .ref (ad 4))]) hx hb dX1_isOvertaken_61 hl (k := 1) rfl (nI_1 k) (by decide) rfl (fun ls hl => ?_)
              refine lv_goto (tgt := 3) hx hb dX1_isOvertaken_64 (by decide) ?_
              exact ih (k + 1)  _ _ (by omega) (by rw [hv]; simp [ovL, c_13, c_24, c_47, c_56]) hS (lv_sub hl [0, 2, 3, 4, 5] rfl)
            · refine lv_iconst (v := 1) hx hb dX1_isOvertaken_59 (by decide) ?_
              exact h_rzret S hr hlk hS dX1_isOvertaken_60 (ovL_b f one t a 5 2) (by rw [hv]; simp [ovL, c_13, c_24, c_47, c_56])
  exact loop 5 2 _ _ (by decide) rfl hS (lv_sub hl [0, 1, 2, 3, 4] rfl)
set_option maxRecDepth 100000 in
set_option maxHeartbeats 4000000 in
theorem c_X1_bodyOfInterfaces (l : Launch) (G : hG) (H : Heap) {ad : Nat → Nat} {ct : Nat → Option va_E} (hW : hw G ad ct H) {f : Nat → Int32} (h4 : ct 4 = some (.inl (G.2.1.1, 18, .inl f))) (t a : Int32) (ht : vp_in t 18)  : Met l yX1_bodyOfInterfaces wzX1_bodyOfInterfaces { frames := 3, cells := 0, slots := 0, locals := 66 } (hPr [.int t, .int a, .ref (ad 4)] G H) (hQr (boiL f t a 5 2) H G.2.2.2) 0 0 (hA G.2.2.2) := by
  refine hMetr (Qc := fun H => hQr (boiL f t a 5 2) H G.2.2.2) (by decide) (Nat.le_of_ble_eq_true rfl) (fun p e s m below meth c ls S hr hlk hE hH hl => ?_)
  subst hH
  obtain ⟨hx, hb, hml, hown, hts⟩ := id S
  have hS : va_S (hA G.2.2.2) s.heap s.heap [] := va_S.rf
  have hl : lv_has ls 5 [(0, .int t), (1, .int a), (2, .ref (ad 4))] := hl
  refine lv_iconst (v := 2) hx hb dX1_bodyOfInterfaces_0 (by decide) ?_
  refine lv_istore_n (lv' := [(3, .int 2), (0, .int t), (1, .int a), (2, .ref (ad 4))]) hx hb dX1_bodyOfInterfaces_1 rfl hl (by decide) rfl (fun ls hl => ?_)
  have loop : ∀ (n k : Nat)  (locs : List Loc) (ls : Array Slot), n + k = 7 → (boiL f t a 5 2 = boiL f t a n k) → va_S (hA G.2.2.2) s.heap s.heap locs → lv_has ls 5 [(3, .int (nI k)), (0, .int t), (1, .int a), (2, .ref (ad 4))] → W p l e { frames := 3, cells := 0, slots := 0, locals := 66 } s m ([.int t, .int a, .ref (ad 4)] : List Value).toArray below meth c s.heap locs 0 0 (MQ below (hQr (boiL f t a 5 2) s.heap G.2.2.2) ([.int t, .int a, .ref (ad 4)] : List Value).toArray s 0 0 (hA G.2.2.2)) (F0 m 2 ls []) := by
    intro n
    induction n with
    | zero =>
      intro k  locs ls hnk hv hS hl
      have hk : k = 7 := by omega
      subst hk
      refine lv_iload_n hx hb dX1_bodyOfInterfaces_2 rfl (lv_at hl 0 rfl) ?_
      refine lv_bipush (v := 6) hx hb dX1_bodyOfInterfaces_3 (by decide) ?_
      refine lv_icmp_gt (tgt := 60) hx hb dX1_bodyOfInterfaces_5 (by decide) (fun _ => ?_) (fun q => absurd (by decide) q)
      refine lv_iconst (v := 0) hx hb dX1_bodyOfInterfaces_60 (by decide) ?_
      exact h_rret S hr hlk hS dX1_bodyOfInterfaces_61 (by rw [hv]; rfl)
    | succ n ih =>
      intro k  locs ls hnk hv hS hl
      refine lv_iload_n hx hb dX1_bodyOfInterfaces_2 rfl (lv_at hl 0 rfl) ?_
      refine lv_bipush (v := 6) hx hb dX1_bodyOfInterfaces_3 (by decide) ?_
      refine lv_icmp_gt (tgt := 60) hx hb dX1_bodyOfInterfaces_5 (by decide) (fun q => absurd q (le6 (by omega))) (fun _ => ?_)
      refine lv_aload_n hx hb dX1_bodyOfInterfaces_8 rfl (lv_at hl 3 rfl) ?_
      refine lv_iload_n hx hb dX1_bodyOfInterfaces_9 rfl (lv_at hl 1 rfl) ?_
      refine hr_iald S hE hW h4 ht dX1_bodyOfInterfaces_10 ?_
      refine lv_iload_n hx hb dX1_bodyOfInterfaces_11 rfl (lv_at hl 0 rfl) ?_
      refine hc_r (va_runS (As := [.int (f (t).toNatClampNeg), .int (nI k)]) (rest := []) S (c_X1_holds l G _ (f (t).toNatClampNeg) (nI k)) (va_cwS 2 hts (gWSS q_l_1_49 q_st_X1_holds q_in_1 q_co_X1_holds) rfl rfl rfl (by decide +kernel) ⟨Nat.le_of_ble_eq_true rfl, Nat.le_of_ble_eq_true rfl⟩) (hPreSr hE hS) rfl rfl hl.1 rfl (lv_room (Nat.le_of_ble_eq_true rfl)) dX1_bodyOfInterfaces_12 ⟨Nat.le_of_ble_eq_true rfl, Nat.le_of_ble_eq_true rfl⟩) hS (fun locs hS => ?_)
      refine lv_if_eq (tgt := 30) hx hb dX1_bodyOfInterfaces_15 (by decide) (fun c_15 => ?_) (fun c_15 => ?_)
      · refine lv_iconst (v := 0) hx hb dX1_bodyOfInterfaces_30 (by decide) ?_
        refine lv_istore (lv' := [(4, .int 0), (3, .int (nI k)), (0, .int t), (1, .int a), (2, .ref (ad 4))]) hx hb dX1_bodyOfInterfaces_31 hl (by decide) rfl (fun ls hl => ?_)
        refine lv_iload hx hb dX1_bodyOfInterfaces_33 (lv_at hl 0 rfl) ?_
        refine lv_if_eq (tgt := 54) hx hb dX1_bodyOfInterfaces_35 (by decide) (fun _ => ?_) (fun q => absurd (by decide) q)
        refine lv_iinc (v := (nI (k + 1))) (lv' := [(3, .int (nI (k + 1))), (4, .int 0), (0, .int t), (1, .int a), (2, .ref (ad 4))]) hx hb dX1_bodyOfInterfaces_54 hl (k := 1) rfl (nI_1 k) (by decide) rfl (fun ls hl => ?_)
        refine lv_goto (tgt := 2) hx hb dX1_bodyOfInterfaces_57 (by decide) ?_
        exact ih (k + 1)  _ _ (by omega) (by rw [hv]; simp [boiL, c_15]) hS (lv_sub hl [0, 2, 3, 4] rfl)
      · refine lv_iload_n hx hb dX1_bodyOfInterfaces_18 rfl (lv_at hl 0 rfl) ?_
        refine lv_iload_n hx hb dX1_bodyOfInterfaces_19 rfl (lv_at hl 2 rfl) ?_
        refine hc_r (va_runS (As := [.int (nI k), .int a]) (rest := []) S (c_X1_bodyOf l G _ (nI k) a) (va_cwS 2 hts (gWSS q_l_1_60 q_st_X1_bodyOf q_in_1 q_co_X1_bodyOf) rfl rfl rfl (by decide +kernel) ⟨Nat.le_of_ble_eq_true rfl, Nat.le_of_ble_eq_true rfl⟩) (hPreSr hE hS) rfl rfl hl.1 rfl (lv_room (Nat.le_of_ble_eq_true rfl)) dX1_bodyOfInterfaces_20 ⟨Nat.le_of_ble_eq_true rfl, Nat.le_of_ble_eq_true rfl⟩) hS (fun locs hS => ?_)
        refine lv_if_eq (tgt := 30) hx hb dX1_bodyOfInterfaces_23 (by decide) (fun c_23 => ?_) (fun c_23 => ?_)
        · refine lv_iconst (v := 0) hx hb dX1_bodyOfInterfaces_30 (by decide) ?_
          refine lv_istore (lv' := [(4, .int 0), (3, .int (nI k)), (0, .int t), (1, .int a), (2, .ref (ad 4))]) hx hb dX1_bodyOfInterfaces_31 hl (by decide) rfl (fun ls hl => ?_)
          refine lv_iload hx hb dX1_bodyOfInterfaces_33 (lv_at hl 0 rfl) ?_
          refine lv_if_eq (tgt := 54) hx hb dX1_bodyOfInterfaces_35 (by decide) (fun _ => ?_) (fun q => absurd (by decide) q)
          refine lv_iinc (v := (nI (k + 1))) (lv' := [(3, .int (nI (k + 1))), (4, .int 0), (0, .int t), (1, .int a), (2, .ref (ad 4))]) hx hb dX1_bodyOfInterfaces_54 hl (k := 1) rfl (nI_1 k) (by decide) rfl (fun ls hl => ?_)
          refine lv_goto (tgt := 2) hx hb dX1_bodyOfInterfaces_57 (by decide) ?_
          exact ih (k + 1)  _ _ (by omega) (by rw [hv]; simp [boiL, c_15, c_23]) hS (lv_sub hl [0, 2, 3, 4] rfl)
        · refine lv_iconst (v := 1) hx hb dX1_bodyOfInterfaces_26 (by decide) ?_
          refine lv_goto (tgt := 31) hx hb dX1_bodyOfInterfaces_27 (by decide) ?_
          refine lv_istore (lv' := [(4, .int 1), (3, .int (nI k)), (0, .int t), (1, .int a), (2, .ref (ad 4))]) hx hb dX1_bodyOfInterfaces_31 hl (by decide) rfl (fun ls hl => ?_)
          refine lv_iload hx hb dX1_bodyOfInterfaces_33 (lv_at hl 0 rfl) ?_
          refine lv_if_eq (tgt := 54) hx hb dX1_bodyOfInterfaces_35 (by decide) (fun q => absurd q (by decide)) (fun _ => ?_)
          refine lv_iload_n hx hb dX1_bodyOfInterfaces_38 rfl (lv_at hl 1 rfl) ?_
          refine lv_iload_n hx hb dX1_bodyOfInterfaces_39 rfl (lv_at hl 2 rfl) ?_
          refine lv_iload_n hx hb dX1_bodyOfInterfaces_40 rfl (lv_at hl 3 rfl) ?_
          refine lv_aload_n hx hb dX1_bodyOfInterfaces_41 rfl (lv_at hl 4 rfl) ?_
          refine hc_r (va_runS (As := [.int (nI k), .int t, .int a, .ref (ad 4)]) (rest := []) S (c_X1_isOvertaken l G _ hW h4 (nI k) t a ht) (va_cwS 4 hts (gWSS q_l_1_63 q_st_X1_isOvertaken q_in_1 q_co_X1_isOvertaken) rfl rfl rfl (by decide +kernel) ⟨Nat.le_of_ble_eq_true rfl, Nat.le_of_ble_eq_true rfl⟩) (hPreSr hE hS) rfl rfl hl.1 rfl (lv_room (Nat.le_of_ble_eq_true rfl)) dX1_bodyOfInterfaces_42 ⟨Nat.le_of_ble_eq_true rfl, Nat.le_of_ble_eq_true rfl⟩) hS (fun locs hS => ?_)
          refine lv_if_ne (tgt := 54) hx hb dX1_bodyOfInterfaces_45 (by decide) (fun c_45 => ?_) (fun c_45 => ?_)
          · refine lv_iinc (v := (nI (k + 1))) (lv' := [(3, .int (nI (k + 1))), (4, .int 1), (0, .int t), (1, .int a), (2, .ref (ad 4))]) hx hb dX1_bodyOfInterfaces_54 hl (k := 1) rfl (nI_1 k) (by decide) rfl (fun ls hl => ?_)
            refine lv_goto (tgt := 2) hx hb dX1_bodyOfInterfaces_57 (by decide) ?_
            exact ih (k + 1)  _ _ (by omega) (by rw [hv]; simp [boiL, c_15, c_23, c_45]) hS (lv_sub hl [0, 2, 3, 4] rfl)
          · refine lv_iload_n hx hb dX1_bodyOfInterfaces_48 rfl (lv_at hl 1 rfl) ?_
            refine lv_iload_n hx hb dX1_bodyOfInterfaces_49 rfl (lv_at hl 3 rfl) ?_
            refine hc_r (va_runS (As := [.int (nI k), .int a]) (rest := []) S (c_X1_bodyOf l G _ (nI k) a) (va_cwS 2 hts (gWSS q_l_1_60 q_st_X1_bodyOf q_in_1 q_co_X1_bodyOf) rfl rfl rfl (by decide +kernel) ⟨Nat.le_of_ble_eq_true rfl, Nat.le_of_ble_eq_true rfl⟩) (hPreSr hE hS) rfl rfl hl.1 rfl (lv_room (Nat.le_of_ble_eq_true rfl)) dX1_bodyOfInterfaces_50 ⟨Nat.le_of_ble_eq_true rfl, Nat.le_of_ble_eq_true rfl⟩) hS (fun locs hS => ?_)
            exact h_rret S hr hlk hS dX1_bodyOfInterfaces_53 (by rw [hv]; simp [boiL, c_15, c_23, c_45])
  exact loop 5 2 _ _ (by decide) rfl hS (lv_sub hl [0, 1, 2, 3] rfl)
set_option maxRecDepth 100000 in
set_option maxHeartbeats 4000000 in
theorem c_X1_select (l : Launch) (G : hG) (H : Heap) {ad : Nat → Nat} {ct : Nat → Option va_E} (hW : hw G ad ct H) {f : Nat → Int32} (h4 : ct 4 = some (.inl (G.2.1.1, 18, .inl f))) (t a : Int32) (ht : vp_in t 18)  : Met l yX1_select wzX1_select { frames := 4, cells := 0, slots := 0, locals := 90 } (hPr [.int t, .int a, .ref (ad 4)] G H) (hQr (selF f t a) H G.2.2.2) 0 0 (hA G.2.2.2) := by
  refine hMetr (Qc := fun H => hQr (selF f t a) H G.2.2.2) (by decide) (Nat.le_of_ble_eq_true rfl) (fun p e s m below meth c ls S hr hlk hE hH hl => ?_)
  subst hH
  obtain ⟨hx, hb, hml, hown, hts⟩ := id S
  have hS : va_S (hA G.2.2.2) s.heap s.heap [] := va_S.rf
  have hl : lv_has ls 4 [(0, .int t), (1, .int a), (2, .ref (ad 4))] := hl
  refine lv_iload_n hx hb dX1_select_0 rfl (lv_at hl 0 rfl) ?_
  refine lv_iload_n hx hb dX1_select_1 rfl (lv_at hl 1 rfl) ?_
  refine hc_r (va_runS (As := [.int t, .int a]) (rest := []) S (c_X1_bodyOfLine l G _ t a) (va_cwS 2 hts (gWSS q_l_1_53 q_st_X1_bodyOfLine q_in_1 q_co_X1_bodyOfLine) rfl rfl rfl (by decide +kernel) ⟨Nat.le_of_ble_eq_true rfl, Nat.le_of_ble_eq_true rfl⟩) (hPreSr hE hS) rfl rfl hl.1 rfl (lv_room (Nat.le_of_ble_eq_true rfl)) dX1_select_2 ⟨Nat.le_of_ble_eq_true rfl, Nat.le_of_ble_eq_true rfl⟩) hS (fun locs hS => ?_)
  refine lv_istore_n (lv' := [(3, .int (bolF a 18 t)), (0, .int t), (1, .int a), (2, .ref (ad 4))]) hx hb dX1_select_5 rfl hl (by decide) rfl (fun ls hl => ?_)
  refine lv_iload_n hx hb dX1_select_6 rfl (lv_at hl 0 rfl) ?_
  refine lv_if_eq (tgt := 14) hx hb dX1_select_7 (by decide) (fun c_7 => ?_) (fun c_7 => ?_)
  · refine lv_iload_n hx hb dX1_select_14 rfl (lv_at hl 1 rfl) ?_
    refine lv_iload_n hx hb dX1_select_15 rfl (lv_at hl 2 rfl) ?_
    refine lv_aload_n hx hb dX1_select_16 rfl (lv_at hl 3 rfl) ?_
    refine hc_r (va_runS (As := [.int t, .int a, .ref (ad 4)]) (rest := []) S (c_X1_bodyOfInterfaces l G _ hW h4 t a ht) (va_cwS 3 hts (gWSS q_l_1_57 q_st_X1_bodyOfInterfaces q_in_1 q_co_X1_bodyOfInterfaces) rfl rfl rfl (by decide +kernel) ⟨Nat.le_of_ble_eq_true rfl, Nat.le_of_ble_eq_true rfl⟩) (hPreSr hE hS) rfl rfl hl.1 rfl (lv_room (Nat.le_of_ble_eq_true rfl)) dX1_select_17 ⟨Nat.le_of_ble_eq_true rfl, Nat.le_of_ble_eq_true rfl⟩) hS (fun locs hS => ?_)
    exact h_rret S hr hlk hS dX1_select_20 (by simp [selF, c_7])
  · refine lv_iload_n hx hb dX1_select_10 rfl (lv_at hl 0 rfl) ?_
    refine lv_goto (tgt := 20) hx hb dX1_select_11 (by decide) ?_
    exact h_rret S hr hlk hS dX1_select_20 (by simp [selF, c_7])
set_option maxRecDepth 100000 in
set_option maxHeartbeats 4000000 in
theorem c_X1_selectedOf (l : Launch) (G : hG) (H : Heap) {ad : Nat → Nat} {ct : Nat → Option va_E} (hW : hw G ad ct H) {f5 : Nat → Int32} (h1 : ct 1 = some (.inr (1, [.ref (ad 4), .ref (ad 5)]))) (h5 : ct 5 = some (.inl (G.2.1.1, 216, .inl f5))) (t a : Int32)  : Met l yX1_selectedOf wzX1_selectedOf { frames := 1, cells := 0, slots := 0, locals := 20 } (hPr [.ref (ad 1), .int t, .int a] G H) (hQr (selOfF f5 t a) H G.2.2.2) 0 0 (hA G.2.2.2) := by
  refine hMetr (Qc := fun H => hQr (selOfF f5 t a) H G.2.2.2) (by decide) (Nat.le_of_ble_eq_true rfl) (fun p e s m below meth c ls S hr hlk hE hH hl => ?_)
  subst hH
  obtain ⟨hx, hb, hml, hown, hts⟩ := id S
  have hS : va_S (hA G.2.2.2) s.heap s.heap [] := va_S.rf
  have hl : lv_has ls 3 [(0, .ref (ad 1)), (1, .int t), (2, .int a)] := hl
  refine lv_iload_n hx hb dX1_selectedOf_0 rfl (lv_at hl 1 rfl) ?_
  refine hc_r (va_runS (As := [.int t]) (rest := []) S (c_X1_isType l G _ t) (va_cwS 1 hts (gWSS q_l_1_26 q_st_X1_isType q_in_1 q_co_X1_isType) rfl rfl rfl (by decide +kernel) ⟨Nat.le_of_ble_eq_true rfl, Nat.le_of_ble_eq_true rfl⟩) (hPreSr hE hS) rfl rfl hl.1 rfl (lv_room (Nat.le_of_ble_eq_true rfl)) dX1_selectedOf_1 ⟨Nat.le_of_ble_eq_true rfl, Nat.le_of_ble_eq_true rfl⟩) hS (fun locs hS => ?_)
  refine lv_if_eq (tgt := 28) hx hb dX1_selectedOf_4 (by decide) (fun c_4 => ?_) (fun c_4 => ?_)
  · refine lv_iconst (v := 0) hx hb dX1_selectedOf_28 (by decide) ?_
    exact h_rret S hr hlk hS dX1_selectedOf_29 (by simp [selOfF, c_4])
  · refine lv_iload_n hx hb dX1_selectedOf_7 rfl (lv_at hl 2 rfl) ?_
    refine hc_r (va_runSN (As := [.int a]) (rest := []) S (c_X4_isAct l G _ a) ⟨va_cnB 1 hts (gWS q_co_X4_isAct) rfl rfl rfl (hE.nest 9 rfl) (hts _ q_in_4) (by decide +kernel) ⟨Nat.le_of_ble_eq_true rfl, Nat.le_of_ble_eq_true rfl⟩, hts _ q_st_X4_isAct, trivial⟩ (hPreSr hE hS) rfl rfl hl.1 rfl (lv_room (Nat.le_of_ble_eq_true rfl)) dX1_selectedOf_8 ⟨Nat.le_of_ble_eq_true rfl, Nat.le_of_ble_eq_true rfl⟩) hS (fun locs hS => ?_)
    refine lv_if_eq (tgt := 28) hx hb dX1_selectedOf_11 (by decide) (fun c_11 => ?_) (fun c_11 => ?_)
    · refine lv_iconst (v := 0) hx hb dX1_selectedOf_28 (by decide) ?_
      exact h_rret S hr hlk hS dX1_selectedOf_29 (by simp [selOfF, c_4, c_11])
    · refine lv_aload_n hx hb dX1_selectedOf_14 rfl (lv_at hl 0 rfl) ?_
      refine hr_get S hE hW h1 inX1 (C := RX1) (T := TX1) (N := 2) rfl 1 (by decide) q_f_1_15 rfl dX1_selectedOf_15 ?_
      refine lv_iload_n hx hb dX1_selectedOf_18 rfl (lv_at hl 1 rfl) ?_
      refine lv_bipush (v := 12) hx hb dX1_selectedOf_19 (by decide) ?_
      refine lv_imul hx hb dX1_selectedOf_21 ?_
      refine lv_iload_n hx hb dX1_selectedOf_22 rfl (lv_at hl 2 rfl) ?_
      refine lv_iadd hx hb dX1_selectedOf_23 ?_
      refine hr_iald S hE hW h5 (in_ta (isTypeF_in c_4) (isActF_in c_11)) dX1_selectedOf_24 ?_
      refine lv_goto (tgt := 29) hx hb dX1_selectedOf_25 (by decide) ?_
      exact h_rret S hr hlk hS dX1_selectedOf_29 (by simp [selOfF, c_4, c_11])
set_option maxRecDepth 100000 in
set_option maxHeartbeats 4000000 in
theorem c_X1_bears (l : Launch) (G : hG) (H : Heap) {ad : Nat → Nat} {ct : Nat → Option va_E} (hW : hw G ad ct H) {f : Nat → Int32} (h1 : ct 1 = some (.inr (1, [.ref (ad 4), .ref (ad 5)]))) (h4 : ct 4 = some (.inl (G.2.1.1, 18, .inl f))) (t w : Int32)  : Met l yX1_bears wzX1_bears { frames := 1, cells := 0, slots := 0, locals := 21 } (hPr [.ref (ad 1), .int t, .int w] G H) (hQr (bearsF f t w) H G.2.2.2) 0 0 (hA G.2.2.2) := by
  refine hMetr (Qc := fun H => hQr (bearsF f t w) H G.2.2.2) (by decide) (Nat.le_of_ble_eq_true rfl) (fun p e s m below meth c ls S hr hlk hE hH hl => ?_)
  subst hH
  obtain ⟨hx, hb, hml, hown, hts⟩ := id S
  have hS : va_S (hA G.2.2.2) s.heap s.heap [] := va_S.rf
  have hl : lv_has ls 3 [(0, .ref (ad 1)), (1, .int t), (2, .int w)] := hl
  refine lv_iload_n hx hb dX1_bears_0 rfl (lv_at hl 1 rfl) ?_
  refine hc_r (va_runS (As := [.int t]) (rest := []) S (c_X1_isType l G _ t) (va_cwS 1 hts (gWSS q_l_1_26 q_st_X1_isType q_in_1 q_co_X1_isType) rfl rfl rfl (by decide +kernel) ⟨Nat.le_of_ble_eq_true rfl, Nat.le_of_ble_eq_true rfl⟩) (hPreSr hE hS) rfl rfl hl.1 rfl (lv_room (Nat.le_of_ble_eq_true rfl)) dX1_bears_1 ⟨Nat.le_of_ble_eq_true rfl, Nat.le_of_ble_eq_true rfl⟩) hS (fun locs hS => ?_)
  refine lv_if_eq (tgt := 36) hx hb dX1_bears_4 (by decide) (fun c_4 => ?_) (fun c_4 => ?_)
  · refine lv_iconst (v := 0) hx hb dX1_bears_36 (by decide) ?_
    exact h_rzret S hr hlk hS dX1_bears_37 (bearsF_b f t w) (by simp [bearsF, c_4])
  · refine lv_iload_n hx hb dX1_bears_7 rfl (lv_at hl 2 rfl) ?_
    refine hc_r (va_runSN (As := [.int w]) (rest := []) S (c_X4_isWay l G _ w) ⟨va_cnB 1 hts (gWS q_co_X4_isWay) rfl rfl rfl (hE.nest 14 rfl) (hts _ q_in_4) (by decide +kernel) ⟨Nat.le_of_ble_eq_true rfl, Nat.le_of_ble_eq_true rfl⟩, hts _ q_st_X4_isWay, trivial⟩ (hPreSr hE hS) rfl rfl hl.1 rfl (lv_room (Nat.le_of_ble_eq_true rfl)) dX1_bears_8 ⟨Nat.le_of_ble_eq_true rfl, Nat.le_of_ble_eq_true rfl⟩) hS (fun locs hS => ?_)
    refine lv_if_eq (tgt := 36) hx hb dX1_bears_11 (by decide) (fun c_11 => ?_) (fun c_11 => ?_)
    · refine lv_iconst (v := 0) hx hb dX1_bears_36 (by decide) ?_
      exact h_rzret S hr hlk hS dX1_bears_37 (bearsF_b f t w) (by simp [bearsF, c_4, c_11])
    · refine lv_iload_n hx hb dX1_bears_14 rfl (lv_at hl 2 rfl) ?_
      refine lv_iconst (v := 1) hx hb dX1_bears_15 (by decide) ?_
      refine lv_icmp_le (tgt := 32) hx hb dX1_bears_16 (by decide) (fun c_16 => ?_) (fun c_16 => ?_)
      · refine lv_iconst (v := 1) hx hb dX1_bears_32 (by decide) ?_
        refine lv_goto (tgt := 37) hx hb dX1_bears_33 (by decide) ?_
        exact h_rzret S hr hlk hS dX1_bears_37 (bearsF_b f t w) (by simp [bearsF, c_4, c_11, c_16])
      · refine lv_aload_n hx hb dX1_bears_19 rfl (lv_at hl 0 rfl) ?_
        refine hr_get S hE hW h1 inX1 (C := RX1) (T := TX1) (N := 2) rfl 0 (by decide) q_f_1_9 rfl dX1_bears_20 ?_
        refine lv_iload_n hx hb dX1_bears_23 rfl (lv_at hl 1 rfl) ?_
        refine hr_iald S hE hW h4 (isTypeF_in c_4) dX1_bears_24 ?_
        refine lv_iload_n hx hb dX1_bears_25 rfl (lv_at hl 2 rfl) ?_
        refine hc_r (va_runS (As := [.int (f (t).toNatClampNeg), .int w]) (rest := []) S (c_X1_holds l G _ (f (t).toNatClampNeg) w) (va_cwS 2 hts (gWSS q_l_1_49 q_st_X1_holds q_in_1 q_co_X1_holds) rfl rfl rfl (by decide +kernel) ⟨Nat.le_of_ble_eq_true rfl, Nat.le_of_ble_eq_true rfl⟩) (hPreSr hE hS) rfl rfl hl.1 rfl (lv_room (Nat.le_of_ble_eq_true rfl)) dX1_bears_26 ⟨Nat.le_of_ble_eq_true rfl, Nat.le_of_ble_eq_true rfl⟩) hS (fun locs hS => ?_)
        refine lv_if_eq (tgt := 36) hx hb dX1_bears_29 (by decide) (fun c_29 => ?_) (fun c_29 => ?_)
        · refine lv_iconst (v := 0) hx hb dX1_bears_36 (by decide) ?_
          exact h_rzret S hr hlk hS dX1_bears_37 (bearsF_b f t w) (by simp [bearsF, c_4, c_11, c_16, c_29])
        · refine lv_iconst (v := 1) hx hb dX1_bears_32 (by decide) ?_
          refine lv_goto (tgt := 37) hx hb dX1_bears_33 (by decide) ?_
          exact h_rzret S hr hlk hS dX1_bears_37 (bearsF_b f t w) (by simp [bearsF, c_4, c_11, c_16, c_29])
set_option maxRecDepth 100000 in
set_option maxHeartbeats 4000000 in
theorem c_X1_hasAct (l : Launch) (G : hG) (H : Heap) {ad : Nat → Nat} {ct : Nat → Option va_E} (hW : hw G ad ct H) (h1 : ct 1 = some (.inr (1, [.ref (ad 4), .ref (ad 5)]))) (w a : Int32)  : Met l yX1_hasAct wzX1_hasAct { frames := 1, cells := 0, slots := 0, locals := 21 } (hPr [.ref (ad 1), .int w, .int a] G H) (hQr (hasActF w a) H G.2.2.2) 0 0 (hA G.2.2.2) := by
  refine hMetr (Qc := fun H => hQr (hasActF w a) H G.2.2.2) (by decide) (Nat.le_of_ble_eq_true rfl) (fun p e s m below meth c ls S hr hlk hE hH hl => ?_)
  subst hH
  obtain ⟨hx, hb, hml, hown, hts⟩ := id S
  have hS : va_S (hA G.2.2.2) s.heap s.heap [] := va_S.rf
  have hl : lv_has ls 3 [(0, .ref (ad 1)), (1, .int w), (2, .int a)] := hl
  refine lv_iload_n hx hb dX1_hasAct_0 rfl (lv_at hl 1 rfl) ?_
  refine hc_r (va_runSN (As := [.int w]) (rest := []) S (c_X4_isWay l G _ w) ⟨va_cnB 1 hts (gWS q_co_X4_isWay) rfl rfl rfl (hE.nest 14 rfl) (hts _ q_in_4) (by decide +kernel) ⟨Nat.le_of_ble_eq_true rfl, Nat.le_of_ble_eq_true rfl⟩, hts _ q_st_X4_isWay, trivial⟩ (hPreSr hE hS) rfl rfl hl.1 rfl (lv_room (Nat.le_of_ble_eq_true rfl)) dX1_hasAct_1 ⟨Nat.le_of_ble_eq_true rfl, Nat.le_of_ble_eq_true rfl⟩) hS (fun locs hS => ?_)
  refine lv_if_eq (tgt := 30) hx hb dX1_hasAct_4 (by decide) (fun c_4 => ?_) (fun c_4 => ?_)
  · refine lv_iconst (v := 0) hx hb dX1_hasAct_30 (by decide) ?_
    exact h_rzret S hr hlk hS dX1_hasAct_31 (hasActF_b w a) (by simp [hasActF, c_4])
  · refine lv_iload_n hx hb dX1_hasAct_7 rfl (lv_at hl 2 rfl) ?_
    refine hc_r (va_runSN (As := [.int a]) (rest := []) S (c_X4_isAct l G _ a) ⟨va_cnB 1 hts (gWS q_co_X4_isAct) rfl rfl rfl (hE.nest 9 rfl) (hts _ q_in_4) (by decide +kernel) ⟨Nat.le_of_ble_eq_true rfl, Nat.le_of_ble_eq_true rfl⟩, hts _ q_st_X4_isAct, trivial⟩ (hPreSr hE hS) rfl rfl hl.1 rfl (lv_room (Nat.le_of_ble_eq_true rfl)) dX1_hasAct_8 ⟨Nat.le_of_ble_eq_true rfl, Nat.le_of_ble_eq_true rfl⟩) hS (fun locs hS => ?_)
    refine lv_if_eq (tgt := 30) hx hb dX1_hasAct_11 (by decide) (fun c_11 => ?_) (fun c_11 => ?_)
    · refine lv_iconst (v := 0) hx hb dX1_hasAct_30 (by decide) ?_
      exact h_rzret S hr hlk hS dX1_hasAct_31 (hasActF_b w a) (by simp [hasActF, c_4, c_11])
    · refine va_gets hx hb hE.2.2.2.2.2.1.1 hS hown (hts _ q_f_1_70) (fun _ h => h) dX1_hasAct_14 ?_
      refine lv_iload_n hx hb dX1_hasAct_17 rfl (lv_at hl 1 rfl) ?_
      refine va_ti hx hb hE.2.2.2.2.2.1.2 hS (isWayF_in c_4) (v := .int (tab tabWl (w).toNatClampNeg)) rfl dX1_hasAct_18 ?_
      refine lv_iload_n hx hb dX1_hasAct_19 rfl (lv_at hl 2 rfl) ?_
      refine hc_r (va_runS (As := [.int (tab tabWl (w).toNatClampNeg), .int a]) (rest := []) S (c_X1_holds l G _ (tab tabWl (w).toNatClampNeg) a) (va_cwS 2 hts (gWSS q_l_1_49 q_st_X1_holds q_in_1 q_co_X1_holds) rfl rfl rfl (by decide +kernel) ⟨Nat.le_of_ble_eq_true rfl, Nat.le_of_ble_eq_true rfl⟩) (hPreSr hE hS) rfl rfl hl.1 rfl (lv_room (Nat.le_of_ble_eq_true rfl)) dX1_hasAct_20 ⟨Nat.le_of_ble_eq_true rfl, Nat.le_of_ble_eq_true rfl⟩) hS (fun locs hS => ?_)
      refine lv_if_eq (tgt := 30) hx hb dX1_hasAct_23 (by decide) (fun c_23 => ?_) (fun c_23 => ?_)
      · refine lv_iconst (v := 0) hx hb dX1_hasAct_30 (by decide) ?_
        exact h_rzret S hr hlk hS dX1_hasAct_31 (hasActF_b w a) (by simp [hasActF, c_4, c_11, c_23])
      · refine lv_iconst (v := 1) hx hb dX1_hasAct_26 (by decide) ?_
        refine lv_goto (tgt := 31) hx hb dX1_hasAct_27 (by decide) ?_
        exact h_rzret S hr hlk hS dX1_hasAct_31 (hasActF_b w a) (by simp [hasActF, c_4, c_11, c_23])
set_option maxRecDepth 100000 in
set_option maxHeartbeats 4000000 in
theorem c_X1_kindHasAct (l : Launch) (G : hG) (H : Heap) {ad : Nat → Nat} {ct : Nat → Option va_E} (hW : hw G ad ct H) {f : Nat → Int32} (h1 : ct 1 = some (.inr (1, [.ref (ad 4), .ref (ad 5)]))) (h4 : ct 4 = some (.inl (G.2.1.1, 18, .inl f))) (t a : Int32)  : Met l yX1_kindHasAct wzX1_kindHasAct { frames := 2, cells := 0, slots := 0, locals := 43 } (hPr [.ref (ad 1), .int t, .int a] G H) (hQr (khaL f t a 6 1) H G.2.2.2) 0 0 (hA G.2.2.2) := by
  refine hMetr (Qc := fun H => hQr (khaL f t a 6 1) H G.2.2.2) (by decide) (Nat.le_of_ble_eq_true rfl) (fun p e s m below meth c ls S hr hlk hE hH hl => ?_)
  subst hH
  obtain ⟨hx, hb, hml, hown, hts⟩ := id S
  have hS : va_S (hA G.2.2.2) s.heap s.heap [] := va_S.rf
  have hl : lv_has ls 4 [(0, .ref (ad 1)), (1, .int t), (2, .int a)] := hl
  refine lv_iconst (v := 1) hx hb dX1_kindHasAct_0 (by decide) ?_
  refine lv_istore_n (lv' := [(3, .int 1), (0, .ref (ad 1)), (1, .int t), (2, .int a)]) hx hb dX1_kindHasAct_1 rfl hl (by decide) rfl (fun ls hl => ?_)
  have loop : ∀ (n k : Nat)  (locs : List Loc) (ls : Array Slot), n + k = 7 → (khaL f t a 6 1 = khaL f t a n k) → va_S (hA G.2.2.2) s.heap s.heap locs → lv_has ls 4 [(3, .int (nI k)), (0, .ref (ad 1)), (1, .int t), (2, .int a)] → W p l e { frames := 2, cells := 0, slots := 0, locals := 43 } s m ([.ref (ad 1), .int t, .int a] : List Value).toArray below meth c s.heap locs 0 0 (MQ below (hQr (khaL f t a 6 1) s.heap G.2.2.2) ([.ref (ad 1), .int t, .int a] : List Value).toArray s 0 0 (hA G.2.2.2)) (F0 m 2 ls []) := by
    intro n
    induction n with
    | zero =>
      intro k  locs ls hnk hv hS hl
      have hk : k = 7 := by omega
      subst hk
      refine lv_iload_n hx hb dX1_kindHasAct_2 rfl (lv_at hl 0 rfl) ?_
      refine lv_bipush (v := 6) hx hb dX1_kindHasAct_3 (by decide) ?_
      refine lv_icmp_gt (tgt := 34) hx hb dX1_kindHasAct_5 (by decide) (fun _ => ?_) (fun q => absurd (by decide) q)
      refine lv_iconst (v := 0) hx hb dX1_kindHasAct_34 (by decide) ?_
      exact h_rzret S hr hlk hS dX1_kindHasAct_35 (khaL_b f t a 6 1) (by rw [hv]; rfl)
    | succ n ih =>
      intro k  locs ls hnk hv hS hl
      refine lv_iload_n hx hb dX1_kindHasAct_2 rfl (lv_at hl 0 rfl) ?_
      refine lv_bipush (v := 6) hx hb dX1_kindHasAct_3 (by decide) ?_
      refine lv_icmp_gt (tgt := 34) hx hb dX1_kindHasAct_5 (by decide) (fun q => absurd q (le6 (by omega))) (fun _ => ?_)
      refine lv_aload_n hx hb dX1_kindHasAct_8 rfl (lv_at hl 1 rfl) ?_
      refine lv_iload_n hx hb dX1_kindHasAct_9 rfl (lv_at hl 2 rfl) ?_
      refine lv_iload_n hx hb dX1_kindHasAct_10 rfl (lv_at hl 0 rfl) ?_
      refine hc_r (va_runV (As := [.int t, .int (nI k)]) (rest := []) S (c_X1_bears l G _ hW h1 h4 t (nI k)) (cwV 2 hts (gWSV q_l_1_73 q_im_X1_bears q_se_X1_bears q_in_1 q_co_X1_bears) rfl rfl rfl (by decide +kernel) ⟨Nat.le_of_ble_eq_true rfl, Nat.le_of_ble_eq_true rfl⟩) (hPreVr hE hS (hrecv hE hW h1 (q := (RX1, TX1, 2)) rfl)) rfl rfl hl.1 rfl (lv_room (Nat.le_of_ble_eq_true rfl)) dX1_kindHasAct_11 ⟨Nat.le_of_ble_eq_true rfl, Nat.le_of_ble_eq_true rfl⟩) hS (fun locs hS => ?_)
      refine lv_if_eq (tgt := 28) hx hb dX1_kindHasAct_14 (by decide) (fun c_14 => ?_) (fun c_14 => ?_)
      · refine lv_iinc (v := (nI (k + 1))) (lv' := [(3, .int (nI (k + 1))), (0, .ref (ad 1)), (1, .int t), (2, .int a)]) hx hb dX1_kindHasAct_28 hl (k := 0) rfl (nI_1 k) (by decide) rfl (fun ls hl => ?_)
        refine lv_goto (tgt := 2) hx hb dX1_kindHasAct_31 (by decide) ?_
        exact ih (k + 1)  _ _ (by omega) (by rw [hv]; simp [khaL, c_14]) hS (lv_sub hl [0, 1, 2, 3] rfl)
      · refine lv_aload_n hx hb dX1_kindHasAct_17 rfl (lv_at hl 1 rfl) ?_
        refine lv_iload_n hx hb dX1_kindHasAct_18 rfl (lv_at hl 0 rfl) ?_
        refine lv_iload_n hx hb dX1_kindHasAct_19 rfl (lv_at hl 3 rfl) ?_
        refine hc_r (va_runV (As := [.int (nI k), .int a]) (rest := []) S (c_X1_hasAct l G _ hW h1 (nI k) a) (cwV 2 hts (gWSV q_l_1_76 q_im_X1_hasAct q_se_X1_hasAct q_in_1 q_co_X1_hasAct) rfl rfl rfl (by decide +kernel) ⟨Nat.le_of_ble_eq_true rfl, Nat.le_of_ble_eq_true rfl⟩) (hPreVr hE hS (hrecv hE hW h1 (q := (RX1, TX1, 2)) rfl)) rfl rfl hl.1 rfl (lv_room (Nat.le_of_ble_eq_true rfl)) dX1_kindHasAct_20 ⟨Nat.le_of_ble_eq_true rfl, Nat.le_of_ble_eq_true rfl⟩) hS (fun locs hS => ?_)
        refine lv_if_eq (tgt := 28) hx hb dX1_kindHasAct_23 (by decide) (fun c_23 => ?_) (fun c_23 => ?_)
        · refine lv_iinc (v := (nI (k + 1))) (lv' := [(3, .int (nI (k + 1))), (0, .ref (ad 1)), (1, .int t), (2, .int a)]) hx hb dX1_kindHasAct_28 hl (k := 0) rfl (nI_1 k) (by decide) rfl (fun ls hl => ?_)
          refine lv_goto (tgt := 2) hx hb dX1_kindHasAct_31 (by decide) ?_
          exact ih (k + 1)  _ _ (by omega) (by rw [hv]; simp [khaL, c_14, c_23]) hS (lv_sub hl [0, 1, 2, 3] rfl)
        · refine lv_iconst (v := 1) hx hb dX1_kindHasAct_26 (by decide) ?_
          exact h_rzret S hr hlk hS dX1_kindHasAct_27 (khaL_b f t a 6 1) (by rw [hv]; simp [khaL, c_14, c_23])
  exact loop 6 1 _ _ (by decide) rfl hS (lv_sub hl [0, 1, 2, 3] rfl)
end
section
/-! SEM: what the bodies do, over the tables; a device: its value, its count; the trail: how many began, which are kept -/
def selTl : List Int32 := [0, 0, 0, 62, 0, 0, 0, 0, 0, 60, 61, 64, 0, 0, 0, 62, 0, 70, 0, 0, 0, 60, 61, 64, 0, 10, 11, 0, 0, 0, 0, 0, 0, 0, 0, 0, 0, 0, 21, 0, 20, 0, 0, 0, 0, 0, 0, 0, 0, 10, 30, 0, 20, 0, 0, 0, 0, 0, 0, 0, 0, 0, 0, 0, 0, 0, 40, 41, 0, 0, 0, 0, 0, 0, 0, 0, 0, 0, 40, 50, 51, 0, 0, 0, 100, 10, 11, 62, 0, 70, 0, 0, 0, 101, 61, 64, 0, 0, 21, 62, 111, 70, 0, 0, 0, 60, 110, 64, 0, 0, 0, 62, 0, 70, 120, 41, 0, 60, 61, 64, 130, 131, 11, 62, 0, 70, 0, 0, 0, 101, 61, 64, 140, 10, 141, 62, 111, 70, 0, 0, 0, 60, 142, 64, 150, 10, 30, 62, 152, 70, 120, 41, 0, 151, 61, 64, 0, 0, 0, 62, 0, 160, 40, 50, 161, 163, 61, 64, 0, 0, 0, 62, 0, 70, 120, 50, 51, 60, 61, 64, 130, 131, 181, 62, 0, 70, 0, 0, 0, 180, 61, 64, 190, 10, 30, 62, 111, 70, 0, 0, 0, 60, 110, 64, 140, 10, 202, 62, 111, 204, 40, 201, 51, 60, 142, 64]
def selT : Nat → Int32 := tab selTl
def borTl : List Int32 := [0, 0, 4, 8, 28, 32, 96, 4, 8, 32, 4, 12, 60, 96, 96, 4, 28, 124]
def borT : Nat → Int32 := tab borTl
abbrev St : Type := Int32 × Int32 × Int32 × (Nat → Int32)
def bgF (b : Int32) (f : Nat → Int32) (x : Int32) : Nat → Int32 := if b < 0 then f else if 64 ≤ b then f else upd f b.toNatClampNeg x
def bgS (x : Int32) (q : St) : St := (q.1, q.2.1, q.2.2.1 + 1, bgF q.2.2.1 q.2.2.2 x)
def bodyS (R : Int32 → Int32 → St → Int32 × St) (t b x : Int32) (q : St) : Int32 × St :=
  if b = 10 then (((R (selOfF selT t 0) x q).1) + 1, (R (selOfF selT t 0) x q).2) else
  if b = 11 then ((((R (selOfF selT t 1) x q).1) * 3) - ((R (selOfF selT t 0) (x + 1) ((R (selOfF selT t 1) x q).2)).1), (R (selOfF selT t 0) (x + 1) ((R (selOfF selT t 1) x q).2)).2) else
  if b = 20 then (((R (selOfF selT t 3) x q).1) + ((R (selOfF selT t 3) (x + 1) ((R (selOfF selT t 3) x q).2)).1), (R (selOfF selT t 3) (x + 1) ((R (selOfF selT t 3) x q).2)).2) else
  if b = 21 then (((R (selOfF selT t 4) x q).1) ^^^ 85, (R (selOfF selT t 4) x q).2) else
  if b = 30 then (((R (selOfF selT 2 2) x q).1) + ((R (selOfF selT 3 2) (x + 1) ((R (selOfF selT 2 2) x q).2)).1), (R (selOfF selT 3 2) (x + 1) ((R (selOfF selT 2 2) x q).2)).2) else
  if b = 40 then (((R (selOfF selT t 5) x q).1) + x, (R (selOfF selT t 5) x q).2) else
  if b = 41 then ((((R (selOfF selT t 6) x q).1) * 2) + ((R (selOfF selT t 6) 1 ((R (selOfF selT t 6) x q).2)).1), (R (selOfF selT t 6) 1 ((R (selOfF selT t 6) x q).2)).2) else
  if b = 50 then (((R (selOfF selT 5 7) x q).1) - ((R (selOfF selT t 8) x ((R (selOfF selT 5 7) x q).2)).1), (R (selOfF selT t 8) x ((R (selOfF selT 5 7) x q).2)).2) else
  if b = 51 then (((R 52 x q).1) + ((R (selOfF selT t 5) 2 ((R 52 x q).2)).1), (R (selOfF selT t 5) 2 ((R 52 x q).2)).2) else
  if b = 52 then (((R (selOfF selT t 5) x q).1) * 5, (R (selOfF selT t 5) x q).2) else
  if b = 60 then (((q.1 + x, q.2)).1, (q.1 + x, q.2)) else
  if b = 61 then (((q.1 - (3 * x), q.2)).1, (q.1 - (3 * x), q.2)) else
  if b = 62 then ((((q.1 * 31) + x, q.2)).1, ((q.1 * 31) + x, q.2)) else
  if b = 63 then (q.1 ^^^ x, q) else
  if b = 64 then ((((R (selOfF selT t 9) x q).1) + ((R (selOfF selT t 10) 1 ((R (selOfF selT t 9) x q).2)).1)) + ((R 63 x ((R (selOfF selT t 10) 1 ((R (selOfF selT t 9) x q).2)).2)).1), (R 63 x ((R (selOfF selT t 10) 1 ((R (selOfF selT t 9) x q).2)).2)).2) else
  if b = 70 then (((((q.1, q.2.1 + 1, q.2.2)).2.1) * 7) + x, (q.1, q.2.1 + 1, q.2.2)) else
  if b = 100 then (q.1 + x, q) else
  if b = 101 then (((R (selOfF selT (parentF 7) 9) (x + 2) q).1) + 1, (R (selOfF selT (parentF 7) 9) (x + 2) q).2) else
  if b = 110 then ((((R (selOfF selT (parentF 8) 10) x q).1) * 2) + ((R 112 x ((R (selOfF selT (parentF 8) 10) x q).2)).1), (R 112 x ((R (selOfF selT (parentF 8) 10) x q).2)).2) else
  if b = 111 then (((R (selOfF selT 3 4) x q).1) - 1, (R (selOfF selT 3 4) x q).2) else
  if b = 112 then (q.2.1 - x, q) else
  if b = 120 then ((((R (selOfF selT t 5) x q).1) * 3) + (((R (selOfF selT t 5) x q).2).1), (R (selOfF selT t 5) x q).2) else
  if b = 130 then (((R (selOfF selT (parentF 10) 0) x q).1) * 3, (R (selOfF selT (parentF 10) 0) x q).2) else
  if b = 131 then (((R (selOfF selT (parentF 10) 1) (x + 1) q).1) + 5, (R (selOfF selT (parentF 10) 1) (x + 1) q).2) else
  if b = 140 then (q.1 - x, q) else
  if b = 141 then (((R (selOfF selT (parentF 11) 2) x q).1) - ((R (selOfF selT 2 2) 1 ((R (selOfF selT (parentF 11) 2) x q).2)).1), (R (selOfF selT 2 2) 1 ((R (selOfF selT (parentF 11) 2) x q).2)).2) else
  if b = 142 then (((R (selOfF selT (parentF 11) 10) (x + 1) q).1) + 4, (R (selOfF selT (parentF 11) 10) (x + 1) q).2) else
  if b = 150 then (((R (selOfF selT t 5) x q).1) + (((R (selOfF selT t 5) x q).2).1), (R (selOfF selT t 5) x q).2) else
  if b = 151 then (((R (selOfF selT (parentF 12) 9) x q).1) ^^^ ((R (selOfF selT t 2) 0 ((R (selOfF selT (parentF 12) 9) x q).2)).1), (R (selOfF selT t 2) 0 ((R (selOfF selT (parentF 12) 9) x q).2)).2) else
  if b = 152 then (((R (selOfF selT 4 4) x q).1) + 1, (R (selOfF selT 4 4) x q).2) else
  if b = 160 then (x, q) else
  if b = 161 then (((R (selOfF selT 6 8) x q).1) &&& 255, (R (selOfF selT 6 8) x q).2) else
  if b = 162 then (x + 99, q) else
  if b = 163 then (((R 162 x q).1) + ((R (selOfF selT (parentF 13) 9) 1 ((R 162 x q).2)).1), (R (selOfF selT (parentF 13) 9) 1 ((R 162 x q).2)).2) else
  if b = 180 then (((R (selOfF selT (parentF 15) 9) x q).1) - 1, (R (selOfF selT (parentF 15) 9) x q).2) else
  if b = 181 then (((R (selOfF selT (parentF 15) 2) x q).1) + ((R (selOfF selT t 1) 2 ((R (selOfF selT (parentF 15) 2) x q).2)).1), (R (selOfF selT t 1) 2 ((R (selOfF selT (parentF 15) 2) x q).2)).2) else
  if b = 190 then (((R (selOfF selT t 10) x q).1) * 2, (R (selOfF selT t 10) x q).2) else
  if b = 200 then (q.2.1 + x, q) else
  if b = 201 then (((R (selOfF selT 6 7) x q).1) + ((R 200 x ((R (selOfF selT 6 7) x q).2)).1), (R 200 x ((R (selOfF selT 6 7) x q).2)).2) else
  if b = 202 then (((R (selOfF selT 4 2) x q).1) + ((R (selOfF selT (parentF 17) 2) x ((R (selOfF selT 4 2) x q).2)).1), (R (selOfF selT (parentF 17) 2) x ((R (selOfF selT 4 2) x q).2)).2) else
  if b = 204 then (((R (selOfF selT (parentF 17) 5) x q).1) + 1, (R (selOfF selT (parentF 17) 5) x q).2) else
  (0, q)
theorem bodyS_10 (R : Int32 → Int32 → St → Int32 × St) (t x : Int32) (q : St) : bodyS R t 10 x q = (((R (selOfF selT t 0) x q).1) + 1, (R (selOfF selT t 0) x q).2) := rfl
theorem bodyS_11 (R : Int32 → Int32 → St → Int32 × St) (t x : Int32) (q : St) : bodyS R t 11 x q = ((((R (selOfF selT t 1) x q).1) * 3) - ((R (selOfF selT t 0) (x + 1) ((R (selOfF selT t 1) x q).2)).1), (R (selOfF selT t 0) (x + 1) ((R (selOfF selT t 1) x q).2)).2) := rfl
theorem bodyS_20 (R : Int32 → Int32 → St → Int32 × St) (t x : Int32) (q : St) : bodyS R t 20 x q = (((R (selOfF selT t 3) x q).1) + ((R (selOfF selT t 3) (x + 1) ((R (selOfF selT t 3) x q).2)).1), (R (selOfF selT t 3) (x + 1) ((R (selOfF selT t 3) x q).2)).2) := rfl
theorem bodyS_21 (R : Int32 → Int32 → St → Int32 × St) (t x : Int32) (q : St) : bodyS R t 21 x q = (((R (selOfF selT t 4) x q).1) ^^^ 85, (R (selOfF selT t 4) x q).2) := rfl
theorem bodyS_30 (R : Int32 → Int32 → St → Int32 × St) (t x : Int32) (q : St) : bodyS R t 30 x q = (((R (selOfF selT 2 2) x q).1) + ((R (selOfF selT 3 2) (x + 1) ((R (selOfF selT 2 2) x q).2)).1), (R (selOfF selT 3 2) (x + 1) ((R (selOfF selT 2 2) x q).2)).2) := rfl
theorem bodyS_40 (R : Int32 → Int32 → St → Int32 × St) (t x : Int32) (q : St) : bodyS R t 40 x q = (((R (selOfF selT t 5) x q).1) + x, (R (selOfF selT t 5) x q).2) := rfl
theorem bodyS_41 (R : Int32 → Int32 → St → Int32 × St) (t x : Int32) (q : St) : bodyS R t 41 x q = ((((R (selOfF selT t 6) x q).1) * 2) + ((R (selOfF selT t 6) 1 ((R (selOfF selT t 6) x q).2)).1), (R (selOfF selT t 6) 1 ((R (selOfF selT t 6) x q).2)).2) := rfl
theorem bodyS_50 (R : Int32 → Int32 → St → Int32 × St) (t x : Int32) (q : St) : bodyS R t 50 x q = (((R (selOfF selT 5 7) x q).1) - ((R (selOfF selT t 8) x ((R (selOfF selT 5 7) x q).2)).1), (R (selOfF selT t 8) x ((R (selOfF selT 5 7) x q).2)).2) := rfl
theorem bodyS_51 (R : Int32 → Int32 → St → Int32 × St) (t x : Int32) (q : St) : bodyS R t 51 x q = (((R 52 x q).1) + ((R (selOfF selT t 5) 2 ((R 52 x q).2)).1), (R (selOfF selT t 5) 2 ((R 52 x q).2)).2) := rfl
theorem bodyS_52 (R : Int32 → Int32 → St → Int32 × St) (t x : Int32) (q : St) : bodyS R t 52 x q = (((R (selOfF selT t 5) x q).1) * 5, (R (selOfF selT t 5) x q).2) := rfl
theorem bodyS_60 (R : Int32 → Int32 → St → Int32 × St) (t x : Int32) (q : St) : bodyS R t 60 x q = (((q.1 + x, q.2)).1, (q.1 + x, q.2)) := rfl
theorem bodyS_61 (R : Int32 → Int32 → St → Int32 × St) (t x : Int32) (q : St) : bodyS R t 61 x q = (((q.1 - (3 * x), q.2)).1, (q.1 - (3 * x), q.2)) := rfl
theorem bodyS_62 (R : Int32 → Int32 → St → Int32 × St) (t x : Int32) (q : St) : bodyS R t 62 x q = ((((q.1 * 31) + x, q.2)).1, ((q.1 * 31) + x, q.2)) := rfl
theorem bodyS_63 (R : Int32 → Int32 → St → Int32 × St) (t x : Int32) (q : St) : bodyS R t 63 x q = (q.1 ^^^ x, q) := rfl
theorem bodyS_64 (R : Int32 → Int32 → St → Int32 × St) (t x : Int32) (q : St) : bodyS R t 64 x q = ((((R (selOfF selT t 9) x q).1) + ((R (selOfF selT t 10) 1 ((R (selOfF selT t 9) x q).2)).1)) + ((R 63 x ((R (selOfF selT t 10) 1 ((R (selOfF selT t 9) x q).2)).2)).1), (R 63 x ((R (selOfF selT t 10) 1 ((R (selOfF selT t 9) x q).2)).2)).2) := rfl
theorem bodyS_70 (R : Int32 → Int32 → St → Int32 × St) (t x : Int32) (q : St) : bodyS R t 70 x q = (((((q.1, q.2.1 + 1, q.2.2)).2.1) * 7) + x, (q.1, q.2.1 + 1, q.2.2)) := rfl
theorem bodyS_100 (R : Int32 → Int32 → St → Int32 × St) (t x : Int32) (q : St) : bodyS R t 100 x q = (q.1 + x, q) := rfl
theorem bodyS_101 (R : Int32 → Int32 → St → Int32 × St) (t x : Int32) (q : St) : bodyS R t 101 x q = (((R (selOfF selT (parentF 7) 9) (x + 2) q).1) + 1, (R (selOfF selT (parentF 7) 9) (x + 2) q).2) := rfl
theorem bodyS_110 (R : Int32 → Int32 → St → Int32 × St) (t x : Int32) (q : St) : bodyS R t 110 x q = ((((R (selOfF selT (parentF 8) 10) x q).1) * 2) + ((R 112 x ((R (selOfF selT (parentF 8) 10) x q).2)).1), (R 112 x ((R (selOfF selT (parentF 8) 10) x q).2)).2) := rfl
theorem bodyS_111 (R : Int32 → Int32 → St → Int32 × St) (t x : Int32) (q : St) : bodyS R t 111 x q = (((R (selOfF selT 3 4) x q).1) - 1, (R (selOfF selT 3 4) x q).2) := rfl
theorem bodyS_112 (R : Int32 → Int32 → St → Int32 × St) (t x : Int32) (q : St) : bodyS R t 112 x q = (q.2.1 - x, q) := rfl
theorem bodyS_120 (R : Int32 → Int32 → St → Int32 × St) (t x : Int32) (q : St) : bodyS R t 120 x q = ((((R (selOfF selT t 5) x q).1) * 3) + (((R (selOfF selT t 5) x q).2).1), (R (selOfF selT t 5) x q).2) := rfl
theorem bodyS_130 (R : Int32 → Int32 → St → Int32 × St) (t x : Int32) (q : St) : bodyS R t 130 x q = (((R (selOfF selT (parentF 10) 0) x q).1) * 3, (R (selOfF selT (parentF 10) 0) x q).2) := rfl
theorem bodyS_131 (R : Int32 → Int32 → St → Int32 × St) (t x : Int32) (q : St) : bodyS R t 131 x q = (((R (selOfF selT (parentF 10) 1) (x + 1) q).1) + 5, (R (selOfF selT (parentF 10) 1) (x + 1) q).2) := rfl
theorem bodyS_140 (R : Int32 → Int32 → St → Int32 × St) (t x : Int32) (q : St) : bodyS R t 140 x q = (q.1 - x, q) := rfl
theorem bodyS_141 (R : Int32 → Int32 → St → Int32 × St) (t x : Int32) (q : St) : bodyS R t 141 x q = (((R (selOfF selT (parentF 11) 2) x q).1) - ((R (selOfF selT 2 2) 1 ((R (selOfF selT (parentF 11) 2) x q).2)).1), (R (selOfF selT 2 2) 1 ((R (selOfF selT (parentF 11) 2) x q).2)).2) := rfl
theorem bodyS_142 (R : Int32 → Int32 → St → Int32 × St) (t x : Int32) (q : St) : bodyS R t 142 x q = (((R (selOfF selT (parentF 11) 10) (x + 1) q).1) + 4, (R (selOfF selT (parentF 11) 10) (x + 1) q).2) := rfl
theorem bodyS_150 (R : Int32 → Int32 → St → Int32 × St) (t x : Int32) (q : St) : bodyS R t 150 x q = (((R (selOfF selT t 5) x q).1) + (((R (selOfF selT t 5) x q).2).1), (R (selOfF selT t 5) x q).2) := rfl
theorem bodyS_151 (R : Int32 → Int32 → St → Int32 × St) (t x : Int32) (q : St) : bodyS R t 151 x q = (((R (selOfF selT (parentF 12) 9) x q).1) ^^^ ((R (selOfF selT t 2) 0 ((R (selOfF selT (parentF 12) 9) x q).2)).1), (R (selOfF selT t 2) 0 ((R (selOfF selT (parentF 12) 9) x q).2)).2) := rfl
theorem bodyS_152 (R : Int32 → Int32 → St → Int32 × St) (t x : Int32) (q : St) : bodyS R t 152 x q = (((R (selOfF selT 4 4) x q).1) + 1, (R (selOfF selT 4 4) x q).2) := rfl
theorem bodyS_160 (R : Int32 → Int32 → St → Int32 × St) (t x : Int32) (q : St) : bodyS R t 160 x q = (x, q) := rfl
theorem bodyS_161 (R : Int32 → Int32 → St → Int32 × St) (t x : Int32) (q : St) : bodyS R t 161 x q = (((R (selOfF selT 6 8) x q).1) &&& 255, (R (selOfF selT 6 8) x q).2) := rfl
theorem bodyS_162 (R : Int32 → Int32 → St → Int32 × St) (t x : Int32) (q : St) : bodyS R t 162 x q = (x + 99, q) := rfl
theorem bodyS_163 (R : Int32 → Int32 → St → Int32 × St) (t x : Int32) (q : St) : bodyS R t 163 x q = (((R 162 x q).1) + ((R (selOfF selT (parentF 13) 9) 1 ((R 162 x q).2)).1), (R (selOfF selT (parentF 13) 9) 1 ((R 162 x q).2)).2) := rfl
theorem bodyS_180 (R : Int32 → Int32 → St → Int32 × St) (t x : Int32) (q : St) : bodyS R t 180 x q = (((R (selOfF selT (parentF 15) 9) x q).1) - 1, (R (selOfF selT (parentF 15) 9) x q).2) := rfl
theorem bodyS_181 (R : Int32 → Int32 → St → Int32 × St) (t x : Int32) (q : St) : bodyS R t 181 x q = (((R (selOfF selT (parentF 15) 2) x q).1) + ((R (selOfF selT t 1) 2 ((R (selOfF selT (parentF 15) 2) x q).2)).1), (R (selOfF selT t 1) 2 ((R (selOfF selT (parentF 15) 2) x q).2)).2) := rfl
theorem bodyS_190 (R : Int32 → Int32 → St → Int32 × St) (t x : Int32) (q : St) : bodyS R t 190 x q = (((R (selOfF selT t 10) x q).1) * 2, (R (selOfF selT t 10) x q).2) := rfl
theorem bodyS_200 (R : Int32 → Int32 → St → Int32 × St) (t x : Int32) (q : St) : bodyS R t 200 x q = (q.2.1 + x, q) := rfl
theorem bodyS_201 (R : Int32 → Int32 → St → Int32 × St) (t x : Int32) (q : St) : bodyS R t 201 x q = (((R (selOfF selT 6 7) x q).1) + ((R 200 x ((R (selOfF selT 6 7) x q).2)).1), (R 200 x ((R (selOfF selT 6 7) x q).2)).2) := rfl
theorem bodyS_202 (R : Int32 → Int32 → St → Int32 × St) (t x : Int32) (q : St) : bodyS R t 202 x q = (((R (selOfF selT 4 2) x q).1) + ((R (selOfF selT (parentF 17) 2) x ((R (selOfF selT 4 2) x q).2)).1), (R (selOfF selT (parentF 17) 2) x ((R (selOfF selT 4 2) x q).2)).2) := rfl
theorem bodyS_204 (R : Int32 → Int32 → St → Int32 × St) (t x : Int32) (q : St) : bodyS R t 204 x q = (((R (selOfF selT (parentF 17) 5) x q).1) + 1, (R (selOfF selT (parentF 17) 5) x q).2) := rfl
def runS : Nat → Int32 → Int32 → Int32 → St → Int32 × St
  | 0, _, _, _, q => (0, q)
  | n + 1, t, b, x, q => if b = 0 then (0, q) else bodyS (runS n t) t b x (bgS b q)
def okBl : List Int32 := [0, 10, 11, 20, 21, 30, 40, 41, 50, 51, 52, 60, 61, 62, 63, 64, 70, 100, 101, 110, 111, 112, 120, 130, 131, 140, 141, 142, 150, 151, 152, 160, 161, 162, 163, 180, 181, 190, 200, 201, 202, 204]
def okBI (b : Int32) : Prop := b = 10 ∨ b = 11 ∨ b = 20 ∨ b = 21 ∨ b = 30 ∨ b = 40 ∨ b = 41 ∨ b = 50 ∨ b = 51 ∨ b = 52
theorem okBI_of : ∀ b ∈ okBl, ¬ b = 0 → ¬ 60 ≤ b → okBI b := by unfold okBI; decide +kernel
def okBA (b : Int32) : Prop := b = 60 ∨ b = 61 ∨ b = 62 ∨ b = 63 ∨ b = 64 ∨ b = 70
theorem okBA_of : ∀ b ∈ okBl, ¬ b = 0 → 60 ≤ b → ¬ 100 ≤ b → okBA b := by unfold okBA; decide +kernel
def okBE (b : Int32) : Prop := b = 100 ∨ b = 101 ∨ b = 110 ∨ b = 111 ∨ b = 112 ∨ b = 120 ∨ b = 130 ∨ b = 131 ∨ b = 140 ∨ b = 141 ∨ b = 142
theorem okBE_of : ∀ b ∈ okBl, ¬ b = 0 → 60 ≤ b → 100 ≤ b → ¬ 150 ≤ b → okBE b := by unfold okBE; decide +kernel
def okBL (b : Int32) : Prop := b = 150 ∨ b = 151 ∨ b = 152 ∨ b = 160 ∨ b = 161 ∨ b = 162 ∨ b = 163 ∨ b = 180 ∨ b = 181 ∨ b = 190 ∨ b = 200 ∨ b = 201 ∨ b = 202 ∨ b = 204
theorem okBL_of : ∀ b ∈ okBl, ¬ b = 0 → 60 ≤ b → 100 ≤ b → 150 ≤ b → okBL b := by unfold okBL; decide +kernel
theorem okB_tab : ∀ j, j < 216 → selT j ∈ okBl := by decide +kernel
theorem okB_sel (t a : Int32) : selOfF selT t a ∈ okBl := by
  unfold selOfF
  by_cases h1 : isTypeF t = 0
  · rw [if_pos h1]; decide +kernel
  · rw [if_neg h1]
    by_cases h2 : isActF a = 0
    · rw [if_pos h2]; decide +kernel
    · rw [if_neg h2]
      exact okB_tab _ (Nat.not_le.mp fun q => in_ta (isTypeF_in h1) (isActF_in h2) (Or.inr q))
theorem okB_52 : (52 : Int32) ∈ okBl := by decide +kernel
theorem okB_63 : (63 : Int32) ∈ okBl := by decide +kernel
theorem okB_112 : (112 : Int32) ∈ okBl := by decide +kernel
theorem okB_162 : (162 : Int32) ∈ okBl := by decide +kernel
theorem okB_200 : (200 : Int32) ∈ okBl := by decide +kernel
def dW (G : hG) (ad : Nat → Nat) (ct : Nat → Option va_E) (k : Nat) (t : Int32) (r : Nat → Value) (q : St) : Prop :=
  ct k = some (.inr (0, [.ref (ad 1), .ref (ad 2), .int t, .int q.1, .int q.2.1, r 5, r 6, r 7, r 8, r 9, r 10, r 11])) ∧ ct 2 = some (.inr (3, [.ref (ad 3), .int q.2.2.1])) ∧ ct 3 = some (.inl (G.2.1.1, 64, .inl q.2.2.2))
end
section
set_option maxRecDepth 100000 in
set_option maxHeartbeats 4000000 in
theorem c_X3_begin (l : Launch) (G : hG) (ad : Nat → Nat) (ct : Nat → Option va_E) {b : Int32} {f : Nat → Int32} (h2 : ct 2 = some (.inr (3, [.ref (ad 3), .int b]))) (h3 : ct 3 = some (.inl (G.2.1.1, 64, .inl f))) (x : Int32)  : Met l yX3_begin wzX3_begin { frames := 0, cells := 0, slots := 0, locals := 0 } (hPw [.ref (ad 2), .int x] G ad ct) (hQv (fun ct1 => ct1 2 = some (.inr (3, [.ref (ad 3), .int (b + 1)])) ∧ ct1 3 = some (.inl (G.2.1.1, 64, .inl (bgF b f x))) ∧ ∀ j, j ≠ 2 → j ≠ 3 → ct1 j = ct j) G ad) 0 0 (hA G.2.2.2) := by
  refine hMetw (by decide) (Nat.le_of_ble_eq_true rfl) (fun p e s m below meth c ls S hr hlk hE hW hl => ?_)
  obtain ⟨hx, hb, hml, hown, hts⟩ := id S
  have hS : va_S (hA G.2.2.2) s.heap s.heap [] := va_S.rf
  have hl : lv_has ls 2 [(0, .ref (ad 2)), (1, .int x)] := hl
  refine lv_aload_n hx hb dX3_begin_0 rfl (lv_at hl 0 rfl) ?_
  refine hr_get S hE hW h2 inX3 (C := RX3) (T := TX3) (N := 2) rfl 1 (by decide) q_f_3_15 rfl dX3_begin_1 ?_
  refine lv_if_lt (tgt := 29) hx hb dX3_begin_4 (by decide) (fun c_4 => ?_) (fun c_4 => ?_)
  · refine lv_aload_n hx hb dX3_begin_29 rfl (lv_at hl 0 rfl) ?_
    refine lv_dup hx hb dX3_begin_30 rfl ?_
    refine hr_get S hE hW h2 inX3 (C := RX3) (T := TX3) (N := 2) rfl 1 (by decide) q_f_3_15 rfl dX3_begin_31 ?_
    refine lv_iconst (v := 1) hx hb dX3_begin_34 (by decide) ?_
    refine lv_iadd hx hb dX3_begin_35 ?_
    refine hr_put S hE hW hS h2 inX3 (C := RX3) (T := TX3) (N := 2) tyX3_ok nmX3 rfl 1 (by decide) q_f_3_15 rfl rfl rfl (Nat.le_of_ble_eq_true rfl) dX3_begin_36 (fun H locs ct_1 hW hk_2 hg_3 hz hS => ?_)
    have h_4 := (hg_3 3 (by decide)).trans h3
    have h_5 : ct_1 2 = some (.inr (3, [.ref (ad 3), .int (b + 1)])) := hk_2
    exact h_vret S hr hlk hS hW dX3_begin_39 ⟨h_5, (by rw [h_4]; simp [bgF, c_4]), (fun j q0 q1 => hg_3 j q0)⟩
  · refine lv_aload_n hx hb dX3_begin_7 rfl (lv_at hl 0 rfl) ?_
    refine hr_get S hE hW h2 inX3 (C := RX3) (T := TX3) (N := 2) rfl 1 (by decide) q_f_3_15 rfl dX3_begin_8 ?_
    refine lv_aload_n hx hb dX3_begin_11 rfl (lv_at hl 0 rfl) ?_
    refine hr_get S hE hW h2 inX3 (C := RX3) (T := TX3) (N := 2) rfl 0 (by decide) q_f_3_11 rfl dX3_begin_12 ?_
    refine hr_alen S hE hW h3 0 rfl (v := 64) rfl dX3_begin_15 ?_
    refine lv_icmp_ge (tgt := 29) hx hb dX3_begin_16 (by decide) (fun c_16 => ?_) (fun c_16 => ?_)
    · refine lv_aload_n hx hb dX3_begin_29 rfl (lv_at hl 0 rfl) ?_
      refine lv_dup hx hb dX3_begin_30 rfl ?_
      refine hr_get S hE hW h2 inX3 (C := RX3) (T := TX3) (N := 2) rfl 1 (by decide) q_f_3_15 rfl dX3_begin_31 ?_
      refine lv_iconst (v := 1) hx hb dX3_begin_34 (by decide) ?_
      refine lv_iadd hx hb dX3_begin_35 ?_
      refine hr_put S hE hW hS h2 inX3 (C := RX3) (T := TX3) (N := 2) tyX3_ok nmX3 rfl 1 (by decide) q_f_3_15 rfl rfl rfl (Nat.le_of_ble_eq_true rfl) dX3_begin_36 (fun H locs ct_6 hW hk_7 hg_8 hz hS => ?_)
      have h_9 := (hg_8 3 (by decide)).trans h3
      have h_10 : ct_6 2 = some (.inr (3, [.ref (ad 3), .int (b + 1)])) := hk_7
      exact h_vret S hr hlk hS hW dX3_begin_39 ⟨h_10, (by rw [h_9]; simp [bgF, c_4, c_16]), (fun j q0 q1 => hg_8 j q0)⟩
    · refine lv_aload_n hx hb dX3_begin_19 rfl (lv_at hl 0 rfl) ?_
      refine hr_get S hE hW h2 inX3 (C := RX3) (T := TX3) (N := 2) rfl 0 (by decide) q_f_3_11 rfl dX3_begin_20 ?_
      refine lv_aload_n hx hb dX3_begin_23 rfl (lv_at hl 0 rfl) ?_
      refine hr_get S hE hW h2 inX3 (C := RX3) (T := TX3) (N := 2) rfl 1 (by decide) q_f_3_15 rfl dX3_begin_24 ?_
      refine lv_iload_n hx hb dX3_begin_27 rfl (lv_at hl 1 rfl) ?_
      refine hr_iast S hE hW hS h3 (by exact in_lt (N := 64) (by omega) rfl c_4 c_16) dX3_begin_28 (fun H locs ct_11 hW hk_12 hg_13 hz hS => ?_)
      have h_14 := (hg_13 2 (by decide)).trans h2
      have h_15 : ct_11 3 = some (.inl (G.2.1.1, 64, .inl (upd f (b).toNatClampNeg x))) := hk_12
      refine lv_aload_n hx hb dX3_begin_29 rfl (lv_at hl 0 rfl) ?_
      refine lv_dup hx hb dX3_begin_30 rfl ?_
      refine hr_get S hE hW h_14 inX3 (C := RX3) (T := TX3) (N := 2) rfl 1 (by decide) q_f_3_15 rfl dX3_begin_31 ?_
      refine lv_iconst (v := 1) hx hb dX3_begin_34 (by decide) ?_
      refine lv_iadd hx hb dX3_begin_35 ?_
      refine hr_put S hE hW hS h_14 inX3 (C := RX3) (T := TX3) (N := 2) tyX3_ok nmX3 rfl 1 (by decide) q_f_3_15 rfl rfl rfl (Nat.le_of_ble_eq_true rfl) dX3_begin_36 (fun H locs ct_16 hW hk_17 hg_18 hz hS => ?_)
      have h_19 := (hg_18 3 (by decide)).trans h_15
      have h_20 : ct_16 2 = some (.inr (3, [.ref (ad 3), .int (b + 1)])) := hk_17
      exact h_vret S hr hlk hS hW dX3_begin_39 ⟨h_20, (by rw [h_19]; simp [bgF, c_4, c_16]), (fun j q0 q1 => (hg_18 j q0).trans (hg_13 j q1))⟩
set_option maxRecDepth 100000 in
set_option maxHeartbeats 4000000 in
theorem c_X3_clear (l : Launch) (G : hG) (ad : Nat → Nat) (ct : Nat → Option va_E) {b : Int32} (h2 : ct 2 = some (.inr (3, [.ref (ad 3), .int b])))  : Met l yX3_clear wzX3_clear { frames := 0, cells := 0, slots := 0, locals := 0 } (hPw [.ref (ad 2)] G ad ct) (hQv (fun ct1 => ct1 2 = some (.inr (3, [.ref (ad 3), .int 0])) ∧ ∀ j, j ≠ 2 → ct1 j = ct j) G ad) 0 0 (hA G.2.2.2) := by
  refine hMetw (by decide) (Nat.le_of_ble_eq_true rfl) (fun p e s m below meth c ls S hr hlk hE hW hl => ?_)
  obtain ⟨hx, hb, hml, hown, hts⟩ := id S
  have hS : va_S (hA G.2.2.2) s.heap s.heap [] := va_S.rf
  have hl : lv_has ls 1 [(0, .ref (ad 2))] := hl
  refine lv_aload_n hx hb dX3_clear_0 rfl (lv_at hl 0 rfl) ?_
  refine lv_iconst (v := 0) hx hb dX3_clear_1 (by decide) ?_
  refine hr_put S hE hW hS h2 inX3 (C := RX3) (T := TX3) (N := 2) tyX3_ok nmX3 rfl 1 (by decide) q_f_3_15 rfl rfl rfl (Nat.le_of_ble_eq_true rfl) dX3_clear_2 (fun H locs ct_1 hW hk_2 hg_3 hz hS => ?_)
  have h_4 : ct_1 2 = some (.inr (3, [.ref (ad 3), .int 0])) := hk_2
  exact h_vret S hr hlk hS hW dX3_clear_5 ⟨h_4, (fun j q0 => hg_3 j q0)⟩
def keptF (b : Int32) (f : Nat → Int32) (i : Int32) : Int32 := if i < 0 then -1 else if b ≤ i then -1 else if 64 ≤ i then -1 else f i.toNatClampNeg
set_option maxRecDepth 100000 in
set_option maxHeartbeats 4000000 in
theorem c_X3_keptAt (l : Launch) (G : hG) (H : Heap) {ad : Nat → Nat} {ct : Nat → Option va_E} (hW : hw G ad ct H) {b : Int32} {f : Nat → Int32} (h2 : ct 2 = some (.inr (3, [.ref (ad 3), .int b]))) (h3 : ct 3 = some (.inl (G.2.1.1, 64, .inl f))) (i : Int32)  : Met l yX3_keptAt wzX3_keptAt { frames := 0, cells := 0, slots := 0, locals := 0 } (hPr [.ref (ad 2), .int i] G H) (hQr (keptF b f i) H G.2.2.2) 0 0 (hA G.2.2.2) := by
  refine hMetr (Qc := fun H => hQr (keptF b f i) H G.2.2.2) (by decide) (Nat.le_of_ble_eq_true rfl) (fun p e s m below meth c ls S hr hlk hE hH hl => ?_)
  subst hH
  obtain ⟨hx, hb, hml, hown, hts⟩ := id S
  have hS : va_S (hA G.2.2.2) s.heap s.heap [] := va_S.rf
  have hl : lv_has ls 2 [(0, .ref (ad 2)), (1, .int i)] := hl
  refine lv_iload_n hx hb dX3_keptAt_0 rfl (lv_at hl 1 rfl) ?_
  refine lv_if_lt (tgt := 30) hx hb dX3_keptAt_1 (by decide) (fun c_1 => ?_) (fun c_1 => ?_)
  · refine lv_iconst (v := (-1)) hx hb dX3_keptAt_30 (by decide) ?_
    exact h_rret S hr hlk hS dX3_keptAt_31 (by simp [keptF, c_1])
  · refine lv_iload_n hx hb dX3_keptAt_4 rfl (lv_at hl 1 rfl) ?_
    refine lv_aload_n hx hb dX3_keptAt_5 rfl (lv_at hl 0 rfl) ?_
    refine hr_get S hE hW h2 inX3 (C := RX3) (T := TX3) (N := 2) rfl 1 (by decide) q_f_3_15 rfl dX3_keptAt_6 ?_
    refine lv_icmp_ge (tgt := 30) hx hb dX3_keptAt_9 (by decide) (fun c_9 => ?_) (fun c_9 => ?_)
    · refine lv_iconst (v := (-1)) hx hb dX3_keptAt_30 (by decide) ?_
      exact h_rret S hr hlk hS dX3_keptAt_31 (by simp [keptF, c_1, c_9])
    · refine lv_iload_n hx hb dX3_keptAt_12 rfl (lv_at hl 1 rfl) ?_
      refine lv_aload_n hx hb dX3_keptAt_13 rfl (lv_at hl 0 rfl) ?_
      refine hr_get S hE hW h2 inX3 (C := RX3) (T := TX3) (N := 2) rfl 0 (by decide) q_f_3_11 rfl dX3_keptAt_14 ?_
      refine hr_alen S hE hW h3 0 rfl (v := 64) rfl dX3_keptAt_17 ?_
      refine lv_icmp_ge (tgt := 30) hx hb dX3_keptAt_18 (by decide) (fun c_18 => ?_) (fun c_18 => ?_)
      · refine lv_iconst (v := (-1)) hx hb dX3_keptAt_30 (by decide) ?_
        exact h_rret S hr hlk hS dX3_keptAt_31 (by simp [keptF, c_1, c_9, c_18])
      · refine lv_aload_n hx hb dX3_keptAt_21 rfl (lv_at hl 0 rfl) ?_
        refine hr_get S hE hW h2 inX3 (C := RX3) (T := TX3) (N := 2) rfl 0 (by decide) q_f_3_11 rfl dX3_keptAt_22 ?_
        refine lv_iload_n hx hb dX3_keptAt_25 rfl (lv_at hl 1 rfl) ?_
        refine hr_iald S hE hW h3 (in_lt (N := 64) (by omega) rfl c_1 c_18) dX3_keptAt_26 ?_
        refine lv_goto (tgt := 31) hx hb dX3_keptAt_27 (by decide) ?_
        exact h_rret S hr hlk hS dX3_keptAt_31 (by simp [keptF, c_1, c_9, c_18])
set_option maxRecDepth 100000 in
set_option maxHeartbeats 4000000 in
theorem c_X0_bears (l : Launch) (G : hG) (H : Heap) {ad : Nat → Nat} {ct : Nat → Option va_E} (hW : hw G ad ct H) {k : Nat} {t v c0 : Int32} {r : Nat → Value} (hk : ct k = some (.inr (0, [.ref (ad 1), .ref (ad 2), .int t, .int v, .int c0, r 5, r 6, r 7, r 8, r 9, r 10, r 11]))) (h1 : ct 1 = some (.inr (1, [.ref (ad 4), .ref (ad 5)]))) (h4 : ct 4 = some (.inl (G.2.1.1, 18, .inl borT))) (w : Int32)  : Met l yX0_bears wzX0_bears { frames := 2, cells := 0, slots := 0, locals := 43 } (hPr [.ref (ad k), .int w] G H) (hQr (bearsF borT t w) H G.2.2.2) 0 0 (hA G.2.2.2) := by
  refine hMetr (Qc := fun H => hQr (bearsF borT t w) H G.2.2.2) (by decide) (Nat.le_of_ble_eq_true rfl) (fun p e s m below meth c ls S hr hlk hE hH hl => ?_)
  subst hH
  obtain ⟨hx, hb, hml, hown, hts⟩ := id S
  have hS : va_S (hA G.2.2.2) s.heap s.heap [] := va_S.rf
  have hl : lv_has ls 2 [(0, .ref (ad k)), (1, .int w)] := hl
  refine lv_aload_n hx hb dX0_bears_0 rfl (lv_at hl 0 rfl) ?_
  refine hr_get S hE hW hk inX0 (C := RX0) (T := TX0) (N := 12) rfl 0 (by decide) q_f_0_9 rfl dX0_bears_1 ?_
  refine lv_aload_n hx hb dX0_bears_4 rfl (lv_at hl 0 rfl) ?_
  refine hr_get S hE hW hk inX0 (C := RX0) (T := TX0) (N := 12) rfl 2 (by decide) q_f_0_19 rfl dX0_bears_5 ?_
  refine lv_iload_n hx hb dX0_bears_8 rfl (lv_at hl 1 rfl) ?_
  refine hc_r (va_runVN (As := [.int t, .int w]) (rest := []) S (c_X1_bears l G _ hW h1 h4 t w) ⟨va_cnB 2 hts (gWS q_co_X1_bears) rfl rfl rfl (hE.nest 13 rfl) (hts _ q_in_1) (by decide +kernel) ⟨Nat.le_of_ble_eq_true rfl, Nat.le_of_ble_eq_true rfl⟩, hts _ q_im_X1_bears, hts _ q_se_X1_bears⟩ (hPreVr hE hS (hrecv hE hW h1 (q := (RX1, TX1, 2)) rfl)) rfl rfl hl.1 rfl (lv_room (Nat.le_of_ble_eq_true rfl)) dX0_bears_9 ⟨Nat.le_of_ble_eq_true rfl, Nat.le_of_ble_eq_true rfl⟩) hS (fun locs hS => ?_)
  exact h_rzret S hr hlk hS dX0_bears_12 (bearsF_b borT t w) rfl
def devHasF (t w a : Int32) : Int32 := if w = 0 then khaL borT t a 6 1 else hasActF w a
theorem devHasF_b (t w a : Int32) : devHasF t w a = 0 ∨ devHasF t w a = 1 := by unfold devHasF; split; exact khaL_b _ _ _ _ _; exact hasActF_b _ _
set_option maxRecDepth 100000 in
set_option maxHeartbeats 4000000 in
theorem c_X0_hasAct (l : Launch) (G : hG) (H : Heap) {ad : Nat → Nat} {ct : Nat → Option va_E} (hW : hw G ad ct H) {k : Nat} {t v c0 : Int32} {r : Nat → Value} (hk : ct k = some (.inr (0, [.ref (ad 1), .ref (ad 2), .int t, .int v, .int c0, r 5, r 6, r 7, r 8, r 9, r 10, r 11]))) (h1 : ct 1 = some (.inr (1, [.ref (ad 4), .ref (ad 5)]))) (h4 : ct 4 = some (.inl (G.2.1.1, 18, .inl borT))) (w a : Int32)  : Met l yX0_hasAct wzX0_hasAct { frames := 3, cells := 0, slots := 0, locals := 66 } (hPr [.ref (ad k), .int w, .int a] G H) (hQr (devHasF t w a) H G.2.2.2) 0 0 (hA G.2.2.2) := by
  refine hMetr (Qc := fun H => hQr (devHasF t w a) H G.2.2.2) (by decide) (Nat.le_of_ble_eq_true rfl) (fun p e s m below meth c ls S hr hlk hE hH hl => ?_)
  subst hH
  obtain ⟨hx, hb, hml, hown, hts⟩ := id S
  have hS : va_S (hA G.2.2.2) s.heap s.heap [] := va_S.rf
  have hl : lv_has ls 3 [(0, .ref (ad k)), (1, .int w), (2, .int a)] := hl
  refine lv_iload_n hx hb dX0_hasAct_0 rfl (lv_at hl 1 rfl) ?_
  refine lv_if_ne (tgt := 19) hx hb dX0_hasAct_1 (by decide) (fun c_1 => ?_) (fun c_1 => ?_)
  · refine lv_aload_n hx hb dX0_hasAct_19 rfl (lv_at hl 0 rfl) ?_
    refine hr_get S hE hW hk inX0 (C := RX0) (T := TX0) (N := 12) rfl 0 (by decide) q_f_0_9 rfl dX0_hasAct_20 ?_
    refine lv_iload_n hx hb dX0_hasAct_23 rfl (lv_at hl 1 rfl) ?_
    refine lv_iload_n hx hb dX0_hasAct_24 rfl (lv_at hl 2 rfl) ?_
    refine hc_r (va_runVN (As := [.int w, .int a]) (rest := []) S (c_X1_hasAct l G _ hW h1 w a) ⟨va_cnB 2 hts (gWS q_co_X1_hasAct) rfl rfl rfl (hE.nest 17 rfl) (hts _ q_in_1) (by decide +kernel) ⟨Nat.le_of_ble_eq_true rfl, Nat.le_of_ble_eq_true rfl⟩, hts _ q_im_X1_hasAct, hts _ q_se_X1_hasAct⟩ (hPreVr hE hS (hrecv hE hW h1 (q := (RX1, TX1, 2)) rfl)) rfl rfl hl.1 rfl (lv_room (Nat.le_of_ble_eq_true rfl)) dX0_hasAct_25 ⟨Nat.le_of_ble_eq_true rfl, Nat.le_of_ble_eq_true rfl⟩) hS (fun locs hS => ?_)
    exact h_rzret S hr hlk hS dX0_hasAct_28 (devHasF_b t w a) (by simp [devHasF, c_1])
  · refine lv_aload_n hx hb dX0_hasAct_4 rfl (lv_at hl 0 rfl) ?_
    refine hr_get S hE hW hk inX0 (C := RX0) (T := TX0) (N := 12) rfl 0 (by decide) q_f_0_9 rfl dX0_hasAct_5 ?_
    refine lv_aload_n hx hb dX0_hasAct_8 rfl (lv_at hl 0 rfl) ?_
    refine hr_get S hE hW hk inX0 (C := RX0) (T := TX0) (N := 12) rfl 2 (by decide) q_f_0_19 rfl dX0_hasAct_9 ?_
    refine lv_iload_n hx hb dX0_hasAct_12 rfl (lv_at hl 2 rfl) ?_
    refine hc_r (va_runVN (As := [.int t, .int a]) (rest := []) S (c_X1_kindHasAct l G _ hW h1 h4 t a) ⟨va_cnB 2 hts (gWS q_co_X1_kindHasAct) rfl rfl rfl (hE.nest 16 rfl) (hts _ q_in_1) (by decide +kernel) ⟨Nat.le_of_ble_eq_true rfl, Nat.le_of_ble_eq_true rfl⟩, hts _ q_im_X1_kindHasAct, hts _ q_se_X1_kindHasAct⟩ (hPreVr hE hS (hrecv hE hW h1 (q := (RX1, TX1, 2)) rfl)) rfl rfl hl.1 rfl (lv_room (Nat.le_of_ble_eq_true rfl)) dX0_hasAct_13 ⟨Nat.le_of_ble_eq_true rfl, Nat.le_of_ble_eq_true rfl⟩) hS (fun locs hS => ?_)
    refine lv_goto (tgt := 28) hx hb dX0_hasAct_16 (by decide) ?_
    exact h_rzret S hr hlk hS dX0_hasAct_28 (devHasF_b t w a) (by simp [devHasF, c_1])
def takActF (t : Int32) : Int32 := if bearsF borT t 3 = 0 then (if bearsF borT t 2 = 0 then 6 else 1) else 4
set_option maxRecDepth 100000 in
set_option maxHeartbeats 4000000 in
theorem c_X0_takingAct (l : Launch) (G : hG) (H : Heap) {ad : Nat → Nat} {ct : Nat → Option va_E} (hW : hw G ad ct H) {k : Nat} {t v c0 : Int32} {r : Nat → Value} (hk : ct k = some (.inr (0, [.ref (ad 1), .ref (ad 2), .int t, .int v, .int c0, r 5, r 6, r 7, r 8, r 9, r 10, r 11]))) (h1 : ct 1 = some (.inr (1, [.ref (ad 4), .ref (ad 5)]))) (h4 : ct 4 = some (.inl (G.2.1.1, 18, .inl borT)))  : Met l yX0_takingAct wzX0_takingAct { frames := 3, cells := 0, slots := 0, locals := 64 } (hPr [.ref (ad k)] G H) (hQr (takActF t) H G.2.2.2) 0 0 (hA G.2.2.2) := by
  refine hMetr (Qc := fun H => hQr (takActF t) H G.2.2.2) (by decide) (Nat.le_of_ble_eq_true rfl) (fun p e s m below meth c ls S hr hlk hE hH hl => ?_)
  subst hH
  obtain ⟨hx, hb, hml, hown, hts⟩ := id S
  have hS : va_S (hA G.2.2.2) s.heap s.heap [] := va_S.rf
  have hl : lv_has ls 1 [(0, .ref (ad k))] := hl
  refine lv_aload_n hx hb dX0_takingAct_0 rfl (lv_at hl 0 rfl) ?_
  refine lv_iconst (v := 3) hx hb dX0_takingAct_1 (by decide) ?_
  refine hc_r (va_runV (As := [.int 3]) (rest := []) S (c_X0_bears l G _ hW hk h1 h4 3) (cwV 1 hts (gWSV q_l_0_76 q_im_X0_bears q_se_X0_bears q_in_0 q_co_X0_bears) rfl rfl rfl (by decide +kernel) ⟨Nat.le_of_ble_eq_true rfl, Nat.le_of_ble_eq_true rfl⟩) (hPreVr hE hS (hrecv hE hW hk (q := (RX0, TX0, 12)) rfl)) rfl rfl hl.1 rfl (lv_room (Nat.le_of_ble_eq_true rfl)) dX0_takingAct_2 ⟨Nat.le_of_ble_eq_true rfl, Nat.le_of_ble_eq_true rfl⟩) hS (fun locs hS => ?_)
  refine lv_if_eq (tgt := 10) hx hb dX0_takingAct_5 (by decide) (fun c_5 => ?_) (fun c_5 => ?_)
  · refine lv_aload_n hx hb dX0_takingAct_10 rfl (lv_at hl 0 rfl) ?_
    refine lv_iconst (v := 2) hx hb dX0_takingAct_11 (by decide) ?_
    refine hc_r (va_runV (As := [.int 2]) (rest := []) S (c_X0_bears l G _ hW hk h1 h4 2) (cwV 1 hts (gWSV q_l_0_76 q_im_X0_bears q_se_X0_bears q_in_0 q_co_X0_bears) rfl rfl rfl (by decide +kernel) ⟨Nat.le_of_ble_eq_true rfl, Nat.le_of_ble_eq_true rfl⟩) (hPreVr hE hS (hrecv hE hW hk (q := (RX0, TX0, 12)) rfl)) rfl rfl hl.1 rfl (lv_room (Nat.le_of_ble_eq_true rfl)) dX0_takingAct_12 ⟨Nat.le_of_ble_eq_true rfl, Nat.le_of_ble_eq_true rfl⟩) hS (fun locs hS => ?_)
    refine lv_if_eq (tgt := 22) hx hb dX0_takingAct_15 (by decide) (fun c_15 => ?_) (fun c_15 => ?_)
    · refine lv_bipush (v := 6) hx hb dX0_takingAct_22 (by decide) ?_
      exact h_rret S hr hlk hS dX0_takingAct_24 (by simp [takActF, c_5, c_15])
    · refine lv_iconst (v := 1) hx hb dX0_takingAct_18 (by decide) ?_
      refine lv_goto (tgt := 24) hx hb dX0_takingAct_19 (by decide) ?_
      exact h_rret S hr hlk hS dX0_takingAct_24 (by simp [takActF, c_5, c_15])
  · refine lv_iconst (v := 4) hx hb dX0_takingAct_8 (by decide) ?_
    exact h_rret S hr hlk hS dX0_takingAct_9 (by simp [takActF, c_5])
/-- the contract of run, at n levels left -/
def RunC (l : Launch) (G : hG) (n : Nat) : Prop := ∀ (ad : Nat → Nat) (ct : Nat → Option va_E) (k : Nat) (t : Int32) (r : Nat → Value) (q : St) (b x : Int32) (d : Nat), 100 ≤ k → b ∈ okBl → d + n = 40 → ct 1 = some (.inr (1, [.ref (ad 4), .ref (ad 5)])) → ct 5 = some (.inl (G.2.1.1, 216, .inl selT)) → dW G ad ct k t r q →
  Met l yX0_run wzX0_run { frames := 3 * n + 2, cells := 0, slots := 0, locals := 70 * n + 20 } (hPw [.ref (ad k), .int b, .int x, .int (nI d)] G ad ct) (hQi (fun rr ct1 => rr = (runS n t b x q).1 ∧ dW G ad ct1 k t r (runS n t b x q).2 ∧ ∀ j, j ≠ k → j ≠ 2 → j ≠ 3 → ct1 j = ct j) G ad) 0 0 (hA G.2.2.2)
set_option maxRecDepth 100000 in
set_option maxHeartbeats 4000000 in
theorem c_X0_act (l : Launch) (G : hG) (ad : Nat → Nat) (ct : Nat → Option va_E) (n : Nat) (ih : RunC l G n) {k : Nat} {t : Int32} {r : Nat → Value} {q : St} (hk100 : 100 ≤ k) (h1 : ct 1 = some (.inr (1, [.ref (ad 4), .ref (ad 5)]))) (h5 : ct 5 = some (.inl (G.2.1.1, 216, .inl selT))) (hd : dW G ad ct k t r q) (d : Nat) (hdn : d + n = 40) (a x : Int32)  : Met l yX0_act wzX0_act { frames := 3 * n + 3, cells := 0, slots := 0, locals := 70 * n + 43 } (hPw [.ref (ad k), .int a, .int x, .int (nI d)] G ad ct) (hQi (fun rr ct1 => rr = (runS n t (selOfF selT t a) x q).1 ∧ dW G ad ct1 k t r (runS n t (selOfF selT t a) x q).2 ∧ ∀ j, j ≠ k → j ≠ 2 → j ≠ 3 → ct1 j = ct j) G ad) 0 0 (hA G.2.2.2) := by
  refine hMetw (by decide) (Nat.le_of_ble_eq_true rfl) (fun p e s m below meth c ls S hr hlk hE hW hl => ?_)
  obtain ⟨hx, hb, hml, hown, hts⟩ := id S
  have hS : va_S (hA G.2.2.2) s.heap s.heap [] := va_S.rf
  have hl : lv_has ls 4 [(0, .ref (ad k)), (1, .int a), (2, .int x), (3, .int (nI d))] := hl
  obtain ⟨hk, h2, h3⟩ := hd
  refine lv_aload_n hx hb dX0_act_0 rfl (lv_at hl 0 rfl) ?_
  refine lv_aload_n hx hb dX0_act_1 rfl (lv_at hl 0 rfl) ?_
  refine hr_get S hE hW hk inX0 (C := RX0) (T := TX0) (N := 12) rfl 0 (by decide) q_f_0_9 rfl dX0_act_2 ?_
  refine lv_aload_n hx hb dX0_act_5 rfl (lv_at hl 0 rfl) ?_
  refine hr_get S hE hW hk inX0 (C := RX0) (T := TX0) (N := 12) rfl 2 (by decide) q_f_0_19 rfl dX0_act_6 ?_
  refine lv_iload_n hx hb dX0_act_9 rfl (lv_at hl 1 rfl) ?_
  refine hc_r (va_runVN (As := [.int t, .int a]) (rest := [.ref (ad k)]) S (c_X1_selectedOf l G _ hW h1 h5 t a) ⟨va_cnB 2 hts (gWS q_co_X1_selectedOf) rfl rfl rfl (hE.nest 20 rfl) (hts _ q_in_1) (by decide +kernel) ⟨by dsimp only; omega, by dsimp only; omega⟩, hts _ q_im_X1_selectedOf, hts _ q_se_X1_selectedOf⟩ (hPreVr hE hS (hrecv hE hW h1 (q := (RX1, TX1, 2)) rfl)) rfl rfl hl.1 rfl (lv_room (Nat.le_of_ble_eq_true rfl)) dX0_act_10 ⟨Nat.le_of_ble_eq_true rfl, Nat.le_of_ble_eq_true rfl⟩) hS (fun locs hS => ?_)
  refine lv_iload_n hx hb dX0_act_13 rfl (lv_at hl 2 rfl) ?_
  refine lv_iload_n hx hb dX0_act_14 rfl (lv_at hl 3 rfl) ?_
  refine hc_i (va_runV (As := [.int (selOfF selT t a), .int x, .int (nI d)]) (rest := []) S (ih ad _ k t r q (selOfF selT t a) x d hk100 (okB_sel _ _) hdn h1 h5 ⟨hk, h2, h3⟩) (cwV 3 hts (gWSV q_l_0_83 q_im_X0_run q_se_X0_run q_in_0 q_co_X0_run) rfl rfl rfl (by decide +kernel) ⟨by dsimp only; omega, by dsimp only; omega⟩) (hPreVw hE hS (hrecv hE hW hk (q := (RX0, TX0, 12)) rfl) hW) rfl rfl hl.1 rfl (lv_room (Nat.le_of_ble_eq_true rfl)) dX0_act_15 ⟨Nat.le_of_ble_eq_true rfl, Nat.le_of_ble_eq_true rfl⟩) hS (fun rv_7 ct_1 H locs hp hW hS => ?_)
  obtain ⟨ev_6, ⟨h_2, h_3, h_4⟩, hg_5⟩ := hp
  subst ev_6
  have h_8 := (hg_5 1 (by omega) (by decide) (by decide)).trans h1
  have h_9 := (hg_5 5 (by omega) (by decide) (by decide)).trans h5
  exact h_iret S hr hlk hS hW dX0_act_18 ⟨rfl, ⟨h_2, h_3, h_4⟩, (fun j q0 q1 q2 => hg_5 j q0 q1 q2)⟩
set_option maxRecDepth 100000 in
set_option maxHeartbeats 4000000 in
theorem c_X0_parentAct (l : Launch) (G : hG) (ad : Nat → Nat) (ct : Nat → Option va_E) (n : Nat) (ih : RunC l G n) {k : Nat} {t : Int32} {r : Nat → Value} {q : St} (hk100 : 100 ≤ k) (h1 : ct 1 = some (.inr (1, [.ref (ad 4), .ref (ad 5)]))) (h5 : ct 5 = some (.inl (G.2.1.1, 216, .inl selT))) (hd : dW G ad ct k t r q) (d : Nat) (hdn : d + n = 40) (cl a x : Int32)  : Met l yX0_parentAct wzX0_parentAct { frames := 3 * n + 3, cells := 0, slots := 0, locals := 70 * n + 43 } (hPw [.ref (ad k), .int cl, .int a, .int x, .int (nI d)] G ad ct) (hQi (fun rr ct1 => rr = (runS n t (selOfF selT (parentF cl) a) x q).1 ∧ dW G ad ct1 k t r (runS n t (selOfF selT (parentF cl) a) x q).2 ∧ ∀ j, j ≠ k → j ≠ 2 → j ≠ 3 → ct1 j = ct j) G ad) 0 0 (hA G.2.2.2) := by
  refine hMetw (by decide) (Nat.le_of_ble_eq_true rfl) (fun p e s m below meth c ls S hr hlk hE hW hl => ?_)
  obtain ⟨hx, hb, hml, hown, hts⟩ := id S
  have hS : va_S (hA G.2.2.2) s.heap s.heap [] := va_S.rf
  have hl : lv_has ls 5 [(0, .ref (ad k)), (1, .int cl), (2, .int a), (3, .int x), (4, .int (nI d))] := hl
  obtain ⟨hk, h2, h3⟩ := hd
  refine lv_aload_n hx hb dX0_parentAct_0 rfl (lv_at hl 0 rfl) ?_
  refine lv_aload_n hx hb dX0_parentAct_1 rfl (lv_at hl 0 rfl) ?_
  refine hr_get S hE hW hk inX0 (C := RX0) (T := TX0) (N := 12) rfl 0 (by decide) q_f_0_9 rfl dX0_parentAct_2 ?_
  refine lv_iload_n hx hb dX0_parentAct_5 rfl (lv_at hl 1 rfl) ?_
  refine hc_r (va_runSN (As := [.int cl]) (rest := [.ref (ad 1), .ref (ad k)]) S (c_X1_parentOf l G _ cl) ⟨va_cnB 1 hts (gWS q_co_X1_parentOf) rfl rfl rfl (hE.nest 22 rfl) (hts _ q_in_1) (by decide +kernel) ⟨by dsimp only; omega, by dsimp only; omega⟩, hts _ q_st_X1_parentOf, trivial⟩ (hPreSr hE hS) rfl rfl hl.1 rfl (lv_room (Nat.le_of_ble_eq_true rfl)) dX0_parentAct_6 ⟨Nat.le_of_ble_eq_true rfl, Nat.le_of_ble_eq_true rfl⟩) hS (fun locs hS => ?_)
  refine lv_iload_n hx hb dX0_parentAct_9 rfl (lv_at hl 2 rfl) ?_
  refine hc_r (va_runVN (As := [.int (parentF cl), .int a]) (rest := [.ref (ad k)]) S (c_X1_selectedOf l G _ hW h1 h5 (parentF cl) a) ⟨va_cnB 2 hts (gWS q_co_X1_selectedOf) rfl rfl rfl (hE.nest 20 rfl) (hts _ q_in_1) (by decide +kernel) ⟨by dsimp only; omega, by dsimp only; omega⟩, hts _ q_im_X1_selectedOf, hts _ q_se_X1_selectedOf⟩ (hPreVr hE hS (hrecv hE hW h1 (q := (RX1, TX1, 2)) rfl)) rfl rfl hl.1 rfl (lv_room (Nat.le_of_ble_eq_true rfl)) dX0_parentAct_10 ⟨Nat.le_of_ble_eq_true rfl, Nat.le_of_ble_eq_true rfl⟩) hS (fun locs hS => ?_)
  refine lv_iload_n hx hb dX0_parentAct_13 rfl (lv_at hl 3 rfl) ?_
  refine lv_iload hx hb dX0_parentAct_14 (lv_at hl 4 rfl) ?_
  refine hc_i (va_runV (As := [.int (selOfF selT (parentF cl) a), .int x, .int (nI d)]) (rest := []) S (ih ad _ k t r q (selOfF selT (parentF cl) a) x d hk100 (okB_sel _ _) hdn h1 h5 ⟨hk, h2, h3⟩) (cwV 3 hts (gWSV q_l_0_83 q_im_X0_run q_se_X0_run q_in_0 q_co_X0_run) rfl rfl rfl (by decide +kernel) ⟨by dsimp only; omega, by dsimp only; omega⟩) (hPreVw hE hS (hrecv hE hW hk (q := (RX0, TX0, 12)) rfl) hW) rfl rfl hl.1 rfl (lv_room (Nat.le_of_ble_eq_true rfl)) dX0_parentAct_16 ⟨Nat.le_of_ble_eq_true rfl, Nat.le_of_ble_eq_true rfl⟩) hS (fun rv_7 ct_1 H locs hp hW hS => ?_)
  obtain ⟨ev_6, ⟨h_2, h_3, h_4⟩, hg_5⟩ := hp
  subst ev_6
  have h_8 := (hg_5 1 (by omega) (by decide) (by decide)).trans h1
  have h_9 := (hg_5 5 (by omega) (by decide) (by decide)).trans h5
  exact h_iret S hr hlk hS hW dX0_parentAct_19 ⟨rfl, ⟨h_2, h_3, h_4⟩, (fun j q0 q1 q2 => hg_5 j q0 q1 q2)⟩
set_option maxRecDepth 100000 in
set_option maxHeartbeats 4000000 in
theorem c_X0_interfaceAct (l : Launch) (G : hG) (ad : Nat → Nat) (ct : Nat → Option va_E) (n : Nat) (ih : RunC l G n) {k : Nat} {t : Int32} {r : Nat → Value} {q : St} (hk100 : 100 ≤ k) (h1 : ct 1 = some (.inr (1, [.ref (ad 4), .ref (ad 5)]))) (h5 : ct 5 = some (.inl (G.2.1.1, 216, .inl selT))) (hd : dW G ad ct k t r q) (d : Nat) (hdn : d + n = 40) (cl a x : Int32)  : Met l yX0_interfaceAct wzX0_interfaceAct { frames := 3 * n + 3, cells := 0, slots := 0, locals := 70 * n + 43 } (hPw [.ref (ad k), .int cl, .int a, .int x, .int (nI d)] G ad ct) (hQi (fun rr ct1 => rr = (runS n t (selOfF selT cl a) x q).1 ∧ dW G ad ct1 k t r (runS n t (selOfF selT cl a) x q).2 ∧ ∀ j, j ≠ k → j ≠ 2 → j ≠ 3 → ct1 j = ct j) G ad) 0 0 (hA G.2.2.2) := by
  refine hMetw (by decide) (Nat.le_of_ble_eq_true rfl) (fun p e s m below meth c ls S hr hlk hE hW hl => ?_)
  obtain ⟨hx, hb, hml, hown, hts⟩ := id S
  have hS : va_S (hA G.2.2.2) s.heap s.heap [] := va_S.rf
  have hl : lv_has ls 5 [(0, .ref (ad k)), (1, .int cl), (2, .int a), (3, .int x), (4, .int (nI d))] := hl
  obtain ⟨hk, h2, h3⟩ := hd
  refine lv_aload_n hx hb dX0_interfaceAct_0 rfl (lv_at hl 0 rfl) ?_
  refine lv_aload_n hx hb dX0_interfaceAct_1 rfl (lv_at hl 0 rfl) ?_
  refine hr_get S hE hW hk inX0 (C := RX0) (T := TX0) (N := 12) rfl 0 (by decide) q_f_0_9 rfl dX0_interfaceAct_2 ?_
  refine lv_iload_n hx hb dX0_interfaceAct_5 rfl (lv_at hl 1 rfl) ?_
  refine lv_iload_n hx hb dX0_interfaceAct_6 rfl (lv_at hl 2 rfl) ?_
  refine hc_r (va_runVN (As := [.int cl, .int a]) (rest := [.ref (ad k)]) S (c_X1_selectedOf l G _ hW h1 h5 cl a) ⟨va_cnB 2 hts (gWS q_co_X1_selectedOf) rfl rfl rfl (hE.nest 20 rfl) (hts _ q_in_1) (by decide +kernel) ⟨by dsimp only; omega, by dsimp only; omega⟩, hts _ q_im_X1_selectedOf, hts _ q_se_X1_selectedOf⟩ (hPreVr hE hS (hrecv hE hW h1 (q := (RX1, TX1, 2)) rfl)) rfl rfl hl.1 rfl (lv_room (Nat.le_of_ble_eq_true rfl)) dX0_interfaceAct_7 ⟨Nat.le_of_ble_eq_true rfl, Nat.le_of_ble_eq_true rfl⟩) hS (fun locs hS => ?_)
  refine lv_iload_n hx hb dX0_interfaceAct_10 rfl (lv_at hl 3 rfl) ?_
  refine lv_iload hx hb dX0_interfaceAct_11 (lv_at hl 4 rfl) ?_
  refine hc_i (va_runV (As := [.int (selOfF selT cl a), .int x, .int (nI d)]) (rest := []) S (ih ad _ k t r q (selOfF selT cl a) x d hk100 (okB_sel _ _) hdn h1 h5 ⟨hk, h2, h3⟩) (cwV 3 hts (gWSV q_l_0_83 q_im_X0_run q_se_X0_run q_in_0 q_co_X0_run) rfl rfl rfl (by decide +kernel) ⟨by dsimp only; omega, by dsimp only; omega⟩) (hPreVw hE hS (hrecv hE hW hk (q := (RX0, TX0, 12)) rfl) hW) rfl rfl hl.1 rfl (lv_room (Nat.le_of_ble_eq_true rfl)) dX0_interfaceAct_13 ⟨Nat.le_of_ble_eq_true rfl, Nat.le_of_ble_eq_true rfl⟩) hS (fun rv_7 ct_1 H locs hp hW hS => ?_)
  obtain ⟨ev_6, ⟨h_2, h_3, h_4⟩, hg_5⟩ := hp
  subst ev_6
  have h_8 := (hg_5 1 (by omega) (by decide) (by decide)).trans h1
  have h_9 := (hg_5 5 (by omega) (by decide) (by decide)).trans h5
  exact h_iret S hr hlk hS hW dX0_interfaceAct_16 ⟨rfl, ⟨h_2, h_3, h_4⟩, (fun j q0 q1 q2 => hg_5 j q0 q1 q2)⟩
set_option maxRecDepth 100000 in
set_option maxHeartbeats 4000000 in
theorem c_X0_runOfInterface (l : Launch) (G : hG) (ad : Nat → Nat) (ct : Nat → Option va_E) (n : Nat) (ih : RunC l G n) {k : Nat} {t : Int32} {r : Nat → Value} {q : St} (hk100 : 100 ≤ k) (h1 : ct 1 = some (.inr (1, [.ref (ad 4), .ref (ad 5)]))) (h5 : ct 5 = some (.inl (G.2.1.1, 216, .inl selT))) (hd : dW G ad ct k t r q) (d : Nat) (hdn : d + n = 40) (b x : Int32) (hbd : okBI b)  : Met l yX0_runOfInterface wzX0_runOfInterface { frames := 3 * n + 4, cells := 0, slots := 0, locals := 70 * n + 67 } (hPw [.ref (ad k), .int b, .int x, .int (nI d)] G ad ct) (hQi (fun rr ct1 => rr = (bodyS (runS n t) t b x q).1 ∧ dW G ad ct1 k t r (bodyS (runS n t) t b x q).2 ∧ ∀ j, j ≠ k → j ≠ 2 → j ≠ 3 → ct1 j = ct j) G ad) 0 0 (hA G.2.2.2) := by
  refine hMetw (by decide) (Nat.le_of_ble_eq_true rfl) (fun p e s m below meth c ls S hr hlk hE hW hl => ?_)
  obtain ⟨hx, hb, hml, hown, hts⟩ := id S
  have hS : va_S (hA G.2.2.2) s.heap s.heap [] := va_S.rf
  have hl : lv_has ls 4 [(0, .ref (ad k)), (1, .int b), (2, .int x), (3, .int (nI d))] := hl
  obtain ⟨hk, h2, h3⟩ := hd
  refine lv_iload_n hx hb dX0_runOfInterface_0 rfl (lv_at hl 1 rfl) ?_
  unfold okBI at hbd
  rcases hbd with rfl | rfl | rfl | rfl | rfl | rfl | rfl | rfl | rfl | rfl
  · refine lv_lookup (off := 91) (tgt := 92) hx hb dX0_runOfInterface_1 (by decide) (by decide) (by decide) ?_
    refine lv_aload_n hx hb dX0_runOfInterface_92 rfl (lv_at hl 0 rfl) ?_
    refine lv_iconst (v := 0) hx hb dX0_runOfInterface_93 (by decide) ?_
    refine lv_iload_n hx hb dX0_runOfInterface_94 rfl (lv_at hl 2 rfl) ?_
    refine lv_iload_n hx hb dX0_runOfInterface_95 rfl (lv_at hl 3 rfl) ?_
    refine hc_i (va_runV (As := [.int 0, .int x, .int (nI d)]) (rest := []) S (c_X0_act l G ad _ n ih (q := q) hk100 h1 h5 ⟨hk, h2, h3⟩ d hdn 0 x) (cwV 3 hts (gWSV q_l_0_69 q_im_X0_act q_se_X0_act q_in_0 q_co_X0_act) rfl rfl rfl (by decide +kernel) ⟨by dsimp only; omega, by dsimp only; omega⟩) (hPreVw hE hS (hrecv hE hW hk (q := (RX0, TX0, 12)) rfl) hW) rfl rfl hl.1 rfl (lv_room (Nat.le_of_ble_eq_true rfl)) dX0_runOfInterface_96 ⟨Nat.le_of_ble_eq_true rfl, Nat.le_of_ble_eq_true rfl⟩) hS (fun rv_7 ct_1 H locs hp hW hS => ?_)
    obtain ⟨ev_6, ⟨h_2, h_3, h_4⟩, hg_5⟩ := hp
    subst ev_6
    have h_8 := (hg_5 1 (by omega) (by decide) (by decide)).trans h1
    have h_9 := (hg_5 5 (by omega) (by decide) (by decide)).trans h5
    refine lv_iconst (v := 1) hx hb dX0_runOfInterface_99 (by decide) ?_
    refine lv_iadd hx hb dX0_runOfInterface_100 ?_
    exact h_iret S hr hlk hS hW dX0_runOfInterface_101 (by rw [bodyS_10]; exact ⟨rfl, ⟨h_2, h_3, h_4⟩, (fun j q0 q1 q2 => hg_5 j q0 q1 q2)⟩)
  · refine lv_lookup (off := 101) (tgt := 102) hx hb dX0_runOfInterface_1 (by decide) (by decide) (by decide) ?_
    refine lv_aload_n hx hb dX0_runOfInterface_102 rfl (lv_at hl 0 rfl) ?_
    refine lv_iconst (v := 1) hx hb dX0_runOfInterface_103 (by decide) ?_
    refine lv_iload_n hx hb dX0_runOfInterface_104 rfl (lv_at hl 2 rfl) ?_
    refine lv_iload_n hx hb dX0_runOfInterface_105 rfl (lv_at hl 3 rfl) ?_
    refine hc_i (va_runV (As := [.int 1, .int x, .int (nI d)]) (rest := []) S (c_X0_act l G ad _ n ih (q := q) hk100 h1 h5 ⟨hk, h2, h3⟩ d hdn 1 x) (cwV 3 hts (gWSV q_l_0_69 q_im_X0_act q_se_X0_act q_in_0 q_co_X0_act) rfl rfl rfl (by decide +kernel) ⟨by dsimp only; omega, by dsimp only; omega⟩) (hPreVw hE hS (hrecv hE hW hk (q := (RX0, TX0, 12)) rfl) hW) rfl rfl hl.1 rfl (lv_room (Nat.le_of_ble_eq_true rfl)) dX0_runOfInterface_106 ⟨Nat.le_of_ble_eq_true rfl, Nat.le_of_ble_eq_true rfl⟩) hS (fun rv_16 ct_10 H locs hp hW hS => ?_)
    obtain ⟨ev_15, ⟨h_11, h_12, h_13⟩, hg_14⟩ := hp
    subst ev_15
    have h_17 := (hg_14 1 (by omega) (by decide) (by decide)).trans h1
    have h_18 := (hg_14 5 (by omega) (by decide) (by decide)).trans h5
    refine lv_iconst (v := 3) hx hb dX0_runOfInterface_109 (by decide) ?_
    refine lv_imul hx hb dX0_runOfInterface_110 ?_
    refine lv_aload_n hx hb dX0_runOfInterface_111 rfl (lv_at hl 0 rfl) ?_
    refine lv_iconst (v := 0) hx hb dX0_runOfInterface_112 (by decide) ?_
    refine lv_iload_n hx hb dX0_runOfInterface_113 rfl (lv_at hl 2 rfl) ?_
    refine lv_iconst (v := 1) hx hb dX0_runOfInterface_114 (by decide) ?_
    refine lv_iadd hx hb dX0_runOfInterface_115 ?_
    refine lv_iload_n hx hb dX0_runOfInterface_116 rfl (lv_at hl 3 rfl) ?_
    refine hc_i (va_runV (As := [.int 0, .int (x + 1), .int (nI d)]) (rest := [.int (((runS n t (selOfF selT t 1) x q).1) * 3)]) S (c_X0_act l G ad _ n ih (q := ((runS n t (selOfF selT t 1) x q).2.1, (runS n t (selOfF selT t 1) x q).2.2.1, ((runS n t (selOfF selT t 1) x q).2).2.2.1, ((runS n t (selOfF selT t 1) x q).2).2.2.2)) hk100 h_17 h_18 ⟨h_11, h_12, h_13⟩ d hdn 0 (x + 1)) (cwV 3 hts (gWSV q_l_0_69 q_im_X0_act q_se_X0_act q_in_0 q_co_X0_act) rfl rfl rfl (by decide +kernel) ⟨by dsimp only; omega, by dsimp only; omega⟩) (hPreVw hE hS (hrecv hE hW h_11 (q := (RX0, TX0, 12)) rfl) hW) rfl rfl hl.1 rfl (lv_room (Nat.le_of_ble_eq_true rfl)) dX0_runOfInterface_117 ⟨Nat.le_of_ble_eq_true rfl, Nat.le_of_ble_eq_true rfl⟩) hS (fun rv_25 ct_19 H locs hp hW hS => ?_)
    obtain ⟨ev_24, ⟨h_20, h_21, h_22⟩, hg_23⟩ := hp
    subst ev_24
    have h_26 := (hg_23 1 (by omega) (by decide) (by decide)).trans h_17
    have h_27 := (hg_23 5 (by omega) (by decide) (by decide)).trans h_18
    refine lv_isub hx hb dX0_runOfInterface_120 ?_
    exact h_iret S hr hlk hS hW dX0_runOfInterface_121 (by rw [bodyS_11]; exact ⟨rfl, ⟨h_20, h_21, h_22⟩, (fun j q0 q1 q2 => (hg_23 j q0 q1 q2).trans (hg_14 j q0 q1 q2))⟩)
  · refine lv_lookup (off := 121) (tgt := 122) hx hb dX0_runOfInterface_1 (by decide) (by decide) (by decide) ?_
    refine lv_aload_n hx hb dX0_runOfInterface_122 rfl (lv_at hl 0 rfl) ?_
    refine lv_iconst (v := 3) hx hb dX0_runOfInterface_123 (by decide) ?_
    refine lv_iload_n hx hb dX0_runOfInterface_124 rfl (lv_at hl 2 rfl) ?_
    refine lv_iload_n hx hb dX0_runOfInterface_125 rfl (lv_at hl 3 rfl) ?_
    refine hc_i (va_runV (As := [.int 3, .int x, .int (nI d)]) (rest := []) S (c_X0_act l G ad _ n ih (q := q) hk100 h1 h5 ⟨hk, h2, h3⟩ d hdn 3 x) (cwV 3 hts (gWSV q_l_0_69 q_im_X0_act q_se_X0_act q_in_0 q_co_X0_act) rfl rfl rfl (by decide +kernel) ⟨by dsimp only; omega, by dsimp only; omega⟩) (hPreVw hE hS (hrecv hE hW hk (q := (RX0, TX0, 12)) rfl) hW) rfl rfl hl.1 rfl (lv_room (Nat.le_of_ble_eq_true rfl)) dX0_runOfInterface_126 ⟨Nat.le_of_ble_eq_true rfl, Nat.le_of_ble_eq_true rfl⟩) hS (fun rv_34 ct_28 H locs hp hW hS => ?_)
    obtain ⟨ev_33, ⟨h_29, h_30, h_31⟩, hg_32⟩ := hp
    subst ev_33
    have h_35 := (hg_32 1 (by omega) (by decide) (by decide)).trans h1
    have h_36 := (hg_32 5 (by omega) (by decide) (by decide)).trans h5
    refine lv_aload_n hx hb dX0_runOfInterface_129 rfl (lv_at hl 0 rfl) ?_
    refine lv_iconst (v := 3) hx hb dX0_runOfInterface_130 (by decide) ?_
    refine lv_iload_n hx hb dX0_runOfInterface_131 rfl (lv_at hl 2 rfl) ?_
    refine lv_iconst (v := 1) hx hb dX0_runOfInterface_132 (by decide) ?_
    refine lv_iadd hx hb dX0_runOfInterface_133 ?_
    refine lv_iload_n hx hb dX0_runOfInterface_134 rfl (lv_at hl 3 rfl) ?_
    refine hc_i (va_runV (As := [.int 3, .int (x + 1), .int (nI d)]) (rest := [.int ((runS n t (selOfF selT t 3) x q).1)]) S (c_X0_act l G ad _ n ih (q := ((runS n t (selOfF selT t 3) x q).2.1, (runS n t (selOfF selT t 3) x q).2.2.1, ((runS n t (selOfF selT t 3) x q).2).2.2.1, ((runS n t (selOfF selT t 3) x q).2).2.2.2)) hk100 h_35 h_36 ⟨h_29, h_30, h_31⟩ d hdn 3 (x + 1)) (cwV 3 hts (gWSV q_l_0_69 q_im_X0_act q_se_X0_act q_in_0 q_co_X0_act) rfl rfl rfl (by decide +kernel) ⟨by dsimp only; omega, by dsimp only; omega⟩) (hPreVw hE hS (hrecv hE hW h_29 (q := (RX0, TX0, 12)) rfl) hW) rfl rfl hl.1 rfl (lv_room (Nat.le_of_ble_eq_true rfl)) dX0_runOfInterface_135 ⟨Nat.le_of_ble_eq_true rfl, Nat.le_of_ble_eq_true rfl⟩) hS (fun rv_43 ct_37 H locs hp hW hS => ?_)
    obtain ⟨ev_42, ⟨h_38, h_39, h_40⟩, hg_41⟩ := hp
    subst ev_42
    have h_44 := (hg_41 1 (by omega) (by decide) (by decide)).trans h_35
    have h_45 := (hg_41 5 (by omega) (by decide) (by decide)).trans h_36
    refine lv_iadd hx hb dX0_runOfInterface_138 ?_
    exact h_iret S hr hlk hS hW dX0_runOfInterface_139 (by rw [bodyS_20]; exact ⟨rfl, ⟨h_38, h_39, h_40⟩, (fun j q0 q1 q2 => (hg_41 j q0 q1 q2).trans (hg_32 j q0 q1 q2))⟩)
  · refine lv_lookup (off := 139) (tgt := 140) hx hb dX0_runOfInterface_1 (by decide) (by decide) (by decide) ?_
    refine lv_aload_n hx hb dX0_runOfInterface_140 rfl (lv_at hl 0 rfl) ?_
    refine lv_iconst (v := 4) hx hb dX0_runOfInterface_141 (by decide) ?_
    refine lv_iload_n hx hb dX0_runOfInterface_142 rfl (lv_at hl 2 rfl) ?_
    refine lv_iload_n hx hb dX0_runOfInterface_143 rfl (lv_at hl 3 rfl) ?_
    refine hc_i (va_runV (As := [.int 4, .int x, .int (nI d)]) (rest := []) S (c_X0_act l G ad _ n ih (q := q) hk100 h1 h5 ⟨hk, h2, h3⟩ d hdn 4 x) (cwV 3 hts (gWSV q_l_0_69 q_im_X0_act q_se_X0_act q_in_0 q_co_X0_act) rfl rfl rfl (by decide +kernel) ⟨by dsimp only; omega, by dsimp only; omega⟩) (hPreVw hE hS (hrecv hE hW hk (q := (RX0, TX0, 12)) rfl) hW) rfl rfl hl.1 rfl (lv_room (Nat.le_of_ble_eq_true rfl)) dX0_runOfInterface_144 ⟨Nat.le_of_ble_eq_true rfl, Nat.le_of_ble_eq_true rfl⟩) hS (fun rv_52 ct_46 H locs hp hW hS => ?_)
    obtain ⟨ev_51, ⟨h_47, h_48, h_49⟩, hg_50⟩ := hp
    subst ev_51
    have h_53 := (hg_50 1 (by omega) (by decide) (by decide)).trans h1
    have h_54 := (hg_50 5 (by omega) (by decide) (by decide)).trans h5
    refine lv_bipush (v := 85) hx hb dX0_runOfInterface_147 (by decide) ?_
    refine lv_ixor hx hb dX0_runOfInterface_149 ?_
    exact h_iret S hr hlk hS hW dX0_runOfInterface_150 (by rw [bodyS_21]; exact ⟨rfl, ⟨h_47, h_48, h_49⟩, (fun j q0 q1 q2 => hg_50 j q0 q1 q2)⟩)
  · refine lv_lookup (off := 150) (tgt := 151) hx hb dX0_runOfInterface_1 (by decide) (by decide) (by decide) ?_
    refine lv_aload_n hx hb dX0_runOfInterface_151 rfl (lv_at hl 0 rfl) ?_
    refine lv_iconst (v := 2) hx hb dX0_runOfInterface_152 (by decide) ?_
    refine lv_iconst (v := 2) hx hb dX0_runOfInterface_153 (by decide) ?_
    refine lv_iload_n hx hb dX0_runOfInterface_154 rfl (lv_at hl 2 rfl) ?_
    refine lv_iload_n hx hb dX0_runOfInterface_155 rfl (lv_at hl 3 rfl) ?_
    refine hc_i (va_runV (As := [.int 2, .int 2, .int x, .int (nI d)]) (rest := []) S (c_X0_interfaceAct l G ad _ n ih (q := q) hk100 h1 h5 ⟨hk, h2, h3⟩ d hdn 2 2 x) (cwV 4 hts (gWSV q_l_0_108 q_im_X0_interfaceAct q_se_X0_interfaceAct q_in_0 q_co_X0_interfaceAct) rfl rfl rfl (by decide +kernel) ⟨by dsimp only; omega, by dsimp only; omega⟩) (hPreVw hE hS (hrecv hE hW hk (q := (RX0, TX0, 12)) rfl) hW) rfl rfl hl.1 rfl (lv_room (Nat.le_of_ble_eq_true rfl)) dX0_runOfInterface_156 ⟨Nat.le_of_ble_eq_true rfl, Nat.le_of_ble_eq_true rfl⟩) hS (fun rv_61 ct_55 H locs hp hW hS => ?_)
    obtain ⟨ev_60, ⟨h_56, h_57, h_58⟩, hg_59⟩ := hp
    subst ev_60
    have h_62 := (hg_59 1 (by omega) (by decide) (by decide)).trans h1
    have h_63 := (hg_59 5 (by omega) (by decide) (by decide)).trans h5
    refine lv_aload_n hx hb dX0_runOfInterface_159 rfl (lv_at hl 0 rfl) ?_
    refine lv_iconst (v := 3) hx hb dX0_runOfInterface_160 (by decide) ?_
    refine lv_iconst (v := 2) hx hb dX0_runOfInterface_161 (by decide) ?_
    refine lv_iload_n hx hb dX0_runOfInterface_162 rfl (lv_at hl 2 rfl) ?_
    refine lv_iconst (v := 1) hx hb dX0_runOfInterface_163 (by decide) ?_
    refine lv_iadd hx hb dX0_runOfInterface_164 ?_
    refine lv_iload_n hx hb dX0_runOfInterface_165 rfl (lv_at hl 3 rfl) ?_
    refine hc_i (va_runV (As := [.int 3, .int 2, .int (x + 1), .int (nI d)]) (rest := [.int ((runS n t (selOfF selT 2 2) x q).1)]) S (c_X0_interfaceAct l G ad _ n ih (q := ((runS n t (selOfF selT 2 2) x q).2.1, (runS n t (selOfF selT 2 2) x q).2.2.1, ((runS n t (selOfF selT 2 2) x q).2).2.2.1, ((runS n t (selOfF selT 2 2) x q).2).2.2.2)) hk100 h_62 h_63 ⟨h_56, h_57, h_58⟩ d hdn 3 2 (x + 1)) (cwV 4 hts (gWSV q_l_0_108 q_im_X0_interfaceAct q_se_X0_interfaceAct q_in_0 q_co_X0_interfaceAct) rfl rfl rfl (by decide +kernel) ⟨by dsimp only; omega, by dsimp only; omega⟩) (hPreVw hE hS (hrecv hE hW h_56 (q := (RX0, TX0, 12)) rfl) hW) rfl rfl hl.1 rfl (lv_room (Nat.le_of_ble_eq_true rfl)) dX0_runOfInterface_166 ⟨Nat.le_of_ble_eq_true rfl, Nat.le_of_ble_eq_true rfl⟩) hS (fun rv_70 ct_64 H locs hp hW hS => ?_)
    obtain ⟨ev_69, ⟨h_65, h_66, h_67⟩, hg_68⟩ := hp
    subst ev_69
    have h_71 := (hg_68 1 (by omega) (by decide) (by decide)).trans h_62
    have h_72 := (hg_68 5 (by omega) (by decide) (by decide)).trans h_63
    refine lv_iadd hx hb dX0_runOfInterface_169 ?_
    exact h_iret S hr hlk hS hW dX0_runOfInterface_170 (by rw [bodyS_30]; exact ⟨rfl, ⟨h_65, h_66, h_67⟩, (fun j q0 q1 q2 => (hg_68 j q0 q1 q2).trans (hg_59 j q0 q1 q2))⟩)
  · refine lv_lookup (off := 170) (tgt := 171) hx hb dX0_runOfInterface_1 (by decide) (by decide) (by decide) ?_
    refine lv_aload_n hx hb dX0_runOfInterface_171 rfl (lv_at hl 0 rfl) ?_
    refine lv_iconst (v := 5) hx hb dX0_runOfInterface_172 (by decide) ?_
    refine lv_iload_n hx hb dX0_runOfInterface_173 rfl (lv_at hl 2 rfl) ?_
    refine lv_iload_n hx hb dX0_runOfInterface_174 rfl (lv_at hl 3 rfl) ?_
    refine hc_i (va_runV (As := [.int 5, .int x, .int (nI d)]) (rest := []) S (c_X0_act l G ad _ n ih (q := q) hk100 h1 h5 ⟨hk, h2, h3⟩ d hdn 5 x) (cwV 3 hts (gWSV q_l_0_69 q_im_X0_act q_se_X0_act q_in_0 q_co_X0_act) rfl rfl rfl (by decide +kernel) ⟨by dsimp only; omega, by dsimp only; omega⟩) (hPreVw hE hS (hrecv hE hW hk (q := (RX0, TX0, 12)) rfl) hW) rfl rfl hl.1 rfl (lv_room (Nat.le_of_ble_eq_true rfl)) dX0_runOfInterface_175 ⟨Nat.le_of_ble_eq_true rfl, Nat.le_of_ble_eq_true rfl⟩) hS (fun rv_79 ct_73 H locs hp hW hS => ?_)
    obtain ⟨ev_78, ⟨h_74, h_75, h_76⟩, hg_77⟩ := hp
    subst ev_78
    have h_80 := (hg_77 1 (by omega) (by decide) (by decide)).trans h1
    have h_81 := (hg_77 5 (by omega) (by decide) (by decide)).trans h5
    refine lv_iload_n hx hb dX0_runOfInterface_178 rfl (lv_at hl 2 rfl) ?_
    refine lv_iadd hx hb dX0_runOfInterface_179 ?_
    exact h_iret S hr hlk hS hW dX0_runOfInterface_180 (by rw [bodyS_40]; exact ⟨rfl, ⟨h_74, h_75, h_76⟩, (fun j q0 q1 q2 => hg_77 j q0 q1 q2)⟩)
  · refine lv_lookup (off := 180) (tgt := 181) hx hb dX0_runOfInterface_1 (by decide) (by decide) (by decide) ?_
    refine lv_aload_n hx hb dX0_runOfInterface_181 rfl (lv_at hl 0 rfl) ?_
    refine lv_bipush (v := 6) hx hb dX0_runOfInterface_182 (by decide) ?_
    refine lv_iload_n hx hb dX0_runOfInterface_184 rfl (lv_at hl 2 rfl) ?_
    refine lv_iload_n hx hb dX0_runOfInterface_185 rfl (lv_at hl 3 rfl) ?_
    refine hc_i (va_runV (As := [.int 6, .int x, .int (nI d)]) (rest := []) S (c_X0_act l G ad _ n ih (q := q) hk100 h1 h5 ⟨hk, h2, h3⟩ d hdn 6 x) (cwV 3 hts (gWSV q_l_0_69 q_im_X0_act q_se_X0_act q_in_0 q_co_X0_act) rfl rfl rfl (by decide +kernel) ⟨by dsimp only; omega, by dsimp only; omega⟩) (hPreVw hE hS (hrecv hE hW hk (q := (RX0, TX0, 12)) rfl) hW) rfl rfl hl.1 rfl (lv_room (Nat.le_of_ble_eq_true rfl)) dX0_runOfInterface_186 ⟨Nat.le_of_ble_eq_true rfl, Nat.le_of_ble_eq_true rfl⟩) hS (fun rv_88 ct_82 H locs hp hW hS => ?_)
    obtain ⟨ev_87, ⟨h_83, h_84, h_85⟩, hg_86⟩ := hp
    subst ev_87
    have h_89 := (hg_86 1 (by omega) (by decide) (by decide)).trans h1
    have h_90 := (hg_86 5 (by omega) (by decide) (by decide)).trans h5
    refine lv_iconst (v := 2) hx hb dX0_runOfInterface_189 (by decide) ?_
    refine lv_imul hx hb dX0_runOfInterface_190 ?_
    refine lv_aload_n hx hb dX0_runOfInterface_191 rfl (lv_at hl 0 rfl) ?_
    refine lv_bipush (v := 6) hx hb dX0_runOfInterface_192 (by decide) ?_
    refine lv_iconst (v := 1) hx hb dX0_runOfInterface_194 (by decide) ?_
    refine lv_iload_n hx hb dX0_runOfInterface_195 rfl (lv_at hl 3 rfl) ?_
    refine hc_i (va_runV (As := [.int 6, .int 1, .int (nI d)]) (rest := [.int (((runS n t (selOfF selT t 6) x q).1) * 2)]) S (c_X0_act l G ad _ n ih (q := ((runS n t (selOfF selT t 6) x q).2.1, (runS n t (selOfF selT t 6) x q).2.2.1, ((runS n t (selOfF selT t 6) x q).2).2.2.1, ((runS n t (selOfF selT t 6) x q).2).2.2.2)) hk100 h_89 h_90 ⟨h_83, h_84, h_85⟩ d hdn 6 1) (cwV 3 hts (gWSV q_l_0_69 q_im_X0_act q_se_X0_act q_in_0 q_co_X0_act) rfl rfl rfl (by decide +kernel) ⟨by dsimp only; omega, by dsimp only; omega⟩) (hPreVw hE hS (hrecv hE hW h_83 (q := (RX0, TX0, 12)) rfl) hW) rfl rfl hl.1 rfl (lv_room (Nat.le_of_ble_eq_true rfl)) dX0_runOfInterface_196 ⟨Nat.le_of_ble_eq_true rfl, Nat.le_of_ble_eq_true rfl⟩) hS (fun rv_97 ct_91 H locs hp hW hS => ?_)
    obtain ⟨ev_96, ⟨h_92, h_93, h_94⟩, hg_95⟩ := hp
    subst ev_96
    have h_98 := (hg_95 1 (by omega) (by decide) (by decide)).trans h_89
    have h_99 := (hg_95 5 (by omega) (by decide) (by decide)).trans h_90
    refine lv_iadd hx hb dX0_runOfInterface_199 ?_
    exact h_iret S hr hlk hS hW dX0_runOfInterface_200 (by rw [bodyS_41]; exact ⟨rfl, ⟨h_92, h_93, h_94⟩, (fun j q0 q1 q2 => (hg_95 j q0 q1 q2).trans (hg_86 j q0 q1 q2))⟩)
  · refine lv_lookup (off := 200) (tgt := 201) hx hb dX0_runOfInterface_1 (by decide) (by decide) (by decide) ?_
    refine lv_aload_n hx hb dX0_runOfInterface_201 rfl (lv_at hl 0 rfl) ?_
    refine lv_iconst (v := 5) hx hb dX0_runOfInterface_202 (by decide) ?_
    refine lv_bipush (v := 7) hx hb dX0_runOfInterface_203 (by decide) ?_
    refine lv_iload_n hx hb dX0_runOfInterface_205 rfl (lv_at hl 2 rfl) ?_
    refine lv_iload_n hx hb dX0_runOfInterface_206 rfl (lv_at hl 3 rfl) ?_
    refine hc_i (va_runV (As := [.int 5, .int 7, .int x, .int (nI d)]) (rest := []) S (c_X0_interfaceAct l G ad _ n ih (q := q) hk100 h1 h5 ⟨hk, h2, h3⟩ d hdn 5 7 x) (cwV 4 hts (gWSV q_l_0_108 q_im_X0_interfaceAct q_se_X0_interfaceAct q_in_0 q_co_X0_interfaceAct) rfl rfl rfl (by decide +kernel) ⟨by dsimp only; omega, by dsimp only; omega⟩) (hPreVw hE hS (hrecv hE hW hk (q := (RX0, TX0, 12)) rfl) hW) rfl rfl hl.1 rfl (lv_room (Nat.le_of_ble_eq_true rfl)) dX0_runOfInterface_207 ⟨Nat.le_of_ble_eq_true rfl, Nat.le_of_ble_eq_true rfl⟩) hS (fun rv_106 ct_100 H locs hp hW hS => ?_)
    obtain ⟨ev_105, ⟨h_101, h_102, h_103⟩, hg_104⟩ := hp
    subst ev_105
    have h_107 := (hg_104 1 (by omega) (by decide) (by decide)).trans h1
    have h_108 := (hg_104 5 (by omega) (by decide) (by decide)).trans h5
    refine lv_aload_n hx hb dX0_runOfInterface_210 rfl (lv_at hl 0 rfl) ?_
    refine lv_bipush (v := 8) hx hb dX0_runOfInterface_211 (by decide) ?_
    refine lv_iload_n hx hb dX0_runOfInterface_213 rfl (lv_at hl 2 rfl) ?_
    refine lv_iload_n hx hb dX0_runOfInterface_214 rfl (lv_at hl 3 rfl) ?_
    refine hc_i (va_runV (As := [.int 8, .int x, .int (nI d)]) (rest := [.int ((runS n t (selOfF selT 5 7) x q).1)]) S (c_X0_act l G ad _ n ih (q := ((runS n t (selOfF selT 5 7) x q).2.1, (runS n t (selOfF selT 5 7) x q).2.2.1, ((runS n t (selOfF selT 5 7) x q).2).2.2.1, ((runS n t (selOfF selT 5 7) x q).2).2.2.2)) hk100 h_107 h_108 ⟨h_101, h_102, h_103⟩ d hdn 8 x) (cwV 3 hts (gWSV q_l_0_69 q_im_X0_act q_se_X0_act q_in_0 q_co_X0_act) rfl rfl rfl (by decide +kernel) ⟨by dsimp only; omega, by dsimp only; omega⟩) (hPreVw hE hS (hrecv hE hW h_101 (q := (RX0, TX0, 12)) rfl) hW) rfl rfl hl.1 rfl (lv_room (Nat.le_of_ble_eq_true rfl)) dX0_runOfInterface_215 ⟨Nat.le_of_ble_eq_true rfl, Nat.le_of_ble_eq_true rfl⟩) hS (fun rv_115 ct_109 H locs hp hW hS => ?_)
    obtain ⟨ev_114, ⟨h_110, h_111, h_112⟩, hg_113⟩ := hp
    subst ev_114
    have h_116 := (hg_113 1 (by omega) (by decide) (by decide)).trans h_107
    have h_117 := (hg_113 5 (by omega) (by decide) (by decide)).trans h_108
    refine lv_isub hx hb dX0_runOfInterface_218 ?_
    exact h_iret S hr hlk hS hW dX0_runOfInterface_219 (by rw [bodyS_50]; exact ⟨rfl, ⟨h_110, h_111, h_112⟩, (fun j q0 q1 q2 => (hg_113 j q0 q1 q2).trans (hg_104 j q0 q1 q2))⟩)
  · refine lv_lookup (off := 219) (tgt := 220) hx hb dX0_runOfInterface_1 (by decide) (by decide) (by decide) ?_
    refine lv_aload_n hx hb dX0_runOfInterface_220 rfl (lv_at hl 0 rfl) ?_
    refine lv_bipush (v := 52) hx hb dX0_runOfInterface_221 (by decide) ?_
    refine lv_iload_n hx hb dX0_runOfInterface_223 rfl (lv_at hl 2 rfl) ?_
    refine lv_iload_n hx hb dX0_runOfInterface_224 rfl (lv_at hl 3 rfl) ?_
    refine hc_i (va_runV (As := [.int 52, .int x, .int (nI d)]) (rest := []) S (ih ad _ k t r q 52 x d hk100 okB_52 hdn h1 h5 ⟨hk, h2, h3⟩) (cwV 3 hts (gWSV q_l_0_83 q_im_X0_run q_se_X0_run q_in_0 q_co_X0_run) rfl rfl rfl (by decide +kernel) ⟨by dsimp only; omega, by dsimp only; omega⟩) (hPreVw hE hS (hrecv hE hW hk (q := (RX0, TX0, 12)) rfl) hW) rfl rfl hl.1 rfl (lv_room (Nat.le_of_ble_eq_true rfl)) dX0_runOfInterface_225 ⟨Nat.le_of_ble_eq_true rfl, Nat.le_of_ble_eq_true rfl⟩) hS (fun rv_124 ct_118 H locs hp hW hS => ?_)
    obtain ⟨ev_123, ⟨h_119, h_120, h_121⟩, hg_122⟩ := hp
    subst ev_123
    have h_125 := (hg_122 1 (by omega) (by decide) (by decide)).trans h1
    have h_126 := (hg_122 5 (by omega) (by decide) (by decide)).trans h5
    refine lv_aload_n hx hb dX0_runOfInterface_228 rfl (lv_at hl 0 rfl) ?_
    refine lv_iconst (v := 5) hx hb dX0_runOfInterface_229 (by decide) ?_
    refine lv_iconst (v := 2) hx hb dX0_runOfInterface_230 (by decide) ?_
    refine lv_iload_n hx hb dX0_runOfInterface_231 rfl (lv_at hl 3 rfl) ?_
    refine hc_i (va_runV (As := [.int 5, .int 2, .int (nI d)]) (rest := [.int ((runS n t 52 x q).1)]) S (c_X0_act l G ad _ n ih (q := ((runS n t 52 x q).2.1, (runS n t 52 x q).2.2.1, ((runS n t 52 x q).2).2.2.1, ((runS n t 52 x q).2).2.2.2)) hk100 h_125 h_126 ⟨h_119, h_120, h_121⟩ d hdn 5 2) (cwV 3 hts (gWSV q_l_0_69 q_im_X0_act q_se_X0_act q_in_0 q_co_X0_act) rfl rfl rfl (by decide +kernel) ⟨by dsimp only; omega, by dsimp only; omega⟩) (hPreVw hE hS (hrecv hE hW h_119 (q := (RX0, TX0, 12)) rfl) hW) rfl rfl hl.1 rfl (lv_room (Nat.le_of_ble_eq_true rfl)) dX0_runOfInterface_232 ⟨Nat.le_of_ble_eq_true rfl, Nat.le_of_ble_eq_true rfl⟩) hS (fun rv_133 ct_127 H locs hp hW hS => ?_)
    obtain ⟨ev_132, ⟨h_128, h_129, h_130⟩, hg_131⟩ := hp
    subst ev_132
    have h_134 := (hg_131 1 (by omega) (by decide) (by decide)).trans h_125
    have h_135 := (hg_131 5 (by omega) (by decide) (by decide)).trans h_126
    refine lv_iadd hx hb dX0_runOfInterface_235 ?_
    exact h_iret S hr hlk hS hW dX0_runOfInterface_236 (by rw [bodyS_51]; exact ⟨rfl, ⟨h_128, h_129, h_130⟩, (fun j q0 q1 q2 => (hg_131 j q0 q1 q2).trans (hg_122 j q0 q1 q2))⟩)
  · refine lv_lookup (off := 236) (tgt := 237) hx hb dX0_runOfInterface_1 (by decide) (by decide) (by decide) ?_
    refine lv_aload_n hx hb dX0_runOfInterface_237 rfl (lv_at hl 0 rfl) ?_
    refine lv_iconst (v := 5) hx hb dX0_runOfInterface_238 (by decide) ?_
    refine lv_iload_n hx hb dX0_runOfInterface_239 rfl (lv_at hl 2 rfl) ?_
    refine lv_iload_n hx hb dX0_runOfInterface_240 rfl (lv_at hl 3 rfl) ?_
    refine hc_i (va_runV (As := [.int 5, .int x, .int (nI d)]) (rest := []) S (c_X0_act l G ad _ n ih (q := q) hk100 h1 h5 ⟨hk, h2, h3⟩ d hdn 5 x) (cwV 3 hts (gWSV q_l_0_69 q_im_X0_act q_se_X0_act q_in_0 q_co_X0_act) rfl rfl rfl (by decide +kernel) ⟨by dsimp only; omega, by dsimp only; omega⟩) (hPreVw hE hS (hrecv hE hW hk (q := (RX0, TX0, 12)) rfl) hW) rfl rfl hl.1 rfl (lv_room (Nat.le_of_ble_eq_true rfl)) dX0_runOfInterface_241 ⟨Nat.le_of_ble_eq_true rfl, Nat.le_of_ble_eq_true rfl⟩) hS (fun rv_142 ct_136 H locs hp hW hS => ?_)
    obtain ⟨ev_141, ⟨h_137, h_138, h_139⟩, hg_140⟩ := hp
    subst ev_141
    have h_143 := (hg_140 1 (by omega) (by decide) (by decide)).trans h1
    have h_144 := (hg_140 5 (by omega) (by decide) (by decide)).trans h5
    refine lv_iconst (v := 5) hx hb dX0_runOfInterface_244 (by decide) ?_
    refine lv_imul hx hb dX0_runOfInterface_245 ?_
    exact h_iret S hr hlk hS hW dX0_runOfInterface_246 (by rw [bodyS_52]; exact ⟨rfl, ⟨h_137, h_138, h_139⟩, (fun j q0 q1 q2 => hg_140 j q0 q1 q2)⟩)
set_option maxRecDepth 100000 in
set_option maxHeartbeats 4000000 in
theorem c_X0_runOfAncestor (l : Launch) (G : hG) (ad : Nat → Nat) (ct : Nat → Option va_E) (n : Nat) (ih : RunC l G n) {k : Nat} {t : Int32} {r : Nat → Value} {q : St} (hk100 : 100 ≤ k) (h1 : ct 1 = some (.inr (1, [.ref (ad 4), .ref (ad 5)]))) (h5 : ct 5 = some (.inl (G.2.1.1, 216, .inl selT))) (hd : dW G ad ct k t r q) (d : Nat) (hdn : d + n = 40) (b x : Int32) (hbd : okBA b)  : Met l yX0_runOfAncestor wzX0_runOfAncestor { frames := 3 * n + 4, cells := 0, slots := 0, locals := 70 * n + 67 } (hPw [.ref (ad k), .int b, .int x, .int (nI d)] G ad ct) (hQi (fun rr ct1 => rr = (bodyS (runS n t) t b x q).1 ∧ dW G ad ct1 k t r (bodyS (runS n t) t b x q).2 ∧ ∀ j, j ≠ k → j ≠ 2 → j ≠ 3 → ct1 j = ct j) G ad) 0 0 (hA G.2.2.2) := by
  refine hMetw (by decide) (Nat.le_of_ble_eq_true rfl) (fun p e s m below meth c ls S hr hlk hE hW hl => ?_)
  obtain ⟨hx, hb, hml, hown, hts⟩ := id S
  have hS : va_S (hA G.2.2.2) s.heap s.heap [] := va_S.rf
  have hl : lv_has ls 4 [(0, .ref (ad k)), (1, .int b), (2, .int x), (3, .int (nI d))] := hl
  obtain ⟨hk, h2, h3⟩ := hd
  refine lv_iload_n hx hb dX0_runOfAncestor_0 rfl (lv_at hl 1 rfl) ?_
  unfold okBA at hbd
  rcases hbd with rfl | rfl | rfl | rfl | rfl | rfl
  · refine lv_tableIn (off := 59) (tgt := 60) hx hb dX0_runOfAncestor_1 (by decide) (by decide) (by decide) (by decide) ?_
    refine lv_aload_n hx hb dX0_runOfAncestor_60 rfl (lv_at hl 0 rfl) ?_
    refine lv_aload_n hx hb dX0_runOfAncestor_61 rfl (lv_at hl 0 rfl) ?_
    refine hr_get S hE hW hk inX0 (C := RX0) (T := TX0) (N := 12) rfl 3 (by decide) q_f_0_23 rfl dX0_runOfAncestor_62 ?_
    refine lv_iload_n hx hb dX0_runOfAncestor_65 rfl (lv_at hl 2 rfl) ?_
    refine lv_iadd hx hb dX0_runOfAncestor_66 ?_
    refine hr_put S hE hW hS hk inX0 (C := RX0) (T := TX0) (N := 12) tyX0_ok nmX0 rfl 3 (by decide) q_f_0_23 rfl rfl rfl (Nat.le_of_ble_eq_true rfl) dX0_runOfAncestor_67 (fun H locs ct_1 hW hk_2 hg_3 hz hS => ?_)
    have h_4 := (hg_3 1 (by omega)).trans h1
    have h_5 := (hg_3 5 (by omega)).trans h5
    have h_6 := (hg_3 2 (by omega)).trans h2
    have h_7 := (hg_3 3 (by omega)).trans h3
    have h_8 : ct_1 k = some (.inr (0, [.ref (ad 1), .ref (ad 2), .int t, .int (q.1 + x), .int q.2.1, r 5, r 6, r 7, r 8, r 9, r 10, r 11])) := hk_2
    refine lv_aload_n hx hb dX0_runOfAncestor_70 rfl (lv_at hl 0 rfl) ?_
    refine hr_get S hE hW h_8 inX0 (C := RX0) (T := TX0) (N := 12) rfl 3 (by decide) q_f_0_23 rfl dX0_runOfAncestor_71 ?_
    exact h_iret S hr hlk hS hW dX0_runOfAncestor_74 (by rw [bodyS_60]; exact ⟨rfl, ⟨h_8, h_6, h_7⟩, (fun j q0 q1 q2 => hg_3 j q0)⟩)
  · refine lv_tableIn (off := 74) (tgt := 75) hx hb dX0_runOfAncestor_1 (by decide) (by decide) (by decide) (by decide) ?_
    refine lv_aload_n hx hb dX0_runOfAncestor_75 rfl (lv_at hl 0 rfl) ?_
    refine lv_aload_n hx hb dX0_runOfAncestor_76 rfl (lv_at hl 0 rfl) ?_
    refine hr_get S hE hW hk inX0 (C := RX0) (T := TX0) (N := 12) rfl 3 (by decide) q_f_0_23 rfl dX0_runOfAncestor_77 ?_
    refine lv_iconst (v := 3) hx hb dX0_runOfAncestor_80 (by decide) ?_
    refine lv_iload_n hx hb dX0_runOfAncestor_81 rfl (lv_at hl 2 rfl) ?_
    refine lv_imul hx hb dX0_runOfAncestor_82 ?_
    refine lv_isub hx hb dX0_runOfAncestor_83 ?_
    refine hr_put S hE hW hS hk inX0 (C := RX0) (T := TX0) (N := 12) tyX0_ok nmX0 rfl 3 (by decide) q_f_0_23 rfl rfl rfl (Nat.le_of_ble_eq_true rfl) dX0_runOfAncestor_84 (fun H locs ct_9 hW hk_10 hg_11 hz hS => ?_)
    have h_12 := (hg_11 1 (by omega)).trans h1
    have h_13 := (hg_11 5 (by omega)).trans h5
    have h_14 := (hg_11 2 (by omega)).trans h2
    have h_15 := (hg_11 3 (by omega)).trans h3
    have h_16 : ct_9 k = some (.inr (0, [.ref (ad 1), .ref (ad 2), .int t, .int (q.1 - (3 * x)), .int q.2.1, r 5, r 6, r 7, r 8, r 9, r 10, r 11])) := hk_10
    refine lv_aload_n hx hb dX0_runOfAncestor_87 rfl (lv_at hl 0 rfl) ?_
    refine hr_get S hE hW h_16 inX0 (C := RX0) (T := TX0) (N := 12) rfl 3 (by decide) q_f_0_23 rfl dX0_runOfAncestor_88 ?_
    exact h_iret S hr hlk hS hW dX0_runOfAncestor_91 (by rw [bodyS_61]; exact ⟨rfl, ⟨h_16, h_14, h_15⟩, (fun j q0 q1 q2 => hg_11 j q0)⟩)
  · refine lv_tableIn (off := 91) (tgt := 92) hx hb dX0_runOfAncestor_1 (by decide) (by decide) (by decide) (by decide) ?_
    refine lv_aload_n hx hb dX0_runOfAncestor_92 rfl (lv_at hl 0 rfl) ?_
    refine lv_aload_n hx hb dX0_runOfAncestor_93 rfl (lv_at hl 0 rfl) ?_
    refine hr_get S hE hW hk inX0 (C := RX0) (T := TX0) (N := 12) rfl 3 (by decide) q_f_0_23 rfl dX0_runOfAncestor_94 ?_
    refine lv_bipush (v := 31) hx hb dX0_runOfAncestor_97 (by decide) ?_
    refine lv_imul hx hb dX0_runOfAncestor_99 ?_
    refine lv_iload_n hx hb dX0_runOfAncestor_100 rfl (lv_at hl 2 rfl) ?_
    refine lv_iadd hx hb dX0_runOfAncestor_101 ?_
    refine hr_put S hE hW hS hk inX0 (C := RX0) (T := TX0) (N := 12) tyX0_ok nmX0 rfl 3 (by decide) q_f_0_23 rfl rfl rfl (Nat.le_of_ble_eq_true rfl) dX0_runOfAncestor_102 (fun H locs ct_17 hW hk_18 hg_19 hz hS => ?_)
    have h_20 := (hg_19 1 (by omega)).trans h1
    have h_21 := (hg_19 5 (by omega)).trans h5
    have h_22 := (hg_19 2 (by omega)).trans h2
    have h_23 := (hg_19 3 (by omega)).trans h3
    have h_24 : ct_17 k = some (.inr (0, [.ref (ad 1), .ref (ad 2), .int t, .int ((q.1 * 31) + x), .int q.2.1, r 5, r 6, r 7, r 8, r 9, r 10, r 11])) := hk_18
    refine lv_aload_n hx hb dX0_runOfAncestor_105 rfl (lv_at hl 0 rfl) ?_
    refine hr_get S hE hW h_24 inX0 (C := RX0) (T := TX0) (N := 12) rfl 3 (by decide) q_f_0_23 rfl dX0_runOfAncestor_106 ?_
    exact h_iret S hr hlk hS hW dX0_runOfAncestor_109 (by rw [bodyS_62]; exact ⟨rfl, ⟨h_24, h_22, h_23⟩, (fun j q0 q1 q2 => hg_19 j q0)⟩)
  · refine lv_tableIn (off := 109) (tgt := 110) hx hb dX0_runOfAncestor_1 (by decide) (by decide) (by decide) (by decide) ?_
    refine lv_aload_n hx hb dX0_runOfAncestor_110 rfl (lv_at hl 0 rfl) ?_
    refine hr_get S hE hW hk inX0 (C := RX0) (T := TX0) (N := 12) rfl 3 (by decide) q_f_0_23 rfl dX0_runOfAncestor_111 ?_
    refine lv_iload_n hx hb dX0_runOfAncestor_114 rfl (lv_at hl 2 rfl) ?_
    refine lv_ixor hx hb dX0_runOfAncestor_115 ?_
    exact h_iret S hr hlk hS hW dX0_runOfAncestor_116 (by rw [bodyS_63]; exact ⟨rfl, ⟨hk, h2, h3⟩, (fun j q0 q1 q2 => rfl)⟩)
  · refine lv_tableIn (off := 116) (tgt := 117) hx hb dX0_runOfAncestor_1 (by decide) (by decide) (by decide) (by decide) ?_
    refine lv_aload_n hx hb dX0_runOfAncestor_117 rfl (lv_at hl 0 rfl) ?_
    refine lv_bipush (v := 9) hx hb dX0_runOfAncestor_118 (by decide) ?_
    refine lv_iload_n hx hb dX0_runOfAncestor_120 rfl (lv_at hl 2 rfl) ?_
    refine lv_iload_n hx hb dX0_runOfAncestor_121 rfl (lv_at hl 3 rfl) ?_
    refine hc_i (va_runV (As := [.int 9, .int x, .int (nI d)]) (rest := []) S (c_X0_act l G ad _ n ih (q := q) hk100 h1 h5 ⟨hk, h2, h3⟩ d hdn 9 x) (cwV 3 hts (gWSV q_l_0_69 q_im_X0_act q_se_X0_act q_in_0 q_co_X0_act) rfl rfl rfl (by decide +kernel) ⟨by dsimp only; omega, by dsimp only; omega⟩) (hPreVw hE hS (hrecv hE hW hk (q := (RX0, TX0, 12)) rfl) hW) rfl rfl hl.1 rfl (lv_room (Nat.le_of_ble_eq_true rfl)) dX0_runOfAncestor_122 ⟨Nat.le_of_ble_eq_true rfl, Nat.le_of_ble_eq_true rfl⟩) hS (fun rv_31 ct_25 H locs hp hW hS => ?_)
    obtain ⟨ev_30, ⟨h_26, h_27, h_28⟩, hg_29⟩ := hp
    subst ev_30
    have h_32 := (hg_29 1 (by omega) (by decide) (by decide)).trans h1
    have h_33 := (hg_29 5 (by omega) (by decide) (by decide)).trans h5
    refine lv_aload_n hx hb dX0_runOfAncestor_125 rfl (lv_at hl 0 rfl) ?_
    refine lv_bipush (v := 10) hx hb dX0_runOfAncestor_126 (by decide) ?_
    refine lv_iconst (v := 1) hx hb dX0_runOfAncestor_128 (by decide) ?_
    refine lv_iload_n hx hb dX0_runOfAncestor_129 rfl (lv_at hl 3 rfl) ?_
    refine hc_i (va_runV (As := [.int 10, .int 1, .int (nI d)]) (rest := [.int ((runS n t (selOfF selT t 9) x q).1)]) S (c_X0_act l G ad _ n ih (q := ((runS n t (selOfF selT t 9) x q).2.1, (runS n t (selOfF selT t 9) x q).2.2.1, ((runS n t (selOfF selT t 9) x q).2).2.2.1, ((runS n t (selOfF selT t 9) x q).2).2.2.2)) hk100 h_32 h_33 ⟨h_26, h_27, h_28⟩ d hdn 10 1) (cwV 3 hts (gWSV q_l_0_69 q_im_X0_act q_se_X0_act q_in_0 q_co_X0_act) rfl rfl rfl (by decide +kernel) ⟨by dsimp only; omega, by dsimp only; omega⟩) (hPreVw hE hS (hrecv hE hW h_26 (q := (RX0, TX0, 12)) rfl) hW) rfl rfl hl.1 rfl (lv_room (Nat.le_of_ble_eq_true rfl)) dX0_runOfAncestor_130 ⟨Nat.le_of_ble_eq_true rfl, Nat.le_of_ble_eq_true rfl⟩) hS (fun rv_40 ct_34 H locs hp hW hS => ?_)
    obtain ⟨ev_39, ⟨h_35, h_36, h_37⟩, hg_38⟩ := hp
    subst ev_39
    have h_41 := (hg_38 1 (by omega) (by decide) (by decide)).trans h_32
    have h_42 := (hg_38 5 (by omega) (by decide) (by decide)).trans h_33
    refine lv_iadd hx hb dX0_runOfAncestor_133 ?_
    refine lv_aload_n hx hb dX0_runOfAncestor_134 rfl (lv_at hl 0 rfl) ?_
    refine lv_bipush (v := 63) hx hb dX0_runOfAncestor_135 (by decide) ?_
    refine lv_iload_n hx hb dX0_runOfAncestor_137 rfl (lv_at hl 2 rfl) ?_
    refine lv_iload_n hx hb dX0_runOfAncestor_138 rfl (lv_at hl 3 rfl) ?_
    refine hc_i (va_runV (As := [.int 63, .int x, .int (nI d)]) (rest := [.int (((runS n t (selOfF selT t 9) x q).1) + ((runS n t (selOfF selT t 10) 1 ((runS n t (selOfF selT t 9) x q).2.1, (runS n t (selOfF selT t 9) x q).2.2.1, ((runS n t (selOfF selT t 9) x q).2).2.2.1, ((runS n t (selOfF selT t 9) x q).2).2.2.2)).1))]) S (ih ad _ k t r ((runS n t (selOfF selT t 10) 1 ((runS n t (selOfF selT t 9) x q).2.1, (runS n t (selOfF selT t 9) x q).2.2.1, ((runS n t (selOfF selT t 9) x q).2).2.2.1, ((runS n t (selOfF selT t 9) x q).2).2.2.2)).2.1, (runS n t (selOfF selT t 10) 1 ((runS n t (selOfF selT t 9) x q).2.1, (runS n t (selOfF selT t 9) x q).2.2.1, ((runS n t (selOfF selT t 9) x q).2).2.2.1, ((runS n t (selOfF selT t 9) x q).2).2.2.2)).2.2.1, ((runS n t (selOfF selT t 10) 1 ((runS n t (selOfF selT t 9) x q).2.1, (runS n t (selOfF selT t 9) x q).2.2.1, ((runS n t (selOfF selT t 9) x q).2).2.2.1, ((runS n t (selOfF selT t 9) x q).2).2.2.2)).2).2.2.1, ((runS n t (selOfF selT t 10) 1 ((runS n t (selOfF selT t 9) x q).2.1, (runS n t (selOfF selT t 9) x q).2.2.1, ((runS n t (selOfF selT t 9) x q).2).2.2.1, ((runS n t (selOfF selT t 9) x q).2).2.2.2)).2).2.2.2) 63 x d hk100 okB_63 hdn h_41 h_42 ⟨h_35, h_36, h_37⟩) (cwV 3 hts (gWSV q_l_0_83 q_im_X0_run q_se_X0_run q_in_0 q_co_X0_run) rfl rfl rfl (by decide +kernel) ⟨by dsimp only; omega, by dsimp only; omega⟩) (hPreVw hE hS (hrecv hE hW h_35 (q := (RX0, TX0, 12)) rfl) hW) rfl rfl hl.1 rfl (lv_room (Nat.le_of_ble_eq_true rfl)) dX0_runOfAncestor_139 ⟨Nat.le_of_ble_eq_true rfl, Nat.le_of_ble_eq_true rfl⟩) hS (fun rv_49 ct_43 H locs hp hW hS => ?_)
    obtain ⟨ev_48, ⟨h_44, h_45, h_46⟩, hg_47⟩ := hp
    subst ev_48
    have h_50 := (hg_47 1 (by omega) (by decide) (by decide)).trans h_41
    have h_51 := (hg_47 5 (by omega) (by decide) (by decide)).trans h_42
    refine lv_iadd hx hb dX0_runOfAncestor_142 ?_
    exact h_iret S hr hlk hS hW dX0_runOfAncestor_143 (by rw [bodyS_64]; exact ⟨rfl, ⟨h_44, h_45, h_46⟩, (fun j q0 q1 q2 => (hg_47 j q0 q1 q2).trans ((hg_38 j q0 q1 q2).trans (hg_29 j q0 q1 q2)))⟩)
  · refine lv_tableIn (off := 143) (tgt := 144) hx hb dX0_runOfAncestor_1 (by decide) (by decide) (by decide) (by decide) ?_
    refine lv_aload_n hx hb dX0_runOfAncestor_144 rfl (lv_at hl 0 rfl) ?_
    refine lv_aload_n hx hb dX0_runOfAncestor_145 rfl (lv_at hl 0 rfl) ?_
    refine hr_get S hE hW hk inX0 (C := RX0) (T := TX0) (N := 12) rfl 4 (by decide) q_f_0_38 rfl dX0_runOfAncestor_146 ?_
    refine lv_iconst (v := 1) hx hb dX0_runOfAncestor_149 (by decide) ?_
    refine lv_iadd hx hb dX0_runOfAncestor_150 ?_
    refine hr_put S hE hW hS hk inX0 (C := RX0) (T := TX0) (N := 12) tyX0_ok nmX0 rfl 4 (by decide) q_f_0_38 rfl rfl rfl (Nat.le_of_ble_eq_true rfl) dX0_runOfAncestor_151 (fun H locs ct_52 hW hk_53 hg_54 hz hS => ?_)
    have h_55 := (hg_54 1 (by omega)).trans h1
    have h_56 := (hg_54 5 (by omega)).trans h5
    have h_57 := (hg_54 2 (by omega)).trans h2
    have h_58 := (hg_54 3 (by omega)).trans h3
    have h_59 : ct_52 k = some (.inr (0, [.ref (ad 1), .ref (ad 2), .int t, .int q.1, .int (q.2.1 + 1), r 5, r 6, r 7, r 8, r 9, r 10, r 11])) := hk_53
    refine lv_aload_n hx hb dX0_runOfAncestor_154 rfl (lv_at hl 0 rfl) ?_
    refine hr_get S hE hW h_59 inX0 (C := RX0) (T := TX0) (N := 12) rfl 4 (by decide) q_f_0_38 rfl dX0_runOfAncestor_155 ?_
    refine lv_bipush (v := 7) hx hb dX0_runOfAncestor_158 (by decide) ?_
    refine lv_imul hx hb dX0_runOfAncestor_160 ?_
    refine lv_iload_n hx hb dX0_runOfAncestor_161 rfl (lv_at hl 2 rfl) ?_
    refine lv_iadd hx hb dX0_runOfAncestor_162 ?_
    exact h_iret S hr hlk hS hW dX0_runOfAncestor_163 (by rw [bodyS_70]; exact ⟨rfl, ⟨h_59, h_57, h_58⟩, (fun j q0 q1 q2 => hg_54 j q0)⟩)
set_option maxRecDepth 100000 in
set_option maxHeartbeats 4000000 in
theorem c_X0_runOfEarlierKind (l : Launch) (G : hG) (ad : Nat → Nat) (ct : Nat → Option va_E) (n : Nat) (ih : RunC l G n) {k : Nat} {t : Int32} {r : Nat → Value} {q : St} (hk100 : 100 ≤ k) (h1 : ct 1 = some (.inr (1, [.ref (ad 4), .ref (ad 5)]))) (h5 : ct 5 = some (.inl (G.2.1.1, 216, .inl selT))) (hd : dW G ad ct k t r q) (d : Nat) (hdn : d + n = 40) (b x : Int32) (hbd : okBE b)  : Met l yX0_runOfEarlierKind wzX0_runOfEarlierKind { frames := 3 * n + 4, cells := 0, slots := 0, locals := 70 * n + 67 } (hPw [.ref (ad k), .int b, .int x, .int (nI d)] G ad ct) (hQi (fun rr ct1 => rr = (bodyS (runS n t) t b x q).1 ∧ dW G ad ct1 k t r (bodyS (runS n t) t b x q).2 ∧ ∀ j, j ≠ k → j ≠ 2 → j ≠ 3 → ct1 j = ct j) G ad) 0 0 (hA G.2.2.2) := by
  refine hMetw (by decide) (Nat.le_of_ble_eq_true rfl) (fun p e s m below meth c ls S hr hlk hE hW hl => ?_)
  obtain ⟨hx, hb, hml, hown, hts⟩ := id S
  have hS : va_S (hA G.2.2.2) s.heap s.heap [] := va_S.rf
  have hl : lv_has ls 4 [(0, .ref (ad k)), (1, .int b), (2, .int x), (3, .int (nI d))] := hl
  obtain ⟨hk, h2, h3⟩ := hd
  refine lv_iload_n hx hb dX0_runOfEarlierKind_0 rfl (lv_at hl 1 rfl) ?_
  unfold okBE at hbd
  rcases hbd with rfl | rfl | rfl | rfl | rfl | rfl | rfl | rfl | rfl | rfl | rfl
  · refine lv_tableIn (off := 187) (tgt := 188) hx hb dX0_runOfEarlierKind_1 (by decide) (by decide) (by decide) (by decide) ?_
    refine lv_aload_n hx hb dX0_runOfEarlierKind_188 rfl (lv_at hl 0 rfl) ?_
    refine hr_get S hE hW hk inX0 (C := RX0) (T := TX0) (N := 12) rfl 3 (by decide) q_f_0_23 rfl dX0_runOfEarlierKind_189 ?_
    refine lv_iload_n hx hb dX0_runOfEarlierKind_192 rfl (lv_at hl 2 rfl) ?_
    refine lv_iadd hx hb dX0_runOfEarlierKind_193 ?_
    exact h_iret S hr hlk hS hW dX0_runOfEarlierKind_194 (by rw [bodyS_100]; exact ⟨rfl, ⟨hk, h2, h3⟩, (fun j q0 q1 q2 => rfl)⟩)
  · refine lv_tableIn (off := 194) (tgt := 195) hx hb dX0_runOfEarlierKind_1 (by decide) (by decide) (by decide) (by decide) ?_
    refine lv_aload_n hx hb dX0_runOfEarlierKind_195 rfl (lv_at hl 0 rfl) ?_
    refine lv_bipush (v := 7) hx hb dX0_runOfEarlierKind_196 (by decide) ?_
    refine lv_bipush (v := 9) hx hb dX0_runOfEarlierKind_198 (by decide) ?_
    refine lv_iload_n hx hb dX0_runOfEarlierKind_200 rfl (lv_at hl 2 rfl) ?_
    refine lv_iconst (v := 2) hx hb dX0_runOfEarlierKind_201 (by decide) ?_
    refine lv_iadd hx hb dX0_runOfEarlierKind_202 ?_
    refine lv_iload_n hx hb dX0_runOfEarlierKind_203 rfl (lv_at hl 3 rfl) ?_
    refine hc_i (va_runV (As := [.int 7, .int 9, .int (x + 2), .int (nI d)]) (rest := []) S (c_X0_parentAct l G ad _ n ih (q := q) hk100 h1 h5 ⟨hk, h2, h3⟩ d hdn 7 9 (x + 2)) (cwV 4 hts (gWSV q_l_0_112 q_im_X0_parentAct q_se_X0_parentAct q_in_0 q_co_X0_parentAct) rfl rfl rfl (by decide +kernel) ⟨by dsimp only; omega, by dsimp only; omega⟩) (hPreVw hE hS (hrecv hE hW hk (q := (RX0, TX0, 12)) rfl) hW) rfl rfl hl.1 rfl (lv_room (Nat.le_of_ble_eq_true rfl)) dX0_runOfEarlierKind_204 ⟨Nat.le_of_ble_eq_true rfl, Nat.le_of_ble_eq_true rfl⟩) hS (fun rv_7 ct_1 H locs hp hW hS => ?_)
    obtain ⟨ev_6, ⟨h_2, h_3, h_4⟩, hg_5⟩ := hp
    subst ev_6
    have h_8 := (hg_5 1 (by omega) (by decide) (by decide)).trans h1
    have h_9 := (hg_5 5 (by omega) (by decide) (by decide)).trans h5
    refine lv_iconst (v := 1) hx hb dX0_runOfEarlierKind_207 (by decide) ?_
    refine lv_iadd hx hb dX0_runOfEarlierKind_208 ?_
    exact h_iret S hr hlk hS hW dX0_runOfEarlierKind_209 (by rw [bodyS_101]; exact ⟨rfl, ⟨h_2, h_3, h_4⟩, (fun j q0 q1 q2 => hg_5 j q0 q1 q2)⟩)
  · refine lv_tableIn (off := 209) (tgt := 210) hx hb dX0_runOfEarlierKind_1 (by decide) (by decide) (by decide) (by decide) ?_
    refine lv_aload_n hx hb dX0_runOfEarlierKind_210 rfl (lv_at hl 0 rfl) ?_
    refine lv_bipush (v := 8) hx hb dX0_runOfEarlierKind_211 (by decide) ?_
    refine lv_bipush (v := 10) hx hb dX0_runOfEarlierKind_213 (by decide) ?_
    refine lv_iload_n hx hb dX0_runOfEarlierKind_215 rfl (lv_at hl 2 rfl) ?_
    refine lv_iload_n hx hb dX0_runOfEarlierKind_216 rfl (lv_at hl 3 rfl) ?_
    refine hc_i (va_runV (As := [.int 8, .int 10, .int x, .int (nI d)]) (rest := []) S (c_X0_parentAct l G ad _ n ih (q := q) hk100 h1 h5 ⟨hk, h2, h3⟩ d hdn 8 10 x) (cwV 4 hts (gWSV q_l_0_112 q_im_X0_parentAct q_se_X0_parentAct q_in_0 q_co_X0_parentAct) rfl rfl rfl (by decide +kernel) ⟨by dsimp only; omega, by dsimp only; omega⟩) (hPreVw hE hS (hrecv hE hW hk (q := (RX0, TX0, 12)) rfl) hW) rfl rfl hl.1 rfl (lv_room (Nat.le_of_ble_eq_true rfl)) dX0_runOfEarlierKind_217 ⟨Nat.le_of_ble_eq_true rfl, Nat.le_of_ble_eq_true rfl⟩) hS (fun rv_16 ct_10 H locs hp hW hS => ?_)
    obtain ⟨ev_15, ⟨h_11, h_12, h_13⟩, hg_14⟩ := hp
    subst ev_15
    have h_17 := (hg_14 1 (by omega) (by decide) (by decide)).trans h1
    have h_18 := (hg_14 5 (by omega) (by decide) (by decide)).trans h5
    refine lv_iconst (v := 2) hx hb dX0_runOfEarlierKind_220 (by decide) ?_
    refine lv_imul hx hb dX0_runOfEarlierKind_221 ?_
    refine lv_aload_n hx hb dX0_runOfEarlierKind_222 rfl (lv_at hl 0 rfl) ?_
    refine lv_bipush (v := 112) hx hb dX0_runOfEarlierKind_223 (by decide) ?_
    refine lv_iload_n hx hb dX0_runOfEarlierKind_225 rfl (lv_at hl 2 rfl) ?_
    refine lv_iload_n hx hb dX0_runOfEarlierKind_226 rfl (lv_at hl 3 rfl) ?_
    refine hc_i (va_runV (As := [.int 112, .int x, .int (nI d)]) (rest := [.int (((runS n t (selOfF selT (parentF 8) 10) x q).1) * 2)]) S (ih ad _ k t r ((runS n t (selOfF selT (parentF 8) 10) x q).2.1, (runS n t (selOfF selT (parentF 8) 10) x q).2.2.1, ((runS n t (selOfF selT (parentF 8) 10) x q).2).2.2.1, ((runS n t (selOfF selT (parentF 8) 10) x q).2).2.2.2) 112 x d hk100 okB_112 hdn h_17 h_18 ⟨h_11, h_12, h_13⟩) (cwV 3 hts (gWSV q_l_0_83 q_im_X0_run q_se_X0_run q_in_0 q_co_X0_run) rfl rfl rfl (by decide +kernel) ⟨by dsimp only; omega, by dsimp only; omega⟩) (hPreVw hE hS (hrecv hE hW h_11 (q := (RX0, TX0, 12)) rfl) hW) rfl rfl hl.1 rfl (lv_room (Nat.le_of_ble_eq_true rfl)) dX0_runOfEarlierKind_227 ⟨Nat.le_of_ble_eq_true rfl, Nat.le_of_ble_eq_true rfl⟩) hS (fun rv_25 ct_19 H locs hp hW hS => ?_)
    obtain ⟨ev_24, ⟨h_20, h_21, h_22⟩, hg_23⟩ := hp
    subst ev_24
    have h_26 := (hg_23 1 (by omega) (by decide) (by decide)).trans h_17
    have h_27 := (hg_23 5 (by omega) (by decide) (by decide)).trans h_18
    refine lv_iadd hx hb dX0_runOfEarlierKind_230 ?_
    exact h_iret S hr hlk hS hW dX0_runOfEarlierKind_231 (by rw [bodyS_110]; exact ⟨rfl, ⟨h_20, h_21, h_22⟩, (fun j q0 q1 q2 => (hg_23 j q0 q1 q2).trans (hg_14 j q0 q1 q2))⟩)
  · refine lv_tableIn (off := 231) (tgt := 232) hx hb dX0_runOfEarlierKind_1 (by decide) (by decide) (by decide) (by decide) ?_
    refine lv_aload_n hx hb dX0_runOfEarlierKind_232 rfl (lv_at hl 0 rfl) ?_
    refine lv_iconst (v := 3) hx hb dX0_runOfEarlierKind_233 (by decide) ?_
    refine lv_iconst (v := 4) hx hb dX0_runOfEarlierKind_234 (by decide) ?_
    refine lv_iload_n hx hb dX0_runOfEarlierKind_235 rfl (lv_at hl 2 rfl) ?_
    refine lv_iload_n hx hb dX0_runOfEarlierKind_236 rfl (lv_at hl 3 rfl) ?_
    refine hc_i (va_runV (As := [.int 3, .int 4, .int x, .int (nI d)]) (rest := []) S (c_X0_interfaceAct l G ad _ n ih (q := q) hk100 h1 h5 ⟨hk, h2, h3⟩ d hdn 3 4 x) (cwV 4 hts (gWSV q_l_0_108 q_im_X0_interfaceAct q_se_X0_interfaceAct q_in_0 q_co_X0_interfaceAct) rfl rfl rfl (by decide +kernel) ⟨by dsimp only; omega, by dsimp only; omega⟩) (hPreVw hE hS (hrecv hE hW hk (q := (RX0, TX0, 12)) rfl) hW) rfl rfl hl.1 rfl (lv_room (Nat.le_of_ble_eq_true rfl)) dX0_runOfEarlierKind_237 ⟨Nat.le_of_ble_eq_true rfl, Nat.le_of_ble_eq_true rfl⟩) hS (fun rv_34 ct_28 H locs hp hW hS => ?_)
    obtain ⟨ev_33, ⟨h_29, h_30, h_31⟩, hg_32⟩ := hp
    subst ev_33
    have h_35 := (hg_32 1 (by omega) (by decide) (by decide)).trans h1
    have h_36 := (hg_32 5 (by omega) (by decide) (by decide)).trans h5
    refine lv_iconst (v := 1) hx hb dX0_runOfEarlierKind_240 (by decide) ?_
    refine lv_isub hx hb dX0_runOfEarlierKind_241 ?_
    exact h_iret S hr hlk hS hW dX0_runOfEarlierKind_242 (by rw [bodyS_111]; exact ⟨rfl, ⟨h_29, h_30, h_31⟩, (fun j q0 q1 q2 => hg_32 j q0 q1 q2)⟩)
  · refine lv_tableIn (off := 242) (tgt := 243) hx hb dX0_runOfEarlierKind_1 (by decide) (by decide) (by decide) (by decide) ?_
    refine lv_aload_n hx hb dX0_runOfEarlierKind_243 rfl (lv_at hl 0 rfl) ?_
    refine hr_get S hE hW hk inX0 (C := RX0) (T := TX0) (N := 12) rfl 4 (by decide) q_f_0_38 rfl dX0_runOfEarlierKind_244 ?_
    refine lv_iload_n hx hb dX0_runOfEarlierKind_247 rfl (lv_at hl 2 rfl) ?_
    refine lv_isub hx hb dX0_runOfEarlierKind_248 ?_
    exact h_iret S hr hlk hS hW dX0_runOfEarlierKind_249 (by rw [bodyS_112]; exact ⟨rfl, ⟨hk, h2, h3⟩, (fun j q0 q1 q2 => rfl)⟩)
  · refine lv_tableIn (off := 249) (tgt := 250) hx hb dX0_runOfEarlierKind_1 (by decide) (by decide) (by decide) (by decide) ?_
    refine lv_aload_n hx hb dX0_runOfEarlierKind_250 rfl (lv_at hl 0 rfl) ?_
    refine lv_iconst (v := 5) hx hb dX0_runOfEarlierKind_251 (by decide) ?_
    refine lv_iload_n hx hb dX0_runOfEarlierKind_252 rfl (lv_at hl 2 rfl) ?_
    refine lv_iload_n hx hb dX0_runOfEarlierKind_253 rfl (lv_at hl 3 rfl) ?_
    refine hc_i (va_runV (As := [.int 5, .int x, .int (nI d)]) (rest := []) S (c_X0_act l G ad _ n ih (q := q) hk100 h1 h5 ⟨hk, h2, h3⟩ d hdn 5 x) (cwV 3 hts (gWSV q_l_0_69 q_im_X0_act q_se_X0_act q_in_0 q_co_X0_act) rfl rfl rfl (by decide +kernel) ⟨by dsimp only; omega, by dsimp only; omega⟩) (hPreVw hE hS (hrecv hE hW hk (q := (RX0, TX0, 12)) rfl) hW) rfl rfl hl.1 rfl (lv_room (Nat.le_of_ble_eq_true rfl)) dX0_runOfEarlierKind_254 ⟨Nat.le_of_ble_eq_true rfl, Nat.le_of_ble_eq_true rfl⟩) hS (fun rv_43 ct_37 H locs hp hW hS => ?_)
    obtain ⟨ev_42, ⟨h_38, h_39, h_40⟩, hg_41⟩ := hp
    subst ev_42
    have h_44 := (hg_41 1 (by omega) (by decide) (by decide)).trans h1
    have h_45 := (hg_41 5 (by omega) (by decide) (by decide)).trans h5
    refine lv_iconst (v := 3) hx hb dX0_runOfEarlierKind_257 (by decide) ?_
    refine lv_imul hx hb dX0_runOfEarlierKind_258 ?_
    refine lv_aload_n hx hb dX0_runOfEarlierKind_259 rfl (lv_at hl 0 rfl) ?_
    refine hr_get S hE hW h_38 inX0 (C := RX0) (T := TX0) (N := 12) rfl 3 (by decide) q_f_0_23 rfl dX0_runOfEarlierKind_260 ?_
    refine lv_iadd hx hb dX0_runOfEarlierKind_263 ?_
    exact h_iret S hr hlk hS hW dX0_runOfEarlierKind_264 (by rw [bodyS_120]; exact ⟨rfl, ⟨h_38, h_39, h_40⟩, (fun j q0 q1 q2 => hg_41 j q0 q1 q2)⟩)
  · refine lv_tableIn (off := 264) (tgt := 265) hx hb dX0_runOfEarlierKind_1 (by decide) (by decide) (by decide) (by decide) ?_
    refine lv_aload_n hx hb dX0_runOfEarlierKind_265 rfl (lv_at hl 0 rfl) ?_
    refine lv_bipush (v := 10) hx hb dX0_runOfEarlierKind_266 (by decide) ?_
    refine lv_iconst (v := 0) hx hb dX0_runOfEarlierKind_268 (by decide) ?_
    refine lv_iload_n hx hb dX0_runOfEarlierKind_269 rfl (lv_at hl 2 rfl) ?_
    refine lv_iload_n hx hb dX0_runOfEarlierKind_270 rfl (lv_at hl 3 rfl) ?_
    refine hc_i (va_runV (As := [.int 10, .int 0, .int x, .int (nI d)]) (rest := []) S (c_X0_parentAct l G ad _ n ih (q := q) hk100 h1 h5 ⟨hk, h2, h3⟩ d hdn 10 0 x) (cwV 4 hts (gWSV q_l_0_112 q_im_X0_parentAct q_se_X0_parentAct q_in_0 q_co_X0_parentAct) rfl rfl rfl (by decide +kernel) ⟨by dsimp only; omega, by dsimp only; omega⟩) (hPreVw hE hS (hrecv hE hW hk (q := (RX0, TX0, 12)) rfl) hW) rfl rfl hl.1 rfl (lv_room (Nat.le_of_ble_eq_true rfl)) dX0_runOfEarlierKind_271 ⟨Nat.le_of_ble_eq_true rfl, Nat.le_of_ble_eq_true rfl⟩) hS (fun rv_52 ct_46 H locs hp hW hS => ?_)
    obtain ⟨ev_51, ⟨h_47, h_48, h_49⟩, hg_50⟩ := hp
    subst ev_51
    have h_53 := (hg_50 1 (by omega) (by decide) (by decide)).trans h1
    have h_54 := (hg_50 5 (by omega) (by decide) (by decide)).trans h5
    refine lv_iconst (v := 3) hx hb dX0_runOfEarlierKind_274 (by decide) ?_
    refine lv_imul hx hb dX0_runOfEarlierKind_275 ?_
    exact h_iret S hr hlk hS hW dX0_runOfEarlierKind_276 (by rw [bodyS_130]; exact ⟨rfl, ⟨h_47, h_48, h_49⟩, (fun j q0 q1 q2 => hg_50 j q0 q1 q2)⟩)
  · refine lv_tableIn (off := 276) (tgt := 277) hx hb dX0_runOfEarlierKind_1 (by decide) (by decide) (by decide) (by decide) ?_
    refine lv_aload_n hx hb dX0_runOfEarlierKind_277 rfl (lv_at hl 0 rfl) ?_
    refine lv_bipush (v := 10) hx hb dX0_runOfEarlierKind_278 (by decide) ?_
    refine lv_iconst (v := 1) hx hb dX0_runOfEarlierKind_280 (by decide) ?_
    refine lv_iload_n hx hb dX0_runOfEarlierKind_281 rfl (lv_at hl 2 rfl) ?_
    refine lv_iconst (v := 1) hx hb dX0_runOfEarlierKind_282 (by decide) ?_
    refine lv_iadd hx hb dX0_runOfEarlierKind_283 ?_
    refine lv_iload_n hx hb dX0_runOfEarlierKind_284 rfl (lv_at hl 3 rfl) ?_
    refine hc_i (va_runV (As := [.int 10, .int 1, .int (x + 1), .int (nI d)]) (rest := []) S (c_X0_parentAct l G ad _ n ih (q := q) hk100 h1 h5 ⟨hk, h2, h3⟩ d hdn 10 1 (x + 1)) (cwV 4 hts (gWSV q_l_0_112 q_im_X0_parentAct q_se_X0_parentAct q_in_0 q_co_X0_parentAct) rfl rfl rfl (by decide +kernel) ⟨by dsimp only; omega, by dsimp only; omega⟩) (hPreVw hE hS (hrecv hE hW hk (q := (RX0, TX0, 12)) rfl) hW) rfl rfl hl.1 rfl (lv_room (Nat.le_of_ble_eq_true rfl)) dX0_runOfEarlierKind_285 ⟨Nat.le_of_ble_eq_true rfl, Nat.le_of_ble_eq_true rfl⟩) hS (fun rv_61 ct_55 H locs hp hW hS => ?_)
    obtain ⟨ev_60, ⟨h_56, h_57, h_58⟩, hg_59⟩ := hp
    subst ev_60
    have h_62 := (hg_59 1 (by omega) (by decide) (by decide)).trans h1
    have h_63 := (hg_59 5 (by omega) (by decide) (by decide)).trans h5
    refine lv_iconst (v := 5) hx hb dX0_runOfEarlierKind_288 (by decide) ?_
    refine lv_iadd hx hb dX0_runOfEarlierKind_289 ?_
    exact h_iret S hr hlk hS hW dX0_runOfEarlierKind_290 (by rw [bodyS_131]; exact ⟨rfl, ⟨h_56, h_57, h_58⟩, (fun j q0 q1 q2 => hg_59 j q0 q1 q2)⟩)
  · refine lv_tableIn (off := 290) (tgt := 291) hx hb dX0_runOfEarlierKind_1 (by decide) (by decide) (by decide) (by decide) ?_
    refine lv_aload_n hx hb dX0_runOfEarlierKind_291 rfl (lv_at hl 0 rfl) ?_
    refine hr_get S hE hW hk inX0 (C := RX0) (T := TX0) (N := 12) rfl 3 (by decide) q_f_0_23 rfl dX0_runOfEarlierKind_292 ?_
    refine lv_iload_n hx hb dX0_runOfEarlierKind_295 rfl (lv_at hl 2 rfl) ?_
    refine lv_isub hx hb dX0_runOfEarlierKind_296 ?_
    exact h_iret S hr hlk hS hW dX0_runOfEarlierKind_297 (by rw [bodyS_140]; exact ⟨rfl, ⟨hk, h2, h3⟩, (fun j q0 q1 q2 => rfl)⟩)
  · refine lv_tableIn (off := 297) (tgt := 298) hx hb dX0_runOfEarlierKind_1 (by decide) (by decide) (by decide) (by decide) ?_
    refine lv_aload_n hx hb dX0_runOfEarlierKind_298 rfl (lv_at hl 0 rfl) ?_
    refine lv_bipush (v := 11) hx hb dX0_runOfEarlierKind_299 (by decide) ?_
    refine lv_iconst (v := 2) hx hb dX0_runOfEarlierKind_301 (by decide) ?_
    refine lv_iload_n hx hb dX0_runOfEarlierKind_302 rfl (lv_at hl 2 rfl) ?_
    refine lv_iload_n hx hb dX0_runOfEarlierKind_303 rfl (lv_at hl 3 rfl) ?_
    refine hc_i (va_runV (As := [.int 11, .int 2, .int x, .int (nI d)]) (rest := []) S (c_X0_parentAct l G ad _ n ih (q := q) hk100 h1 h5 ⟨hk, h2, h3⟩ d hdn 11 2 x) (cwV 4 hts (gWSV q_l_0_112 q_im_X0_parentAct q_se_X0_parentAct q_in_0 q_co_X0_parentAct) rfl rfl rfl (by decide +kernel) ⟨by dsimp only; omega, by dsimp only; omega⟩) (hPreVw hE hS (hrecv hE hW hk (q := (RX0, TX0, 12)) rfl) hW) rfl rfl hl.1 rfl (lv_room (Nat.le_of_ble_eq_true rfl)) dX0_runOfEarlierKind_304 ⟨Nat.le_of_ble_eq_true rfl, Nat.le_of_ble_eq_true rfl⟩) hS (fun rv_70 ct_64 H locs hp hW hS => ?_)
    obtain ⟨ev_69, ⟨h_65, h_66, h_67⟩, hg_68⟩ := hp
    subst ev_69
    have h_71 := (hg_68 1 (by omega) (by decide) (by decide)).trans h1
    have h_72 := (hg_68 5 (by omega) (by decide) (by decide)).trans h5
    refine lv_aload_n hx hb dX0_runOfEarlierKind_307 rfl (lv_at hl 0 rfl) ?_
    refine lv_iconst (v := 2) hx hb dX0_runOfEarlierKind_308 (by decide) ?_
    refine lv_iconst (v := 2) hx hb dX0_runOfEarlierKind_309 (by decide) ?_
    refine lv_iconst (v := 1) hx hb dX0_runOfEarlierKind_310 (by decide) ?_
    refine lv_iload_n hx hb dX0_runOfEarlierKind_311 rfl (lv_at hl 3 rfl) ?_
    refine hc_i (va_runV (As := [.int 2, .int 2, .int 1, .int (nI d)]) (rest := [.int ((runS n t (selOfF selT (parentF 11) 2) x q).1)]) S (c_X0_interfaceAct l G ad _ n ih (q := ((runS n t (selOfF selT (parentF 11) 2) x q).2.1, (runS n t (selOfF selT (parentF 11) 2) x q).2.2.1, ((runS n t (selOfF selT (parentF 11) 2) x q).2).2.2.1, ((runS n t (selOfF selT (parentF 11) 2) x q).2).2.2.2)) hk100 h_71 h_72 ⟨h_65, h_66, h_67⟩ d hdn 2 2 1) (cwV 4 hts (gWSV q_l_0_108 q_im_X0_interfaceAct q_se_X0_interfaceAct q_in_0 q_co_X0_interfaceAct) rfl rfl rfl (by decide +kernel) ⟨by dsimp only; omega, by dsimp only; omega⟩) (hPreVw hE hS (hrecv hE hW h_65 (q := (RX0, TX0, 12)) rfl) hW) rfl rfl hl.1 rfl (lv_room (Nat.le_of_ble_eq_true rfl)) dX0_runOfEarlierKind_312 ⟨Nat.le_of_ble_eq_true rfl, Nat.le_of_ble_eq_true rfl⟩) hS (fun rv_79 ct_73 H locs hp hW hS => ?_)
    obtain ⟨ev_78, ⟨h_74, h_75, h_76⟩, hg_77⟩ := hp
    subst ev_78
    have h_80 := (hg_77 1 (by omega) (by decide) (by decide)).trans h_71
    have h_81 := (hg_77 5 (by omega) (by decide) (by decide)).trans h_72
    refine lv_isub hx hb dX0_runOfEarlierKind_315 ?_
    exact h_iret S hr hlk hS hW dX0_runOfEarlierKind_316 (by rw [bodyS_141]; exact ⟨rfl, ⟨h_74, h_75, h_76⟩, (fun j q0 q1 q2 => (hg_77 j q0 q1 q2).trans (hg_68 j q0 q1 q2))⟩)
  · refine lv_tableIn (off := 316) (tgt := 317) hx hb dX0_runOfEarlierKind_1 (by decide) (by decide) (by decide) (by decide) ?_
    refine lv_aload_n hx hb dX0_runOfEarlierKind_317 rfl (lv_at hl 0 rfl) ?_
    refine lv_bipush (v := 11) hx hb dX0_runOfEarlierKind_318 (by decide) ?_
    refine lv_bipush (v := 10) hx hb dX0_runOfEarlierKind_320 (by decide) ?_
    refine lv_iload_n hx hb dX0_runOfEarlierKind_322 rfl (lv_at hl 2 rfl) ?_
    refine lv_iconst (v := 1) hx hb dX0_runOfEarlierKind_323 (by decide) ?_
    refine lv_iadd hx hb dX0_runOfEarlierKind_324 ?_
    refine lv_iload_n hx hb dX0_runOfEarlierKind_325 rfl (lv_at hl 3 rfl) ?_
    refine hc_i (va_runV (As := [.int 11, .int 10, .int (x + 1), .int (nI d)]) (rest := []) S (c_X0_parentAct l G ad _ n ih (q := q) hk100 h1 h5 ⟨hk, h2, h3⟩ d hdn 11 10 (x + 1)) (cwV 4 hts (gWSV q_l_0_112 q_im_X0_parentAct q_se_X0_parentAct q_in_0 q_co_X0_parentAct) rfl rfl rfl (by decide +kernel) ⟨by dsimp only; omega, by dsimp only; omega⟩) (hPreVw hE hS (hrecv hE hW hk (q := (RX0, TX0, 12)) rfl) hW) rfl rfl hl.1 rfl (lv_room (Nat.le_of_ble_eq_true rfl)) dX0_runOfEarlierKind_326 ⟨Nat.le_of_ble_eq_true rfl, Nat.le_of_ble_eq_true rfl⟩) hS (fun rv_88 ct_82 H locs hp hW hS => ?_)
    obtain ⟨ev_87, ⟨h_83, h_84, h_85⟩, hg_86⟩ := hp
    subst ev_87
    have h_89 := (hg_86 1 (by omega) (by decide) (by decide)).trans h1
    have h_90 := (hg_86 5 (by omega) (by decide) (by decide)).trans h5
    refine lv_iconst (v := 4) hx hb dX0_runOfEarlierKind_329 (by decide) ?_
    refine lv_iadd hx hb dX0_runOfEarlierKind_330 ?_
    exact h_iret S hr hlk hS hW dX0_runOfEarlierKind_331 (by rw [bodyS_142]; exact ⟨rfl, ⟨h_83, h_84, h_85⟩, (fun j q0 q1 q2 => hg_86 j q0 q1 q2)⟩)
set_option maxRecDepth 100000 in
set_option maxHeartbeats 4000000 in
theorem c_X0_runOfLaterKind (l : Launch) (G : hG) (ad : Nat → Nat) (ct : Nat → Option va_E) (n : Nat) (ih : RunC l G n) {k : Nat} {t : Int32} {r : Nat → Value} {q : St} (hk100 : 100 ≤ k) (h1 : ct 1 = some (.inr (1, [.ref (ad 4), .ref (ad 5)]))) (h5 : ct 5 = some (.inl (G.2.1.1, 216, .inl selT))) (hd : dW G ad ct k t r q) (d : Nat) (hdn : d + n = 40) (b x : Int32) (hbd : okBL b)  : Met l yX0_runOfLaterKind wzX0_runOfLaterKind { frames := 3 * n + 4, cells := 0, slots := 0, locals := 70 * n + 67 } (hPw [.ref (ad k), .int b, .int x, .int (nI d)] G ad ct) (hQi (fun rr ct1 => rr = (bodyS (runS n t) t b x q).1 ∧ dW G ad ct1 k t r (bodyS (runS n t) t b x q).2 ∧ ∀ j, j ≠ k → j ≠ 2 → j ≠ 3 → ct1 j = ct j) G ad) 0 0 (hA G.2.2.2) := by
  refine hMetw (by decide) (Nat.le_of_ble_eq_true rfl) (fun p e s m below meth c ls S hr hlk hE hW hl => ?_)
  obtain ⟨hx, hb, hml, hown, hts⟩ := id S
  have hS : va_S (hA G.2.2.2) s.heap s.heap [] := va_S.rf
  have hl : lv_has ls 4 [(0, .ref (ad k)), (1, .int b), (2, .int x), (3, .int (nI d))] := hl
  obtain ⟨hk, h2, h3⟩ := hd
  refine lv_iload_n hx hb dX0_runOfLaterKind_0 rfl (lv_at hl 1 rfl) ?_
  unfold okBL at hbd
  rcases hbd with rfl | rfl | rfl | rfl | rfl | rfl | rfl | rfl | rfl | rfl | rfl | rfl | rfl | rfl
  · refine lv_tableIn (off := 235) (tgt := 236) hx hb dX0_runOfLaterKind_1 (by decide) (by decide) (by decide) (by decide) ?_
    refine lv_aload_n hx hb dX0_runOfLaterKind_236 rfl (lv_at hl 0 rfl) ?_
    refine lv_iconst (v := 5) hx hb dX0_runOfLaterKind_237 (by decide) ?_
    refine lv_iload_n hx hb dX0_runOfLaterKind_238 rfl (lv_at hl 2 rfl) ?_
    refine lv_iload_n hx hb dX0_runOfLaterKind_239 rfl (lv_at hl 3 rfl) ?_
    refine hc_i (va_runV (As := [.int 5, .int x, .int (nI d)]) (rest := []) S (c_X0_act l G ad _ n ih (q := q) hk100 h1 h5 ⟨hk, h2, h3⟩ d hdn 5 x) (cwV 3 hts (gWSV q_l_0_69 q_im_X0_act q_se_X0_act q_in_0 q_co_X0_act) rfl rfl rfl (by decide +kernel) ⟨by dsimp only; omega, by dsimp only; omega⟩) (hPreVw hE hS (hrecv hE hW hk (q := (RX0, TX0, 12)) rfl) hW) rfl rfl hl.1 rfl (lv_room (Nat.le_of_ble_eq_true rfl)) dX0_runOfLaterKind_240 ⟨Nat.le_of_ble_eq_true rfl, Nat.le_of_ble_eq_true rfl⟩) hS (fun rv_7 ct_1 H locs hp hW hS => ?_)
    obtain ⟨ev_6, ⟨h_2, h_3, h_4⟩, hg_5⟩ := hp
    subst ev_6
    have h_8 := (hg_5 1 (by omega) (by decide) (by decide)).trans h1
    have h_9 := (hg_5 5 (by omega) (by decide) (by decide)).trans h5
    refine lv_aload_n hx hb dX0_runOfLaterKind_243 rfl (lv_at hl 0 rfl) ?_
    refine hr_get S hE hW h_2 inX0 (C := RX0) (T := TX0) (N := 12) rfl 3 (by decide) q_f_0_23 rfl dX0_runOfLaterKind_244 ?_
    refine lv_iadd hx hb dX0_runOfLaterKind_247 ?_
    exact h_iret S hr hlk hS hW dX0_runOfLaterKind_248 (by rw [bodyS_150]; exact ⟨rfl, ⟨h_2, h_3, h_4⟩, (fun j q0 q1 q2 => hg_5 j q0 q1 q2)⟩)
  · refine lv_tableIn (off := 248) (tgt := 249) hx hb dX0_runOfLaterKind_1 (by decide) (by decide) (by decide) (by decide) ?_
    refine lv_aload_n hx hb dX0_runOfLaterKind_249 rfl (lv_at hl 0 rfl) ?_
    refine lv_bipush (v := 12) hx hb dX0_runOfLaterKind_250 (by decide) ?_
    refine lv_bipush (v := 9) hx hb dX0_runOfLaterKind_252 (by decide) ?_
    refine lv_iload_n hx hb dX0_runOfLaterKind_254 rfl (lv_at hl 2 rfl) ?_
    refine lv_iload_n hx hb dX0_runOfLaterKind_255 rfl (lv_at hl 3 rfl) ?_
    refine hc_i (va_runV (As := [.int 12, .int 9, .int x, .int (nI d)]) (rest := []) S (c_X0_parentAct l G ad _ n ih (q := q) hk100 h1 h5 ⟨hk, h2, h3⟩ d hdn 12 9 x) (cwV 4 hts (gWSV q_l_0_112 q_im_X0_parentAct q_se_X0_parentAct q_in_0 q_co_X0_parentAct) rfl rfl rfl (by decide +kernel) ⟨by dsimp only; omega, by dsimp only; omega⟩) (hPreVw hE hS (hrecv hE hW hk (q := (RX0, TX0, 12)) rfl) hW) rfl rfl hl.1 rfl (lv_room (Nat.le_of_ble_eq_true rfl)) dX0_runOfLaterKind_256 ⟨Nat.le_of_ble_eq_true rfl, Nat.le_of_ble_eq_true rfl⟩) hS (fun rv_16 ct_10 H locs hp hW hS => ?_)
    obtain ⟨ev_15, ⟨h_11, h_12, h_13⟩, hg_14⟩ := hp
    subst ev_15
    have h_17 := (hg_14 1 (by omega) (by decide) (by decide)).trans h1
    have h_18 := (hg_14 5 (by omega) (by decide) (by decide)).trans h5
    refine lv_aload_n hx hb dX0_runOfLaterKind_259 rfl (lv_at hl 0 rfl) ?_
    refine lv_iconst (v := 2) hx hb dX0_runOfLaterKind_260 (by decide) ?_
    refine lv_iconst (v := 0) hx hb dX0_runOfLaterKind_261 (by decide) ?_
    refine lv_iload_n hx hb dX0_runOfLaterKind_262 rfl (lv_at hl 3 rfl) ?_
    refine hc_i (va_runV (As := [.int 2, .int 0, .int (nI d)]) (rest := [.int ((runS n t (selOfF selT (parentF 12) 9) x q).1)]) S (c_X0_act l G ad _ n ih (q := ((runS n t (selOfF selT (parentF 12) 9) x q).2.1, (runS n t (selOfF selT (parentF 12) 9) x q).2.2.1, ((runS n t (selOfF selT (parentF 12) 9) x q).2).2.2.1, ((runS n t (selOfF selT (parentF 12) 9) x q).2).2.2.2)) hk100 h_17 h_18 ⟨h_11, h_12, h_13⟩ d hdn 2 0) (cwV 3 hts (gWSV q_l_0_69 q_im_X0_act q_se_X0_act q_in_0 q_co_X0_act) rfl rfl rfl (by decide +kernel) ⟨by dsimp only; omega, by dsimp only; omega⟩) (hPreVw hE hS (hrecv hE hW h_11 (q := (RX0, TX0, 12)) rfl) hW) rfl rfl hl.1 rfl (lv_room (Nat.le_of_ble_eq_true rfl)) dX0_runOfLaterKind_263 ⟨Nat.le_of_ble_eq_true rfl, Nat.le_of_ble_eq_true rfl⟩) hS (fun rv_25 ct_19 H locs hp hW hS => ?_)
    obtain ⟨ev_24, ⟨h_20, h_21, h_22⟩, hg_23⟩ := hp
    subst ev_24
    have h_26 := (hg_23 1 (by omega) (by decide) (by decide)).trans h_17
    have h_27 := (hg_23 5 (by omega) (by decide) (by decide)).trans h_18
    refine lv_ixor hx hb dX0_runOfLaterKind_266 ?_
    exact h_iret S hr hlk hS hW dX0_runOfLaterKind_267 (by rw [bodyS_151]; exact ⟨rfl, ⟨h_20, h_21, h_22⟩, (fun j q0 q1 q2 => (hg_23 j q0 q1 q2).trans (hg_14 j q0 q1 q2))⟩)
  · refine lv_tableIn (off := 267) (tgt := 268) hx hb dX0_runOfLaterKind_1 (by decide) (by decide) (by decide) (by decide) ?_
    refine lv_aload_n hx hb dX0_runOfLaterKind_268 rfl (lv_at hl 0 rfl) ?_
    refine lv_iconst (v := 4) hx hb dX0_runOfLaterKind_269 (by decide) ?_
    refine lv_iconst (v := 4) hx hb dX0_runOfLaterKind_270 (by decide) ?_
    refine lv_iload_n hx hb dX0_runOfLaterKind_271 rfl (lv_at hl 2 rfl) ?_
    refine lv_iload_n hx hb dX0_runOfLaterKind_272 rfl (lv_at hl 3 rfl) ?_
    refine hc_i (va_runV (As := [.int 4, .int 4, .int x, .int (nI d)]) (rest := []) S (c_X0_interfaceAct l G ad _ n ih (q := q) hk100 h1 h5 ⟨hk, h2, h3⟩ d hdn 4 4 x) (cwV 4 hts (gWSV q_l_0_108 q_im_X0_interfaceAct q_se_X0_interfaceAct q_in_0 q_co_X0_interfaceAct) rfl rfl rfl (by decide +kernel) ⟨by dsimp only; omega, by dsimp only; omega⟩) (hPreVw hE hS (hrecv hE hW hk (q := (RX0, TX0, 12)) rfl) hW) rfl rfl hl.1 rfl (lv_room (Nat.le_of_ble_eq_true rfl)) dX0_runOfLaterKind_273 ⟨Nat.le_of_ble_eq_true rfl, Nat.le_of_ble_eq_true rfl⟩) hS (fun rv_34 ct_28 H locs hp hW hS => ?_)
    obtain ⟨ev_33, ⟨h_29, h_30, h_31⟩, hg_32⟩ := hp
    subst ev_33
    have h_35 := (hg_32 1 (by omega) (by decide) (by decide)).trans h1
    have h_36 := (hg_32 5 (by omega) (by decide) (by decide)).trans h5
    refine lv_iconst (v := 1) hx hb dX0_runOfLaterKind_276 (by decide) ?_
    refine lv_iadd hx hb dX0_runOfLaterKind_277 ?_
    exact h_iret S hr hlk hS hW dX0_runOfLaterKind_278 (by rw [bodyS_152]; exact ⟨rfl, ⟨h_29, h_30, h_31⟩, (fun j q0 q1 q2 => hg_32 j q0 q1 q2)⟩)
  · refine lv_tableIn (off := 278) (tgt := 279) hx hb dX0_runOfLaterKind_1 (by decide) (by decide) (by decide) (by decide) ?_
    refine lv_iload_n hx hb dX0_runOfLaterKind_279 rfl (lv_at hl 2 rfl) ?_
    exact h_iret S hr hlk hS hW dX0_runOfLaterKind_280 (by rw [bodyS_160]; exact ⟨rfl, ⟨hk, h2, h3⟩, (fun j q0 q1 q2 => rfl)⟩)
  · refine lv_tableIn (off := 280) (tgt := 281) hx hb dX0_runOfLaterKind_1 (by decide) (by decide) (by decide) (by decide) ?_
    refine lv_aload_n hx hb dX0_runOfLaterKind_281 rfl (lv_at hl 0 rfl) ?_
    refine lv_bipush (v := 6) hx hb dX0_runOfLaterKind_282 (by decide) ?_
    refine lv_bipush (v := 8) hx hb dX0_runOfLaterKind_284 (by decide) ?_
    refine lv_iload_n hx hb dX0_runOfLaterKind_286 rfl (lv_at hl 2 rfl) ?_
    refine lv_iload_n hx hb dX0_runOfLaterKind_287 rfl (lv_at hl 3 rfl) ?_
    refine hc_i (va_runV (As := [.int 6, .int 8, .int x, .int (nI d)]) (rest := []) S (c_X0_interfaceAct l G ad _ n ih (q := q) hk100 h1 h5 ⟨hk, h2, h3⟩ d hdn 6 8 x) (cwV 4 hts (gWSV q_l_0_108 q_im_X0_interfaceAct q_se_X0_interfaceAct q_in_0 q_co_X0_interfaceAct) rfl rfl rfl (by decide +kernel) ⟨by dsimp only; omega, by dsimp only; omega⟩) (hPreVw hE hS (hrecv hE hW hk (q := (RX0, TX0, 12)) rfl) hW) rfl rfl hl.1 rfl (lv_room (Nat.le_of_ble_eq_true rfl)) dX0_runOfLaterKind_288 ⟨Nat.le_of_ble_eq_true rfl, Nat.le_of_ble_eq_true rfl⟩) hS (fun rv_43 ct_37 H locs hp hW hS => ?_)
    obtain ⟨ev_42, ⟨h_38, h_39, h_40⟩, hg_41⟩ := hp
    subst ev_42
    have h_44 := (hg_41 1 (by omega) (by decide) (by decide)).trans h1
    have h_45 := (hg_41 5 (by omega) (by decide) (by decide)).trans h5
    refine lv_sipush (v := 255) hx hb dX0_runOfLaterKind_291 (by decide) ?_
    refine lv_iand hx hb dX0_runOfLaterKind_294 ?_
    exact h_iret S hr hlk hS hW dX0_runOfLaterKind_295 (by rw [bodyS_161]; exact ⟨rfl, ⟨h_38, h_39, h_40⟩, (fun j q0 q1 q2 => hg_41 j q0 q1 q2)⟩)
  · refine lv_tableIn (off := 295) (tgt := 296) hx hb dX0_runOfLaterKind_1 (by decide) (by decide) (by decide) (by decide) ?_
    refine lv_iload_n hx hb dX0_runOfLaterKind_296 rfl (lv_at hl 2 rfl) ?_
    refine lv_bipush (v := 99) hx hb dX0_runOfLaterKind_297 (by decide) ?_
    refine lv_iadd hx hb dX0_runOfLaterKind_299 ?_
    exact h_iret S hr hlk hS hW dX0_runOfLaterKind_300 (by rw [bodyS_162]; exact ⟨rfl, ⟨hk, h2, h3⟩, (fun j q0 q1 q2 => rfl)⟩)
  · refine lv_tableIn (off := 300) (tgt := 301) hx hb dX0_runOfLaterKind_1 (by decide) (by decide) (by decide) (by decide) ?_
    refine lv_aload_n hx hb dX0_runOfLaterKind_301 rfl (lv_at hl 0 rfl) ?_
    refine lv_sipush (v := 162) hx hb dX0_runOfLaterKind_302 (by decide) ?_
    refine lv_iload_n hx hb dX0_runOfLaterKind_305 rfl (lv_at hl 2 rfl) ?_
    refine lv_iload_n hx hb dX0_runOfLaterKind_306 rfl (lv_at hl 3 rfl) ?_
    refine hc_i (va_runV (As := [.int 162, .int x, .int (nI d)]) (rest := []) S (ih ad _ k t r q 162 x d hk100 okB_162 hdn h1 h5 ⟨hk, h2, h3⟩) (cwV 3 hts (gWSV q_l_0_83 q_im_X0_run q_se_X0_run q_in_0 q_co_X0_run) rfl rfl rfl (by decide +kernel) ⟨by dsimp only; omega, by dsimp only; omega⟩) (hPreVw hE hS (hrecv hE hW hk (q := (RX0, TX0, 12)) rfl) hW) rfl rfl hl.1 rfl (lv_room (Nat.le_of_ble_eq_true rfl)) dX0_runOfLaterKind_307 ⟨Nat.le_of_ble_eq_true rfl, Nat.le_of_ble_eq_true rfl⟩) hS (fun rv_52 ct_46 H locs hp hW hS => ?_)
    obtain ⟨ev_51, ⟨h_47, h_48, h_49⟩, hg_50⟩ := hp
    subst ev_51
    have h_53 := (hg_50 1 (by omega) (by decide) (by decide)).trans h1
    have h_54 := (hg_50 5 (by omega) (by decide) (by decide)).trans h5
    refine lv_aload_n hx hb dX0_runOfLaterKind_310 rfl (lv_at hl 0 rfl) ?_
    refine lv_bipush (v := 13) hx hb dX0_runOfLaterKind_311 (by decide) ?_
    refine lv_bipush (v := 9) hx hb dX0_runOfLaterKind_313 (by decide) ?_
    refine lv_iconst (v := 1) hx hb dX0_runOfLaterKind_315 (by decide) ?_
    refine lv_iload_n hx hb dX0_runOfLaterKind_316 rfl (lv_at hl 3 rfl) ?_
    refine hc_i (va_runV (As := [.int 13, .int 9, .int 1, .int (nI d)]) (rest := [.int ((runS n t 162 x q).1)]) S (c_X0_parentAct l G ad _ n ih (q := ((runS n t 162 x q).2.1, (runS n t 162 x q).2.2.1, ((runS n t 162 x q).2).2.2.1, ((runS n t 162 x q).2).2.2.2)) hk100 h_53 h_54 ⟨h_47, h_48, h_49⟩ d hdn 13 9 1) (cwV 4 hts (gWSV q_l_0_112 q_im_X0_parentAct q_se_X0_parentAct q_in_0 q_co_X0_parentAct) rfl rfl rfl (by decide +kernel) ⟨by dsimp only; omega, by dsimp only; omega⟩) (hPreVw hE hS (hrecv hE hW h_47 (q := (RX0, TX0, 12)) rfl) hW) rfl rfl hl.1 rfl (lv_room (Nat.le_of_ble_eq_true rfl)) dX0_runOfLaterKind_317 ⟨Nat.le_of_ble_eq_true rfl, Nat.le_of_ble_eq_true rfl⟩) hS (fun rv_61 ct_55 H locs hp hW hS => ?_)
    obtain ⟨ev_60, ⟨h_56, h_57, h_58⟩, hg_59⟩ := hp
    subst ev_60
    have h_62 := (hg_59 1 (by omega) (by decide) (by decide)).trans h_53
    have h_63 := (hg_59 5 (by omega) (by decide) (by decide)).trans h_54
    refine lv_iadd hx hb dX0_runOfLaterKind_320 ?_
    exact h_iret S hr hlk hS hW dX0_runOfLaterKind_321 (by rw [bodyS_163]; exact ⟨rfl, ⟨h_56, h_57, h_58⟩, (fun j q0 q1 q2 => (hg_59 j q0 q1 q2).trans (hg_50 j q0 q1 q2))⟩)
  · refine lv_tableIn (off := 321) (tgt := 322) hx hb dX0_runOfLaterKind_1 (by decide) (by decide) (by decide) (by decide) ?_
    refine lv_aload_n hx hb dX0_runOfLaterKind_322 rfl (lv_at hl 0 rfl) ?_
    refine lv_bipush (v := 15) hx hb dX0_runOfLaterKind_323 (by decide) ?_
    refine lv_bipush (v := 9) hx hb dX0_runOfLaterKind_325 (by decide) ?_
    refine lv_iload_n hx hb dX0_runOfLaterKind_327 rfl (lv_at hl 2 rfl) ?_
    refine lv_iload_n hx hb dX0_runOfLaterKind_328 rfl (lv_at hl 3 rfl) ?_
    refine hc_i (va_runV (As := [.int 15, .int 9, .int x, .int (nI d)]) (rest := []) S (c_X0_parentAct l G ad _ n ih (q := q) hk100 h1 h5 ⟨hk, h2, h3⟩ d hdn 15 9 x) (cwV 4 hts (gWSV q_l_0_112 q_im_X0_parentAct q_se_X0_parentAct q_in_0 q_co_X0_parentAct) rfl rfl rfl (by decide +kernel) ⟨by dsimp only; omega, by dsimp only; omega⟩) (hPreVw hE hS (hrecv hE hW hk (q := (RX0, TX0, 12)) rfl) hW) rfl rfl hl.1 rfl (lv_room (Nat.le_of_ble_eq_true rfl)) dX0_runOfLaterKind_329 ⟨Nat.le_of_ble_eq_true rfl, Nat.le_of_ble_eq_true rfl⟩) hS (fun rv_70 ct_64 H locs hp hW hS => ?_)
    obtain ⟨ev_69, ⟨h_65, h_66, h_67⟩, hg_68⟩ := hp
    subst ev_69
    have h_71 := (hg_68 1 (by omega) (by decide) (by decide)).trans h1
    have h_72 := (hg_68 5 (by omega) (by decide) (by decide)).trans h5
    refine lv_iconst (v := 1) hx hb dX0_runOfLaterKind_332 (by decide) ?_
    refine lv_isub hx hb dX0_runOfLaterKind_333 ?_
    exact h_iret S hr hlk hS hW dX0_runOfLaterKind_334 (by rw [bodyS_180]; exact ⟨rfl, ⟨h_65, h_66, h_67⟩, (fun j q0 q1 q2 => hg_68 j q0 q1 q2)⟩)
  · refine lv_tableIn (off := 334) (tgt := 335) hx hb dX0_runOfLaterKind_1 (by decide) (by decide) (by decide) (by decide) ?_
    refine lv_aload_n hx hb dX0_runOfLaterKind_335 rfl (lv_at hl 0 rfl) ?_
    refine lv_bipush (v := 15) hx hb dX0_runOfLaterKind_336 (by decide) ?_
    refine lv_iconst (v := 2) hx hb dX0_runOfLaterKind_338 (by decide) ?_
    refine lv_iload_n hx hb dX0_runOfLaterKind_339 rfl (lv_at hl 2 rfl) ?_
    refine lv_iload_n hx hb dX0_runOfLaterKind_340 rfl (lv_at hl 3 rfl) ?_
    refine hc_i (va_runV (As := [.int 15, .int 2, .int x, .int (nI d)]) (rest := []) S (c_X0_parentAct l G ad _ n ih (q := q) hk100 h1 h5 ⟨hk, h2, h3⟩ d hdn 15 2 x) (cwV 4 hts (gWSV q_l_0_112 q_im_X0_parentAct q_se_X0_parentAct q_in_0 q_co_X0_parentAct) rfl rfl rfl (by decide +kernel) ⟨by dsimp only; omega, by dsimp only; omega⟩) (hPreVw hE hS (hrecv hE hW hk (q := (RX0, TX0, 12)) rfl) hW) rfl rfl hl.1 rfl (lv_room (Nat.le_of_ble_eq_true rfl)) dX0_runOfLaterKind_341 ⟨Nat.le_of_ble_eq_true rfl, Nat.le_of_ble_eq_true rfl⟩) hS (fun rv_79 ct_73 H locs hp hW hS => ?_)
    obtain ⟨ev_78, ⟨h_74, h_75, h_76⟩, hg_77⟩ := hp
    subst ev_78
    have h_80 := (hg_77 1 (by omega) (by decide) (by decide)).trans h1
    have h_81 := (hg_77 5 (by omega) (by decide) (by decide)).trans h5
    refine lv_aload_n hx hb dX0_runOfLaterKind_344 rfl (lv_at hl 0 rfl) ?_
    refine lv_iconst (v := 1) hx hb dX0_runOfLaterKind_345 (by decide) ?_
    refine lv_iconst (v := 2) hx hb dX0_runOfLaterKind_346 (by decide) ?_
    refine lv_iload_n hx hb dX0_runOfLaterKind_347 rfl (lv_at hl 3 rfl) ?_
    refine hc_i (va_runV (As := [.int 1, .int 2, .int (nI d)]) (rest := [.int ((runS n t (selOfF selT (parentF 15) 2) x q).1)]) S (c_X0_act l G ad _ n ih (q := ((runS n t (selOfF selT (parentF 15) 2) x q).2.1, (runS n t (selOfF selT (parentF 15) 2) x q).2.2.1, ((runS n t (selOfF selT (parentF 15) 2) x q).2).2.2.1, ((runS n t (selOfF selT (parentF 15) 2) x q).2).2.2.2)) hk100 h_80 h_81 ⟨h_74, h_75, h_76⟩ d hdn 1 2) (cwV 3 hts (gWSV q_l_0_69 q_im_X0_act q_se_X0_act q_in_0 q_co_X0_act) rfl rfl rfl (by decide +kernel) ⟨by dsimp only; omega, by dsimp only; omega⟩) (hPreVw hE hS (hrecv hE hW h_74 (q := (RX0, TX0, 12)) rfl) hW) rfl rfl hl.1 rfl (lv_room (Nat.le_of_ble_eq_true rfl)) dX0_runOfLaterKind_348 ⟨Nat.le_of_ble_eq_true rfl, Nat.le_of_ble_eq_true rfl⟩) hS (fun rv_88 ct_82 H locs hp hW hS => ?_)
    obtain ⟨ev_87, ⟨h_83, h_84, h_85⟩, hg_86⟩ := hp
    subst ev_87
    have h_89 := (hg_86 1 (by omega) (by decide) (by decide)).trans h_80
    have h_90 := (hg_86 5 (by omega) (by decide) (by decide)).trans h_81
    refine lv_iadd hx hb dX0_runOfLaterKind_351 ?_
    exact h_iret S hr hlk hS hW dX0_runOfLaterKind_352 (by rw [bodyS_181]; exact ⟨rfl, ⟨h_83, h_84, h_85⟩, (fun j q0 q1 q2 => (hg_86 j q0 q1 q2).trans (hg_77 j q0 q1 q2))⟩)
  · refine lv_tableIn (off := 352) (tgt := 353) hx hb dX0_runOfLaterKind_1 (by decide) (by decide) (by decide) (by decide) ?_
    refine lv_aload_n hx hb dX0_runOfLaterKind_353 rfl (lv_at hl 0 rfl) ?_
    refine lv_bipush (v := 10) hx hb dX0_runOfLaterKind_354 (by decide) ?_
    refine lv_iload_n hx hb dX0_runOfLaterKind_356 rfl (lv_at hl 2 rfl) ?_
    refine lv_iload_n hx hb dX0_runOfLaterKind_357 rfl (lv_at hl 3 rfl) ?_
    refine hc_i (va_runV (As := [.int 10, .int x, .int (nI d)]) (rest := []) S (c_X0_act l G ad _ n ih (q := q) hk100 h1 h5 ⟨hk, h2, h3⟩ d hdn 10 x) (cwV 3 hts (gWSV q_l_0_69 q_im_X0_act q_se_X0_act q_in_0 q_co_X0_act) rfl rfl rfl (by decide +kernel) ⟨by dsimp only; omega, by dsimp only; omega⟩) (hPreVw hE hS (hrecv hE hW hk (q := (RX0, TX0, 12)) rfl) hW) rfl rfl hl.1 rfl (lv_room (Nat.le_of_ble_eq_true rfl)) dX0_runOfLaterKind_358 ⟨Nat.le_of_ble_eq_true rfl, Nat.le_of_ble_eq_true rfl⟩) hS (fun rv_97 ct_91 H locs hp hW hS => ?_)
    obtain ⟨ev_96, ⟨h_92, h_93, h_94⟩, hg_95⟩ := hp
    subst ev_96
    have h_98 := (hg_95 1 (by omega) (by decide) (by decide)).trans h1
    have h_99 := (hg_95 5 (by omega) (by decide) (by decide)).trans h5
    refine lv_iconst (v := 2) hx hb dX0_runOfLaterKind_361 (by decide) ?_
    refine lv_imul hx hb dX0_runOfLaterKind_362 ?_
    exact h_iret S hr hlk hS hW dX0_runOfLaterKind_363 (by rw [bodyS_190]; exact ⟨rfl, ⟨h_92, h_93, h_94⟩, (fun j q0 q1 q2 => hg_95 j q0 q1 q2)⟩)
  · refine lv_tableIn (off := 363) (tgt := 364) hx hb dX0_runOfLaterKind_1 (by decide) (by decide) (by decide) (by decide) ?_
    refine lv_aload_n hx hb dX0_runOfLaterKind_364 rfl (lv_at hl 0 rfl) ?_
    refine hr_get S hE hW hk inX0 (C := RX0) (T := TX0) (N := 12) rfl 4 (by decide) q_f_0_38 rfl dX0_runOfLaterKind_365 ?_
    refine lv_iload_n hx hb dX0_runOfLaterKind_368 rfl (lv_at hl 2 rfl) ?_
    refine lv_iadd hx hb dX0_runOfLaterKind_369 ?_
    exact h_iret S hr hlk hS hW dX0_runOfLaterKind_370 (by rw [bodyS_200]; exact ⟨rfl, ⟨hk, h2, h3⟩, (fun j q0 q1 q2 => rfl)⟩)
  · refine lv_tableIn (off := 370) (tgt := 371) hx hb dX0_runOfLaterKind_1 (by decide) (by decide) (by decide) (by decide) ?_
    refine lv_aload_n hx hb dX0_runOfLaterKind_371 rfl (lv_at hl 0 rfl) ?_
    refine lv_bipush (v := 6) hx hb dX0_runOfLaterKind_372 (by decide) ?_
    refine lv_bipush (v := 7) hx hb dX0_runOfLaterKind_374 (by decide) ?_
    refine lv_iload_n hx hb dX0_runOfLaterKind_376 rfl (lv_at hl 2 rfl) ?_
    refine lv_iload_n hx hb dX0_runOfLaterKind_377 rfl (lv_at hl 3 rfl) ?_
    refine hc_i (va_runV (As := [.int 6, .int 7, .int x, .int (nI d)]) (rest := []) S (c_X0_interfaceAct l G ad _ n ih (q := q) hk100 h1 h5 ⟨hk, h2, h3⟩ d hdn 6 7 x) (cwV 4 hts (gWSV q_l_0_108 q_im_X0_interfaceAct q_se_X0_interfaceAct q_in_0 q_co_X0_interfaceAct) rfl rfl rfl (by decide +kernel) ⟨by dsimp only; omega, by dsimp only; omega⟩) (hPreVw hE hS (hrecv hE hW hk (q := (RX0, TX0, 12)) rfl) hW) rfl rfl hl.1 rfl (lv_room (Nat.le_of_ble_eq_true rfl)) dX0_runOfLaterKind_378 ⟨Nat.le_of_ble_eq_true rfl, Nat.le_of_ble_eq_true rfl⟩) hS (fun rv_106 ct_100 H locs hp hW hS => ?_)
    obtain ⟨ev_105, ⟨h_101, h_102, h_103⟩, hg_104⟩ := hp
    subst ev_105
    have h_107 := (hg_104 1 (by omega) (by decide) (by decide)).trans h1
    have h_108 := (hg_104 5 (by omega) (by decide) (by decide)).trans h5
    refine lv_aload_n hx hb dX0_runOfLaterKind_381 rfl (lv_at hl 0 rfl) ?_
    refine lv_sipush (v := 200) hx hb dX0_runOfLaterKind_382 (by decide) ?_
    refine lv_iload_n hx hb dX0_runOfLaterKind_385 rfl (lv_at hl 2 rfl) ?_
    refine lv_iload_n hx hb dX0_runOfLaterKind_386 rfl (lv_at hl 3 rfl) ?_
    refine hc_i (va_runV (As := [.int 200, .int x, .int (nI d)]) (rest := [.int ((runS n t (selOfF selT 6 7) x q).1)]) S (ih ad _ k t r ((runS n t (selOfF selT 6 7) x q).2.1, (runS n t (selOfF selT 6 7) x q).2.2.1, ((runS n t (selOfF selT 6 7) x q).2).2.2.1, ((runS n t (selOfF selT 6 7) x q).2).2.2.2) 200 x d hk100 okB_200 hdn h_107 h_108 ⟨h_101, h_102, h_103⟩) (cwV 3 hts (gWSV q_l_0_83 q_im_X0_run q_se_X0_run q_in_0 q_co_X0_run) rfl rfl rfl (by decide +kernel) ⟨by dsimp only; omega, by dsimp only; omega⟩) (hPreVw hE hS (hrecv hE hW h_101 (q := (RX0, TX0, 12)) rfl) hW) rfl rfl hl.1 rfl (lv_room (Nat.le_of_ble_eq_true rfl)) dX0_runOfLaterKind_387 ⟨Nat.le_of_ble_eq_true rfl, Nat.le_of_ble_eq_true rfl⟩) hS (fun rv_115 ct_109 H locs hp hW hS => ?_)
    obtain ⟨ev_114, ⟨h_110, h_111, h_112⟩, hg_113⟩ := hp
    subst ev_114
    have h_116 := (hg_113 1 (by omega) (by decide) (by decide)).trans h_107
    have h_117 := (hg_113 5 (by omega) (by decide) (by decide)).trans h_108
    refine lv_iadd hx hb dX0_runOfLaterKind_390 ?_
    exact h_iret S hr hlk hS hW dX0_runOfLaterKind_391 (by rw [bodyS_201]; exact ⟨rfl, ⟨h_110, h_111, h_112⟩, (fun j q0 q1 q2 => (hg_113 j q0 q1 q2).trans (hg_104 j q0 q1 q2))⟩)
  · refine lv_tableIn (off := 391) (tgt := 392) hx hb dX0_runOfLaterKind_1 (by decide) (by decide) (by decide) (by decide) ?_
    refine lv_aload_n hx hb dX0_runOfLaterKind_392 rfl (lv_at hl 0 rfl) ?_
    refine lv_iconst (v := 4) hx hb dX0_runOfLaterKind_393 (by decide) ?_
    refine lv_iconst (v := 2) hx hb dX0_runOfLaterKind_394 (by decide) ?_
    refine lv_iload_n hx hb dX0_runOfLaterKind_395 rfl (lv_at hl 2 rfl) ?_
    refine lv_iload_n hx hb dX0_runOfLaterKind_396 rfl (lv_at hl 3 rfl) ?_
    refine hc_i (va_runV (As := [.int 4, .int 2, .int x, .int (nI d)]) (rest := []) S (c_X0_interfaceAct l G ad _ n ih (q := q) hk100 h1 h5 ⟨hk, h2, h3⟩ d hdn 4 2 x) (cwV 4 hts (gWSV q_l_0_108 q_im_X0_interfaceAct q_se_X0_interfaceAct q_in_0 q_co_X0_interfaceAct) rfl rfl rfl (by decide +kernel) ⟨by dsimp only; omega, by dsimp only; omega⟩) (hPreVw hE hS (hrecv hE hW hk (q := (RX0, TX0, 12)) rfl) hW) rfl rfl hl.1 rfl (lv_room (Nat.le_of_ble_eq_true rfl)) dX0_runOfLaterKind_397 ⟨Nat.le_of_ble_eq_true rfl, Nat.le_of_ble_eq_true rfl⟩) hS (fun rv_124 ct_118 H locs hp hW hS => ?_)
    obtain ⟨ev_123, ⟨h_119, h_120, h_121⟩, hg_122⟩ := hp
    subst ev_123
    have h_125 := (hg_122 1 (by omega) (by decide) (by decide)).trans h1
    have h_126 := (hg_122 5 (by omega) (by decide) (by decide)).trans h5
    refine lv_aload_n hx hb dX0_runOfLaterKind_400 rfl (lv_at hl 0 rfl) ?_
    refine lv_bipush (v := 17) hx hb dX0_runOfLaterKind_401 (by decide) ?_
    refine lv_iconst (v := 2) hx hb dX0_runOfLaterKind_403 (by decide) ?_
    refine lv_iload_n hx hb dX0_runOfLaterKind_404 rfl (lv_at hl 2 rfl) ?_
    refine lv_iload_n hx hb dX0_runOfLaterKind_405 rfl (lv_at hl 3 rfl) ?_
    refine hc_i (va_runV (As := [.int 17, .int 2, .int x, .int (nI d)]) (rest := [.int ((runS n t (selOfF selT 4 2) x q).1)]) S (c_X0_parentAct l G ad _ n ih (q := ((runS n t (selOfF selT 4 2) x q).2.1, (runS n t (selOfF selT 4 2) x q).2.2.1, ((runS n t (selOfF selT 4 2) x q).2).2.2.1, ((runS n t (selOfF selT 4 2) x q).2).2.2.2)) hk100 h_125 h_126 ⟨h_119, h_120, h_121⟩ d hdn 17 2 x) (cwV 4 hts (gWSV q_l_0_112 q_im_X0_parentAct q_se_X0_parentAct q_in_0 q_co_X0_parentAct) rfl rfl rfl (by decide +kernel) ⟨by dsimp only; omega, by dsimp only; omega⟩) (hPreVw hE hS (hrecv hE hW h_119 (q := (RX0, TX0, 12)) rfl) hW) rfl rfl hl.1 rfl (lv_room (Nat.le_of_ble_eq_true rfl)) dX0_runOfLaterKind_406 ⟨Nat.le_of_ble_eq_true rfl, Nat.le_of_ble_eq_true rfl⟩) hS (fun rv_133 ct_127 H locs hp hW hS => ?_)
    obtain ⟨ev_132, ⟨h_128, h_129, h_130⟩, hg_131⟩ := hp
    subst ev_132
    have h_134 := (hg_131 1 (by omega) (by decide) (by decide)).trans h_125
    have h_135 := (hg_131 5 (by omega) (by decide) (by decide)).trans h_126
    refine lv_iadd hx hb dX0_runOfLaterKind_409 ?_
    exact h_iret S hr hlk hS hW dX0_runOfLaterKind_410 (by rw [bodyS_202]; exact ⟨rfl, ⟨h_128, h_129, h_130⟩, (fun j q0 q1 q2 => (hg_131 j q0 q1 q2).trans (hg_122 j q0 q1 q2))⟩)
  · refine lv_tableIn (off := 410) (tgt := 411) hx hb dX0_runOfLaterKind_1 (by decide) (by decide) (by decide) (by decide) ?_
    refine lv_aload_n hx hb dX0_runOfLaterKind_411 rfl (lv_at hl 0 rfl) ?_
    refine lv_bipush (v := 17) hx hb dX0_runOfLaterKind_412 (by decide) ?_
    refine lv_iconst (v := 5) hx hb dX0_runOfLaterKind_414 (by decide) ?_
    refine lv_iload_n hx hb dX0_runOfLaterKind_415 rfl (lv_at hl 2 rfl) ?_
    refine lv_iload_n hx hb dX0_runOfLaterKind_416 rfl (lv_at hl 3 rfl) ?_
    refine hc_i (va_runV (As := [.int 17, .int 5, .int x, .int (nI d)]) (rest := []) S (c_X0_parentAct l G ad _ n ih (q := q) hk100 h1 h5 ⟨hk, h2, h3⟩ d hdn 17 5 x) (cwV 4 hts (gWSV q_l_0_112 q_im_X0_parentAct q_se_X0_parentAct q_in_0 q_co_X0_parentAct) rfl rfl rfl (by decide +kernel) ⟨by dsimp only; omega, by dsimp only; omega⟩) (hPreVw hE hS (hrecv hE hW hk (q := (RX0, TX0, 12)) rfl) hW) rfl rfl hl.1 rfl (lv_room (Nat.le_of_ble_eq_true rfl)) dX0_runOfLaterKind_417 ⟨Nat.le_of_ble_eq_true rfl, Nat.le_of_ble_eq_true rfl⟩) hS (fun rv_142 ct_136 H locs hp hW hS => ?_)
    obtain ⟨ev_141, ⟨h_137, h_138, h_139⟩, hg_140⟩ := hp
    subst ev_141
    have h_143 := (hg_140 1 (by omega) (by decide) (by decide)).trans h1
    have h_144 := (hg_140 5 (by omega) (by decide) (by decide)).trans h5
    refine lv_iconst (v := 1) hx hb dX0_runOfLaterKind_420 (by decide) ?_
    refine lv_iadd hx hb dX0_runOfLaterKind_421 ?_
    exact h_iret S hr hlk hS hW dX0_runOfLaterKind_422 (by rw [bodyS_204]; exact ⟨rfl, ⟨h_137, h_138, h_139⟩, (fun j q0 q1 q2 => hg_140 j q0 q1 q2)⟩)
set_option maxRecDepth 100000 in
set_option maxHeartbeats 4000000 in
theorem c_X0_run_s (l : Launch) (G : hG) (ad : Nat → Nat) (ct : Nat → Option va_E) (n : Nat) (ih : RunC l G n) {k : Nat} {t : Int32} {r : Nat → Value} {q : St} (hk100 : 100 ≤ k) (h1 : ct 1 = some (.inr (1, [.ref (ad 4), .ref (ad 5)]))) (h5 : ct 5 = some (.inl (G.2.1.1, 216, .inl selT))) (hd : dW G ad ct k t r q) (d : Nat) (hdn : d + (n + 1) = 40) (b x : Int32) (hbo : b ∈ okBl)  : Met l yX0_run wzX0_run { frames := 3 * (n + 1) + 2, cells := 0, slots := 0, locals := 70 * (n + 1) + 20 } (hPw [.ref (ad k), .int b, .int x, .int (nI d)] G ad ct) (hQi (fun rr ct1 => rr = (runS (n + 1) t b x q).1 ∧ dW G ad ct1 k t r (runS (n + 1) t b x q).2 ∧ ∀ j, j ≠ k → j ≠ 2 → j ≠ 3 → ct1 j = ct j) G ad) 0 0 (hA G.2.2.2) := by
  refine hMetw (by decide) (Nat.le_of_ble_eq_true rfl) (fun p e s m below meth c ls S hr hlk hE hW hl => ?_)
  obtain ⟨hx, hb, hml, hown, hts⟩ := id S
  have hS : va_S (hA G.2.2.2) s.heap s.heap [] := va_S.rf
  have hl : lv_has ls 4 [(0, .ref (ad k)), (1, .int b), (2, .int x), (3, .int (nI d))] := hl
  obtain ⟨hk, h2, h3⟩ := hd
  refine lv_iload_n hx hb dX0_run_0 rfl (lv_at hl 1 rfl) ?_
  refine lv_if_eq (tgt := 10) hx hb dX0_run_1 (by decide) (fun c_1 => ?_) (fun c_1 => ?_)
  · refine lv_iconst (v := 0) hx hb dX0_run_10 (by decide) ?_
    exact h_iret S hr hlk hS hW dX0_run_11 (by have e0 : b = 0 := c_1; subst e0; exact ⟨rfl, ⟨hk, h2, h3⟩, (fun j q0 q1 q2 => rfl)⟩)
  · refine lv_iload_n hx hb dX0_run_4 rfl (lv_at hl 3 rfl) ?_
    refine lv_bipush (v := 40) hx hb dX0_run_5 (by decide) ?_
    refine lv_icmp_lt (tgt := 12) hx hb dX0_run_7 (by decide) (fun _ => ?_) (fun q => absurd (show nI d < 40 from nI_lt (a := d) (b := 40) (by omega) (by omega)) q)
    refine lv_aload_n hx hb dX0_run_12 rfl (lv_at hl 0 rfl) ?_
    refine hr_get S hE hW hk inX0 (C := RX0) (T := TX0) (N := 12) rfl 1 (by decide) q_f_0_15 rfl dX0_run_13 ?_
    refine lv_iload_n hx hb dX0_run_16 rfl (lv_at hl 1 rfl) ?_
    refine hc_v (va_runVN (As := [.int b]) (rest := []) S (c_X3_begin l G ad _ h2 h3 b) ⟨va_cnB 1 hts (gWS q_co_X3_begin) rfl rfl rfl (hE.nest 21 rfl) (hts _ q_in_3) (by decide +kernel) ⟨by dsimp only; omega, by dsimp only; omega⟩, hts _ q_im_X3_begin, hts _ q_se_X3_begin⟩ (hPreVw hE hS (hrecv hE hW h2 (q := (RX3, TX3, 2)) rfl) hW) rfl rfl hl.1 rfl (lv_room (Nat.le_of_ble_eq_true rfl)) dX0_run_17 ⟨Nat.le_of_ble_eq_true rfl, Nat.le_of_ble_eq_true rfl⟩) hS (fun ct_1 H locs hp hW hS => ?_)
    obtain ⟨h_2, h_3, hg_4⟩ := hp
    have h_5 := (hg_4 1 (by decide) (by decide)).trans h1
    have h_6 := (hg_4 5 (by decide) (by decide)).trans h5
    have h_7 := (hg_4 k (by omega) (by omega)).trans hk
    refine lv_iload_n hx hb dX0_run_20 rfl (lv_at hl 1 rfl) ?_
    refine lv_bipush (v := 60) hx hb dX0_run_21 (by decide) ?_
    refine lv_icmp_ge (tgt := 36) hx hb dX0_run_23 (by decide) (fun c_23 => ?_) (fun c_23 => ?_)
    · refine lv_iload_n hx hb dX0_run_36 rfl (lv_at hl 1 rfl) ?_
      refine lv_bipush (v := 100) hx hb dX0_run_37 (by decide) ?_
      refine lv_icmp_ge (tgt := 52) hx hb dX0_run_39 (by decide) (fun c_39 => ?_) (fun c_39 => ?_)
      · refine lv_iload_n hx hb dX0_run_52 rfl (lv_at hl 1 rfl) ?_
        refine lv_sipush (v := 150) hx hb dX0_run_53 (by decide) ?_
        refine lv_icmp_ge (tgt := 71) hx hb dX0_run_56 (by decide) (fun c_56 => ?_) (fun c_56 => ?_)
        · refine lv_aload_n hx hb dX0_run_71 rfl (lv_at hl 0 rfl) ?_
          refine lv_iload_n hx hb dX0_run_72 rfl (lv_at hl 1 rfl) ?_
          refine lv_iload_n hx hb dX0_run_73 rfl (lv_at hl 2 rfl) ?_
          refine lv_iload_n hx hb dX0_run_74 rfl (lv_at hl 3 rfl) ?_
          refine lv_iconst (v := 1) hx hb dX0_run_75 (by decide) ?_
          refine lv_iadd hx hb dX0_run_76 ?_
          rw [nI_1 d]
          refine hc_i (va_runV (As := [.int b, .int x, .int (nI (d + 1))]) (rest := []) S (c_X0_runOfLaterKind l G ad _ n ih (q := (q.1, q.2.1, q.2.2.1 + 1, bgF q.2.2.1 q.2.2.2 b)) hk100 h_5 h_6 ⟨h_7, h_2, h_3⟩ (d + 1) (by omega) b x (okBL_of b hbo c_1 c_23 c_39 c_56)) (cwV 3 hts (gWSV q_l_0_105 q_im_X0_runOfLaterKind q_se_X0_runOfLaterKind q_in_0 q_co_X0_runOfLaterKind) rfl rfl rfl (by decide +kernel) ⟨by dsimp only; omega, by dsimp only; omega⟩) (hPreVw hE hS (hrecv hE hW h_7 (q := (RX0, TX0, 12)) rfl) hW) rfl rfl hl.1 rfl (lv_room (Nat.le_of_ble_eq_true rfl)) dX0_run_77 ⟨Nat.le_of_ble_eq_true rfl, Nat.le_of_ble_eq_true rfl⟩) hS (fun rv_14 ct_8 H locs hp hW hS => ?_)
          obtain ⟨ev_13, ⟨h_9, h_10, h_11⟩, hg_12⟩ := hp
          subst ev_13
          have h_15 := (hg_12 1 (by omega) (by decide) (by decide)).trans h_5
          have h_16 := (hg_12 5 (by omega) (by decide) (by decide)).trans h_6
          exact h_iret S hr hlk hS hW dX0_run_80 (by rw [runS, if_neg c_1]; exact ⟨rfl, ⟨h_9, h_10, h_11⟩, (fun j q0 q1 q2 => (hg_12 j q0 q1 q2).trans (hg_4 j q1 q2))⟩)
        · refine lv_aload_n hx hb dX0_run_59 rfl (lv_at hl 0 rfl) ?_
          refine lv_iload_n hx hb dX0_run_60 rfl (lv_at hl 1 rfl) ?_
          refine lv_iload_n hx hb dX0_run_61 rfl (lv_at hl 2 rfl) ?_
          refine lv_iload_n hx hb dX0_run_62 rfl (lv_at hl 3 rfl) ?_
          refine lv_iconst (v := 1) hx hb dX0_run_63 (by decide) ?_
          refine lv_iadd hx hb dX0_run_64 ?_
          rw [nI_1 d]
          refine hc_i (va_runV (As := [.int b, .int x, .int (nI (d + 1))]) (rest := []) S (c_X0_runOfEarlierKind l G ad _ n ih (q := (q.1, q.2.1, q.2.2.1 + 1, bgF q.2.2.1 q.2.2.2 b)) hk100 h_5 h_6 ⟨h_7, h_2, h_3⟩ (d + 1) (by omega) b x (okBE_of b hbo c_1 c_23 c_39 c_56)) (cwV 3 hts (gWSV q_l_0_102 q_im_X0_runOfEarlierKind q_se_X0_runOfEarlierKind q_in_0 q_co_X0_runOfEarlierKind) rfl rfl rfl (by decide +kernel) ⟨by dsimp only; omega, by dsimp only; omega⟩) (hPreVw hE hS (hrecv hE hW h_7 (q := (RX0, TX0, 12)) rfl) hW) rfl rfl hl.1 rfl (lv_room (Nat.le_of_ble_eq_true rfl)) dX0_run_65 ⟨Nat.le_of_ble_eq_true rfl, Nat.le_of_ble_eq_true rfl⟩) hS (fun rv_23 ct_17 H locs hp hW hS => ?_)
          obtain ⟨ev_22, ⟨h_18, h_19, h_20⟩, hg_21⟩ := hp
          subst ev_22
          have h_24 := (hg_21 1 (by omega) (by decide) (by decide)).trans h_5
          have h_25 := (hg_21 5 (by omega) (by decide) (by decide)).trans h_6
          refine lv_goto (tgt := 80) hx hb dX0_run_68 (by decide) ?_
          exact h_iret S hr hlk hS hW dX0_run_80 (by rw [runS, if_neg c_1]; exact ⟨rfl, ⟨h_18, h_19, h_20⟩, (fun j q0 q1 q2 => (hg_21 j q0 q1 q2).trans (hg_4 j q1 q2))⟩)
      · refine lv_aload_n hx hb dX0_run_42 rfl (lv_at hl 0 rfl) ?_
        refine lv_iload_n hx hb dX0_run_43 rfl (lv_at hl 1 rfl) ?_
        refine lv_iload_n hx hb dX0_run_44 rfl (lv_at hl 2 rfl) ?_
        refine lv_iload_n hx hb dX0_run_45 rfl (lv_at hl 3 rfl) ?_
        refine lv_iconst (v := 1) hx hb dX0_run_46 (by decide) ?_
        refine lv_iadd hx hb dX0_run_47 ?_
        rw [nI_1 d]
        refine hc_i (va_runV (As := [.int b, .int x, .int (nI (d + 1))]) (rest := []) S (c_X0_runOfAncestor l G ad _ n ih (q := (q.1, q.2.1, q.2.2.1 + 1, bgF q.2.2.1 q.2.2.2 b)) hk100 h_5 h_6 ⟨h_7, h_2, h_3⟩ (d + 1) (by omega) b x (okBA_of b hbo c_1 c_23 c_39)) (cwV 3 hts (gWSV q_l_0_99 q_im_X0_runOfAncestor q_se_X0_runOfAncestor q_in_0 q_co_X0_runOfAncestor) rfl rfl rfl (by decide +kernel) ⟨by dsimp only; omega, by dsimp only; omega⟩) (hPreVw hE hS (hrecv hE hW h_7 (q := (RX0, TX0, 12)) rfl) hW) rfl rfl hl.1 rfl (lv_room (Nat.le_of_ble_eq_true rfl)) dX0_run_48 ⟨Nat.le_of_ble_eq_true rfl, Nat.le_of_ble_eq_true rfl⟩) hS (fun rv_32 ct_26 H locs hp hW hS => ?_)
        obtain ⟨ev_31, ⟨h_27, h_28, h_29⟩, hg_30⟩ := hp
        subst ev_31
        have h_33 := (hg_30 1 (by omega) (by decide) (by decide)).trans h_5
        have h_34 := (hg_30 5 (by omega) (by decide) (by decide)).trans h_6
        exact h_iret S hr hlk hS hW dX0_run_51 (by rw [runS, if_neg c_1]; exact ⟨rfl, ⟨h_27, h_28, h_29⟩, (fun j q0 q1 q2 => (hg_30 j q0 q1 q2).trans (hg_4 j q1 q2))⟩)
    · refine lv_aload_n hx hb dX0_run_26 rfl (lv_at hl 0 rfl) ?_
      refine lv_iload_n hx hb dX0_run_27 rfl (lv_at hl 1 rfl) ?_
      refine lv_iload_n hx hb dX0_run_28 rfl (lv_at hl 2 rfl) ?_
      refine lv_iload_n hx hb dX0_run_29 rfl (lv_at hl 3 rfl) ?_
      refine lv_iconst (v := 1) hx hb dX0_run_30 (by decide) ?_
      refine lv_iadd hx hb dX0_run_31 ?_
      rw [nI_1 d]
      refine hc_i (va_runV (As := [.int b, .int x, .int (nI (d + 1))]) (rest := []) S (c_X0_runOfInterface l G ad _ n ih (q := (q.1, q.2.1, q.2.2.1 + 1, bgF q.2.2.1 q.2.2.2 b)) hk100 h_5 h_6 ⟨h_7, h_2, h_3⟩ (d + 1) (by omega) b x (okBI_of b hbo c_1 c_23)) (cwV 3 hts (gWSV q_l_0_96 q_im_X0_runOfInterface q_se_X0_runOfInterface q_in_0 q_co_X0_runOfInterface) rfl rfl rfl (by decide +kernel) ⟨by dsimp only; omega, by dsimp only; omega⟩) (hPreVw hE hS (hrecv hE hW h_7 (q := (RX0, TX0, 12)) rfl) hW) rfl rfl hl.1 rfl (lv_room (Nat.le_of_ble_eq_true rfl)) dX0_run_32 ⟨Nat.le_of_ble_eq_true rfl, Nat.le_of_ble_eq_true rfl⟩) hS (fun rv_41 ct_35 H locs hp hW hS => ?_)
      obtain ⟨ev_40, ⟨h_36, h_37, h_38⟩, hg_39⟩ := hp
      subst ev_40
      have h_42 := (hg_39 1 (by omega) (by decide) (by decide)).trans h_5
      have h_43 := (hg_39 5 (by omega) (by decide) (by decide)).trans h_6
      exact h_iret S hr hlk hS hW dX0_run_35 (by rw [runS, if_neg c_1]; exact ⟨rfl, ⟨h_36, h_37, h_38⟩, (fun j q0 q1 q2 => (hg_39 j q0 q1 q2).trans (hg_4 j q1 q2))⟩)
set_option maxRecDepth 100000 in
set_option maxHeartbeats 4000000 in
theorem c_X0_run_0 (l : Launch) (G : hG) (ad : Nat → Nat) (ct : Nat → Option va_E) {k : Nat} {t : Int32} {r : Nat → Value} {q : St} (hk100 : 100 ≤ k) (h1 : ct 1 = some (.inr (1, [.ref (ad 4), .ref (ad 5)]))) (h5 : ct 5 = some (.inl (G.2.1.1, 216, .inl selT))) (hd : dW G ad ct k t r q) (b x : Int32)  : Met l yX0_run wzX0_run { frames := 3 * 0 + 2, cells := 0, slots := 0, locals := 70 * 0 + 20 } (hPw [.ref (ad k), .int b, .int x, .int (nI 40)] G ad ct) (hQi (fun rr ct1 => rr = (runS 0 t b x q).1 ∧ dW G ad ct1 k t r (runS 0 t b x q).2 ∧ ∀ j, j ≠ k → j ≠ 2 → j ≠ 3 → ct1 j = ct j) G ad) 0 0 (hA G.2.2.2) := by
  refine hMetw (by decide) (Nat.le_of_ble_eq_true rfl) (fun p e s m below meth c ls S hr hlk hE hW hl => ?_)
  obtain ⟨hx, hb, hml, hown, hts⟩ := id S
  have hS : va_S (hA G.2.2.2) s.heap s.heap [] := va_S.rf
  have hl : lv_has ls 4 [(0, .ref (ad k)), (1, .int b), (2, .int x), (3, .int (nI 40))] := hl
  obtain ⟨hk, h2, h3⟩ := hd
  refine lv_iload_n hx hb dX0_run_0 rfl (lv_at hl 1 rfl) ?_
  refine lv_if_eq (tgt := 10) hx hb dX0_run_1 (by decide) (fun c_1 => ?_) (fun c_1 => ?_)
  · refine lv_iconst (v := 0) hx hb dX0_run_10 (by decide) ?_
    exact h_iret S hr hlk hS hW dX0_run_11 ⟨rfl, ⟨hk, h2, h3⟩, (fun j q0 q1 q2 => rfl)⟩
  · refine lv_iload_n hx hb dX0_run_4 rfl (lv_at hl 3 rfl) ?_
    refine lv_bipush (v := 40) hx hb dX0_run_5 (by decide) ?_
    refine lv_icmp_lt (tgt := 12) hx hb dX0_run_7 (by decide) (fun q => absurd q (by decide)) (fun _ => ?_)
    refine lv_iconst (v := 0) hx hb dX0_run_10 (by decide) ?_
    exact h_iret S hr hlk hS hW dX0_run_11 ⟨rfl, ⟨hk, h2, h3⟩, (fun j q0 q1 q2 => rfl)⟩
theorem RunC_all (l : Launch) (G : hG) : ∀ n, RunC l G n := by
  intro n
  induction n with
  | zero =>
    intro ad ct k t r q b x d hk hb hd h1 h5 hw0
    have e : d = 40 := by omega
    subst e
    exact c_X0_run_0 l G ad ct hk h1 h5 hw0 b x
  | succ n ih =>
    intro ad ct k t r q b x d hk hb hd h1 h5 hw0
    exact c_X0_run_s l G ad ct n ih hk h1 h5 hw0 d hd b x hb
end
section
/-! CLS: what the class holds, and what its methods answer -/
abbrev AS : Type := (Nat → Int32) × (Nat → Int32) × Int32 × (Nat → Int32)
abbrev TS : Type := (Nat → Int32) × (Nat → Int32) × (Nat → Int32)
abbrev LS4 : Type := Nat × (Nat → Nat) × (Nat → Nat)
abbrev KS : Type := (Nat → Option Nat) × Int32 × Int32
def rvL (l : List Value) : Nat → Value := fun i => l.getD (i - 5) .null
theorem va_rf_s (a : Nat) : va_rf (some a) = .ref a := rfl
theorem va_rf_n : va_rf none = .null := rfl
/-- the first link from l on, of rem, that goes from i -/
def geL (fr : Nat → Nat) (i : Nat) : Nat → Nat → Option Nat
  | 0, _ => none
  | rem + 1, l => if fr l = i then some l else geL fr i rem (l + 1)
def lstL (fr : Nat → Nat) (i : Nat) : Nat → Option Nat
  | 0 => none
  | m + 1 => if fr m = i then some m else lstL fr i m
def cntL (fr : Nat → Nat) (i : Nat) : Nat → Nat
  | 0 => 0
  | m + 1 => cntL fr i m + (if fr m = i then 1 else 0)
def lkF (ad : Nat → Nat) (o : Option Nat) : Option Nat := o.map (fun j => ad (101 + 2 * j))
def dvF (ad : Nat → Nat) (n : Nat) : Nat → Option Nat := fun i => if i < n then some (ad (100 + 2 * i)) else none
def DC (ad : Nat → Nat) (ty : Nat → Int32) (A : AS) (T : TS) (L : LS4) (i : Nat) : List Value :=
  [.ref (ad 1), .ref (ad 2), .int (ty i), .int (A.1 i), .int (A.2.1 i), va_rf (lkF ad (geL L.2.1 i L.1 0)), va_rf (lkF ad (lstL L.2.1 i L.1)), .int (nI (cntL L.2.1 i L.1)), .int (nI (cntL L.2.2 i L.1)), .int (T.1 i), .int (T.2.1 i), .int (T.2.2 i)]
def RC (G : hG) (ad : Nat → Nat) (ct : Nat → Option va_E) (n : Nat) (ty : Nat → Int32) (A : AS) (T : TS) (L : LS4) (K : KS) (st : Int32) : Prop :=
  ct 0 = some (.inr (4, [.ref (ad 1), .ref (ad 2), .ref (ad 6), .ref (ad 7), .int (nI n), .int (nI L.1), .int K.2.1, .int K.2.2, .int st])) ∧
  ct 1 = some (.inr (1, [.ref (ad 4), .ref (ad 5)])) ∧ ct 2 = some (.inr (3, [.ref (ad 3), .int A.2.2.1])) ∧ ct 3 = some (.inl (G.2.1.1, 64, .inl A.2.2.2)) ∧
  ct 4 = some (.inl (G.2.1.1, 18, .inl borT)) ∧ ct 5 = some (.inl (G.2.1.1, 216, .inl selT)) ∧
  ct 6 = some (.inl (G.2.1.2.2, 300, .inr (.inr (.inr (.inr (dvF ad n)))))) ∧ ct 7 = some (.inl (G.2.1.2.2, 300, .inr (.inr (.inr (.inr K.1))))) ∧
  (∀ i, i < n → ct (100 + 2 * i) = some (.inr (0, DC ad ty A T L i))) ∧
  (∀ j, j < L.1 → ct (101 + 2 * j) = some (.inr (2, [.ref (ad (100 + 2 * L.2.2 j)), va_rf (lkF ad (geL L.2.1 (L.2.1 j) (L.1 - (j + 1)) (j + 1)))]))) ∧
  n ≤ 300 ∧ L.1 ≤ 400 ∧ (∀ j, j < L.1 → L.2.1 j < n ∧ L.2.2 j < n) ∧ ∀ i, i < n → ∃ k, k < 11 ∧ ty i = nI (7 + k)
def putD (i : Nat) (A : AS) (q : St) : AS := (upd A.1 i q.1, upd A.2.1 i q.2.1, q.2.2.1, q.2.2.2)
def getD (i : Nat) (A : AS) : St := (A.1 i, A.2.1 i, A.2.2.1, A.2.2.2)
def clrA (A : AS) : AS := (A.1, A.2.1, 0, A.2.2.2)
theorem RC_o {G : hG} {ad : Nat → Nat} {ct ct1 : Nat → Option va_E} {n : Nat} {ty : Nat → Int32} {A : AS} {T : TS} {L : LS4} {K : KS} {st tc pl st1 : Int32} (h : RC G ad ct n ty A T L K st) (h0 : ct1 0 = some (.inr (4, [.ref (ad 1), .ref (ad 2), .ref (ad 6), .ref (ad 7), .int (nI n), .int (nI L.1), .int tc, .int pl, .int st1]))) (hg : ∀ j, j ≠ 0 → ct1 j = ct j) : RC G ad ct1 n ty A T L (K.1, tc, pl) st1 := by
  obtain ⟨a0, a1, a2, a3, a4, a5, a6, a7, a8, a9, a10⟩ := h
  exact ⟨h0, (hg 1 (by omega)).trans a1, (hg 2 (by omega)).trans a2, (hg 3 (by omega)).trans a3, (hg 4 (by omega)).trans a4, (hg 5 (by omega)).trans a5, (hg 6 (by omega)).trans a6, (hg 7 (by omega)).trans a7, fun i hi => (hg _ (by omega)).trans (a8 i hi), fun j hj => (hg _ (by omega)).trans (a9 j hj), a10⟩
theorem RC_t {G : hG} {ad : Nat → Nat} {ct ct1 : Nat → Option va_E} {n : Nat} {ty : Nat → Int32} {A : AS} {T : TS} {L : LS4} {K : KS} {st : Int32} (h : RC G ad ct n ty A T L K st) (h2 : ct1 2 = some (.inr (3, [.ref (ad 3), .int 0]))) (hg : ∀ j, j ≠ 2 → ct1 j = ct j) : RC G ad ct1 n ty (clrA A) T L K st := by
  obtain ⟨a0, a1, a2, a3, a4, a5, a6, a7, a8, a9, a10⟩ := h
  exact ⟨(hg 0 (by omega)).trans a0, (hg 1 (by omega)).trans a1, h2, (hg 3 (by omega)).trans a3, (hg 4 (by omega)).trans a4, (hg 5 (by omega)).trans a5, (hg 6 (by omega)).trans a6, (hg 7 (by omega)).trans a7, fun i hi => (hg _ (by omega)).trans (a8 i hi), fun j hj => (hg _ (by omega)).trans (a9 j hj), a10⟩
theorem RC_7 {G : hG} {ad : Nat → Nat} {ct ct1 : Nat → Option va_E} {n : Nat} {ty : Nat → Int32} {A : AS} {T : TS} {L : LS4} {K : KS} {st : Int32} {tkr : Nat → Option Nat} (h : RC G ad ct n ty A T L K st) (h7 : ct1 7 = some (.inl (G.2.1.2.2, 300, .inr (.inr (.inr (.inr tkr)))))) (hg : ∀ j, j ≠ 7 → ct1 j = ct j) : RC G ad ct1 n ty A T L (tkr, K.2) st := by
  obtain ⟨a0, a1, a2, a3, a4, a5, a6, a7, a8, a9, a10⟩ := h
  exact ⟨(hg 0 (by omega)).trans a0, (hg 1 (by omega)).trans a1, (hg 2 (by omega)).trans a2, (hg 3 (by omega)).trans a3, (hg 4 (by omega)).trans a4, (hg 5 (by omega)).trans a5, (hg 6 (by omega)).trans a6, h7, fun i hi => (hg _ (by omega)).trans (a8 i hi), fun j hj => (hg _ (by omega)).trans (a9 j hj), a10⟩
theorem DC_ne {ad : Nat → Nat} {ty : Nat → Int32} {A : AS} {T : TS} {L : LS4} {i j : Nat} (q : St) (x1 x2 x3 : Int32) (h : j ≠ i) : DC ad ty (putD i A q) (upd T.1 i x1, upd T.2.1 i x2, upd T.2.2 i x3) L j = DC ad ty A T L j := by
  unfold DC putD
  simp only [pk_un h]
theorem DC_ne0 {ad : Nat → Nat} {ty : Nat → Int32} {A : AS} {T : TS} {L : LS4} {i j : Nat} (q : St) (h : j ≠ i) : DC ad ty (putD i A q) T L j = DC ad ty A T L j := by
  unfold DC putD
  simp only [pk_un h]
theorem RC_d {G : hG} {ad : Nat → Nat} {ct ct1 : Nat → Option va_E} {n : Nat} {ty : Nat → Int32} {A : AS} {T : TS} {L : LS4} {K : KS} {st : Int32} {i : Nat} {q : St} (h : RC G ad ct n ty A T L K st) (hi : i < n) (hk : ct1 (100 + 2 * i) = some (.inr (0, [.ref (ad 1), .ref (ad 2), .int (ty i), .int q.1, .int q.2.1, va_rf (lkF ad (geL L.2.1 i L.1 0)), va_rf (lkF ad (lstL L.2.1 i L.1)), .int (nI (cntL L.2.1 i L.1)), .int (nI (cntL L.2.2 i L.1)), .int (T.1 i), .int (T.2.1 i), .int (T.2.2 i)]))) (h2 : ct1 2 = some (.inr (3, [.ref (ad 3), .int q.2.2.1]))) (h3 : ct1 3 = some (.inl (G.2.1.1, 64, .inl q.2.2.2))) (hg : ∀ j, j ≠ 100 + 2 * i → j ≠ 2 → j ≠ 3 → ct1 j = ct j) : RC G ad ct1 n ty (putD i A q) T L K st := by
  obtain ⟨a0, a1, a2, a3, a4, a5, a6, a7, a8, a9, a10⟩ := h
  refine ⟨(hg 0 (by omega) (by omega) (by omega)).trans a0, (hg 1 (by omega) (by omega) (by omega)).trans a1, h2, h3, (hg 4 (by omega) (by omega) (by omega)).trans a4, (hg 5 (by omega) (by omega) (by omega)).trans a5, (hg 6 (by omega) (by omega) (by omega)).trans a6, (hg 7 (by omega) (by omega) (by omega)).trans a7, fun j hj => ?_, fun j hj => (hg _ (by omega) (by omega) (by omega)).trans (a9 j hj), a10⟩
  by_cases hji : j = i
  · subst hji
    rw [hk]
    unfold DC putD
    simp only [pk_us]
  · rw [hg _ (by omega) (by omega) (by omega), a8 j hj, DC_ne0 q hji]
theorem RC_k {G : hG} {ad : Nat → Nat} {ct ct1 : Nat → Option va_E} {n : Nat} {ty : Nat → Int32} {A : AS} {T : TS} {L : LS4} {K : KS} {st x1 x2 x3 : Int32} {i : Nat} {q : St} (h : RC G ad ct n ty A T L K st) (hi : i < n) (hk : ct1 (100 + 2 * i) = some (.inr (0, [.ref (ad 1), .ref (ad 2), .int (ty i), .int q.1, .int q.2.1, va_rf (lkF ad (geL L.2.1 i L.1 0)), va_rf (lkF ad (lstL L.2.1 i L.1)), .int (nI (cntL L.2.1 i L.1)), .int (nI (cntL L.2.2 i L.1)), .int x1, .int x2, .int x3]))) (h2 : ct1 2 = some (.inr (3, [.ref (ad 3), .int q.2.2.1]))) (h3 : ct1 3 = some (.inl (G.2.1.1, 64, .inl q.2.2.2))) (hg : ∀ j, j ≠ 100 + 2 * i → j ≠ 2 → j ≠ 3 → ct1 j = ct j) : RC G ad ct1 n ty (putD i A q) (upd T.1 i x1, upd T.2.1 i x2, upd T.2.2 i x3) L K st := by
  obtain ⟨a0, a1, a2, a3, a4, a5, a6, a7, a8, a9, a10⟩ := h
  refine ⟨(hg 0 (by omega) (by omega) (by omega)).trans a0, (hg 1 (by omega) (by omega) (by omega)).trans a1, h2, h3, (hg 4 (by omega) (by omega) (by omega)).trans a4, (hg 5 (by omega) (by omega) (by omega)).trans a5, (hg 6 (by omega) (by omega) (by omega)).trans a6, (hg 7 (by omega) (by omega) (by omega)).trans a7, fun j hj => ?_, fun j hj => (hg _ (by omega) (by omega) (by omega)).trans (a9 j hj), a10⟩
  by_cases hji : j = i
  · subst hji
    rw [hk]
    unfold DC putD
    simp only [pk_us]
  · rw [hg _ (by omega) (by omega) (by omega), a8 j hj, DC_ne q x1 x2 x3 hji]
def findF (n : Int32) (dv : Nat → Option Nat) (d : Int32) : Option Nat := if d < 0 then none else if n ≤ d then none else if 300 ≤ d then none else dv d.toNatClampNeg
theorem findF_ok {ad : Nat → Nat} {n i : Nat} (hn : n ≤ 300) (hi : i < n) : findF (nI n) (dvF ad n) (nI i) = some (ad (100 + 2 * i)) := by
  unfold findF
  rw [if_neg (nI_pos (by omega)), if_neg (nI_ge hi (by omega)), if_neg (show ¬ (300 : Int32) ≤ nI i from nI_ge (b := 300) (by omega) (by omega)), nI_clamp (by omega)]
  unfold dvF
  rw [if_pos hi]
theorem findF_no {ad : Nat → Nat} {n : Nat} {d : Int32} (hn : n ≤ 300) (hd : ∀ i, i < n → d ≠ nI i) : findF (nI n) (dvF ad n) d = none := by
  unfold findF
  by_cases h0 : d < 0
  · rw [if_pos h0]
  · rw [if_neg h0]
    obtain ⟨j, hj, rfl⟩ := nI_of h0
    by_cases h1 : nI n ≤ nI j
    · rw [if_pos h1]
    · exact absurd rfl (hd j (Nat.not_le.mp fun q => h1 ((nI_leI (by omega) hj).mpr q)))
theorem dev_cases (n : Nat) (d : Int32) : (∃ i, i < n ∧ d = nI i) ∨ ∀ i, i < n → d ≠ nI i := by
  by_cases h : ∃ i, i < n ∧ d = nI i
  · exact Or.inl h
  · exact Or.inr fun i hi hd => h ⟨i, hi, hd⟩
def rfF (t act way : Int32) : Int32 := if isActF act = 0 then 1 else if isWayF way = 0 then 1 else if bearsF borT t way = 0 then 2 else if devHasF t way act = 0 then 3 else 0
def rfAllF (act way : Int32) : Int32 := if isActF act = 0 then 1 else if isWayF way = 0 then 1 else if way = 0 then 0 else if hasActF way act = 0 then 3 else 0
def atbX (code so : Int32) : Int32 := if code < 128 then so else 0 - so
def atbF (t code so : Int32) (q : St) : Int32 × St := if rfF t (code &&& 15) (code >>> (4 &&& 31) &&& 7) = 0 then runS 40 t (selOfF selT t (code &&& 15)) (atbX code so) q else (0, q)
def actD (ty : Nat → Int32) (i : Nat) (a x : Int32) (A : AS) : Int32 × AS := ((runS 40 (ty i) (selOfF selT (ty i) a) x (getD i A)).1, putD i A (runS 40 (ty i) (selOfF selT (ty i) a) x (getD i A)).2)
def evL (ty : Nat → Int32) (act way x : Int32) : Nat → Nat → Int32 → AS → Int32 × AS
  | 0, _, s, A => (s, A)
  | k + 1, d, s, A => if rfF (ty d) act way = 0 then evL ty act way x k (d + 1) (s + (actD ty d act x A).1) (actD ty d act x A).2 else evL ty act way x k (d + 1) s A
def byteF (bytes sh : Int32) : Int32 := (bytes.toUInt32 >>> (sh.toUInt32 &&& Int32.toUInt32 31)).toInt32 &&& 255
def fdD (ty : Nat → Int32) (i : Nat) (code so : Int32) (A : AS) : Int32 × AS := ((atbF (ty i) code so (getD i A)).1, putD i A (atbF (ty i) code so (getD i A)).2)
def fdL (ty : Nat → Int32) (i : Nat) (bytes : Int32) : Nat → Int32 → AS → Int32 × AS
  | 0, s, A => (s, A)
  | k + 1, s, A => fdL ty i bytes k (s + (fdD ty i (byteF bytes (nI (8 * k))) s A).1) (fdD ty i (byteF bytes (nI (8 * k))) s A).2
/-- a pulse: which have taken (marks), who took in which order, what each answered -/
abbrev PS : Type := AS × TS × (Nat → Option Nat) × Nat
def takD (ad : Nat → Nat) (ty : Nat → Int32) (pl : Int32) (i : Nat) (x : Int32) (P : PS) : PS :=
  ((actD ty i (takActF (ty i)) x P.1).2, (upd P.2.1.1 i (P.2.1.1 i + 1), upd P.2.1.2.1 i pl, upd P.2.1.2.2 i (actD ty i (takActF (ty i)) x P.1).1), va_up P.2.2.1 P.2.2.2 (some (ad (100 + 2 * i))), P.2.2.2 + 1)
end
section
set_option maxRecDepth 100000 in
set_option maxHeartbeats 4000000 in
theorem c_X0_answer (l : Launch) (G : hG) (ad : Nat → Nat) (ct : Nat → Option va_E) {k : Nat} {t : Int32} {r : Nat → Value} {q : St} (hk100 : 100 ≤ k) (h1 : ct 1 = some (.inr (1, [.ref (ad 4), .ref (ad 5)]))) (h5 : ct 5 = some (.inl (G.2.1.1, 216, .inl selT))) (hd : dW G ad ct k t r q) (a x : Int32)  : Met l yX0_answer wzX0_answer { frames := 124, cells := 0, slots := 0, locals := 2866 } (hPw [.ref (ad k), .int a, .int x] G ad ct) (hQi (fun rr ct1 => rr = (runS 40 t (selOfF selT t a) x q).1 ∧ dW G ad ct1 k t r (runS 40 t (selOfF selT t a) x q).2 ∧ ∀ j, j ≠ k → j ≠ 2 → j ≠ 3 → ct1 j = ct j) G ad) 0 0 (hA G.2.2.2) := by
  refine hMetw (by decide) (Nat.le_of_ble_eq_true rfl) (fun p e s m below meth c ls S hr hlk hE hW hl => ?_)
  obtain ⟨hx, hb, hml, hown, hts⟩ := id S
  have hS : va_S (hA G.2.2.2) s.heap s.heap [] := va_S.rf
  have hl : lv_has ls 3 [(0, .ref (ad k)), (1, .int a), (2, .int x)] := hl
  obtain ⟨hk, h2, h3⟩ := hd
  refine lv_aload_n hx hb dX0_answer_0 rfl (lv_at hl 0 rfl) ?_
  refine lv_iload_n hx hb dX0_answer_1 rfl (lv_at hl 1 rfl) ?_
  refine lv_iload_n hx hb dX0_answer_2 rfl (lv_at hl 2 rfl) ?_
  refine lv_iconst (v := 0) hx hb dX0_answer_3 (by decide) ?_
  refine hc_i (va_runV (As := [.int a, .int x, .int 0]) (rest := []) S (c_X0_act l G ad _ 40 (RunC_all l G 40) (k := k) (t := t) (r := r) (q := q) hk100 h1 h5 ⟨hk, h2, h3⟩ 0 rfl a x) (cwV 3 hts (gWSV q_l_0_69 q_im_X0_act q_se_X0_act q_in_0 q_co_X0_act) rfl rfl rfl (by decide +kernel) ⟨Nat.le_of_ble_eq_true rfl, Nat.le_of_ble_eq_true rfl⟩) (hPreVw hE hS (hrecv hE hW hk (q := (RX0, TX0, 12)) rfl) hW) rfl rfl hl.1 rfl (lv_room (Nat.le_of_ble_eq_true rfl)) dX0_answer_4 ⟨Nat.le_of_ble_eq_true rfl, Nat.le_of_ble_eq_true rfl⟩) hS (fun rv_7 ct_1 H locs hp hW hS => ?_)
  obtain ⟨ev_6, ⟨h_2, h_3, h_4⟩, hg_5⟩ := hp
  subst ev_6
  have h_8 := (hg_5 1 (by omega) (by decide) (by decide)).trans h1
  have h_9 := (hg_5 5 (by omega) (by decide) (by decide)).trans h5
  exact h_iret S hr hlk hS hW dX0_answer_7 ⟨rfl, ⟨h_2, h_3, h_4⟩, (fun j q0 q1 q2 => hg_5 j q0 q1 q2)⟩
set_option maxRecDepth 100000 in
set_option maxHeartbeats 4000000 in
theorem c_X4_refusal (l : Launch) (G : hG) (H : Heap) {ad : Nat → Nat} {ct : Nat → Option va_E} (hW : hw G ad ct H) {k : Nat} {t v c0 : Int32} {r : Nat → Value} (hk : ct k = some (.inr (0, [.ref (ad 1), .ref (ad 2), .int t, .int v, .int c0, r 5, r 6, r 7, r 8, r 9, r 10, r 11]))) (h1 : ct 1 = some (.inr (1, [.ref (ad 4), .ref (ad 5)]))) (h4 : ct 4 = some (.inl (G.2.1.1, 18, .inl borT))) (a w : Int32)  : Met l yX4_refusal wzX4_refusal { frames := 4, cells := 0, slots := 0, locals := 88 } (hPr [.ref (ad k), .int a, .int w] G H) (hQr (rfF t a w) H G.2.2.2) 0 0 (hA G.2.2.2) := by
  refine hMetr (Qc := fun H => hQr (rfF t a w) H G.2.2.2) (by decide) (Nat.le_of_ble_eq_true rfl) (fun p e s m below meth c ls S hr hlk hE hH hl => ?_)
  subst hH
  obtain ⟨hx, hb, hml, hown, hts⟩ := id S
  have hS : va_S (hA G.2.2.2) s.heap s.heap [] := va_S.rf
  have hl : lv_has ls 3 [(0, .ref (ad k)), (1, .int a), (2, .int w)] := hl
  refine lv_aload_n hx hb dX4_refusal_0 rfl (lv_at hl 0 rfl) ?_
  refine lv_ifnull hx hb dX4_refusal_1 ?_
  refine lv_iload_n hx hb dX4_refusal_4 rfl (lv_at hl 1 rfl) ?_
  refine hc_r (va_runS (As := [.int a]) (rest := []) S (c_X4_isAct l G _ a) (va_cwS 1 hts (gWSS q_l_4_111 q_st_X4_isAct q_in_4 q_co_X4_isAct) rfl rfl rfl (by decide +kernel) ⟨Nat.le_of_ble_eq_true rfl, Nat.le_of_ble_eq_true rfl⟩) (hPreSr hE hS) rfl rfl hl.1 rfl (lv_room (Nat.le_of_ble_eq_true rfl)) dX4_refusal_5 ⟨Nat.le_of_ble_eq_true rfl, Nat.le_of_ble_eq_true rfl⟩) hS (fun locs hS => ?_)
  refine lv_if_eq (tgt := 18) hx hb dX4_refusal_8 (by decide) (fun c_8 => ?_) (fun c_8 => ?_)
  · refine lv_iconst (v := 1) hx hb dX4_refusal_18 (by decide) ?_
    exact h_rret S hr hlk hS dX4_refusal_19 (by simp [rfF, c_8])
  · refine lv_iload_n hx hb dX4_refusal_11 rfl (lv_at hl 2 rfl) ?_
    refine hc_r (va_runS (As := [.int w]) (rest := []) S (c_X4_isWay l G _ w) (va_cwS 1 hts (gWSS q_l_4_91 q_st_X4_isWay q_in_4 q_co_X4_isWay) rfl rfl rfl (by decide +kernel) ⟨Nat.le_of_ble_eq_true rfl, Nat.le_of_ble_eq_true rfl⟩) (hPreSr hE hS) rfl rfl hl.1 rfl (lv_room (Nat.le_of_ble_eq_true rfl)) dX4_refusal_12 ⟨Nat.le_of_ble_eq_true rfl, Nat.le_of_ble_eq_true rfl⟩) hS (fun locs hS => ?_)
    refine lv_if_ne (tgt := 20) hx hb dX4_refusal_15 (by decide) (fun c_15 => ?_) (fun c_15 => ?_)
    · refine lv_aload_n hx hb dX4_refusal_20 rfl (lv_at hl 0 rfl) ?_
      refine lv_iload_n hx hb dX4_refusal_21 rfl (lv_at hl 2 rfl) ?_
      refine hc_r (va_runVN (As := [.int w]) (rest := []) S (c_X0_bears l G _ hW hk h1 h4 w) ⟨va_cnB 1 hts (gWS q_co_X0_bears) rfl rfl rfl (hE.nest 12 rfl) (hts _ q_in_0) (by decide +kernel) ⟨Nat.le_of_ble_eq_true rfl, Nat.le_of_ble_eq_true rfl⟩, hts _ q_im_X0_bears, hts _ q_se_X0_bears⟩ (hPreVr hE hS (hrecv hE hW hk (q := (RX0, TX0, 12)) rfl)) rfl rfl hl.1 rfl (lv_room (Nat.le_of_ble_eq_true rfl)) dX4_refusal_22 ⟨Nat.le_of_ble_eq_true rfl, Nat.le_of_ble_eq_true rfl⟩) hS (fun locs hS => ?_)
      refine lv_if_ne (tgt := 30) hx hb dX4_refusal_25 (by decide) (fun c_25 => ?_) (fun c_25 => ?_)
      · refine lv_aload_n hx hb dX4_refusal_30 rfl (lv_at hl 0 rfl) ?_
        refine lv_iload_n hx hb dX4_refusal_31 rfl (lv_at hl 2 rfl) ?_
        refine lv_iload_n hx hb dX4_refusal_32 rfl (lv_at hl 1 rfl) ?_
        refine hc_r (va_runVN (As := [.int w, .int a]) (rest := []) S (c_X0_hasAct l G _ hW hk h1 h4 w a) ⟨va_cnB 2 hts (gWS q_co_X0_hasAct) rfl rfl rfl (hE.nest 15 rfl) (hts _ q_in_0) (by decide +kernel) ⟨Nat.le_of_ble_eq_true rfl, Nat.le_of_ble_eq_true rfl⟩, hts _ q_im_X0_hasAct, hts _ q_se_X0_hasAct⟩ (hPreVr hE hS (hrecv hE hW hk (q := (RX0, TX0, 12)) rfl)) rfl rfl hl.1 rfl (lv_room (Nat.le_of_ble_eq_true rfl)) dX4_refusal_33 ⟨Nat.le_of_ble_eq_true rfl, Nat.le_of_ble_eq_true rfl⟩) hS (fun locs hS => ?_)
        refine lv_if_eq (tgt := 43) hx hb dX4_refusal_36 (by decide) (fun c_36 => ?_) (fun c_36 => ?_)
        · refine lv_iconst (v := 3) hx hb dX4_refusal_43 (by decide) ?_
          exact h_rret S hr hlk hS dX4_refusal_44 (by simp [rfF, c_8, c_15, c_25, c_36])
        · refine lv_iconst (v := 0) hx hb dX4_refusal_39 (by decide) ?_
          refine lv_goto (tgt := 44) hx hb dX4_refusal_40 (by decide) ?_
          exact h_rret S hr hlk hS dX4_refusal_44 (by simp [rfF, c_8, c_15, c_25, c_36])
      · refine lv_iconst (v := 2) hx hb dX4_refusal_28 (by decide) ?_
        exact h_rret S hr hlk hS dX4_refusal_29 (by simp [rfF, c_8, c_15, c_25])
    · refine lv_iconst (v := 1) hx hb dX4_refusal_18 (by decide) ?_
      exact h_rret S hr hlk hS dX4_refusal_19 (by simp [rfF, c_8, c_15])
set_option maxRecDepth 100000 in
set_option maxHeartbeats 4000000 in
theorem c_X4_refusal_n (l : Launch) (G : hG) (H : Heap) (a w : Int32)  : Met l yX4_refusal wzX4_refusal { frames := 4, cells := 0, slots := 0, locals := 88 } (hPr [.null, .int a, .int w] G H) (hQr (1) H G.2.2.2) 0 0 (hA G.2.2.2) := by
  refine hMetr (Qc := fun H => hQr (1) H G.2.2.2) (by decide) (Nat.le_of_ble_eq_true rfl) (fun p e s m below meth c ls S hr hlk hE hH hl => ?_)
  subst hH
  obtain ⟨hx, hb, hml, hown, hts⟩ := id S
  have hS : va_S (hA G.2.2.2) s.heap s.heap [] := va_S.rf
  have hl : lv_has ls 3 [(0, .null), (1, .int a), (2, .int w)] := hl
  refine lv_aload_nN hx hb dX4_refusal_0 rfl (lv_at hl 0 rfl) ?_
  refine lv_ifnullN (tgt := 18) hx hb dX4_refusal_1 (by decide) ?_
  refine lv_iconst (v := 1) hx hb dX4_refusal_18 (by decide) ?_
  exact h_rret S hr hlk hS dX4_refusal_19 rfl
set_option maxRecDepth 100000 in
set_option maxHeartbeats 4000000 in
theorem c_X4_refusalOfAll (l : Launch) (G : hG) (H : Heap) {ad : Nat → Nat} {ct : Nat → Option va_E} (hW : hw G ad ct H) {n0 m0 tc pl st0 : Int32} (h0 : ct 0 = some (.inr (4, [.ref (ad 1), .ref (ad 2), .ref (ad 6), .ref (ad 7), .int n0, .int m0, .int tc, .int pl, .int st0]))) (h1 : ct 1 = some (.inr (1, [.ref (ad 4), .ref (ad 5)]))) (a w : Int32)  : Met l yX4_refusalOfAll wzX4_refusalOfAll { frames := 2, cells := 0, slots := 0, locals := 43 } (hPr [.ref (ad 0), .int a, .int w] G H) (hQr (rfAllF a w) H G.2.2.2) 0 0 (hA G.2.2.2) := by
  refine hMetr (Qc := fun H => hQr (rfAllF a w) H G.2.2.2) (by decide) (Nat.le_of_ble_eq_true rfl) (fun p e s m below meth c ls S hr hlk hE hH hl => ?_)
  subst hH
  obtain ⟨hx, hb, hml, hown, hts⟩ := id S
  have hS : va_S (hA G.2.2.2) s.heap s.heap [] := va_S.rf
  have hl : lv_has ls 3 [(0, .ref (ad 0)), (1, .int a), (2, .int w)] := hl
  refine lv_iload_n hx hb dX4_refusalOfAll_0 rfl (lv_at hl 1 rfl) ?_
  refine hc_r (va_runS (As := [.int a]) (rest := []) S (c_X4_isAct l G _ a) (va_cwS 1 hts (gWSS q_l_4_111 q_st_X4_isAct q_in_4 q_co_X4_isAct) rfl rfl rfl (by decide +kernel) ⟨Nat.le_of_ble_eq_true rfl, Nat.le_of_ble_eq_true rfl⟩) (hPreSr hE hS) rfl rfl hl.1 rfl (lv_room (Nat.le_of_ble_eq_true rfl)) dX4_refusalOfAll_1 ⟨Nat.le_of_ble_eq_true rfl, Nat.le_of_ble_eq_true rfl⟩) hS (fun locs hS => ?_)
  refine lv_if_eq (tgt := 14) hx hb dX4_refusalOfAll_4 (by decide) (fun c_4 => ?_) (fun c_4 => ?_)
  · refine lv_iconst (v := 1) hx hb dX4_refusalOfAll_14 (by decide) ?_
    exact h_rret S hr hlk hS dX4_refusalOfAll_15 (by rw [rfAllF, if_pos c_4])
  · refine lv_iload_n hx hb dX4_refusalOfAll_7 rfl (lv_at hl 2 rfl) ?_
    refine hc_r (va_runS (As := [.int w]) (rest := []) S (c_X4_isWay l G _ w) (va_cwS 1 hts (gWSS q_l_4_91 q_st_X4_isWay q_in_4 q_co_X4_isWay) rfl rfl rfl (by decide +kernel) ⟨Nat.le_of_ble_eq_true rfl, Nat.le_of_ble_eq_true rfl⟩) (hPreSr hE hS) rfl rfl hl.1 rfl (lv_room (Nat.le_of_ble_eq_true rfl)) dX4_refusalOfAll_8 ⟨Nat.le_of_ble_eq_true rfl, Nat.le_of_ble_eq_true rfl⟩) hS (fun locs hS => ?_)
    refine lv_if_ne (tgt := 16) hx hb dX4_refusalOfAll_11 (by decide) (fun c_11 => ?_) (fun c_11 => ?_)
    · refine lv_iload_n hx hb dX4_refusalOfAll_16 rfl (lv_at hl 2 rfl) ?_
      refine lv_if_eq (tgt := 32) hx hb dX4_refusalOfAll_17 (by decide) (fun c_17 => ?_) (fun c_17 => ?_)
      · refine lv_iconst (v := 0) hx hb dX4_refusalOfAll_32 (by decide) ?_
        refine lv_goto (tgt := 37) hx hb dX4_refusalOfAll_33 (by decide) ?_
        exact h_rret S hr hlk hS dX4_refusalOfAll_37 (by rw [rfAllF, if_neg c_4, if_neg c_11, if_pos c_17])
      · refine lv_aload_n hx hb dX4_refusalOfAll_20 rfl (lv_at hl 0 rfl) ?_
        refine hr_get S hE hW h0 inX4 (C := RX4) (T := TX4) (N := 9) rfl 0 (by decide) q_f_4_12 rfl dX4_refusalOfAll_21 ?_
        refine lv_iload_n hx hb dX4_refusalOfAll_24 rfl (lv_at hl 2 rfl) ?_
        refine lv_iload_n hx hb dX4_refusalOfAll_25 rfl (lv_at hl 1 rfl) ?_
        refine hc_r (va_runVN (As := [.int w, .int a]) (rest := []) S (c_X1_hasAct l G _ hW h1 w a) ⟨va_cnB 2 hts (gWS q_co_X1_hasAct) rfl rfl rfl (hE.nest 23 rfl) (hts _ q_in_1) (by decide +kernel) ⟨Nat.le_of_ble_eq_true rfl, Nat.le_of_ble_eq_true rfl⟩, hts _ q_im_X1_hasAct, hts _ q_se_X1_hasAct⟩ (hPreVr hE hS (hrecv hE hW h1 (q := (RX1, TX1, 2)) rfl)) rfl rfl hl.1 rfl (lv_room (Nat.le_of_ble_eq_true rfl)) dX4_refusalOfAll_26 ⟨Nat.le_of_ble_eq_true rfl, Nat.le_of_ble_eq_true rfl⟩) hS (fun locs hS => ?_)
        refine lv_if_eq (tgt := 36) hx hb dX4_refusalOfAll_29 (by decide) (fun c_29 => ?_) (fun c_29 => ?_)
        · refine lv_iconst (v := 3) hx hb dX4_refusalOfAll_36 (by decide) ?_
          exact h_rret S hr hlk hS dX4_refusalOfAll_37 (by rw [rfAllF, if_neg c_4, if_neg c_11, if_neg c_17, if_pos c_29])
        · refine lv_iconst (v := 0) hx hb dX4_refusalOfAll_32 (by decide) ?_
          refine lv_goto (tgt := 37) hx hb dX4_refusalOfAll_33 (by decide) ?_
          exact h_rret S hr hlk hS dX4_refusalOfAll_37 (by rw [rfAllF, if_neg c_4, if_neg c_11, if_neg c_17, if_neg c_29])
    · refine lv_iconst (v := 1) hx hb dX4_refusalOfAll_14 (by decide) ?_
      exact h_rret S hr hlk hS dX4_refusalOfAll_15 (by rw [rfAllF, if_neg c_4, if_pos c_11])
set_option maxRecDepth 100000 in
set_option maxHeartbeats 4000000 in
theorem c_X4_find (l : Launch) (G : hG) (H : Heap) {ad : Nat → Nat} {ct : Nat → Option va_E} (hW : hw G ad ct H) {n0 m0 tc pl st0 : Int32} {dv : Nat → Option Nat} (h0 : ct 0 = some (.inr (4, [.ref (ad 1), .ref (ad 2), .ref (ad 6), .ref (ad 7), .int n0, .int m0, .int tc, .int pl, .int st0]))) (h6 : ct 6 = some (.inl (G.2.1.2.2, 300, .inr (.inr (.inr (.inr dv)))))) (d : Int32)  : Met l yX4_find wzX4_find { frames := 0, cells := 0, slots := 0, locals := 0 } (hPr [.ref (ad 0), .int d] G H) (hQq (findF n0 dv d) H G.2.2.2) 0 0 (hA G.2.2.2) := by
  refine hMetr (Qc := fun H => hQq (findF n0 dv d) H G.2.2.2) (by decide) (Nat.le_of_ble_eq_true rfl) (fun p e s m below meth c ls S hr hlk hE hH hl => ?_)
  subst hH
  obtain ⟨hx, hb, hml, hown, hts⟩ := id S
  have hS : va_S (hA G.2.2.2) s.heap s.heap [] := va_S.rf
  have hl : lv_has ls 2 [(0, .ref (ad 0)), (1, .int d)] := hl
  refine lv_iload_n hx hb dX4_find_0 rfl (lv_at hl 1 rfl) ?_
  refine lv_if_lt (tgt := 30) hx hb dX4_find_1 (by decide) (fun c_1 => ?_) (fun c_1 => ?_)
  · refine lv_null hx hb dX4_find_30 ?_
    exact h_rqret S hr hlk hS dX4_find_31 (by simp [findF, va_rf, c_1])
  · refine lv_iload_n hx hb dX4_find_4 rfl (lv_at hl 1 rfl) ?_
    refine lv_aload_n hx hb dX4_find_5 rfl (lv_at hl 0 rfl) ?_
    refine hr_get S hE hW h0 inX4 (C := RX4) (T := TX4) (N := 9) rfl 4 (by decide) q_f_4_36 rfl dX4_find_6 ?_
    refine lv_icmp_ge (tgt := 30) hx hb dX4_find_9 (by decide) (fun c_9 => ?_) (fun c_9 => ?_)
    · refine lv_null hx hb dX4_find_30 ?_
      exact h_rqret S hr hlk hS dX4_find_31 (by simp [findF, va_rf, c_1, c_9])
    · refine lv_iload_n hx hb dX4_find_12 rfl (lv_at hl 1 rfl) ?_
      refine lv_aload_n hx hb dX4_find_13 rfl (lv_at hl 0 rfl) ?_
      refine hr_get S hE hW h0 inX4 (C := RX4) (T := TX4) (N := 9) rfl 2 (by decide) q_f_4_25 rfl dX4_find_14 ?_
      refine hr_alen S hE hW h6 2 rfl (v := 300) rfl dX4_find_17 ?_
      refine lv_icmp_ge (tgt := 30) hx hb dX4_find_18 (by decide) (fun c_18 => ?_) (fun c_18 => ?_)
      · refine lv_null hx hb dX4_find_30 ?_
        exact h_rqret S hr hlk hS dX4_find_31 (by simp [findF, va_rf, c_1, c_9, c_18])
      · refine lv_aload_n hx hb dX4_find_21 rfl (lv_at hl 0 rfl) ?_
        refine hr_get S hE hW h0 inX4 (C := RX4) (T := TX4) (N := 9) rfl 2 (by decide) q_f_4_25 rfl dX4_find_22 ?_
        refine lv_iload_n hx hb dX4_find_25 rfl (lv_at hl 1 rfl) ?_
        refine hr_aald S hE hW h6 (in_lt (N := 300) (by omega) rfl c_1 c_18) dX4_find_26 ?_
        refine lv_goto (tgt := 31) hx hb dX4_find_27 (by decide) ?_
        exact h_rqret S hr hlk hS dX4_find_31 (by simp [findF, va_rf, c_1, c_9, c_18])
set_option maxRecDepth 100000 in
set_option maxHeartbeats 4000000 in
theorem c_X4_answerToByte (l : Launch) (G : hG) (ad : Nat → Nat) (ct : Nat → Option va_E) {k : Nat} {t : Int32} {r : Nat → Value} {q : St} (hk100 : 100 ≤ k) (h1 : ct 1 = some (.inr (1, [.ref (ad 4), .ref (ad 5)]))) (h5 : ct 5 = some (.inl (G.2.1.1, 216, .inl selT))) (hd : dW G ad ct k t r q) (h4 : ct 4 = some (.inl (G.2.1.1, 18, .inl borT))) (co so : Int32)  : Met l yX4_answerToByte wzX4_answerToByte { frames := 125, cells := 0, slots := 0, locals := 2888 } (hPw [.ref (ad k), .int co, .int so] G ad ct) (hQi (fun rr ct1 => rr = (atbF t co so q).1 ∧ dW G ad ct1 k t r (atbF t co so q).2 ∧ ∀ j, j ≠ k → j ≠ 2 → j ≠ 3 → ct1 j = ct j) G ad) 0 0 (hA G.2.2.2) := by
  refine hMetw (by decide) (Nat.le_of_ble_eq_true rfl) (fun p e s m below meth c ls S hr hlk hE hW hl => ?_)
  obtain ⟨hx, hb, hml, hown, hts⟩ := id S
  have hS : va_S (hA G.2.2.2) s.heap s.heap [] := va_S.rf
  have hl : lv_has ls 5 [(0, .ref (ad k)), (1, .int co), (2, .int so)] := hl
  obtain ⟨hk, h2, h3⟩ := hd
  refine lv_iload_n hx hb dX4_answerToByte_0 rfl (lv_at hl 1 rfl) ?_
  refine lv_bipush (v := 15) hx hb dX4_answerToByte_1 (by decide) ?_
  refine lv_iand hx hb dX4_answerToByte_3 ?_
  refine lv_istore_n (lv' := [(3, .int (co &&& 15)), (0, .ref (ad k)), (1, .int co), (2, .int so)]) hx hb dX4_answerToByte_4 rfl hl (by decide) rfl (fun ls hl => ?_)
  refine lv_iload_n hx hb dX4_answerToByte_5 rfl (lv_at hl 2 rfl) ?_
  refine lv_iconst (v := 4) hx hb dX4_answerToByte_6 (by decide) ?_
  refine lv_ishr hx hb dX4_answerToByte_7 ?_
  refine lv_bipush (v := 7) hx hb dX4_answerToByte_8 (by decide) ?_
  refine lv_iand hx hb dX4_answerToByte_10 ?_
  refine lv_istore (lv' := [(4, .int ((co >>> (4 &&& 31)) &&& 7)), (3, .int (co &&& 15)), (0, .ref (ad k)), (1, .int co), (2, .int so)]) hx hb dX4_answerToByte_11 hl (by decide) rfl (fun ls hl => ?_)
  refine lv_aload_n hx hb dX4_answerToByte_13 rfl (lv_at hl 2 rfl) ?_
  refine lv_iload_n hx hb dX4_answerToByte_14 rfl (lv_at hl 1 rfl) ?_
  refine lv_iload hx hb dX4_answerToByte_15 (lv_at hl 0 rfl) ?_
  refine hc_r (va_runS (As := [.ref (ad k), .int (co &&& 15), .int ((co >>> (4 &&& 31)) &&& 7)]) (rest := []) S (c_X4_refusal l G _ hW (r := r) hk h1 h4 (co &&& 15) ((co >>> (4 &&& 31)) &&& 7)) (va_cwS 3 hts (gWSS q_l_4_46 q_st_X4_refusal q_in_4 q_co_X4_refusal) rfl rfl rfl (by decide +kernel) ⟨Nat.le_of_ble_eq_true rfl, Nat.le_of_ble_eq_true rfl⟩) (hPreSr hE hS) rfl rfl hl.1 rfl (lv_room (Nat.le_of_ble_eq_true rfl)) dX4_answerToByte_17 ⟨Nat.le_of_ble_eq_true rfl, Nat.le_of_ble_eq_true rfl⟩) hS (fun locs hS => ?_)
  refine lv_if_eq (tgt := 25) hx hb dX4_answerToByte_20 (by decide) (fun c_20 => ?_) (fun c_20 => ?_)
  · refine lv_aload_n hx hb dX4_answerToByte_25 rfl (lv_at hl 2 rfl) ?_
    refine lv_iload_n hx hb dX4_answerToByte_26 rfl (lv_at hl 1 rfl) ?_
    refine lv_iload_n hx hb dX4_answerToByte_27 rfl (lv_at hl 3 rfl) ?_
    refine lv_sipush (v := 128) hx hb dX4_answerToByte_28 (by decide) ?_
    refine lv_icmp_lt (tgt := 40) hx hb dX4_answerToByte_31 (by decide) (fun c_31 => ?_) (fun c_31 => ?_)
    · refine lv_iload_n hx hb dX4_answerToByte_40 rfl (lv_at hl 4 rfl) ?_
      refine hc_i (va_runVN (As := [.int (co &&& 15), .int so]) (rest := []) S (c_X0_answer l G ad _ (k := k) (t := t) (r := r) (q := q) hk100 h1 h5 ⟨hk, h2, h3⟩ (co &&& 15) so) ⟨va_cnB 2 hts (gWS q_co_X0_answer) rfl rfl rfl (hE.nest 19 rfl) (hts _ q_in_0) (by decide +kernel) ⟨Nat.le_of_ble_eq_true rfl, Nat.le_of_ble_eq_true rfl⟩, hts _ q_im_X0_answer, hts _ q_se_X0_answer⟩ (hPreVw hE hS (hrecv hE hW hk (q := (RX0, TX0, 12)) rfl) hW) rfl rfl hl.1 rfl (lv_room (Nat.le_of_ble_eq_true rfl)) dX4_answerToByte_41 ⟨Nat.le_of_ble_eq_true rfl, Nat.le_of_ble_eq_true rfl⟩) hS (fun rv_7 ct_1 H locs hp hW hS => ?_)
      obtain ⟨ev_6, ⟨h_2, h_3, h_4⟩, hg_5⟩ := hp
      subst ev_6
      have h_8 := (hg_5 1 (by omega) (by decide) (by decide)).trans h1
      have h_9 := (hg_5 5 (by omega) (by decide) (by decide)).trans h5
      have h_10 := (hg_5 4 (by omega) (by decide) (by decide)).trans h4
      exact h_iret S hr hlk hS hW dX4_answerToByte_44 (by rw [atbF, if_pos c_20, atbX, if_pos c_31]; exact ⟨rfl, ⟨h_2, h_3, h_4⟩, (fun j q0 q1 q2 => hg_5 j q0 q1 q2)⟩)
    · refine lv_iconst (v := 0) hx hb dX4_answerToByte_34 (by decide) ?_
      refine lv_iload_n hx hb dX4_answerToByte_35 rfl (lv_at hl 4 rfl) ?_
      refine lv_isub hx hb dX4_answerToByte_36 ?_
      refine lv_goto (tgt := 41) hx hb dX4_answerToByte_37 (by decide) ?_
      refine hc_i (va_runVN (As := [.int (co &&& 15), .int (0 - so)]) (rest := []) S (c_X0_answer l G ad _ (k := k) (t := t) (r := r) (q := q) hk100 h1 h5 ⟨hk, h2, h3⟩ (co &&& 15) (0 - so)) ⟨va_cnB 2 hts (gWS q_co_X0_answer) rfl rfl rfl (hE.nest 19 rfl) (hts _ q_in_0) (by decide +kernel) ⟨Nat.le_of_ble_eq_true rfl, Nat.le_of_ble_eq_true rfl⟩, hts _ q_im_X0_answer, hts _ q_se_X0_answer⟩ (hPreVw hE hS (hrecv hE hW hk (q := (RX0, TX0, 12)) rfl) hW) rfl rfl hl.1 rfl (lv_room (Nat.le_of_ble_eq_true rfl)) dX4_answerToByte_41 ⟨Nat.le_of_ble_eq_true rfl, Nat.le_of_ble_eq_true rfl⟩) hS (fun rv_17 ct_11 H locs hp hW hS => ?_)
      obtain ⟨ev_16, ⟨h_12, h_13, h_14⟩, hg_15⟩ := hp
      subst ev_16
      have h_18 := (hg_15 1 (by omega) (by decide) (by decide)).trans h1
      have h_19 := (hg_15 5 (by omega) (by decide) (by decide)).trans h5
      have h_20 := (hg_15 4 (by omega) (by decide) (by decide)).trans h4
      exact h_iret S hr hlk hS hW dX4_answerToByte_44 (by rw [atbF, if_pos c_20, atbX, if_neg c_31]; exact ⟨rfl, ⟨h_12, h_13, h_14⟩, (fun j q0 q1 q2 => hg_15 j q0 q1 q2)⟩)
  · refine lv_iconst (v := 0) hx hb dX4_answerToByte_23 (by decide) ?_
    exact h_iret S hr hlk hS hW dX4_answerToByte_24 (by rw [atbF, if_neg c_20]; exact ⟨rfl, ⟨hk, h2, h3⟩, (fun j q0 q1 q2 => rfl)⟩)
set_option maxRecDepth 100000 in
set_option maxHeartbeats 4000000 in
theorem c_X0_take (l : Launch) (G : hG) (ad : Nat → Nat) (ct : Nat → Option va_E) {k : Nat} {t tk lp ta : Int32} {r : Nat → Value} {q : St} (hk100 : 100 ≤ k) (h1 : ct 1 = some (.inr (1, [.ref (ad 4), .ref (ad 5)]))) (h5 : ct 5 = some (.inl (G.2.1.1, 216, .inl selT))) (h4 : ct 4 = some (.inl (G.2.1.1, 18, .inl borT))) (hk : ct k = some (.inr (0, [.ref (ad 1), .ref (ad 2), .int t, .int q.1, .int q.2.1, r 5, r 6, r 7, r 8, .int tk, .int lp, .int ta]))) (h2 : ct 2 = some (.inr (3, [.ref (ad 3), .int q.2.2.1]))) (h3 : ct 3 = some (.inl (G.2.1.1, 64, .inl q.2.2.2))) (x pu : Int32)  : Met l yX0_take wzX0_take { frames := 124, cells := 0, slots := 0, locals := 2866 } (hPw [.ref (ad k), .int x, .int pu] G ad ct) (hQv (fun ct1 => ct1 k = some (.inr (0, [.ref (ad 1), .ref (ad 2), .int t, .int (runS 40 t (selOfF selT t (takActF t)) x q).2.1, .int (runS 40 t (selOfF selT t (takActF t)) x q).2.2.1, r 5, r 6, r 7, r 8, .int (tk + 1), .int pu, .int (runS 40 t (selOfF selT t (takActF t)) x q).1])) ∧ ct1 2 = some (.inr (3, [.ref (ad 3), .int (runS 40 t (selOfF selT t (takActF t)) x q).2.2.2.1])) ∧ ct1 3 = some (.inl (G.2.1.1, 64, .inl (runS 40 t (selOfF selT t (takActF t)) x q).2.2.2.2)) ∧ ∀ j, j ≠ k → j ≠ 2 → j ≠ 3 → ct1 j = ct j) G ad) 0 0 (hA G.2.2.2) := by
  refine hMetw (by decide) (Nat.le_of_ble_eq_true rfl) (fun p e s m below meth c ls S hr hlk hE hW hl => ?_)
  obtain ⟨hx, hb, hml, hown, hts⟩ := id S
  have hS : va_S (hA G.2.2.2) s.heap s.heap [] := va_S.rf
  have hl : lv_has ls 3 [(0, .ref (ad k)), (1, .int x), (2, .int pu)] := hl
  refine lv_aload_n hx hb dX0_take_0 rfl (lv_at hl 0 rfl) ?_
  refine lv_dup hx hb dX0_take_1 rfl ?_
  refine hr_get S hE hW hk inX0 (C := RX0) (T := TX0) (N := 12) rfl 9 (by decide) q_f_0_47 rfl dX0_take_2 ?_
  refine lv_iconst (v := 1) hx hb dX0_take_5 (by decide) ?_
  refine lv_iadd hx hb dX0_take_6 ?_
  refine hr_put S hE hW hS hk inX0 (C := RX0) (T := TX0) (N := 12) tyX0_ok nmX0 rfl 9 (by decide) q_f_0_47 rfl rfl rfl (Nat.le_of_ble_eq_true rfl) dX0_take_7 (fun H locs ct_1 hW hk_2 hg_3 hz hS => ?_)
  have h_4 := (hg_3 1 (by omega)).trans h1
  have h_5 := (hg_3 5 (by omega)).trans h5
  have h_6 := (hg_3 4 (by omega)).trans h4
  have h_7 := (hg_3 2 (by omega)).trans h2
  have h_8 := (hg_3 3 (by omega)).trans h3
  have h_9 : ct_1 k = some (.inr (0, [.ref (ad 1), .ref (ad 2), .int t, .int q.1, .int q.2.1, r 5, r 6, r 7, r 8, .int (tk + 1), .int lp, .int ta])) := hk_2
  refine lv_aload_n hx hb dX0_take_10 rfl (lv_at hl 0 rfl) ?_
  refine lv_iload_n hx hb dX0_take_11 rfl (lv_at hl 2 rfl) ?_
  refine hr_put S hE hW hS h_9 inX0 (C := RX0) (T := TX0) (N := 12) tyX0_ok nmX0 rfl 10 (by decide) q_f_0_62 rfl rfl rfl (Nat.le_of_ble_eq_true rfl) dX0_take_12 (fun H locs ct_10 hW hk_11 hg_12 hz hS => ?_)
  have h_13 := (hg_12 1 (by omega)).trans h_4
  have h_14 := (hg_12 5 (by omega)).trans h_5
  have h_15 := (hg_12 4 (by omega)).trans h_6
  have h_16 := (hg_12 2 (by omega)).trans h_7
  have h_17 := (hg_12 3 (by omega)).trans h_8
  have h_18 : ct_10 k = some (.inr (0, [.ref (ad 1), .ref (ad 2), .int t, .int q.1, .int q.2.1, r 5, r 6, r 7, r 8, .int (tk + 1), .int pu, .int ta])) := hk_11
  refine lv_aload_n hx hb dX0_take_15 rfl (lv_at hl 0 rfl) ?_
  refine lv_aload_n hx hb dX0_take_16 rfl (lv_at hl 0 rfl) ?_
  refine lv_aload_n hx hb dX0_take_17 rfl (lv_at hl 0 rfl) ?_
  refine hc_r (va_runV (As := []) (rest := [.ref (ad k), .ref (ad k)]) S (c_X0_takingAct l G _ hW (r := (rvL [r 5, r 6, r 7, r 8, .int (tk + 1), .int pu, .int ta])) h_18 h_13 h_15) (cwV 0 hts (gWSV q_l_0_65 q_im_X0_takingAct q_se_X0_takingAct q_in_0 q_co_X0_takingAct) rfl rfl rfl (by decide +kernel) ⟨Nat.le_of_ble_eq_true rfl, Nat.le_of_ble_eq_true rfl⟩) (hPreVr hE hS (hrecv hE hW h_18 (q := (RX0, TX0, 12)) rfl)) rfl rfl hl.1 rfl (lv_room (Nat.le_of_ble_eq_true rfl)) dX0_take_18 ⟨Nat.le_of_ble_eq_true rfl, Nat.le_of_ble_eq_true rfl⟩) hS (fun locs hS => ?_)
  refine lv_iload_n hx hb dX0_take_21 rfl (lv_at hl 1 rfl) ?_
  refine lv_iconst (v := 0) hx hb dX0_take_22 (by decide) ?_
  refine hc_i (va_runV (As := [.int (takActF t), .int x, .int 0]) (rest := [.ref (ad k)]) S (c_X0_act l G ad _ 40 (RunC_all l G 40) (k := k) (t := t) (r := (rvL [r 5, r 6, r 7, r 8, .int (tk + 1), .int pu, .int ta])) (q := q) hk100 h_13 h_14 ⟨h_18, h_16, h_17⟩ 0 rfl (takActF t) x) (cwV 3 hts (gWSV q_l_0_69 q_im_X0_act q_se_X0_act q_in_0 q_co_X0_act) rfl rfl rfl (by decide +kernel) ⟨Nat.le_of_ble_eq_true rfl, Nat.le_of_ble_eq_true rfl⟩) (hPreVw hE hS (hrecv hE hW h_18 (q := (RX0, TX0, 12)) rfl) hW) rfl rfl hl.1 rfl (lv_room (Nat.le_of_ble_eq_true rfl)) dX0_take_23 ⟨Nat.le_of_ble_eq_true rfl, Nat.le_of_ble_eq_true rfl⟩) hS (fun rv_25 ct_19 H locs hp hW hS => ?_)
  obtain ⟨ev_24, ⟨h_20, h_21, h_22⟩, hg_23⟩ := hp
  subst ev_24
  have h_26 := (hg_23 1 (by omega) (by decide) (by decide)).trans h_13
  have h_27 := (hg_23 5 (by omega) (by decide) (by decide)).trans h_14
  have h_28 := (hg_23 4 (by omega) (by decide) (by decide)).trans h_15
  refine hr_put S hE hW hS h_20 inX0 (C := RX0) (T := TX0) (N := 12) tyX0_ok nmX0 rfl 11 (by decide) q_f_0_73 rfl rfl rfl (Nat.le_of_ble_eq_true rfl) dX0_take_26 (fun H locs ct_29 hW hk_30 hg_31 hz hS => ?_)
  have h_32 := (hg_31 2 (by omega)).trans h_21
  have h_33 := (hg_31 3 (by omega)).trans h_22
  have h_34 := (hg_31 1 (by omega)).trans h_26
  have h_35 := (hg_31 5 (by omega)).trans h_27
  have h_36 := (hg_31 4 (by omega)).trans h_28
  have h_37 : ct_29 k = some (.inr (0, [.ref (ad 1), .ref (ad 2), .int t, .int ((runS 40 t (selOfF selT t (takActF t)) x q).2.1), .int ((runS 40 t (selOfF selT t (takActF t)) x q).2.2.1), r 5, r 6, r 7, r 8, .int (tk + 1), .int pu, .int ((runS 40 t (selOfF selT t (takActF t)) x q).1)])) := hk_30
  exact h_vret S hr hlk hS hW dX0_take_29 ⟨h_37, h_32, h_33, (fun j q0 q1 q2 => (hg_31 j q0).trans ((hg_23 j q0 q1 q2).trans ((hg_12 j q0).trans (hg_3 j q0))))⟩
end
section
/-! the public methods' answers, on the class's side: a method's result is its answer, what the devices and the trail are then, and the status -/
def callR (ty : Nat → Int32) (i : Nat) (act way x : Int32) (A : AS) : Int32 × AS × Int32 := if rfF (ty i) act way = 0 then ((actD ty i act x (clrA A)).1, (actD ty i act x (clrA A)).2, 0) else (0, A, rfF (ty i) act way)
def everyR (n : Nat) (ty : Nat → Int32) (act way x : Int32) (A : AS) : Int32 × AS × Int32 := if rfAllF act way = 0 then ((evL ty act way x n 0 0 (clrA A)).1, (evL ty act way x n 0 0 (clrA A)).2, 0) else (0, A, rfAllF act way)
def shF : Nat → Int32
  | 0 => -8
  | k + 1 => nI (8 * k)
theorem shF_dec (k : Nat) : nI (8 * k) + (-8) = shF k := by
  cases k with
  | zero => rfl
  | succ k =>
    show nI (8 * (k + 1)) + (-8) = nI (8 * k)
    rw [show 8 * (k + 1) = 8 * k + 8 by omega, ← nI_add, Int32.add_assoc, show nI 8 + (-8) = 0 from rfl, Int32.add_zero]
def ableF (t w : Int32) : Int32 := if isWayF w = 0 then -1 else if bearsF borT t w = 0 then 0 else 1
def factF (w t v c lf lt tk : Int32) : Int32 := if w = 0 then t - 7 else if w = 1 then v else if w = 2 then c else if w = 3 then lf else if w = 4 then lt else if w = 5 then tk else 0
def factD (ty : Nat → Int32) (A : AS) (T : TS) (L : LS4) (i : Nat) (w : Int32) : Int32 := factF w (ty i) (A.1 i) (A.2.1 i) (nI (cntL L.2.1 i L.1)) (nI (cntL L.2.2 i L.1)) (T.1 i)
def stateR (ty : Nat → Int32) (A : AS) (T : TS) (L : LS4) (i : Nat) (w : Int32) : Int32 × Int32 := if w < 0 then (0, 1) else if w < 6 then (factD ty A T L i w, 0) else (0, 1)
def cbL (ty : Nat → Int32) (w : Int32) : Nat → Nat → Int32 → Int32
  | 0, _, s => s
  | r + 1, k, s => cbL ty w r (k + 1) (if bearsF borT (ty k) w = 0 then s else s + 1)
def sizeF (n m : Nat) (ty : Nat → Int32) (w : Int32) : Int32 := if w = 0 then nI n else if w = 1 then nI m else if w < 2 then -1 else if w ≤ 6 then cbL ty w n 0 0 else -1
set_option maxRecDepth 100000 in
set_option maxHeartbeats 4000000 in
theorem c_X4_able_ok (l : Launch) (G : hG) (H : Heap) {ad : Nat → Nat} {ct : Nat → Option va_E} (hW : hw G ad ct H) {n : Nat} {ty : Nat → Int32} {A : AS} {T : TS} {L : LS4} {K : KS} {st0 : Int32} (hR : RC G ad ct n ty A T L K st0) {i : Nat} (hi : i < n) (w : Int32)  : Met l yX4_able wzX4_able { frames := 3, cells := 0, slots := 0, locals := 64 } (hPr [.ref (ad 0), .int (nI i), .int w] G H) (hQr (ableF (ty i) w) H G.2.2.2) 0 0 (hA G.2.2.2) := by
  refine hMetr (Qc := fun H => hQr (ableF (ty i) w) H G.2.2.2) (by decide) (Nat.le_of_ble_eq_true rfl) (fun p e s m below meth c ls S hr hlk hE hH hl => ?_)
  subst hH
  obtain ⟨hx, hb, hml, hown, hts⟩ := id S
  have hS : va_S (hA G.2.2.2) s.heap s.heap [] := va_S.rf
  have hl : lv_has ls 4 [(0, .ref (ad 0)), (1, .int (nI i)), (2, .int w)] := hl
  obtain ⟨h0, h1, h2, h3, h4, h5, h6, h7, hdv, hlks, hn300, hm400, hft, hty⟩ := id hR
  have hd_i := hdv i hi
  refine lv_aload_n hx hb dX4_able_0 rfl (lv_at hl 0 rfl) ?_
  refine lv_iload_n hx hb dX4_able_1 rfl (lv_at hl 1 rfl) ?_
  refine hc_rq (va_runV (As := [.int (nI i)]) (rest := []) S (c_X4_find l G _ hW h0 h6 (nI i)) (cwV 1 hts (gWSV q_l_4_42 q_im_X4_find q_se_X4_find q_in_4 q_co_X4_find) rfl rfl rfl (by decide +kernel) ⟨Nat.le_of_ble_eq_true rfl, Nat.le_of_ble_eq_true rfl⟩) (hPreVr hE hS (hrecv hE hW h0 (q := (RX4, TX4, 9)) rfl)) rfl rfl hl.1 rfl (lv_room (Nat.le_of_ble_eq_true rfl)) dX4_able_2 ⟨Nat.le_of_ble_eq_true rfl, Nat.le_of_ble_eq_true rfl⟩) hS (fun locs hS => ?_)
  rw [findF_ok hn300 hi, va_rf_s]
  refine lv_astore_n (lv' := [(3, .ref (ad (100 + 2 * i))), (0, .ref (ad 0)), (1, .int (nI i)), (2, .int w)]) hx hb dX4_able_5 rfl hl (by decide) rfl (fun ls hl => ?_)
  refine lv_aload_n hx hb dX4_able_6 rfl (lv_at hl 0 rfl) ?_
  refine lv_ifnull hx hb dX4_able_7 ?_
  refine lv_iload_n hx hb dX4_able_10 rfl (lv_at hl 3 rfl) ?_
  refine hc_r (va_runS (As := [.int w]) (rest := []) S (c_X4_isWay l G _ w) (va_cwS 1 hts (gWSS q_l_4_91 q_st_X4_isWay q_in_4 q_co_X4_isWay) rfl rfl rfl (by decide +kernel) ⟨Nat.le_of_ble_eq_true rfl, Nat.le_of_ble_eq_true rfl⟩) (hPreSr hE hS) rfl rfl hl.1 rfl (lv_room (Nat.le_of_ble_eq_true rfl)) dX4_able_11 ⟨Nat.le_of_ble_eq_true rfl, Nat.le_of_ble_eq_true rfl⟩) hS (fun locs hS => ?_)
  refine lv_if_ne (tgt := 19) hx hb dX4_able_14 (by decide) (fun c_14 => ?_) (fun c_14 => ?_)
  · refine lv_aload_n hx hb dX4_able_19 rfl (lv_at hl 0 rfl) ?_
    refine lv_iload_n hx hb dX4_able_20 rfl (lv_at hl 3 rfl) ?_
    refine hc_r (va_runVN (As := [.int w]) (rest := []) S (c_X0_bears l G _ hW (r := (rvL [va_rf (lkF ad (geL L.2.1 i L.1 0)), va_rf (lkF ad (lstL L.2.1 i L.1)), .int (nI (cntL L.2.1 i L.1)), .int (nI (cntL L.2.2 i L.1)), .int (T.1 i), .int (T.2.1 i), .int (T.2.2 i)])) hd_i h1 h4 w) ⟨va_cnB 1 hts (gWS q_co_X0_bears) rfl rfl rfl (hE.nest 12 rfl) (hts _ q_in_0) (by decide +kernel) ⟨Nat.le_of_ble_eq_true rfl, Nat.le_of_ble_eq_true rfl⟩, hts _ q_im_X0_bears, hts _ q_se_X0_bears⟩ (hPreVr hE hS (hrecv hE hW hd_i (q := (RX0, TX0, 12)) rfl)) rfl rfl hl.1 rfl (lv_room (Nat.le_of_ble_eq_true rfl)) dX4_able_21 ⟨Nat.le_of_ble_eq_true rfl, Nat.le_of_ble_eq_true rfl⟩) hS (fun locs hS => ?_)
    refine lv_if_eq (tgt := 31) hx hb dX4_able_24 (by decide) (fun c_24 => ?_) (fun c_24 => ?_)
    · refine lv_iconst (v := 0) hx hb dX4_able_31 (by decide) ?_
      exact h_rret S hr hlk hS dX4_able_32 (by rw [ableF, if_neg c_14, if_pos c_24])
    · refine lv_iconst (v := 1) hx hb dX4_able_27 (by decide) ?_
      refine lv_goto (tgt := 32) hx hb dX4_able_28 (by decide) ?_
      exact h_rret S hr hlk hS dX4_able_32 (by rw [ableF, if_neg c_14, if_neg c_24])
  · refine lv_iconst (v := (-1)) hx hb dX4_able_17 (by decide) ?_
    exact h_rret S hr hlk hS dX4_able_18 (by rw [ableF, if_pos c_14])
set_option maxRecDepth 100000 in
set_option maxHeartbeats 4000000 in
theorem c_X4_able_no (l : Launch) (G : hG) (H : Heap) {ad : Nat → Nat} {ct : Nat → Option va_E} (hW : hw G ad ct H) {n : Nat} {ty : Nat → Int32} {A : AS} {T : TS} {L : LS4} {K : KS} {st0 : Int32} (hR : RC G ad ct n ty A T L K st0) {d : Int32} (hd : ∀ i, i < n → d ≠ nI i) (w : Int32)  : Met l yX4_able wzX4_able { frames := 1, cells := 0, slots := 0, locals := 21 } (hPr [.ref (ad 0), .int d, .int w] G H) (hQr (-1) H G.2.2.2) 0 0 (hA G.2.2.2) := by
  refine hMetr (Qc := fun H => hQr (-1) H G.2.2.2) (by decide) (Nat.le_of_ble_eq_true rfl) (fun p e s m below meth c ls S hr hlk hE hH hl => ?_)
  subst hH
  obtain ⟨hx, hb, hml, hown, hts⟩ := id S
  have hS : va_S (hA G.2.2.2) s.heap s.heap [] := va_S.rf
  have hl : lv_has ls 4 [(0, .ref (ad 0)), (1, .int d), (2, .int w)] := hl
  obtain ⟨h0, h1, h2, h3, h4, h5, h6, h7, hdv, hlks, hn300, hm400, hft, hty⟩ := id hR
  refine lv_aload_n hx hb dX4_able_0 rfl (lv_at hl 0 rfl) ?_
  refine lv_iload_n hx hb dX4_able_1 rfl (lv_at hl 1 rfl) ?_
  refine hc_rq (va_runV (As := [.int d]) (rest := []) S (c_X4_find l G _ hW h0 h6 d) (cwV 1 hts (gWSV q_l_4_42 q_im_X4_find q_se_X4_find q_in_4 q_co_X4_find) rfl rfl rfl (by decide +kernel) ⟨Nat.le_of_ble_eq_true rfl, Nat.le_of_ble_eq_true rfl⟩) (hPreVr hE hS (hrecv hE hW h0 (q := (RX4, TX4, 9)) rfl)) rfl rfl hl.1 rfl (lv_room (Nat.le_of_ble_eq_true rfl)) dX4_able_2 ⟨Nat.le_of_ble_eq_true rfl, Nat.le_of_ble_eq_true rfl⟩) hS (fun locs hS => ?_)
  rw [findF_no hn300 hd, va_rf_n]
  refine lv_astore_nN (lv' := [(3, .null), (0, .ref (ad 0)), (1, .int d), (2, .int w)]) hx hb dX4_able_5 rfl hl (by decide) rfl (fun ls hl => ?_)
  refine lv_aload_nN hx hb dX4_able_6 rfl (lv_at hl 0 rfl) ?_
  refine lv_ifnullN (tgt := 17) hx hb dX4_able_7 (by decide) ?_
  refine lv_iconst (v := (-1)) hx hb dX4_able_17 (by decide) ?_
  exact h_rret S hr hlk hS dX4_able_18 rfl
set_option maxRecDepth 100000 in
set_option maxHeartbeats 4000000 in
theorem c_X4_chain (l : Launch) (G : hG) (H : Heap) {ad : Nat → Nat} {ct : Nat → Option va_E} (hW : hw G ad ct H) {n : Nat} {ty : Nat → Int32} {A : AS} {T : TS} {L : LS4} {K : KS} {st0 : Int32} (hR : RC G ad ct n ty A T L K st0) (i : Int32)  : Met l yX4_chain wzX4_chain { frames := 1, cells := 0, slots := 0, locals := 21 } (hPr [.ref (ad 0), .int i] G H) (hQr (keptF A.2.2.1 A.2.2.2 i) H G.2.2.2) 0 0 (hA G.2.2.2) := by
  refine hMetr (Qc := fun H => hQr (keptF A.2.2.1 A.2.2.2 i) H G.2.2.2) (by decide) (Nat.le_of_ble_eq_true rfl) (fun p e s m below meth c ls S hr hlk hE hH hl => ?_)
  subst hH
  obtain ⟨hx, hb, hml, hown, hts⟩ := id S
  have hS : va_S (hA G.2.2.2) s.heap s.heap [] := va_S.rf
  have hl : lv_has ls 2 [(0, .ref (ad 0)), (1, .int i)] := hl
  obtain ⟨h0, h1, h2, h3, h4, h5, h6, h7, hdv, hlks, hn300, hm400, hft, hty⟩ := id hR
  refine lv_aload_n hx hb dX4_chain_0 rfl (lv_at hl 0 rfl) ?_
  refine hr_get S hE hW h0 inX4 (C := RX4) (T := TX4) (N := 9) rfl 1 (by decide) q_f_4_19 rfl dX4_chain_1 ?_
  refine lv_iload_n hx hb dX4_chain_4 rfl (lv_at hl 1 rfl) ?_
  refine hc_r (va_runVN (As := [.int i]) (rest := []) S (c_X3_keptAt l G _ hW h2 h3 i) ⟨va_cnB 1 hts (gWS q_co_X3_keptAt) rfl rfl rfl (hE.nest 27 rfl) (hts _ q_in_3) (by decide +kernel) ⟨Nat.le_of_ble_eq_true rfl, Nat.le_of_ble_eq_true rfl⟩, hts _ q_im_X3_keptAt, hts _ q_se_X3_keptAt⟩ (hPreVr hE hS (hrecv hE hW h2 (q := (RX3, TX3, 2)) rfl)) rfl rfl hl.1 rfl (lv_room (Nat.le_of_ble_eq_true rfl)) dX4_chain_5 ⟨Nat.le_of_ble_eq_true rfl, Nat.le_of_ble_eq_true rfl⟩) hS (fun locs hS => ?_)
  exact h_rret S hr hlk hS dX4_chain_8 rfl
set_option maxRecDepth 100000 in
set_option maxHeartbeats 4000000 in
theorem c_X4_ran (l : Launch) (G : hG) (H : Heap) {ad : Nat → Nat} {ct : Nat → Option va_E} (hW : hw G ad ct H) {n : Nat} {ty : Nat → Int32} {A : AS} {T : TS} {L : LS4} {K : KS} {st0 : Int32} (hR : RC G ad ct n ty A T L K st0)   : Met l yX4_ran wzX4_ran { frames := 0, cells := 0, slots := 0, locals := 0 } (hPr [.ref (ad 0)] G H) (hQr (A.2.2.1) H G.2.2.2) 0 0 (hA G.2.2.2) := by
  refine hMetr (Qc := fun H => hQr (A.2.2.1) H G.2.2.2) (by decide) (Nat.le_of_ble_eq_true rfl) (fun p e s m below meth c ls S hr hlk hE hH hl => ?_)
  subst hH
  obtain ⟨hx, hb, hml, hown, hts⟩ := id S
  have hS : va_S (hA G.2.2.2) s.heap s.heap [] := va_S.rf
  have hl : lv_has ls 1 [(0, .ref (ad 0))] := hl
  obtain ⟨h0, h1, h2, h3, h4, h5, h6, h7, hdv, hlks, hn300, hm400, hft, hty⟩ := id hR
  refine lv_aload_n hx hb dX4_ran_0 rfl (lv_at hl 0 rfl) ?_
  refine hr_get S hE hW h0 inX4 (C := RX4) (T := TX4) (N := 9) rfl 1 (by decide) q_f_4_19 rfl dX4_ran_1 ?_
  refine hr_getN S hE hW h2 inX3 (C := RX3) (T := TX3) (N := 2) rfl 1 (by decide) (hE.nest 0 rfl) rfl dX4_ran_4 ?_
  exact h_rret S hr hlk hS dX4_ran_7 rfl
set_option maxRecDepth 100000 in
set_option maxHeartbeats 4000000 in
theorem c_X4_status (l : Launch) (G : hG) (H : Heap) {ad : Nat → Nat} {ct : Nat → Option va_E} (hW : hw G ad ct H) {n : Nat} {ty : Nat → Int32} {A : AS} {T : TS} {L : LS4} {K : KS} {st0 : Int32} (hR : RC G ad ct n ty A T L K st0)   : Met l yX4_status wzX4_status { frames := 0, cells := 0, slots := 0, locals := 0 } (hPr [.ref (ad 0)] G H) (hQr (st0) H G.2.2.2) 0 0 (hA G.2.2.2) := by
  refine hMetr (Qc := fun H => hQr (st0) H G.2.2.2) (by decide) (Nat.le_of_ble_eq_true rfl) (fun p e s m below meth c ls S hr hlk hE hH hl => ?_)
  subst hH
  obtain ⟨hx, hb, hml, hown, hts⟩ := id S
  have hS : va_S (hA G.2.2.2) s.heap s.heap [] := va_S.rf
  have hl : lv_has ls 1 [(0, .ref (ad 0))] := hl
  obtain ⟨h0, h1, h2, h3, h4, h5, h6, h7, hdv, hlks, hn300, hm400, hft, hty⟩ := id hR
  refine lv_aload_n hx hb dX4_status_0 rfl (lv_at hl 0 rfl) ?_
  refine hr_get S hE hW h0 inX4 (C := RX4) (T := TX4) (N := 9) rfl 8 (by decide) q_f_4_32 rfl dX4_status_1 ?_
  exact h_rret S hr hlk hS dX4_status_4 rfl
set_option maxRecDepth 100000 in
set_option maxHeartbeats 4000000 in
theorem c_X4_countBearers (l : Launch) (G : hG) (H : Heap) {ad : Nat → Nat} {ct : Nat → Option va_E} (hW : hw G ad ct H) {n : Nat} {ty : Nat → Int32} {A : AS} {T : TS} {L : LS4} {K : KS} {st0 : Int32} (hR : RC G ad ct n ty A T L K st0) (w : Int32)  : Met l yX4_countBearers wzX4_countBearers { frames := 3, cells := 0, slots := 0, locals := 64 } (hPr [.ref (ad 0), .int w] G H) (hQr (cbL ty w n 0 0) H G.2.2.2) 0 0 (hA G.2.2.2) := by
  refine hMetr (Qc := fun H => hQr (cbL ty w n 0 0) H G.2.2.2) (by decide) (Nat.le_of_ble_eq_true rfl) (fun p e s m below meth c ls S hr hlk hE hH hl => ?_)
  subst hH
  obtain ⟨hx, hb, hml, hown, hts⟩ := id S
  have hS : va_S (hA G.2.2.2) s.heap s.heap [] := va_S.rf
  have hl : lv_has ls 5 [(0, .ref (ad 0)), (1, .int w)] := hl
  obtain ⟨h0, h1, h2, h3, h4, h5, h6, h7, hdv, hlks, hn300, hm400, hft, hty⟩ := id hR
  refine lv_iconst (v := 0) hx hb dX4_countBearers_0 (by decide) ?_
  refine lv_istore_n (lv' := [(2, .int 0), (0, .ref (ad 0)), (1, .int w)]) hx hb dX4_countBearers_1 rfl hl (by decide) rfl (fun ls hl => ?_)
  refine lv_iconst (v := 0) hx hb dX4_countBearers_2 (by decide) ?_
  refine lv_istore_n (lv' := [(3, .int 0), (2, .int 0), (0, .ref (ad 0)), (1, .int w)]) hx hb dX4_countBearers_3 rfl hl (by decide) rfl (fun ls hl => ?_)
  have loop : ∀ (rem k : Nat) (a : Int32) (locs : List Loc) (ls : Array Slot), k + rem = n → (cbL ty w n 0 0 = cbL ty w rem k a) → va_S (hA G.2.2.2) s.heap s.heap locs → lv_has ls 5 [(3, .int (nI k)), (2, .int a), (0, .ref (ad 0)), (1, .int w)] → W p l e { frames := 3, cells := 0, slots := 0, locals := 64 } s m ([.ref (ad 0), .int w] : List Value).toArray below meth c s.heap locs 0 0 (MQ below (hQr (cbL ty w n 0 0) s.heap G.2.2.2) ([.ref (ad 0), .int w] : List Value).toArray s 0 0 (hA G.2.2.2)) (F0 m 4 ls []) := by
    intro rem
    induction rem with
    | zero =>
      intro k a locs ls hnk hv hS hl
      refine lv_iload_n hx hb dX4_countBearers_4 rfl (lv_at hl 0 rfl) ?_
      refine lv_aload_n hx hb dX4_countBearers_5 rfl (lv_at hl 2 rfl) ?_
      refine hr_get S hE hW h0 inX4 (C := RX4) (T := TX4) (N := 9) rfl 4 (by decide) q_f_4_36 rfl dX4_countBearers_6 ?_
      refine lv_icmp_ge (tgt := 42) hx hb dX4_countBearers_9 (by decide) (fun _ => ?_) (fun q => absurd (nI_le (by omega) (by omega)) q)
      refine lv_iload_n hx hb dX4_countBearers_42 rfl (lv_at hl 1 rfl) ?_
      exact h_rret S hr hlk hS dX4_countBearers_43 (by rw [hv]; rfl)
    | succ rem ih =>
      intro k a locs ls hnk hv hS hl
      have hkn : k < n := by omega
      have hd_k := hdv k hkn
      refine lv_iload_n hx hb dX4_countBearers_4 rfl (lv_at hl 0 rfl) ?_
      refine lv_aload_n hx hb dX4_countBearers_5 rfl (lv_at hl 2 rfl) ?_
      refine hr_get S hE hW h0 inX4 (C := RX4) (T := TX4) (N := 9) rfl 4 (by decide) q_f_4_36 rfl dX4_countBearers_6 ?_
      refine lv_icmp_ge (tgt := 42) hx hb dX4_countBearers_9 (by decide) (fun q => absurd q (nI_ge (by omega) (by omega))) (fun _ => ?_)
      refine lv_aload_n hx hb dX4_countBearers_12 rfl (lv_at hl 2 rfl) ?_
      refine lv_iload_n hx hb dX4_countBearers_13 rfl (lv_at hl 0 rfl) ?_
      refine hc_rq (va_runV (As := [.int (nI k)]) (rest := []) S (c_X4_find l G _ hW h0 h6 (nI k)) (cwV 1 hts (gWSV q_l_4_42 q_im_X4_find q_se_X4_find q_in_4 q_co_X4_find) rfl rfl rfl (by decide +kernel) ⟨Nat.le_of_ble_eq_true rfl, Nat.le_of_ble_eq_true rfl⟩) (hPreVr hE hS (hrecv hE hW h0 (q := (RX4, TX4, 9)) rfl)) rfl rfl hl.1 rfl (lv_room (Nat.le_of_ble_eq_true rfl)) dX4_countBearers_14 ⟨Nat.le_of_ble_eq_true rfl, Nat.le_of_ble_eq_true rfl⟩) hS (fun locs hS => ?_)
      rw [findF_ok hn300 hkn, va_rf_s]
      refine lv_astore (lv' := [(4, .ref (ad (100 + 2 * k))), (3, .int (nI k)), (2, .int a), (0, .ref (ad 0)), (1, .int w)]) hx hb dX4_countBearers_17 hl (by decide) rfl (fun ls hl => ?_)
      refine lv_aload hx hb dX4_countBearers_19 (lv_at hl 0 rfl) ?_
      refine lv_ifnull hx hb dX4_countBearers_21 ?_
      refine lv_aload hx hb dX4_countBearers_24 (lv_at hl 0 rfl) ?_
      refine lv_iload_n hx hb dX4_countBearers_26 rfl (lv_at hl 4 rfl) ?_
      refine hc_r (va_runVN (As := [.int w]) (rest := []) S (c_X0_bears l G _ hW (r := (rvL [va_rf (lkF ad (geL L.2.1 k L.1 0)), va_rf (lkF ad (lstL L.2.1 k L.1)), .int (nI (cntL L.2.1 k L.1)), .int (nI (cntL L.2.2 k L.1)), .int (T.1 k), .int (T.2.1 k), .int (T.2.2 k)])) hd_k h1 h4 w) ⟨va_cnB 1 hts (gWS q_co_X0_bears) rfl rfl rfl (hE.nest 12 rfl) (hts _ q_in_0) (by decide +kernel) ⟨Nat.le_of_ble_eq_true rfl, Nat.le_of_ble_eq_true rfl⟩, hts _ q_im_X0_bears, hts _ q_se_X0_bears⟩ (hPreVr hE hS (hrecv hE hW hd_k (q := (RX0, TX0, 12)) rfl)) rfl rfl hl.1 rfl (lv_room (Nat.le_of_ble_eq_true rfl)) dX4_countBearers_27 ⟨Nat.le_of_ble_eq_true rfl, Nat.le_of_ble_eq_true rfl⟩) hS (fun locs hS => ?_)
      refine lv_if_eq (tgt := 36) hx hb dX4_countBearers_30 (by decide) (fun c_30 => ?_) (fun c_30 => ?_)
      · refine lv_iinc (v := (nI (k + 1))) (lv' := [(3, .int (nI (k + 1))), (4, .ref (ad (100 + 2 * k))), (2, .int a), (0, .ref (ad 0)), (1, .int w)]) hx hb dX4_countBearers_36 hl (k := 1) rfl (nI_1 k) (by decide) rfl (fun ls hl => ?_)
        refine lv_goto (tgt := 4) hx hb dX4_countBearers_39 (by decide) ?_
        exact ih (k + 1) a _ _ (by omega) (by rw [hv, cbL, if_pos c_30]) hS (lv_sub hl [0, 2, 3, 4] rfl)
      · refine lv_iinc (v := (a + 1)) (lv' := [(2, .int (a + 1)), (4, .ref (ad (100 + 2 * k))), (3, .int (nI k)), (0, .ref (ad 0)), (1, .int w)]) hx hb dX4_countBearers_33 hl (k := 2) rfl rfl (by decide) rfl (fun ls hl => ?_)
        refine lv_iinc (v := (nI (k + 1))) (lv' := [(3, .int (nI (k + 1))), (2, .int (a + 1)), (4, .ref (ad (100 + 2 * k))), (0, .ref (ad 0)), (1, .int w)]) hx hb dX4_countBearers_36 hl (k := 2) rfl (nI_1 k) (by decide) rfl (fun ls hl => ?_)
        refine lv_goto (tgt := 4) hx hb dX4_countBearers_39 (by decide) ?_
        exact ih (k + 1) (a + 1) _ _ (by omega) (by rw [hv, cbL, if_neg c_30]) hS (lv_sub hl [0, 1, 3, 4] rfl)
  exact loop n 0 0 _ _ (by omega) rfl hS (lv_sub hl [0, 1, 2, 3] rfl)
set_option maxRecDepth 100000 in
set_option maxHeartbeats 4000000 in
theorem c_X4_size (l : Launch) (G : hG) (H : Heap) {ad : Nat → Nat} {ct : Nat → Option va_E} (hW : hw G ad ct H) {n : Nat} {ty : Nat → Int32} {A : AS} {T : TS} {L : LS4} {K : KS} {st0 : Int32} (hR : RC G ad ct n ty A T L K st0) (w : Int32)  : Met l yX4_size wzX4_size { frames := 4, cells := 0, slots := 0, locals := 88 } (hPr [.ref (ad 0), .int w] G H) (hQr (sizeF n L.1 ty w) H G.2.2.2) 0 0 (hA G.2.2.2) := by
  refine hMetr (Qc := fun H => hQr (sizeF n L.1 ty w) H G.2.2.2) (by decide) (Nat.le_of_ble_eq_true rfl) (fun p e s m below meth c ls S hr hlk hE hH hl => ?_)
  subst hH
  obtain ⟨hx, hb, hml, hown, hts⟩ := id S
  have hS : va_S (hA G.2.2.2) s.heap s.heap [] := va_S.rf
  have hl : lv_has ls 2 [(0, .ref (ad 0)), (1, .int w)] := hl
  obtain ⟨h0, h1, h2, h3, h4, h5, h6, h7, hdv, hlks, hn300, hm400, hft, hty⟩ := id hR
  refine lv_iload_n hx hb dX4_size_0 rfl (lv_at hl 1 rfl) ?_
  refine lv_if_ne (tgt := 9) hx hb dX4_size_1 (by decide) (fun c_1 => ?_) (fun c_1 => ?_)
  · refine lv_iload_n hx hb dX4_size_9 rfl (lv_at hl 1 rfl) ?_
    refine lv_iconst (v := 1) hx hb dX4_size_10 (by decide) ?_
    refine lv_icmp_ne (tgt := 19) hx hb dX4_size_11 (by decide) (fun c_11 => ?_) (fun c_11 => ?_)
    · refine lv_iload_n hx hb dX4_size_19 rfl (lv_at hl 1 rfl) ?_
      refine lv_iconst (v := 2) hx hb dX4_size_20 (by decide) ?_
      refine lv_icmp_lt (tgt := 30) hx hb dX4_size_21 (by decide) (fun c_21 => ?_) (fun c_21 => ?_)
      · refine lv_iconst (v := (-1)) hx hb dX4_size_30 (by decide) ?_
        exact h_rret S hr hlk hS dX4_size_31 (by rw [sizeF, if_neg c_1, if_neg c_11, if_pos c_21])
      · refine lv_iload_n hx hb dX4_size_24 rfl (lv_at hl 1 rfl) ?_
        refine lv_bipush (v := 6) hx hb dX4_size_25 (by decide) ?_
        refine lv_icmp_le (tgt := 32) hx hb dX4_size_27 (by decide) (fun c_27 => ?_) (fun c_27 => ?_)
        · refine lv_aload_n hx hb dX4_size_32 rfl (lv_at hl 0 rfl) ?_
          refine lv_iload_n hx hb dX4_size_33 rfl (lv_at hl 1 rfl) ?_
          refine hc_r (va_runV (As := [.int w]) (rest := []) S (c_X4_countBearers l G _ hW hR w) (cwV 1 hts (gWSV q_l_4_108 q_im_X4_countBearers q_se_X4_countBearers q_in_4 q_co_X4_countBearers) rfl rfl rfl (by decide +kernel) ⟨Nat.le_of_ble_eq_true rfl, Nat.le_of_ble_eq_true rfl⟩) (hPreVr hE hS (hrecv hE hW h0 (q := (RX4, TX4, 9)) rfl)) rfl rfl hl.1 rfl (lv_room (Nat.le_of_ble_eq_true rfl)) dX4_size_34 ⟨Nat.le_of_ble_eq_true rfl, Nat.le_of_ble_eq_true rfl⟩) hS (fun locs hS => ?_)
          exact h_rret S hr hlk hS dX4_size_37 (by rw [sizeF, if_neg c_1, if_neg c_11, if_neg c_21, if_pos c_27])
        · refine lv_iconst (v := (-1)) hx hb dX4_size_30 (by decide) ?_
          exact h_rret S hr hlk hS dX4_size_31 (by rw [sizeF, if_neg c_1, if_neg c_11, if_neg c_21, if_neg c_27])
    · refine lv_aload_n hx hb dX4_size_14 rfl (lv_at hl 0 rfl) ?_
      refine hr_get S hE hW h0 inX4 (C := RX4) (T := TX4) (N := 9) rfl 5 (by decide) q_f_4_63 rfl dX4_size_15 ?_
      exact h_rret S hr hlk hS dX4_size_18 (by rw [sizeF, if_neg c_1, if_pos c_11])
  · refine lv_aload_n hx hb dX4_size_4 rfl (lv_at hl 0 rfl) ?_
    refine hr_get S hE hW h0 inX4 (C := RX4) (T := TX4) (N := 9) rfl 4 (by decide) q_f_4_36 rfl dX4_size_5 ?_
    exact h_rret S hr hlk hS dX4_size_8 (by rw [sizeF, if_pos c_1])
theorem in6 (w : Int32) (h0 : ¬ w < 0) (h1 : w < 6) : w = 0 ∨ w = 1 ∨ w = 2 ∨ w = 3 ∨ w = 4 ∨ w = 5 := by
  obtain ⟨j, hj, rfl⟩ := nI_of h0
  have h : j < 6 := (nI_ltI (b := 6) hj (by omega)).mp h1
  rcases (show j = 0 ∨ j = 1 ∨ j = 2 ∨ j = 3 ∨ j = 4 ∨ j = 5 by omega) with h | h | h | h | h | h <;> subst h
  · exact Or.inl rfl
  · exact Or.inr (Or.inl rfl)
  · exact Or.inr (Or.inr (Or.inl rfl))
  · exact Or.inr (Or.inr (Or.inr (Or.inl rfl)))
  · exact Or.inr (Or.inr (Or.inr (Or.inr (Or.inl rfl))))
  · exact Or.inr (Or.inr (Or.inr (Or.inr (Or.inr rfl))))
set_option maxRecDepth 100000 in
set_option maxHeartbeats 4000000 in
theorem c_X0_fact (l : Launch) (G : hG) (H : Heap) {ad : Nat → Nat} {ct : Nat → Option va_E} (hW : hw G ad ct H) {k : Nat} {t v c0 lf lt tk lp ta : Int32} {f5 f6 : Value} (hk : ct k = some (.inr (0, [.ref (ad 1), .ref (ad 2), .int t, .int v, .int c0, f5, f6, .int lf, .int lt, .int tk, .int lp, .int ta]))) (w : Int32) (hw6 : w = 0 ∨ w = 1 ∨ w = 2 ∨ w = 3 ∨ w = 4 ∨ w = 5)  : Met l yX0_fact wzX0_fact { frames := 0, cells := 0, slots := 0, locals := 0 } (hPr [.ref (ad k), .int w] G H) (hQr (factF w t v c0 lf lt tk) H G.2.2.2) 0 0 (hA G.2.2.2) := by
  refine hMetr (Qc := fun H => hQr (factF w t v c0 lf lt tk) H G.2.2.2) (by decide) (Nat.le_of_ble_eq_true rfl) (fun p e s m below meth c ls S hr hlk hE hH hl => ?_)
  subst hH
  obtain ⟨hx, hb, hml, hown, hts⟩ := id S
  have hS : va_S (hA G.2.2.2) s.heap s.heap [] := va_S.rf
  have hl : lv_has ls 2 [(0, .ref (ad k)), (1, .int w)] := hl
  refine lv_iload_n hx hb dX0_fact_0 rfl (lv_at hl 1 rfl) ?_
  rcases hw6 with rfl | rfl | rfl | rfl | rfl | rfl
  · refine lv_tableIn (off := 39) (tgt := 40) hx hb dX0_fact_1 (by decide) (by decide) (by decide) (by decide) ?_
    refine lv_aload_n hx hb dX0_fact_40 rfl (lv_at hl 0 rfl) ?_
    refine hr_get S hE hW hk inX0 (C := RX0) (T := TX0) (N := 12) rfl 2 (by decide) q_f_0_19 rfl dX0_fact_41 ?_
    refine lv_bipush (v := 7) hx hb dX0_fact_44 (by decide) ?_
    refine lv_isub hx hb dX0_fact_46 ?_
    exact h_rret S hr hlk hS dX0_fact_47 rfl
  · refine lv_tableIn (off := 47) (tgt := 48) hx hb dX0_fact_1 (by decide) (by decide) (by decide) (by decide) ?_
    refine lv_aload_n hx hb dX0_fact_48 rfl (lv_at hl 0 rfl) ?_
    refine hr_get S hE hW hk inX0 (C := RX0) (T := TX0) (N := 12) rfl 3 (by decide) q_f_0_23 rfl dX0_fact_49 ?_
    exact h_rret S hr hlk hS dX0_fact_52 rfl
  · refine lv_tableIn (off := 52) (tgt := 53) hx hb dX0_fact_1 (by decide) (by decide) (by decide) (by decide) ?_
    refine lv_aload_n hx hb dX0_fact_53 rfl (lv_at hl 0 rfl) ?_
    refine hr_get S hE hW hk inX0 (C := RX0) (T := TX0) (N := 12) rfl 4 (by decide) q_f_0_38 rfl dX0_fact_54 ?_
    exact h_rret S hr hlk hS dX0_fact_57 rfl
  · refine lv_tableIn (off := 57) (tgt := 58) hx hb dX0_fact_1 (by decide) (by decide) (by decide) (by decide) ?_
    refine lv_aload_n hx hb dX0_fact_58 rfl (lv_at hl 0 rfl) ?_
    refine hr_get S hE hW hk inX0 (C := RX0) (T := TX0) (N := 12) rfl 7 (by decide) q_f_0_41 rfl dX0_fact_59 ?_
    exact h_rret S hr hlk hS dX0_fact_62 rfl
  · refine lv_tableIn (off := 62) (tgt := 63) hx hb dX0_fact_1 (by decide) (by decide) (by decide) (by decide) ?_
    refine lv_aload_n hx hb dX0_fact_63 rfl (lv_at hl 0 rfl) ?_
    refine hr_get S hE hW hk inX0 (C := RX0) (T := TX0) (N := 12) rfl 8 (by decide) q_f_0_44 rfl dX0_fact_64 ?_
    exact h_rret S hr hlk hS dX0_fact_67 rfl
  · refine lv_tableIn (off := 67) (tgt := 68) hx hb dX0_fact_1 (by decide) (by decide) (by decide) (by decide) ?_
    refine lv_aload_n hx hb dX0_fact_68 rfl (lv_at hl 0 rfl) ?_
    refine hr_get S hE hW hk inX0 (C := RX0) (T := TX0) (N := 12) rfl 9 (by decide) q_f_0_47 rfl dX0_fact_69 ?_
    exact h_rret S hr hlk hS dX0_fact_72 rfl
set_option maxRecDepth 100000 in
set_option maxHeartbeats 4000000 in
theorem c_X4_state_no (l : Launch) (G : hG) (ad : Nat → Nat) (ct : Nat → Option va_E) {n : Nat} {ty : Nat → Int32} {A : AS} {T : TS} {L : LS4} {K : KS} {st0 : Int32} (hR : RC G ad ct n ty A T L K st0) {d : Int32} (hd : ∀ i, i < n → d ≠ nI i) (w : Int32)  : Met l yX4_state wzX4_state { frames := 1, cells := 0, slots := 0, locals := 21 } (hPw [.ref (ad 0), .int d, .int w] G ad ct) (hQi (fun r ct1 => r = 0 ∧ RC G ad ct1 n ty A T L K 1) G ad) 0 0 (hA G.2.2.2) := by
  refine hMetw (by decide) (Nat.le_of_ble_eq_true rfl) (fun p e s m below meth c ls S hr hlk hE hW hl => ?_)
  obtain ⟨hx, hb, hml, hown, hts⟩ := id S
  have hS : va_S (hA G.2.2.2) s.heap s.heap [] := va_S.rf
  have hl : lv_has ls 4 [(0, .ref (ad 0)), (1, .int d), (2, .int w)] := hl
  obtain ⟨h0, h1, h2, h3, h4, h5, h6, h7, hdv, hlks, hn300, hm400, hft, hty⟩ := id hR
  refine lv_aload_n hx hb dX4_state_0 rfl (lv_at hl 0 rfl) ?_
  refine lv_iload_n hx hb dX4_state_1 rfl (lv_at hl 1 rfl) ?_
  refine hc_rq (va_runV (As := [.int d]) (rest := []) S (c_X4_find l G _ hW h0 h6 d) (cwV 1 hts (gWSV q_l_4_42 q_im_X4_find q_se_X4_find q_in_4 q_co_X4_find) rfl rfl rfl (by decide +kernel) ⟨Nat.le_of_ble_eq_true rfl, Nat.le_of_ble_eq_true rfl⟩) (hPreVr hE hS (hrecv hE hW h0 (q := (RX4, TX4, 9)) rfl)) rfl rfl hl.1 rfl (lv_room (Nat.le_of_ble_eq_true rfl)) dX4_state_2 ⟨Nat.le_of_ble_eq_true rfl, Nat.le_of_ble_eq_true rfl⟩) hS (fun locs hS => ?_)
  rw [findF_no hn300 hd, va_rf_n]
  refine lv_astore_nN (lv' := [(3, .null), (0, .ref (ad 0)), (1, .int d), (2, .int w)]) hx hb dX4_state_5 rfl hl (by decide) rfl (fun ls hl => ?_)
  refine lv_aload_nN hx hb dX4_state_6 rfl (lv_at hl 0 rfl) ?_
  refine lv_ifnullN (tgt := 20) hx hb dX4_state_7 (by decide) ?_
  refine lv_aload_n hx hb dX4_state_20 rfl (lv_at hl 1 rfl) ?_
  refine lv_iconst (v := 1) hx hb dX4_state_21 (by decide) ?_
  refine hr_put S hE hW hS h0 inX4 (C := RX4) (T := TX4) (N := 9) tyX4_ok nmX4 rfl 8 (by decide) q_f_4_32 rfl rfl rfl (Nat.le_of_ble_eq_true rfl) dX4_state_22 (fun H locs ct_1 hW hk_2 hg_3 hz hS => ?_)
  have hR := RC_o hR hk_2 hg_3
  obtain ⟨h0, h1, h2, h3, h4, h5, h6, h7, hdv, hlks, hn300, hm400, hft, hty⟩ := id hR
  refine lv_iconst (v := 0) hx hb dX4_state_25 (by decide) ?_
  exact h_iret S hr hlk hS hW dX4_state_26 ⟨rfl, hR⟩
set_option maxRecDepth 100000 in
set_option maxHeartbeats 4000000 in
theorem c_X4_state_ok (l : Launch) (G : hG) (ad : Nat → Nat) (ct : Nat → Option va_E) {n : Nat} {ty : Nat → Int32} {A : AS} {T : TS} {L : LS4} {K : KS} {st0 : Int32} (hR : RC G ad ct n ty A T L K st0) {i : Nat} (hi : i < n) (w : Int32)  : Met l yX4_state wzX4_state { frames := 1, cells := 0, slots := 0, locals := 21 } (hPw [.ref (ad 0), .int (nI i), .int w] G ad ct) (hQi (fun r ct1 => r = (stateR ty A T L i w).1 ∧ RC G ad ct1 n ty A T L K ((stateR ty A T L i w).2)) G ad) 0 0 (hA G.2.2.2) := by
  refine hMetw (by decide) (Nat.le_of_ble_eq_true rfl) (fun p e s m below meth c ls S hr hlk hE hW hl => ?_)
  obtain ⟨hx, hb, hml, hown, hts⟩ := id S
  have hS : va_S (hA G.2.2.2) s.heap s.heap [] := va_S.rf
  have hl : lv_has ls 4 [(0, .ref (ad 0)), (1, .int (nI i)), (2, .int w)] := hl
  obtain ⟨h0, h1, h2, h3, h4, h5, h6, h7, hdv, hlks, hn300, hm400, hft, hty⟩ := id hR
  have hd_i := hdv i hi
  refine lv_aload_n hx hb dX4_state_0 rfl (lv_at hl 0 rfl) ?_
  refine lv_iload_n hx hb dX4_state_1 rfl (lv_at hl 1 rfl) ?_
  refine hc_rq (va_runV (As := [.int (nI i)]) (rest := []) S (c_X4_find l G _ hW h0 h6 (nI i)) (cwV 1 hts (gWSV q_l_4_42 q_im_X4_find q_se_X4_find q_in_4 q_co_X4_find) rfl rfl rfl (by decide +kernel) ⟨Nat.le_of_ble_eq_true rfl, Nat.le_of_ble_eq_true rfl⟩) (hPreVr hE hS (hrecv hE hW h0 (q := (RX4, TX4, 9)) rfl)) rfl rfl hl.1 rfl (lv_room (Nat.le_of_ble_eq_true rfl)) dX4_state_2 ⟨Nat.le_of_ble_eq_true rfl, Nat.le_of_ble_eq_true rfl⟩) hS (fun locs hS => ?_)
  rw [findF_ok hn300 hi, va_rf_s]
  refine lv_astore_n (lv' := [(3, .ref (ad (100 + 2 * i))), (0, .ref (ad 0)), (1, .int (nI i)), (2, .int w)]) hx hb dX4_state_5 rfl hl (by decide) rfl (fun ls hl => ?_)
  refine lv_aload_n hx hb dX4_state_6 rfl (lv_at hl 0 rfl) ?_
  refine lv_ifnull hx hb dX4_state_7 ?_
  refine lv_iload_n hx hb dX4_state_10 rfl (lv_at hl 3 rfl) ?_
  refine lv_if_lt (tgt := 20) hx hb dX4_state_11 (by decide) (fun c_11 => ?_) (fun c_11 => ?_)
  · refine lv_aload_n hx hb dX4_state_20 rfl (lv_at hl 1 rfl) ?_
    refine lv_iconst (v := 1) hx hb dX4_state_21 (by decide) ?_
    refine hr_put S hE hW hS h0 inX4 (C := RX4) (T := TX4) (N := 9) tyX4_ok nmX4 rfl 8 (by decide) q_f_4_32 rfl rfl rfl (Nat.le_of_ble_eq_true rfl) dX4_state_22 (fun H locs ct_1 hW hk_2 hg_3 hz hS => ?_)
    have hR := RC_o hR hk_2 hg_3
    obtain ⟨h0, h1, h2, h3, h4, h5, h6, h7, hdv, hlks, hn300, hm400, hft, hty⟩ := id hR
    have hd_i := hdv i hi
    refine lv_iconst (v := 0) hx hb dX4_state_25 (by decide) ?_
    exact h_iret S hr hlk hS hW dX4_state_26 (by rw [stateR, if_pos c_11]; exact ⟨rfl, hR⟩)
  · refine lv_iload_n hx hb dX4_state_14 rfl (lv_at hl 3 rfl) ?_
    refine lv_bipush (v := 6) hx hb dX4_state_15 (by decide) ?_
    refine lv_icmp_lt (tgt := 27) hx hb dX4_state_17 (by decide) (fun c_17 => ?_) (fun c_17 => ?_)
    · refine lv_aload_n hx hb dX4_state_27 rfl (lv_at hl 1 rfl) ?_
      refine lv_iconst (v := 0) hx hb dX4_state_28 (by decide) ?_
      refine hr_put S hE hW hS h0 inX4 (C := RX4) (T := TX4) (N := 9) tyX4_ok nmX4 rfl 8 (by decide) q_f_4_32 rfl rfl rfl (Nat.le_of_ble_eq_true rfl) dX4_state_29 (fun H locs ct_4 hW hk_5 hg_6 hz hS => ?_)
      have hR := RC_o hR hk_5 hg_6
      obtain ⟨h0, h1, h2, h3, h4, h5, h6, h7, hdv, hlks, hn300, hm400, hft, hty⟩ := id hR
      have hd_i := hdv i hi
      refine lv_aload_n hx hb dX4_state_32 rfl (lv_at hl 0 rfl) ?_
      refine lv_iload_n hx hb dX4_state_33 rfl (lv_at hl 3 rfl) ?_
      refine hc_r (va_runVN (As := [.int w]) (rest := []) S (c_X0_fact l G _ hW (k := 100 + 2 * i) hd_i w (in6 _ c_11 c_17)) ⟨va_cnB 1 hts (gWS q_co_X0_fact) rfl rfl rfl (hE.nest 28 rfl) (hts _ q_in_0) (by decide +kernel) ⟨Nat.le_of_ble_eq_true rfl, Nat.le_of_ble_eq_true rfl⟩, hts _ q_im_X0_fact, hts _ q_se_X0_fact⟩ (hPreVr hE hS (hrecv hE hW hd_i (q := (RX0, TX0, 12)) rfl)) rfl rfl hl.1 rfl (lv_room (Nat.le_of_ble_eq_true rfl)) dX4_state_34 ⟨Nat.le_of_ble_eq_true rfl, Nat.le_of_ble_eq_true rfl⟩) hS (fun locs hS => ?_)
      exact h_iret S hr hlk hS hW dX4_state_37 (by rw [stateR, if_neg c_11, if_pos c_17]; exact ⟨rfl, hR⟩)
    · refine lv_aload_n hx hb dX4_state_20 rfl (lv_at hl 1 rfl) ?_
      refine lv_iconst (v := 1) hx hb dX4_state_21 (by decide) ?_
      refine hr_put S hE hW hS h0 inX4 (C := RX4) (T := TX4) (N := 9) tyX4_ok nmX4 rfl 8 (by decide) q_f_4_32 rfl rfl rfl (Nat.le_of_ble_eq_true rfl) dX4_state_22 (fun H locs ct_7 hW hk_8 hg_9 hz hS => ?_)
      have hR := RC_o hR hk_8 hg_9
      obtain ⟨h0, h1, h2, h3, h4, h5, h6, h7, hdv, hlks, hn300, hm400, hft, hty⟩ := id hR
      have hd_i := hdv i hi
      refine lv_iconst (v := 0) hx hb dX4_state_25 (by decide) ?_
      exact h_iret S hr hlk hS hW dX4_state_26 (by rw [stateR, if_neg c_11, if_neg c_17]; exact ⟨rfl, hR⟩)
set_option maxRecDepth 100000 in
set_option maxHeartbeats 4000000 in
theorem c_X4_call_no (l : Launch) (G : hG) (ad : Nat → Nat) (ct : Nat → Option va_E) {n : Nat} {ty : Nat → Int32} {A : AS} {T : TS} {L : LS4} {K : KS} {st0 : Int32} (hR : RC G ad ct n ty A T L K st0) {d : Int32} (hd : ∀ i, i < n → d ≠ nI i) (a w x : Int32)  : Met l yX4_call wzX4_call { frames := 5, cells := 0, slots := 0, locals := 110 } (hPw [.ref (ad 0), .int d, .int a, .int w, .int x] G ad ct) (hQi (fun r ct1 => r = 0 ∧ RC G ad ct1 n ty A T L K 1) G ad) 0 0 (hA G.2.2.2) := by
  refine hMetw (by decide) (Nat.le_of_ble_eq_true rfl) (fun p e s m below meth c ls S hr hlk hE hW hl => ?_)
  obtain ⟨hx, hb, hml, hown, hts⟩ := id S
  have hS : va_S (hA G.2.2.2) s.heap s.heap [] := va_S.rf
  have hl : lv_has ls 6 [(0, .ref (ad 0)), (1, .int d), (2, .int a), (3, .int w), (4, .int x)] := hl
  obtain ⟨h0, h1, h2, h3, h4, h5, h6, h7, hdv, hlks, hn300, hm400, hft, hty⟩ := id hR
  refine lv_aload_n hx hb dX4_call_0 rfl (lv_at hl 0 rfl) ?_
  refine lv_iload_n hx hb dX4_call_1 rfl (lv_at hl 1 rfl) ?_
  refine hc_rq (va_runV (As := [.int d]) (rest := []) S (c_X4_find l G _ hW h0 h6 d) (cwV 1 hts (gWSV q_l_4_42 q_im_X4_find q_se_X4_find q_in_4 q_co_X4_find) rfl rfl rfl (by decide +kernel) ⟨Nat.le_of_ble_eq_true rfl, Nat.le_of_ble_eq_true rfl⟩) (hPreVr hE hS (hrecv hE hW h0 (q := (RX4, TX4, 9)) rfl)) rfl rfl hl.1 rfl (lv_room (Nat.le_of_ble_eq_true rfl)) dX4_call_2 ⟨Nat.le_of_ble_eq_true rfl, Nat.le_of_ble_eq_true rfl⟩) hS (fun locs hS => ?_)
  rw [findF_no hn300 hd, va_rf_n]
  refine lv_astoreN (lv' := [(5, .null), (0, .ref (ad 0)), (1, .int d), (2, .int a), (3, .int w), (4, .int x)]) hx hb dX4_call_5 hl (by decide) rfl (fun ls hl => ?_)
  refine lv_aload_n hx hb dX4_call_7 rfl (lv_at hl 1 rfl) ?_
  refine lv_aloadN hx hb dX4_call_8 (lv_at hl 0 rfl) ?_
  refine lv_iload_n hx hb dX4_call_10 rfl (lv_at hl 3 rfl) ?_
  refine lv_iload_n hx hb dX4_call_11 rfl (lv_at hl 4 rfl) ?_
  refine hc_r (va_runS (As := [.null, .int a, .int w]) (rest := [.ref (ad 0)]) S (c_X4_refusal_n l G _ a w) (va_cwS 3 hts (gWSS q_l_4_46 q_st_X4_refusal q_in_4 q_co_X4_refusal) rfl rfl rfl (by decide +kernel) ⟨Nat.le_of_ble_eq_true rfl, Nat.le_of_ble_eq_true rfl⟩) (hPreSr hE hS) rfl rfl hl.1 rfl (lv_room (Nat.le_of_ble_eq_true rfl)) dX4_call_12 ⟨Nat.le_of_ble_eq_true rfl, Nat.le_of_ble_eq_true rfl⟩) hS (fun locs hS => ?_)
  refine hr_put S hE hW hS h0 inX4 (C := RX4) (T := TX4) (N := 9) tyX4_ok nmX4 rfl 8 (by decide) q_f_4_32 rfl rfl rfl (Nat.le_of_ble_eq_true rfl) dX4_call_15 (fun H locs ct_1 hW hk_2 hg_3 hz hS => ?_)
  have hR := RC_o hR hk_2 hg_3
  obtain ⟨h0, h1, h2, h3, h4, h5, h6, h7, hdv, hlks, hn300, hm400, hft, hty⟩ := id hR
  refine lv_aloadN hx hb dX4_call_18 (lv_at hl 0 rfl) ?_
  refine lv_ifnullN (tgt := 30) hx hb dX4_call_20 (by decide) ?_
  refine lv_iconst (v := 0) hx hb dX4_call_30 (by decide) ?_
  exact h_iret S hr hlk hS hW dX4_call_31 ⟨rfl, hR⟩
set_option maxRecDepth 100000 in
set_option maxHeartbeats 4000000 in
theorem c_X4_call_ok (l : Launch) (G : hG) (ad : Nat → Nat) (ct : Nat → Option va_E) {n : Nat} {ty : Nat → Int32} {A : AS} {T : TS} {L : LS4} {K : KS} {st0 : Int32} (hR : RC G ad ct n ty A T L K st0) {i : Nat} (hi : i < n) (a w x : Int32)  : Met l yX4_call wzX4_call { frames := 125, cells := 0, slots := 0, locals := 2888 } (hPw [.ref (ad 0), .int (nI i), .int a, .int w, .int x] G ad ct) (hQi (fun r ct1 => r = (callR ty i a w x A).1 ∧ RC G ad ct1 n ty ((callR ty i a w x A).2.1) T L K ((callR ty i a w x A).2.2)) G ad) 0 0 (hA G.2.2.2) := by
  refine hMetw (by decide) (Nat.le_of_ble_eq_true rfl) (fun p e s m below meth c ls S hr hlk hE hW hl => ?_)
  obtain ⟨hx, hb, hml, hown, hts⟩ := id S
  have hS : va_S (hA G.2.2.2) s.heap s.heap [] := va_S.rf
  have hl : lv_has ls 6 [(0, .ref (ad 0)), (1, .int (nI i)), (2, .int a), (3, .int w), (4, .int x)] := hl
  obtain ⟨h0, h1, h2, h3, h4, h5, h6, h7, hdv, hlks, hn300, hm400, hft, hty⟩ := id hR
  have hd_i := hdv i hi
  refine lv_aload_n hx hb dX4_call_0 rfl (lv_at hl 0 rfl) ?_
  refine lv_iload_n hx hb dX4_call_1 rfl (lv_at hl 1 rfl) ?_
  refine hc_rq (va_runV (As := [.int (nI i)]) (rest := []) S (c_X4_find l G _ hW h0 h6 (nI i)) (cwV 1 hts (gWSV q_l_4_42 q_im_X4_find q_se_X4_find q_in_4 q_co_X4_find) rfl rfl rfl (by decide +kernel) ⟨Nat.le_of_ble_eq_true rfl, Nat.le_of_ble_eq_true rfl⟩) (hPreVr hE hS (hrecv hE hW h0 (q := (RX4, TX4, 9)) rfl)) rfl rfl hl.1 rfl (lv_room (Nat.le_of_ble_eq_true rfl)) dX4_call_2 ⟨Nat.le_of_ble_eq_true rfl, Nat.le_of_ble_eq_true rfl⟩) hS (fun locs hS => ?_)
  rw [findF_ok hn300 hi, va_rf_s]
  refine lv_astore (lv' := [(5, .ref (ad (100 + 2 * i))), (0, .ref (ad 0)), (1, .int (nI i)), (2, .int a), (3, .int w), (4, .int x)]) hx hb dX4_call_5 hl (by decide) rfl (fun ls hl => ?_)
  refine lv_aload_n hx hb dX4_call_7 rfl (lv_at hl 1 rfl) ?_
  refine lv_aload hx hb dX4_call_8 (lv_at hl 0 rfl) ?_
  refine lv_iload_n hx hb dX4_call_10 rfl (lv_at hl 3 rfl) ?_
  refine lv_iload_n hx hb dX4_call_11 rfl (lv_at hl 4 rfl) ?_
  refine hc_r (va_runS (As := [.ref (ad (100 + 2 * i)), .int a, .int w]) (rest := [.ref (ad 0)]) S (c_X4_refusal l G _ hW (r := (rvL [va_rf (lkF ad (geL L.2.1 i L.1 0)), va_rf (lkF ad (lstL L.2.1 i L.1)), .int (nI (cntL L.2.1 i L.1)), .int (nI (cntL L.2.2 i L.1)), .int (T.1 i), .int (T.2.1 i), .int (T.2.2 i)])) hd_i h1 h4 a w) (va_cwS 3 hts (gWSS q_l_4_46 q_st_X4_refusal q_in_4 q_co_X4_refusal) rfl rfl rfl (by decide +kernel) ⟨Nat.le_of_ble_eq_true rfl, Nat.le_of_ble_eq_true rfl⟩) (hPreSr hE hS) rfl rfl hl.1 rfl (lv_room (Nat.le_of_ble_eq_true rfl)) dX4_call_12 ⟨Nat.le_of_ble_eq_true rfl, Nat.le_of_ble_eq_true rfl⟩) hS (fun locs hS => ?_)
  refine hr_put S hE hW hS h0 inX4 (C := RX4) (T := TX4) (N := 9) tyX4_ok nmX4 rfl 8 (by decide) q_f_4_32 rfl rfl rfl (Nat.le_of_ble_eq_true rfl) dX4_call_15 (fun H locs ct_1 hW hk_2 hg_3 hz hS => ?_)
  have hR := RC_o hR hk_2 hg_3
  obtain ⟨h0, h1, h2, h3, h4, h5, h6, h7, hdv, hlks, hn300, hm400, hft, hty⟩ := id hR
  have hd_i := hdv i hi
  refine lv_aload hx hb dX4_call_18 (lv_at hl 0 rfl) ?_
  refine lv_ifnull hx hb dX4_call_20 ?_
  refine lv_aload_n hx hb dX4_call_23 rfl (lv_at hl 1 rfl) ?_
  refine hr_get S hE hW h0 inX4 (C := RX4) (T := TX4) (N := 9) rfl 8 (by decide) q_f_4_32 rfl dX4_call_24 ?_
  refine lv_if_eq (tgt := 32) hx hb dX4_call_27 (by decide) (fun c_27 => ?_) (fun c_27 => ?_)
  · refine lv_aload_n hx hb dX4_call_32 rfl (lv_at hl 1 rfl) ?_
    refine hr_get S hE hW h0 inX4 (C := RX4) (T := TX4) (N := 9) rfl 1 (by decide) q_f_4_19 rfl dX4_call_33 ?_
    refine hc_v (va_runVN (As := []) (rest := []) S (c_X3_clear l G ad _ h2) ⟨va_cnB 0 hts (gWS q_co_X3_clear) rfl rfl rfl (hE.nest 18 rfl) (hts _ q_in_3) (by decide +kernel) ⟨Nat.le_of_ble_eq_true rfl, Nat.le_of_ble_eq_true rfl⟩, hts _ q_im_X3_clear, hts _ q_se_X3_clear⟩ (hPreVw hE hS (hrecv hE hW h2 (q := (RX3, TX3, 2)) rfl) hW) rfl rfl hl.1 rfl (lv_room (Nat.le_of_ble_eq_true rfl)) dX4_call_36 ⟨Nat.le_of_ble_eq_true rfl, Nat.le_of_ble_eq_true rfl⟩) hS (fun ct_4 H locs hp hW hS => ?_)
    obtain ⟨h_5, hg_6⟩ := hp
    have hR := RC_t hR h_5 hg_6
    obtain ⟨h0, h1, h2, h3, h4, h5, h6, h7, hdv, hlks, hn300, hm400, hft, hty⟩ := id hR
    have hd_i := hdv i hi
    refine lv_aload hx hb dX4_call_39 (lv_at hl 0 rfl) ?_
    refine lv_iload_n hx hb dX4_call_41 rfl (lv_at hl 3 rfl) ?_
    refine lv_iload hx hb dX4_call_42 (lv_at hl 5 rfl) ?_
    refine hc_i (va_runVN (As := [.int a, .int x]) (rest := []) S (c_X0_answer l G ad _ (k := 100 + 2 * i) (t := ty i) (r := (rvL [va_rf (lkF ad (geL L.2.1 i L.1 0)), va_rf (lkF ad (lstL L.2.1 i L.1)), .int (nI (cntL L.2.1 i L.1)), .int (nI (cntL L.2.2 i L.1)), .int (T.1 i), .int (T.2.1 i), .int (T.2.2 i)])) (q := (getD i (clrA A))) (by omega) h1 h5 ⟨hd_i, h2, h3⟩ a x) ⟨va_cnB 2 hts (gWS q_co_X0_answer) rfl rfl rfl (hE.nest 19 rfl) (hts _ q_in_0) (by decide +kernel) ⟨Nat.le_of_ble_eq_true rfl, Nat.le_of_ble_eq_true rfl⟩, hts _ q_im_X0_answer, hts _ q_se_X0_answer⟩ (hPreVw hE hS (hrecv hE hW hd_i (q := (RX0, TX0, 12)) rfl) hW) rfl rfl hl.1 rfl (lv_room (Nat.le_of_ble_eq_true rfl)) dX4_call_44 ⟨Nat.le_of_ble_eq_true rfl, Nat.le_of_ble_eq_true rfl⟩) hS (fun rv_13 ct_7 H locs hp hW hS => ?_)
    obtain ⟨ev_12, ⟨h_8, h_9, h_10⟩, hg_11⟩ := hp
    subst ev_12
    have hR := RC_d (q := (runS 40 (ty i) (selOfF selT (ty i) a) x (getD i (clrA A))).2) hR hi h_8 h_9 h_10 hg_11
    obtain ⟨h0, h1, h2, h3, h4, h5, h6, h7, hdv, hlks, hn300, hm400, hft, hty⟩ := id hR
    have hd_i := hdv i hi
    exact h_iret S hr hlk hS hW dX4_call_47 (by rw [c_27] at hR; rw [callR, if_pos c_27]; exact ⟨rfl, hR⟩)
  · refine lv_iconst (v := 0) hx hb dX4_call_30 (by decide) ?_
    exact h_iret S hr hlk hS hW dX4_call_31 (by rw [callR, if_neg c_27]; exact ⟨rfl, hR⟩)
set_option maxRecDepth 100000 in
set_option maxHeartbeats 4000000 in
theorem c_X4_every (l : Launch) (G : hG) (ad : Nat → Nat) (ct : Nat → Option va_E) {n : Nat} {ty : Nat → Int32} {A : AS} {T : TS} {L : LS4} {K : KS} {st0 : Int32} (hR : RC G ad ct n ty A T L K st0) (a w x : Int32)  : Met l yX4_every wzX4_every { frames := 125, cells := 0, slots := 0, locals := 2888 } (hPw [.ref (ad 0), .int a, .int w, .int x] G ad ct) (hQi (fun r ct1 => r = (everyR n ty a w x A).1 ∧ RC G ad ct1 n ty ((everyR n ty a w x A).2.1) T L K ((everyR n ty a w x A).2.2)) G ad) 0 0 (hA G.2.2.2) := by
  refine hMetw (by decide) (Nat.le_of_ble_eq_true rfl) (fun p e s m below meth c ls S hr hlk hE hW hl => ?_)
  obtain ⟨hx, hb, hml, hown, hts⟩ := id S
  have hS : va_S (hA G.2.2.2) s.heap s.heap [] := va_S.rf
  have hl : lv_has ls 7 [(0, .ref (ad 0)), (1, .int a), (2, .int w), (3, .int x)] := hl
  obtain ⟨h0, h1, h2, h3, h4, h5, h6, h7, hdv, hlks, hn300, hm400, hft, hty⟩ := id hR
  refine lv_aload_n hx hb dX4_every_0 rfl (lv_at hl 0 rfl) ?_
  refine lv_aload_n hx hb dX4_every_1 rfl (lv_at hl 0 rfl) ?_
  refine lv_iload_n hx hb dX4_every_2 rfl (lv_at hl 1 rfl) ?_
  refine lv_iload_n hx hb dX4_every_3 rfl (lv_at hl 2 rfl) ?_
  refine hc_r (va_runV (As := [.int a, .int w]) (rest := [.ref (ad 0)]) S (c_X4_refusalOfAll l G _ hW h0 h1 a w) (cwV 2 hts (gWSV q_l_4_57 q_im_X4_refusalOfAll q_se_X4_refusalOfAll q_in_4 q_co_X4_refusalOfAll) rfl rfl rfl (by decide +kernel) ⟨Nat.le_of_ble_eq_true rfl, Nat.le_of_ble_eq_true rfl⟩) (hPreVr hE hS (hrecv hE hW h0 (q := (RX4, TX4, 9)) rfl)) rfl rfl hl.1 rfl (lv_room (Nat.le_of_ble_eq_true rfl)) dX4_every_4 ⟨Nat.le_of_ble_eq_true rfl, Nat.le_of_ble_eq_true rfl⟩) hS (fun locs hS => ?_)
  refine hr_put S hE hW hS h0 inX4 (C := RX4) (T := TX4) (N := 9) tyX4_ok nmX4 rfl 8 (by decide) q_f_4_32 rfl rfl rfl (Nat.le_of_ble_eq_true rfl) dX4_every_7 (fun H locs ct_1 hW hk_2 hg_3 hz hS => ?_)
  have hR := RC_o hR hk_2 hg_3
  obtain ⟨h0, h1, h2, h3, h4, h5, h6, h7, hdv, hlks, hn300, hm400, hft, hty⟩ := id hR
  refine lv_aload_n hx hb dX4_every_10 rfl (lv_at hl 0 rfl) ?_
  refine hr_get S hE hW h0 inX4 (C := RX4) (T := TX4) (N := 9) rfl 8 (by decide) q_f_4_32 rfl dX4_every_11 ?_
  refine lv_if_eq (tgt := 19) hx hb dX4_every_14 (by decide) (fun c_14 => ?_) (fun c_14 => ?_)
  · refine lv_aload_n hx hb dX4_every_19 rfl (lv_at hl 0 rfl) ?_
    refine hr_get S hE hW h0 inX4 (C := RX4) (T := TX4) (N := 9) rfl 1 (by decide) q_f_4_19 rfl dX4_every_20 ?_
    refine hc_v (va_runVN (As := []) (rest := []) S (c_X3_clear l G ad _ h2) ⟨va_cnB 0 hts (gWS q_co_X3_clear) rfl rfl rfl (hE.nest 18 rfl) (hts _ q_in_3) (by decide +kernel) ⟨Nat.le_of_ble_eq_true rfl, Nat.le_of_ble_eq_true rfl⟩, hts _ q_im_X3_clear, hts _ q_se_X3_clear⟩ (hPreVw hE hS (hrecv hE hW h2 (q := (RX3, TX3, 2)) rfl) hW) rfl rfl hl.1 rfl (lv_room (Nat.le_of_ble_eq_true rfl)) dX4_every_23 ⟨Nat.le_of_ble_eq_true rfl, Nat.le_of_ble_eq_true rfl⟩) hS (fun ct_4 H locs hp hW hS => ?_)
    obtain ⟨h_5, hg_6⟩ := hp
    have hR := RC_t hR h_5 hg_6
    obtain ⟨h0, h1, h2, h3, h4, h5, h6, h7, hdv, hlks, hn300, hm400, hft, hty⟩ := id hR
    refine lv_iconst (v := 0) hx hb dX4_every_26 (by decide) ?_
    refine lv_istore (lv' := [(4, .int 0), (0, .ref (ad 0)), (1, .int a), (2, .int w), (3, .int x)]) hx hb dX4_every_27 hl (by decide) rfl (fun ls hl => ?_)
    refine lv_iconst (v := 0) hx hb dX4_every_29 (by decide) ?_
    refine lv_istore (lv' := [(5, .int 0), (4, .int 0), (0, .ref (ad 0)), (1, .int a), (2, .int w), (3, .int x)]) hx hb dX4_every_30 hl (by decide) rfl (fun ls hl => ?_)
    rw [c_14] at hR
    have loop : ∀ (rem k : Nat) (z : Int32) (B : AS) (ct : Nat → Option va_E) (H : Heap) (locs : List Loc) (ls : Array Slot), k + rem = n → (everyR n ty a w x A = ((evL ty a w x rem k z B).1, (evL ty a w x rem k z B).2, 0)) → RC G ad ct n ty B T L (K.1, K.2.1, K.2.2) 0 → hw G ad ct H → va_S (hA G.2.2.2) s.heap H locs → lv_has ls 7 [(5, .int (nI k)), (4, .int z), (0, .ref (ad 0)), (1, .int a), (2, .int w), (3, .int x)] → W p l e { frames := 125, cells := 0, slots := 0, locals := 2888 } s m ([.ref (ad 0), .int a, .int w, .int x] : List Value).toArray below meth c H locs 0 0 (MQ below (hQi (fun r ct1 => r = (everyR n ty a w x A).1 ∧ RC G ad ct1 n ty ((everyR n ty a w x A).2.1) T L K ((everyR n ty a w x A).2.2)) G ad) ([.ref (ad 0), .int a, .int w, .int x] : List Value).toArray s 0 0 (hA G.2.2.2)) (F0 m 32 ls []) := by
      intro rem
      induction rem with
      | zero =>
        intro k z B ct H locs ls hnk hv hR hW hS hl
        obtain ⟨h0, h1, h2, h3, h4, h5, h6, h7, hdv, hlks, hn300, hm400, hft, hty⟩ := id hR
        refine lv_iload hx hb dX4_every_32 (lv_at hl 0 rfl) ?_
        refine lv_aload_n hx hb dX4_every_34 rfl (lv_at hl 2 rfl) ?_
        refine hr_get S hE hW h0 inX4 (C := RX4) (T := TX4) (N := 9) rfl 4 (by decide) q_f_4_36 rfl dX4_every_35 ?_
        refine lv_icmp_ge (tgt := 82) hx hb dX4_every_38 (by decide) (fun _ => ?_) (fun q => absurd (nI_le (by omega) (by omega)) q)
        refine lv_iload hx hb dX4_every_82 (lv_at hl 1 rfl) ?_
        exact h_iret S hr hlk hS hW dX4_every_84 (by rw [hv]; exact ⟨rfl, hR⟩)
      | succ rem ih =>
        intro k z B ct H locs ls hnk hv hR hW hS hl
        have hkn : k < n := by omega
        obtain ⟨h0, h1, h2, h3, h4, h5, h6, h7, hdv, hlks, hn300, hm400, hft, hty⟩ := id hR
        have hd_k := hdv k hkn
        refine lv_iload hx hb dX4_every_32 (lv_at hl 0 rfl) ?_
        refine lv_aload_n hx hb dX4_every_34 rfl (lv_at hl 2 rfl) ?_
        refine hr_get S hE hW h0 inX4 (C := RX4) (T := TX4) (N := 9) rfl 4 (by decide) q_f_4_36 rfl dX4_every_35 ?_
        refine lv_icmp_ge (tgt := 82) hx hb dX4_every_38 (by decide) (fun q => absurd q (nI_ge (by omega) (by omega))) (fun _ => ?_)
        refine lv_aload_n hx hb dX4_every_41 rfl (lv_at hl 2 rfl) ?_
        refine lv_iload hx hb dX4_every_42 (lv_at hl 0 rfl) ?_
        refine hc_rq (va_runV (As := [.int (nI k)]) (rest := []) S (c_X4_find l G _ hW h0 h6 (nI k)) (cwV 1 hts (gWSV q_l_4_42 q_im_X4_find q_se_X4_find q_in_4 q_co_X4_find) rfl rfl rfl (by decide +kernel) ⟨Nat.le_of_ble_eq_true rfl, Nat.le_of_ble_eq_true rfl⟩) (hPreVr hE hS (hrecv hE hW h0 (q := (RX4, TX4, 9)) rfl)) rfl rfl hl.1 rfl (lv_room (Nat.le_of_ble_eq_true rfl)) dX4_every_44 ⟨Nat.le_of_ble_eq_true rfl, Nat.le_of_ble_eq_true rfl⟩) hS (fun locs hS => ?_)
        rw [findF_ok hn300 hkn, va_rf_s]
        refine lv_astore (lv' := [(6, .ref (ad (100 + 2 * k))), (5, .int (nI k)), (4, .int z), (0, .ref (ad 0)), (1, .int a), (2, .int w), (3, .int x)]) hx hb dX4_every_47 hl (by decide) rfl (fun ls hl => ?_)
        refine lv_aload hx hb dX4_every_49 (lv_at hl 0 rfl) ?_
        refine lv_ifnull hx hb dX4_every_51 ?_
        refine lv_aload hx hb dX4_every_54 (lv_at hl 0 rfl) ?_
        refine lv_iload_n hx hb dX4_every_56 rfl (lv_at hl 4 rfl) ?_
        refine lv_iload_n hx hb dX4_every_57 rfl (lv_at hl 5 rfl) ?_
        refine hc_r (va_runS (As := [.ref (ad (100 + 2 * k)), .int a, .int w]) (rest := []) S (c_X4_refusal l G _ hW (r := (rvL [va_rf (lkF ad (geL L.2.1 k L.1 0)), va_rf (lkF ad (lstL L.2.1 k L.1)), .int (nI (cntL L.2.1 k L.1)), .int (nI (cntL L.2.2 k L.1)), .int (T.1 k), .int (T.2.1 k), .int (T.2.2 k)])) hd_k h1 h4 a w) (va_cwS 3 hts (gWSS q_l_4_46 q_st_X4_refusal q_in_4 q_co_X4_refusal) rfl rfl rfl (by decide +kernel) ⟨Nat.le_of_ble_eq_true rfl, Nat.le_of_ble_eq_true rfl⟩) (hPreSr hE hS) rfl rfl hl.1 rfl (lv_room (Nat.le_of_ble_eq_true rfl)) dX4_every_58 ⟨Nat.le_of_ble_eq_true rfl, Nat.le_of_ble_eq_true rfl⟩) hS (fun locs hS => ?_)
        refine lv_if_ne (tgt := 76) hx hb dX4_every_61 (by decide) (fun c_61 => ?_) (fun c_61 => ?_)
        · refine lv_iinc (v := (nI (k + 1))) (lv' := [(5, .int (nI (k + 1))), (6, .ref (ad (100 + 2 * k))), (4, .int z), (0, .ref (ad 0)), (1, .int a), (2, .int w), (3, .int x)]) hx hb dX4_every_76 hl (k := 1) rfl (nI_1 k) (by decide) rfl (fun ls hl => ?_)
          refine lv_goto (tgt := 32) hx hb dX4_every_79 (by decide) ?_
          exact ih (k + 1) z B _ _ _ _ (by omega) (by rw [hv, evL, if_neg c_61]) hR hW hS (lv_sub hl [0, 2, 3, 4, 5, 6] rfl)
        · refine lv_iload hx hb dX4_every_64 (lv_at hl 2 rfl) ?_
          refine lv_aload hx hb dX4_every_66 (lv_at hl 0 rfl) ?_
          refine lv_iload_n hx hb dX4_every_68 rfl (lv_at hl 4 rfl) ?_
          refine lv_iload_n hx hb dX4_every_69 rfl (lv_at hl 6 rfl) ?_
          refine hc_i (va_runVN (As := [.int a, .int x]) (rest := [.int z]) S (c_X0_answer l G ad _ (k := 100 + 2 * k) (t := ty k) (r := (rvL [va_rf (lkF ad (geL L.2.1 k L.1 0)), va_rf (lkF ad (lstL L.2.1 k L.1)), .int (nI (cntL L.2.1 k L.1)), .int (nI (cntL L.2.2 k L.1)), .int (T.1 k), .int (T.2.1 k), .int (T.2.2 k)])) (q := (getD k B)) (by omega) h1 h5 ⟨hd_k, h2, h3⟩ a x) ⟨va_cnB 2 hts (gWS q_co_X0_answer) rfl rfl rfl (hE.nest 19 rfl) (hts _ q_in_0) (by decide +kernel) ⟨Nat.le_of_ble_eq_true rfl, Nat.le_of_ble_eq_true rfl⟩, hts _ q_im_X0_answer, hts _ q_se_X0_answer⟩ (hPreVw hE hS (hrecv hE hW hd_k (q := (RX0, TX0, 12)) rfl) hW) rfl rfl hl.1 rfl (lv_room (Nat.le_of_ble_eq_true rfl)) dX4_every_70 ⟨Nat.le_of_ble_eq_true rfl, Nat.le_of_ble_eq_true rfl⟩) hS (fun rv_13 ct_7 H locs hp hW hS => ?_)
          obtain ⟨ev_12, ⟨h_8, h_9, h_10⟩, hg_11⟩ := hp
          subst ev_12
          have hR := RC_d (q := (runS 40 (ty k) (selOfF selT (ty k) a) x (getD k B)).2) hR hkn h_8 h_9 h_10 hg_11
          obtain ⟨h0, h1, h2, h3, h4, h5, h6, h7, hdv, hlks, hn300, hm400, hft, hty⟩ := id hR
          have hd_k := hdv k hkn
          refine lv_iadd hx hb dX4_every_73 ?_
          refine lv_istore (lv' := [(4, .int (z + ((runS 40 (ty k) (selOfF selT (ty k) a) x (getD k B)).1))), (6, .ref (ad (100 + 2 * k))), (5, .int (nI k)), (0, .ref (ad 0)), (1, .int a), (2, .int w), (3, .int x)]) hx hb dX4_every_74 hl (by decide) rfl (fun ls hl => ?_)
          refine lv_iinc (v := (nI (k + 1))) (lv' := [(5, .int (nI (k + 1))), (4, .int (z + ((runS 40 (ty k) (selOfF selT (ty k) a) x (getD k B)).1))), (6, .ref (ad (100 + 2 * k))), (0, .ref (ad 0)), (1, .int a), (2, .int w), (3, .int x)]) hx hb dX4_every_76 hl (k := 2) rfl (nI_1 k) (by decide) rfl (fun ls hl => ?_)
          refine lv_goto (tgt := 32) hx hb dX4_every_79 (by decide) ?_
          exact ih (k + 1) (z + ((runS 40 (ty k) (selOfF selT (ty k) a) x (getD k B)).1)) (putD k B ((runS 40 (ty k) (selOfF selT (ty k) a) x (getD k B)).2)) _ _ _ _ (by omega) (by rw [hv, evL, if_pos c_61]; rfl) hR hW hS (lv_sub hl [0, 1, 3, 4, 5, 6] rfl)
    exact loop n 0 0 (clrA A) _ _ _ _ (by omega) (by rw [everyR, if_pos c_14]) hR hW hS (lv_sub hl [0, 1, 2, 3, 4, 5] rfl)
  · refine lv_iconst (v := 0) hx hb dX4_every_17 (by decide) ?_
    exact h_iret S hr hlk hS hW dX4_every_18 (by rw [everyR, if_neg c_14]; exact ⟨rfl, hR⟩)
set_option maxRecDepth 100000 in
set_option maxHeartbeats 4000000 in
theorem c_X4_feed_no (l : Launch) (G : hG) (ad : Nat → Nat) (ct : Nat → Option va_E) {n : Nat} {ty : Nat → Int32} {A : AS} {T : TS} {L : LS4} {K : KS} {st0 : Int32} (hR : RC G ad ct n ty A T L K st0) {d : Int32} (hd : ∀ i, i < n → d ≠ nI i) (by0 : Int32)  : Met l yX4_feed wzX4_feed { frames := 1, cells := 0, slots := 0, locals := 21 } (hPw [.ref (ad 0), .int d, .int by0] G ad ct) (hQi (fun r ct1 => r = 0 ∧ RC G ad ct1 n ty A T L K 1) G ad) 0 0 (hA G.2.2.2) := by
  refine hMetw (by decide) (Nat.le_of_ble_eq_true rfl) (fun p e s m below meth c ls S hr hlk hE hW hl => ?_)
  obtain ⟨hx, hb, hml, hown, hts⟩ := id S
  have hS : va_S (hA G.2.2.2) s.heap s.heap [] := va_S.rf
  have hl : lv_has ls 6 [(0, .ref (ad 0)), (1, .int d), (2, .int by0)] := hl
  obtain ⟨h0, h1, h2, h3, h4, h5, h6, h7, hdv, hlks, hn300, hm400, hft, hty⟩ := id hR
  refine lv_aload_n hx hb dX4_feed_0 rfl (lv_at hl 0 rfl) ?_
  refine lv_iload_n hx hb dX4_feed_1 rfl (lv_at hl 1 rfl) ?_
  refine hc_rq (va_runV (As := [.int d]) (rest := []) S (c_X4_find l G _ hW h0 h6 d) (cwV 1 hts (gWSV q_l_4_42 q_im_X4_find q_se_X4_find q_in_4 q_co_X4_find) rfl rfl rfl (by decide +kernel) ⟨Nat.le_of_ble_eq_true rfl, Nat.le_of_ble_eq_true rfl⟩) (hPreVr hE hS (hrecv hE hW h0 (q := (RX4, TX4, 9)) rfl)) rfl rfl hl.1 rfl (lv_room (Nat.le_of_ble_eq_true rfl)) dX4_feed_2 ⟨Nat.le_of_ble_eq_true rfl, Nat.le_of_ble_eq_true rfl⟩) hS (fun locs hS => ?_)
  rw [findF_no hn300 hd, va_rf_n]
  refine lv_astore_nN (lv' := [(3, .null), (0, .ref (ad 0)), (1, .int d), (2, .int by0)]) hx hb dX4_feed_5 rfl hl (by decide) rfl (fun ls hl => ?_)
  refine lv_aload_nN hx hb dX4_feed_6 rfl (lv_at hl 0 rfl) ?_
  refine lv_ifnonnullN hx hb dX4_feed_7 ?_
  refine lv_aload_n hx hb dX4_feed_10 rfl (lv_at hl 1 rfl) ?_
  refine lv_iconst (v := 1) hx hb dX4_feed_11 (by decide) ?_
  refine hr_put S hE hW hS h0 inX4 (C := RX4) (T := TX4) (N := 9) tyX4_ok nmX4 rfl 8 (by decide) q_f_4_32 rfl rfl rfl (Nat.le_of_ble_eq_true rfl) dX4_feed_12 (fun H locs ct_1 hW hk_2 hg_3 hz hS => ?_)
  have hR := RC_o hR hk_2 hg_3
  obtain ⟨h0, h1, h2, h3, h4, h5, h6, h7, hdv, hlks, hn300, hm400, hft, hty⟩ := id hR
  refine lv_iconst (v := 0) hx hb dX4_feed_15 (by decide) ?_
  exact h_iret S hr hlk hS hW dX4_feed_16 ⟨rfl, hR⟩
set_option maxRecDepth 100000 in
set_option maxHeartbeats 4000000 in
theorem c_X4_feed_ok (l : Launch) (G : hG) (ad : Nat → Nat) (ct : Nat → Option va_E) {n : Nat} {ty : Nat → Int32} {A : AS} {T : TS} {L : LS4} {K : KS} {st0 : Int32} (hR : RC G ad ct n ty A T L K st0) {i : Nat} (hi : i < n) (by0 : Int32)  : Met l yX4_feed wzX4_feed { frames := 126, cells := 0, slots := 0, locals := 2912 } (hPw [.ref (ad 0), .int (nI i), .int by0] G ad ct) (hQi (fun r ct1 => r = (fdL ty i by0 4 0 (clrA A)).1 ∧ RC G ad ct1 n ty ((fdL ty i by0 4 0 (clrA A)).2) T L K 0) G ad) 0 0 (hA G.2.2.2) := by
  refine hMetw (by decide) (Nat.le_of_ble_eq_true rfl) (fun p e s m below meth c ls S hr hlk hE hW hl => ?_)
  obtain ⟨hx, hb, hml, hown, hts⟩ := id S
  have hS : va_S (hA G.2.2.2) s.heap s.heap [] := va_S.rf
  have hl : lv_has ls 6 [(0, .ref (ad 0)), (1, .int (nI i)), (2, .int by0)] := hl
  obtain ⟨h0, h1, h2, h3, h4, h5, h6, h7, hdv, hlks, hn300, hm400, hft, hty⟩ := id hR
  have hd_i := hdv i hi
  refine lv_aload_n hx hb dX4_feed_0 rfl (lv_at hl 0 rfl) ?_
  refine lv_iload_n hx hb dX4_feed_1 rfl (lv_at hl 1 rfl) ?_
  refine hc_rq (va_runV (As := [.int (nI i)]) (rest := []) S (c_X4_find l G _ hW h0 h6 (nI i)) (cwV 1 hts (gWSV q_l_4_42 q_im_X4_find q_se_X4_find q_in_4 q_co_X4_find) rfl rfl rfl (by decide +kernel) ⟨Nat.le_of_ble_eq_true rfl, Nat.le_of_ble_eq_true rfl⟩) (hPreVr hE hS (hrecv hE hW h0 (q := (RX4, TX4, 9)) rfl)) rfl rfl hl.1 rfl (lv_room (Nat.le_of_ble_eq_true rfl)) dX4_feed_2 ⟨Nat.le_of_ble_eq_true rfl, Nat.le_of_ble_eq_true rfl⟩) hS (fun locs hS => ?_)
  rw [findF_ok hn300 hi, va_rf_s]
  refine lv_astore_n (lv' := [(3, .ref (ad (100 + 2 * i))), (0, .ref (ad 0)), (1, .int (nI i)), (2, .int by0)]) hx hb dX4_feed_5 rfl hl (by decide) rfl (fun ls hl => ?_)
  refine lv_aload_n hx hb dX4_feed_6 rfl (lv_at hl 0 rfl) ?_
  refine lv_ifnonnull (tgt := 17) hx hb dX4_feed_7 (by decide) ?_
  refine lv_aload_n hx hb dX4_feed_17 rfl (lv_at hl 1 rfl) ?_
  refine lv_iconst (v := 0) hx hb dX4_feed_18 (by decide) ?_
  refine hr_put S hE hW hS h0 inX4 (C := RX4) (T := TX4) (N := 9) tyX4_ok nmX4 rfl 8 (by decide) q_f_4_32 rfl rfl rfl (Nat.le_of_ble_eq_true rfl) dX4_feed_19 (fun H locs ct_1 hW hk_2 hg_3 hz hS => ?_)
  have hR := RC_o hR hk_2 hg_3
  obtain ⟨h0, h1, h2, h3, h4, h5, h6, h7, hdv, hlks, hn300, hm400, hft, hty⟩ := id hR
  have hd_i := hdv i hi
  refine lv_aload_n hx hb dX4_feed_22 rfl (lv_at hl 1 rfl) ?_
  refine hr_get S hE hW h0 inX4 (C := RX4) (T := TX4) (N := 9) rfl 1 (by decide) q_f_4_19 rfl dX4_feed_23 ?_
  refine hc_v (va_runVN (As := []) (rest := []) S (c_X3_clear l G ad _ h2) ⟨va_cnB 0 hts (gWS q_co_X3_clear) rfl rfl rfl (hE.nest 18 rfl) (hts _ q_in_3) (by decide +kernel) ⟨Nat.le_of_ble_eq_true rfl, Nat.le_of_ble_eq_true rfl⟩, hts _ q_im_X3_clear, hts _ q_se_X3_clear⟩ (hPreVw hE hS (hrecv hE hW h2 (q := (RX3, TX3, 2)) rfl) hW) rfl rfl hl.1 rfl (lv_room (Nat.le_of_ble_eq_true rfl)) dX4_feed_26 ⟨Nat.le_of_ble_eq_true rfl, Nat.le_of_ble_eq_true rfl⟩) hS (fun ct_4 H locs hp hW hS => ?_)
  obtain ⟨h_5, hg_6⟩ := hp
  have hR := RC_t hR h_5 hg_6
  obtain ⟨h0, h1, h2, h3, h4, h5, h6, h7, hdv, hlks, hn300, hm400, hft, hty⟩ := id hR
  have hd_i := hdv i hi
  refine lv_iconst (v := 0) hx hb dX4_feed_29 (by decide) ?_
  refine lv_istore (lv' := [(4, .int 0), (3, .ref (ad (100 + 2 * i))), (0, .ref (ad 0)), (1, .int (nI i)), (2, .int by0)]) hx hb dX4_feed_30 hl (by decide) rfl (fun ls hl => ?_)
  refine lv_bipush (v := 24) hx hb dX4_feed_32 (by decide) ?_
  refine lv_istore (lv' := [(5, .int 24), (4, .int 0), (3, .ref (ad (100 + 2 * i))), (0, .ref (ad 0)), (1, .int (nI i)), (2, .int by0)]) hx hb dX4_feed_34 hl (by decide) rfl (fun ls hl => ?_)
  have loop : ∀ (rem k : Nat) (z : Int32) (B : AS) (ct : Nat → Option va_E) (H : Heap) (locs : List Loc) (ls : Array Slot), k + rem = 4 → (fdL ty i by0 4 0 (clrA A) = fdL ty i by0 rem z B) → RC G ad ct n ty B T L (K.1, K.2.1, K.2.2) 0 → hw G ad ct H → va_S (hA G.2.2.2) s.heap H locs → lv_has ls 6 [(5, .int (shF rem)), (4, .int z), (0, .ref (ad 0)), (2, .int by0), (3, .ref (ad (100 + 2 * i)))] → W p l e { frames := 126, cells := 0, slots := 0, locals := 2912 } s m ([.ref (ad 0), .int (nI i), .int by0] : List Value).toArray below meth c H locs 0 0 (MQ below (hQi (fun r ct1 => r = (fdL ty i by0 4 0 (clrA A)).1 ∧ RC G ad ct1 n ty ((fdL ty i by0 4 0 (clrA A)).2) T L K 0) G ad) ([.ref (ad 0), .int (nI i), .int by0] : List Value).toArray s 0 0 (hA G.2.2.2)) (F0 m 36 ls []) := by
    intro rem
    induction rem with
    | zero =>
      intro k z B ct H locs ls hnk hv hR hW hS hl
      obtain ⟨h0, h1, h2, h3, h4, h5, h6, h7, hdv, hlks, hn300, hm400, hft, hty⟩ := id hR
      have hd_i := hdv i hi
      refine lv_iload hx hb dX4_feed_36 (lv_at hl 0 rfl) ?_
      refine lv_if_lt (tgt := 66) hx hb dX4_feed_38 (by decide) (fun _ => ?_) (fun q => absurd (by decide) q)
      refine lv_iload hx hb dX4_feed_66 (lv_at hl 1 rfl) ?_
      exact h_iret S hr hlk hS hW dX4_feed_68 (by rw [hv]; exact ⟨rfl, hR⟩)
    | succ rem ih =>
      intro k z B ct H locs ls hnk hv hR hW hS hl
      obtain ⟨h0, h1, h2, h3, h4, h5, h6, h7, hdv, hlks, hn300, hm400, hft, hty⟩ := id hR
      have hd_i := hdv i hi
      refine lv_iload hx hb dX4_feed_36 (lv_at hl 0 rfl) ?_
      refine lv_if_lt (tgt := 66) hx hb dX4_feed_38 (by decide) (fun q => absurd q (nI_pos (by omega))) (fun _ => ?_)
      refine lv_iload hx hb dX4_feed_41 (lv_at hl 1 rfl) ?_
      refine lv_aload_n hx hb dX4_feed_43 rfl (lv_at hl 4 rfl) ?_
      refine lv_iload_n hx hb dX4_feed_44 rfl (lv_at hl 3 rfl) ?_
      refine lv_iload hx hb dX4_feed_45 (lv_at hl 0 rfl) ?_
      refine lv_iushr (v := (by0.toUInt32 >>> ((shF (rem + 1)).toUInt32 &&& Int32.toUInt32 31)).toInt32) hx hb dX4_feed_47 rfl ?_
      refine lv_sipush (v := 255) hx hb dX4_feed_48 (by decide) ?_
      refine lv_iand hx hb dX4_feed_51 ?_
      refine lv_iload hx hb dX4_feed_52 (lv_at hl 1 rfl) ?_
      refine hc_i (va_runS (As := [.ref (ad (100 + 2 * i)), .int (((by0.toUInt32 >>> ((shF (rem + 1)).toUInt32 &&& Int32.toUInt32 31)).toInt32) &&& 255), .int z]) (rest := [.int z]) S (c_X4_answerToByte l G ad _ (k := 100 + 2 * i) (t := ty i) (r := (rvL [va_rf (lkF ad (geL L.2.1 i L.1 0)), va_rf (lkF ad (lstL L.2.1 i L.1)), .int (nI (cntL L.2.1 i L.1)), .int (nI (cntL L.2.2 i L.1)), .int (T.1 i), .int (T.2.1 i), .int (T.2.2 i)])) (q := (getD i B)) (by omega) h1 h5 ⟨hd_i, h2, h3⟩ h4 (((by0.toUInt32 >>> ((shF (rem + 1)).toUInt32 &&& Int32.toUInt32 31)).toInt32) &&& 255) z) (va_cwS 3 hts (gWSS q_l_4_60 q_st_X4_answerToByte q_in_4 q_co_X4_answerToByte) rfl rfl rfl (by decide +kernel) ⟨Nat.le_of_ble_eq_true rfl, Nat.le_of_ble_eq_true rfl⟩) (hPreSw hE hS hW) rfl rfl hl.1 rfl (lv_room (Nat.le_of_ble_eq_true rfl)) dX4_feed_54 ⟨Nat.le_of_ble_eq_true rfl, Nat.le_of_ble_eq_true rfl⟩) hS (fun rv_13 ct_7 H locs hp hW hS => ?_)
      obtain ⟨ev_12, ⟨h_8, h_9, h_10⟩, hg_11⟩ := hp
      subst ev_12
      have hR := RC_d (q := (atbF (ty i) (((by0.toUInt32 >>> ((shF (rem + 1)).toUInt32 &&& Int32.toUInt32 31)).toInt32) &&& 255) z (getD i B)).2) hR hi h_8 h_9 h_10 hg_11
      obtain ⟨h0, h1, h2, h3, h4, h5, h6, h7, hdv, hlks, hn300, hm400, hft, hty⟩ := id hR
      have hd_i := hdv i hi
      refine lv_iadd hx hb dX4_feed_57 ?_
      refine lv_istore (lv' := [(4, .int (z + ((atbF (ty i) (((by0.toUInt32 >>> ((shF (rem + 1)).toUInt32 &&& Int32.toUInt32 31)).toInt32) &&& 255) z (getD i B)).1))), (5, .int (shF (rem + 1))), (0, .ref (ad 0)), (2, .int by0), (3, .ref (ad (100 + 2 * i)))]) hx hb dX4_feed_58 hl (by decide) rfl (fun ls hl => ?_)
      refine lv_iinc (v := (shF rem)) (lv' := [(5, .int (shF rem)), (4, .int (z + ((atbF (ty i) (((by0.toUInt32 >>> ((shF (rem + 1)).toUInt32 &&& Int32.toUInt32 31)).toInt32) &&& 255) z (getD i B)).1))), (0, .ref (ad 0)), (2, .int by0), (3, .ref (ad (100 + 2 * i)))]) hx hb dX4_feed_60 hl (k := 1) rfl (shF_dec rem) (by decide) rfl (fun ls hl => ?_)
      refine lv_goto (tgt := 36) hx hb dX4_feed_63 (by decide) ?_
      exact ih (k + 1) (z + ((atbF (ty i) (((by0.toUInt32 >>> ((shF (rem + 1)).toUInt32 &&& Int32.toUInt32 31)).toInt32) &&& 255) z (getD i B)).1)) (putD i B ((atbF (ty i) (((by0.toUInt32 >>> ((shF (rem + 1)).toUInt32 &&& Int32.toUInt32 31)).toInt32) &&& 255) z (getD i B)).2)) _ _ _ _ (by omega) (by rw [hv, fdL]; rfl) hR hW hS (lv_sub hl [0, 1, 2, 3, 4] rfl)
  exact loop 4 0 0 (clrA A) _ _ _ _ (by omega) rfl hR hW hS (lv_sub hl [0, 1, 3, 5, 2] rfl)
end
section
/-! links and new devices, in what the class holds -/
theorem geL_congr {fr fr' : Nat → Nat} (i : Nat) : ∀ rem l, (∀ x, l ≤ x → x < l + rem → fr x = fr' x) → geL fr i rem l = geL fr' i rem l
  | 0, _, _ => rfl
  | rem + 1, l, h => by
    rw [geL, geL, h l (Nat.le_refl _) (by omega), geL_congr i rem (l + 1) (fun x h1 h2 => h x (by omega) (by omega))]
theorem geL_snoc (fr : Nat → Nat) (i : Nat) : ∀ rem l, geL fr i (rem + 1) l = match geL fr i rem l with | some x => some x | none => if fr (l + rem) = i then some (l + rem) else none
  | 0, l => rfl
  | rem + 1, l => by
    rw [geL, geL_snoc fr i rem (l + 1), geL]
    by_cases h : fr l = i
    · rw [if_pos h, if_pos h]
    · rw [if_neg h, if_neg h, show l + 1 + rem = l + (rem + 1) by omega]
theorem geL_none {fr : Nat → Nat} {i : Nat} : ∀ rem l, (∀ x, l ≤ x → x < l + rem → fr x ≠ i) → geL fr i rem l = none
  | 0, _, _ => rfl
  | rem + 1, l, h => by
    rw [geL, if_neg (h l (Nat.le_refl _) (by omega)), geL_none rem (l + 1) (fun x h1 h2 => h x (by omega) (by omega))]
theorem geL_some {fr : Nat → Nat} {i : Nat} : ∀ rem l x, l ≤ x → x < l + rem → fr x = i → ∃ y, geL fr i rem l = some y
  | 0, l, x, h1, h2, _ => by omega
  | rem + 1, l, x, h1, h2, h3 => by
    rw [geL]
    by_cases h : fr l = i
    · exact ⟨l, if_pos h⟩
    · rw [if_neg h]
      have : x ≠ l := fun q => h (q ▸ h3)
      exact geL_some rem (l + 1) x (by omega) (by omega) h3
theorem lstL_none {fr : Nat → Nat} {i : Nat} : ∀ m, lstL fr i m = none → ∀ x, x < m → fr x ≠ i
  | 0, _, x, hx => by omega
  | m + 1, h, x, hx => by
    rw [lstL] at h
    by_cases hm : fr m = i
    · rw [if_pos hm] at h; cases h
    · rw [if_neg hm] at h
      by_cases hxm : x = m
      · rw [hxm]; exact hm
      · exact lstL_none m h x (by omega)
theorem lstL_some {fr : Nat → Nat} {i : Nat} : ∀ m j, lstL fr i m = some j → j < m ∧ fr j = i ∧ ∀ x, j < x → x < m → fr x ≠ i
  | 0, j, h => by cases h
  | m + 1, j, h => by
    rw [lstL] at h
    by_cases hm : fr m = i
    · rw [if_pos hm] at h
      cases h
      exact ⟨by omega, hm, fun x h1 h2 => by omega⟩
    · rw [if_neg hm] at h
      obtain ⟨a, b, c⟩ := lstL_some m j h
      refine ⟨by omega, b, fun x h1 h2 => ?_⟩
      by_cases hxm : x = m
      · rw [hxm]; exact hm
      · exact c x h1 (by omega)
theorem lstL_congr {fr fr' : Nat → Nat} (i : Nat) : ∀ m, (∀ x, x < m → fr x = fr' x) → lstL fr i m = lstL fr' i m
  | 0, _ => rfl
  | m + 1, h => by rw [lstL, lstL, h m (by omega), lstL_congr i m (fun x hx => h x (by omega))]
theorem cntL_congr {fr fr' : Nat → Nat} (i : Nat) : ∀ m, (∀ x, x < m → fr x = fr' x) → cntL fr i m = cntL fr' i m
  | 0, _ => rfl
  | m + 1, h => by rw [cntL, cntL, h m (by omega), cntL_congr i m (fun x hx => h x (by omega))]
theorem cntL_none {fr : Nat → Nat} {i : Nat} : ∀ m, (∀ x, x < m → fr x ≠ i) → cntL fr i m = 0
  | 0, _ => rfl
  | m + 1, h => by rw [cntL, if_neg (h m (by omega)), cntL_none m (fun x hx => h x (by omega))]
theorem lstL_none' {fr : Nat → Nat} {i : Nat} : ∀ m, (∀ x, x < m → fr x ≠ i) → lstL fr i m = none
  | 0, _ => rfl
  | m + 1, h => by rw [lstL, if_neg (h m (by omega)), lstL_none' m (fun x hx => h x (by omega))]
theorem up_lt {α : Type} {f : Nat → α} {m x : Nat} {v : α} (h : x < m) : va_up f m v x = f x := va_up_ne _ _ (by omega)
def newL (L : LS4) (i j : Nat) : LS4 := (L.1 + 1, va_up L.2.1 L.1 i, va_up L.2.2 L.1 j)
theorem nl_geo {L : LS4} {i j d : Nat} (h : d ≠ i) : geL (newL L i j).2.1 d (L.1 + 1) 0 = geL L.2.1 d L.1 0 := by
  rw [geL_snoc, show geL (newL L i j).2.1 d L.1 0 = geL L.2.1 d L.1 0 from geL_congr d _ _ (fun x _ h2 => up_lt (by omega)), if_neg (by rw [Nat.zero_add]; show ¬ va_up L.2.1 L.1 i L.1 = d; rw [va_up_self]; exact fun q => h q.symm)]
  cases geL L.2.1 d L.1 0 <;> rfl
theorem nl_gen {L : LS4} {i j : Nat} (h : lstL L.2.1 i L.1 = none) : geL (newL L i j).2.1 i (L.1 + 1) 0 = some L.1 := by
  rw [geL_snoc, show geL (newL L i j).2.1 i L.1 0 = none from geL_none _ _ (fun x _ h2 => by rw [show (newL L i j).2.1 x = L.2.1 x from up_lt (by omega)]; exact lstL_none _ h x (by omega)), Nat.zero_add]
  show (if va_up L.2.1 L.1 i L.1 = i then some L.1 else none) = some L.1
  rw [va_up_self, if_pos rfl]
theorem nl_ges {L : LS4} {i j y : Nat} (h : lstL L.2.1 i L.1 = some y) : geL (newL L i j).2.1 i (L.1 + 1) 0 = geL L.2.1 i L.1 0 := by
  obtain ⟨a, b, -⟩ := lstL_some _ _ h
  obtain ⟨z, hz⟩ := geL_some (fr := L.2.1) (i := i) L.1 0 y (by omega) (by omega) b
  rw [geL_snoc, show geL (newL L i j).2.1 i L.1 0 = geL L.2.1 i L.1 0 from geL_congr i _ _ (fun x _ h2 => up_lt (by omega)), hz]
theorem nl_lso {L : LS4} {i j d : Nat} (h : d ≠ i) : lstL (newL L i j).2.1 d (L.1 + 1) = lstL L.2.1 d L.1 := by
  rw [lstL, if_neg (by show ¬ va_up L.2.1 L.1 i L.1 = d; rw [va_up_self]; exact fun q => h q.symm)]
  exact lstL_congr d _ (fun x h2 => up_lt h2)
theorem nl_lsi {L : LS4} {i j : Nat} : lstL (newL L i j).2.1 i (L.1 + 1) = some L.1 := by
  rw [lstL, if_pos (by show va_up L.2.1 L.1 i L.1 = i; rw [va_up_self])]
theorem nl_co {L : LS4} {i j d : Nat} (h : d ≠ i) : cntL (newL L i j).2.1 d (L.1 + 1) = cntL L.2.1 d L.1 := by
  rw [cntL, if_neg (by show ¬ va_up L.2.1 L.1 i L.1 = d; rw [va_up_self]; exact fun q => h q.symm)]
  exact cntL_congr d _ (fun x h2 => up_lt h2)
theorem nl_ci {L : LS4} {i j : Nat} : cntL (newL L i j).2.1 i (L.1 + 1) = cntL L.2.1 i L.1 + 1 := by
  rw [cntL, if_pos (by show va_up L.2.1 L.1 i L.1 = i; rw [va_up_self]), cntL_congr i L.1 (fun x h2 => show (newL L i j).2.1 x = L.2.1 x from up_lt h2)]
theorem nl_to {L : LS4} {i j d : Nat} (h : d ≠ j) : cntL (newL L i j).2.2 d (L.1 + 1) = cntL L.2.2 d L.1 := by
  rw [cntL, if_neg (by show ¬ va_up L.2.2 L.1 j L.1 = d; rw [va_up_self]; exact fun q => h q.symm)]
  exact cntL_congr d _ (fun x h2 => up_lt h2)
theorem nl_tj {L : LS4} {i j : Nat} : cntL (newL L i j).2.2 j (L.1 + 1) = cntL L.2.2 j L.1 + 1 := by
  rw [cntL, if_pos (by show va_up L.2.2 L.1 j L.1 = j; rw [va_up_self]), cntL_congr j L.1 (fun x h2 => show (newL L i j).2.2 x = L.2.2 x from up_lt h2)]
/-- a link's next: unchanged, but of the last one of i -/
theorem nl_nx {L : LS4} {i j x : Nat} (hx : x < L.1) (h : lstL L.2.1 i L.1 ≠ some x) : geL (newL L i j).2.1 ((newL L i j).2.1 x) (L.1 + 1 - (x + 1)) (x + 1) = geL L.2.1 (L.2.1 x) (L.1 - (x + 1)) (x + 1) := by
  rw [show (newL L i j).2.1 x = L.2.1 x from up_lt hx, show L.1 + 1 - (x + 1) = (L.1 - (x + 1)) + 1 by omega, geL_snoc, show geL (newL L i j).2.1 (L.2.1 x) (L.1 - (x + 1)) (x + 1) = geL L.2.1 (L.2.1 x) (L.1 - (x + 1)) (x + 1) from geL_congr _ _ _ (fun y _ h2 => up_lt (by omega)), show x + 1 + (L.1 - (x + 1)) = L.1 by omega]
  show (match geL L.2.1 (L.2.1 x) (L.1 - (x + 1)) (x + 1) with | some y => some y | none => if va_up L.2.1 L.1 i L.1 = L.2.1 x then some L.1 else none) = _
  rw [va_up_self]
  cases hg : geL L.2.1 (L.2.1 x) (L.1 - (x + 1)) (x + 1) with
  | some y => rfl
  | none =>
    by_cases hi : i = L.2.1 x
    · exfalso
      cases hl : lstL L.2.1 i L.1 with
      | none => exact lstL_none _ hl x hx hi.symm
      | some z =>
        obtain ⟨a, b, c⟩ := lstL_some _ _ hl
        have hzx : z ≠ x := fun q => h (by rw [hl, q])
        by_cases hlt : z < x
        · exact c x hlt hx hi.symm
        · obtain ⟨y, hy⟩ := geL_some (fr := L.2.1) (i := L.2.1 x) (L.1 - (x + 1)) (x + 1) z (by omega) (by omega) (b.trans hi)
          rw [hy] at hg; cases hg
    · exact if_neg hi
theorem nl_nxl {L : LS4} {i j x : Nat} (h : lstL L.2.1 i L.1 = some x) : geL (newL L i j).2.1 ((newL L i j).2.1 x) (L.1 + 1 - (x + 1)) (x + 1) = some L.1 := by
  obtain ⟨a, b, c⟩ := lstL_some _ _ h
  rw [show (newL L i j).2.1 x = L.2.1 x from up_lt a, b, show L.1 + 1 - (x + 1) = (L.1 - (x + 1)) + 1 by omega, geL_snoc, show geL (newL L i j).2.1 i (L.1 - (x + 1)) (x + 1) = none from geL_none _ _ (fun y h1 h2 => by rw [show (newL L i j).2.1 y = L.2.1 y from up_lt (by omega)]; exact c y (by omega) (by omega)), show x + 1 + (L.1 - (x + 1)) = L.1 by omega]
  show (if va_up L.2.1 L.1 i L.1 = i then some L.1 else none) = some L.1
  rw [va_up_self, if_pos rfl]
theorem nl_nxm {L : LS4} {i j : Nat} : geL (newL L i j).2.1 ((newL L i j).2.1 L.1) (L.1 + 1 - (L.1 + 1)) (L.1 + 1) = none := by
  rw [Nat.sub_self]; rfl
/-- what a link makes of the devices' cells -/
theorem DC_lo {ad : Nat → Nat} {ty : Nat → Int32} {A : AS} {T : TS} {L : LS4} {i j d : Nat} (h1 : d ≠ i) (h2 : d ≠ j) : DC ad ty A T (newL L i j) d = DC ad ty A T L d := by
  unfold DC
  rw [show (newL L i j).1 = L.1 + 1 from rfl, nl_geo h1, nl_lso h1, nl_co h1, nl_to h2]
theorem RC_link {G : hG} {ad : Nat → Nat} {ct ct1 : Nat → Option va_E} {n : Nat} {ty : Nat → Int32} {A : AS} {T : TS} {L : LS4} {K : KS} {st st1 : Int32} {i j : Nat} (h : RC G ad ct n ty A T L K st) (hi : i < n) (hj : j < n) (hm : L.1 < 400)
    (h0 : ct1 0 = some (.inr (4, [.ref (ad 1), .ref (ad 2), .ref (ad 6), .ref (ad 7), .int (nI n), .int (nI (L.1 + 1)), .int K.2.1, .int K.2.2, .int st1])))
    (hd : ∀ d, d < n → d = i ∨ d = j → ct1 (100 + 2 * d) = some (.inr (0, DC ad ty A T (newL L i j) d)))
    (hk : ∀ x, x < L.1 + 1 → x = L.1 ∨ lstL L.2.1 i L.1 = some x → ct1 (101 + 2 * x) = some (.inr (2, [.ref (ad (100 + 2 * (newL L i j).2.2 x)), va_rf (lkF ad (geL (newL L i j).2.1 ((newL L i j).2.1 x) (L.1 + 1 - (x + 1)) (x + 1)))])))
    (hg : ∀ y, y ≠ 0 → y ≠ 100 + 2 * i → y ≠ 100 + 2 * j → y ≠ 101 + 2 * L.1 → (∀ x, lstL L.2.1 i L.1 = some x → y ≠ 101 + 2 * x) → ct1 y = ct y) : RC G ad ct1 n ty A T (newL L i j) K st1 := by
  obtain ⟨a0, a1, a2, a3, a4, a5, a6, a7, a8, a9, a10, a11, a12, a13⟩ := h
  have hlo : ∀ x, lstL L.2.1 i L.1 = some x → x < L.1 := fun x hx => (lstL_some _ _ hx).1
  have g : ∀ y, y < 100 → y ≠ 0 → ct1 y = ct y := fun y h1 h2 => hg y h2 (by omega) (by omega) (by omega) (fun x _ => by omega)
  refine ⟨h0, (g 1 (by omega) (by omega)).trans a1, (g 2 (by omega) (by omega)).trans a2, (g 3 (by omega) (by omega)).trans a3, (g 4 (by omega) (by omega)).trans a4, (g 5 (by omega) (by omega)).trans a5, (g 6 (by omega) (by omega)).trans a6, (g 7 (by omega) (by omega)).trans a7, fun d hd1 => ?_, fun x hx => ?_, a10, by show L.1 + 1 ≤ 400; omega, fun x hx => ?_, a13⟩
  · by_cases e1 : d = i
    · exact hd d hd1 (Or.inl e1)
    · by_cases e2 : d = j
      · exact hd d hd1 (Or.inr e2)
      · rw [hg _ (by omega) (by omega) (by omega) (by omega) (fun x _ => by omega), a8 d hd1, DC_lo e1 e2]
  · have hx' : x < L.1 + 1 := hx
    by_cases e1 : x = L.1
    · exact hk x hx' (Or.inl e1)
    · by_cases e2 : lstL L.2.1 i L.1 = some x
      · exact hk x hx' (Or.inr e2)
      · rw [hg _ (by omega) (by omega) (by omega) (by omega) (fun z hz => by intro q; exact e2 (by rw [hz, show z = x by omega])), a9 x (by omega)]
        show _ = some (Sum.inr (2, [Value.ref (ad (100 + 2 * (newL L i j).2.2 x)), va_rf (lkF ad (geL (newL L i j).2.1 ((newL L i j).2.1 x) (L.1 + 1 - (x + 1)) (x + 1)))]))
        rw [nl_nx (by omega) e2, show (newL L i j).2.2 x = L.2.2 x from up_lt (by omega)]
  · have hx' : x < L.1 + 1 := hx
    show va_up L.2.1 L.1 i x < n ∧ va_up L.2.2 L.1 j x < n
    by_cases e1 : x = L.1
    · rw [e1, va_up_self, va_up_self]; exact ⟨hi, hj⟩
    · rw [up_lt (by omega), up_lt (by omega)]; exact a12 x (by omega)
theorem dvF_up {ad : Nat → Nat} {n : Nat} : va_up (dvF ad n) n (some (ad (100 + 2 * n))) = dvF ad (n + 1) := by
  funext i
  unfold dvF va_up
  by_cases h : i = n
  · subst h; simp
  · by_cases h2 : i < n
    · simp [h, h2, Nat.lt_succ_of_lt h2]
    · simp [h, h2, show ¬ i < n + 1 by omega]
theorem RC_dev {G : hG} {ad : Nat → Nat} {ct ct1 : Nat → Option va_E} {n : Nat} {ty : Nat → Int32} {A : AS} {T : TS} {L : LS4} {K : KS} {st st1 t v : Int32} {kd : Nat} (h : RC G ad ct n ty A T L K st) (hn : n < 300) (hkd : kd < 11) (ht : t = nI (7 + kd))
    (h0 : ct1 0 = some (.inr (4, [.ref (ad 1), .ref (ad 2), .ref (ad 6), .ref (ad 7), .int (nI (n + 1)), .int (nI L.1), .int K.2.1, .int K.2.2, .int st1])))
    (h6 : ct1 6 = some (.inl (G.2.1.2.2, 300, .inr (.inr (.inr (.inr (va_up (dvF ad n) n (some (ad (100 + 2 * n))))))))))
    (hd : ct1 (100 + 2 * n) = some (.inr (0, [.ref (ad 1), .ref (ad 2), .int t, .int v, .int 0, .null, .null, .int 0, .int 0, .int 0, .int 0, .int 0])))
    (hg : ∀ y, y ≠ 0 → y ≠ 6 → y ≠ 100 + 2 * n → ct1 y = ct y) : RC G ad ct1 (n + 1) (upd ty n t) (upd A.1 n v, upd A.2.1 n 0, A.2.2) (upd T.1 n 0, upd T.2.1 n 0, upd T.2.2 n 0) L K st1 := by
  obtain ⟨a0, a1, a2, a3, a4, a5, a6, a7, a8, a9, a10, a11, a12, a13⟩ := h
  rw [dvF_up] at h6
  refine ⟨h0, (hg 1 (by omega) (by omega) (by omega)).trans a1, (hg 2 (by omega) (by omega) (by omega)).trans a2, (hg 3 (by omega) (by omega) (by omega)).trans a3, (hg 4 (by omega) (by omega) (by omega)).trans a4, (hg 5 (by omega) (by omega) (by omega)).trans a5, h6, (hg 7 (by omega) (by omega) (by omega)).trans a7, fun d hd1 => ?_, fun x hx => (hg _ (by omega) (by omega) (by omega)).trans (a9 x hx), by omega, a11, fun x hx => ⟨Nat.lt_succ_of_lt (a12 x hx).1, Nat.lt_succ_of_lt (a12 x hx).2⟩, fun d hd1 => ?_⟩
  · by_cases e : d = n
    · subst e
      rw [hd]
      unfold DC
      have hf : ∀ x, x < L.1 → L.2.1 x ≠ d := fun x hx => by have := (a12 x hx).1; omega
      have hto : ∀ x, x < L.1 → L.2.2 x ≠ d := fun x hx => by have := (a12 x hx).2; omega
      rw [geL_none _ _ (fun x _ h2 => hf x (by omega)), lstL_none' _ hf, cntL_none _ hf, cntL_none _ hto]
      simp only [pk_us]
      rfl
    · rw [hg _ (by omega) (by omega) (by omega), a8 d (by omega)]
      unfold DC
      simp only [pk_un e]
  · by_cases e : d = n
    · subst e; exact ⟨kd, hkd, by rw [pk_us]; exact ht⟩
    · rw [pk_un e]; exact a13 d (by omega)
end
section
theorem DC_in {ad : Nat → Nat} {ty : Nat → Int32} {A : AS} {T : TS} {L : LS4} {i j : Nat} (hlo : lstL L.2.1 i L.1 = none) (hij : i ≠ j) : DC ad ty A T (newL L i j) i = [.ref (ad 1), .ref (ad 2), .int (ty i), .int (A.1 i), .int (A.2.1 i), .ref (ad (101 + 2 * L.1)), .ref (ad (101 + 2 * L.1)), .int ((nI (cntL L.2.1 i L.1)) + 1), .int (nI (cntL L.2.2 i L.1)), .int (T.1 i), .int (T.2.1 i), .int (T.2.2 i)] := by
  unfold DC
  rw [show (newL L i j).1 = L.1 + 1 from rfl, nl_gen hlo, nl_lsi, nl_ci, nl_to hij, nI_succ]; rfl
theorem DC_is {ad : Nat → Nat} {ty : Nat → Int32} {A : AS} {T : TS} {L : LS4} {i j : Nat} {y : Nat} (hlo : lstL L.2.1 i L.1 = some y) (hij : i ≠ j) : DC ad ty A T (newL L i j) i = [.ref (ad 1), .ref (ad 2), .int (ty i), .int (A.1 i), .int (A.2.1 i), va_rf (lkF ad (geL L.2.1 i L.1 0)), .ref (ad (101 + 2 * L.1)), .int ((nI (cntL L.2.1 i L.1)) + 1), .int (nI (cntL L.2.2 i L.1)), .int (T.1 i), .int (T.2.1 i), .int (T.2.2 i)] := by
  unfold DC
  rw [show (newL L i j).1 = L.1 + 1 from rfl, nl_ges hlo, nl_lsi, nl_ci, nl_to hij, nI_succ]; rfl
theorem DC_en {ad : Nat → Nat} {ty : Nat → Int32} {A : AS} {T : TS} {L : LS4} {i : Nat} (hlo : lstL L.2.1 i L.1 = none) : DC ad ty A T (newL L i i) i = [.ref (ad 1), .ref (ad 2), .int (ty i), .int (A.1 i), .int (A.2.1 i), .ref (ad (101 + 2 * L.1)), .ref (ad (101 + 2 * L.1)), .int ((nI (cntL L.2.1 i L.1)) + 1), .int ((nI (cntL L.2.2 i L.1)) + 1), .int (T.1 i), .int (T.2.1 i), .int (T.2.2 i)] := by
  unfold DC
  rw [show (newL L i i).1 = L.1 + 1 from rfl, nl_gen hlo, nl_lsi, nl_ci, nl_tj, nI_succ, nI_succ]; rfl
theorem DC_es {ad : Nat → Nat} {ty : Nat → Int32} {A : AS} {T : TS} {L : LS4} {i : Nat} {y : Nat} (hlo : lstL L.2.1 i L.1 = some y) : DC ad ty A T (newL L i i) i = [.ref (ad 1), .ref (ad 2), .int (ty i), .int (A.1 i), .int (A.2.1 i), va_rf (lkF ad (geL L.2.1 i L.1 0)), .ref (ad (101 + 2 * L.1)), .int ((nI (cntL L.2.1 i L.1)) + 1), .int ((nI (cntL L.2.2 i L.1)) + 1), .int (T.1 i), .int (T.2.1 i), .int (T.2.2 i)] := by
  unfold DC
  rw [show (newL L i i).1 = L.1 + 1 from rfl, nl_ges hlo, nl_lsi, nl_ci, nl_tj, nI_succ, nI_succ]; rfl
theorem DC_j {ad : Nat → Nat} {ty : Nat → Int32} {A : AS} {T : TS} {L : LS4} {i j : Nat} (hij : i ≠ j) : DC ad ty A T (newL L i j) j = [.ref (ad 1), .ref (ad 2), .int (ty j), .int (A.1 j), .int (A.2.1 j), va_rf (lkF ad (geL L.2.1 j L.1 0)), va_rf (lkF ad (lstL L.2.1 j L.1)), .int (nI (cntL L.2.1 j L.1)), .int ((nI (cntL L.2.2 j L.1)) + 1), .int (T.1 j), .int (T.2.1 j), .int (T.2.2 j)] := by
  unfold DC
  rw [show (newL L i j).1 = L.1 + 1 from rfl, nl_geo hij.symm, nl_lso hij.symm, nl_co hij.symm, nl_tj, nI_succ]
theorem hw_z {G : hG} {ad : Nat → Nat} {ct : Nat → Option va_E} {k : Nat} {e : va_E} {H : Heap} (h : hw G ad ct H) (hk : ct k = some e) : G.2.2.2 ≤ H.size := Nat.le_of_lt (Nat.lt_of_le_of_lt (h.1 k e hk).2 (h.1 k e hk).1.lt)
set_option maxRecDepth 100000 in
set_option maxHeartbeats 4000000 in
theorem c_X2_init (l : Launch) (G : hG) (ad : Nat → Nat) (ct : Nat → Option va_E) {k j N : Nat} (hk : ct k = some (.inr (2, [.null, .null])))  : Met l yX2_init wzX2_init { frames := 1, cells := 0, slots := 0, locals := 20 } (hPz [.ref (ad k), .ref (ad j)] G ad ct N) (hQzv (fun ct1 => ct1 k = some (.inr (2, [.ref (ad j), .null])) ∧ ∀ y, y ≠ k → ct1 y = ct y) G ad N) 0 0 (hA G.2.2.2) := by
  refine hMetz (by decide) (Nat.le_of_ble_eq_true rfl) (fun p e s m below meth c ls S hr hlk hin hE hW hsz hl => ?_)
  obtain ⟨hx, hb, hml, hown, hts⟩ := id S
  have hS : va_S (hA G.2.2.2) s.heap s.heap [] := va_S.rf
  have hl : lv_has ls 2 [(0, .ref (ad k)), (1, .ref (ad j))] := hl
  refine lv_aload_n hx hb dX2_init_0 rfl (lv_at hl 0 rfl) ?_
  refine W.objInit hx hb hown (hts _ q_l_2_1) (hts _ q_im_O) (hts _ q_co_O) rfl (by rw [hml]; exact hl.1) rfl dX2_init_1 (Nat.le_of_ble_eq_true rfl) (Nat.le_of_ble_eq_true rfl) ?_
  refine W.eq (g2 := F0 m 4 ls []) rfl ?_
  refine lv_aload_n hx hb dX2_init_4 rfl (lv_at hl 0 rfl) ?_
  refine lv_aload_n hx hb dX2_init_5 rfl (lv_at hl 1 rfl) ?_
  refine hr_putF S hE hW hS hk inX2 (C := RX2) (T := TX2) (N := 2) tyX2_ok nmX2 rfl 0 (by decide) q_f_2_7 rfl (hin rfl) rfl rfl rfl (Nat.le_of_ble_eq_true rfl) dX2_init_6 (fun H locs ct_1 hW hk_2 hg_3 hz hS => ?_)
  have hsz := hz.trans hsz
  have h_4 : ct_1 k = some (.inr (2, [.ref (ad j), .null])) := hk_2
  exact h_zvret S hr hlk hS hW hsz dX2_init_9 ⟨h_4, (fun j q0 => hg_3 j q0)⟩
set_option maxRecDepth 100000 in
set_option maxHeartbeats 4000000 in
theorem c_X0_addLink_n (l : Launch) (G : hG) (ad : Nat → Nat) (ct : Nat → Option va_E) {k z : Nat} {t v c0 lf : Int32} {f5 f8 f9 f10 f11 : Value} (hk : ct k = some (.inr (0, [.ref (ad 1), .ref (ad 2), .int t, .int v, .int c0, f5, .null, .int lf, f8, f9, f10, f11])))  : Met l yX0_addLink wzX0_addLink { frames := 0, cells := 0, slots := 0, locals := 0 } (hPw [.ref (ad k), .ref (ad z)] G ad ct) (hQv (fun ct1 => ct1 k = some (.inr (0, [.ref (ad 1), .ref (ad 2), .int t, .int v, .int c0, .ref (ad z), .ref (ad z), .int (lf + 1), f8, f9, f10, f11])) ∧ ∀ y, y ≠ k → ct1 y = ct y) G ad) 0 0 (hA G.2.2.2) := by
  refine hMetw (by decide) (Nat.le_of_ble_eq_true rfl) (fun p e s m below meth c ls S hr hlk hE hW hl => ?_)
  obtain ⟨hx, hb, hml, hown, hts⟩ := id S
  have hS : va_S (hA G.2.2.2) s.heap s.heap [] := va_S.rf
  have hl : lv_has ls 2 [(0, .ref (ad k)), (1, .ref (ad z))] := hl
  refine lv_aload_n hx hb dX0_addLink_0 rfl (lv_at hl 0 rfl) ?_
  refine hr_get S hE hW hk inX0 (C := RX0) (T := TX0) (N := 12) rfl 6 (by decide) q_f_0_50 rfl dX0_addLink_1 ?_
  refine lv_ifnonnullN hx hb dX0_addLink_4 ?_
  refine lv_aload_n hx hb dX0_addLink_7 rfl (lv_at hl 0 rfl) ?_
  refine lv_aload_n hx hb dX0_addLink_8 rfl (lv_at hl 1 rfl) ?_
  refine hr_put S hE hW hS hk inX0 (C := RX0) (T := TX0) (N := 12) tyX0_ok nmX0 rfl 5 (by decide) q_f_0_54 rfl rfl rfl (Nat.le_of_ble_eq_true rfl) dX0_addLink_9 (fun H locs ct_1 hW hk_2 hg_3 hz hS => ?_)
  have h_4 : ct_1 k = some (.inr (0, [.ref (ad 1), .ref (ad 2), .int t, .int v, .int c0, .ref (ad z), .null, .int lf, f8, f9, f10, f11])) := hk_2
  refine lv_goto (tgt := 23) hx hb dX0_addLink_12 (by decide) ?_
  refine lv_aload_n hx hb dX0_addLink_23 rfl (lv_at hl 0 rfl) ?_
  refine lv_aload_n hx hb dX0_addLink_24 rfl (lv_at hl 1 rfl) ?_
  refine hr_put S hE hW hS h_4 inX0 (C := RX0) (T := TX0) (N := 12) tyX0_ok nmX0 rfl 6 (by decide) q_f_0_50 rfl rfl rfl (Nat.le_of_ble_eq_true rfl) dX0_addLink_25 (fun H locs ct_5 hW hk_6 hg_7 hz hS => ?_)
  have h_8 : ct_5 k = some (.inr (0, [.ref (ad 1), .ref (ad 2), .int t, .int v, .int c0, .ref (ad z), .ref (ad z), .int lf, f8, f9, f10, f11])) := hk_6
  refine lv_aload_n hx hb dX0_addLink_28 rfl (lv_at hl 0 rfl) ?_
  refine lv_dup hx hb dX0_addLink_29 rfl ?_
  refine hr_get S hE hW h_8 inX0 (C := RX0) (T := TX0) (N := 12) rfl 7 (by decide) q_f_0_41 rfl dX0_addLink_30 ?_
  refine lv_iconst (v := 1) hx hb dX0_addLink_33 (by decide) ?_
  refine lv_iadd hx hb dX0_addLink_34 ?_
  refine hr_put S hE hW hS h_8 inX0 (C := RX0) (T := TX0) (N := 12) tyX0_ok nmX0 rfl 7 (by decide) q_f_0_41 rfl rfl rfl (Nat.le_of_ble_eq_true rfl) dX0_addLink_35 (fun H locs ct_9 hW hk_10 hg_11 hz hS => ?_)
  have h_12 : ct_9 k = some (.inr (0, [.ref (ad 1), .ref (ad 2), .int t, .int v, .int c0, .ref (ad z), .ref (ad z), .int (lf + 1), f8, f9, f10, f11])) := hk_10
  exact h_vret S hr hlk hS hW dX0_addLink_38 ⟨h_12, (fun j q0 => (hg_11 j q0).trans ((hg_7 j q0).trans (hg_3 j q0)))⟩
set_option maxRecDepth 100000 in
set_option maxHeartbeats 4000000 in
theorem c_X0_addLink_s (l : Launch) (G : hG) (ad : Nat → Nat) (ct : Nat → Option va_E) {k z : Nat} {t v c0 lf : Int32} {f5 f8 f9 f10 f11 : Value} {w : Nat} {x0 x1 : Value} (hkw : k ≠ w) (hk : ct k = some (.inr (0, [.ref (ad 1), .ref (ad 2), .int t, .int v, .int c0, f5, .ref (ad w), .int lf, f8, f9, f10, f11]))) (hw2 : ct w = some (.inr (2, [x0, x1])))  : Met l yX0_addLink wzX0_addLink { frames := 0, cells := 0, slots := 0, locals := 0 } (hPw [.ref (ad k), .ref (ad z)] G ad ct) (hQv (fun ct1 => ct1 k = some (.inr (0, [.ref (ad 1), .ref (ad 2), .int t, .int v, .int c0, f5, .ref (ad z), .int (lf + 1), f8, f9, f10, f11])) ∧ ct1 w = some (.inr (2, [x0, .ref (ad z)])) ∧ ∀ y, y ≠ k → y ≠ w → ct1 y = ct y) G ad) 0 0 (hA G.2.2.2) := by
  refine hMetw (by decide) (Nat.le_of_ble_eq_true rfl) (fun p e s m below meth c ls S hr hlk hE hW hl => ?_)
  obtain ⟨hx, hb, hml, hown, hts⟩ := id S
  have hS : va_S (hA G.2.2.2) s.heap s.heap [] := va_S.rf
  have hl : lv_has ls 2 [(0, .ref (ad k)), (1, .ref (ad z))] := hl
  refine lv_aload_n hx hb dX0_addLink_0 rfl (lv_at hl 0 rfl) ?_
  refine hr_get S hE hW hk inX0 (C := RX0) (T := TX0) (N := 12) rfl 6 (by decide) q_f_0_50 rfl dX0_addLink_1 ?_
  refine lv_ifnonnull (tgt := 15) hx hb dX0_addLink_4 (by decide) ?_
  refine lv_aload_n hx hb dX0_addLink_15 rfl (lv_at hl 0 rfl) ?_
  refine hr_get S hE hW hk inX0 (C := RX0) (T := TX0) (N := 12) rfl 6 (by decide) q_f_0_50 rfl dX0_addLink_16 ?_
  refine lv_aload_n hx hb dX0_addLink_19 rfl (lv_at hl 1 rfl) ?_
  refine hr_putN S hE hW hS hw2 inX2 (C := RX2) (T := TX2) (N := 2) tyX2_ok nmX2 rfl 1 (by decide) (hE.nest 6 rfl) rfl rfl rfl (Nat.le_of_ble_eq_true rfl) dX0_addLink_20 (fun H locs ct_1 hW hk_2 hg_3 hz hS => ?_)
  have h_4 := (hg_3 k (by omega)).trans hk
  have h_5 : ct_1 w = some (.inr (2, [x0, .ref (ad z)])) := hk_2
  refine lv_aload_n hx hb dX0_addLink_23 rfl (lv_at hl 0 rfl) ?_
  refine lv_aload_n hx hb dX0_addLink_24 rfl (lv_at hl 1 rfl) ?_
  refine hr_put S hE hW hS h_4 inX0 (C := RX0) (T := TX0) (N := 12) tyX0_ok nmX0 rfl 6 (by decide) q_f_0_50 rfl rfl rfl (Nat.le_of_ble_eq_true rfl) dX0_addLink_25 (fun H locs ct_6 hW hk_7 hg_8 hz hS => ?_)
  have h_9 := (hg_8 w (by omega)).trans h_5
  have h_10 : ct_6 k = some (.inr (0, [.ref (ad 1), .ref (ad 2), .int t, .int v, .int c0, f5, .ref (ad z), .int lf, f8, f9, f10, f11])) := hk_7
  refine lv_aload_n hx hb dX0_addLink_28 rfl (lv_at hl 0 rfl) ?_
  refine lv_dup hx hb dX0_addLink_29 rfl ?_
  refine hr_get S hE hW h_10 inX0 (C := RX0) (T := TX0) (N := 12) rfl 7 (by decide) q_f_0_41 rfl dX0_addLink_30 ?_
  refine lv_iconst (v := 1) hx hb dX0_addLink_33 (by decide) ?_
  refine lv_iadd hx hb dX0_addLink_34 ?_
  refine hr_put S hE hW hS h_10 inX0 (C := RX0) (T := TX0) (N := 12) tyX0_ok nmX0 rfl 7 (by decide) q_f_0_41 rfl rfl rfl (Nat.le_of_ble_eq_true rfl) dX0_addLink_35 (fun H locs ct_11 hW hk_12 hg_13 hz hS => ?_)
  have h_14 := (hg_13 w (by omega)).trans h_9
  have h_15 : ct_11 k = some (.inr (0, [.ref (ad 1), .ref (ad 2), .int t, .int v, .int c0, f5, .ref (ad z), .int (lf + 1), f8, f9, f10, f11])) := hk_12
  exact h_vret S hr hlk hS hW dX0_addLink_38 ⟨h_15, h_14, (fun j q0 q1 => (hg_13 j q0).trans ((hg_8 j q0).trans (hg_3 j q1)))⟩
set_option maxRecDepth 100000 in
set_option maxHeartbeats 4000000 in
theorem c_X4_link_nd (l : Launch) (G : hG) (ad : Nat → Nat) (ct : Nat → Option va_E) {n : Nat} {ty : Nat → Int32} {A : AS} {T : TS} {L : LS4} {K : KS} {st0 : Int32} (hR : RC G ad ct n ty A T L K st0) {N : Nat} {i : Nat} (hi : i < n) {j : Nat} (hj : j < n) (hij : i ≠ j) (hlo : lstL L.2.1 i L.1 = none) (hm4 : L.1 < 400) (hadk : ad (101 + 2 * L.1) = N)  : Met l yX4_link wzX4_link { frames := 2, cells := 1, slots := 2, locals := 41 } (hPz [.ref (ad 0), .int (nI i), .int (nI j)] G ad ct N) (hQi (fun r ct1 => r = nI L.1 ∧ RC G ad ct1 n ty A T (newL L i j) K 0) G ad) 1 2 (hA G.2.2.2) := by
  refine hMetz (by decide) (Nat.le_of_ble_eq_true rfl) (fun p e s m below meth c ls S hr hlk hin hE hW hsz hl => ?_)
  obtain ⟨hx, hb, hml, hown, hts⟩ := id S
  have hS : va_S (hA G.2.2.2) s.heap s.heap [] := va_S.rf
  have hl : lv_has ls 6 [(0, .ref (ad 0)), (1, .int (nI i)), (2, .int (nI j))] := hl
  obtain ⟨h0, h1, h2, h3, h4, h5, h6, h7, hdv, hlks, hn300, hm400, hft, hty⟩ := id hR
  have hd_i : ct (100 + 2 * i) = some (.inr (0, [.ref (ad 1), .ref (ad 2), .int (ty i), .int (A.1 i), .int (A.2.1 i), va_rf (lkF ad (geL L.2.1 i L.1 0)), .null, .int (nI (cntL L.2.1 i L.1)), .int (nI (cntL L.2.2 i L.1)), .int (T.1 i), .int (T.2.1 i), .int (T.2.2 i)])) := by
    rw [hdv i hi, DC, hlo]; rfl
  have hd_j := hdv j hj
  refine lv_aload_n hx hb dX4_link_0 rfl (lv_at hl 0 rfl) ?_
  refine lv_iload_n hx hb dX4_link_1 rfl (lv_at hl 1 rfl) ?_
  refine hc_rq (va_runV (As := [.int (nI i)]) (rest := []) S (c_X4_find l G _ hW h0 h6 (nI i)) (cwV 1 hts (gWSV q_l_4_42 q_im_X4_find q_se_X4_find q_in_4 q_co_X4_find) rfl rfl rfl (by decide +kernel) ⟨Nat.le_of_ble_eq_true rfl, Nat.le_of_ble_eq_true rfl⟩) (hPreVr hE hS (hrecv hE hW h0 (q := (RX4, TX4, 9)) rfl)) rfl rfl hl.1 rfl (lv_room (Nat.le_of_ble_eq_true rfl)) dX4_link_2 ⟨Nat.le_of_ble_eq_true rfl, Nat.le_of_ble_eq_true rfl⟩) hS (fun locs hS => ?_)
  rw [findF_ok hn300 hi, va_rf_s]
  refine lv_astore_n (lv' := [(3, .ref (ad (100 + 2 * i))), (0, .ref (ad 0)), (1, .int (nI i)), (2, .int (nI j))]) hx hb dX4_link_5 rfl hl (by decide) rfl (fun ls hl => ?_)
  refine lv_aload_n hx hb dX4_link_6 rfl (lv_at hl 1 rfl) ?_
  refine lv_iload_n hx hb dX4_link_7 rfl (lv_at hl 3 rfl) ?_
  refine hc_rq (va_runV (As := [.int (nI j)]) (rest := []) S (c_X4_find l G _ hW h0 h6 (nI j)) (cwV 1 hts (gWSV q_l_4_42 q_im_X4_find q_se_X4_find q_in_4 q_co_X4_find) rfl rfl rfl (by decide +kernel) ⟨Nat.le_of_ble_eq_true rfl, Nat.le_of_ble_eq_true rfl⟩) (hPreVr hE hS (hrecv hE hW h0 (q := (RX4, TX4, 9)) rfl)) rfl rfl hl.1 rfl (lv_room (Nat.le_of_ble_eq_true rfl)) dX4_link_8 ⟨Nat.le_of_ble_eq_true rfl, Nat.le_of_ble_eq_true rfl⟩) hS (fun locs hS => ?_)
  rw [findF_ok hn300 hj, va_rf_s]
  refine lv_astore (lv' := [(4, .ref (ad (100 + 2 * j))), (3, .ref (ad (100 + 2 * i))), (0, .ref (ad 0)), (1, .int (nI i)), (2, .int (nI j))]) hx hb dX4_link_11 hl (by decide) rfl (fun ls hl => ?_)
  refine lv_aload_n hx hb dX4_link_13 rfl (lv_at hl 1 rfl) ?_
  refine lv_ifnull hx hb dX4_link_14 ?_
  refine lv_aload hx hb dX4_link_17 (lv_at hl 0 rfl) ?_
  refine lv_ifnonnull (tgt := 29) hx hb dX4_link_19 (by decide) ?_
  refine lv_aload_n hx hb dX4_link_29 rfl (lv_at hl 2 rfl) ?_
  refine hr_get S hE hW h0 inX4 (C := RX4) (T := TX4) (N := 9) rfl 5 (by decide) q_f_4_63 rfl dX4_link_30 ?_
  refine lv_sipush (v := 400) hx hb dX4_link_33 (by decide) ?_
  refine lv_icmp_lt (tgt := 46) hx hb dX4_link_36 (by decide) (fun _ => ?_) (fun q => absurd (show nI L.1 < 400 from nI_lt (b := 400) hm4 (by omega)) q)
  refine lv_aload_n hx hb dX4_link_46 rfl (lv_at hl 2 rfl) ?_
  refine lv_iconst (v := 0) hx hb dX4_link_47 (by decide) ?_
  refine hr_put S hE hW hS h0 inX4 (C := RX4) (T := TX4) (N := 9) tyX4_ok nmX4 rfl 8 (by decide) q_f_4_32 rfl rfl rfl (Nat.le_of_ble_eq_true rfl) dX4_link_48 (fun H locs ct_1 hW hk_2 hg_3 hz hS => ?_)
  have hsz := hz.trans hsz
  have h_4 := (hg_3 1 (by decide)).trans h1
  have h_5 := (hg_3 2 (by decide)).trans h2
  have h_6 := (hg_3 3 (by decide)).trans h3
  have h_7 := (hg_3 4 (by decide)).trans h4
  have h_8 := (hg_3 5 (by decide)).trans h5
  have h_9 := (hg_3 6 (by decide)).trans h6
  have h_10 := (hg_3 7 (by decide)).trans h7
  have h_11 := (hg_3 (100 + 2 * i) (by omega)).trans hd_i
  have h_12 := (hg_3 (100 + 2 * j) (by omega)).trans hd_j
  have h_13 : ct_1 0 = some (.inr (4, [.ref (ad 1), .ref (ad 2), .ref (ad 6), .ref (ad 7), .int (nI n), .int (nI L.1), .int K.2.1, .int K.2.2, .int 0])) := hk_2
  refine lv_aload_n hx hb dX4_link_51 rfl (lv_at hl 1 rfl) ?_
  refine hr_new S hE hW hS (101 + 2 * L.1) (hadk.trans hsz.symm) (hw_z hW h_13) inX2 (ci := 2) (C := RX2) (T := TX2) (N := 2) tyX2_ok rfl q_cl_4_66 q_ia_2 q_in_2 (fs := [.null, .null]) (fun j hj => by rcases (show j = 0 ∨ j = 1 by omega) with rfl | rfl <;> rfl) (Nat.le_of_ble_eq_true rfl) (Nat.le_of_ble_eq_true rfl) dX4_link_52 (fun H ct_14 hW hk_15 hg_16 hz hS => ?_)
  have hsz := hz.trans (congrArg (· + 1) hsz)
  have h_17 := (hg_16 1 (by omega)).trans h_4
  have h_18 := (hg_16 2 (by omega)).trans h_5
  have h_19 := (hg_16 3 (by omega)).trans h_6
  have h_20 := (hg_16 4 (by omega)).trans h_7
  have h_21 := (hg_16 5 (by omega)).trans h_8
  have h_22 := (hg_16 6 (by omega)).trans h_9
  have h_23 := (hg_16 7 (by omega)).trans h_10
  have h_24 := (hg_16 (100 + 2 * i) (by omega)).trans h_11
  have h_25 := (hg_16 (100 + 2 * j) (by omega)).trans h_12
  have h_26 := (hg_16 0 (by omega)).trans h_13
  have h_27 : ct_14 (101 + 2 * L.1) = some (.inr (2, [.null, .null])) := hk_15
  refine lv_dup hx hb dX4_link_55 rfl ?_
  refine lv_aload hx hb dX4_link_56 (lv_at hl 0 rfl) ?_
  refine hc_zv (va_runIN (As := [.ref (ad (100 + 2 * j))]) (rest := [.ref (ad (101 + 2 * L.1)), .ref (ad (100 + 2 * i))]) S (c_X2_init l G ad _ (k := 101 + 2 * L.1) (j := 100 + 2 * j) h_27) ⟨va_cnB 1 hts (gWS q_co_X2_init) rfl rfl rfl (hE.nest 24 rfl) (hts _ q_in_2) (by decide +kernel) ⟨Nat.le_of_ble_eq_true rfl, Nat.le_of_ble_eq_true rfl⟩, rfl, hts _ q_im_X2_init⟩ (hPreSz hE hS hW hsz) rfl rfl hl.1 rfl (lv_room (Nat.le_of_ble_eq_true rfl)) dX4_link_58 ⟨Nat.le_of_ble_eq_true rfl, Nat.le_of_ble_eq_true rfl⟩) hS (fun ct_28 H locs hp hW hsz hS => ?_)
  obtain ⟨h_29, hg_30⟩ := hp
  have h_31 := (hg_30 1 (by omega)).trans h_17
  have h_32 := (hg_30 2 (by omega)).trans h_18
  have h_33 := (hg_30 3 (by omega)).trans h_19
  have h_34 := (hg_30 4 (by omega)).trans h_20
  have h_35 := (hg_30 5 (by omega)).trans h_21
  have h_36 := (hg_30 6 (by omega)).trans h_22
  have h_37 := (hg_30 7 (by omega)).trans h_23
  have h_38 := (hg_30 (100 + 2 * i) (by omega)).trans h_24
  have h_39 := (hg_30 (100 + 2 * j) (by omega)).trans h_25
  have h_40 := (hg_30 0 (by omega)).trans h_26
  refine hc_v (va_runVN (As := [.ref (ad (101 + 2 * L.1))]) (rest := []) S (c_X0_addLink_n l G ad _ (k := 100 + 2 * i) (z := 101 + 2 * L.1) h_38) ⟨va_cnB 1 hts (gWS q_co_X0_addLink) rfl rfl rfl (hE.nest 25 rfl) (hts _ q_in_0) (by decide +kernel) ⟨Nat.le_of_ble_eq_true rfl, Nat.le_of_ble_eq_true rfl⟩, hts _ q_im_X0_addLink, hts _ q_se_X0_addLink⟩ (hPreVw hE hS (hrecv hE hW h_38 (q := (RX0, TX0, 12)) rfl) hW) rfl rfl hl.1 rfl (lv_room (Nat.le_of_ble_eq_true rfl)) dX4_link_61 ⟨Nat.le_of_ble_eq_true rfl, Nat.le_of_ble_eq_true rfl⟩) hS (fun ct_41 H locs hp hW hS => ?_)
  obtain ⟨h_42, hg_44⟩ := hp
  have h_45 := (hg_44 (101 + 2 * L.1) (by omega)).trans h_29
  have h_46 := (hg_44 1 (by omega)).trans h_31
  have h_47 := (hg_44 2 (by omega)).trans h_32
  have h_48 := (hg_44 3 (by omega)).trans h_33
  have h_49 := (hg_44 4 (by omega)).trans h_34
  have h_50 := (hg_44 5 (by omega)).trans h_35
  have h_51 := (hg_44 6 (by omega)).trans h_36
  have h_52 := (hg_44 7 (by omega)).trans h_37
  have h_53 := (hg_44 (100 + 2 * j) (by omega)).trans h_39
  have h_54 := (hg_44 0 (by omega)).trans h_40
  refine lv_aload hx hb dX4_link_64 (lv_at hl 0 rfl) ?_
  refine lv_dup hx hb dX4_link_66 rfl ?_
  refine hr_getN S hE hW h_53 inX0 (C := RX0) (T := TX0) (N := 12) rfl 8 (by decide) (hE.nest 2 rfl) rfl dX4_link_67 ?_
  refine lv_iconst (v := 1) hx hb dX4_link_70 (by decide) ?_
  refine lv_iadd hx hb dX4_link_71 ?_
  refine hr_putN S hE hW hS h_53 inX0 (C := RX0) (T := TX0) (N := 12) tyX0_ok nmX0 rfl 8 (by decide) (hE.nest 2 rfl) rfl rfl rfl (Nat.le_of_ble_eq_true rfl) dX4_link_72 (fun H locs ct_55 hW hk_56 hg_57 hz hS => ?_)
  have h_58 := (hg_57 (100 + 2 * i) (by omega)).trans h_42
  have h_59 := (hg_57 (101 + 2 * L.1) (by omega)).trans h_45
  have h_60 := (hg_57 1 (by omega)).trans h_46
  have h_61 := (hg_57 2 (by omega)).trans h_47
  have h_62 := (hg_57 3 (by omega)).trans h_48
  have h_63 := (hg_57 4 (by omega)).trans h_49
  have h_64 := (hg_57 5 (by omega)).trans h_50
  have h_65 := (hg_57 6 (by omega)).trans h_51
  have h_66 := (hg_57 7 (by omega)).trans h_52
  have h_67 := (hg_57 0 (by omega)).trans h_54
  have h_68 : ct_55 (100 + 2 * j) = some (.inr (0, [.ref (ad 1), .ref (ad 2), .int (ty j), .int (A.1 j), .int (A.2.1 j), va_rf (lkF ad (geL L.2.1 j L.1 0)), va_rf (lkF ad (lstL L.2.1 j L.1)), .int (nI (cntL L.2.1 j L.1)), .int ((nI (cntL L.2.2 j L.1)) + 1), .int (T.1 j), .int (T.2.1 j), .int (T.2.2 j)])) := hk_56
  refine lv_aload_n hx hb dX4_link_75 rfl (lv_at hl 2 rfl) ?_
  refine hr_get S hE hW h_67 inX4 (C := RX4) (T := TX4) (N := 9) rfl 5 (by decide) q_f_4_63 rfl dX4_link_76 ?_
  refine lv_istore (lv' := [(5, .int (nI L.1)), (4, .ref (ad (100 + 2 * j))), (3, .ref (ad (100 + 2 * i))), (0, .ref (ad 0)), (1, .int (nI i)), (2, .int (nI j))]) hx hb dX4_link_79 hl (by decide) rfl (fun ls hl => ?_)
  refine lv_aload_n hx hb dX4_link_81 rfl (lv_at hl 3 rfl) ?_
  refine lv_dup hx hb dX4_link_82 rfl ?_
  refine hr_get S hE hW h_67 inX4 (C := RX4) (T := TX4) (N := 9) rfl 5 (by decide) q_f_4_63 rfl dX4_link_83 ?_
  refine lv_iconst (v := 1) hx hb dX4_link_86 (by decide) ?_
  refine lv_iadd hx hb dX4_link_87 ?_
  rw [nI_1]
  refine hr_put S hE hW hS h_67 inX4 (C := RX4) (T := TX4) (N := 9) tyX4_ok nmX4 rfl 5 (by decide) q_f_4_63 rfl rfl rfl (Nat.le_of_ble_eq_true rfl) dX4_link_88 (fun H locs ct_69 hW hk_70 hg_71 hz hS => ?_)
  have h_72 := (hg_71 (100 + 2 * i) (by omega)).trans h_58
  have h_73 := (hg_71 (101 + 2 * L.1) (by omega)).trans h_59
  have h_74 := (hg_71 1 (by decide)).trans h_60
  have h_75 := (hg_71 2 (by decide)).trans h_61
  have h_76 := (hg_71 3 (by decide)).trans h_62
  have h_77 := (hg_71 4 (by decide)).trans h_63
  have h_78 := (hg_71 5 (by decide)).trans h_64
  have h_79 := (hg_71 6 (by decide)).trans h_65
  have h_80 := (hg_71 7 (by decide)).trans h_66
  have h_81 := (hg_71 (100 + 2 * j) (by omega)).trans h_68
  have h_82 : ct_69 0 = some (.inr (4, [.ref (ad 1), .ref (ad 2), .ref (ad 6), .ref (ad 7), .int (nI n), .int (nI (L.1 + 1)), .int K.2.1, .int K.2.2, .int 0])) := hk_70
  refine lv_iload hx hb dX4_link_91 (lv_at hl 0 rfl) ?_
  exact h_iret S hr hlk hS hW dX4_link_93 ⟨rfl, RC_link hR hi hj hm4 h_82
     (fun d _ hor => by
      rcases hor with e | e
      · subst e; exact (h_72.trans (congrArg (fun x => some (Sum.inr (0, x))) (DC_in hlo hij).symm))
      · subst e; exact (h_81.trans (congrArg (fun x => some (Sum.inr (0, x))) (DC_j hij).symm)))
     (fun x _ hor => by
      rcases hor with e | e
      · subst e; exact (by rw [nl_nxm, show (newL L i j).2.2 L.1 = j from va_up_self _ _ _]; exact h_73)
      · rw [hlo] at e; cases e)
     (fun z q0 qi qj qm qy => (fun j q0 q1 q2 q3 => (hg_71 j q0).trans ((hg_57 j q2).trans ((hg_44 j q1).trans ((hg_30 j q3).trans ((hg_16 j q3).trans (hg_3 j q0)))))) z q0 qi qj qm)⟩
set_option maxRecDepth 100000 in
set_option maxHeartbeats 4000000 in
theorem c_X4_link_ne (l : Launch) (G : hG) (ad : Nat → Nat) (ct : Nat → Option va_E) {n : Nat} {ty : Nat → Int32} {A : AS} {T : TS} {L : LS4} {K : KS} {st0 : Int32} (hR : RC G ad ct n ty A T L K st0) {N : Nat} {i : Nat} (hi : i < n) (hlo : lstL L.2.1 i L.1 = none) (hm4 : L.1 < 400) (hadk : ad (101 + 2 * L.1) = N)  : Met l yX4_link wzX4_link { frames := 2, cells := 1, slots := 2, locals := 41 } (hPz [.ref (ad 0), .int (nI i), .int (nI i)] G ad ct N) (hQi (fun r ct1 => r = nI L.1 ∧ RC G ad ct1 n ty A T (newL L i i) K 0) G ad) 1 2 (hA G.2.2.2) := by
  refine hMetz (by decide) (Nat.le_of_ble_eq_true rfl) (fun p e s m below meth c ls S hr hlk hin hE hW hsz hl => ?_)
  obtain ⟨hx, hb, hml, hown, hts⟩ := id S
  have hS : va_S (hA G.2.2.2) s.heap s.heap [] := va_S.rf
  have hl : lv_has ls 6 [(0, .ref (ad 0)), (1, .int (nI i)), (2, .int (nI i))] := hl
  obtain ⟨h0, h1, h2, h3, h4, h5, h6, h7, hdv, hlks, hn300, hm400, hft, hty⟩ := id hR
  have hd_i : ct (100 + 2 * i) = some (.inr (0, [.ref (ad 1), .ref (ad 2), .int (ty i), .int (A.1 i), .int (A.2.1 i), va_rf (lkF ad (geL L.2.1 i L.1 0)), .null, .int (nI (cntL L.2.1 i L.1)), .int (nI (cntL L.2.2 i L.1)), .int (T.1 i), .int (T.2.1 i), .int (T.2.2 i)])) := by
    rw [hdv i hi, DC, hlo]; rfl
  refine lv_aload_n hx hb dX4_link_0 rfl (lv_at hl 0 rfl) ?_
  refine lv_iload_n hx hb dX4_link_1 rfl (lv_at hl 1 rfl) ?_
  refine hc_rq (va_runV (As := [.int (nI i)]) (rest := []) S (c_X4_find l G _ hW h0 h6 (nI i)) (cwV 1 hts (gWSV q_l_4_42 q_im_X4_find q_se_X4_find q_in_4 q_co_X4_find) rfl rfl rfl (by decide +kernel) ⟨Nat.le_of_ble_eq_true rfl, Nat.le_of_ble_eq_true rfl⟩) (hPreVr hE hS (hrecv hE hW h0 (q := (RX4, TX4, 9)) rfl)) rfl rfl hl.1 rfl (lv_room (Nat.le_of_ble_eq_true rfl)) dX4_link_2 ⟨Nat.le_of_ble_eq_true rfl, Nat.le_of_ble_eq_true rfl⟩) hS (fun locs hS => ?_)
  rw [findF_ok hn300 hi, va_rf_s]
  refine lv_astore_n (lv' := [(3, .ref (ad (100 + 2 * i))), (0, .ref (ad 0)), (1, .int (nI i)), (2, .int (nI i))]) hx hb dX4_link_5 rfl hl (by decide) rfl (fun ls hl => ?_)
  refine lv_aload_n hx hb dX4_link_6 rfl (lv_at hl 1 rfl) ?_
  refine lv_iload_n hx hb dX4_link_7 rfl (lv_at hl 3 rfl) ?_
  refine hc_rq (va_runV (As := [.int (nI i)]) (rest := []) S (c_X4_find l G _ hW h0 h6 (nI i)) (cwV 1 hts (gWSV q_l_4_42 q_im_X4_find q_se_X4_find q_in_4 q_co_X4_find) rfl rfl rfl (by decide +kernel) ⟨Nat.le_of_ble_eq_true rfl, Nat.le_of_ble_eq_true rfl⟩) (hPreVr hE hS (hrecv hE hW h0 (q := (RX4, TX4, 9)) rfl)) rfl rfl hl.1 rfl (lv_room (Nat.le_of_ble_eq_true rfl)) dX4_link_8 ⟨Nat.le_of_ble_eq_true rfl, Nat.le_of_ble_eq_true rfl⟩) hS (fun locs hS => ?_)
  rw [findF_ok hn300 hi, va_rf_s]
  refine lv_astore (lv' := [(4, .ref (ad (100 + 2 * i))), (3, .ref (ad (100 + 2 * i))), (0, .ref (ad 0)), (1, .int (nI i)), (2, .int (nI i))]) hx hb dX4_link_11 hl (by decide) rfl (fun ls hl => ?_)
  refine lv_aload_n hx hb dX4_link_13 rfl (lv_at hl 1 rfl) ?_
  refine lv_ifnull hx hb dX4_link_14 ?_
  refine lv_aload hx hb dX4_link_17 (lv_at hl 0 rfl) ?_
  refine lv_ifnonnull (tgt := 29) hx hb dX4_link_19 (by decide) ?_
  refine lv_aload_n hx hb dX4_link_29 rfl (lv_at hl 2 rfl) ?_
  refine hr_get S hE hW h0 inX4 (C := RX4) (T := TX4) (N := 9) rfl 5 (by decide) q_f_4_63 rfl dX4_link_30 ?_
  refine lv_sipush (v := 400) hx hb dX4_link_33 (by decide) ?_
  refine lv_icmp_lt (tgt := 46) hx hb dX4_link_36 (by decide) (fun _ => ?_) (fun q => absurd (show nI L.1 < 400 from nI_lt (b := 400) hm4 (by omega)) q)
  refine lv_aload_n hx hb dX4_link_46 rfl (lv_at hl 2 rfl) ?_
  refine lv_iconst (v := 0) hx hb dX4_link_47 (by decide) ?_
  refine hr_put S hE hW hS h0 inX4 (C := RX4) (T := TX4) (N := 9) tyX4_ok nmX4 rfl 8 (by decide) q_f_4_32 rfl rfl rfl (Nat.le_of_ble_eq_true rfl) dX4_link_48 (fun H locs ct_1 hW hk_2 hg_3 hz hS => ?_)
  have hsz := hz.trans hsz
  have h_4 := (hg_3 1 (by decide)).trans h1
  have h_5 := (hg_3 2 (by decide)).trans h2
  have h_6 := (hg_3 3 (by decide)).trans h3
  have h_7 := (hg_3 4 (by decide)).trans h4
  have h_8 := (hg_3 5 (by decide)).trans h5
  have h_9 := (hg_3 6 (by decide)).trans h6
  have h_10 := (hg_3 7 (by decide)).trans h7
  have h_11 := (hg_3 (100 + 2 * i) (by omega)).trans hd_i
  have h_12 : ct_1 0 = some (.inr (4, [.ref (ad 1), .ref (ad 2), .ref (ad 6), .ref (ad 7), .int (nI n), .int (nI L.1), .int K.2.1, .int K.2.2, .int 0])) := hk_2
  refine lv_aload_n hx hb dX4_link_51 rfl (lv_at hl 1 rfl) ?_
  refine hr_new S hE hW hS (101 + 2 * L.1) (hadk.trans hsz.symm) (hw_z hW h_12) inX2 (ci := 2) (C := RX2) (T := TX2) (N := 2) tyX2_ok rfl q_cl_4_66 q_ia_2 q_in_2 (fs := [.null, .null]) (fun j hj => by rcases (show j = 0 ∨ j = 1 by omega) with rfl | rfl <;> rfl) (Nat.le_of_ble_eq_true rfl) (Nat.le_of_ble_eq_true rfl) dX4_link_52 (fun H ct_13 hW hk_14 hg_15 hz hS => ?_)
  have hsz := hz.trans (congrArg (· + 1) hsz)
  have h_16 := (hg_15 1 (by omega)).trans h_4
  have h_17 := (hg_15 2 (by omega)).trans h_5
  have h_18 := (hg_15 3 (by omega)).trans h_6
  have h_19 := (hg_15 4 (by omega)).trans h_7
  have h_20 := (hg_15 5 (by omega)).trans h_8
  have h_21 := (hg_15 6 (by omega)).trans h_9
  have h_22 := (hg_15 7 (by omega)).trans h_10
  have h_23 := (hg_15 (100 + 2 * i) (by omega)).trans h_11
  have h_24 := (hg_15 0 (by omega)).trans h_12
  have h_25 : ct_13 (101 + 2 * L.1) = some (.inr (2, [.null, .null])) := hk_14
  refine lv_dup hx hb dX4_link_55 rfl ?_
  refine lv_aload hx hb dX4_link_56 (lv_at hl 0 rfl) ?_
  refine hc_zv (va_runIN (As := [.ref (ad (100 + 2 * i))]) (rest := [.ref (ad (101 + 2 * L.1)), .ref (ad (100 + 2 * i))]) S (c_X2_init l G ad _ (k := 101 + 2 * L.1) (j := 100 + 2 * i) h_25) ⟨va_cnB 1 hts (gWS q_co_X2_init) rfl rfl rfl (hE.nest 24 rfl) (hts _ q_in_2) (by decide +kernel) ⟨Nat.le_of_ble_eq_true rfl, Nat.le_of_ble_eq_true rfl⟩, rfl, hts _ q_im_X2_init⟩ (hPreSz hE hS hW hsz) rfl rfl hl.1 rfl (lv_room (Nat.le_of_ble_eq_true rfl)) dX4_link_58 ⟨Nat.le_of_ble_eq_true rfl, Nat.le_of_ble_eq_true rfl⟩) hS (fun ct_26 H locs hp hW hsz hS => ?_)
  obtain ⟨h_27, hg_28⟩ := hp
  have h_29 := (hg_28 1 (by omega)).trans h_16
  have h_30 := (hg_28 2 (by omega)).trans h_17
  have h_31 := (hg_28 3 (by omega)).trans h_18
  have h_32 := (hg_28 4 (by omega)).trans h_19
  have h_33 := (hg_28 5 (by omega)).trans h_20
  have h_34 := (hg_28 6 (by omega)).trans h_21
  have h_35 := (hg_28 7 (by omega)).trans h_22
  have h_36 := (hg_28 (100 + 2 * i) (by omega)).trans h_23
  have h_37 := (hg_28 0 (by omega)).trans h_24
  refine hc_v (va_runVN (As := [.ref (ad (101 + 2 * L.1))]) (rest := []) S (c_X0_addLink_n l G ad _ (k := 100 + 2 * i) (z := 101 + 2 * L.1) h_36) ⟨va_cnB 1 hts (gWS q_co_X0_addLink) rfl rfl rfl (hE.nest 25 rfl) (hts _ q_in_0) (by decide +kernel) ⟨Nat.le_of_ble_eq_true rfl, Nat.le_of_ble_eq_true rfl⟩, hts _ q_im_X0_addLink, hts _ q_se_X0_addLink⟩ (hPreVw hE hS (hrecv hE hW h_36 (q := (RX0, TX0, 12)) rfl) hW) rfl rfl hl.1 rfl (lv_room (Nat.le_of_ble_eq_true rfl)) dX4_link_61 ⟨Nat.le_of_ble_eq_true rfl, Nat.le_of_ble_eq_true rfl⟩) hS (fun ct_38 H locs hp hW hS => ?_)
  obtain ⟨h_39, hg_41⟩ := hp
  have h_42 := (hg_41 (101 + 2 * L.1) (by omega)).trans h_27
  have h_43 := (hg_41 1 (by omega)).trans h_29
  have h_44 := (hg_41 2 (by omega)).trans h_30
  have h_45 := (hg_41 3 (by omega)).trans h_31
  have h_46 := (hg_41 4 (by omega)).trans h_32
  have h_47 := (hg_41 5 (by omega)).trans h_33
  have h_48 := (hg_41 6 (by omega)).trans h_34
  have h_49 := (hg_41 7 (by omega)).trans h_35
  have h_50 := (hg_41 0 (by omega)).trans h_37
  refine lv_aload hx hb dX4_link_64 (lv_at hl 0 rfl) ?_
  refine lv_dup hx hb dX4_link_66 rfl ?_
  refine hr_getN S hE hW h_39 inX0 (C := RX0) (T := TX0) (N := 12) rfl 8 (by decide) (hE.nest 2 rfl) rfl dX4_link_67 ?_
  refine lv_iconst (v := 1) hx hb dX4_link_70 (by decide) ?_
  refine lv_iadd hx hb dX4_link_71 ?_
  refine hr_putN S hE hW hS h_39 inX0 (C := RX0) (T := TX0) (N := 12) tyX0_ok nmX0 rfl 8 (by decide) (hE.nest 2 rfl) rfl rfl rfl (Nat.le_of_ble_eq_true rfl) dX4_link_72 (fun H locs ct_51 hW hk_52 hg_53 hz hS => ?_)
  have h_54 := (hg_53 (101 + 2 * L.1) (by omega)).trans h_42
  have h_55 := (hg_53 1 (by omega)).trans h_43
  have h_56 := (hg_53 2 (by omega)).trans h_44
  have h_57 := (hg_53 3 (by omega)).trans h_45
  have h_58 := (hg_53 4 (by omega)).trans h_46
  have h_59 := (hg_53 5 (by omega)).trans h_47
  have h_60 := (hg_53 6 (by omega)).trans h_48
  have h_61 := (hg_53 7 (by omega)).trans h_49
  have h_62 := (hg_53 0 (by omega)).trans h_50
  have h_63 : ct_51 (100 + 2 * i) = some (.inr (0, [.ref (ad 1), .ref (ad 2), .int (ty i), .int (A.1 i), .int (A.2.1 i), .ref (ad (101 + 2 * L.1)), .ref (ad (101 + 2 * L.1)), .int ((nI (cntL L.2.1 i L.1)) + 1), .int ((nI (cntL L.2.2 i L.1)) + 1), .int (T.1 i), .int (T.2.1 i), .int (T.2.2 i)])) := hk_52
  refine lv_aload_n hx hb dX4_link_75 rfl (lv_at hl 2 rfl) ?_
  refine hr_get S hE hW h_62 inX4 (C := RX4) (T := TX4) (N := 9) rfl 5 (by decide) q_f_4_63 rfl dX4_link_76 ?_
  refine lv_istore (lv' := [(5, .int (nI L.1)), (4, .ref (ad (100 + 2 * i))), (3, .ref (ad (100 + 2 * i))), (0, .ref (ad 0)), (1, .int (nI i)), (2, .int (nI i))]) hx hb dX4_link_79 hl (by decide) rfl (fun ls hl => ?_)
  refine lv_aload_n hx hb dX4_link_81 rfl (lv_at hl 3 rfl) ?_
  refine lv_dup hx hb dX4_link_82 rfl ?_
  refine hr_get S hE hW h_62 inX4 (C := RX4) (T := TX4) (N := 9) rfl 5 (by decide) q_f_4_63 rfl dX4_link_83 ?_
  refine lv_iconst (v := 1) hx hb dX4_link_86 (by decide) ?_
  refine lv_iadd hx hb dX4_link_87 ?_
  rw [nI_1]
  refine hr_put S hE hW hS h_62 inX4 (C := RX4) (T := TX4) (N := 9) tyX4_ok nmX4 rfl 5 (by decide) q_f_4_63 rfl rfl rfl (Nat.le_of_ble_eq_true rfl) dX4_link_88 (fun H locs ct_64 hW hk_65 hg_66 hz hS => ?_)
  have h_67 := (hg_66 (101 + 2 * L.1) (by omega)).trans h_54
  have h_68 := (hg_66 1 (by decide)).trans h_55
  have h_69 := (hg_66 2 (by decide)).trans h_56
  have h_70 := (hg_66 3 (by decide)).trans h_57
  have h_71 := (hg_66 4 (by decide)).trans h_58
  have h_72 := (hg_66 5 (by decide)).trans h_59
  have h_73 := (hg_66 6 (by decide)).trans h_60
  have h_74 := (hg_66 7 (by decide)).trans h_61
  have h_75 := (hg_66 (100 + 2 * i) (by omega)).trans h_63
  have h_76 : ct_64 0 = some (.inr (4, [.ref (ad 1), .ref (ad 2), .ref (ad 6), .ref (ad 7), .int (nI n), .int (nI (L.1 + 1)), .int K.2.1, .int K.2.2, .int 0])) := hk_65
  refine lv_iload hx hb dX4_link_91 (lv_at hl 0 rfl) ?_
  exact h_iret S hr hlk hS hW dX4_link_93 ⟨rfl, RC_link hR hi hi hm4 h_76
     (fun d _ hor => by
      rcases hor with e | e
      · subst e; exact (h_75.trans (congrArg (fun x => some (Sum.inr (0, x))) (DC_en hlo).symm))
      · subst e; exact (h_75.trans (congrArg (fun x => some (Sum.inr (0, x))) (DC_en hlo).symm)))
     (fun x _ hor => by
      rcases hor with e | e
      · subst e; exact (by rw [nl_nxm, show (newL L i i).2.2 L.1 = i from va_up_self _ _ _]; exact h_67)
      · rw [hlo] at e; cases e)
     (fun z q0 qi qi2 qm qy => (fun j q0 q1 q2 => (hg_66 j q0).trans ((hg_53 j q1).trans ((hg_41 j q1).trans ((hg_28 j q2).trans ((hg_15 j q2).trans (hg_3 j q0)))))) z q0 qi qm)⟩
set_option maxRecDepth 100000 in
set_option maxHeartbeats 4000000 in
theorem c_X4_link_sd (l : Launch) (G : hG) (ad : Nat → Nat) (ct : Nat → Option va_E) {n : Nat} {ty : Nat → Int32} {A : AS} {T : TS} {L : LS4} {K : KS} {st0 : Int32} (hR : RC G ad ct n ty A T L K st0) {N : Nat} {i : Nat} (hi : i < n) {j : Nat} (hj : j < n) (hij : i ≠ j) {y : Nat} (hlo : lstL L.2.1 i L.1 = some y) (hm4 : L.1 < 400) (hadk : ad (101 + 2 * L.1) = N)  : Met l yX4_link wzX4_link { frames := 2, cells := 1, slots := 2, locals := 41 } (hPz [.ref (ad 0), .int (nI i), .int (nI j)] G ad ct N) (hQi (fun r ct1 => r = nI L.1 ∧ RC G ad ct1 n ty A T (newL L i j) K 0) G ad) 1 2 (hA G.2.2.2) := by
  refine hMetz (by decide) (Nat.le_of_ble_eq_true rfl) (fun p e s m below meth c ls S hr hlk hin hE hW hsz hl => ?_)
  obtain ⟨hx, hb, hml, hown, hts⟩ := id S
  have hS : va_S (hA G.2.2.2) s.heap s.heap [] := va_S.rf
  have hl : lv_has ls 6 [(0, .ref (ad 0)), (1, .int (nI i)), (2, .int (nI j))] := hl
  obtain ⟨h0, h1, h2, h3, h4, h5, h6, h7, hdv, hlks, hn300, hm400, hft, hty⟩ := id hR
  have hd_i : ct (100 + 2 * i) = some (.inr (0, [.ref (ad 1), .ref (ad 2), .int (ty i), .int (A.1 i), .int (A.2.1 i), va_rf (lkF ad (geL L.2.1 i L.1 0)), .ref (ad (101 + 2 * y)), .int (nI (cntL L.2.1 i L.1)), .int (nI (cntL L.2.2 i L.1)), .int (T.1 i), .int (T.2.1 i), .int (T.2.2 i)])) := by
    rw [hdv i hi, DC, hlo]; rfl
  have hd_j := hdv j hj
  have hy := (lstL_some _ _ hlo).1
  have hl_y := hlks y hy
  refine lv_aload_n hx hb dX4_link_0 rfl (lv_at hl 0 rfl) ?_
  refine lv_iload_n hx hb dX4_link_1 rfl (lv_at hl 1 rfl) ?_
  refine hc_rq (va_runV (As := [.int (nI i)]) (rest := []) S (c_X4_find l G _ hW h0 h6 (nI i)) (cwV 1 hts (gWSV q_l_4_42 q_im_X4_find q_se_X4_find q_in_4 q_co_X4_find) rfl rfl rfl (by decide +kernel) ⟨Nat.le_of_ble_eq_true rfl, Nat.le_of_ble_eq_true rfl⟩) (hPreVr hE hS (hrecv hE hW h0 (q := (RX4, TX4, 9)) rfl)) rfl rfl hl.1 rfl (lv_room (Nat.le_of_ble_eq_true rfl)) dX4_link_2 ⟨Nat.le_of_ble_eq_true rfl, Nat.le_of_ble_eq_true rfl⟩) hS (fun locs hS => ?_)
  rw [findF_ok hn300 hi, va_rf_s]
  refine lv_astore_n (lv' := [(3, .ref (ad (100 + 2 * i))), (0, .ref (ad 0)), (1, .int (nI i)), (2, .int (nI j))]) hx hb dX4_link_5 rfl hl (by decide) rfl (fun ls hl => ?_)
  refine lv_aload_n hx hb dX4_link_6 rfl (lv_at hl 1 rfl) ?_
  refine lv_iload_n hx hb dX4_link_7 rfl (lv_at hl 3 rfl) ?_
  refine hc_rq (va_runV (As := [.int (nI j)]) (rest := []) S (c_X4_find l G _ hW h0 h6 (nI j)) (cwV 1 hts (gWSV q_l_4_42 q_im_X4_find q_se_X4_find q_in_4 q_co_X4_find) rfl rfl rfl (by decide +kernel) ⟨Nat.le_of_ble_eq_true rfl, Nat.le_of_ble_eq_true rfl⟩) (hPreVr hE hS (hrecv hE hW h0 (q := (RX4, TX4, 9)) rfl)) rfl rfl hl.1 rfl (lv_room (Nat.le_of_ble_eq_true rfl)) dX4_link_8 ⟨Nat.le_of_ble_eq_true rfl, Nat.le_of_ble_eq_true rfl⟩) hS (fun locs hS => ?_)
  rw [findF_ok hn300 hj, va_rf_s]
  refine lv_astore (lv' := [(4, .ref (ad (100 + 2 * j))), (3, .ref (ad (100 + 2 * i))), (0, .ref (ad 0)), (1, .int (nI i)), (2, .int (nI j))]) hx hb dX4_link_11 hl (by decide) rfl (fun ls hl => ?_)
  refine lv_aload_n hx hb dX4_link_13 rfl (lv_at hl 1 rfl) ?_
  refine lv_ifnull hx hb dX4_link_14 ?_
  refine lv_aload hx hb dX4_link_17 (lv_at hl 0 rfl) ?_
  refine lv_ifnonnull (tgt := 29) hx hb dX4_link_19 (by decide) ?_
  refine lv_aload_n hx hb dX4_link_29 rfl (lv_at hl 2 rfl) ?_
  refine hr_get S hE hW h0 inX4 (C := RX4) (T := TX4) (N := 9) rfl 5 (by decide) q_f_4_63 rfl dX4_link_30 ?_
  refine lv_sipush (v := 400) hx hb dX4_link_33 (by decide) ?_
  refine lv_icmp_lt (tgt := 46) hx hb dX4_link_36 (by decide) (fun _ => ?_) (fun q => absurd (show nI L.1 < 400 from nI_lt (b := 400) hm4 (by omega)) q)
  refine lv_aload_n hx hb dX4_link_46 rfl (lv_at hl 2 rfl) ?_
  refine lv_iconst (v := 0) hx hb dX4_link_47 (by decide) ?_
  refine hr_put S hE hW hS h0 inX4 (C := RX4) (T := TX4) (N := 9) tyX4_ok nmX4 rfl 8 (by decide) q_f_4_32 rfl rfl rfl (Nat.le_of_ble_eq_true rfl) dX4_link_48 (fun H locs ct_1 hW hk_2 hg_3 hz hS => ?_)
  have hsz := hz.trans hsz
  have h_4 := (hg_3 1 (by decide)).trans h1
  have h_5 := (hg_3 2 (by decide)).trans h2
  have h_6 := (hg_3 3 (by decide)).trans h3
  have h_7 := (hg_3 4 (by decide)).trans h4
  have h_8 := (hg_3 5 (by decide)).trans h5
  have h_9 := (hg_3 6 (by decide)).trans h6
  have h_10 := (hg_3 7 (by decide)).trans h7
  have h_11 := (hg_3 (100 + 2 * i) (by omega)).trans hd_i
  have h_12 := (hg_3 (100 + 2 * j) (by omega)).trans hd_j
  have h_13 := (hg_3 (101 + 2 * y) (by omega)).trans hl_y
  have h_14 : ct_1 0 = some (.inr (4, [.ref (ad 1), .ref (ad 2), .ref (ad 6), .ref (ad 7), .int (nI n), .int (nI L.1), .int K.2.1, .int K.2.2, .int 0])) := hk_2
  refine lv_aload_n hx hb dX4_link_51 rfl (lv_at hl 1 rfl) ?_
  refine hr_new S hE hW hS (101 + 2 * L.1) (hadk.trans hsz.symm) (hw_z hW h_14) inX2 (ci := 2) (C := RX2) (T := TX2) (N := 2) tyX2_ok rfl q_cl_4_66 q_ia_2 q_in_2 (fs := [.null, .null]) (fun j hj => by rcases (show j = 0 ∨ j = 1 by omega) with rfl | rfl <;> rfl) (Nat.le_of_ble_eq_true rfl) (Nat.le_of_ble_eq_true rfl) dX4_link_52 (fun H ct_15 hW hk_16 hg_17 hz hS => ?_)
  have hsz := hz.trans (congrArg (· + 1) hsz)
  have h_18 := (hg_17 1 (by omega)).trans h_4
  have h_19 := (hg_17 2 (by omega)).trans h_5
  have h_20 := (hg_17 3 (by omega)).trans h_6
  have h_21 := (hg_17 4 (by omega)).trans h_7
  have h_22 := (hg_17 5 (by omega)).trans h_8
  have h_23 := (hg_17 6 (by omega)).trans h_9
  have h_24 := (hg_17 7 (by omega)).trans h_10
  have h_25 := (hg_17 (100 + 2 * i) (by omega)).trans h_11
  have h_26 := (hg_17 (100 + 2 * j) (by omega)).trans h_12
  have h_27 := (hg_17 (101 + 2 * y) (by omega)).trans h_13
  have h_28 := (hg_17 0 (by omega)).trans h_14
  have h_29 : ct_15 (101 + 2 * L.1) = some (.inr (2, [.null, .null])) := hk_16
  refine lv_dup hx hb dX4_link_55 rfl ?_
  refine lv_aload hx hb dX4_link_56 (lv_at hl 0 rfl) ?_
  refine hc_zv (va_runIN (As := [.ref (ad (100 + 2 * j))]) (rest := [.ref (ad (101 + 2 * L.1)), .ref (ad (100 + 2 * i))]) S (c_X2_init l G ad _ (k := 101 + 2 * L.1) (j := 100 + 2 * j) h_29) ⟨va_cnB 1 hts (gWS q_co_X2_init) rfl rfl rfl (hE.nest 24 rfl) (hts _ q_in_2) (by decide +kernel) ⟨Nat.le_of_ble_eq_true rfl, Nat.le_of_ble_eq_true rfl⟩, rfl, hts _ q_im_X2_init⟩ (hPreSz hE hS hW hsz) rfl rfl hl.1 rfl (lv_room (Nat.le_of_ble_eq_true rfl)) dX4_link_58 ⟨Nat.le_of_ble_eq_true rfl, Nat.le_of_ble_eq_true rfl⟩) hS (fun ct_30 H locs hp hW hsz hS => ?_)
  obtain ⟨h_31, hg_32⟩ := hp
  have h_33 := (hg_32 1 (by omega)).trans h_18
  have h_34 := (hg_32 2 (by omega)).trans h_19
  have h_35 := (hg_32 3 (by omega)).trans h_20
  have h_36 := (hg_32 4 (by omega)).trans h_21
  have h_37 := (hg_32 5 (by omega)).trans h_22
  have h_38 := (hg_32 6 (by omega)).trans h_23
  have h_39 := (hg_32 7 (by omega)).trans h_24
  have h_40 := (hg_32 (100 + 2 * i) (by omega)).trans h_25
  have h_41 := (hg_32 (100 + 2 * j) (by omega)).trans h_26
  have h_42 := (hg_32 (101 + 2 * y) (by omega)).trans h_27
  have h_43 := (hg_32 0 (by omega)).trans h_28
  refine hc_v (va_runVN (As := [.ref (ad (101 + 2 * L.1))]) (rest := []) S (c_X0_addLink_s l G ad _ (k := 100 + 2 * i) (z := 101 + 2 * L.1) (w := 101 + 2 * y) (by omega) h_40 h_42) ⟨va_cnB 1 hts (gWS q_co_X0_addLink) rfl rfl rfl (hE.nest 25 rfl) (hts _ q_in_0) (by decide +kernel) ⟨Nat.le_of_ble_eq_true rfl, Nat.le_of_ble_eq_true rfl⟩, hts _ q_im_X0_addLink, hts _ q_se_X0_addLink⟩ (hPreVw hE hS (hrecv hE hW h_40 (q := (RX0, TX0, 12)) rfl) hW) rfl rfl hl.1 rfl (lv_room (Nat.le_of_ble_eq_true rfl)) dX4_link_61 ⟨Nat.le_of_ble_eq_true rfl, Nat.le_of_ble_eq_true rfl⟩) hS (fun ct_44 H locs hp hW hS => ?_)
  obtain ⟨h_45, h_46, hg_47⟩ := hp
  have h_48 := (hg_47 (101 + 2 * L.1) (by omega) (by omega)).trans h_31
  have h_49 := (hg_47 1 (by omega) (by omega)).trans h_33
  have h_50 := (hg_47 2 (by omega) (by omega)).trans h_34
  have h_51 := (hg_47 3 (by omega) (by omega)).trans h_35
  have h_52 := (hg_47 4 (by omega) (by omega)).trans h_36
  have h_53 := (hg_47 5 (by omega) (by omega)).trans h_37
  have h_54 := (hg_47 6 (by omega) (by omega)).trans h_38
  have h_55 := (hg_47 7 (by omega) (by omega)).trans h_39
  have h_56 := (hg_47 (100 + 2 * j) (by omega) (by omega)).trans h_41
  have h_57 := (hg_47 0 (by omega) (by omega)).trans h_43
  refine lv_aload hx hb dX4_link_64 (lv_at hl 0 rfl) ?_
  refine lv_dup hx hb dX4_link_66 rfl ?_
  refine hr_getN S hE hW h_56 inX0 (C := RX0) (T := TX0) (N := 12) rfl 8 (by decide) (hE.nest 2 rfl) rfl dX4_link_67 ?_
  refine lv_iconst (v := 1) hx hb dX4_link_70 (by decide) ?_
  refine lv_iadd hx hb dX4_link_71 ?_
  refine hr_putN S hE hW hS h_56 inX0 (C := RX0) (T := TX0) (N := 12) tyX0_ok nmX0 rfl 8 (by decide) (hE.nest 2 rfl) rfl rfl rfl (Nat.le_of_ble_eq_true rfl) dX4_link_72 (fun H locs ct_58 hW hk_59 hg_60 hz hS => ?_)
  have h_61 := (hg_60 (100 + 2 * i) (by omega)).trans h_45
  have h_62 := (hg_60 (101 + 2 * y) (by omega)).trans h_46
  have h_63 := (hg_60 (101 + 2 * L.1) (by omega)).trans h_48
  have h_64 := (hg_60 1 (by omega)).trans h_49
  have h_65 := (hg_60 2 (by omega)).trans h_50
  have h_66 := (hg_60 3 (by omega)).trans h_51
  have h_67 := (hg_60 4 (by omega)).trans h_52
  have h_68 := (hg_60 5 (by omega)).trans h_53
  have h_69 := (hg_60 6 (by omega)).trans h_54
  have h_70 := (hg_60 7 (by omega)).trans h_55
  have h_71 := (hg_60 0 (by omega)).trans h_57
  have h_72 : ct_58 (100 + 2 * j) = some (.inr (0, [.ref (ad 1), .ref (ad 2), .int (ty j), .int (A.1 j), .int (A.2.1 j), va_rf (lkF ad (geL L.2.1 j L.1 0)), va_rf (lkF ad (lstL L.2.1 j L.1)), .int (nI (cntL L.2.1 j L.1)), .int ((nI (cntL L.2.2 j L.1)) + 1), .int (T.1 j), .int (T.2.1 j), .int (T.2.2 j)])) := hk_59
  refine lv_aload_n hx hb dX4_link_75 rfl (lv_at hl 2 rfl) ?_
  refine hr_get S hE hW h_71 inX4 (C := RX4) (T := TX4) (N := 9) rfl 5 (by decide) q_f_4_63 rfl dX4_link_76 ?_
  refine lv_istore (lv' := [(5, .int (nI L.1)), (4, .ref (ad (100 + 2 * j))), (3, .ref (ad (100 + 2 * i))), (0, .ref (ad 0)), (1, .int (nI i)), (2, .int (nI j))]) hx hb dX4_link_79 hl (by decide) rfl (fun ls hl => ?_)
  refine lv_aload_n hx hb dX4_link_81 rfl (lv_at hl 3 rfl) ?_
  refine lv_dup hx hb dX4_link_82 rfl ?_
  refine hr_get S hE hW h_71 inX4 (C := RX4) (T := TX4) (N := 9) rfl 5 (by decide) q_f_4_63 rfl dX4_link_83 ?_
  refine lv_iconst (v := 1) hx hb dX4_link_86 (by decide) ?_
  refine lv_iadd hx hb dX4_link_87 ?_
  rw [nI_1]
  refine hr_put S hE hW hS h_71 inX4 (C := RX4) (T := TX4) (N := 9) tyX4_ok nmX4 rfl 5 (by decide) q_f_4_63 rfl rfl rfl (Nat.le_of_ble_eq_true rfl) dX4_link_88 (fun H locs ct_73 hW hk_74 hg_75 hz hS => ?_)
  have h_76 := (hg_75 (100 + 2 * i) (by omega)).trans h_61
  have h_77 := (hg_75 (101 + 2 * y) (by omega)).trans h_62
  have h_78 := (hg_75 (101 + 2 * L.1) (by omega)).trans h_63
  have h_79 := (hg_75 1 (by decide)).trans h_64
  have h_80 := (hg_75 2 (by decide)).trans h_65
  have h_81 := (hg_75 3 (by decide)).trans h_66
  have h_82 := (hg_75 4 (by decide)).trans h_67
  have h_83 := (hg_75 5 (by decide)).trans h_68
  have h_84 := (hg_75 6 (by decide)).trans h_69
  have h_85 := (hg_75 7 (by decide)).trans h_70
  have h_86 := (hg_75 (100 + 2 * j) (by omega)).trans h_72
  have h_87 : ct_73 0 = some (.inr (4, [.ref (ad 1), .ref (ad 2), .ref (ad 6), .ref (ad 7), .int (nI n), .int (nI (L.1 + 1)), .int K.2.1, .int K.2.2, .int 0])) := hk_74
  refine lv_iload hx hb dX4_link_91 (lv_at hl 0 rfl) ?_
  exact h_iret S hr hlk hS hW dX4_link_93 ⟨rfl, RC_link hR hi hj hm4 h_87
     (fun d _ hor => by
      rcases hor with e | e
      · subst e; exact (h_76.trans (congrArg (fun x => some (Sum.inr (0, x))) (DC_is hlo hij).symm))
      · subst e; exact (h_86.trans (congrArg (fun x => some (Sum.inr (0, x))) (DC_j hij).symm)))
     (fun x _ hor => by
      rcases hor with e | e
      · subst e; exact (by rw [nl_nxm, show (newL L i j).2.2 L.1 = j from va_up_self _ _ _]; exact h_78)
      · have e2 : x = y := Option.some.inj (e.symm.trans hlo)
        rw [e2]; exact (by rw [nl_nxl hlo, show (newL L i j).2.2 y = L.2.2 y from up_lt hy]; exact h_77))
     (fun z q0 qi qj qm qy => (fun j q0 q1 q2 q3 q4 => (hg_75 j q0).trans ((hg_60 j q2).trans ((hg_47 j q1 q4).trans ((hg_32 j q3).trans ((hg_17 j q3).trans (hg_3 j q0)))))) z q0 qi qj qm (qy y hlo))⟩
set_option maxRecDepth 100000 in
set_option maxHeartbeats 4000000 in
theorem c_X4_link_se (l : Launch) (G : hG) (ad : Nat → Nat) (ct : Nat → Option va_E) {n : Nat} {ty : Nat → Int32} {A : AS} {T : TS} {L : LS4} {K : KS} {st0 : Int32} (hR : RC G ad ct n ty A T L K st0) {N : Nat} {i : Nat} (hi : i < n) {y : Nat} (hlo : lstL L.2.1 i L.1 = some y) (hm4 : L.1 < 400) (hadk : ad (101 + 2 * L.1) = N)  : Met l yX4_link wzX4_link { frames := 2, cells := 1, slots := 2, locals := 41 } (hPz [.ref (ad 0), .int (nI i), .int (nI i)] G ad ct N) (hQi (fun r ct1 => r = nI L.1 ∧ RC G ad ct1 n ty A T (newL L i i) K 0) G ad) 1 2 (hA G.2.2.2) := by
  refine hMetz (by decide) (Nat.le_of_ble_eq_true rfl) (fun p e s m below meth c ls S hr hlk hin hE hW hsz hl => ?_)
  obtain ⟨hx, hb, hml, hown, hts⟩ := id S
  have hS : va_S (hA G.2.2.2) s.heap s.heap [] := va_S.rf
  have hl : lv_has ls 6 [(0, .ref (ad 0)), (1, .int (nI i)), (2, .int (nI i))] := hl
  obtain ⟨h0, h1, h2, h3, h4, h5, h6, h7, hdv, hlks, hn300, hm400, hft, hty⟩ := id hR
  have hd_i : ct (100 + 2 * i) = some (.inr (0, [.ref (ad 1), .ref (ad 2), .int (ty i), .int (A.1 i), .int (A.2.1 i), va_rf (lkF ad (geL L.2.1 i L.1 0)), .ref (ad (101 + 2 * y)), .int (nI (cntL L.2.1 i L.1)), .int (nI (cntL L.2.2 i L.1)), .int (T.1 i), .int (T.2.1 i), .int (T.2.2 i)])) := by
    rw [hdv i hi, DC, hlo]; rfl
  have hy := (lstL_some _ _ hlo).1
  have hl_y := hlks y hy
  refine lv_aload_n hx hb dX4_link_0 rfl (lv_at hl 0 rfl) ?_
  refine lv_iload_n hx hb dX4_link_1 rfl (lv_at hl 1 rfl) ?_
  refine hc_rq (va_runV (As := [.int (nI i)]) (rest := []) S (c_X4_find l G _ hW h0 h6 (nI i)) (cwV 1 hts (gWSV q_l_4_42 q_im_X4_find q_se_X4_find q_in_4 q_co_X4_find) rfl rfl rfl (by decide +kernel) ⟨Nat.le_of_ble_eq_true rfl, Nat.le_of_ble_eq_true rfl⟩) (hPreVr hE hS (hrecv hE hW h0 (q := (RX4, TX4, 9)) rfl)) rfl rfl hl.1 rfl (lv_room (Nat.le_of_ble_eq_true rfl)) dX4_link_2 ⟨Nat.le_of_ble_eq_true rfl, Nat.le_of_ble_eq_true rfl⟩) hS (fun locs hS => ?_)
  rw [findF_ok hn300 hi, va_rf_s]
  refine lv_astore_n (lv' := [(3, .ref (ad (100 + 2 * i))), (0, .ref (ad 0)), (1, .int (nI i)), (2, .int (nI i))]) hx hb dX4_link_5 rfl hl (by decide) rfl (fun ls hl => ?_)
  refine lv_aload_n hx hb dX4_link_6 rfl (lv_at hl 1 rfl) ?_
  refine lv_iload_n hx hb dX4_link_7 rfl (lv_at hl 3 rfl) ?_
  refine hc_rq (va_runV (As := [.int (nI i)]) (rest := []) S (c_X4_find l G _ hW h0 h6 (nI i)) (cwV 1 hts (gWSV q_l_4_42 q_im_X4_find q_se_X4_find q_in_4 q_co_X4_find) rfl rfl rfl (by decide +kernel) ⟨Nat.le_of_ble_eq_true rfl, Nat.le_of_ble_eq_true rfl⟩) (hPreVr hE hS (hrecv hE hW h0 (q := (RX4, TX4, 9)) rfl)) rfl rfl hl.1 rfl (lv_room (Nat.le_of_ble_eq_true rfl)) dX4_link_8 ⟨Nat.le_of_ble_eq_true rfl, Nat.le_of_ble_eq_true rfl⟩) hS (fun locs hS => ?_)
  rw [findF_ok hn300 hi, va_rf_s]
  refine lv_astore (lv' := [(4, .ref (ad (100 + 2 * i))), (3, .ref (ad (100 + 2 * i))), (0, .ref (ad 0)), (1, .int (nI i)), (2, .int (nI i))]) hx hb dX4_link_11 hl (by decide) rfl (fun ls hl => ?_)
  refine lv_aload_n hx hb dX4_link_13 rfl (lv_at hl 1 rfl) ?_
  refine lv_ifnull hx hb dX4_link_14 ?_
  refine lv_aload hx hb dX4_link_17 (lv_at hl 0 rfl) ?_
  refine lv_ifnonnull (tgt := 29) hx hb dX4_link_19 (by decide) ?_
  refine lv_aload_n hx hb dX4_link_29 rfl (lv_at hl 2 rfl) ?_
  refine hr_get S hE hW h0 inX4 (C := RX4) (T := TX4) (N := 9) rfl 5 (by decide) q_f_4_63 rfl dX4_link_30 ?_
  refine lv_sipush (v := 400) hx hb dX4_link_33 (by decide) ?_
  refine lv_icmp_lt (tgt := 46) hx hb dX4_link_36 (by decide) (fun _ => ?_) (fun q => absurd (show nI L.1 < 400 from nI_lt (b := 400) hm4 (by omega)) q)
  refine lv_aload_n hx hb dX4_link_46 rfl (lv_at hl 2 rfl) ?_
  refine lv_iconst (v := 0) hx hb dX4_link_47 (by decide) ?_
  refine hr_put S hE hW hS h0 inX4 (C := RX4) (T := TX4) (N := 9) tyX4_ok nmX4 rfl 8 (by decide) q_f_4_32 rfl rfl rfl (Nat.le_of_ble_eq_true rfl) dX4_link_48 (fun H locs ct_1 hW hk_2 hg_3 hz hS => ?_)
  have hsz := hz.trans hsz
  have h_4 := (hg_3 1 (by decide)).trans h1
  have h_5 := (hg_3 2 (by decide)).trans h2
  have h_6 := (hg_3 3 (by decide)).trans h3
  have h_7 := (hg_3 4 (by decide)).trans h4
  have h_8 := (hg_3 5 (by decide)).trans h5
  have h_9 := (hg_3 6 (by decide)).trans h6
  have h_10 := (hg_3 7 (by decide)).trans h7
  have h_11 := (hg_3 (100 + 2 * i) (by omega)).trans hd_i
  have h_12 := (hg_3 (101 + 2 * y) (by omega)).trans hl_y
  have h_13 : ct_1 0 = some (.inr (4, [.ref (ad 1), .ref (ad 2), .ref (ad 6), .ref (ad 7), .int (nI n), .int (nI L.1), .int K.2.1, .int K.2.2, .int 0])) := hk_2
  refine lv_aload_n hx hb dX4_link_51 rfl (lv_at hl 1 rfl) ?_
  refine hr_new S hE hW hS (101 + 2 * L.1) (hadk.trans hsz.symm) (hw_z hW h_13) inX2 (ci := 2) (C := RX2) (T := TX2) (N := 2) tyX2_ok rfl q_cl_4_66 q_ia_2 q_in_2 (fs := [.null, .null]) (fun j hj => by rcases (show j = 0 ∨ j = 1 by omega) with rfl | rfl <;> rfl) (Nat.le_of_ble_eq_true rfl) (Nat.le_of_ble_eq_true rfl) dX4_link_52 (fun H ct_14 hW hk_15 hg_16 hz hS => ?_)
  have hsz := hz.trans (congrArg (· + 1) hsz)
  have h_17 := (hg_16 1 (by omega)).trans h_4
  have h_18 := (hg_16 2 (by omega)).trans h_5
  have h_19 := (hg_16 3 (by omega)).trans h_6
  have h_20 := (hg_16 4 (by omega)).trans h_7
  have h_21 := (hg_16 5 (by omega)).trans h_8
  have h_22 := (hg_16 6 (by omega)).trans h_9
  have h_23 := (hg_16 7 (by omega)).trans h_10
  have h_24 := (hg_16 (100 + 2 * i) (by omega)).trans h_11
  have h_25 := (hg_16 (101 + 2 * y) (by omega)).trans h_12
  have h_26 := (hg_16 0 (by omega)).trans h_13
  have h_27 : ct_14 (101 + 2 * L.1) = some (.inr (2, [.null, .null])) := hk_15
  refine lv_dup hx hb dX4_link_55 rfl ?_
  refine lv_aload hx hb dX4_link_56 (lv_at hl 0 rfl) ?_
  refine hc_zv (va_runIN (As := [.ref (ad (100 + 2 * i))]) (rest := [.ref (ad (101 + 2 * L.1)), .ref (ad (100 + 2 * i))]) S (c_X2_init l G ad _ (k := 101 + 2 * L.1) (j := 100 + 2 * i) h_27) ⟨va_cnB 1 hts (gWS q_co_X2_init) rfl rfl rfl (hE.nest 24 rfl) (hts _ q_in_2) (by decide +kernel) ⟨Nat.le_of_ble_eq_true rfl, Nat.le_of_ble_eq_true rfl⟩, rfl, hts _ q_im_X2_init⟩ (hPreSz hE hS hW hsz) rfl rfl hl.1 rfl (lv_room (Nat.le_of_ble_eq_true rfl)) dX4_link_58 ⟨Nat.le_of_ble_eq_true rfl, Nat.le_of_ble_eq_true rfl⟩) hS (fun ct_28 H locs hp hW hsz hS => ?_)
  obtain ⟨h_29, hg_30⟩ := hp
  have h_31 := (hg_30 1 (by omega)).trans h_17
  have h_32 := (hg_30 2 (by omega)).trans h_18
  have h_33 := (hg_30 3 (by omega)).trans h_19
  have h_34 := (hg_30 4 (by omega)).trans h_20
  have h_35 := (hg_30 5 (by omega)).trans h_21
  have h_36 := (hg_30 6 (by omega)).trans h_22
  have h_37 := (hg_30 7 (by omega)).trans h_23
  have h_38 := (hg_30 (100 + 2 * i) (by omega)).trans h_24
  have h_39 := (hg_30 (101 + 2 * y) (by omega)).trans h_25
  have h_40 := (hg_30 0 (by omega)).trans h_26
  refine hc_v (va_runVN (As := [.ref (ad (101 + 2 * L.1))]) (rest := []) S (c_X0_addLink_s l G ad _ (k := 100 + 2 * i) (z := 101 + 2 * L.1) (w := 101 + 2 * y) (by omega) h_38 h_39) ⟨va_cnB 1 hts (gWS q_co_X0_addLink) rfl rfl rfl (hE.nest 25 rfl) (hts _ q_in_0) (by decide +kernel) ⟨Nat.le_of_ble_eq_true rfl, Nat.le_of_ble_eq_true rfl⟩, hts _ q_im_X0_addLink, hts _ q_se_X0_addLink⟩ (hPreVw hE hS (hrecv hE hW h_38 (q := (RX0, TX0, 12)) rfl) hW) rfl rfl hl.1 rfl (lv_room (Nat.le_of_ble_eq_true rfl)) dX4_link_61 ⟨Nat.le_of_ble_eq_true rfl, Nat.le_of_ble_eq_true rfl⟩) hS (fun ct_41 H locs hp hW hS => ?_)
  obtain ⟨h_42, h_43, hg_44⟩ := hp
  have h_45 := (hg_44 (101 + 2 * L.1) (by omega) (by omega)).trans h_29
  have h_46 := (hg_44 1 (by omega) (by omega)).trans h_31
  have h_47 := (hg_44 2 (by omega) (by omega)).trans h_32
  have h_48 := (hg_44 3 (by omega) (by omega)).trans h_33
  have h_49 := (hg_44 4 (by omega) (by omega)).trans h_34
  have h_50 := (hg_44 5 (by omega) (by omega)).trans h_35
  have h_51 := (hg_44 6 (by omega) (by omega)).trans h_36
  have h_52 := (hg_44 7 (by omega) (by omega)).trans h_37
  have h_53 := (hg_44 0 (by omega) (by omega)).trans h_40
  refine lv_aload hx hb dX4_link_64 (lv_at hl 0 rfl) ?_
  refine lv_dup hx hb dX4_link_66 rfl ?_
  refine hr_getN S hE hW h_42 inX0 (C := RX0) (T := TX0) (N := 12) rfl 8 (by decide) (hE.nest 2 rfl) rfl dX4_link_67 ?_
  refine lv_iconst (v := 1) hx hb dX4_link_70 (by decide) ?_
  refine lv_iadd hx hb dX4_link_71 ?_
  refine hr_putN S hE hW hS h_42 inX0 (C := RX0) (T := TX0) (N := 12) tyX0_ok nmX0 rfl 8 (by decide) (hE.nest 2 rfl) rfl rfl rfl (Nat.le_of_ble_eq_true rfl) dX4_link_72 (fun H locs ct_54 hW hk_55 hg_56 hz hS => ?_)
  have h_57 := (hg_56 (101 + 2 * y) (by omega)).trans h_43
  have h_58 := (hg_56 (101 + 2 * L.1) (by omega)).trans h_45
  have h_59 := (hg_56 1 (by omega)).trans h_46
  have h_60 := (hg_56 2 (by omega)).trans h_47
  have h_61 := (hg_56 3 (by omega)).trans h_48
  have h_62 := (hg_56 4 (by omega)).trans h_49
  have h_63 := (hg_56 5 (by omega)).trans h_50
  have h_64 := (hg_56 6 (by omega)).trans h_51
  have h_65 := (hg_56 7 (by omega)).trans h_52
  have h_66 := (hg_56 0 (by omega)).trans h_53
  have h_67 : ct_54 (100 + 2 * i) = some (.inr (0, [.ref (ad 1), .ref (ad 2), .int (ty i), .int (A.1 i), .int (A.2.1 i), va_rf (lkF ad (geL L.2.1 i L.1 0)), .ref (ad (101 + 2 * L.1)), .int ((nI (cntL L.2.1 i L.1)) + 1), .int ((nI (cntL L.2.2 i L.1)) + 1), .int (T.1 i), .int (T.2.1 i), .int (T.2.2 i)])) := hk_55
  refine lv_aload_n hx hb dX4_link_75 rfl (lv_at hl 2 rfl) ?_
  refine hr_get S hE hW h_66 inX4 (C := RX4) (T := TX4) (N := 9) rfl 5 (by decide) q_f_4_63 rfl dX4_link_76 ?_
  refine lv_istore (lv' := [(5, .int (nI L.1)), (4, .ref (ad (100 + 2 * i))), (3, .ref (ad (100 + 2 * i))), (0, .ref (ad 0)), (1, .int (nI i)), (2, .int (nI i))]) hx hb dX4_link_79 hl (by decide) rfl (fun ls hl => ?_)
  refine lv_aload_n hx hb dX4_link_81 rfl (lv_at hl 3 rfl) ?_
  refine lv_dup hx hb dX4_link_82 rfl ?_
  refine hr_get S hE hW h_66 inX4 (C := RX4) (T := TX4) (N := 9) rfl 5 (by decide) q_f_4_63 rfl dX4_link_83 ?_
  refine lv_iconst (v := 1) hx hb dX4_link_86 (by decide) ?_
  refine lv_iadd hx hb dX4_link_87 ?_
  rw [nI_1]
  refine hr_put S hE hW hS h_66 inX4 (C := RX4) (T := TX4) (N := 9) tyX4_ok nmX4 rfl 5 (by decide) q_f_4_63 rfl rfl rfl (Nat.le_of_ble_eq_true rfl) dX4_link_88 (fun H locs ct_68 hW hk_69 hg_70 hz hS => ?_)
  have h_71 := (hg_70 (101 + 2 * y) (by omega)).trans h_57
  have h_72 := (hg_70 (101 + 2 * L.1) (by omega)).trans h_58
  have h_73 := (hg_70 1 (by decide)).trans h_59
  have h_74 := (hg_70 2 (by decide)).trans h_60
  have h_75 := (hg_70 3 (by decide)).trans h_61
  have h_76 := (hg_70 4 (by decide)).trans h_62
  have h_77 := (hg_70 5 (by decide)).trans h_63
  have h_78 := (hg_70 6 (by decide)).trans h_64
  have h_79 := (hg_70 7 (by decide)).trans h_65
  have h_80 := (hg_70 (100 + 2 * i) (by omega)).trans h_67
  have h_81 : ct_68 0 = some (.inr (4, [.ref (ad 1), .ref (ad 2), .ref (ad 6), .ref (ad 7), .int (nI n), .int (nI (L.1 + 1)), .int K.2.1, .int K.2.2, .int 0])) := hk_69
  refine lv_iload hx hb dX4_link_91 (lv_at hl 0 rfl) ?_
  exact h_iret S hr hlk hS hW dX4_link_93 ⟨rfl, RC_link hR hi hi hm4 h_81
     (fun d _ hor => by
      rcases hor with e | e
      · subst e; exact (h_80.trans (congrArg (fun x => some (Sum.inr (0, x))) (DC_es hlo).symm))
      · subst e; exact (h_80.trans (congrArg (fun x => some (Sum.inr (0, x))) (DC_es hlo).symm)))
     (fun x _ hor => by
      rcases hor with e | e
      · subst e; exact (by rw [nl_nxm, show (newL L i i).2.2 L.1 = i from va_up_self _ _ _]; exact h_72)
      · have e2 : x = y := Option.some.inj (e.symm.trans hlo)
        rw [e2]; exact (by rw [nl_nxl hlo, show (newL L i i).2.2 y = L.2.2 y from up_lt hy]; exact h_71))
     (fun z q0 qi qi2 qm qy => (fun j q0 q1 q2 q3 => (hg_70 j q0).trans ((hg_56 j q1).trans ((hg_44 j q1 q3).trans ((hg_30 j q2).trans ((hg_16 j q2).trans (hg_3 j q0)))))) z q0 qi qm (qy y hlo))⟩
set_option maxRecDepth 100000 in
set_option maxHeartbeats 4000000 in
theorem c_X4_link_a (l : Launch) (G : hG) (ad : Nat → Nat) (ct : Nat → Option va_E) {n : Nat} {ty : Nat → Int32} {A : AS} {T : TS} {L : LS4} {K : KS} {st0 : Int32} (hR : RC G ad ct n ty A T L K st0) {N : Nat} {d b0 : Int32} (hd : ∀ i, i < n → d ≠ nI i) (hb1 : ∀ i, i < n → b0 ≠ nI i)  : Met l yX4_link wzX4_link { frames := 1, cells := 1, slots := 2, locals := 21 } (hPz [.ref (ad 0), .int d, .int b0] G ad ct N) (hQi (fun r ct1 => r = -1 ∧ RC G ad ct1 n ty A T L K 1) G ad) 1 2 (hA G.2.2.2) := by
  refine hMetz (by decide) (Nat.le_of_ble_eq_true rfl) (fun p e s m below meth c ls S hr hlk hin hE hW hsz hl => ?_)
  obtain ⟨hx, hb, hml, hown, hts⟩ := id S
  have hS : va_S (hA G.2.2.2) s.heap s.heap [] := va_S.rf
  have hl : lv_has ls 6 [(0, .ref (ad 0)), (1, .int d), (2, .int b0)] := hl
  obtain ⟨h0, h1, h2, h3, h4, h5, h6, h7, hdv, hlks, hn300, hm400, hft, hty⟩ := id hR
  refine lv_aload_n hx hb dX4_link_0 rfl (lv_at hl 0 rfl) ?_
  refine lv_iload_n hx hb dX4_link_1 rfl (lv_at hl 1 rfl) ?_
  refine hc_rq (va_runV (As := [.int d]) (rest := []) S (c_X4_find l G _ hW h0 h6 d) (cwV 1 hts (gWSV q_l_4_42 q_im_X4_find q_se_X4_find q_in_4 q_co_X4_find) rfl rfl rfl (by decide +kernel) ⟨Nat.le_of_ble_eq_true rfl, Nat.le_of_ble_eq_true rfl⟩) (hPreVr hE hS (hrecv hE hW h0 (q := (RX4, TX4, 9)) rfl)) rfl rfl hl.1 rfl (lv_room (Nat.le_of_ble_eq_true rfl)) dX4_link_2 ⟨Nat.le_of_ble_eq_true rfl, Nat.le_of_ble_eq_true rfl⟩) hS (fun locs hS => ?_)
  rw [findF_no hn300 hd, va_rf_n]
  refine lv_astore_nN (lv' := [(3, .null), (0, .ref (ad 0)), (1, .int d), (2, .int b0)]) hx hb dX4_link_5 rfl hl (by decide) rfl (fun ls hl => ?_)
  refine lv_aload_n hx hb dX4_link_6 rfl (lv_at hl 1 rfl) ?_
  refine lv_iload_n hx hb dX4_link_7 rfl (lv_at hl 3 rfl) ?_
  refine hc_rq (va_runV (As := [.int b0]) (rest := []) S (c_X4_find l G _ hW h0 h6 b0) (cwV 1 hts (gWSV q_l_4_42 q_im_X4_find q_se_X4_find q_in_4 q_co_X4_find) rfl rfl rfl (by decide +kernel) ⟨Nat.le_of_ble_eq_true rfl, Nat.le_of_ble_eq_true rfl⟩) (hPreVr hE hS (hrecv hE hW h0 (q := (RX4, TX4, 9)) rfl)) rfl rfl hl.1 rfl (lv_room (Nat.le_of_ble_eq_true rfl)) dX4_link_8 ⟨Nat.le_of_ble_eq_true rfl, Nat.le_of_ble_eq_true rfl⟩) hS (fun locs hS => ?_)
  rw [findF_no hn300 hb1, va_rf_n]
  refine lv_astoreN (lv' := [(4, .null), (3, .null), (0, .ref (ad 0)), (1, .int d), (2, .int b0)]) hx hb dX4_link_11 hl (by decide) rfl (fun ls hl => ?_)
  refine lv_aload_nN hx hb dX4_link_13 rfl (lv_at hl 1 rfl) ?_
  refine lv_ifnullN (tgt := 22) hx hb dX4_link_14 (by decide) ?_
  refine lv_aload_n hx hb dX4_link_22 rfl (lv_at hl 2 rfl) ?_
  refine lv_iconst (v := 1) hx hb dX4_link_23 (by decide) ?_
  refine hr_put S hE hW hS h0 inX4 (C := RX4) (T := TX4) (N := 9) tyX4_ok nmX4 rfl 8 (by decide) q_f_4_32 rfl rfl rfl (Nat.le_of_ble_eq_true rfl) dX4_link_24 (fun H locs ct_1 hW hk_2 hg_3 hz hS => ?_)
  have hR := RC_o hR hk_2 hg_3
  obtain ⟨h0, h1, h2, h3, h4, h5, h6, h7, hdv, hlks, hn300, hm400, hft, hty⟩ := id hR
  refine lv_iconst (v := (-1)) hx hb dX4_link_27 (by decide) ?_
  refine W.widen (k := 1) (n := 2) (by omega) (by omega) ?_
  exact h_iret S hr hlk hS hW dX4_link_28 ⟨rfl, hR⟩
set_option maxRecDepth 100000 in
set_option maxHeartbeats 4000000 in
theorem c_X4_link_b (l : Launch) (G : hG) (ad : Nat → Nat) (ct : Nat → Option va_E) {n : Nat} {ty : Nat → Int32} {A : AS} {T : TS} {L : LS4} {K : KS} {st0 : Int32} (hR : RC G ad ct n ty A T L K st0) {N : Nat} {d : Int32} (hd : ∀ i, i < n → d ≠ nI i) {j : Nat} (hj : j < n)  : Met l yX4_link wzX4_link { frames := 1, cells := 1, slots := 2, locals := 21 } (hPz [.ref (ad 0), .int d, .int (nI j)] G ad ct N) (hQi (fun r ct1 => r = -1 ∧ RC G ad ct1 n ty A T L K 1) G ad) 1 2 (hA G.2.2.2) := by
  refine hMetz (by decide) (Nat.le_of_ble_eq_true rfl) (fun p e s m below meth c ls S hr hlk hin hE hW hsz hl => ?_)
  obtain ⟨hx, hb, hml, hown, hts⟩ := id S
  have hS : va_S (hA G.2.2.2) s.heap s.heap [] := va_S.rf
  have hl : lv_has ls 6 [(0, .ref (ad 0)), (1, .int d), (2, .int (nI j))] := hl
  obtain ⟨h0, h1, h2, h3, h4, h5, h6, h7, hdv, hlks, hn300, hm400, hft, hty⟩ := id hR
  refine lv_aload_n hx hb dX4_link_0 rfl (lv_at hl 0 rfl) ?_
  refine lv_iload_n hx hb dX4_link_1 rfl (lv_at hl 1 rfl) ?_
  refine hc_rq (va_runV (As := [.int d]) (rest := []) S (c_X4_find l G _ hW h0 h6 d) (cwV 1 hts (gWSV q_l_4_42 q_im_X4_find q_se_X4_find q_in_4 q_co_X4_find) rfl rfl rfl (by decide +kernel) ⟨Nat.le_of_ble_eq_true rfl, Nat.le_of_ble_eq_true rfl⟩) (hPreVr hE hS (hrecv hE hW h0 (q := (RX4, TX4, 9)) rfl)) rfl rfl hl.1 rfl (lv_room (Nat.le_of_ble_eq_true rfl)) dX4_link_2 ⟨Nat.le_of_ble_eq_true rfl, Nat.le_of_ble_eq_true rfl⟩) hS (fun locs hS => ?_)
  rw [findF_no hn300 hd, va_rf_n]
  refine lv_astore_nN (lv' := [(3, .null), (0, .ref (ad 0)), (1, .int d), (2, .int (nI j))]) hx hb dX4_link_5 rfl hl (by decide) rfl (fun ls hl => ?_)
  refine lv_aload_n hx hb dX4_link_6 rfl (lv_at hl 1 rfl) ?_
  refine lv_iload_n hx hb dX4_link_7 rfl (lv_at hl 3 rfl) ?_
  refine hc_rq (va_runV (As := [.int (nI j)]) (rest := []) S (c_X4_find l G _ hW h0 h6 (nI j)) (cwV 1 hts (gWSV q_l_4_42 q_im_X4_find q_se_X4_find q_in_4 q_co_X4_find) rfl rfl rfl (by decide +kernel) ⟨Nat.le_of_ble_eq_true rfl, Nat.le_of_ble_eq_true rfl⟩) (hPreVr hE hS (hrecv hE hW h0 (q := (RX4, TX4, 9)) rfl)) rfl rfl hl.1 rfl (lv_room (Nat.le_of_ble_eq_true rfl)) dX4_link_8 ⟨Nat.le_of_ble_eq_true rfl, Nat.le_of_ble_eq_true rfl⟩) hS (fun locs hS => ?_)
  rw [findF_ok hn300 hj, va_rf_s]
  refine lv_astore (lv' := [(4, .ref (ad (100 + 2 * j))), (3, .null), (0, .ref (ad 0)), (1, .int d), (2, .int (nI j))]) hx hb dX4_link_11 hl (by decide) rfl (fun ls hl => ?_)
  refine lv_aload_nN hx hb dX4_link_13 rfl (lv_at hl 1 rfl) ?_
  refine lv_ifnullN (tgt := 22) hx hb dX4_link_14 (by decide) ?_
  refine lv_aload_n hx hb dX4_link_22 rfl (lv_at hl 2 rfl) ?_
  refine lv_iconst (v := 1) hx hb dX4_link_23 (by decide) ?_
  refine hr_put S hE hW hS h0 inX4 (C := RX4) (T := TX4) (N := 9) tyX4_ok nmX4 rfl 8 (by decide) q_f_4_32 rfl rfl rfl (Nat.le_of_ble_eq_true rfl) dX4_link_24 (fun H locs ct_1 hW hk_2 hg_3 hz hS => ?_)
  have hR := RC_o hR hk_2 hg_3
  obtain ⟨h0, h1, h2, h3, h4, h5, h6, h7, hdv, hlks, hn300, hm400, hft, hty⟩ := id hR
  refine lv_iconst (v := (-1)) hx hb dX4_link_27 (by decide) ?_
  refine W.widen (k := 1) (n := 2) (by omega) (by omega) ?_
  exact h_iret S hr hlk hS hW dX4_link_28 ⟨rfl, hR⟩
set_option maxRecDepth 100000 in
set_option maxHeartbeats 4000000 in
theorem c_X4_link_c (l : Launch) (G : hG) (ad : Nat → Nat) (ct : Nat → Option va_E) {n : Nat} {ty : Nat → Int32} {A : AS} {T : TS} {L : LS4} {K : KS} {st0 : Int32} (hR : RC G ad ct n ty A T L K st0) {N : Nat} {i : Nat} (hi : i < n) {d : Int32} (hd : ∀ i, i < n → d ≠ nI i)  : Met l yX4_link wzX4_link { frames := 1, cells := 1, slots := 2, locals := 21 } (hPz [.ref (ad 0), .int (nI i), .int d] G ad ct N) (hQi (fun r ct1 => r = -1 ∧ RC G ad ct1 n ty A T L K 1) G ad) 1 2 (hA G.2.2.2) := by
  refine hMetz (by decide) (Nat.le_of_ble_eq_true rfl) (fun p e s m below meth c ls S hr hlk hin hE hW hsz hl => ?_)
  obtain ⟨hx, hb, hml, hown, hts⟩ := id S
  have hS : va_S (hA G.2.2.2) s.heap s.heap [] := va_S.rf
  have hl : lv_has ls 6 [(0, .ref (ad 0)), (1, .int (nI i)), (2, .int d)] := hl
  obtain ⟨h0, h1, h2, h3, h4, h5, h6, h7, hdv, hlks, hn300, hm400, hft, hty⟩ := id hR
  refine lv_aload_n hx hb dX4_link_0 rfl (lv_at hl 0 rfl) ?_
  refine lv_iload_n hx hb dX4_link_1 rfl (lv_at hl 1 rfl) ?_
  refine hc_rq (va_runV (As := [.int (nI i)]) (rest := []) S (c_X4_find l G _ hW h0 h6 (nI i)) (cwV 1 hts (gWSV q_l_4_42 q_im_X4_find q_se_X4_find q_in_4 q_co_X4_find) rfl rfl rfl (by decide +kernel) ⟨Nat.le_of_ble_eq_true rfl, Nat.le_of_ble_eq_true rfl⟩) (hPreVr hE hS (hrecv hE hW h0 (q := (RX4, TX4, 9)) rfl)) rfl rfl hl.1 rfl (lv_room (Nat.le_of_ble_eq_true rfl)) dX4_link_2 ⟨Nat.le_of_ble_eq_true rfl, Nat.le_of_ble_eq_true rfl⟩) hS (fun locs hS => ?_)
  rw [findF_ok hn300 hi, va_rf_s]
  refine lv_astore_n (lv' := [(3, .ref (ad (100 + 2 * i))), (0, .ref (ad 0)), (1, .int (nI i)), (2, .int d)]) hx hb dX4_link_5 rfl hl (by decide) rfl (fun ls hl => ?_)
  refine lv_aload_n hx hb dX4_link_6 rfl (lv_at hl 1 rfl) ?_
  refine lv_iload_n hx hb dX4_link_7 rfl (lv_at hl 3 rfl) ?_
  refine hc_rq (va_runV (As := [.int d]) (rest := []) S (c_X4_find l G _ hW h0 h6 d) (cwV 1 hts (gWSV q_l_4_42 q_im_X4_find q_se_X4_find q_in_4 q_co_X4_find) rfl rfl rfl (by decide +kernel) ⟨Nat.le_of_ble_eq_true rfl, Nat.le_of_ble_eq_true rfl⟩) (hPreVr hE hS (hrecv hE hW h0 (q := (RX4, TX4, 9)) rfl)) rfl rfl hl.1 rfl (lv_room (Nat.le_of_ble_eq_true rfl)) dX4_link_8 ⟨Nat.le_of_ble_eq_true rfl, Nat.le_of_ble_eq_true rfl⟩) hS (fun locs hS => ?_)
  rw [findF_no hn300 hd, va_rf_n]
  refine lv_astoreN (lv' := [(4, .null), (3, .ref (ad (100 + 2 * i))), (0, .ref (ad 0)), (1, .int (nI i)), (2, .int d)]) hx hb dX4_link_11 hl (by decide) rfl (fun ls hl => ?_)
  refine lv_aload_n hx hb dX4_link_13 rfl (lv_at hl 1 rfl) ?_
  refine lv_ifnull hx hb dX4_link_14 ?_
  refine lv_aloadN hx hb dX4_link_17 (lv_at hl 0 rfl) ?_
  refine lv_ifnonnullN hx hb dX4_link_19 ?_
  refine lv_aload_n hx hb dX4_link_22 rfl (lv_at hl 2 rfl) ?_
  refine lv_iconst (v := 1) hx hb dX4_link_23 (by decide) ?_
  refine hr_put S hE hW hS h0 inX4 (C := RX4) (T := TX4) (N := 9) tyX4_ok nmX4 rfl 8 (by decide) q_f_4_32 rfl rfl rfl (Nat.le_of_ble_eq_true rfl) dX4_link_24 (fun H locs ct_1 hW hk_2 hg_3 hz hS => ?_)
  have hR := RC_o hR hk_2 hg_3
  obtain ⟨h0, h1, h2, h3, h4, h5, h6, h7, hdv, hlks, hn300, hm400, hft, hty⟩ := id hR
  refine lv_iconst (v := (-1)) hx hb dX4_link_27 (by decide) ?_
  refine W.widen (k := 1) (n := 2) (by omega) (by omega) ?_
  exact h_iret S hr hlk hS hW dX4_link_28 ⟨rfl, hR⟩
set_option maxRecDepth 100000 in
set_option maxHeartbeats 4000000 in
theorem c_X4_link_f (l : Launch) (G : hG) (ad : Nat → Nat) (ct : Nat → Option va_E) {n : Nat} {ty : Nat → Int32} {A : AS} {T : TS} {L : LS4} {K : KS} {st0 : Int32} (hR : RC G ad ct n ty A T L K st0) {N : Nat} {i j : Nat} (hi : i < n) (hj : j < n) (hm4 : ¬ L.1 < 400)  : Met l yX4_link wzX4_link { frames := 1, cells := 1, slots := 2, locals := 21 } (hPz [.ref (ad 0), .int (nI i), .int (nI j)] G ad ct N) (hQi (fun r ct1 => r = -1 ∧ RC G ad ct1 n ty A T L K 5) G ad) 1 2 (hA G.2.2.2) := by
  refine hMetz (by decide) (Nat.le_of_ble_eq_true rfl) (fun p e s m below meth c ls S hr hlk hin hE hW hsz hl => ?_)
  obtain ⟨hx, hb, hml, hown, hts⟩ := id S
  have hS : va_S (hA G.2.2.2) s.heap s.heap [] := va_S.rf
  have hl : lv_has ls 6 [(0, .ref (ad 0)), (1, .int (nI i)), (2, .int (nI j))] := hl
  obtain ⟨h0, h1, h2, h3, h4, h5, h6, h7, hdv, hlks, hn300, hm400, hft, hty⟩ := id hR
  refine lv_aload_n hx hb dX4_link_0 rfl (lv_at hl 0 rfl) ?_
  refine lv_iload_n hx hb dX4_link_1 rfl (lv_at hl 1 rfl) ?_
  refine hc_rq (va_runV (As := [.int (nI i)]) (rest := []) S (c_X4_find l G _ hW h0 h6 (nI i)) (cwV 1 hts (gWSV q_l_4_42 q_im_X4_find q_se_X4_find q_in_4 q_co_X4_find) rfl rfl rfl (by decide +kernel) ⟨Nat.le_of_ble_eq_true rfl, Nat.le_of_ble_eq_true rfl⟩) (hPreVr hE hS (hrecv hE hW h0 (q := (RX4, TX4, 9)) rfl)) rfl rfl hl.1 rfl (lv_room (Nat.le_of_ble_eq_true rfl)) dX4_link_2 ⟨Nat.le_of_ble_eq_true rfl, Nat.le_of_ble_eq_true rfl⟩) hS (fun locs hS => ?_)
  rw [findF_ok hn300 hi, va_rf_s]
  refine lv_astore_n (lv' := [(3, .ref (ad (100 + 2 * i))), (0, .ref (ad 0)), (1, .int (nI i)), (2, .int (nI j))]) hx hb dX4_link_5 rfl hl (by decide) rfl (fun ls hl => ?_)
  refine lv_aload_n hx hb dX4_link_6 rfl (lv_at hl 1 rfl) ?_
  refine lv_iload_n hx hb dX4_link_7 rfl (lv_at hl 3 rfl) ?_
  refine hc_rq (va_runV (As := [.int (nI j)]) (rest := []) S (c_X4_find l G _ hW h0 h6 (nI j)) (cwV 1 hts (gWSV q_l_4_42 q_im_X4_find q_se_X4_find q_in_4 q_co_X4_find) rfl rfl rfl (by decide +kernel) ⟨Nat.le_of_ble_eq_true rfl, Nat.le_of_ble_eq_true rfl⟩) (hPreVr hE hS (hrecv hE hW h0 (q := (RX4, TX4, 9)) rfl)) rfl rfl hl.1 rfl (lv_room (Nat.le_of_ble_eq_true rfl)) dX4_link_8 ⟨Nat.le_of_ble_eq_true rfl, Nat.le_of_ble_eq_true rfl⟩) hS (fun locs hS => ?_)
  rw [findF_ok hn300 hj, va_rf_s]
  refine lv_astore (lv' := [(4, .ref (ad (100 + 2 * j))), (3, .ref (ad (100 + 2 * i))), (0, .ref (ad 0)), (1, .int (nI i)), (2, .int (nI j))]) hx hb dX4_link_11 hl (by decide) rfl (fun ls hl => ?_)
  refine lv_aload_n hx hb dX4_link_13 rfl (lv_at hl 1 rfl) ?_
  refine lv_ifnull hx hb dX4_link_14 ?_
  refine lv_aload hx hb dX4_link_17 (lv_at hl 0 rfl) ?_
  refine lv_ifnonnull (tgt := 29) hx hb dX4_link_19 (by decide) ?_
  refine lv_aload_n hx hb dX4_link_29 rfl (lv_at hl 2 rfl) ?_
  refine hr_get S hE hW h0 inX4 (C := RX4) (T := TX4) (N := 9) rfl 5 (by decide) q_f_4_63 rfl dX4_link_30 ?_
  refine lv_sipush (v := 400) hx hb dX4_link_33 (by decide) ?_
  refine lv_icmp_lt (tgt := 46) hx hb dX4_link_36 (by decide) (fun q => absurd q (show ¬ nI L.1 < 400 from nI_nlt (a := L.1) (b := 400) (by omega) (by omega))) (fun _ => ?_)
  refine lv_aload_n hx hb dX4_link_39 rfl (lv_at hl 2 rfl) ?_
  refine lv_iconst (v := 5) hx hb dX4_link_40 (by decide) ?_
  refine hr_put S hE hW hS h0 inX4 (C := RX4) (T := TX4) (N := 9) tyX4_ok nmX4 rfl 8 (by decide) q_f_4_32 rfl rfl rfl (Nat.le_of_ble_eq_true rfl) dX4_link_41 (fun H locs ct_1 hW hk_2 hg_3 hz hS => ?_)
  have hR := RC_o hR hk_2 hg_3
  obtain ⟨h0, h1, h2, h3, h4, h5, h6, h7, hdv, hlks, hn300, hm400, hft, hty⟩ := id hR
  refine lv_iconst (v := (-1)) hx hb dX4_link_44 (by decide) ?_
  refine W.widen (k := 1) (n := 2) (by omega) (by omega) ?_
  exact h_iret S hr hlk hS hW dX4_link_45 ⟨rfl, hR⟩
set_option maxRecDepth 100000 in
set_option maxHeartbeats 4000000 in
theorem c_X0_init (l : Launch) (G : hG) (ad : Nat → Nat) (ct : Nat → Option va_E) {k N : Nat} (hk : ct k = some (.inr (0, [.null, .null, .int 0, .int 0, .int 0, .null, .null, .int 0, .int 0, .int 0, .int 0, .int 0]))) (kd v : Int32)  : Met l yX0_init wzX0_init { frames := 1, cells := 0, slots := 0, locals := 20 } (hPz [.ref (ad k), .ref (ad 1), .ref (ad 2), .int kd, .int v] G ad ct N) (hQzv (fun ct1 => ct1 k = some (.inr (0, [.ref (ad 1), .ref (ad 2), .int (7 + kd), .int v, .int 0, .null, .null, .int 0, .int 0, .int 0, .int 0, .int 0])) ∧ ∀ y, y ≠ k → ct1 y = ct y) G ad N) 0 0 (hA G.2.2.2) := by
  refine hMetz (by decide) (Nat.le_of_ble_eq_true rfl) (fun p e s m below meth c ls S hr hlk hin hE hW hsz hl => ?_)
  obtain ⟨hx, hb, hml, hown, hts⟩ := id S
  have hS : va_S (hA G.2.2.2) s.heap s.heap [] := va_S.rf
  have hl : lv_has ls 5 [(0, .ref (ad k)), (1, .ref (ad 1)), (2, .ref (ad 2)), (3, .int kd), (4, .int v)] := hl
  refine lv_aload_n hx hb dX0_init_0 rfl (lv_at hl 0 rfl) ?_
  refine W.objInit hx hb hown (hts _ q_l_0_3) (hts _ q_im_O) (hts _ q_co_O) rfl (by rw [hml]; exact hl.1) rfl dX0_init_1 (Nat.le_of_ble_eq_true rfl) (Nat.le_of_ble_eq_true rfl) ?_
  refine W.eq (g2 := F0 m 4 ls []) rfl ?_
  refine lv_aload_n hx hb dX0_init_4 rfl (lv_at hl 0 rfl) ?_
  refine lv_aload_n hx hb dX0_init_5 rfl (lv_at hl 1 rfl) ?_
  refine hr_putF S hE hW hS hk inX0 (C := RX0) (T := TX0) (N := 12) tyX0_ok nmX0 rfl 0 (by decide) q_f_0_9 rfl (hin rfl) rfl rfl rfl (Nat.le_of_ble_eq_true rfl) dX0_init_6 (fun H locs ct_1 hW hk_2 hg_3 hz hS => ?_)
  have hsz := hz.trans hsz
  have h_4 : ct_1 k = some (.inr (0, [.ref (ad 1), .null, .int 0, .int 0, .int 0, .null, .null, .int 0, .int 0, .int 0, .int 0, .int 0])) := hk_2
  refine lv_aload_n hx hb dX0_init_9 rfl (lv_at hl 0 rfl) ?_
  refine lv_aload_n hx hb dX0_init_10 rfl (lv_at hl 2 rfl) ?_
  refine hr_putF S hE hW hS h_4 inX0 (C := RX0) (T := TX0) (N := 12) tyX0_ok nmX0 rfl 1 (by decide) q_f_0_15 rfl (hin rfl) rfl rfl rfl (Nat.le_of_ble_eq_true rfl) dX0_init_11 (fun H locs ct_5 hW hk_6 hg_7 hz hS => ?_)
  have hsz := hz.trans hsz
  have h_8 : ct_5 k = some (.inr (0, [.ref (ad 1), .ref (ad 2), .int 0, .int 0, .int 0, .null, .null, .int 0, .int 0, .int 0, .int 0, .int 0])) := hk_6
  refine lv_aload_n hx hb dX0_init_14 rfl (lv_at hl 0 rfl) ?_
  refine lv_bipush (v := 7) hx hb dX0_init_15 (by decide) ?_
  refine lv_iload_n hx hb dX0_init_17 rfl (lv_at hl 3 rfl) ?_
  refine lv_iadd hx hb dX0_init_18 ?_
  refine hr_putF S hE hW hS h_8 inX0 (C := RX0) (T := TX0) (N := 12) tyX0_ok nmX0 rfl 2 (by decide) q_f_0_19 rfl (hin rfl) rfl rfl rfl (Nat.le_of_ble_eq_true rfl) dX0_init_19 (fun H locs ct_9 hW hk_10 hg_11 hz hS => ?_)
  have hsz := hz.trans hsz
  have h_12 : ct_9 k = some (.inr (0, [.ref (ad 1), .ref (ad 2), .int (7 + kd), .int 0, .int 0, .null, .null, .int 0, .int 0, .int 0, .int 0, .int 0])) := hk_10
  refine lv_aload_n hx hb dX0_init_22 rfl (lv_at hl 0 rfl) ?_
  refine lv_iload hx hb dX0_init_23 (lv_at hl 4 rfl) ?_
  refine hr_put S hE hW hS h_12 inX0 (C := RX0) (T := TX0) (N := 12) tyX0_ok nmX0 rfl 3 (by decide) q_f_0_23 rfl rfl rfl (Nat.le_of_ble_eq_true rfl) dX0_init_25 (fun H locs ct_13 hW hk_14 hg_15 hz hS => ?_)
  have hsz := hz.trans hsz
  have h_16 : ct_13 k = some (.inr (0, [.ref (ad 1), .ref (ad 2), .int (7 + kd), .int v, .int 0, .null, .null, .int 0, .int 0, .int 0, .int 0, .int 0])) := hk_14
  exact h_zvret S hr hlk hS hW hsz dX0_init_28 ⟨h_16, (fun j q0 => (hg_15 j q0).trans ((hg_11 j q0).trans ((hg_7 j q0).trans (hg_3 j q0))))⟩
set_option maxRecDepth 100000 in
set_option maxHeartbeats 4000000 in
theorem c_X4_device_ok (l : Launch) (G : hG) (ad : Nat → Nat) (ct : Nat → Option va_E) {n : Nat} {ty : Nat → Int32} {A : AS} {T : TS} {L : LS4} {K : KS} {st0 : Int32} (hR : RC G ad ct n ty A T L K st0) {N kd : Nat} (hkd : kd < 11) (v : Int32) (hn3 : n < 300) (hadk : ad (100 + 2 * n) = N)  : Met l yX4_device wzX4_device { frames := 2, cells := 1, slots := 12, locals := 44 } (hPz [.ref (ad 0), .int (nI kd), .int v] G ad ct N) (hQi (fun r ct1 => r = nI n ∧ RC G ad ct1 (n + 1) (upd ty n (7 + nI kd)) (upd A.1 n v, upd A.2.1 n 0, A.2.2) (upd T.1 n 0, upd T.2.1 n 0, upd T.2.2 n 0) L K 0) G ad) 1 12 (hA G.2.2.2) := by
  refine hMetz (by decide) (Nat.le_of_ble_eq_true rfl) (fun p e s m below meth c ls S hr hlk hin hE hW hsz hl => ?_)
  obtain ⟨hx, hb, hml, hown, hts⟩ := id S
  have hS : va_S (hA G.2.2.2) s.heap s.heap [] := va_S.rf
  have hl : lv_has ls 4 [(0, .ref (ad 0)), (1, .int (nI kd)), (2, .int v)] := hl
  obtain ⟨h0, h1, h2, h3, h4, h5, h6, h7, hdv, hlks, hn300, hm400, hft, hty⟩ := id hR
  refine lv_iload_n hx hb dX4_device_0 rfl (lv_at hl 1 rfl) ?_
  refine lv_if_lt (tgt := 10) hx hb dX4_device_1 (by decide) (fun q => absurd q (nI_pos (by omega))) (fun _ => ?_)
  refine lv_iload_n hx hb dX4_device_4 rfl (lv_at hl 1 rfl) ?_
  refine lv_bipush (v := 11) hx hb dX4_device_5 (by decide) ?_
  refine lv_icmp_lt (tgt := 17) hx hb dX4_device_7 (by decide) (fun _ => ?_) (fun q => absurd (show nI kd < 11 from nI_lt (b := 11) hkd (by omega)) q)
  refine lv_aload_n hx hb dX4_device_17 rfl (lv_at hl 0 rfl) ?_
  refine hr_get S hE hW h0 inX4 (C := RX4) (T := TX4) (N := 9) rfl 4 (by decide) q_f_4_36 rfl dX4_device_18 ?_
  refine lv_aload_n hx hb dX4_device_21 rfl (lv_at hl 0 rfl) ?_
  refine hr_get S hE hW h0 inX4 (C := RX4) (T := TX4) (N := 9) rfl 2 (by decide) q_f_4_25 rfl dX4_device_22 ?_
  refine hr_alen S hE hW h6 2 rfl (v := 300) rfl dX4_device_25 ?_
  refine lv_icmp_lt (tgt := 36) hx hb dX4_device_26 (by decide) (fun _ => ?_) (fun q => absurd (show nI n < 300 from nI_lt (b := 300) hn3 (by omega)) q)
  refine lv_aload_n hx hb dX4_device_36 rfl (lv_at hl 0 rfl) ?_
  refine lv_iconst (v := 0) hx hb dX4_device_37 (by decide) ?_
  refine hr_put S hE hW hS h0 inX4 (C := RX4) (T := TX4) (N := 9) tyX4_ok nmX4 rfl 8 (by decide) q_f_4_32 rfl rfl rfl (Nat.le_of_ble_eq_true rfl) dX4_device_38 (fun H locs ct_1 hW hk_2 hg_3 hz hS => ?_)
  have hsz := hz.trans hsz
  have h_4 := (hg_3 1 (by decide)).trans h1
  have h_5 := (hg_3 2 (by decide)).trans h2
  have h_6 := (hg_3 3 (by decide)).trans h3
  have h_7 := (hg_3 4 (by decide)).trans h4
  have h_8 := (hg_3 5 (by decide)).trans h5
  have h_9 := (hg_3 6 (by decide)).trans h6
  have h_10 := (hg_3 7 (by decide)).trans h7
  have h_11 : ct_1 0 = some (.inr (4, [.ref (ad 1), .ref (ad 2), .ref (ad 6), .ref (ad 7), .int (nI n), .int (nI L.1), .int K.2.1, .int K.2.2, .int 0])) := hk_2
  refine lv_aload_n hx hb dX4_device_41 rfl (lv_at hl 0 rfl) ?_
  refine hr_get S hE hW h_11 inX4 (C := RX4) (T := TX4) (N := 9) rfl 4 (by decide) q_f_4_36 rfl dX4_device_42 ?_
  refine lv_istore_n (lv' := [(3, .int (nI n)), (0, .ref (ad 0)), (1, .int (nI kd)), (2, .int v)]) hx hb dX4_device_45 rfl hl (by decide) rfl (fun ls hl => ?_)
  refine lv_aload_n hx hb dX4_device_46 rfl (lv_at hl 1 rfl) ?_
  refine hr_get S hE hW h_11 inX4 (C := RX4) (T := TX4) (N := 9) rfl 2 (by decide) q_f_4_25 rfl dX4_device_47 ?_
  refine lv_iload_n hx hb dX4_device_50 rfl (lv_at hl 0 rfl) ?_
  refine hr_new S hE hW hS (100 + 2 * n) (hadk.trans hsz.symm) (hw_z hW h_11) inX0 (ci := 0) (C := RX0) (T := TX0) (N := 12) tyX0_ok rfl q_cl_4_23 q_ia_0 q_in_0 (fs := [.null, .null, .int 0, .int 0, .int 0, .null, .null, .int 0, .int 0, .int 0, .int 0, .int 0]) (fun j hj => by rcases (show j = 0 ∨ j = 1 ∨ j = 2 ∨ j = 3 ∨ j = 4 ∨ j = 5 ∨ j = 6 ∨ j = 7 ∨ j = 8 ∨ j = 9 ∨ j = 10 ∨ j = 11 by omega) with rfl | rfl | rfl | rfl | rfl | rfl | rfl | rfl | rfl | rfl | rfl | rfl <;> rfl) (Nat.le_of_ble_eq_true rfl) (Nat.le_of_ble_eq_true rfl) dX4_device_51 (fun H ct_12 hW hk_13 hg_14 hz hS => ?_)
  have hsz := hz.trans (congrArg (· + 1) hsz)
  have h_15 := (hg_14 1 (by omega)).trans h_4
  have h_16 := (hg_14 2 (by omega)).trans h_5
  have h_17 := (hg_14 3 (by omega)).trans h_6
  have h_18 := (hg_14 4 (by omega)).trans h_7
  have h_19 := (hg_14 5 (by omega)).trans h_8
  have h_20 := (hg_14 6 (by omega)).trans h_9
  have h_21 := (hg_14 7 (by omega)).trans h_10
  have h_22 := (hg_14 0 (by omega)).trans h_11
  have h_23 : ct_12 (100 + 2 * n) = some (.inr (0, [.null, .null, .int 0, .int 0, .int 0, .null, .null, .int 0, .int 0, .int 0, .int 0, .int 0])) := hk_13
  refine lv_dup hx hb dX4_device_54 rfl ?_
  refine lv_aload_n hx hb dX4_device_55 rfl (lv_at hl 1 rfl) ?_
  refine hr_get S hE hW h_22 inX4 (C := RX4) (T := TX4) (N := 9) rfl 0 (by decide) q_f_4_12 rfl dX4_device_56 ?_
  refine lv_aload_n hx hb dX4_device_59 rfl (lv_at hl 1 rfl) ?_
  refine hr_get S hE hW h_22 inX4 (C := RX4) (T := TX4) (N := 9) rfl 1 (by decide) q_f_4_19 rfl dX4_device_60 ?_
  refine lv_iload_n hx hb dX4_device_63 rfl (lv_at hl 2 rfl) ?_
  refine lv_iload_n hx hb dX4_device_64 rfl (lv_at hl 3 rfl) ?_
  refine hc_zv (va_runIN (As := [.ref (ad 1), .ref (ad 2), .int (nI kd), .int v]) (rest := [.ref (ad (100 + 2 * n)), .int (nI n), .ref (ad 6)]) S (c_X0_init l G ad _ (k := 100 + 2 * n) h_23 (nI kd) v) ⟨va_cnB 4 hts (gWS q_co_X0_init) rfl rfl rfl (hE.nest 11 rfl) (hts _ q_in_0) (by decide +kernel) ⟨Nat.le_of_ble_eq_true rfl, Nat.le_of_ble_eq_true rfl⟩, rfl, hts _ q_im_X0_init⟩ (hPreSz hE hS hW hsz) rfl rfl hl.1 rfl (lv_room (Nat.le_of_ble_eq_true rfl)) dX4_device_65 ⟨Nat.le_of_ble_eq_true rfl, Nat.le_of_ble_eq_true rfl⟩) hS (fun ct_24 H locs hp hW hsz hS => ?_)
  obtain ⟨h_25, hg_26⟩ := hp
  have h_27 := (hg_26 1 (by omega)).trans h_15
  have h_28 := (hg_26 2 (by omega)).trans h_16
  have h_29 := (hg_26 3 (by omega)).trans h_17
  have h_30 := (hg_26 4 (by omega)).trans h_18
  have h_31 := (hg_26 5 (by omega)).trans h_19
  have h_32 := (hg_26 6 (by omega)).trans h_20
  have h_33 := (hg_26 7 (by omega)).trans h_21
  have h_34 := (hg_26 0 (by omega)).trans h_22
  refine hr_aastk S hE hW hS h_32 h_25 (j := n) rfl (by omega) (by decide) dX4_device_68 (fun H locs ct_35 hW hk_36 hg_37 hz hS => ?_)
  have h_38 := (hg_37 (100 + 2 * n) (by omega)).trans h_25
  have h_39 := (hg_37 1 (by decide)).trans h_27
  have h_40 := (hg_37 2 (by decide)).trans h_28
  have h_41 := (hg_37 3 (by decide)).trans h_29
  have h_42 := (hg_37 4 (by decide)).trans h_30
  have h_43 := (hg_37 5 (by decide)).trans h_31
  have h_44 := (hg_37 7 (by decide)).trans h_33
  have h_45 := (hg_37 0 (by decide)).trans h_34
  have h_46 : ct_35 6 = some (.inl (G.2.1.2.2, 300, .inr (.inr (.inr (.inr (va_up (dvF ad n) n (some (ad (100 + 2 * n))))))))) := hk_36
  refine lv_aload_n hx hb dX4_device_69 rfl (lv_at hl 1 rfl) ?_
  refine lv_dup hx hb dX4_device_70 rfl ?_
  refine hr_get S hE hW h_45 inX4 (C := RX4) (T := TX4) (N := 9) rfl 4 (by decide) q_f_4_36 rfl dX4_device_71 ?_
  refine lv_iconst (v := 1) hx hb dX4_device_74 (by decide) ?_
  refine lv_iadd hx hb dX4_device_75 ?_
  rw [nI_1]
  refine hr_put S hE hW hS h_45 inX4 (C := RX4) (T := TX4) (N := 9) tyX4_ok nmX4 rfl 4 (by decide) q_f_4_36 rfl rfl rfl (Nat.le_of_ble_eq_true rfl) dX4_device_76 (fun H locs ct_47 hW hk_48 hg_49 hz hS => ?_)
  have h_50 := (hg_49 (100 + 2 * n) (by omega)).trans h_38
  have h_51 := (hg_49 1 (by decide)).trans h_39
  have h_52 := (hg_49 2 (by decide)).trans h_40
  have h_53 := (hg_49 3 (by decide)).trans h_41
  have h_54 := (hg_49 4 (by decide)).trans h_42
  have h_55 := (hg_49 5 (by decide)).trans h_43
  have h_56 := (hg_49 7 (by decide)).trans h_44
  have h_57 := (hg_49 6 (by decide)).trans h_46
  have h_58 : ct_47 0 = some (.inr (4, [.ref (ad 1), .ref (ad 2), .ref (ad 6), .ref (ad 7), .int (nI (n + 1)), .int (nI L.1), .int K.2.1, .int K.2.2, .int 0])) := hk_48
  refine lv_iload_n hx hb dX4_device_79 rfl (lv_at hl 0 rfl) ?_
  exact h_iret S hr hlk hS hW dX4_device_80 ⟨rfl, RC_dev hR hn3 hkd (show 7 + nI kd = nI (7 + kd) from nI_add 7 kd) h_58 h_57 h_50 (fun j q0 q1 q2 => (hg_49 j q0).trans ((hg_37 j q1).trans ((hg_26 j q2).trans ((hg_14 j q2).trans (hg_3 j q0)))))⟩
set_option maxRecDepth 100000 in
set_option maxHeartbeats 4000000 in
theorem c_X4_device_no (l : Launch) (G : hG) (ad : Nat → Nat) (ct : Nat → Option va_E) {n : Nat} {ty : Nat → Int32} {A : AS} {T : TS} {L : LS4} {K : KS} {st0 : Int32} (hR : RC G ad ct n ty A T L K st0) {N : Nat} {kd : Int32} (hkd : kd < 0 ∨ 11 ≤ kd) (v : Int32)  : Met l yX4_device wzX4_device { frames := 0, cells := 1, slots := 12, locals := 0 } (hPz [.ref (ad 0), .int kd, .int v] G ad ct N) (hQi (fun r ct1 => r = -1 ∧ RC G ad ct1 n ty A T L K 1) G ad) 1 12 (hA G.2.2.2) := by
  refine hMetz (by decide) (Nat.le_of_ble_eq_true rfl) (fun p e s m below meth c ls S hr hlk hin hE hW hsz hl => ?_)
  obtain ⟨hx, hb, hml, hown, hts⟩ := id S
  have hS : va_S (hA G.2.2.2) s.heap s.heap [] := va_S.rf
  have hl : lv_has ls 4 [(0, .ref (ad 0)), (1, .int kd), (2, .int v)] := hl
  obtain ⟨h0, h1, h2, h3, h4, h5, h6, h7, hdv, hlks, hn300, hm400, hft, hty⟩ := id hR
  refine lv_iload_n hx hb dX4_device_0 rfl (lv_at hl 1 rfl) ?_
  refine lv_if_lt (tgt := 10) hx hb dX4_device_1 (by decide) (fun c_1 => ?_) (fun c_1 => ?_)
  · refine lv_aload_n hx hb dX4_device_10 rfl (lv_at hl 0 rfl) ?_
    refine lv_iconst (v := 1) hx hb dX4_device_11 (by decide) ?_
    refine hr_put S hE hW hS h0 inX4 (C := RX4) (T := TX4) (N := 9) tyX4_ok nmX4 rfl 8 (by decide) q_f_4_32 rfl rfl rfl (Nat.le_of_ble_eq_true rfl) dX4_device_12 (fun H locs ct_1 hW hk_2 hg_3 hz hS => ?_)
    have hR := RC_o hR hk_2 hg_3
    obtain ⟨h0, h1, h2, h3, h4, h5, h6, h7, hdv, hlks, hn300, hm400, hft, hty⟩ := id hR
    refine lv_iconst (v := (-1)) hx hb dX4_device_15 (by decide) ?_
    refine W.widen (k := 1) (n := 12) (by omega) (by omega) ?_
    exact h_iret S hr hlk hS hW dX4_device_16 ⟨rfl, hR⟩
  · refine lv_iload_n hx hb dX4_device_4 rfl (lv_at hl 1 rfl) ?_
    refine lv_bipush (v := 11) hx hb dX4_device_5 (by decide) ?_
    refine lv_icmp_lt (tgt := 17) hx hb dX4_device_7 (by decide) (fun c_7 => ?_) (fun c_7 => ?_)
    · exact absurd hkd (fun q => q.elim c_1 (fun q => Int32.not_le.mpr c_7 q))
    · refine lv_aload_n hx hb dX4_device_10 rfl (lv_at hl 0 rfl) ?_
      refine lv_iconst (v := 1) hx hb dX4_device_11 (by decide) ?_
      refine hr_put S hE hW hS h0 inX4 (C := RX4) (T := TX4) (N := 9) tyX4_ok nmX4 rfl 8 (by decide) q_f_4_32 rfl rfl rfl (Nat.le_of_ble_eq_true rfl) dX4_device_12 (fun H locs ct_4 hW hk_5 hg_6 hz hS => ?_)
      have hR := RC_o hR hk_5 hg_6
      obtain ⟨h0, h1, h2, h3, h4, h5, h6, h7, hdv, hlks, hn300, hm400, hft, hty⟩ := id hR
      refine lv_iconst (v := (-1)) hx hb dX4_device_15 (by decide) ?_
      refine W.widen (k := 1) (n := 12) (by omega) (by omega) ?_
      exact h_iret S hr hlk hS hW dX4_device_16 ⟨rfl, hR⟩
set_option maxRecDepth 100000 in
set_option maxHeartbeats 4000000 in
theorem c_X4_device_f (l : Launch) (G : hG) (ad : Nat → Nat) (ct : Nat → Option va_E) {n : Nat} {ty : Nat → Int32} {A : AS} {T : TS} {L : LS4} {K : KS} {st0 : Int32} (hR : RC G ad ct n ty A T L K st0) {N kd : Nat} (hkd : kd < 11) (v : Int32) (hn3 : ¬ n < 300)  : Met l yX4_device wzX4_device { frames := 0, cells := 1, slots := 12, locals := 0 } (hPz [.ref (ad 0), .int (nI kd), .int v] G ad ct N) (hQi (fun r ct1 => r = -1 ∧ RC G ad ct1 n ty A T L K 5) G ad) 1 12 (hA G.2.2.2) := by
  refine hMetz (by decide) (Nat.le_of_ble_eq_true rfl) (fun p e s m below meth c ls S hr hlk hin hE hW hsz hl => ?_)
  obtain ⟨hx, hb, hml, hown, hts⟩ := id S
  have hS : va_S (hA G.2.2.2) s.heap s.heap [] := va_S.rf
  have hl : lv_has ls 4 [(0, .ref (ad 0)), (1, .int (nI kd)), (2, .int v)] := hl
  obtain ⟨h0, h1, h2, h3, h4, h5, h6, h7, hdv, hlks, hn300, hm400, hft, hty⟩ := id hR
  refine lv_iload_n hx hb dX4_device_0 rfl (lv_at hl 1 rfl) ?_
  refine lv_if_lt (tgt := 10) hx hb dX4_device_1 (by decide) (fun q => absurd q (nI_pos (by omega))) (fun _ => ?_)
  refine lv_iload_n hx hb dX4_device_4 rfl (lv_at hl 1 rfl) ?_
  refine lv_bipush (v := 11) hx hb dX4_device_5 (by decide) ?_
  refine lv_icmp_lt (tgt := 17) hx hb dX4_device_7 (by decide) (fun _ => ?_) (fun q => absurd (show nI kd < 11 from nI_lt (b := 11) hkd (by omega)) q)
  refine lv_aload_n hx hb dX4_device_17 rfl (lv_at hl 0 rfl) ?_
  refine hr_get S hE hW h0 inX4 (C := RX4) (T := TX4) (N := 9) rfl 4 (by decide) q_f_4_36 rfl dX4_device_18 ?_
  refine lv_aload_n hx hb dX4_device_21 rfl (lv_at hl 0 rfl) ?_
  refine hr_get S hE hW h0 inX4 (C := RX4) (T := TX4) (N := 9) rfl 2 (by decide) q_f_4_25 rfl dX4_device_22 ?_
  refine hr_alen S hE hW h6 2 rfl (v := 300) rfl dX4_device_25 ?_
  refine lv_icmp_lt (tgt := 36) hx hb dX4_device_26 (by decide) (fun q => absurd q (show ¬ nI n < 300 from nI_nlt (a := n) (b := 300) (by omega) (by omega))) (fun _ => ?_)
  refine lv_aload_n hx hb dX4_device_29 rfl (lv_at hl 0 rfl) ?_
  refine lv_iconst (v := 5) hx hb dX4_device_30 (by decide) ?_
  refine hr_put S hE hW hS h0 inX4 (C := RX4) (T := TX4) (N := 9) tyX4_ok nmX4 rfl 8 (by decide) q_f_4_32 rfl rfl rfl (Nat.le_of_ble_eq_true rfl) dX4_device_31 (fun H locs ct_1 hW hk_2 hg_3 hz hS => ?_)
  have hR := RC_o hR hk_2 hg_3
  obtain ⟨h0, h1, h2, h3, h4, h5, h6, h7, hdv, hlks, hn300, hm400, hft, hty⟩ := id hR
  refine lv_iconst (v := (-1)) hx hb dX4_device_34 (by decide) ?_
  refine W.widen (k := 1) (n := 12) (by omega) (by omega) ?_
  exact h_iret S hr hlk hS hW dX4_device_35 ⟨rfl, hR⟩
end
section
/-! a pulse, on the class's side -/
abbrev P2 : Type := AS × TS × (Nat → Nat) × Nat
def takP (ty : Nat → Int32) (pl : Int32) (i : Nat) (x : Int32) (P : P2) : P2 :=
  ((actD ty i (takActF (ty i)) x P.1).2, (upd P.2.1.1 i (P.2.1.1 i + 1), upd P.2.1.2.1 i pl, upd P.2.1.2.2 i (actD ty i (takActF (ty i)) x P.1).1), va_up P.2.2.1 P.2.2.2 i, P.2.2.2 + 1)
def pnL (ty : Nat → Int32) (pl : Int32) (L : LS4) (i : Nat) : Nat → Nat → P2 → P2
  | 0, _, P => P
  | rem + 1, l, P => if L.2.1 l = i then (if P.2.1.2.1 (L.2.2 l) = pl then pnL ty pl L i rem (l + 1) P else pnL ty pl L i rem (l + 1) (takP ty pl (L.2.2 l) (P.2.1.2.2 i) P)) else pnL ty pl L i rem (l + 1) P
def psL (ty : Nat → Int32) (pl : Int32) (L : LS4) : Nat → Nat → P2 → P2
  | 0, _, P => P
  | rem + 1, k, P => if k < P.2.2.2 then psL ty pl L rem (k + 1) (pnL ty pl L (P.2.2.1 k) L.1 0 P) else P
def psR (ty : Nat → Int32) (pl : Int32) (n : Nat) (L : LS4) (i : Nat) (x : Int32) (A : AS) (T : TS) : P2 := psL ty pl L (n + 1) 0 (takP ty pl i x (clrA A, T, (fun _ => 0), 0))
def RCP (G : hG) (ad : Nat → Nat) (ct : Nat → Option va_E) (n : Nat) (ty : Nat → Int32) (L : LS4) (pl st : Int32) (P : P2) : Prop :=
  ∃ tkr : Nat → Option Nat, RC G ad ct n ty P.1 P.2.1 L (tkr, nI P.2.2.2, pl) st ∧ ∀ k, k < P.2.2.2 → tkr k = some (ad (100 + 2 * P.2.2.1 k))
def PI (n : Nat) (pl : Int32) (P : P2) : Prop := (∀ k, k < P.2.2.2 → P.2.2.1 k < n ∧ P.2.1.2.1 (P.2.2.1 k) = pl) ∧ ∀ j k, j < P.2.2.2 → k < P.2.2.2 → P.2.2.1 j = P.2.2.1 k → j = k
theorem inj_le : ∀ (n c : Nat) (r : Nat → Nat), (∀ k, k < c → r k < n) → (∀ j k, j < c → k < c → r j = r k → j = k) → c ≤ n
  | 0, c, r, h, _ => by
    rcases Nat.eq_zero_or_pos c with h0 | h0
    · omega
    · exact absurd (h 0 h0) (by omega)
  | n + 1, c, r, h, hi => by
    by_cases hex : ∃ k, k < c ∧ r k = n
    · obtain ⟨k, hk, hkn⟩ := hex
      have ih := inj_le n (c - 1) (fun j => if j = k then r (c - 1) else r j) (fun j hj => by
        show (if j = k then r (c - 1) else r j) < n
        by_cases e : j = k
        · rw [if_pos e]
          have h1 := h (c - 1) (by omega)
          have h2 : r (c - 1) ≠ n := fun q => by
            have := hi (c - 1) k (by omega) hk (q.trans hkn.symm)
            omega
          omega
        · rw [if_neg e]
          have h1 := h j (by omega)
          have h2 : r j ≠ n := fun q => e (hi j k (by omega) hk (q.trans hkn.symm))
          omega) (fun a b ha hb hab => by
        have hab' : (if a = k then r (c - 1) else r a) = (if b = k then r (c - 1) else r b) := hab
        by_cases e1 : a = k
        · by_cases e2 : b = k
          · rw [e1, e2]
          · rw [if_pos e1, if_neg e2] at hab'
            have := hi (c - 1) b (by omega) (by omega) hab'
            omega
        · by_cases e2 : b = k
          · rw [if_neg e1, if_pos e2] at hab'
            have := hi a (c - 1) (by omega) (by omega) hab'
            omega
          · rw [if_neg e1, if_neg e2] at hab'
            exact hi a b (by omega) (by omega) hab')
      omega
    · have ih := inj_le n c r (fun k hk => by
        have h1 := h k hk
        have h2 : r k ≠ n := fun q => hex ⟨k, hk, q⟩
        omega) hi
      omega
theorem PI_le {n : Nat} {pl : Int32} {P : P2} (h : PI n pl P) : P.2.2.2 ≤ n := inj_le n _ P.2.2.1 (fun k hk => (h.1 k hk).1) h.2
theorem PI_lt {n d : Nat} {pl : Int32} {P : P2} (h : PI n pl P) (hd : d < n) (hne : ¬ P.2.1.2.1 d = pl) : P.2.2.2 < n := by
  have hx : ∀ k, k < P.2.2.2 → P.2.2.1 k ≠ d := fun k hk q => hne (q ▸ (h.1 k hk).2)
  have := inj_le n (P.2.2.2 + 1) (va_up P.2.2.1 P.2.2.2 d) (fun k hk => by
    by_cases e : k = P.2.2.2
    · rw [e, va_up_self]; exact hd
    · rw [va_up_ne _ _ e]; exact (h.1 k (by omega)).1) (fun a b ha hb hab => by
    by_cases e1 : a = P.2.2.2
    · by_cases e2 : b = P.2.2.2
      · rw [e1, e2]
      · rw [e1, va_up_self, va_up_ne _ _ e2] at hab
        exact absurd hab.symm (hx b (by omega))
    · by_cases e2 : b = P.2.2.2
      · rw [e2, va_up_self, va_up_ne _ _ e1] at hab
        exact absurd hab (hx a (by omega))
      · rw [va_up_ne _ _ e1, va_up_ne _ _ e2] at hab
        exact h.2 a b (by omega) (by omega) hab)
  omega
theorem PI_tak {n d : Nat} {pl x : Int32} {ty : Nat → Int32} {P : P2} (h : PI n pl P) (hd : d < n) (hne : P.2.2.2 = 0 ∨ ¬ P.2.1.2.1 d = pl) : PI n pl (takP ty pl d x P) := by
  have hx : ∀ k, k < P.2.2.2 → P.2.2.1 k ≠ d := fun k hk q => hne.elim (fun z => by omega) (fun z => z (q ▸ (h.1 k hk).2))
  refine ⟨fun k hk => ?_, fun a b ha hb hab => ?_⟩
  · have hk' : k < P.2.2.2 + 1 := hk
    show va_up P.2.2.1 P.2.2.2 d k < n ∧ upd P.2.1.2.1 d pl (va_up P.2.2.1 P.2.2.2 d k) = pl
    by_cases e : k = P.2.2.2
    · rw [e, va_up_self]; exact ⟨hd, pk_us⟩
    · rw [va_up_ne _ _ e, pk_un (hx k (by omega))]; exact h.1 k (by omega)
  · have ha' : a < P.2.2.2 + 1 := ha
    have hb' : b < P.2.2.2 + 1 := hb
    have hab : va_up P.2.2.1 P.2.2.2 d a = va_up P.2.2.1 P.2.2.2 d b := hab
    by_cases e1 : a = P.2.2.2
    · by_cases e2 : b = P.2.2.2
      · rw [e1, e2]
      · rw [e1, va_up_self, va_up_ne _ _ e2] at hab
        exact absurd hab.symm (hx b (by omega))
    · by_cases e2 : b = P.2.2.2
      · rw [e2, va_up_self, va_up_ne _ _ e1] at hab
        exact absurd hab (hx a (by omega))
      · rw [va_up_ne _ _ e1, va_up_ne _ _ e2] at hab
        exact h.2 a b (by omega) (by omega) hab
theorem PI_pn {n : Nat} {pl : Int32} {ty : Nat → Int32} {L : LS4} {i : Nat} (hft : ∀ j, j < L.1 → L.2.1 j < n ∧ L.2.2 j < n) : ∀ rem l (P : P2), l + rem = L.1 → PI n pl P → PI n pl (pnL ty pl L i rem l P)
  | 0, _, P, _, h => h
  | rem + 1, l, P, hl, h => by
    rw [pnL]
    by_cases e1 : L.2.1 l = i
    · rw [if_pos e1]
      by_cases e2 : P.2.1.2.1 (L.2.2 l) = pl
      · rw [if_pos e2]; exact PI_pn hft rem (l + 1) P (by omega) h
      · rw [if_neg e2]; exact PI_pn hft rem (l + 1) _ (by omega) (PI_tak h (hft l (by omega)).2 (Or.inr e2))
    · rw [if_neg e1]; exact PI_pn hft rem (l + 1) P (by omega) h
theorem tkr_up {ad : Nat → Nat} {tkr : Nat → Option Nat} {row : Nat → Nat} {c i : Nat} (h : ∀ k, k < c → tkr k = some (ad (100 + 2 * row k))) : ∀ k, k < c + 1 → va_up tkr c (some (ad (100 + 2 * i))) k = some (ad (100 + 2 * va_up row c i k)) := by
  intro k hk
  by_cases e : k = c
  · rw [e, va_up_self, va_up_self]
  · rw [va_up_ne _ _ e, va_up_ne _ _ e]; exact h k (by omega)
section LVQ
variable {p : Program} {l : Launch} {e : Env} {R : Room} {s : State} {m : MethodId} {args : Array Value} {below : List Frame} {meth : Method} {c : Code} {H : Heap} {locs : List Loc} {cells slots : Nat} {Q : State → Prop}
variable {cc : ByteArray} {pc : Nat} {ls : Array Slot} {rest : List Value}
theorem lv_astore_nq (hexec : p.tables.exec = Jvm.exec) (hb : c.code = cc) {k : Fin 4} {i nL : Nat} {v : Option Nat} {lv lv' : List (Nat × Value)} (hdg : decode cc pc = .ok (.astore_n k, 1)) (hi : (k : Nat) = i) (h : lv_has ls nL lv) (hn : i < nL) (hl : (i, va_rf v) :: lv.filter (fun q => !(q.1 == i) && !(q.1 + 1 == i && q.2.category == 2)) = lv')
    (kk : ∀ ls' : Array Slot, lv_has ls' nL lv' → W p l e R s m args below meth c H locs cells slots Q (F0 m (pc + 1) ls' rest)) : W p l e R s m args below meth c H locs cells slots Q (F0 m pc ls (va_rf v :: rest)) := by
  cases v with
  | none => exact lv_astore_nN hexec hb hdg hi h hn hl kk
  | some a => exact lv_astore_n hexec hb hdg hi h hn hl kk
end LVQ
end
section
set_option maxRecDepth 100000 in
set_option maxHeartbeats 4000000 in
theorem c_X4_letTake (l : Launch) (G : hG) (ad : Nat → Nat) (ct : Nat → Option va_E) {n : Nat} {ty : Nat → Int32} {L : LS4} {pl st0 : Int32} {P : P2} (hP : RCP G ad ct n ty L pl st0 P) {i : Nat} (hi : i < n) (hc3 : P.2.2.2 < 300) (x : Int32)  : Met l yX4_letTake wzX4_letTake { frames := 125, cells := 0, slots := 0, locals := 2888 } (hPw [.ref (ad 0), .ref (ad (100 + 2 * i)), .int x] G ad ct) (hQv (fun ct1 => RCP G ad ct1 n ty L pl st0 (takP ty pl i x P)) G ad) 0 0 (hA G.2.2.2) := by
  refine hMetw (by decide) (Nat.le_of_ble_eq_true rfl) (fun p e s m below meth c ls S hr hlk hE hW hl => ?_)
  obtain ⟨hx, hb, hml, hown, hts⟩ := id S
  have hS : va_S (hA G.2.2.2) s.heap s.heap [] := va_S.rf
  have hl : lv_has ls 3 [(0, .ref (ad 0)), (1, .ref (ad (100 + 2 * i))), (2, .int x)] := hl
  obtain ⟨tkr, hR, htk⟩ := hP
  obtain ⟨h0, h1, h2, h3, h4, h5, h6, h7, hdv, hlks, hn300, hm400, hft, hty⟩ := id hR
  have hd_i := hdv i hi
  refine lv_aload_n hx hb dX4_letTake_0 rfl (lv_at hl 0 rfl) ?_
  refine hr_get S hE hW h0 inX4 (C := RX4) (T := TX4) (N := 9) rfl 6 (by decide) q_f_4_81 rfl dX4_letTake_1 ?_
  refine lv_aload_n hx hb dX4_letTake_4 rfl (lv_at hl 0 rfl) ?_
  refine hr_get S hE hW h0 inX4 (C := RX4) (T := TX4) (N := 9) rfl 3 (by decide) q_f_4_29 rfl dX4_letTake_5 ?_
  refine hr_alen S hE hW h7 2 rfl (v := 300) rfl dX4_letTake_8 ?_
  refine lv_icmp_ge (tgt := 41) hx hb dX4_letTake_9 (by decide) (fun q => absurd q (nI_ge (b := 300) hc3 (by omega))) (fun _ => ?_)
  refine lv_aload_n hx hb dX4_letTake_12 rfl (lv_at hl 0 rfl) ?_
  refine hr_get S hE hW h0 inX4 (C := RX4) (T := TX4) (N := 9) rfl 3 (by decide) q_f_4_29 rfl dX4_letTake_13 ?_
  refine lv_aload_n hx hb dX4_letTake_16 rfl (lv_at hl 0 rfl) ?_
  refine hr_get S hE hW h0 inX4 (C := RX4) (T := TX4) (N := 9) rfl 6 (by decide) q_f_4_81 rfl dX4_letTake_17 ?_
  refine lv_aload_n hx hb dX4_letTake_20 rfl (lv_at hl 1 rfl) ?_
  refine hr_aastk S hE hW hS h7 hd_i (j := P.2.2.2) rfl hc3 (by decide) dX4_letTake_21 (fun H locs ct_1 hW hk_2 hg_3 hz hS => ?_)
  have hR := RC_7 hR hk_2 hg_3
  obtain ⟨h0, h1, h2, h3, h4, h5, h6, h7, hdv, hlks, hn300, hm400, hft, hty⟩ := id hR
  have hd_i := hdv i hi
  refine lv_aload_n hx hb dX4_letTake_22 rfl (lv_at hl 0 rfl) ?_
  refine lv_dup hx hb dX4_letTake_23 rfl ?_
  refine hr_get S hE hW h0 inX4 (C := RX4) (T := TX4) (N := 9) rfl 6 (by decide) q_f_4_81 rfl dX4_letTake_24 ?_
  refine lv_iconst (v := 1) hx hb dX4_letTake_27 (by decide) ?_
  refine lv_iadd hx hb dX4_letTake_28 ?_
  rw [nI_1]
  refine hr_put S hE hW hS h0 inX4 (C := RX4) (T := TX4) (N := 9) tyX4_ok nmX4 rfl 6 (by decide) q_f_4_81 rfl rfl rfl (Nat.le_of_ble_eq_true rfl) dX4_letTake_29 (fun H locs ct_4 hW hk_5 hg_6 hz hS => ?_)
  have hR := RC_o hR hk_5 hg_6
  obtain ⟨h0, h1, h2, h3, h4, h5, h6, h7, hdv, hlks, hn300, hm400, hft, hty⟩ := id hR
  have hd_i := hdv i hi
  refine lv_aload_n hx hb dX4_letTake_32 rfl (lv_at hl 1 rfl) ?_
  refine lv_iload_n hx hb dX4_letTake_33 rfl (lv_at hl 2 rfl) ?_
  refine lv_aload_n hx hb dX4_letTake_34 rfl (lv_at hl 0 rfl) ?_
  refine hr_get S hE hW h0 inX4 (C := RX4) (T := TX4) (N := 9) rfl 7 (by decide) q_f_4_78 rfl dX4_letTake_35 ?_
  refine hc_v (va_runVN (As := [.int x, .int pl]) (rest := []) S (c_X0_take l G ad _ (k := 100 + 2 * i) (t := ty i) (tk := (P.2.1.1 i)) (lp := (P.2.1.2.1 i)) (ta := (P.2.1.2.2 i)) (r := rvL [va_rf (lkF ad (geL L.2.1 i L.1 0)), va_rf (lkF ad (lstL L.2.1 i L.1)), .int (nI (cntL L.2.1 i L.1)), .int (nI (cntL L.2.2 i L.1)), .int (P.2.1.1 i), .int (P.2.1.2.1 i), .int (P.2.1.2.2 i)]) (q := getD i P.1) (by omega) h1 h5 h4 hd_i h2 h3 x pl) ⟨va_cnB 2 hts (gWS q_co_X0_take) rfl rfl rfl (hE.nest 26 rfl) (hts _ q_in_0) (by decide +kernel) ⟨Nat.le_of_ble_eq_true rfl, Nat.le_of_ble_eq_true rfl⟩, hts _ q_im_X0_take, hts _ q_se_X0_take⟩ (hPreVw hE hS (hrecv hE hW hd_i (q := (RX0, TX0, 12)) rfl) hW) rfl rfl hl.1 rfl (lv_room (Nat.le_of_ble_eq_true rfl)) dX4_letTake_38 ⟨Nat.le_of_ble_eq_true rfl, Nat.le_of_ble_eq_true rfl⟩) hS (fun ct_7 H locs hp hW hS => ?_)
  obtain ⟨h_8, h_9, h_10, hg_11⟩ := hp
  have hR := RC_k (q := (runS 40 (ty i) (selOfF selT (ty i) (takActF (ty i))) x (getD i P.1)).2) hR hi h_8 h_9 h_10 hg_11
  obtain ⟨h0, h1, h2, h3, h4, h5, h6, h7, hdv, hlks, hn300, hm400, hft, hty⟩ := id hR
  have hd_i := hdv i hi
  exact h_vret S hr hlk hS hW dX4_letTake_41 ⟨_, hR, tkr_up htk⟩
set_option maxRecDepth 100000 in
set_option maxHeartbeats 4000000 in
theorem c_X4_passOn (l : Launch) (G : hG) (ad : Nat → Nat) (ct : Nat → Option va_E) {n : Nat} {ty : Nat → Int32} {L : LS4} {pl st0 : Int32} {P0 : P2} (hP0 : RCP G ad ct n ty L pl st0 P0) {i : Nat} (hi : i < n) (hPI : PI n pl P0)  : Met l yX4_passOn wzX4_passOn { frames := 126, cells := 0, slots := 0, locals := 2910 } (hPw [.ref (ad 0), .ref (ad (100 + 2 * i))] G ad ct) (hQv (fun ct1 => RCP G ad ct1 n ty L pl st0 (pnL ty pl L i L.1 0 P0)) G ad) 0 0 (hA G.2.2.2) := by
  refine hMetw (by decide) (Nat.le_of_ble_eq_true rfl) (fun p e s m below meth c ls S hr hlk hE hW hl => ?_)
  obtain ⟨hx, hb, hml, hown, hts⟩ := id S
  have hS : va_S (hA G.2.2.2) s.heap s.heap [] := va_S.rf
  have hl : lv_has ls 3 [(0, .ref (ad 0)), (1, .ref (ad (100 + 2 * i)))] := hl
  obtain ⟨tkr, hR, htk⟩ := hP0
  obtain ⟨h0, h1, h2, h3, h4, h5, h6, h7, hdv, hlks, hn300, hm400, hft, hty⟩ := id hR
  have hd_i := hdv i hi
  refine lv_aload_n hx hb dX4_passOn_0 rfl (lv_at hl 1 rfl) ?_
  refine hr_getN S hE hW hd_i inX0 (C := RX0) (T := TX0) (N := 12) rfl 5 (by decide) (hE.nest 1 rfl) rfl dX4_passOn_1 ?_
  refine lv_astore_nq (lv' := [(2, va_rf (lkF ad (geL L.2.1 i L.1 0))), (0, .ref (ad 0)), (1, .ref (ad (100 + 2 * i)))]) hx hb dX4_passOn_4 rfl hl (by decide) rfl (fun ls hl => ?_)
  have loop : ∀ (rem y : Nat) (P : P2) (ct : Nat → Option va_E) (H : Heap) (locs : List Loc) (ls : Array Slot), y + rem = L.1 → pnL ty pl L i L.1 0 P0 = pnL ty pl L i rem y P → PI n pl P → RCP G ad ct n ty L pl st0 P → hw G ad ct H → va_S (hA G.2.2.2) s.heap H locs → lv_has ls 3 [(2, va_rf (lkF ad (geL L.2.1 i rem y))), (0, .ref (ad 0)), (1, .ref (ad (100 + 2 * i)))] → W p l e { frames := 126, cells := 0, slots := 0, locals := 2910 } s m ([.ref (ad 0), .ref (ad (100 + 2 * i))] : List Value).toArray below meth c H locs 0 0 (MQ below (hQv (fun ct1 => RCP G ad ct1 n ty L pl st0 (pnL ty pl L i L.1 0 P0)) G ad) ([.ref (ad 0), .ref (ad (100 + 2 * i))] : List Value).toArray s 0 0 (hA G.2.2.2)) (F0 m 5 ls []) := by
    intro rem
    induction rem with
    | zero =>
      intro y P ct H locs ls hnk hv hPI hP hW hS hl
      rw [geL, lkF, Option.map_none, va_rf_n] at hl
      refine lv_aload_nN hx hb dX4_passOn_5 rfl (lv_at hl 0 rfl) ?_
      refine lv_ifnullN (tgt := 43) hx hb dX4_passOn_6 (by decide) ?_
      exact h_vret S hr hlk hS hW dX4_passOn_43 (by rw [hv]; exact hP)
    | succ rem ih =>
      intro y P ct H locs ls hnk hv hPI hP hW hS hl
      by_cases e1 : L.2.1 y = i
      · rw [geL, if_pos e1, lkF, Option.map_some, va_rf_s] at hl
        obtain ⟨tkr, hR, htk⟩ := hP
        have hy : y < L.1 := by omega
        obtain ⟨h0, h1, h2, h3, h4, h5, h6, h7, hdv, hlks, hn300, hm400, hft, hty⟩ := id hR
        have hd_i := hdv i hi
        have hl_y := hlks y hy
        have ht_y := (hft y hy).2
        have hdt_y := hdv (L.2.2 y) ht_y
        refine lv_aload_n hx hb dX4_passOn_5 rfl (lv_at hl 0 rfl) ?_
        refine lv_ifnull hx hb dX4_passOn_6 ?_
        refine lv_aload_n hx hb dX4_passOn_9 rfl (lv_at hl 0 rfl) ?_
        refine hr_getN S hE hW hl_y inX2 (C := RX2) (T := TX2) (N := 2) rfl 0 (by decide) (hE.nest 5 rfl) rfl dX4_passOn_10 ?_
        refine hr_getN S hE hW hdt_y inX0 (C := RX0) (T := TX0) (N := 12) rfl 10 (by decide) (hE.nest 3 rfl) rfl dX4_passOn_13 ?_
        refine lv_aload_n hx hb dX4_passOn_16 rfl (lv_at hl 1 rfl) ?_
        refine hr_get S hE hW h0 inX4 (C := RX4) (T := TX4) (N := 9) rfl 7 (by decide) q_f_4_78 rfl dX4_passOn_17 ?_
        refine lv_icmp_eq (tgt := 35) hx hb dX4_passOn_20 (by decide) (fun c_20 => ?_) (fun c_20 => ?_)
        · refine lv_aload_n hx hb dX4_passOn_35 rfl (lv_at hl 0 rfl) ?_
          refine hr_getN S hE hW hl_y inX2 (C := RX2) (T := TX2) (N := 2) rfl 1 (by decide) (hE.nest 7 rfl) rfl dX4_passOn_36 ?_
          refine lv_astore_nq (lv' := [(2, va_rf (lkF ad (geL L.2.1 (L.2.1 y) (L.1 - (y + 1)) (y + 1)))), (0, .ref (ad 0)), (1, .ref (ad (100 + 2 * i)))]) hx hb dX4_passOn_39 rfl hl (by decide) rfl (fun ls hl => ?_)
          refine lv_goto (tgt := 5) hx hb dX4_passOn_40 (by decide) ?_
          have e3 : geL L.2.1 (L.2.1 y) (L.1 - (y + 1)) (y + 1) = geL L.2.1 i rem (y + 1) := by rw [e1, show L.1 - (y + 1) = rem by omega]
          rw [e3] at hl
          exact ih (y + 1) P _ _ _ _ (by omega) (by rw [hv, pnL, if_pos e1, if_pos c_20]) hPI ⟨tkr, hR, htk⟩ hW hS (lv_sub hl [0, 1, 2] rfl)
        · refine lv_aload_n hx hb dX4_passOn_23 rfl (lv_at hl 1 rfl) ?_
          refine lv_aload_n hx hb dX4_passOn_24 rfl (lv_at hl 0 rfl) ?_
          refine hr_getN S hE hW hl_y inX2 (C := RX2) (T := TX2) (N := 2) rfl 0 (by decide) (hE.nest 5 rfl) rfl dX4_passOn_25 ?_
          refine lv_aload_n hx hb dX4_passOn_28 rfl (lv_at hl 2 rfl) ?_
          refine hr_getN S hE hW hd_i inX0 (C := RX0) (T := TX0) (N := 12) rfl 11 (by decide) (hE.nest 4 rfl) rfl dX4_passOn_29 ?_
          refine hc_v (va_runV (As := [.ref (ad (100 + 2 * L.2.2 y)), .int (P.2.1.2.2 i)]) (rest := []) S (c_X4_letTake l G ad _ (pl := pl) (P := P) ⟨tkr, hR, htk⟩ (i := (L.2.2 y)) ht_y (Nat.lt_of_lt_of_le (PI_lt hPI ht_y c_20) hn300) (P.2.1.2.2 i)) (cwV 2 hts (gWSV q_l_4_84 q_im_X4_letTake q_se_X4_letTake q_in_4 q_co_X4_letTake) rfl rfl rfl (by decide +kernel) ⟨Nat.le_of_ble_eq_true rfl, Nat.le_of_ble_eq_true rfl⟩) (hPreVw hE hS (hrecv hE hW h0 (q := (RX4, TX4, 9)) rfl) hW) rfl rfl hl.1 rfl (lv_room (Nat.le_of_ble_eq_true rfl)) dX4_passOn_32 ⟨Nat.le_of_ble_eq_true rfl, Nat.le_of_ble_eq_true rfl⟩) hS (fun ct_1 H locs hP hW hS => ?_)
          obtain ⟨tkr, hR, htk⟩ := hP
          obtain ⟨h0, h1, h2, h3, h4, h5, h6, h7, hdv, hlks, hn300, hm400, hft, hty⟩ := id hR
          have hd_i := hdv i hi
          have hl_y := hlks y hy
          have ht_y := (hft y hy).2
          have hdt_y := hdv (L.2.2 y) ht_y
          refine lv_aload_n hx hb dX4_passOn_35 rfl (lv_at hl 0 rfl) ?_
          refine hr_getN S hE hW hl_y inX2 (C := RX2) (T := TX2) (N := 2) rfl 1 (by decide) (hE.nest 7 rfl) rfl dX4_passOn_36 ?_
          refine lv_astore_nq (lv' := [(2, va_rf (lkF ad (geL L.2.1 (L.2.1 y) (L.1 - (y + 1)) (y + 1)))), (0, .ref (ad 0)), (1, .ref (ad (100 + 2 * i)))]) hx hb dX4_passOn_39 rfl hl (by decide) rfl (fun ls hl => ?_)
          refine lv_goto (tgt := 5) hx hb dX4_passOn_40 (by decide) ?_
          have e3 : geL L.2.1 (L.2.1 y) (L.1 - (y + 1)) (y + 1) = geL L.2.1 i rem (y + 1) := by rw [e1, show L.1 - (y + 1) = rem by omega]
          rw [e3] at hl
          exact ih (y + 1) (takP ty pl (L.2.2 y) (P.2.1.2.2 i) P) _ _ _ _ (by omega) (by rw [hv, pnL, if_pos e1, if_neg c_20]) (PI_tak hPI (hft y hy).2 (Or.inr c_20)) ⟨tkr, hR, htk⟩ hW hS (lv_sub hl [0, 1, 2] rfl)
      · rw [geL, if_neg e1] at hl
        exact ih (y + 1) P _ _ _ _ (by omega) (by rw [hv, pnL, if_neg e1]) hPI hP hW hS hl
  exact loop L.1 0 P0 _ _ _ _ (by omega) rfl hPI ⟨tkr, hR, htk⟩ hW hS (lv_sub hl [0, 1, 2] rfl)
set_option maxRecDepth 100000 in
set_option maxHeartbeats 4000000 in
theorem c_X4_pass_no (l : Launch) (G : hG) (ad : Nat → Nat) (ct : Nat → Option va_E) {n : Nat} {ty : Nat → Int32} {A : AS} {T : TS} {L : LS4} {K : KS} {st0 : Int32} (hR : RC G ad ct n ty A T L K st0) {d : Int32} (hd : ∀ i, i < n → d ≠ nI i) (x : Int32)  : Met l yX4_pass wzX4_pass { frames := 1, cells := 0, slots := 0, locals := 21 } (hPw [.ref (ad 0), .int d, .int x] G ad ct) (hQi (fun r ct1 => r = 0 ∧ RC G ad ct1 n ty A T L K 1) G ad) 0 0 (hA G.2.2.2) := by
  refine hMetw (by decide) (Nat.le_of_ble_eq_true rfl) (fun p e s m below meth c ls S hr hlk hE hW hl => ?_)
  obtain ⟨hx, hb, hml, hown, hts⟩ := id S
  have hS : va_S (hA G.2.2.2) s.heap s.heap [] := va_S.rf
  have hl : lv_has ls 6 [(0, .ref (ad 0)), (1, .int d), (2, .int x)] := hl
  obtain ⟨h0, h1, h2, h3, h4, h5, h6, h7, hdv, hlks, hn300, hm400, hft, hty⟩ := id hR
  refine lv_aload_n hx hb dX4_pass_0 rfl (lv_at hl 0 rfl) ?_
  refine lv_iload_n hx hb dX4_pass_1 rfl (lv_at hl 1 rfl) ?_
  refine hc_rq (va_runV (As := [.int d]) (rest := []) S (c_X4_find l G _ hW h0 h6 d) (cwV 1 hts (gWSV q_l_4_42 q_im_X4_find q_se_X4_find q_in_4 q_co_X4_find) rfl rfl rfl (by decide +kernel) ⟨Nat.le_of_ble_eq_true rfl, Nat.le_of_ble_eq_true rfl⟩) (hPreVr hE hS (hrecv hE hW h0 (q := (RX4, TX4, 9)) rfl)) rfl rfl hl.1 rfl (lv_room (Nat.le_of_ble_eq_true rfl)) dX4_pass_2 ⟨Nat.le_of_ble_eq_true rfl, Nat.le_of_ble_eq_true rfl⟩) hS (fun locs hS => ?_)
  rw [findF_no hn300 hd, va_rf_n]
  refine lv_astore_nN (lv' := [(3, .null), (0, .ref (ad 0)), (1, .int d), (2, .int x)]) hx hb dX4_pass_5 rfl hl (by decide) rfl (fun ls hl => ?_)
  refine lv_aload_nN hx hb dX4_pass_6 rfl (lv_at hl 0 rfl) ?_
  refine lv_ifnonnullN hx hb dX4_pass_7 ?_
  refine lv_aload_n hx hb dX4_pass_10 rfl (lv_at hl 1 rfl) ?_
  refine lv_iconst (v := 1) hx hb dX4_pass_11 (by decide) ?_
  refine hr_put S hE hW hS h0 inX4 (C := RX4) (T := TX4) (N := 9) tyX4_ok nmX4 rfl 8 (by decide) q_f_4_32 rfl rfl rfl (Nat.le_of_ble_eq_true rfl) dX4_pass_12 (fun H locs ct_1 hW hk_2 hg_3 hz hS => ?_)
  have hR := RC_o hR hk_2 hg_3
  obtain ⟨h0, h1, h2, h3, h4, h5, h6, h7, hdv, hlks, hn300, hm400, hft, hty⟩ := id hR
  refine lv_iconst (v := 0) hx hb dX4_pass_15 (by decide) ?_
  exact h_iret S hr hlk hS hW dX4_pass_16 ⟨rfl, hR⟩
set_option maxRecDepth 100000 in
set_option maxHeartbeats 4000000 in
theorem c_X4_pass_ok (l : Launch) (G : hG) (ad : Nat → Nat) (ct : Nat → Option va_E) {n : Nat} {ty : Nat → Int32} {A : AS} {T : TS} {L : LS4} {K : KS} {st0 : Int32} (hR : RC G ad ct n ty A T L K st0) {i : Nat} (hi : i < n) (x : Int32)  : Met l yX4_pass wzX4_pass { frames := 127, cells := 0, slots := 0, locals := 2932 } (hPw [.ref (ad 0), .int (nI i), .int x] G ad ct) (hQi (fun r ct1 => r = nI (psR ty (K.2.2 + 1) n L i x A T).2.2.2 ∧ RCP G ad ct1 n ty L (K.2.2 + 1) 0 (psR ty (K.2.2 + 1) n L i x A T)) G ad) 0 0 (hA G.2.2.2) := by
  refine hMetw (by decide) (Nat.le_of_ble_eq_true rfl) (fun p e s m below meth c ls S hr hlk hE hW hl => ?_)
  obtain ⟨hx, hb, hml, hown, hts⟩ := id S
  have hS : va_S (hA G.2.2.2) s.heap s.heap [] := va_S.rf
  have hl : lv_has ls 6 [(0, .ref (ad 0)), (1, .int (nI i)), (2, .int x)] := hl
  obtain ⟨h0, h1, h2, h3, h4, h5, h6, h7, hdv, hlks, hn300, hm400, hft, hty⟩ := id hR
  have hd_i := hdv i hi
  refine lv_aload_n hx hb dX4_pass_0 rfl (lv_at hl 0 rfl) ?_
  refine lv_iload_n hx hb dX4_pass_1 rfl (lv_at hl 1 rfl) ?_
  refine hc_rq (va_runV (As := [.int (nI i)]) (rest := []) S (c_X4_find l G _ hW h0 h6 (nI i)) (cwV 1 hts (gWSV q_l_4_42 q_im_X4_find q_se_X4_find q_in_4 q_co_X4_find) rfl rfl rfl (by decide +kernel) ⟨Nat.le_of_ble_eq_true rfl, Nat.le_of_ble_eq_true rfl⟩) (hPreVr hE hS (hrecv hE hW h0 (q := (RX4, TX4, 9)) rfl)) rfl rfl hl.1 rfl (lv_room (Nat.le_of_ble_eq_true rfl)) dX4_pass_2 ⟨Nat.le_of_ble_eq_true rfl, Nat.le_of_ble_eq_true rfl⟩) hS (fun locs hS => ?_)
  rw [findF_ok hn300 hi, va_rf_s]
  refine lv_astore_n (lv' := [(3, .ref (ad (100 + 2 * i))), (0, .ref (ad 0)), (1, .int (nI i)), (2, .int x)]) hx hb dX4_pass_5 rfl hl (by decide) rfl (fun ls hl => ?_)
  refine lv_aload_n hx hb dX4_pass_6 rfl (lv_at hl 0 rfl) ?_
  refine lv_ifnonnull (tgt := 17) hx hb dX4_pass_7 (by decide) ?_
  refine lv_aload_n hx hb dX4_pass_17 rfl (lv_at hl 1 rfl) ?_
  refine lv_iconst (v := 0) hx hb dX4_pass_18 (by decide) ?_
  refine hr_put S hE hW hS h0 inX4 (C := RX4) (T := TX4) (N := 9) tyX4_ok nmX4 rfl 8 (by decide) q_f_4_32 rfl rfl rfl (Nat.le_of_ble_eq_true rfl) dX4_pass_19 (fun H locs ct_1 hW hk_2 hg_3 hz hS => ?_)
  have hR := RC_o hR hk_2 hg_3
  obtain ⟨h0, h1, h2, h3, h4, h5, h6, h7, hdv, hlks, hn300, hm400, hft, hty⟩ := id hR
  have hd_i := hdv i hi
  refine lv_aload_n hx hb dX4_pass_22 rfl (lv_at hl 1 rfl) ?_
  refine hr_get S hE hW h0 inX4 (C := RX4) (T := TX4) (N := 9) rfl 1 (by decide) q_f_4_19 rfl dX4_pass_23 ?_
  refine hc_v (va_runVN (As := []) (rest := []) S (c_X3_clear l G ad _ h2) ⟨va_cnB 0 hts (gWS q_co_X3_clear) rfl rfl rfl (hE.nest 18 rfl) (hts _ q_in_3) (by decide +kernel) ⟨Nat.le_of_ble_eq_true rfl, Nat.le_of_ble_eq_true rfl⟩, hts _ q_im_X3_clear, hts _ q_se_X3_clear⟩ (hPreVw hE hS (hrecv hE hW h2 (q := (RX3, TX3, 2)) rfl) hW) rfl rfl hl.1 rfl (lv_room (Nat.le_of_ble_eq_true rfl)) dX4_pass_26 ⟨Nat.le_of_ble_eq_true rfl, Nat.le_of_ble_eq_true rfl⟩) hS (fun ct_4 H locs hp hW hS => ?_)
  obtain ⟨h_5, hg_6⟩ := hp
  have hR := RC_t hR h_5 hg_6
  obtain ⟨h0, h1, h2, h3, h4, h5, h6, h7, hdv, hlks, hn300, hm400, hft, hty⟩ := id hR
  have hd_i := hdv i hi
  refine lv_aload_n hx hb dX4_pass_29 rfl (lv_at hl 1 rfl) ?_
  refine lv_dup hx hb dX4_pass_30 rfl ?_
  refine hr_get S hE hW h0 inX4 (C := RX4) (T := TX4) (N := 9) rfl 7 (by decide) q_f_4_78 rfl dX4_pass_31 ?_
  refine lv_iconst (v := 1) hx hb dX4_pass_34 (by decide) ?_
  refine lv_iadd hx hb dX4_pass_35 ?_
  refine hr_put S hE hW hS h0 inX4 (C := RX4) (T := TX4) (N := 9) tyX4_ok nmX4 rfl 7 (by decide) q_f_4_78 rfl rfl rfl (Nat.le_of_ble_eq_true rfl) dX4_pass_36 (fun H locs ct_7 hW hk_8 hg_9 hz hS => ?_)
  have hR := RC_o hR hk_8 hg_9
  obtain ⟨h0, h1, h2, h3, h4, h5, h6, h7, hdv, hlks, hn300, hm400, hft, hty⟩ := id hR
  have hd_i := hdv i hi
  refine lv_aload_n hx hb dX4_pass_39 rfl (lv_at hl 1 rfl) ?_
  refine lv_iconst (v := 0) hx hb dX4_pass_40 (by decide) ?_
  refine hr_put S hE hW hS h0 inX4 (C := RX4) (T := TX4) (N := 9) tyX4_ok nmX4 rfl 6 (by decide) q_f_4_81 rfl rfl rfl (Nat.le_of_ble_eq_true rfl) dX4_pass_41 (fun H locs ct_10 hW hk_11 hg_12 hz hS => ?_)
  have hR := RC_o hR hk_11 hg_12
  obtain ⟨h0, h1, h2, h3, h4, h5, h6, h7, hdv, hlks, hn300, hm400, hft, hty⟩ := id hR
  have hd_i := hdv i hi
  have htk : ∀ k, k < ((clrA A, T, (fun _ => 0), 0) : P2).2.2.2 → K.1 k = some (ad (100 + 2 * ((clrA A, T, (fun _ => 0), 0) : P2).2.2.1 k)) := fun k hk => absurd hk (Nat.not_lt_zero k)
  refine lv_aload_n hx hb dX4_pass_44 rfl (lv_at hl 1 rfl) ?_
  refine lv_aload_n hx hb dX4_pass_45 rfl (lv_at hl 0 rfl) ?_
  refine lv_iload_n hx hb dX4_pass_46 rfl (lv_at hl 3 rfl) ?_
  refine hc_v (va_runV (As := [.ref (ad (100 + 2 * i)), .int x]) (rest := []) S (c_X4_letTake l G ad _ (pl := (K.2.2 + 1)) (P := ((clrA A, T, (fun _ => 0), 0) : P2)) ⟨K.1, hR, htk⟩ (i := i) hi (show (0 : Nat) < 300 by omega) x) (cwV 2 hts (gWSV q_l_4_84 q_im_X4_letTake q_se_X4_letTake q_in_4 q_co_X4_letTake) rfl rfl rfl (by decide +kernel) ⟨Nat.le_of_ble_eq_true rfl, Nat.le_of_ble_eq_true rfl⟩) (hPreVw hE hS (hrecv hE hW h0 (q := (RX4, TX4, 9)) rfl) hW) rfl rfl hl.1 rfl (lv_room (Nat.le_of_ble_eq_true rfl)) dX4_pass_47 ⟨Nat.le_of_ble_eq_true rfl, Nat.le_of_ble_eq_true rfl⟩) hS (fun ct_13 H locs hP hW hS => ?_)
  obtain ⟨tkr, hR, htk⟩ := hP
  obtain ⟨h0, h1, h2, h3, h4, h5, h6, h7, hdv, hlks, hn300, hm400, hft, hty⟩ := id hR
  refine lv_iconst (v := 0) hx hb dX4_pass_50 (by decide) ?_
  refine lv_istore (lv' := [(4, .int 0), (3, .ref (ad (100 + 2 * i))), (0, .ref (ad 0)), (1, .int (nI i)), (2, .int x)]) hx hb dX4_pass_51 hl (by decide) rfl (fun ls hl => ?_)
  have loop : ∀ (rem k : Nat) (P : P2) (ct : Nat → Option va_E) (H : Heap) (locs : List Loc) (ls : Array Slot), k + rem = n + 1 → psR ty (K.2.2 + 1) n L i x A T = psL ty (K.2.2 + 1) L rem k P → PI n (K.2.2 + 1) P → RCP G ad ct n ty L (K.2.2 + 1) 0 P → hw G ad ct H → va_S (hA G.2.2.2) s.heap H locs → lv_has ls 6 [(4, .int (nI k)), (0, .ref (ad 0))] → W p l e { frames := 127, cells := 0, slots := 0, locals := 2932 } s m ([.ref (ad 0), .int (nI i), .int x] : List Value).toArray below meth c H locs 0 0 (MQ below (hQi (fun r ct1 => r = nI (psR ty (K.2.2 + 1) n L i x A T).2.2.2 ∧ RCP G ad ct1 n ty L (K.2.2 + 1) 0 (psR ty (K.2.2 + 1) n L i x A T)) G ad) ([.ref (ad 0), .int (nI i), .int x] : List Value).toArray s 0 0 (hA G.2.2.2)) (F0 m 53 ls []) := by
    intro rem
    induction rem with
    | zero =>
      intro k P ct H locs ls hnk hv hPI hP hW hS hl
      have hcn := PI_le hPI
      obtain ⟨tkr, hR, htk⟩ := hP
      obtain ⟨h0, h1, h2, h3, h4, h5, h6, h7, hdv, hlks, hn300, hm400, hft, hty⟩ := id hR
      refine lv_iload hx hb dX4_pass_53 (lv_at hl 0 rfl) ?_
      refine lv_aload_n hx hb dX4_pass_55 rfl (lv_at hl 1 rfl) ?_
      refine hr_get S hE hW h0 inX4 (C := RX4) (T := TX4) (N := 9) rfl 6 (by decide) q_f_4_81 rfl dX4_pass_56 ?_
      refine lv_icmp_ge (tgt := 98) hx hb dX4_pass_59 (by decide) (fun _ => ?_) (fun q => absurd (nI_le (by omega) (by omega)) q)
      refine lv_aload_n hx hb dX4_pass_98 rfl (lv_at hl 1 rfl) ?_
      refine hr_get S hE hW h0 inX4 (C := RX4) (T := TX4) (N := 9) rfl 6 (by decide) q_f_4_81 rfl dX4_pass_99 ?_
      exact h_iret S hr hlk hS hW dX4_pass_102 (by rw [hv]; exact ⟨rfl, tkr, hR, htk⟩)
    | succ rem ih =>
      intro k P ct H locs ls hnk hv hPI hP hW hS hl
      have hcn := PI_le hPI
      obtain ⟨tkr, hR, htk⟩ := hP
      by_cases hkc : k < P.2.2.2
      · have hrow := (hPI.1 k hkc).1
        obtain ⟨h0, h1, h2, h3, h4, h5, h6, h7, hdv, hlks, hn300, hm400, hft, hty⟩ := id hR
        have hd_r := hdv _ hrow
        refine lv_iload hx hb dX4_pass_53 (lv_at hl 0 rfl) ?_
        refine lv_aload_n hx hb dX4_pass_55 rfl (lv_at hl 1 rfl) ?_
        refine hr_get S hE hW h0 inX4 (C := RX4) (T := TX4) (N := 9) rfl 6 (by decide) q_f_4_81 rfl dX4_pass_56 ?_
        refine lv_icmp_ge (tgt := 98) hx hb dX4_pass_59 (by decide) (fun q => absurd q (nI_ge hkc (by omega))) (fun _ => ?_)
        refine lv_iload hx hb dX4_pass_62 (lv_at hl 0 rfl) ?_
        refine lv_aload_n hx hb dX4_pass_64 rfl (lv_at hl 1 rfl) ?_
        refine hr_get S hE hW h0 inX4 (C := RX4) (T := TX4) (N := 9) rfl 3 (by decide) q_f_4_29 rfl dX4_pass_65 ?_
        refine hr_alen S hE hW h7 2 rfl (v := 300) rfl dX4_pass_68 ?_
        refine lv_icmp_ge (tgt := 98) hx hb dX4_pass_69 (by decide) (fun q => absurd q (nI_ge (b := 300) (by omega) (by omega))) (fun _ => ?_)
        refine lv_aload_n hx hb dX4_pass_72 rfl (lv_at hl 1 rfl) ?_
        refine hr_get S hE hW h0 inX4 (C := RX4) (T := TX4) (N := 9) rfl 3 (by decide) q_f_4_29 rfl dX4_pass_73 ?_
        refine lv_iload hx hb dX4_pass_76 (lv_at hl 0 rfl) ?_
        refine hr_aaldk S hE hW h7 (j := k) rfl (by omega) (by decide) dX4_pass_78 ?_
        rw [show ((tkr, nI P.2.2.2, (K.2.2 + 1)) : KS).1 k = some (ad (100 + 2 * P.2.2.1 k)) from htk k hkc, va_rf_s]
        refine lv_astore (lv' := [(5, .ref (ad (100 + 2 * P.2.2.1 k))), (4, .int (nI k)), (0, .ref (ad 0))]) hx hb dX4_pass_79 hl (by decide) rfl (fun ls hl => ?_)
        refine lv_aload hx hb dX4_pass_81 (lv_at hl 0 rfl) ?_
        refine lv_ifnull hx hb dX4_pass_83 ?_
        refine lv_aload_n hx hb dX4_pass_86 rfl (lv_at hl 2 rfl) ?_
        refine lv_aload hx hb dX4_pass_87 (lv_at hl 0 rfl) ?_
        refine hc_v (va_runV (As := [.ref (ad (100 + 2 * P.2.2.1 k))]) (rest := []) S (c_X4_passOn l G ad _ (pl := (K.2.2 + 1)) (P0 := P) ⟨tkr, hR, htk⟩ (i := (P.2.2.1 k)) hrow hPI) (cwV 1 hts (gWSV q_l_4_88 q_im_X4_passOn q_se_X4_passOn q_in_4 q_co_X4_passOn) rfl rfl rfl (by decide +kernel) ⟨Nat.le_of_ble_eq_true rfl, Nat.le_of_ble_eq_true rfl⟩) (hPreVw hE hS (hrecv hE hW h0 (q := (RX4, TX4, 9)) rfl) hW) rfl rfl hl.1 rfl (lv_room (Nat.le_of_ble_eq_true rfl)) dX4_pass_89 ⟨Nat.le_of_ble_eq_true rfl, Nat.le_of_ble_eq_true rfl⟩) hS (fun ct_14 H locs hP hW hS => ?_)
        obtain ⟨tkr, hR, htk⟩ := hP
        obtain ⟨h0, h1, h2, h3, h4, h5, h6, h7, hdv, hlks, hn300, hm400, hft, hty⟩ := id hR
        refine lv_iinc (v := (nI (k + 1))) (lv' := [(4, .int (nI (k + 1))), (5, .ref (ad (100 + 2 * P.2.2.1 k))), (0, .ref (ad 0))]) hx hb dX4_pass_92 hl (k := 1) rfl (nI_1 k) (by decide) rfl (fun ls hl => ?_)
        refine lv_goto (tgt := 53) hx hb dX4_pass_95 (by decide) ?_
        exact ih (k + 1) (pnL ty (K.2.2 + 1) L (P.2.2.1 k) L.1 0 P) _ _ _ _ (by omega) (by rw [hv, psL, if_pos hkc]) (PI_pn hft _ _ _ (by omega) hPI) ⟨tkr, hR, htk⟩ hW hS (lv_sub hl [0, 2] rfl)
      · have hkc2 : P.2.2.2 ≤ k := by omega
        obtain ⟨h0, h1, h2, h3, h4, h5, h6, h7, hdv, hlks, hn300, hm400, hft, hty⟩ := id hR
        refine lv_iload hx hb dX4_pass_53 (lv_at hl 0 rfl) ?_
        refine lv_aload_n hx hb dX4_pass_55 rfl (lv_at hl 1 rfl) ?_
        refine hr_get S hE hW h0 inX4 (C := RX4) (T := TX4) (N := 9) rfl 6 (by decide) q_f_4_81 rfl dX4_pass_56 ?_
        refine lv_icmp_ge (tgt := 98) hx hb dX4_pass_59 (by decide) (fun _ => ?_) (fun q => absurd (nI_le hkc2 (by omega)) q)
        refine lv_aload_n hx hb dX4_pass_98 rfl (lv_at hl 1 rfl) ?_
        refine hr_get S hE hW h0 inX4 (C := RX4) (T := TX4) (N := 9) rfl 6 (by decide) q_f_4_81 rfl dX4_pass_99 ?_
        exact h_iret S hr hlk hS hW dX4_pass_102 (by rw [hv, psL, if_neg hkc]; exact ⟨rfl, tkr, hR, htk⟩)
  exact loop (n + 1) 0 (takP ty (K.2.2 + 1) i x ((clrA A, T, (fun _ => 0), 0) : P2)) _ _ _ _ (by omega) rfl (PI_tak ⟨fun k hk => absurd hk (Nat.not_lt_zero k), fun j k hj => absurd hj (Nat.not_lt_zero j)⟩ hi (Or.inl rfl)) ⟨tkr, hR, htk⟩ hW hS (lv_sub hl [0, 2] rfl)
end
section
/-! constructors of the class: the tables as they fill -/
def bF (t : Nat) : Nat → Int32 := fun j => if j < t then borT j else 0
def sF (t : Nat) : Nat → Int32 := fun j => if j < t then selT j else 0
theorem cut_up {g : Nat → Int32} {t : Nat} : upd (fun j => if j < t then g j else 0) t (g t) = fun j => if j < t + 1 then g j else 0 := by
  funext j
  unfold upd
  by_cases e : j = t
  · subst e; simp
  · by_cases h : j < t
    · simp [e, h, Nat.lt_succ_of_lt h]
    · simp [e, h, show ¬ j < t + 1 by omega]
theorem cut_all {l : List Int32} {n : Nat} (h : l.length ≤ n) : (fun j => if j < n then tab l j else 0) = tab l := by
  funext j
  by_cases e : j < n
  · rw [if_pos e]
  · rw [if_neg e]
    unfold tab List.getD
    rw [List.getElem?_eq_none (show l.length ≤ j by omega)]; rfl
theorem bF_up (t : Nat) : upd (bF t) t (borT t) = bF (t + 1) := cut_up
theorem sF_up (t : Nat) : upd (sF t) t (selT t) = sF (t + 1) := cut_up
theorem bF_all : bF 18 = borT := cut_all (by decide +kernel)
theorem sF_all : sF 216 = selT := cut_all (by decide +kernel)
theorem f0_bF : (fun _ => 0) = bF 0 := by funext j; unfold bF; simp
theorem f0_sF : (fun _ => 0) = sF 0 := by funext j; unfold sF; simp
set_option maxRecDepth 100000 in
theorem ifc_tab : ∀ t, t < 18 → ifcF (bF t) (nI t) = borT t := by decide +kernel
set_option maxRecDepth 100000 in
theorem sel_tab0 : ∀ t, t < 18 → ∀ a, a < 12 → selF (bF (t + 1)) (nI t) (nI a) = selT (t * 12 + a) := by decide +kernel
theorem nI_ta (t a : Nat) : nI t * 12 + nI a = nI (t * 12 + a) := by rw [show (12 : Int32) = nI 12 from rfl, pk_mul, nI_add]
set_option maxRecDepth 100000 in
set_option maxHeartbeats 4000000 in
theorem c_X3_init (l : Launch) (G : hG) (ad : Nat → Nat) (ct : Nat → Option va_E) {N : Nat} (hk : ct 2 = some (.inr (3, [.null, .int 0]))) (had3 : ad 3 = N)  : Met l yX3_init wzX3_init { frames := 1, cells := 1, slots := 64, locals := 20 } (hPz [.ref (ad 2)] G ad ct N) (hQzv (fun ct1 => ct1 2 = some (.inr (3, [.ref (ad 3), .int 0])) ∧ ct1 3 = some (.inl (G.2.1.1, 64, .inl (fun _ => 0))) ∧ ∀ y, y ≠ 2 → y ≠ 3 → ct1 y = ct y) G ad (N + 1)) 1 64 (hA G.2.2.2) := by
  refine hMetz (by decide) (Nat.le_of_ble_eq_true rfl) (fun p e s m below meth c ls S hr hlk hin hE hW hsz hl => ?_)
  obtain ⟨hx, hb, hml, hown, hts⟩ := id S
  have hS : va_S (hA G.2.2.2) s.heap s.heap [] := va_S.rf
  have hl : lv_has ls 1 [(0, .ref (ad 2))] := hl
  refine lv_aload_n hx hb dX3_init_0 rfl (lv_at hl 0 rfl) ?_
  refine W.objInit hx hb hown (hts _ q_l_3_3) (hts _ q_im_O) (hts _ q_co_O) rfl (by rw [hml]; exact hl.1) rfl dX3_init_1 (Nat.le_of_ble_eq_true rfl) (Nat.le_of_ble_eq_true rfl) ?_
  refine W.eq (g2 := F0 m 4 ls []) rfl ?_
  refine lv_aload_n hx hb dX3_init_4 rfl (lv_at hl 0 rfl) ?_
  refine lv_bipush (v := 64) hx hb dX3_init_5 (by decide) ?_
  refine hr_newi S hE hW hS 3 (had3.trans hsz.symm) (hw_z hW hk) q_ac_int (by decide) rfl (Nat.le_of_ble_eq_true rfl) (Nat.le_of_ble_eq_true rfl) (Nat.le_of_ble_eq_true rfl) dX3_init_7 (fun H ct_1 hW hk_2 hg_3 hz hS => ?_)
  have hsz := hz.trans (congrArg (· + 1) hsz)
  have h_4 := (hg_3 2 (by decide)).trans hk
  have h_5 : ct_1 3 = some (.inl (G.2.1.1, 64, .inl (fun _ => 0))) := hk_2
  refine hr_putF S hE hW hS h_4 inX3 (C := RX3) (T := TX3) (N := 2) tyX3_ok nmX3 rfl 0 (by decide) q_f_3_11 rfl (hin rfl) rfl rfl rfl (Nat.le_of_ble_eq_true rfl) dX3_init_9 (fun H locs ct_6 hW hk_7 hg_8 hz hS => ?_)
  have hsz := hz.trans hsz
  have h_9 := (hg_8 3 (by decide)).trans h_5
  have h_10 : ct_6 2 = some (.inr (3, [.ref (ad 3), .int 0])) := hk_7
  exact h_zvret S hr hlk hS hW hsz dX3_init_12 ⟨h_10, h_9, (fun j q0 q1 => (hg_8 j q0).trans (hg_3 j q1))⟩
set_option maxRecDepth 100000 in
set_option maxHeartbeats 4000000 in
theorem c_X1_init (l : Launch) (G : hG) (ad : Nat → Nat) (ct : Nat → Option va_E) {N : Nat} (hk : ct 1 = some (.inr (1, [.null, .null]))) (had4 : ad 4 = N) (had5 : ad 5 = N + 1)  : Met l yX1_init wzX1_init { frames := 5, cells := 2, slots := 234, locals := 113 } (hPz [.ref (ad 1)] G ad ct N) (hQzv (fun ct1 => ct1 1 = some (.inr (1, [.ref (ad 4), .ref (ad 5)])) ∧ ct1 4 = some (.inl (G.2.1.1, 18, .inl borT)) ∧ ct1 5 = some (.inl (G.2.1.1, 216, .inl selT)) ∧ ∀ y, y ≠ 1 → y ≠ 4 → y ≠ 5 → ct1 y = ct y) G ad (N + 2)) 2 234 (hA G.2.2.2) := by
  refine hMetz (by decide) (Nat.le_of_ble_eq_true rfl) (fun p e s m below meth c ls S hr hlk hin hE hW hsz hl => ?_)
  obtain ⟨hx, hb, hml, hown, hts⟩ := id S
  have hS : va_S (hA G.2.2.2) s.heap s.heap [] := va_S.rf
  have hl : lv_has ls 3 [(0, .ref (ad 1))] := hl
  refine lv_aload_n hx hb dX1_init_0 rfl (lv_at hl 0 rfl) ?_
  refine W.objInit hx hb hown (hts _ q_l_1_3) (hts _ q_im_O) (hts _ q_co_O) rfl (by rw [hml]; exact hl.1) rfl dX1_init_1 (Nat.le_of_ble_eq_true rfl) (Nat.le_of_ble_eq_true rfl) ?_
  refine W.eq (g2 := F0 m 4 ls []) rfl ?_
  refine lv_aload_n hx hb dX1_init_4 rfl (lv_at hl 0 rfl) ?_
  refine lv_bipush (v := 18) hx hb dX1_init_5 (by decide) ?_
  refine hr_newi S hE hW hS 4 (had4.trans hsz.symm) (hw_z hW hk) q_ac_int (by decide) rfl (Nat.le_of_ble_eq_true rfl) (Nat.le_of_ble_eq_true rfl) (Nat.le_of_ble_eq_true rfl) dX1_init_7 (fun H ct_1 hW hk_2 hg_3 hz hS => ?_)
  have hsz := hz.trans (congrArg (· + 1) hsz)
  have h_4 := (hg_3 1 (by decide)).trans hk
  have h_5 : ct_1 4 = some (.inl (G.2.1.1, 18, .inl (fun _ => 0))) := hk_2
  refine hr_putF S hE hW hS h_4 inX1 (C := RX1) (T := TX1) (N := 2) tyX1_ok nmX1 rfl 0 (by decide) q_f_1_9 rfl (hin rfl) rfl rfl rfl (Nat.le_of_ble_eq_true rfl) dX1_init_9 (fun H locs ct_6 hW hk_7 hg_8 hz hS => ?_)
  have hsz := hz.trans hsz
  have h_9 := (hg_8 4 (by decide)).trans h_5
  have h_10 : ct_6 1 = some (.inr (1, [.ref (ad 4), .null])) := hk_7
  refine lv_aload_n hx hb dX1_init_12 rfl (lv_at hl 0 rfl) ?_
  refine lv_sipush (v := 216) hx hb dX1_init_13 (by decide) ?_
  refine hr_newi S hE hW hS 5 (had5.trans hsz.symm) (hw_z hW h_10) q_ac_int (by decide) rfl (Nat.le_of_ble_eq_true rfl) (Nat.le_of_ble_eq_true rfl) (Nat.le_of_ble_eq_true rfl) dX1_init_16 (fun H ct_11 hW hk_12 hg_13 hz hS => ?_)
  have hsz := hz.trans (congrArg (· + 1) hsz)
  have h_14 := (hg_13 4 (by decide)).trans h_9
  have h_15 := (hg_13 1 (by decide)).trans h_10
  have h_16 : ct_11 5 = some (.inl (G.2.1.1, 216, .inl (fun _ => 0))) := hk_12
  refine hr_putF S hE hW hS h_15 inX1 (C := RX1) (T := TX1) (N := 2) tyX1_ok nmX1 rfl 1 (by decide) q_f_1_15 rfl (hin rfl) rfl rfl rfl (Nat.le_of_ble_eq_true rfl) dX1_init_18 (fun H locs ct_17 hW hk_18 hg_19 hz hS => ?_)
  have hsz := hz.trans hsz
  have h_20 := (hg_19 4 (by decide)).trans h_14
  have h_21 := (hg_19 5 (by decide)).trans h_16
  have h_22 : ct_17 1 = some (.inr (1, [.ref (ad 4), .ref (ad 5)])) := hk_18
  refine lv_iconst (v := 0) hx hb dX1_init_21 (by decide) ?_
  refine lv_istore_n (lv' := [(1, .int 0), (0, .ref (ad 1))]) hx hb dX1_init_22 rfl hl (by decide) rfl (fun ls hl => ?_)
  have loop : ∀ (rem t : Nat) (ct2 : Nat → Option va_E) (H : Heap) (locs : List Loc) (ls : Array Slot), t + rem = 18 → ct2 1 = some (.inr (1, [.ref (ad 4), .ref (ad 5)])) → ct2 4 = some (.inl (G.2.1.1, 18, .inl (bF t))) → ct2 5 = some (.inl (G.2.1.1, 216, .inl (sF (t * 12)))) → (∀ j, j ≠ 1 → j ≠ 4 → j ≠ 5 → ct2 j = ct j) → hw G ad ct2 H → H.size = N + 2 → va_S (hA G.2.2.2) s.heap H locs → lv_has ls 3 [(1, .int (nI t)), (0, .ref (ad 1))] → W p l e { frames := 5, cells := 2, slots := 234, locals := 113 } s m ([.ref (ad 1)] : List Value).toArray below meth c H locs 2 234 (MQ below (hQzv (fun ct1 => ct1 1 = some (.inr (1, [.ref (ad 4), .ref (ad 5)])) ∧ ct1 4 = some (.inl (G.2.1.1, 18, .inl borT)) ∧ ct1 5 = some (.inl (G.2.1.1, 216, .inl selT)) ∧ ∀ y, y ≠ 1 → y ≠ 4 → y ≠ 5 → ct1 y = ct y) G ad (N + 2)) ([.ref (ad 1)] : List Value).toArray s 2 234 (hA G.2.2.2)) (F0 m 23 ls []) := by
    intro rem
    induction rem with
    | zero =>
      intro t ct2 H locs ls hnk h1 h4 h5 hag hW hsz hS hl
      have ht : t = 18 := by omega
      subst ht
      rw [bF_all] at h4
      rw [show 18 * 12 = 216 from rfl, sF_all] at h5
      refine lv_iload_n hx hb dX1_init_23 rfl (lv_at hl 0 rfl) ?_
      refine lv_bipush (v := 18) hx hb dX1_init_24 (by decide) ?_
      refine lv_icmp_ge (tgt := 83) hx hb dX1_init_26 (by decide) (fun _ => ?_) (fun q => absurd (by decide) q)
      exact h_zvret S hr hlk hS hW hsz dX1_init_83 ⟨h1, h4, h5, (fun j q0 q1 q2 => hag j q0 q1 q2)⟩
    | succ rem ih =>
      intro t ct2 H locs ls hnk h1 h4 h5 hag hW hsz hS hl
      have ht : t < 18 := by omega
      have hvt : vp_in (nI t) 18 := vp_in_nI ht (by omega)
      refine lv_iload_n hx hb dX1_init_23 rfl (lv_at hl 0 rfl) ?_
      refine lv_bipush (v := 18) hx hb dX1_init_24 (by decide) ?_
      refine lv_icmp_ge (tgt := 83) hx hb dX1_init_26 (by decide) (fun q => absurd q (nI_ge (b := 18) (by omega) (by omega))) (fun _ => ?_)
      refine lv_aload_n hx hb dX1_init_29 rfl (lv_at hl 1 rfl) ?_
      refine hr_get S hE hW h1 inX1 (C := RX1) (T := TX1) (N := 2) rfl 0 (by decide) q_f_1_9 rfl dX1_init_30 ?_
      refine lv_iload_n hx hb dX1_init_33 rfl (lv_at hl 0 rfl) ?_
      refine lv_iload_n hx hb dX1_init_34 rfl (lv_at hl 0 rfl) ?_
      refine lv_aload_n hx hb dX1_init_35 rfl (lv_at hl 1 rfl) ?_
      refine hr_get S hE hW h1 inX1 (C := RX1) (T := TX1) (N := 2) rfl 0 (by decide) q_f_1_9 rfl dX1_init_36 ?_
      refine hc_r (va_runS (As := [.int (nI t), .ref (ad 4)]) (rest := [.int (nI t), .ref (ad 4)]) S (c_X1_interfacesOf l G _ hW h4 (nI t)) (va_cwS 2 hts (gWSS q_l_1_18 q_st_X1_interfacesOf q_in_1 q_co_X1_interfacesOf) rfl rfl rfl (by decide +kernel) ⟨Nat.le_of_ble_eq_true rfl, Nat.le_of_ble_eq_true rfl⟩) (hPreSr hE hS) rfl rfl hl.1 rfl (lv_room (Nat.le_of_ble_eq_true rfl)) dX1_init_39 ⟨Nat.le_of_ble_eq_true rfl, Nat.le_of_ble_eq_true rfl⟩) hS (fun locs hS => ?_)
      rw [ifc_tab t ht]
      refine hr_iastk S hE hW hS h4 (j := t) rfl (by omega) (by decide) dX1_init_42 (fun H locs ct_23 hW hk_24 hg_25 hz hS => ?_)
      have hsz := hz.trans hsz
      have h_26 := (hg_25 1 (by decide)).trans h1
      have h_27 := (hg_25 5 (by decide)).trans h5
      have h_28 : ct_23 4 = some (.inl (G.2.1.1, 18, .inl (upd (bF t) t (borT t)))) := hk_24
      refine lv_iconst (v := 0) hx hb dX1_init_43 (by decide) ?_
      refine lv_istore_n (lv' := [(2, .int 0), (1, .int (nI t)), (0, .ref (ad 1))]) hx hb dX1_init_44 rfl hl (by decide) rfl (fun ls hl => ?_)
      have loop2 : ∀ (rem2 a : Nat) (ct2 : Nat → Option va_E) (H : Heap) (locs : List Loc) (ls : Array Slot), a + rem2 = 12 → ct2 1 = some (.inr (1, [.ref (ad 4), .ref (ad 5)])) → ct2 4 = some (.inl (G.2.1.1, 18, .inl (bF (t + 1)))) → ct2 5 = some (.inl (G.2.1.1, 216, .inl (sF (t * 12 + a)))) → (∀ j, j ≠ 1 → j ≠ 4 → j ≠ 5 → ct2 j = ct j) → hw G ad ct2 H → H.size = N + 2 → va_S (hA G.2.2.2) s.heap H locs → lv_has ls 3 [(2, .int (nI a)), (1, .int (nI t)), (0, .ref (ad 1))] → W p l e { frames := 5, cells := 2, slots := 234, locals := 113 } s m ([.ref (ad 1)] : List Value).toArray below meth c H locs 2 234 (MQ below (hQzv (fun ct1 => ct1 1 = some (.inr (1, [.ref (ad 4), .ref (ad 5)])) ∧ ct1 4 = some (.inl (G.2.1.1, 18, .inl borT)) ∧ ct1 5 = some (.inl (G.2.1.1, 216, .inl selT)) ∧ ∀ y, y ≠ 1 → y ≠ 4 → y ≠ 5 → ct1 y = ct y) G ad (N + 2)) ([.ref (ad 1)] : List Value).toArray s 2 234 (hA G.2.2.2)) (F0 m 45 ls []) := by
        intro rem2
        induction rem2 with
        | zero =>
          intro a ct2 H locs ls hnk2 h1 h4 h5 hag hW hsz hS hl
          have ha : a = 12 := by omega
          subst ha
          refine lv_iload_n hx hb dX1_init_45 rfl (lv_at hl 0 rfl) ?_
          refine lv_bipush (v := 12) hx hb dX1_init_46 (by decide) ?_
          refine lv_icmp_ge (tgt := 77) hx hb dX1_init_48 (by decide) (fun _ => ?_) (fun q => absurd (by decide) q)
          refine lv_iinc (v := (nI (t + 1))) (lv' := [(1, .int (nI (t + 1))), (2, .int (nI 12)), (0, .ref (ad 1))]) hx hb dX1_init_77 hl (k := 1) rfl (nI_1 t) (by decide) rfl (fun ls hl => ?_)
          refine lv_goto (tgt := 23) hx hb dX1_init_80 (by decide) ?_
          exact ih (t + 1) _ _ _ _ (by omega) h1 h4 (by rw [show (t + 1) * 12 = t * 12 + 12 by omega]; exact h5) (fun j q0 q1 q2 => hag j q0 q1 q2) hW hsz hS (lv_sub hl [0, 2] rfl)
        | succ rem2 ih2 =>
          intro a ct2 H locs ls hnk2 h1 h4 h5 hag hW hsz hS hl
          have ha : a < 12 := by omega
          refine lv_iload_n hx hb dX1_init_45 rfl (lv_at hl 0 rfl) ?_
          refine lv_bipush (v := 12) hx hb dX1_init_46 (by decide) ?_
          refine lv_icmp_ge (tgt := 77) hx hb dX1_init_48 (by decide) (fun q => absurd q (nI_ge (b := 12) (by omega) (by omega))) (fun _ => ?_)
          refine lv_aload_n hx hb dX1_init_51 rfl (lv_at hl 2 rfl) ?_
          refine hr_get S hE hW h1 inX1 (C := RX1) (T := TX1) (N := 2) rfl 1 (by decide) q_f_1_15 rfl dX1_init_52 ?_
          refine lv_iload_n hx hb dX1_init_55 rfl (lv_at hl 1 rfl) ?_
          refine lv_bipush (v := 12) hx hb dX1_init_56 (by decide) ?_
          refine lv_imul hx hb dX1_init_58 ?_
          refine lv_iload_n hx hb dX1_init_59 rfl (lv_at hl 0 rfl) ?_
          refine lv_iadd hx hb dX1_init_60 ?_
          refine lv_iload_n hx hb dX1_init_61 rfl (lv_at hl 1 rfl) ?_
          refine lv_iload_n hx hb dX1_init_62 rfl (lv_at hl 0 rfl) ?_
          refine lv_aload_n hx hb dX1_init_63 rfl (lv_at hl 2 rfl) ?_
          refine hr_get S hE hW h1 inX1 (C := RX1) (T := TX1) (N := 2) rfl 0 (by decide) q_f_1_9 rfl dX1_init_64 ?_
          refine hc_r (va_runS (As := [.int (nI t), .int (nI a), .ref (ad 4)]) (rest := [.int (((nI t) * 12) + (nI a)), .ref (ad 5)]) S (c_X1_select l G _ hW h4 (nI t) (nI a) (by assumption)) (va_cwS 3 hts (gWSS q_l_1_22 q_st_X1_select q_in_1 q_co_X1_select) rfl rfl rfl (by decide +kernel) ⟨Nat.le_of_ble_eq_true rfl, Nat.le_of_ble_eq_true rfl⟩) (hPreSr hE hS) rfl rfl hl.1 rfl (lv_room (Nat.le_of_ble_eq_true rfl)) dX1_init_67 ⟨Nat.le_of_ble_eq_true rfl, Nat.le_of_ble_eq_true rfl⟩) hS (fun locs hS => ?_)
          rw [sel_tab0 t ht a ha]
          refine hr_iastk S hE hW hS h5 (j := (t * 12 + a)) (nI_ta t a) (by omega) (by decide) dX1_init_70 (fun H locs ct_29 hW hk_30 hg_31 hz hS => ?_)
          have hsz := hz.trans hsz
          have h_32 := (hg_31 1 (by decide)).trans h1
          have h_33 := (hg_31 4 (by decide)).trans h4
          have h_34 : ct_29 5 = some (.inl (G.2.1.1, 216, .inl (upd (sF (t * 12 + a)) (t * 12 + a) (selT (t * 12 + a))))) := hk_30
          have h_35 : ct_29 5 = some (.inl (G.2.1.1, 216, .inl (sF (t * 12 + a + 1)))) := by rw [← sF_up]; exact h_34
          refine lv_iinc (v := (nI (a + 1))) (lv' := [(2, .int (nI (a + 1))), (1, .int (nI t)), (0, .ref (ad 1))]) hx hb dX1_init_71 hl (k := 0) rfl (nI_1 a) (by decide) rfl (fun ls hl => ?_)
          refine lv_goto (tgt := 45) hx hb dX1_init_74 (by decide) ?_
          exact ih2 (a + 1) _ _ _ _ (by omega) h_32 h_33 (by rw [show t * 12 + (a + 1) = t * 12 + a + 1 by omega]; exact h_35) (fun j q0 q1 q2 => (hg_31 j q2).trans (hag j q0 q1 q2)) hW hsz hS (lv_sub hl [0, 1, 2] rfl)
      exact loop2 12 0 _ _ _ _ (by omega) h_26 (by rw [← bF_up]; exact h_28) h_27 (fun j q0 q1 q2 => (hg_25 j q1).trans (hag j q0 q1 q2)) hW hsz hS (lv_sub hl [0, 1, 2] rfl)
  exact loop 18 0 _ _ _ _ (by omega) h_22 (by rw [← f0_bF]; exact h_20) (by rw [show 0 * 12 = 0 from rfl, ← f0_sF]; exact h_21) (fun j q0 q1 q2 => (hg_19 j q0).trans ((hg_13 j q2).trans ((hg_8 j q0).trans (hg_3 j q1)))) hW hsz hS (lv_sub hl [0, 1] rfl)
set_option maxRecDepth 100000 in
set_option maxHeartbeats 4000000 in
theorem c_X4_init (l : Launch) (G : hG) (ad : Nat → Nat) (ct : Nat → Option va_E) {N : Nat} (hk : ct 0 = some (.inr (4, [.null, .null, .null, .null, .int 0, .int 0, .int 0, .int 0, .int 0]))) (had1 : ad 1 = N) (had4 : ad 4 = N + 1) (had5 : ad 5 = N + 1 + 1) (had2 : ad 2 = N + 1 + 2) (had3 : ad 3 = N + 1 + 2 + 1) (had6 : ad 6 = N + 1 + 2 + 1 + 1) (had7 : ad 7 = N + 1 + 2 + 1 + 1 + 1)  : Met l yX4_init wzX4_init { frames := 6, cells := 7, slots := 902, locals := 135 } (hPz [.ref (ad 0)] G ad ct N) (hQzv (fun ct1 => RC G ad ct1 0 (fun _ => 0) (fun _ => 0, fun _ => 0, 0, fun _ => 0) (fun _ => 0, fun _ => 0, fun _ => 0) (0, fun _ => 0, fun _ => 0) (fun _ => none, 0, 0) 0 ∧ ∀ y, 8 ≤ y → ct1 y = ct y) G ad (N + 7)) 7 902 (hA G.2.2.2) := by
  refine hMetz (by decide) (Nat.le_of_ble_eq_true rfl) (fun p e s m below meth c ls S hr hlk hin hE hW hsz hl => ?_)
  obtain ⟨hx, hb, hml, hown, hts⟩ := id S
  have hS : va_S (hA G.2.2.2) s.heap s.heap [] := va_S.rf
  have hl : lv_has ls 1 [(0, .ref (ad 0))] := hl
  refine lv_aload_n hx hb dX4_init_0 rfl (lv_at hl 0 rfl) ?_
  refine W.objInit hx hb hown (hts _ q_l_4_3) (hts _ q_im_O) (hts _ q_co_O) rfl (by rw [hml]; exact hl.1) rfl dX4_init_1 (Nat.le_of_ble_eq_true rfl) (Nat.le_of_ble_eq_true rfl) ?_
  refine W.eq (g2 := F0 m 4 ls []) rfl ?_
  refine lv_aload_n hx hb dX4_init_4 rfl (lv_at hl 0 rfl) ?_
  refine hr_new S hE hW hS 1 (had1.trans hsz.symm) (hw_z hW hk) inX1 (ci := 1) (C := RX1) (T := TX1) (N := 2) tyX1_ok rfl q_cl_4_9 q_ia_1 q_in_1 (fs := [.null, .null]) (fun j hj => by rcases (show j = 0 ∨ j = 1 by omega) with rfl | rfl <;> rfl) (Nat.le_of_ble_eq_true rfl) (Nat.le_of_ble_eq_true rfl) dX4_init_5 (fun H ct_1 hW hk_2 hg_3 hz hS => ?_)
  have hsz := hz.trans (congrArg (· + 1) hsz)
  have h_4 := (hg_3 0 (by decide)).trans hk
  have h_5 : ct_1 1 = some (.inr (1, [.null, .null])) := hk_2
  refine lv_dup hx hb dX4_init_8 rfl ?_
  refine hc_zv (va_runIN (As := []) (rest := [.ref (ad 1), .ref (ad 0)]) S (c_X1_init l G ad _ h_5 had4 had5) ⟨va_cnB 0 hts (gWS q_co_X1_init) rfl rfl rfl (hE.nest 8 rfl) (hts _ q_in_1) (by decide +kernel) ⟨Nat.le_of_ble_eq_true rfl, Nat.le_of_ble_eq_true rfl⟩, rfl, hts _ q_im_X1_init⟩ (hPreSz hE hS hW hsz) rfl rfl hl.1 rfl (lv_room (Nat.le_of_ble_eq_true rfl)) dX4_init_9 ⟨Nat.le_of_ble_eq_true rfl, Nat.le_of_ble_eq_true rfl⟩) hS (fun ct_6 H locs hp hW hsz hS => ?_)
  obtain ⟨h_7, h_8, h_9, hg_10⟩ := hp
  have h_11 := (hg_10 0 (by decide) (by decide) (by decide)).trans h_4
  refine hr_putF S hE hW hS h_11 inX4 (C := RX4) (T := TX4) (N := 9) tyX4_ok nmX4 rfl 0 (by decide) q_f_4_12 rfl (hin rfl) rfl rfl rfl (Nat.le_of_ble_eq_true rfl) dX4_init_12 (fun H locs ct_12 hW hk_13 hg_14 hz hS => ?_)
  have hsz := hz.trans hsz
  have h_15 := (hg_14 1 (by decide)).trans h_7
  have h_16 := (hg_14 4 (by decide)).trans h_8
  have h_17 := (hg_14 5 (by decide)).trans h_9
  have h_18 : ct_12 0 = some (.inr (4, [.ref (ad 1), .null, .null, .null, .int 0, .int 0, .int 0, .int 0, .int 0])) := hk_13
  refine lv_aload_n hx hb dX4_init_15 rfl (lv_at hl 0 rfl) ?_
  refine hr_new S hE hW hS 2 (had2.trans hsz.symm) (hw_z hW h_18) inX3 (ci := 3) (C := RX3) (T := TX3) (N := 2) tyX3_ok rfl q_cl_4_16 q_ia_3 q_in_3 (fs := [.null, .int 0]) (fun j hj => by rcases (show j = 0 ∨ j = 1 by omega) with rfl | rfl <;> rfl) (Nat.le_of_ble_eq_true rfl) (Nat.le_of_ble_eq_true rfl) dX4_init_16 (fun H ct_19 hW hk_20 hg_21 hz hS => ?_)
  have hsz := hz.trans (congrArg (· + 1) hsz)
  have h_22 := (hg_21 1 (by decide)).trans h_15
  have h_23 := (hg_21 4 (by decide)).trans h_16
  have h_24 := (hg_21 5 (by decide)).trans h_17
  have h_25 := (hg_21 0 (by decide)).trans h_18
  have h_26 : ct_19 2 = some (.inr (3, [.null, .int 0])) := hk_20
  refine lv_dup hx hb dX4_init_19 rfl ?_
  refine hc_zv (va_runIN (As := []) (rest := [.ref (ad 2), .ref (ad 0)]) S (c_X3_init l G ad _ h_26 had3) ⟨va_cnB 0 hts (gWS q_co_X3_init) rfl rfl rfl (hE.nest 10 rfl) (hts _ q_in_3) (by decide +kernel) ⟨Nat.le_of_ble_eq_true rfl, Nat.le_of_ble_eq_true rfl⟩, rfl, hts _ q_im_X3_init⟩ (hPreSz hE hS hW hsz) rfl rfl hl.1 rfl (lv_room (Nat.le_of_ble_eq_true rfl)) dX4_init_20 ⟨Nat.le_of_ble_eq_true rfl, Nat.le_of_ble_eq_true rfl⟩) hS (fun ct_27 H locs hp hW hsz hS => ?_)
  obtain ⟨h_28, h_29, hg_30⟩ := hp
  have h_31 := (hg_30 1 (by decide) (by decide)).trans h_22
  have h_32 := (hg_30 4 (by decide) (by decide)).trans h_23
  have h_33 := (hg_30 5 (by decide) (by decide)).trans h_24
  have h_34 := (hg_30 0 (by decide) (by decide)).trans h_25
  refine hr_putF S hE hW hS h_34 inX4 (C := RX4) (T := TX4) (N := 9) tyX4_ok nmX4 rfl 1 (by decide) q_f_4_19 rfl (hin rfl) rfl rfl rfl (Nat.le_of_ble_eq_true rfl) dX4_init_23 (fun H locs ct_35 hW hk_36 hg_37 hz hS => ?_)
  have hsz := hz.trans hsz
  have h_38 := (hg_37 2 (by decide)).trans h_28
  have h_39 := (hg_37 3 (by decide)).trans h_29
  have h_40 := (hg_37 1 (by decide)).trans h_31
  have h_41 := (hg_37 4 (by decide)).trans h_32
  have h_42 := (hg_37 5 (by decide)).trans h_33
  have h_43 : ct_35 0 = some (.inr (4, [.ref (ad 1), .ref (ad 2), .null, .null, .int 0, .int 0, .int 0, .int 0, .int 0])) := hk_36
  refine lv_aload_n hx hb dX4_init_26 rfl (lv_at hl 0 rfl) ?_
  refine lv_sipush (v := 300) hx hb dX4_init_27 (by decide) ?_
  refine hr_newo S hE hW hS 6 (had6.trans hsz.symm) (hw_z hW h_43) q_cl_4_23 (by decide) rfl (Nat.le_of_ble_eq_true rfl) (Nat.le_of_ble_eq_true rfl) (Nat.le_of_ble_eq_true rfl) dX4_init_30 (fun H ct_44 hW hk_45 hg_46 hz hS => ?_)
  have hsz := hz.trans (congrArg (· + 1) hsz)
  have h_47 := (hg_46 2 (by decide)).trans h_38
  have h_48 := (hg_46 3 (by decide)).trans h_39
  have h_49 := (hg_46 1 (by decide)).trans h_40
  have h_50 := (hg_46 4 (by decide)).trans h_41
  have h_51 := (hg_46 5 (by decide)).trans h_42
  have h_52 := (hg_46 0 (by decide)).trans h_43
  have h_53 : ct_44 6 = some (.inl (G.2.1.2.2, 300, .inr (.inr (.inr (.inr (fun _ => none)))))) := hk_45
  refine hr_putF S hE hW hS h_52 inX4 (C := RX4) (T := TX4) (N := 9) tyX4_ok nmX4 rfl 2 (by decide) q_f_4_25 rfl (hin rfl) rfl rfl rfl (Nat.le_of_ble_eq_true rfl) dX4_init_33 (fun H locs ct_54 hW hk_55 hg_56 hz hS => ?_)
  have hsz := hz.trans hsz
  have h_57 := (hg_56 2 (by decide)).trans h_47
  have h_58 := (hg_56 3 (by decide)).trans h_48
  have h_59 := (hg_56 1 (by decide)).trans h_49
  have h_60 := (hg_56 4 (by decide)).trans h_50
  have h_61 := (hg_56 5 (by decide)).trans h_51
  have h_62 := (hg_56 6 (by decide)).trans h_53
  have h_63 : ct_54 0 = some (.inr (4, [.ref (ad 1), .ref (ad 2), .ref (ad 6), .null, .int 0, .int 0, .int 0, .int 0, .int 0])) := hk_55
  refine lv_aload_n hx hb dX4_init_36 rfl (lv_at hl 0 rfl) ?_
  refine lv_sipush (v := 300) hx hb dX4_init_37 (by decide) ?_
  refine hr_newo S hE hW hS 7 (had7.trans hsz.symm) (hw_z hW h_63) q_cl_4_23 (by decide) rfl (Nat.le_of_ble_eq_true rfl) (Nat.le_of_ble_eq_true rfl) (Nat.le_of_ble_eq_true rfl) dX4_init_40 (fun H ct_64 hW hk_65 hg_66 hz hS => ?_)
  have hsz := hz.trans (congrArg (· + 1) hsz)
  have h_67 := (hg_66 2 (by decide)).trans h_57
  have h_68 := (hg_66 3 (by decide)).trans h_58
  have h_69 := (hg_66 1 (by decide)).trans h_59
  have h_70 := (hg_66 4 (by decide)).trans h_60
  have h_71 := (hg_66 5 (by decide)).trans h_61
  have h_72 := (hg_66 6 (by decide)).trans h_62
  have h_73 := (hg_66 0 (by decide)).trans h_63
  have h_74 : ct_64 7 = some (.inl (G.2.1.2.2, 300, .inr (.inr (.inr (.inr (fun _ => none)))))) := hk_65
  refine hr_putF S hE hW hS h_73 inX4 (C := RX4) (T := TX4) (N := 9) tyX4_ok nmX4 rfl 3 (by decide) q_f_4_29 rfl (hin rfl) rfl rfl rfl (Nat.le_of_ble_eq_true rfl) dX4_init_43 (fun H locs ct_75 hW hk_76 hg_77 hz hS => ?_)
  have hsz := hz.trans hsz
  have h_78 := (hg_77 2 (by decide)).trans h_67
  have h_79 := (hg_77 3 (by decide)).trans h_68
  have h_80 := (hg_77 1 (by decide)).trans h_69
  have h_81 := (hg_77 4 (by decide)).trans h_70
  have h_82 := (hg_77 5 (by decide)).trans h_71
  have h_83 := (hg_77 6 (by decide)).trans h_72
  have h_84 := (hg_77 7 (by decide)).trans h_74
  have h_85 : ct_75 0 = some (.inr (4, [.ref (ad 1), .ref (ad 2), .ref (ad 6), .ref (ad 7), .int 0, .int 0, .int 0, .int 0, .int 0])) := hk_76
  exact h_zvret S hr hlk hS hW hsz dX4_init_46 ⟨⟨h_85, h_80, h_78, h_79, h_81, h_82, (by rw [show dvF ad 0 = fun _ => none from by funext i; unfold dvF; rw [if_neg (Nat.not_lt_zero i)]]; exact h_83), h_84, fun i hi => absurd hi (Nat.not_lt_zero i), fun i hi => absurd hi (Nat.not_lt_zero i), by omega, by show 0 ≤ 400; omega, fun i hi => absurd hi (Nat.not_lt_zero i), fun i hi => absurd hi (Nat.not_lt_zero i)⟩, fun y hy => (fun j q0 q1 q2 q3 q4 q5 q6 q7 => (hg_77 j q0).trans ((hg_66 j q7).trans ((hg_56 j q0).trans ((hg_46 j q6).trans ((hg_37 j q0).trans ((hg_30 j q2 q3).trans ((hg_21 j q2).trans ((hg_14 j q0).trans ((hg_10 j q1 q4 q5).trans (hg_3 j q1)))))))))) y (by omega) (by omega) (by omega) (by omega) (by omega) (by omega) (by omega) (by omega)⟩
end
section
/-! MODEL: its tables, its machine -/
def codTl : List Int32 := [3010, 1000, 1100, 1, 1003, 3011, 1000, 1101, 3, 1005, 1000, 1, 1003, 1100, 1004, 3020, 1000, 1103, 1000, 1, 1003, 1103, 1003, 3021, 1000, 1104, 85, 1006, 3030, 1000, 1314, 1000, 1, 1003, 1326, 1003, 3040, 1000, 1105, 1000, 1003, 3041, 1000, 1106, 2, 1005, 1, 1106, 1003, 3050, 1000, 1355, 1000, 1108, 1004, 3051, 1000, 2052, 2, 1105, 1003, 3052, 1000, 1105, 5, 1005, 3060, 1001, 1000, 1003, 1008, 1001, 3061, 1001, 3, 1000, 1005, 1004, 1008, 1001, 3062, 1001, 31, 1005, 1000, 1003, 1008, 1001, 3063, 1001, 1000, 1006, 3064, 1000, 1109, 1, 1110, 1003, 1000, 2063, 1003, 3070, 1002, 1, 1003, 1009, 1002, 7, 1005, 1000, 1003, 3100, 1001, 1000, 1003, 3101, 1000, 2, 1003, 1209, 1, 1003, 3110, 1000, 1210, 2, 1005, 1000, 2112, 1003, 3111, 1000, 1328, 1, 1004, 3112, 1002, 1000, 1004, 3120, 1000, 1105, 3, 1005, 1001, 1003, 3130, 1000, 1200, 3, 1005, 3131, 1000, 1, 1003, 1201, 5, 1003, 3140, 1001, 1000, 1004, 3141, 1000, 1202, 1, 1314, 1004, 3142, 1000, 1, 1003, 1210, 4, 1003, 3150, 1000, 1105, 1001, 1003, 3151, 1000, 1209, 0, 1102, 1006, 3152, 1000, 1340, 1, 1003, 3160, 1000, 3161, 1000, 1368, 255, 1007, 3162, 1000, 99, 1003, 3163, 1000, 2162, 1, 1209, 1003, 3180, 1000, 1209, 1, 1004, 3181, 1000, 1202, 2, 1101, 1003, 3190, 1000, 1110, 2, 1005, 3200, 1002, 1000, 1003, 3201, 1000, 1367, 1000, 2200, 1003, 3202, 1000, 1338, 1000, 1202, 1003, 3204, 1000, 1205, 1, 1003, 3000]
def codT : Nat → Int32 := tab codTl
def staTl : List Int32 := [0, 0, 0, 0, 0, 0, 0, 0, 0, 0, 1, 6, 0, 0, 0, 0, 0, 0, 0, 0, 16, 24, 0, 0, 0, 0, 0, 0, 0, 0, 29, 0, 0, 0, 0, 0, 0, 0, 0, 0, 37, 42, 0, 0, 0, 0, 0, 0, 0, 0, 50, 56, 62, 0, 0, 0, 0, 0, 0, 0, 67, 73, 81, 89, 93, 0, 0, 0, 0, 0, 102, 0, 0, 0, 0, 0, 0, 0, 0, 0, 0, 0, 0, 0, 0, 0, 0, 0, 0, 0, 0, 0, 0, 0, 0, 0, 0, 0, 0, 0, 112, 116, 0, 0, 0, 0, 0, 0, 0, 0, 123, 131, 136, 0, 0, 0, 0, 0, 0, 0, 140, 0, 0, 0, 0, 0, 0, 0, 0, 0, 147, 152, 0, 0, 0, 0, 0, 0, 0, 0, 159, 163, 169, 0, 0, 0, 0, 0, 0, 0, 176, 181, 187, 0, 0, 0, 0, 0, 0, 0, 192, 194, 199, 203, 0, 0, 0, 0, 0, 0, 0, 0, 0, 0, 0, 0, 0, 0, 0, 0, 209, 214, 0, 0, 0, 0, 0, 0, 0, 0, 220, 0, 0, 0, 0, 0, 0, 0, 0, 0, 225, 229, 235, 0, 241, 0, 0, 0, 0, 0]
def staT : Nat → Int32 := tab staTl
def parTl : List Int32 := [0, 0, 0, 0, 0, 0, -1, 6, 0, 0, 7, 7, 7, 10, 11, 12, 7, 12, 13, 11, 14]
def parT : Nat → Int32 := tab parTl
def beaTl : List Int32 := [0, 0, 0, 0, 0, 0, 0, 0, 0, 0, 2, 4, 16, 2, 6, 30, 48, 48, 2, 14, 62]
def beaT : Nat → Int32 := tab beaTl
def hasTl : List Int32 := [-1, -1, -1, -1, -1, -1, -1, -1, -1, -1, -1, -1, -1, 10, 11, -1, -1, -1, -1, -1, -1, -1, -1, -1, -1, -1, 21, -1, 20, -1, -1, -1, -1, -1, -1, -1, -1, -1, 30, -1, -1, -1, -1, -1, -1, -1, -1, -1, -1, -1, -1, -1, -1, -1, 40, 41, -1, -1, -1, -1, -1, -1, -1, -1, -1, -1, -1, 50, 51, -1, -1, -1, -1, -1, -1, 62, -1, -1, -1, -1, -1, 60, 61, 64, -1, -1, -1, -1, -1, 70, -1, -1, -1, -1, -1, -1, -1, -1, -1, -1, -1, -1, -1, -1, -1, -1, -1, -1, -1, -1, -1, -1, -1, -1, -1, -1, -1, -1, -1, -1, 100, -1, -1, -1, -1, -1, -1, -1, -1, 101, -1, -1, -1, -1, -1, -1, 111, -1, -1, -1, -1, -1, 110, -1, -1, -1, -1, -1, -1, -1, 120, -1, -1, -1, -1, -1, 130, 131, -1, -1, -1, -1, -1, -1, -1, -1, -1, -1, 140, -1, 141, -1, -1, -1, -1, -1, -1, -1, 142, -1, 150, -1, -1, -1, 152, -1, -1, -1, -1, 151, -1, -1, -1, -1, -1, -1, -1, 160, -1, -1, 161, 163, -1, -1, -1, -1, -1, -1, -1, -1, -1, -1, -1, -1, -1, -1, -1, -1, 181, -1, -1, -1, -1, -1, -1, 180, -1, -1, 190, -1, -1, -1, -1, -1, -1, -1, -1, -1, -1, -1, -1, -1, 202, -1, -1, 204, -1, 201, -1, -1, -1, -1]
def hasT : Nat → Int32 := tab hasTl
def choTl : List Int32 := [0, 0, 0, 0, 0, 0, 0, 0, 0, 0, 0, 0, -1, 10, 11, -1, -1, -1, -1, -1, -1, -1, -1, -1, -1, -1, 21, -1, 20, -1, -1, -1, -1, -1, -1, -1, -1, 10, 30, -1, 20, -1, -1, -1, -1, -1, -1, -1, -1, -1, -1, -1, -1, -1, 40, 41, -1, -1, -1, -1, -1, -1, -1, -1, -1, -1, 40, 50, 51, -1, -1, -1, -1, -1, -1, 62, -1, -1, -1, -1, -1, 60, 61, 64, -1, -1, -1, 62, -1, 70, -1, -1, -1, 60, 61, 64, -1, -1, -1, -1, -1, -1, -1, -1, -1, -1, -1, -1, -1, -1, -1, -1, -1, -1, -1, -1, -1, -1, -1, -1, 100, 10, 11, 62, -1, 70, -1, -1, -1, 101, 61, 64, -1, -1, 21, 62, 111, 70, -1, -1, -1, 60, 110, 64, -1, -1, -1, 62, -1, 70, 120, 41, -1, 60, 61, 64, 130, 131, 11, 62, -1, 70, -1, -1, -1, 101, 61, 64, 140, 10, 141, 62, 111, 70, -1, -1, -1, 60, 142, 64, 150, 10, 30, 62, 152, 70, 120, 41, -1, 151, 61, 64, -1, -1, -1, 62, -1, 160, 40, 50, 161, 163, 61, 64, -1, -1, -1, 62, -1, 70, 120, 50, 51, 60, 61, 64, 130, 131, 181, 62, -1, 70, -1, -1, -1, 180, 61, 64, 190, 10, 30, 62, 111, 70, -1, -1, -1, 60, 110, 64, 140, 10, 202, 62, 111, 204, 40, 201, 51, 60, 142, 64]
def choT : Nat → Int32 := tab choTl
def aoTl : List Int32 := [0, 3624, 7, 28, 31, 224, 480]
def aoT : Nat → Int32 := tab aoTl
def akTl : List Int32 := [3631, 3644, 3816, 3631, 3647, 3839, 4072, 4072, 3631, 3647, 4095]
def akT : Nat → Int32 := tab akTl
/-- the object: how many devices, links, bodies; the status; how many frames, how much on the pile -/
def MO (ad : Nat → Nat) (dn lk bg st fr pd : Int32) : List Value := [.ref (ad 10), .ref (ad 11), .ref (ad 12), .ref (ad 13), .ref (ad 14), .ref (ad 15), .ref (ad 16), .ref (ad 17), .ref (ad 18), .ref (ad 19), .ref (ad 20), .ref (ad 21), .int dn, .ref (ad 23), .ref (ad 24), .int lk, .ref (ad 26), .ref (ad 27), .ref (ad 28), .ref (ad 29), .int bg, .int st, .ref (ad 32), .ref (ad 33), .ref (ad 34), .ref (ad 35), .int fr, .int pd]
def FrRep (fb fa fx : Nat → Int32) : List (Nat × Nat × Int32) → Prop
  | [] => True
  | F :: Fs => fb Fs.length = nI F.1 ∧ fa Fs.length = nI F.2.1 ∧ fx Fs.length = F.2.2 ∧ FrRep fb fa fx Fs
def PlRep (pl : Nat → Int32) : List Int32 → Prop
  | [] => True
  | x :: P => pl P.length = x ∧ PlRep pl P
theorem PlRep_up {pl : Nat → Int32} {x : Int32} : ∀ {P : List Int32} {k : Nat}, P.length ≤ k → PlRep pl P → PlRep (upd pl k x) P
  | [], _, _, _ => trivial
  | y :: P, k, h, hp => by
    have h' : P.length + 1 ≤ k := h
    exact ⟨by rw [pk_un (by omega)]; exact hp.1, PlRep_up (by omega) hp.2⟩
theorem FrRep_up {fb fa fx : Nat → Int32} {x y z : Int32} : ∀ {Fs : List (Nat × Nat × Int32)} {k : Nat}, Fs.length ≤ k → FrRep fb fa fx Fs → FrRep (upd fb k x) (upd fa k y) (upd fx k z) Fs
  | [], _, _, _ => trivial
  | F :: Fs, k, h, hp => by
    have h' : Fs.length + 1 ≤ k := h
    exact ⟨by rw [pk_un (by omega)]; exact hp.1, by rw [pk_un (by omega)]; exact hp.2.1, by rw [pk_un (by omega)]; exact hp.2.2.1, FrRep_up (by omega) hp.2.2.2⟩
theorem FrRep_at {fb fa fx : Nat → Int32} {y : Int32} : ∀ {Fs : List (Nat × Nat × Int32)} {k : Nat}, Fs.length ≤ k → FrRep fb fa fx Fs → FrRep fb (upd fa k y) fx Fs
  | [], _, _, _ => trivial
  | F :: Fs, k, h, hp => by
    have h' : Fs.length + 1 ≤ k := h
    exact ⟨hp.1, by rw [pk_un (by omega)]; exact hp.2.1, hp.2.2.1, FrRep_at (by omega) hp.2.2.2⟩
theorem PlRep_push {pl : Nat → Int32} {x : Int32} {P : List Int32} (h : PlRep pl P) : PlRep (upd pl P.length x) (x :: P) := ⟨pk_us, PlRep_up (Nat.le_refl _) h⟩
theorem FrRep_push {fb fa fx : Nat → Int32} {bd a : Nat} {x : Int32} {Fs : List (Nat × Nat × Int32)} (h : FrRep fb fa fx Fs) : FrRep (upd fb Fs.length (nI bd)) (upd fa Fs.length (nI a)) (upd fx Fs.length x) ((bd, a, x) :: Fs) := ⟨pk_us, pk_us, pk_us, FrRep_up (Nat.le_refl _) h⟩
theorem FrRep_inc {fb fa fx : Nat → Int32} {bd a : Nat} {x : Int32} {Fs : List (Nat × Nat × Int32)} (h : FrRep fb fa fx ((bd, a, x) :: Fs)) : FrRep fb (upd fa Fs.length (nI (a + 1))) fx ((bd, a + 1, x) :: Fs) := ⟨h.1, pk_us, h.2.2.1, FrRep_at (Nat.le_refl _) h.2.2.2⟩
def MC (G : hG) (ad : Nat → Nat) (ct : Nat → Option va_E) (dn lk st : Int32) (i : Nat) (vv cv : Nat → Int32) (Fs : List (Nat × Nat × Int32)) (P : List Int32) (q : St) : Prop :=
  ∃ fb fa fx pl : Nat → Int32, ct 8 = some (.inr (5, MO ad dn lk q.2.2.1 st (nI Fs.length) (nI P.length))) ∧ ct 19 = some (.inl (G.2.1.1, 300, .inl (upd vv i q.1))) ∧ ct 20 = some (.inl (G.2.1.1, 300, .inl (upd cv i q.2.1))) ∧ ct 29 = some (.inl (G.2.1.1, 64, .inl q.2.2.2)) ∧
    ct 32 = some (.inl (G.2.1.1, 100, .inl fb)) ∧ ct 33 = some (.inl (G.2.1.1, 100, .inl fa)) ∧ ct 34 = some (.inl (G.2.1.1, 100, .inl fx)) ∧ ct 35 = some (.inl (G.2.1.1, 300, .inl pl)) ∧ FrRep fb fa fx Fs ∧ PlRep pl P
theorem upd_upd (f : Nat → Int32) (i : Nat) (x y : Int32) : upd (upd f i x) i y = upd f i y := by
  funext j
  by_cases h : j = i
  · subst h; rw [pk_us, pk_us]
  · rw [pk_un h, pk_un h, pk_un h]
theorem upd_self (f : Nat → Int32) (i : Nat) : upd f i (f i) = f := by
  funext j
  by_cases h : j = i
  · subst h; rw [pk_us]
  · rw [pk_un h]
theorem bgF_nn {b : Nat} {f : Nat → Int32} {x : Int32} (hb : b < 2 ^ 31) : bgF (nI b) f x = if nI b < 64 then upd f b x else f := by
  unfold bgF
  rw [if_neg (nI_pos hb), nI_clamp hb]
  by_cases h : nI b < 64
  · rw [if_neg (fun q => absurd h (Int32.not_lt.mpr q)), if_pos h]
  · rw [if_pos (Int32.not_lt.mp h), if_neg h]
/-- at most three calls a body: how much the trail can grow -/
def cB : Nat → Nat
  | 0 => 0
  | n + 1 => 1 + 3 * cB n
def GrS (R : Int32 → Int32 → St → Int32 × St) (c : Nat) : Prop := ∀ b x q bb, q.2.2.1 = nI bb → ∃ b1, (R b x q).2.2.2.1 = nI b1 ∧ bb ≤ b1 ∧ b1 ≤ bb + c
theorem gr_10 {R : Int32 → Int32 → St → Int32 × St} {c : Nat} (hR : GrS R c) (t x : Int32) (q : St) (bb : Nat) (h0 : q.2.2.1 = nI bb) : ∃ b1, (bodyS R t 10 x q).2.2.2.1 = nI b1 ∧ bb ≤ b1 ∧ b1 ≤ bb + 3 * c := by
  rw [bodyS_10]
  obtain ⟨b1, h1, l1, u1⟩ := hR (selOfF selT t 0) x q _ h0
  exact ⟨b1, h1, by omega, by omega⟩
theorem gr_11 {R : Int32 → Int32 → St → Int32 × St} {c : Nat} (hR : GrS R c) (t x : Int32) (q : St) (bb : Nat) (h0 : q.2.2.1 = nI bb) : ∃ b1, (bodyS R t 11 x q).2.2.2.1 = nI b1 ∧ bb ≤ b1 ∧ b1 ≤ bb + 3 * c := by
  rw [bodyS_11]
  obtain ⟨b1, h1, l1, u1⟩ := hR (selOfF selT t 1) x q _ h0
  obtain ⟨b2, h2, l2, u2⟩ := hR (selOfF selT t 0) (x + 1) ((R (selOfF selT t 1) x q).2) _ h1
  exact ⟨b2, h2, by omega, by omega⟩
theorem gr_20 {R : Int32 → Int32 → St → Int32 × St} {c : Nat} (hR : GrS R c) (t x : Int32) (q : St) (bb : Nat) (h0 : q.2.2.1 = nI bb) : ∃ b1, (bodyS R t 20 x q).2.2.2.1 = nI b1 ∧ bb ≤ b1 ∧ b1 ≤ bb + 3 * c := by
  rw [bodyS_20]
  obtain ⟨b1, h1, l1, u1⟩ := hR (selOfF selT t 3) x q _ h0
  obtain ⟨b2, h2, l2, u2⟩ := hR (selOfF selT t 3) (x + 1) ((R (selOfF selT t 3) x q).2) _ h1
  exact ⟨b2, h2, by omega, by omega⟩
theorem gr_21 {R : Int32 → Int32 → St → Int32 × St} {c : Nat} (hR : GrS R c) (t x : Int32) (q : St) (bb : Nat) (h0 : q.2.2.1 = nI bb) : ∃ b1, (bodyS R t 21 x q).2.2.2.1 = nI b1 ∧ bb ≤ b1 ∧ b1 ≤ bb + 3 * c := by
  rw [bodyS_21]
  obtain ⟨b1, h1, l1, u1⟩ := hR (selOfF selT t 4) x q _ h0
  exact ⟨b1, h1, by omega, by omega⟩
theorem gr_30 {R : Int32 → Int32 → St → Int32 × St} {c : Nat} (hR : GrS R c) (t x : Int32) (q : St) (bb : Nat) (h0 : q.2.2.1 = nI bb) : ∃ b1, (bodyS R t 30 x q).2.2.2.1 = nI b1 ∧ bb ≤ b1 ∧ b1 ≤ bb + 3 * c := by
  rw [bodyS_30]
  obtain ⟨b1, h1, l1, u1⟩ := hR (selOfF selT 2 2) x q _ h0
  obtain ⟨b2, h2, l2, u2⟩ := hR (selOfF selT 3 2) (x + 1) ((R (selOfF selT 2 2) x q).2) _ h1
  exact ⟨b2, h2, by omega, by omega⟩
theorem gr_40 {R : Int32 → Int32 → St → Int32 × St} {c : Nat} (hR : GrS R c) (t x : Int32) (q : St) (bb : Nat) (h0 : q.2.2.1 = nI bb) : ∃ b1, (bodyS R t 40 x q).2.2.2.1 = nI b1 ∧ bb ≤ b1 ∧ b1 ≤ bb + 3 * c := by
  rw [bodyS_40]
  obtain ⟨b1, h1, l1, u1⟩ := hR (selOfF selT t 5) x q _ h0
  exact ⟨b1, h1, by omega, by omega⟩
theorem gr_41 {R : Int32 → Int32 → St → Int32 × St} {c : Nat} (hR : GrS R c) (t x : Int32) (q : St) (bb : Nat) (h0 : q.2.2.1 = nI bb) : ∃ b1, (bodyS R t 41 x q).2.2.2.1 = nI b1 ∧ bb ≤ b1 ∧ b1 ≤ bb + 3 * c := by
  rw [bodyS_41]
  obtain ⟨b1, h1, l1, u1⟩ := hR (selOfF selT t 6) x q _ h0
  obtain ⟨b2, h2, l2, u2⟩ := hR (selOfF selT t 6) 1 ((R (selOfF selT t 6) x q).2) _ h1
  exact ⟨b2, h2, by omega, by omega⟩
theorem gr_50 {R : Int32 → Int32 → St → Int32 × St} {c : Nat} (hR : GrS R c) (t x : Int32) (q : St) (bb : Nat) (h0 : q.2.2.1 = nI bb) : ∃ b1, (bodyS R t 50 x q).2.2.2.1 = nI b1 ∧ bb ≤ b1 ∧ b1 ≤ bb + 3 * c := by
  rw [bodyS_50]
  obtain ⟨b1, h1, l1, u1⟩ := hR (selOfF selT 5 7) x q _ h0
  obtain ⟨b2, h2, l2, u2⟩ := hR (selOfF selT t 8) x ((R (selOfF selT 5 7) x q).2) _ h1
  exact ⟨b2, h2, by omega, by omega⟩
theorem gr_51 {R : Int32 → Int32 → St → Int32 × St} {c : Nat} (hR : GrS R c) (t x : Int32) (q : St) (bb : Nat) (h0 : q.2.2.1 = nI bb) : ∃ b1, (bodyS R t 51 x q).2.2.2.1 = nI b1 ∧ bb ≤ b1 ∧ b1 ≤ bb + 3 * c := by
  rw [bodyS_51]
  obtain ⟨b1, h1, l1, u1⟩ := hR 52 x q _ h0
  obtain ⟨b2, h2, l2, u2⟩ := hR (selOfF selT t 5) 2 ((R 52 x q).2) _ h1
  exact ⟨b2, h2, by omega, by omega⟩
theorem gr_52 {R : Int32 → Int32 → St → Int32 × St} {c : Nat} (hR : GrS R c) (t x : Int32) (q : St) (bb : Nat) (h0 : q.2.2.1 = nI bb) : ∃ b1, (bodyS R t 52 x q).2.2.2.1 = nI b1 ∧ bb ≤ b1 ∧ b1 ≤ bb + 3 * c := by
  rw [bodyS_52]
  obtain ⟨b1, h1, l1, u1⟩ := hR (selOfF selT t 5) x q _ h0
  exact ⟨b1, h1, by omega, by omega⟩
theorem gr_60 {R : Int32 → Int32 → St → Int32 × St} {c : Nat} (hR : GrS R c) (t x : Int32) (q : St) (bb : Nat) (h0 : q.2.2.1 = nI bb) : ∃ b1, (bodyS R t 60 x q).2.2.2.1 = nI b1 ∧ bb ≤ b1 ∧ b1 ≤ bb + 3 * c := by
  rw [bodyS_60]
  exact ⟨bb, h0, by omega, by omega⟩
theorem gr_61 {R : Int32 → Int32 → St → Int32 × St} {c : Nat} (hR : GrS R c) (t x : Int32) (q : St) (bb : Nat) (h0 : q.2.2.1 = nI bb) : ∃ b1, (bodyS R t 61 x q).2.2.2.1 = nI b1 ∧ bb ≤ b1 ∧ b1 ≤ bb + 3 * c := by
  rw [bodyS_61]
  exact ⟨bb, h0, by omega, by omega⟩
theorem gr_62 {R : Int32 → Int32 → St → Int32 × St} {c : Nat} (hR : GrS R c) (t x : Int32) (q : St) (bb : Nat) (h0 : q.2.2.1 = nI bb) : ∃ b1, (bodyS R t 62 x q).2.2.2.1 = nI b1 ∧ bb ≤ b1 ∧ b1 ≤ bb + 3 * c := by
  rw [bodyS_62]
  exact ⟨bb, h0, by omega, by omega⟩
theorem gr_63 {R : Int32 → Int32 → St → Int32 × St} {c : Nat} (hR : GrS R c) (t x : Int32) (q : St) (bb : Nat) (h0 : q.2.2.1 = nI bb) : ∃ b1, (bodyS R t 63 x q).2.2.2.1 = nI b1 ∧ bb ≤ b1 ∧ b1 ≤ bb + 3 * c := by
  rw [bodyS_63]
  exact ⟨bb, h0, by omega, by omega⟩
theorem gr_64 {R : Int32 → Int32 → St → Int32 × St} {c : Nat} (hR : GrS R c) (t x : Int32) (q : St) (bb : Nat) (h0 : q.2.2.1 = nI bb) : ∃ b1, (bodyS R t 64 x q).2.2.2.1 = nI b1 ∧ bb ≤ b1 ∧ b1 ≤ bb + 3 * c := by
  rw [bodyS_64]
  obtain ⟨b1, h1, l1, u1⟩ := hR (selOfF selT t 9) x q _ h0
  obtain ⟨b2, h2, l2, u2⟩ := hR (selOfF selT t 10) 1 ((R (selOfF selT t 9) x q).2) _ h1
  obtain ⟨b3, h3, l3, u3⟩ := hR 63 x ((R (selOfF selT t 10) 1 ((R (selOfF selT t 9) x q).2)).2) _ h2
  exact ⟨b3, h3, by omega, by omega⟩
theorem gr_70 {R : Int32 → Int32 → St → Int32 × St} {c : Nat} (hR : GrS R c) (t x : Int32) (q : St) (bb : Nat) (h0 : q.2.2.1 = nI bb) : ∃ b1, (bodyS R t 70 x q).2.2.2.1 = nI b1 ∧ bb ≤ b1 ∧ b1 ≤ bb + 3 * c := by
  rw [bodyS_70]
  exact ⟨bb, h0, by omega, by omega⟩
theorem gr_100 {R : Int32 → Int32 → St → Int32 × St} {c : Nat} (hR : GrS R c) (t x : Int32) (q : St) (bb : Nat) (h0 : q.2.2.1 = nI bb) : ∃ b1, (bodyS R t 100 x q).2.2.2.1 = nI b1 ∧ bb ≤ b1 ∧ b1 ≤ bb + 3 * c := by
  rw [bodyS_100]
  exact ⟨bb, h0, by omega, by omega⟩
theorem gr_101 {R : Int32 → Int32 → St → Int32 × St} {c : Nat} (hR : GrS R c) (t x : Int32) (q : St) (bb : Nat) (h0 : q.2.2.1 = nI bb) : ∃ b1, (bodyS R t 101 x q).2.2.2.1 = nI b1 ∧ bb ≤ b1 ∧ b1 ≤ bb + 3 * c := by
  rw [bodyS_101]
  obtain ⟨b1, h1, l1, u1⟩ := hR (selOfF selT (parentF 7) 9) (x + 2) q _ h0
  exact ⟨b1, h1, by omega, by omega⟩
theorem gr_110 {R : Int32 → Int32 → St → Int32 × St} {c : Nat} (hR : GrS R c) (t x : Int32) (q : St) (bb : Nat) (h0 : q.2.2.1 = nI bb) : ∃ b1, (bodyS R t 110 x q).2.2.2.1 = nI b1 ∧ bb ≤ b1 ∧ b1 ≤ bb + 3 * c := by
  rw [bodyS_110]
  obtain ⟨b1, h1, l1, u1⟩ := hR (selOfF selT (parentF 8) 10) x q _ h0
  obtain ⟨b2, h2, l2, u2⟩ := hR 112 x ((R (selOfF selT (parentF 8) 10) x q).2) _ h1
  exact ⟨b2, h2, by omega, by omega⟩
theorem gr_111 {R : Int32 → Int32 → St → Int32 × St} {c : Nat} (hR : GrS R c) (t x : Int32) (q : St) (bb : Nat) (h0 : q.2.2.1 = nI bb) : ∃ b1, (bodyS R t 111 x q).2.2.2.1 = nI b1 ∧ bb ≤ b1 ∧ b1 ≤ bb + 3 * c := by
  rw [bodyS_111]
  obtain ⟨b1, h1, l1, u1⟩ := hR (selOfF selT 3 4) x q _ h0
  exact ⟨b1, h1, by omega, by omega⟩
theorem gr_112 {R : Int32 → Int32 → St → Int32 × St} {c : Nat} (hR : GrS R c) (t x : Int32) (q : St) (bb : Nat) (h0 : q.2.2.1 = nI bb) : ∃ b1, (bodyS R t 112 x q).2.2.2.1 = nI b1 ∧ bb ≤ b1 ∧ b1 ≤ bb + 3 * c := by
  rw [bodyS_112]
  exact ⟨bb, h0, by omega, by omega⟩
theorem gr_120 {R : Int32 → Int32 → St → Int32 × St} {c : Nat} (hR : GrS R c) (t x : Int32) (q : St) (bb : Nat) (h0 : q.2.2.1 = nI bb) : ∃ b1, (bodyS R t 120 x q).2.2.2.1 = nI b1 ∧ bb ≤ b1 ∧ b1 ≤ bb + 3 * c := by
  rw [bodyS_120]
  obtain ⟨b1, h1, l1, u1⟩ := hR (selOfF selT t 5) x q _ h0
  exact ⟨b1, h1, by omega, by omega⟩
theorem gr_130 {R : Int32 → Int32 → St → Int32 × St} {c : Nat} (hR : GrS R c) (t x : Int32) (q : St) (bb : Nat) (h0 : q.2.2.1 = nI bb) : ∃ b1, (bodyS R t 130 x q).2.2.2.1 = nI b1 ∧ bb ≤ b1 ∧ b1 ≤ bb + 3 * c := by
  rw [bodyS_130]
  obtain ⟨b1, h1, l1, u1⟩ := hR (selOfF selT (parentF 10) 0) x q _ h0
  exact ⟨b1, h1, by omega, by omega⟩
theorem gr_131 {R : Int32 → Int32 → St → Int32 × St} {c : Nat} (hR : GrS R c) (t x : Int32) (q : St) (bb : Nat) (h0 : q.2.2.1 = nI bb) : ∃ b1, (bodyS R t 131 x q).2.2.2.1 = nI b1 ∧ bb ≤ b1 ∧ b1 ≤ bb + 3 * c := by
  rw [bodyS_131]
  obtain ⟨b1, h1, l1, u1⟩ := hR (selOfF selT (parentF 10) 1) (x + 1) q _ h0
  exact ⟨b1, h1, by omega, by omega⟩
theorem gr_140 {R : Int32 → Int32 → St → Int32 × St} {c : Nat} (hR : GrS R c) (t x : Int32) (q : St) (bb : Nat) (h0 : q.2.2.1 = nI bb) : ∃ b1, (bodyS R t 140 x q).2.2.2.1 = nI b1 ∧ bb ≤ b1 ∧ b1 ≤ bb + 3 * c := by
  rw [bodyS_140]
  exact ⟨bb, h0, by omega, by omega⟩
theorem gr_141 {R : Int32 → Int32 → St → Int32 × St} {c : Nat} (hR : GrS R c) (t x : Int32) (q : St) (bb : Nat) (h0 : q.2.2.1 = nI bb) : ∃ b1, (bodyS R t 141 x q).2.2.2.1 = nI b1 ∧ bb ≤ b1 ∧ b1 ≤ bb + 3 * c := by
  rw [bodyS_141]
  obtain ⟨b1, h1, l1, u1⟩ := hR (selOfF selT (parentF 11) 2) x q _ h0
  obtain ⟨b2, h2, l2, u2⟩ := hR (selOfF selT 2 2) 1 ((R (selOfF selT (parentF 11) 2) x q).2) _ h1
  exact ⟨b2, h2, by omega, by omega⟩
theorem gr_142 {R : Int32 → Int32 → St → Int32 × St} {c : Nat} (hR : GrS R c) (t x : Int32) (q : St) (bb : Nat) (h0 : q.2.2.1 = nI bb) : ∃ b1, (bodyS R t 142 x q).2.2.2.1 = nI b1 ∧ bb ≤ b1 ∧ b1 ≤ bb + 3 * c := by
  rw [bodyS_142]
  obtain ⟨b1, h1, l1, u1⟩ := hR (selOfF selT (parentF 11) 10) (x + 1) q _ h0
  exact ⟨b1, h1, by omega, by omega⟩
theorem gr_150 {R : Int32 → Int32 → St → Int32 × St} {c : Nat} (hR : GrS R c) (t x : Int32) (q : St) (bb : Nat) (h0 : q.2.2.1 = nI bb) : ∃ b1, (bodyS R t 150 x q).2.2.2.1 = nI b1 ∧ bb ≤ b1 ∧ b1 ≤ bb + 3 * c := by
  rw [bodyS_150]
  obtain ⟨b1, h1, l1, u1⟩ := hR (selOfF selT t 5) x q _ h0
  exact ⟨b1, h1, by omega, by omega⟩
theorem gr_151 {R : Int32 → Int32 → St → Int32 × St} {c : Nat} (hR : GrS R c) (t x : Int32) (q : St) (bb : Nat) (h0 : q.2.2.1 = nI bb) : ∃ b1, (bodyS R t 151 x q).2.2.2.1 = nI b1 ∧ bb ≤ b1 ∧ b1 ≤ bb + 3 * c := by
  rw [bodyS_151]
  obtain ⟨b1, h1, l1, u1⟩ := hR (selOfF selT (parentF 12) 9) x q _ h0
  obtain ⟨b2, h2, l2, u2⟩ := hR (selOfF selT t 2) 0 ((R (selOfF selT (parentF 12) 9) x q).2) _ h1
  exact ⟨b2, h2, by omega, by omega⟩
theorem gr_152 {R : Int32 → Int32 → St → Int32 × St} {c : Nat} (hR : GrS R c) (t x : Int32) (q : St) (bb : Nat) (h0 : q.2.2.1 = nI bb) : ∃ b1, (bodyS R t 152 x q).2.2.2.1 = nI b1 ∧ bb ≤ b1 ∧ b1 ≤ bb + 3 * c := by
  rw [bodyS_152]
  obtain ⟨b1, h1, l1, u1⟩ := hR (selOfF selT 4 4) x q _ h0
  exact ⟨b1, h1, by omega, by omega⟩
theorem gr_160 {R : Int32 → Int32 → St → Int32 × St} {c : Nat} (hR : GrS R c) (t x : Int32) (q : St) (bb : Nat) (h0 : q.2.2.1 = nI bb) : ∃ b1, (bodyS R t 160 x q).2.2.2.1 = nI b1 ∧ bb ≤ b1 ∧ b1 ≤ bb + 3 * c := by
  rw [bodyS_160]
  exact ⟨bb, h0, by omega, by omega⟩
theorem gr_161 {R : Int32 → Int32 → St → Int32 × St} {c : Nat} (hR : GrS R c) (t x : Int32) (q : St) (bb : Nat) (h0 : q.2.2.1 = nI bb) : ∃ b1, (bodyS R t 161 x q).2.2.2.1 = nI b1 ∧ bb ≤ b1 ∧ b1 ≤ bb + 3 * c := by
  rw [bodyS_161]
  obtain ⟨b1, h1, l1, u1⟩ := hR (selOfF selT 6 8) x q _ h0
  exact ⟨b1, h1, by omega, by omega⟩
theorem gr_162 {R : Int32 → Int32 → St → Int32 × St} {c : Nat} (hR : GrS R c) (t x : Int32) (q : St) (bb : Nat) (h0 : q.2.2.1 = nI bb) : ∃ b1, (bodyS R t 162 x q).2.2.2.1 = nI b1 ∧ bb ≤ b1 ∧ b1 ≤ bb + 3 * c := by
  rw [bodyS_162]
  exact ⟨bb, h0, by omega, by omega⟩
theorem gr_163 {R : Int32 → Int32 → St → Int32 × St} {c : Nat} (hR : GrS R c) (t x : Int32) (q : St) (bb : Nat) (h0 : q.2.2.1 = nI bb) : ∃ b1, (bodyS R t 163 x q).2.2.2.1 = nI b1 ∧ bb ≤ b1 ∧ b1 ≤ bb + 3 * c := by
  rw [bodyS_163]
  obtain ⟨b1, h1, l1, u1⟩ := hR 162 x q _ h0
  obtain ⟨b2, h2, l2, u2⟩ := hR (selOfF selT (parentF 13) 9) 1 ((R 162 x q).2) _ h1
  exact ⟨b2, h2, by omega, by omega⟩
theorem gr_180 {R : Int32 → Int32 → St → Int32 × St} {c : Nat} (hR : GrS R c) (t x : Int32) (q : St) (bb : Nat) (h0 : q.2.2.1 = nI bb) : ∃ b1, (bodyS R t 180 x q).2.2.2.1 = nI b1 ∧ bb ≤ b1 ∧ b1 ≤ bb + 3 * c := by
  rw [bodyS_180]
  obtain ⟨b1, h1, l1, u1⟩ := hR (selOfF selT (parentF 15) 9) x q _ h0
  exact ⟨b1, h1, by omega, by omega⟩
theorem gr_181 {R : Int32 → Int32 → St → Int32 × St} {c : Nat} (hR : GrS R c) (t x : Int32) (q : St) (bb : Nat) (h0 : q.2.2.1 = nI bb) : ∃ b1, (bodyS R t 181 x q).2.2.2.1 = nI b1 ∧ bb ≤ b1 ∧ b1 ≤ bb + 3 * c := by
  rw [bodyS_181]
  obtain ⟨b1, h1, l1, u1⟩ := hR (selOfF selT (parentF 15) 2) x q _ h0
  obtain ⟨b2, h2, l2, u2⟩ := hR (selOfF selT t 1) 2 ((R (selOfF selT (parentF 15) 2) x q).2) _ h1
  exact ⟨b2, h2, by omega, by omega⟩
theorem gr_190 {R : Int32 → Int32 → St → Int32 × St} {c : Nat} (hR : GrS R c) (t x : Int32) (q : St) (bb : Nat) (h0 : q.2.2.1 = nI bb) : ∃ b1, (bodyS R t 190 x q).2.2.2.1 = nI b1 ∧ bb ≤ b1 ∧ b1 ≤ bb + 3 * c := by
  rw [bodyS_190]
  obtain ⟨b1, h1, l1, u1⟩ := hR (selOfF selT t 10) x q _ h0
  exact ⟨b1, h1, by omega, by omega⟩
theorem gr_200 {R : Int32 → Int32 → St → Int32 × St} {c : Nat} (hR : GrS R c) (t x : Int32) (q : St) (bb : Nat) (h0 : q.2.2.1 = nI bb) : ∃ b1, (bodyS R t 200 x q).2.2.2.1 = nI b1 ∧ bb ≤ b1 ∧ b1 ≤ bb + 3 * c := by
  rw [bodyS_200]
  exact ⟨bb, h0, by omega, by omega⟩
theorem gr_201 {R : Int32 → Int32 → St → Int32 × St} {c : Nat} (hR : GrS R c) (t x : Int32) (q : St) (bb : Nat) (h0 : q.2.2.1 = nI bb) : ∃ b1, (bodyS R t 201 x q).2.2.2.1 = nI b1 ∧ bb ≤ b1 ∧ b1 ≤ bb + 3 * c := by
  rw [bodyS_201]
  obtain ⟨b1, h1, l1, u1⟩ := hR (selOfF selT 6 7) x q _ h0
  obtain ⟨b2, h2, l2, u2⟩ := hR 200 x ((R (selOfF selT 6 7) x q).2) _ h1
  exact ⟨b2, h2, by omega, by omega⟩
theorem gr_202 {R : Int32 → Int32 → St → Int32 × St} {c : Nat} (hR : GrS R c) (t x : Int32) (q : St) (bb : Nat) (h0 : q.2.2.1 = nI bb) : ∃ b1, (bodyS R t 202 x q).2.2.2.1 = nI b1 ∧ bb ≤ b1 ∧ b1 ≤ bb + 3 * c := by
  rw [bodyS_202]
  obtain ⟨b1, h1, l1, u1⟩ := hR (selOfF selT 4 2) x q _ h0
  obtain ⟨b2, h2, l2, u2⟩ := hR (selOfF selT (parentF 17) 2) x ((R (selOfF selT 4 2) x q).2) _ h1
  exact ⟨b2, h2, by omega, by omega⟩
theorem gr_204 {R : Int32 → Int32 → St → Int32 × St} {c : Nat} (hR : GrS R c) (t x : Int32) (q : St) (bb : Nat) (h0 : q.2.2.1 = nI bb) : ∃ b1, (bodyS R t 204 x q).2.2.2.1 = nI b1 ∧ bb ≤ b1 ∧ b1 ≤ bb + 3 * c := by
  rw [bodyS_204]
  obtain ⟨b1, h1, l1, u1⟩ := hR (selOfF selT (parentF 17) 5) x q _ h0
  exact ⟨b1, h1, by omega, by omega⟩
theorem gr_all {R : Int32 → Int32 → St → Int32 × St} {c : Nat} (hR : GrS R c) (t b x : Int32) (q : St) (bb : Nat) (h0 : q.2.2.1 = nI bb) : ∃ b1, (bodyS R t b x q).2.2.2.1 = nI b1 ∧ bb ≤ b1 ∧ b1 ≤ bb + 3 * c := by
  by_cases e10 : b = 10
  · subst e10; exact gr_10 hR t x q bb h0
  by_cases e11 : b = 11
  · subst e11; exact gr_11 hR t x q bb h0
  by_cases e20 : b = 20
  · subst e20; exact gr_20 hR t x q bb h0
  by_cases e21 : b = 21
  · subst e21; exact gr_21 hR t x q bb h0
  by_cases e30 : b = 30
  · subst e30; exact gr_30 hR t x q bb h0
  by_cases e40 : b = 40
  · subst e40; exact gr_40 hR t x q bb h0
  by_cases e41 : b = 41
  · subst e41; exact gr_41 hR t x q bb h0
  by_cases e50 : b = 50
  · subst e50; exact gr_50 hR t x q bb h0
  by_cases e51 : b = 51
  · subst e51; exact gr_51 hR t x q bb h0
  by_cases e52 : b = 52
  · subst e52; exact gr_52 hR t x q bb h0
  by_cases e60 : b = 60
  · subst e60; exact gr_60 hR t x q bb h0
  by_cases e61 : b = 61
  · subst e61; exact gr_61 hR t x q bb h0
  by_cases e62 : b = 62
  · subst e62; exact gr_62 hR t x q bb h0
  by_cases e63 : b = 63
  · subst e63; exact gr_63 hR t x q bb h0
  by_cases e64 : b = 64
  · subst e64; exact gr_64 hR t x q bb h0
  by_cases e70 : b = 70
  · subst e70; exact gr_70 hR t x q bb h0
  by_cases e100 : b = 100
  · subst e100; exact gr_100 hR t x q bb h0
  by_cases e101 : b = 101
  · subst e101; exact gr_101 hR t x q bb h0
  by_cases e110 : b = 110
  · subst e110; exact gr_110 hR t x q bb h0
  by_cases e111 : b = 111
  · subst e111; exact gr_111 hR t x q bb h0
  by_cases e112 : b = 112
  · subst e112; exact gr_112 hR t x q bb h0
  by_cases e120 : b = 120
  · subst e120; exact gr_120 hR t x q bb h0
  by_cases e130 : b = 130
  · subst e130; exact gr_130 hR t x q bb h0
  by_cases e131 : b = 131
  · subst e131; exact gr_131 hR t x q bb h0
  by_cases e140 : b = 140
  · subst e140; exact gr_140 hR t x q bb h0
  by_cases e141 : b = 141
  · subst e141; exact gr_141 hR t x q bb h0
  by_cases e142 : b = 142
  · subst e142; exact gr_142 hR t x q bb h0
  by_cases e150 : b = 150
  · subst e150; exact gr_150 hR t x q bb h0
  by_cases e151 : b = 151
  · subst e151; exact gr_151 hR t x q bb h0
  by_cases e152 : b = 152
  · subst e152; exact gr_152 hR t x q bb h0
  by_cases e160 : b = 160
  · subst e160; exact gr_160 hR t x q bb h0
  by_cases e161 : b = 161
  · subst e161; exact gr_161 hR t x q bb h0
  by_cases e162 : b = 162
  · subst e162; exact gr_162 hR t x q bb h0
  by_cases e163 : b = 163
  · subst e163; exact gr_163 hR t x q bb h0
  by_cases e180 : b = 180
  · subst e180; exact gr_180 hR t x q bb h0
  by_cases e181 : b = 181
  · subst e181; exact gr_181 hR t x q bb h0
  by_cases e190 : b = 190
  · subst e190; exact gr_190 hR t x q bb h0
  by_cases e200 : b = 200
  · subst e200; exact gr_200 hR t x q bb h0
  by_cases e201 : b = 201
  · subst e201; exact gr_201 hR t x q bb h0
  by_cases e202 : b = 202
  · subst e202; exact gr_202 hR t x q bb h0
  by_cases e204 : b = 204
  · subst e204; exact gr_204 hR t x q bb h0
  unfold bodyS
  rw [if_neg e10, if_neg e11, if_neg e20, if_neg e21, if_neg e30, if_neg e40, if_neg e41, if_neg e50, if_neg e51, if_neg e52, if_neg e60, if_neg e61, if_neg e62, if_neg e63, if_neg e64, if_neg e70, if_neg e100, if_neg e101, if_neg e110, if_neg e111, if_neg e112, if_neg e120, if_neg e130, if_neg e131, if_neg e140, if_neg e141, if_neg e142, if_neg e150, if_neg e151, if_neg e152, if_neg e160, if_neg e161, if_neg e162, if_neg e163, if_neg e180, if_neg e181, if_neg e190, if_neg e200, if_neg e201, if_neg e202, if_neg e204]
  exact ⟨bb, h0, Nat.le_refl _, by omega⟩
theorem gr_run (t : Int32) : ∀ n, GrS (runS n t) (cB n)
  | 0 => fun b x q bb h => ⟨bb, h, Nat.le_refl _, by show bb ≤ bb + 0; omega⟩
  | n + 1 => fun b x q bb h => by
    have ih := gr_run t n
    rw [runS]
    by_cases e : b = 0
    · rw [if_pos e]; exact ⟨bb, h, Nat.le_refl _, by omega⟩
    · rw [if_neg e]
      obtain ⟨b1, h1, l1, u1⟩ := gr_all ih t b x (bgS b q) (bb + 1) (by show q.2.2.1 + 1 = nI (bb + 1); rw [h, nI_1])
      exact ⟨b1, h1, by omega, by show b1 ≤ bb + (1 + 3 * cB n); omega⟩
end
section
def agM (ct1 ct : Nat → Option va_E) : Prop := ∀ j, (j < 8 ∨ (8 < j ∧ j < 19) ∨ (20 < j ∧ j < 29) ∨ (29 < j ∧ j < 32) ∨ 35 < j) → ct1 j = ct j
theorem agM.trans {a b c : Nat → Option va_E} (h : agM a b) (g : agM b c) : agM a c := fun j hj => (h j hj).trans (g j hj)
theorem agM.rf {a : Nat → Option va_E} : agM a a := fun _ _ => rfl
theorem lt64 {x : Int32} {bb : Nat} (h : x = nI bb) (hb : bb < 2 ^ 31) (c : ¬ 64 ≤ x) : bb < 64 := Nat.not_le.mp (fun q => c (by rw [h]; exact nI_le (a := 64) q hb))
theorem bgF_lt {x v : Int32} {bb : Nat} {f : Nat → Int32} (h : x = nI bb) (hb : bb < 2 ^ 31) (c : ¬ 64 ≤ x) : bgF x f v = upd f bb v := by
  unfold bgF
  rw [if_neg c, h, if_neg (nI_pos hb), nI_clamp hb]
theorem bgF_ge {x v : Int32} {f : Nat → Int32} (c : 64 ≤ x) : bgF x f v = f := by
  unfold bgF
  rw [if_pos c]
  exact ite_self f
set_option maxRecDepth 100000 in
set_option maxHeartbeats 4000000 in
theorem c_X5_push (l : Launch) (G : hG) (ad : Nat → Nat) (ct : Nat → Option va_E) {dn lk st0 : Int32} {i : Nat} {vv cv : Nat → Int32} {Fs : List (Nat × Nat × Int32)} {P : List Int32} {q : St} (hM : MC G ad ct dn lk st0 i vv cv Fs P q) (hPl : P.length < 300) (x : Int32)  : Met l yX5_push wzX5_push { frames := 0, cells := 0, slots := 0, locals := 0 } (hPw [.ref (ad 8), .int x] G ad ct) (hQv (fun ct1 => MC G ad ct1 dn lk st0 i vv cv Fs (x :: P) q ∧ agM ct1 ct) G ad) 0 0 (hA G.2.2.2) := by
  refine hMetw (by decide) (Nat.le_of_ble_eq_true rfl) (fun p e s m below meth c ls S hr hlk hE hW hl => ?_)
  obtain ⟨hx, hb, hml, hown, hts⟩ := id S
  have hS : va_S (hA G.2.2.2) s.heap s.heap [] := va_S.rf
  have hl : lv_has ls 2 [(0, .ref (ad 8)), (1, .int x)] := hl
  obtain ⟨fb, fa, fx, pl, h8, h19, h20, h29, h32, h33, h34, h35, hF, hL⟩ := id hM
  refine lv_aload_n hx hb dX5_push_0 rfl (lv_at hl 0 rfl) ?_
  refine hr_get S hE hW h8 inX5 (C := RX5) (T := TX5) (N := 28) rfl 25 (by decide) q_f_5_74 rfl dX5_push_1 ?_
  refine lv_aload_n hx hb dX5_push_4 rfl (lv_at hl 0 rfl) ?_
  refine hr_get S hE hW h8 inX5 (C := RX5) (T := TX5) (N := 28) rfl 27 (by decide) q_f_5_98 rfl dX5_push_5 ?_
  refine lv_iload_n hx hb dX5_push_8 rfl (lv_at hl 1 rfl) ?_
  refine hr_iastk S hE hW hS h35 (j := P.length) rfl hPl (by decide) dX5_push_9 (fun H locs ct_1 hW hk_2 hg_3 hz hS => ?_)
  have h_4 := (hg_3 8 (by decide)).trans h8
  have h_5 := (hg_3 19 (by decide)).trans h19
  have h_6 := (hg_3 20 (by decide)).trans h20
  have h_7 := (hg_3 29 (by decide)).trans h29
  have h_8 := (hg_3 32 (by decide)).trans h32
  have h_9 := (hg_3 33 (by decide)).trans h33
  have h_10 := (hg_3 34 (by decide)).trans h34
  have h_11 : ct_1 35 = some (.inl (G.2.1.1, 300, .inl (upd pl P.length x))) := hk_2
  refine lv_aload_n hx hb dX5_push_10 rfl (lv_at hl 0 rfl) ?_
  refine lv_dup hx hb dX5_push_11 rfl ?_
  refine hr_get S hE hW h_4 inX5 (C := RX5) (T := TX5) (N := 28) rfl 27 (by decide) q_f_5_98 rfl dX5_push_12 ?_
  refine lv_iconst (v := 1) hx hb dX5_push_15 (by decide) ?_
  refine lv_iadd hx hb dX5_push_16 ?_
  rw [nI_1]
  refine hr_put S hE hW hS h_4 inX5 (C := RX5) (T := TX5) (N := 28) tyX5_ok nmX5 rfl 27 (by decide) q_f_5_98 rfl rfl rfl (Nat.le_of_ble_eq_true rfl) dX5_push_17 (fun H locs ct_12 hW hk_13 hg_14 hz hS => ?_)
  have h_15 := (hg_14 19 (by decide)).trans h_5
  have h_16 := (hg_14 20 (by decide)).trans h_6
  have h_17 := (hg_14 29 (by decide)).trans h_7
  have h_18 := (hg_14 32 (by decide)).trans h_8
  have h_19 := (hg_14 33 (by decide)).trans h_9
  have h_20 := (hg_14 34 (by decide)).trans h_10
  have h_21 := (hg_14 35 (by decide)).trans h_11
  have h_22 : ct_12 8 = some (.inr (5, [.ref (ad 10), .ref (ad 11), .ref (ad 12), .ref (ad 13), .ref (ad 14), .ref (ad 15), .ref (ad 16), .ref (ad 17), .ref (ad 18), .ref (ad 19), .ref (ad 20), .ref (ad 21), .int dn, .ref (ad 23), .ref (ad 24), .int lk, .ref (ad 26), .ref (ad 27), .ref (ad 28), .ref (ad 29), .int q.2.2.1, .int st0, .ref (ad 32), .ref (ad 33), .ref (ad 34), .ref (ad 35), .int (nI Fs.length), .int (nI (P.length + 1))])) := hk_13
  exact h_vret S hr hlk hS hW dX5_push_20 ⟨⟨fb, fa, fx, upd pl P.length x, h_22, h_15, h_16, h_17, h_18, h_19, h_20, h_21, hF, PlRep_push hL⟩, (fun j hj => ((hg_14 j (by omega))).trans ((hg_3 j (by omega))))⟩
set_option maxRecDepth 100000 in
set_option maxHeartbeats 4000000 in
theorem c_X5_pop (l : Launch) (G : hG) (ad : Nat → Nat) (ct : Nat → Option va_E) {dn lk st0 : Int32} {i : Nat} {vv cv : Nat → Int32} {Fs : List (Nat × Nat × Int32)} {P : List Int32} {q : St} {y : Int32} (hM : MC G ad ct dn lk st0 i vv cv Fs (y :: P) q) (hPl : P.length < 300)  : Met l yX5_pop wzX5_pop { frames := 0, cells := 0, slots := 0, locals := 0 } (hPw [.ref (ad 8)] G ad ct) (hQi (fun r ct1 => r = y ∧ MC G ad ct1 dn lk st0 i vv cv Fs P q ∧ agM ct1 ct) G ad) 0 0 (hA G.2.2.2) := by
  refine hMetw (by decide) (Nat.le_of_ble_eq_true rfl) (fun p e s m below meth c ls S hr hlk hE hW hl => ?_)
  obtain ⟨hx, hb, hml, hown, hts⟩ := id S
  have hS : va_S (hA G.2.2.2) s.heap s.heap [] := va_S.rf
  have hl : lv_has ls 1 [(0, .ref (ad 8))] := hl
  obtain ⟨fb, fa, fx, pl, h8, h19, h20, h29, h32, h33, h34, h35, hF, hL⟩ := id hM
  refine lv_aload_n hx hb dX5_pop_0 rfl (lv_at hl 0 rfl) ?_
  refine lv_dup hx hb dX5_pop_1 rfl ?_
  refine hr_get S hE hW h8 inX5 (C := RX5) (T := TX5) (N := 28) rfl 27 (by decide) q_f_5_98 rfl dX5_pop_2 ?_
  refine lv_iconst (v := 1) hx hb dX5_pop_5 (by decide) ?_
  refine lv_isub hx hb dX5_pop_6 ?_
  rw [show nI (y :: P).length - 1 = nI P.length from nI_pred _]
  refine hr_put S hE hW hS h8 inX5 (C := RX5) (T := TX5) (N := 28) tyX5_ok nmX5 rfl 27 (by decide) q_f_5_98 rfl rfl rfl (Nat.le_of_ble_eq_true rfl) dX5_pop_7 (fun H locs ct_1 hW hk_2 hg_3 hz hS => ?_)
  have h_4 := (hg_3 19 (by decide)).trans h19
  have h_5 := (hg_3 20 (by decide)).trans h20
  have h_6 := (hg_3 29 (by decide)).trans h29
  have h_7 := (hg_3 32 (by decide)).trans h32
  have h_8 := (hg_3 33 (by decide)).trans h33
  have h_9 := (hg_3 34 (by decide)).trans h34
  have h_10 := (hg_3 35 (by decide)).trans h35
  have h_11 : ct_1 8 = some (.inr (5, [.ref (ad 10), .ref (ad 11), .ref (ad 12), .ref (ad 13), .ref (ad 14), .ref (ad 15), .ref (ad 16), .ref (ad 17), .ref (ad 18), .ref (ad 19), .ref (ad 20), .ref (ad 21), .int dn, .ref (ad 23), .ref (ad 24), .int lk, .ref (ad 26), .ref (ad 27), .ref (ad 28), .ref (ad 29), .int q.2.2.1, .int st0, .ref (ad 32), .ref (ad 33), .ref (ad 34), .ref (ad 35), .int (nI Fs.length), .int (nI P.length)])) := hk_2
  refine lv_aload_n hx hb dX5_pop_10 rfl (lv_at hl 0 rfl) ?_
  refine hr_get S hE hW h_11 inX5 (C := RX5) (T := TX5) (N := 28) rfl 25 (by decide) q_f_5_74 rfl dX5_pop_11 ?_
  refine lv_aload_n hx hb dX5_pop_14 rfl (lv_at hl 0 rfl) ?_
  refine hr_get S hE hW h_11 inX5 (C := RX5) (T := TX5) (N := 28) rfl 27 (by decide) q_f_5_98 rfl dX5_pop_15 ?_
  refine hr_ialdk S hE hW h_10 (j := P.length) rfl hPl (by decide) dX5_pop_18 ?_
  exact h_iret S hr hlk hS hW dX5_pop_19 ⟨hL.1, ⟨fb, fa, fx, pl, h_11, h_4, h_5, h_6, h_7, h_8, h_9, h_10, hF, hL.2⟩, (fun j hj => (hg_3 j (by omega)))⟩
set_option maxRecDepth 100000 in
set_option maxHeartbeats 4000000 in
theorem c_X5_enter (l : Launch) (G : hG) (ad : Nat → Nat) (ct : Nat → Option va_E) {dn lk st0 : Int32} {i : Nat} {vv cv : Nat → Int32} {Fs : List (Nat × Nat × Int32)} {P : List Int32} {q : St} (hM : MC G ad ct dn lk st0 i vv cv Fs P q) (h11 : ct 11 = some (.inl (G.2.1.1, 210, .inl staT))) {bb bd a0 : Nat} (hqb : q.2.2.1 = nI bb) (hbb : bb < 2 ^ 30) (hbd : bd < 210) (hst : staT bd = nI a0) (hFl : Fs.length < 100) (x : Int32)  : Met l yX5_enter wzX5_enter { frames := 0, cells := 0, slots := 0, locals := 0 } (hPw [.ref (ad 8), .int (nI bd), .int x] G ad ct) (hQv (fun ct1 => MC G ad ct1 dn lk st0 i vv cv ((bd, a0, x) :: Fs) P (bgS (nI bd) q) ∧ agM ct1 ct) G ad) 0 0 (hA G.2.2.2) := by
  refine hMetw (by decide) (Nat.le_of_ble_eq_true rfl) (fun p e s m below meth c ls S hr hlk hE hW hl => ?_)
  obtain ⟨hx, hb, hml, hown, hts⟩ := id S
  have hS : va_S (hA G.2.2.2) s.heap s.heap [] := va_S.rf
  have hl : lv_has ls 3 [(0, .ref (ad 8)), (1, .int (nI bd)), (2, .int x)] := hl
  obtain ⟨fb, fa, fx, pl, h8, h19, h20, h29, h32, h33, h34, h35, hF, hL⟩ := id hM
  refine lv_aload_n hx hb dX5_enter_0 rfl (lv_at hl 0 rfl) ?_
  refine hr_get S hE hW h8 inX5 (C := RX5) (T := TX5) (N := 28) rfl 20 (by decide) q_f_5_102 rfl dX5_enter_1 ?_
  refine lv_bipush (v := 64) hx hb dX5_enter_4 (by decide) ?_
  refine lv_icmp_ge (tgt := 19) hx hb dX5_enter_6 (by decide) (fun c_6 => ?_) (fun c_6 => ?_)
  · refine lv_aload_n hx hb dX5_enter_19 rfl (lv_at hl 0 rfl) ?_
    refine lv_dup hx hb dX5_enter_20 rfl ?_
    refine hr_get S hE hW h8 inX5 (C := RX5) (T := TX5) (N := 28) rfl 20 (by decide) q_f_5_102 rfl dX5_enter_21 ?_
    refine lv_iconst (v := 1) hx hb dX5_enter_24 (by decide) ?_
    refine lv_iadd hx hb dX5_enter_25 ?_
    refine hr_put S hE hW hS h8 inX5 (C := RX5) (T := TX5) (N := 28) tyX5_ok nmX5 rfl 20 (by decide) q_f_5_102 rfl rfl rfl (Nat.le_of_ble_eq_true rfl) dX5_enter_26 (fun H locs ct_1 hW hk_2 hg_3 hz hS => ?_)
    have h_4 := (hg_3 11 (by decide)).trans h11
    have h_5 := (hg_3 19 (by decide)).trans h19
    have h_6 := (hg_3 20 (by decide)).trans h20
    have h_7 := (hg_3 29 (by decide)).trans h29
    have h_8 := (hg_3 32 (by decide)).trans h32
    have h_9 := (hg_3 33 (by decide)).trans h33
    have h_10 := (hg_3 34 (by decide)).trans h34
    have h_11 := (hg_3 35 (by decide)).trans h35
    have h_12 : ct_1 8 = some (.inr (5, [.ref (ad 10), .ref (ad 11), .ref (ad 12), .ref (ad 13), .ref (ad 14), .ref (ad 15), .ref (ad 16), .ref (ad 17), .ref (ad 18), .ref (ad 19), .ref (ad 20), .ref (ad 21), .int dn, .ref (ad 23), .ref (ad 24), .int lk, .ref (ad 26), .ref (ad 27), .ref (ad 28), .ref (ad 29), .int (q.2.2.1 + 1), .int st0, .ref (ad 32), .ref (ad 33), .ref (ad 34), .ref (ad 35), .int (nI Fs.length), .int (nI P.length)])) := hk_2
    refine lv_aload_n hx hb dX5_enter_29 rfl (lv_at hl 0 rfl) ?_
    refine hr_get S hE hW h_12 inX5 (C := RX5) (T := TX5) (N := 28) rfl 22 (by decide) q_f_5_65 rfl dX5_enter_30 ?_
    refine lv_aload_n hx hb dX5_enter_33 rfl (lv_at hl 0 rfl) ?_
    refine hr_get S hE hW h_12 inX5 (C := RX5) (T := TX5) (N := 28) rfl 26 (by decide) q_f_5_105 rfl dX5_enter_34 ?_
    refine lv_iload_n hx hb dX5_enter_37 rfl (lv_at hl 1 rfl) ?_
    refine hr_iastk S hE hW hS h_8 (j := Fs.length) rfl hFl (by decide) dX5_enter_38 (fun H locs ct_13 hW hk_14 hg_15 hz hS => ?_)
    have h_16 := (hg_15 11 (by decide)).trans h_4
    have h_17 := (hg_15 19 (by decide)).trans h_5
    have h_18 := (hg_15 20 (by decide)).trans h_6
    have h_19 := (hg_15 29 (by decide)).trans h_7
    have h_20 := (hg_15 33 (by decide)).trans h_9
    have h_21 := (hg_15 34 (by decide)).trans h_10
    have h_22 := (hg_15 35 (by decide)).trans h_11
    have h_23 := (hg_15 8 (by decide)).trans h_12
    have h_24 : ct_13 32 = some (.inl (G.2.1.1, 100, .inl (upd fb Fs.length (nI bd)))) := hk_14
    refine lv_aload_n hx hb dX5_enter_39 rfl (lv_at hl 0 rfl) ?_
    refine hr_get S hE hW h_23 inX5 (C := RX5) (T := TX5) (N := 28) rfl 23 (by decide) q_f_5_68 rfl dX5_enter_40 ?_
    refine lv_aload_n hx hb dX5_enter_43 rfl (lv_at hl 0 rfl) ?_
    refine hr_get S hE hW h_23 inX5 (C := RX5) (T := TX5) (N := 28) rfl 26 (by decide) q_f_5_105 rfl dX5_enter_44 ?_
    refine lv_aload_n hx hb dX5_enter_47 rfl (lv_at hl 0 rfl) ?_
    refine hr_get S hE hW h_23 inX5 (C := RX5) (T := TX5) (N := 28) rfl 1 (by decide) q_f_5_13 rfl dX5_enter_48 ?_
    refine lv_iload_n hx hb dX5_enter_51 rfl (lv_at hl 1 rfl) ?_
    refine hr_ialdk S hE hW h_16 (j := bd) rfl (by omega) (by decide) dX5_enter_52 ?_
    rw [hst]
    refine hr_iastk S hE hW hS h_20 (j := Fs.length) rfl hFl (by decide) dX5_enter_53 (fun H locs ct_25 hW hk_26 hg_27 hz hS => ?_)
    have h_28 := (hg_27 11 (by decide)).trans h_16
    have h_29 := (hg_27 19 (by decide)).trans h_17
    have h_30 := (hg_27 20 (by decide)).trans h_18
    have h_31 := (hg_27 29 (by decide)).trans h_19
    have h_32 := (hg_27 34 (by decide)).trans h_21
    have h_33 := (hg_27 35 (by decide)).trans h_22
    have h_34 := (hg_27 8 (by decide)).trans h_23
    have h_35 := (hg_27 32 (by decide)).trans h_24
    have h_36 : ct_25 33 = some (.inl (G.2.1.1, 100, .inl (upd fa Fs.length (nI a0)))) := hk_26
    refine lv_aload_n hx hb dX5_enter_54 rfl (lv_at hl 0 rfl) ?_
    refine hr_get S hE hW h_34 inX5 (C := RX5) (T := TX5) (N := 28) rfl 24 (by decide) q_f_5_71 rfl dX5_enter_55 ?_
    refine lv_aload_n hx hb dX5_enter_58 rfl (lv_at hl 0 rfl) ?_
    refine hr_get S hE hW h_34 inX5 (C := RX5) (T := TX5) (N := 28) rfl 26 (by decide) q_f_5_105 rfl dX5_enter_59 ?_
    refine lv_iload_n hx hb dX5_enter_62 rfl (lv_at hl 2 rfl) ?_
    refine hr_iastk S hE hW hS h_32 (j := Fs.length) rfl hFl (by decide) dX5_enter_63 (fun H locs ct_37 hW hk_38 hg_39 hz hS => ?_)
    have h_40 := (hg_39 11 (by decide)).trans h_28
    have h_41 := (hg_39 19 (by decide)).trans h_29
    have h_42 := (hg_39 20 (by decide)).trans h_30
    have h_43 := (hg_39 29 (by decide)).trans h_31
    have h_44 := (hg_39 35 (by decide)).trans h_33
    have h_45 := (hg_39 8 (by decide)).trans h_34
    have h_46 := (hg_39 32 (by decide)).trans h_35
    have h_47 := (hg_39 33 (by decide)).trans h_36
    have h_48 : ct_37 34 = some (.inl (G.2.1.1, 100, .inl (upd fx Fs.length x))) := hk_38
    refine lv_aload_n hx hb dX5_enter_64 rfl (lv_at hl 0 rfl) ?_
    refine lv_dup hx hb dX5_enter_65 rfl ?_
    refine hr_get S hE hW h_45 inX5 (C := RX5) (T := TX5) (N := 28) rfl 26 (by decide) q_f_5_105 rfl dX5_enter_66 ?_
    refine lv_iconst (v := 1) hx hb dX5_enter_69 (by decide) ?_
    refine lv_iadd hx hb dX5_enter_70 ?_
    rw [nI_1]
    refine hr_put S hE hW hS h_45 inX5 (C := RX5) (T := TX5) (N := 28) tyX5_ok nmX5 rfl 26 (by decide) q_f_5_105 rfl rfl rfl (Nat.le_of_ble_eq_true rfl) dX5_enter_71 (fun H locs ct_49 hW hk_50 hg_51 hz hS => ?_)
    have h_52 := (hg_51 11 (by decide)).trans h_40
    have h_53 := (hg_51 19 (by decide)).trans h_41
    have h_54 := (hg_51 20 (by decide)).trans h_42
    have h_55 := (hg_51 29 (by decide)).trans h_43
    have h_56 := (hg_51 35 (by decide)).trans h_44
    have h_57 := (hg_51 32 (by decide)).trans h_46
    have h_58 := (hg_51 33 (by decide)).trans h_47
    have h_59 := (hg_51 34 (by decide)).trans h_48
    have h_60 : ct_49 8 = some (.inr (5, [.ref (ad 10), .ref (ad 11), .ref (ad 12), .ref (ad 13), .ref (ad 14), .ref (ad 15), .ref (ad 16), .ref (ad 17), .ref (ad 18), .ref (ad 19), .ref (ad 20), .ref (ad 21), .int dn, .ref (ad 23), .ref (ad 24), .int lk, .ref (ad 26), .ref (ad 27), .ref (ad 28), .ref (ad 29), .int (q.2.2.1 + 1), .int st0, .ref (ad 32), .ref (ad 33), .ref (ad 34), .ref (ad 35), .int (nI (Fs.length + 1)), .int (nI P.length)])) := hk_50
    exact h_vret S hr hlk hS hW dX5_enter_74 ⟨⟨_, _, _, pl, h_60, h_53, h_54, (by rw [show (bgS (nI bd) q).2.2.2 = q.2.2.2 from bgF_ge c_6]; exact h_55), h_57, h_58, h_59, h_56, FrRep_push hF, hL⟩, (fun j hj => ((hg_51 j (by omega))).trans (((hg_39 j (by omega))).trans (((hg_27 j (by omega))).trans (((hg_15 j (by omega))).trans ((hg_3 j (by omega)))))))⟩
  · refine lv_aload_n hx hb dX5_enter_9 rfl (lv_at hl 0 rfl) ?_
    refine hr_get S hE hW h8 inX5 (C := RX5) (T := TX5) (N := 28) rfl 19 (by decide) q_f_5_62 rfl dX5_enter_10 ?_
    refine lv_aload_n hx hb dX5_enter_13 rfl (lv_at hl 0 rfl) ?_
    refine hr_get S hE hW h8 inX5 (C := RX5) (T := TX5) (N := 28) rfl 20 (by decide) q_f_5_102 rfl dX5_enter_14 ?_
    refine lv_iload_n hx hb dX5_enter_17 rfl (lv_at hl 1 rfl) ?_
    refine hr_iastk S hE hW hS h29 (j := bb) hqb (lt64 hqb (by omega) c_6) (by decide) dX5_enter_18 (fun H locs ct_61 hW hk_62 hg_63 hz hS => ?_)
    have h_64 := (hg_63 11 (by decide)).trans h11
    have h_65 := (hg_63 8 (by decide)).trans h8
    have h_66 := (hg_63 19 (by decide)).trans h19
    have h_67 := (hg_63 20 (by decide)).trans h20
    have h_68 := (hg_63 32 (by decide)).trans h32
    have h_69 := (hg_63 33 (by decide)).trans h33
    have h_70 := (hg_63 34 (by decide)).trans h34
    have h_71 := (hg_63 35 (by decide)).trans h35
    have h_72 : ct_61 29 = some (.inl (G.2.1.1, 64, .inl (upd q.2.2.2 bb (nI bd)))) := hk_62
    refine lv_aload_n hx hb dX5_enter_19 rfl (lv_at hl 0 rfl) ?_
    refine lv_dup hx hb dX5_enter_20 rfl ?_
    refine hr_get S hE hW h_65 inX5 (C := RX5) (T := TX5) (N := 28) rfl 20 (by decide) q_f_5_102 rfl dX5_enter_21 ?_
    refine lv_iconst (v := 1) hx hb dX5_enter_24 (by decide) ?_
    refine lv_iadd hx hb dX5_enter_25 ?_
    refine hr_put S hE hW hS h_65 inX5 (C := RX5) (T := TX5) (N := 28) tyX5_ok nmX5 rfl 20 (by decide) q_f_5_102 rfl rfl rfl (Nat.le_of_ble_eq_true rfl) dX5_enter_26 (fun H locs ct_73 hW hk_74 hg_75 hz hS => ?_)
    have h_76 := (hg_75 11 (by decide)).trans h_64
    have h_77 := (hg_75 19 (by decide)).trans h_66
    have h_78 := (hg_75 20 (by decide)).trans h_67
    have h_79 := (hg_75 32 (by decide)).trans h_68
    have h_80 := (hg_75 33 (by decide)).trans h_69
    have h_81 := (hg_75 34 (by decide)).trans h_70
    have h_82 := (hg_75 35 (by decide)).trans h_71
    have h_83 := (hg_75 29 (by decide)).trans h_72
    have h_84 : ct_73 8 = some (.inr (5, [.ref (ad 10), .ref (ad 11), .ref (ad 12), .ref (ad 13), .ref (ad 14), .ref (ad 15), .ref (ad 16), .ref (ad 17), .ref (ad 18), .ref (ad 19), .ref (ad 20), .ref (ad 21), .int dn, .ref (ad 23), .ref (ad 24), .int lk, .ref (ad 26), .ref (ad 27), .ref (ad 28), .ref (ad 29), .int (q.2.2.1 + 1), .int st0, .ref (ad 32), .ref (ad 33), .ref (ad 34), .ref (ad 35), .int (nI Fs.length), .int (nI P.length)])) := hk_74
    refine lv_aload_n hx hb dX5_enter_29 rfl (lv_at hl 0 rfl) ?_
    refine hr_get S hE hW h_84 inX5 (C := RX5) (T := TX5) (N := 28) rfl 22 (by decide) q_f_5_65 rfl dX5_enter_30 ?_
    refine lv_aload_n hx hb dX5_enter_33 rfl (lv_at hl 0 rfl) ?_
    refine hr_get S hE hW h_84 inX5 (C := RX5) (T := TX5) (N := 28) rfl 26 (by decide) q_f_5_105 rfl dX5_enter_34 ?_
    refine lv_iload_n hx hb dX5_enter_37 rfl (lv_at hl 1 rfl) ?_
    refine hr_iastk S hE hW hS h_79 (j := Fs.length) rfl hFl (by decide) dX5_enter_38 (fun H locs ct_85 hW hk_86 hg_87 hz hS => ?_)
    have h_88 := (hg_87 11 (by decide)).trans h_76
    have h_89 := (hg_87 19 (by decide)).trans h_77
    have h_90 := (hg_87 20 (by decide)).trans h_78
    have h_91 := (hg_87 33 (by decide)).trans h_80
    have h_92 := (hg_87 34 (by decide)).trans h_81
    have h_93 := (hg_87 35 (by decide)).trans h_82
    have h_94 := (hg_87 29 (by decide)).trans h_83
    have h_95 := (hg_87 8 (by decide)).trans h_84
    have h_96 : ct_85 32 = some (.inl (G.2.1.1, 100, .inl (upd fb Fs.length (nI bd)))) := hk_86
    refine lv_aload_n hx hb dX5_enter_39 rfl (lv_at hl 0 rfl) ?_
    refine hr_get S hE hW h_95 inX5 (C := RX5) (T := TX5) (N := 28) rfl 23 (by decide) q_f_5_68 rfl dX5_enter_40 ?_
    refine lv_aload_n hx hb dX5_enter_43 rfl (lv_at hl 0 rfl) ?_
    refine hr_get S hE hW h_95 inX5 (C := RX5) (T := TX5) (N := 28) rfl 26 (by decide) q_f_5_105 rfl dX5_enter_44 ?_
    refine lv_aload_n hx hb dX5_enter_47 rfl (lv_at hl 0 rfl) ?_
    refine hr_get S hE hW h_95 inX5 (C := RX5) (T := TX5) (N := 28) rfl 1 (by decide) q_f_5_13 rfl dX5_enter_48 ?_
    refine lv_iload_n hx hb dX5_enter_51 rfl (lv_at hl 1 rfl) ?_
    refine hr_ialdk S hE hW h_88 (j := bd) rfl (by omega) (by decide) dX5_enter_52 ?_
    rw [hst]
    refine hr_iastk S hE hW hS h_91 (j := Fs.length) rfl hFl (by decide) dX5_enter_53 (fun H locs ct_97 hW hk_98 hg_99 hz hS => ?_)
    have h_100 := (hg_99 11 (by decide)).trans h_88
    have h_101 := (hg_99 19 (by decide)).trans h_89
    have h_102 := (hg_99 20 (by decide)).trans h_90
    have h_103 := (hg_99 34 (by decide)).trans h_92
    have h_104 := (hg_99 35 (by decide)).trans h_93
    have h_105 := (hg_99 29 (by decide)).trans h_94
    have h_106 := (hg_99 8 (by decide)).trans h_95
    have h_107 := (hg_99 32 (by decide)).trans h_96
    have h_108 : ct_97 33 = some (.inl (G.2.1.1, 100, .inl (upd fa Fs.length (nI a0)))) := hk_98
    refine lv_aload_n hx hb dX5_enter_54 rfl (lv_at hl 0 rfl) ?_
    refine hr_get S hE hW h_106 inX5 (C := RX5) (T := TX5) (N := 28) rfl 24 (by decide) q_f_5_71 rfl dX5_enter_55 ?_
    refine lv_aload_n hx hb dX5_enter_58 rfl (lv_at hl 0 rfl) ?_
    refine hr_get S hE hW h_106 inX5 (C := RX5) (T := TX5) (N := 28) rfl 26 (by decide) q_f_5_105 rfl dX5_enter_59 ?_
    refine lv_iload_n hx hb dX5_enter_62 rfl (lv_at hl 2 rfl) ?_
    refine hr_iastk S hE hW hS h_103 (j := Fs.length) rfl hFl (by decide) dX5_enter_63 (fun H locs ct_109 hW hk_110 hg_111 hz hS => ?_)
    have h_112 := (hg_111 11 (by decide)).trans h_100
    have h_113 := (hg_111 19 (by decide)).trans h_101
    have h_114 := (hg_111 20 (by decide)).trans h_102
    have h_115 := (hg_111 35 (by decide)).trans h_104
    have h_116 := (hg_111 29 (by decide)).trans h_105
    have h_117 := (hg_111 8 (by decide)).trans h_106
    have h_118 := (hg_111 32 (by decide)).trans h_107
    have h_119 := (hg_111 33 (by decide)).trans h_108
    have h_120 : ct_109 34 = some (.inl (G.2.1.1, 100, .inl (upd fx Fs.length x))) := hk_110
    refine lv_aload_n hx hb dX5_enter_64 rfl (lv_at hl 0 rfl) ?_
    refine lv_dup hx hb dX5_enter_65 rfl ?_
    refine hr_get S hE hW h_117 inX5 (C := RX5) (T := TX5) (N := 28) rfl 26 (by decide) q_f_5_105 rfl dX5_enter_66 ?_
    refine lv_iconst (v := 1) hx hb dX5_enter_69 (by decide) ?_
    refine lv_iadd hx hb dX5_enter_70 ?_
    rw [nI_1]
    refine hr_put S hE hW hS h_117 inX5 (C := RX5) (T := TX5) (N := 28) tyX5_ok nmX5 rfl 26 (by decide) q_f_5_105 rfl rfl rfl (Nat.le_of_ble_eq_true rfl) dX5_enter_71 (fun H locs ct_121 hW hk_122 hg_123 hz hS => ?_)
    have h_124 := (hg_123 11 (by decide)).trans h_112
    have h_125 := (hg_123 19 (by decide)).trans h_113
    have h_126 := (hg_123 20 (by decide)).trans h_114
    have h_127 := (hg_123 35 (by decide)).trans h_115
    have h_128 := (hg_123 29 (by decide)).trans h_116
    have h_129 := (hg_123 32 (by decide)).trans h_118
    have h_130 := (hg_123 33 (by decide)).trans h_119
    have h_131 := (hg_123 34 (by decide)).trans h_120
    have h_132 : ct_121 8 = some (.inr (5, [.ref (ad 10), .ref (ad 11), .ref (ad 12), .ref (ad 13), .ref (ad 14), .ref (ad 15), .ref (ad 16), .ref (ad 17), .ref (ad 18), .ref (ad 19), .ref (ad 20), .ref (ad 21), .int dn, .ref (ad 23), .ref (ad 24), .int lk, .ref (ad 26), .ref (ad 27), .ref (ad 28), .ref (ad 29), .int (q.2.2.1 + 1), .int st0, .ref (ad 32), .ref (ad 33), .ref (ad 34), .ref (ad 35), .int (nI (Fs.length + 1)), .int (nI P.length)])) := hk_122
    exact h_vret S hr hlk hS hW dX5_enter_74 ⟨⟨_, _, _, pl, h_132, h_125, h_126, (by rw [show (bgS (nI bd) q).2.2.2 = upd q.2.2.2 bb (nI bd) from bgF_lt hqb (by omega) c_6]; exact h_128), h_129, h_130, h_131, h_127, FrRep_push hF, hL⟩, (fun j hj => ((hg_123 j (by omega))).trans (((hg_111 j (by omega))).trans (((hg_99 j (by omega))).trans (((hg_87 j (by omega))).trans (((hg_75 j (by omega))).trans ((hg_63 j (by omega))))))))⟩
set_option maxRecDepth 100000 in
set_option maxHeartbeats 4000000 in
theorem c_X5_step_c (l : Launch) (G : hG) (ad : Nat → Nat) (ct : Nat → Option va_E) {dn lk st0 : Int32} {i : Nat} {vv cv : Nat → Int32} {Fs : List (Nat × Nat × Int32)} {P : List Int32} {q : St} (hM : MC G ad ct dn lk st0 i vv cv Fs P q) {o : Nat} (ho : o < 1000) (hPl : P.length < 300) (x : Int32)  : Met l yX5_step wzX5_step { frames := 1, cells := 0, slots := 0, locals := 21 } (hPw [.ref (ad 8), .int (nI i), .int (nI o), .int x] G ad ct) (hQv (fun ct1 => MC G ad ct1 dn lk st0 i vv cv Fs (nI o :: P) q ∧ agM ct1 ct) G ad) 0 0 (hA G.2.2.2) := by
  refine hMetw (by decide) (Nat.le_of_ble_eq_true rfl) (fun p e s m below meth c ls S hr hlk hE hW hl => ?_)
  obtain ⟨hx, hb, hml, hown, hts⟩ := id S
  have hS : va_S (hA G.2.2.2) s.heap s.heap [] := va_S.rf
  have hl : lv_has ls 6 [(0, .ref (ad 8)), (1, .int (nI i)), (2, .int (nI o)), (3, .int x)] := hl
  obtain ⟨fb, fa, fx, pl, h8, h19, h20, h29, h32, h33, h34, h35, hF, hL⟩ := id hM
  refine lv_iload_n hx hb dX5_step_0 rfl (lv_at hl 2 rfl) ?_
  refine lv_sipush (v := 1000) hx hb dX5_step_1 (by decide) ?_
  refine lv_icmp_ge (tgt := 13) hx hb dX5_step_4 (by decide) (fun q => absurd q (nI_ge (b := 1000) ho (by omega))) (fun _ => ?_)
  refine lv_aload_n hx hb dX5_step_7 rfl (lv_at hl 0 rfl) ?_
  refine lv_iload_n hx hb dX5_step_8 rfl (lv_at hl 2 rfl) ?_
  refine hc_v (va_runV (As := [.int (nI o)]) (rest := []) S (c_X5_push l G ad _ hM (by omega) (nI o)) (cwV 1 hts (gWSV q_l_5_119 q_im_X5_push q_se_X5_push q_in_5 q_co_X5_push) rfl rfl rfl (by decide +kernel) ⟨Nat.le_of_ble_eq_true rfl, Nat.le_of_ble_eq_true rfl⟩) (hPreVw hE hS (hrecv hE hW h8 (q := (RX5, TX5, 28)) rfl) hW) rfl rfl hl.1 rfl (lv_room (Nat.le_of_ble_eq_true rfl)) dX5_step_9 ⟨Nat.le_of_ble_eq_true rfl, Nat.le_of_ble_eq_true rfl⟩) hS (fun ct_1 H locs hp hW hS => ?_)
  obtain ⟨hM, hag_2⟩ := hp
  obtain ⟨fb, fa, fx, pl, h8, h19, h20, h29, h32, h33, h34, h35, hF, hL⟩ := id hM
  exact h_vret S hr hlk hS hW dX5_step_12 ⟨hM, (fun j hj => (hag_2 j hj))⟩
set_option maxRecDepth 100000 in
set_option maxHeartbeats 4000000 in
theorem c_X5_step_x (l : Launch) (G : hG) (ad : Nat → Nat) (ct : Nat → Option va_E) {dn lk st0 : Int32} {i : Nat} {vv cv : Nat → Int32} {Fs : List (Nat × Nat × Int32)} {P : List Int32} {q : St} (hM : MC G ad ct dn lk st0 i vv cv Fs P q) (hPl : P.length < 300) (x : Int32)  : Met l yX5_step wzX5_step { frames := 1, cells := 0, slots := 0, locals := 21 } (hPw [.ref (ad 8), .int (nI i), .int 1000, .int x] G ad ct) (hQv (fun ct1 => MC G ad ct1 dn lk st0 i vv cv Fs (x :: P) q ∧ agM ct1 ct) G ad) 0 0 (hA G.2.2.2) := by
  refine hMetw (by decide) (Nat.le_of_ble_eq_true rfl) (fun p e s m below meth c ls S hr hlk hE hW hl => ?_)
  obtain ⟨hx, hb, hml, hown, hts⟩ := id S
  have hS : va_S (hA G.2.2.2) s.heap s.heap [] := va_S.rf
  have hl : lv_has ls 6 [(0, .ref (ad 8)), (1, .int (nI i)), (2, .int 1000), (3, .int x)] := hl
  obtain ⟨fb, fa, fx, pl, h8, h19, h20, h29, h32, h33, h34, h35, hF, hL⟩ := id hM
  refine lv_iload_n hx hb dX5_step_0 rfl (lv_at hl 2 rfl) ?_
  refine lv_sipush (v := 1000) hx hb dX5_step_1 (by decide) ?_
  refine lv_icmp_ge (tgt := 13) hx hb dX5_step_4 (by decide) (fun _ => ?_) (fun q => absurd (by decide) q)
  refine lv_iload_n hx hb dX5_step_13 rfl (lv_at hl 2 rfl) ?_
  refine lv_tableIn (off := 54) (tgt := 68) hx hb dX5_step_14 (by decide) (by decide) (by decide) (by decide) ?_
  refine lv_aload_n hx hb dX5_step_68 rfl (lv_at hl 0 rfl) ?_
  refine lv_iload_n hx hb dX5_step_69 rfl (lv_at hl 3 rfl) ?_
  refine hc_v (va_runV (As := [.int x]) (rest := []) S (c_X5_push l G ad _ hM (by omega) x) (cwV 1 hts (gWSV q_l_5_119 q_im_X5_push q_se_X5_push q_in_5 q_co_X5_push) rfl rfl rfl (by decide +kernel) ⟨Nat.le_of_ble_eq_true rfl, Nat.le_of_ble_eq_true rfl⟩) (hPreVw hE hS (hrecv hE hW h8 (q := (RX5, TX5, 28)) rfl) hW) rfl rfl hl.1 rfl (lv_room (Nat.le_of_ble_eq_true rfl)) dX5_step_70 ⟨Nat.le_of_ble_eq_true rfl, Nat.le_of_ble_eq_true rfl⟩) hS (fun ct_1 H locs hp hW hS => ?_)
  obtain ⟨hM, hag_2⟩ := hp
  obtain ⟨fb, fa, fx, pl, h8, h19, h20, h29, h32, h33, h34, h35, hF, hL⟩ := id hM
  exact h_vret S hr hlk hS hW dX5_step_73 ⟨hM, (fun j hj => (hag_2 j hj))⟩
set_option maxRecDepth 100000 in
set_option maxHeartbeats 4000000 in
theorem c_X5_step_v (l : Launch) (G : hG) (ad : Nat → Nat) (ct : Nat → Option va_E) {dn lk st0 : Int32} {i : Nat} {vv cv : Nat → Int32} {Fs : List (Nat × Nat × Int32)} {P : List Int32} {q : St} (hM : MC G ad ct dn lk st0 i vv cv Fs P q) (hPl : P.length < 300) (hi : i < 300) (x : Int32)  : Met l yX5_step wzX5_step { frames := 1, cells := 0, slots := 0, locals := 21 } (hPw [.ref (ad 8), .int (nI i), .int 1001, .int x] G ad ct) (hQv (fun ct1 => MC G ad ct1 dn lk st0 i vv cv Fs (q.1 :: P) q ∧ agM ct1 ct) G ad) 0 0 (hA G.2.2.2) := by
  refine hMetw (by decide) (Nat.le_of_ble_eq_true rfl) (fun p e s m below meth c ls S hr hlk hE hW hl => ?_)
  obtain ⟨hx, hb, hml, hown, hts⟩ := id S
  have hS : va_S (hA G.2.2.2) s.heap s.heap [] := va_S.rf
  have hl : lv_has ls 6 [(0, .ref (ad 8)), (1, .int (nI i)), (2, .int 1001), (3, .int x)] := hl
  obtain ⟨fb, fa, fx, pl, h8, h19, h20, h29, h32, h33, h34, h35, hF, hL⟩ := id hM
  refine lv_iload_n hx hb dX5_step_0 rfl (lv_at hl 2 rfl) ?_
  refine lv_sipush (v := 1000) hx hb dX5_step_1 (by decide) ?_
  refine lv_icmp_ge (tgt := 13) hx hb dX5_step_4 (by decide) (fun _ => ?_) (fun q => absurd (by decide) q)
  refine lv_iload_n hx hb dX5_step_13 rfl (lv_at hl 2 rfl) ?_
  refine lv_tableIn (off := 60) (tgt := 74) hx hb dX5_step_14 (by decide) (by decide) (by decide) (by decide) ?_
  refine lv_aload_n hx hb dX5_step_74 rfl (lv_at hl 0 rfl) ?_
  refine lv_aload_n hx hb dX5_step_75 rfl (lv_at hl 0 rfl) ?_
  refine hr_get S hE hW h8 inX5 (C := RX5) (T := TX5) (N := 28) rfl 9 (by decide) q_f_5_37 rfl dX5_step_76 ?_
  refine lv_iload_n hx hb dX5_step_79 rfl (lv_at hl 1 rfl) ?_
  refine hr_ialdk S hE hW h19 (j := i) rfl hi (by decide) dX5_step_80 ?_
  rw [pk_us]
  refine hc_v (va_runV (As := [.int q.1]) (rest := []) S (c_X5_push l G ad _ hM (by omega) q.1) (cwV 1 hts (gWSV q_l_5_119 q_im_X5_push q_se_X5_push q_in_5 q_co_X5_push) rfl rfl rfl (by decide +kernel) ⟨Nat.le_of_ble_eq_true rfl, Nat.le_of_ble_eq_true rfl⟩) (hPreVw hE hS (hrecv hE hW h8 (q := (RX5, TX5, 28)) rfl) hW) rfl rfl hl.1 rfl (lv_room (Nat.le_of_ble_eq_true rfl)) dX5_step_81 ⟨Nat.le_of_ble_eq_true rfl, Nat.le_of_ble_eq_true rfl⟩) hS (fun ct_1 H locs hp hW hS => ?_)
  obtain ⟨hM, hag_2⟩ := hp
  obtain ⟨fb, fa, fx, pl, h8, h19, h20, h29, h32, h33, h34, h35, hF, hL⟩ := id hM
  exact h_vret S hr hlk hS hW dX5_step_84 ⟨hM, (fun j hj => (hag_2 j hj))⟩
set_option maxRecDepth 100000 in
set_option maxHeartbeats 4000000 in
theorem c_X5_step_w (l : Launch) (G : hG) (ad : Nat → Nat) (ct : Nat → Option va_E) {dn lk st0 : Int32} {i : Nat} {vv cv : Nat → Int32} {Fs : List (Nat × Nat × Int32)} {P : List Int32} {q : St} (hM : MC G ad ct dn lk st0 i vv cv Fs P q) (hPl : P.length < 300) (hi : i < 300) (x : Int32)  : Met l yX5_step wzX5_step { frames := 1, cells := 0, slots := 0, locals := 21 } (hPw [.ref (ad 8), .int (nI i), .int 1002, .int x] G ad ct) (hQv (fun ct1 => MC G ad ct1 dn lk st0 i vv cv Fs (q.2.1 :: P) q ∧ agM ct1 ct) G ad) 0 0 (hA G.2.2.2) := by
  refine hMetw (by decide) (Nat.le_of_ble_eq_true rfl) (fun p e s m below meth c ls S hr hlk hE hW hl => ?_)
  obtain ⟨hx, hb, hml, hown, hts⟩ := id S
  have hS : va_S (hA G.2.2.2) s.heap s.heap [] := va_S.rf
  have hl : lv_has ls 6 [(0, .ref (ad 8)), (1, .int (nI i)), (2, .int 1002), (3, .int x)] := hl
  obtain ⟨fb, fa, fx, pl, h8, h19, h20, h29, h32, h33, h34, h35, hF, hL⟩ := id hM
  refine lv_iload_n hx hb dX5_step_0 rfl (lv_at hl 2 rfl) ?_
  refine lv_sipush (v := 1000) hx hb dX5_step_1 (by decide) ?_
  refine lv_icmp_ge (tgt := 13) hx hb dX5_step_4 (by decide) (fun _ => ?_) (fun q => absurd (by decide) q)
  refine lv_iload_n hx hb dX5_step_13 rfl (lv_at hl 2 rfl) ?_
  refine lv_tableIn (off := 71) (tgt := 85) hx hb dX5_step_14 (by decide) (by decide) (by decide) (by decide) ?_
  refine lv_aload_n hx hb dX5_step_85 rfl (lv_at hl 0 rfl) ?_
  refine lv_aload_n hx hb dX5_step_86 rfl (lv_at hl 0 rfl) ?_
  refine hr_get S hE hW h8 inX5 (C := RX5) (T := TX5) (N := 28) rfl 10 (by decide) q_f_5_40 rfl dX5_step_87 ?_
  refine lv_iload_n hx hb dX5_step_90 rfl (lv_at hl 1 rfl) ?_
  refine hr_ialdk S hE hW h20 (j := i) rfl hi (by decide) dX5_step_91 ?_
  rw [pk_us]
  refine hc_v (va_runV (As := [.int q.2.1]) (rest := []) S (c_X5_push l G ad _ hM (by omega) q.2.1) (cwV 1 hts (gWSV q_l_5_119 q_im_X5_push q_se_X5_push q_in_5 q_co_X5_push) rfl rfl rfl (by decide +kernel) ⟨Nat.le_of_ble_eq_true rfl, Nat.le_of_ble_eq_true rfl⟩) (hPreVw hE hS (hrecv hE hW h8 (q := (RX5, TX5, 28)) rfl) hW) rfl rfl hl.1 rfl (lv_room (Nat.le_of_ble_eq_true rfl)) dX5_step_92 ⟨Nat.le_of_ble_eq_true rfl, Nat.le_of_ble_eq_true rfl⟩) hS (fun ct_1 H locs hp hW hS => ?_)
  obtain ⟨hM, hag_2⟩ := hp
  obtain ⟨fb, fa, fx, pl, h8, h19, h20, h29, h32, h33, h34, h35, hF, hL⟩ := id hM
  exact h_vret S hr hlk hS hW dX5_step_95 ⟨hM, (fun j hj => (hag_2 j hj))⟩
set_option maxRecDepth 100000 in
set_option maxHeartbeats 4000000 in
theorem c_X5_step_tv (l : Launch) (G : hG) (ad : Nat → Nat) (ct : Nat → Option va_E) {dn lk st0 : Int32} {i : Nat} {vv cv : Nat → Int32} {Fs : List (Nat × Nat × Int32)} {P : List Int32} {q : St} {y : Int32} (hM : MC G ad ct dn lk st0 i vv cv Fs (y :: P) q) (hPl : P.length < 300) (hi : i < 300) (x : Int32)  : Met l yX5_step wzX5_step { frames := 1, cells := 0, slots := 0, locals := 21 } (hPw [.ref (ad 8), .int (nI i), .int 1008, .int x] G ad ct) (hQv (fun ct1 => MC G ad ct1 dn lk st0 i vv cv Fs P (y, q.2) ∧ agM ct1 ct) G ad) 0 0 (hA G.2.2.2) := by
  refine hMetw (by decide) (Nat.le_of_ble_eq_true rfl) (fun p e s m below meth c ls S hr hlk hE hW hl => ?_)
  obtain ⟨hx, hb, hml, hown, hts⟩ := id S
  have hS : va_S (hA G.2.2.2) s.heap s.heap [] := va_S.rf
  have hl : lv_has ls 6 [(0, .ref (ad 8)), (1, .int (nI i)), (2, .int 1008), (3, .int x)] := hl
  obtain ⟨fb, fa, fx, pl, h8, h19, h20, h29, h32, h33, h34, h35, hF, hL⟩ := id hM
  refine lv_iload_n hx hb dX5_step_0 rfl (lv_at hl 2 rfl) ?_
  refine lv_sipush (v := 1000) hx hb dX5_step_1 (by decide) ?_
  refine lv_icmp_ge (tgt := 13) hx hb dX5_step_4 (by decide) (fun _ => ?_) (fun q => absurd (by decide) q)
  refine lv_iload_n hx hb dX5_step_13 rfl (lv_at hl 2 rfl) ?_
  refine lv_tableIn (off := 82) (tgt := 96) hx hb dX5_step_14 (by decide) (by decide) (by decide) (by decide) ?_
  refine lv_aload_n hx hb dX5_step_96 rfl (lv_at hl 0 rfl) ?_
  refine hr_get S hE hW h8 inX5 (C := RX5) (T := TX5) (N := 28) rfl 9 (by decide) q_f_5_37 rfl dX5_step_97 ?_
  refine lv_iload_n hx hb dX5_step_100 rfl (lv_at hl 1 rfl) ?_
  refine lv_aload_n hx hb dX5_step_101 rfl (lv_at hl 0 rfl) ?_
  refine hc_i (va_runV (As := []) (rest := [.int (nI i), .ref (ad 19)]) S (c_X5_pop l G ad _ hM (by omega)) (cwV 0 hts (gWSV q_l_5_112 q_im_X5_pop q_se_X5_pop q_in_5 q_co_X5_pop) rfl rfl rfl (by decide +kernel) ⟨Nat.le_of_ble_eq_true rfl, Nat.le_of_ble_eq_true rfl⟩) (hPreVw hE hS (hrecv hE hW h8 (q := (RX5, TX5, 28)) rfl) hW) rfl rfl hl.1 rfl (lv_room (Nat.le_of_ble_eq_true rfl)) dX5_step_102 ⟨Nat.le_of_ble_eq_true rfl, Nat.le_of_ble_eq_true rfl⟩) hS (fun rv_3 ct_1 H locs hp hW hS => ?_)
  obtain ⟨ev_4, hM, hag_2⟩ := hp
  rw [ev_4]
  obtain ⟨fb, fa, fx, pl, h8, h19, h20, h29, h32, h33, h34, h35, hF, hL⟩ := id hM
  refine hr_iastk S hE hW hS h19 (j := i) rfl hi (by decide) dX5_step_105 (fun H locs ct_5 hW hk_6 hg_7 hz hS => ?_)
  have h_8 := (hg_7 8 (by decide)).trans h8
  have h_9 := (hg_7 20 (by decide)).trans h20
  have h_10 := (hg_7 29 (by decide)).trans h29
  have h_11 := (hg_7 32 (by decide)).trans h32
  have h_12 := (hg_7 33 (by decide)).trans h33
  have h_13 := (hg_7 34 (by decide)).trans h34
  have h_14 := (hg_7 35 (by decide)).trans h35
  have h_15 : ct_5 19 = some (.inl (G.2.1.1, 300, .inl (upd (upd vv i q.1) i y))) := hk_6
  exact h_vret S hr hlk hS hW dX5_step_106 ⟨⟨fb, fa, fx, pl, h_8, (by rw [upd_upd] at h_15; exact h_15), h_9, h_10, h_11, h_12, h_13, h_14, hF, hL⟩, (fun j hj => ((hg_7 j (by omega))).trans ((hag_2 j hj)))⟩
set_option maxRecDepth 100000 in
set_option maxHeartbeats 4000000 in
theorem c_X5_step_tc (l : Launch) (G : hG) (ad : Nat → Nat) (ct : Nat → Option va_E) {dn lk st0 : Int32} {i : Nat} {vv cv : Nat → Int32} {Fs : List (Nat × Nat × Int32)} {P : List Int32} {q : St} {y : Int32} (hM : MC G ad ct dn lk st0 i vv cv Fs (y :: P) q) (hPl : P.length < 300) (hi : i < 300) (x : Int32)  : Met l yX5_step wzX5_step { frames := 1, cells := 0, slots := 0, locals := 21 } (hPw [.ref (ad 8), .int (nI i), .int 1009, .int x] G ad ct) (hQv (fun ct1 => MC G ad ct1 dn lk st0 i vv cv Fs P (q.1, y, q.2.2) ∧ agM ct1 ct) G ad) 0 0 (hA G.2.2.2) := by
  refine hMetw (by decide) (Nat.le_of_ble_eq_true rfl) (fun p e s m below meth c ls S hr hlk hE hW hl => ?_)
  obtain ⟨hx, hb, hml, hown, hts⟩ := id S
  have hS : va_S (hA G.2.2.2) s.heap s.heap [] := va_S.rf
  have hl : lv_has ls 6 [(0, .ref (ad 8)), (1, .int (nI i)), (2, .int 1009), (3, .int x)] := hl
  obtain ⟨fb, fa, fx, pl, h8, h19, h20, h29, h32, h33, h34, h35, hF, hL⟩ := id hM
  refine lv_iload_n hx hb dX5_step_0 rfl (lv_at hl 2 rfl) ?_
  refine lv_sipush (v := 1000) hx hb dX5_step_1 (by decide) ?_
  refine lv_icmp_ge (tgt := 13) hx hb dX5_step_4 (by decide) (fun _ => ?_) (fun q => absurd (by decide) q)
  refine lv_iload_n hx hb dX5_step_13 rfl (lv_at hl 2 rfl) ?_
  refine lv_tableIn (off := 93) (tgt := 107) hx hb dX5_step_14 (by decide) (by decide) (by decide) (by decide) ?_
  refine lv_aload_n hx hb dX5_step_107 rfl (lv_at hl 0 rfl) ?_
  refine hr_get S hE hW h8 inX5 (C := RX5) (T := TX5) (N := 28) rfl 10 (by decide) q_f_5_40 rfl dX5_step_108 ?_
  refine lv_iload_n hx hb dX5_step_111 rfl (lv_at hl 1 rfl) ?_
  refine lv_aload_n hx hb dX5_step_112 rfl (lv_at hl 0 rfl) ?_
  refine hc_i (va_runV (As := []) (rest := [.int (nI i), .ref (ad 20)]) S (c_X5_pop l G ad _ hM (by omega)) (cwV 0 hts (gWSV q_l_5_112 q_im_X5_pop q_se_X5_pop q_in_5 q_co_X5_pop) rfl rfl rfl (by decide +kernel) ⟨Nat.le_of_ble_eq_true rfl, Nat.le_of_ble_eq_true rfl⟩) (hPreVw hE hS (hrecv hE hW h8 (q := (RX5, TX5, 28)) rfl) hW) rfl rfl hl.1 rfl (lv_room (Nat.le_of_ble_eq_true rfl)) dX5_step_113 ⟨Nat.le_of_ble_eq_true rfl, Nat.le_of_ble_eq_true rfl⟩) hS (fun rv_3 ct_1 H locs hp hW hS => ?_)
  obtain ⟨ev_4, hM, hag_2⟩ := hp
  rw [ev_4]
  obtain ⟨fb, fa, fx, pl, h8, h19, h20, h29, h32, h33, h34, h35, hF, hL⟩ := id hM
  refine hr_iastk S hE hW hS h20 (j := i) rfl hi (by decide) dX5_step_116 (fun H locs ct_5 hW hk_6 hg_7 hz hS => ?_)
  have h_8 := (hg_7 8 (by decide)).trans h8
  have h_9 := (hg_7 19 (by decide)).trans h19
  have h_10 := (hg_7 29 (by decide)).trans h29
  have h_11 := (hg_7 32 (by decide)).trans h32
  have h_12 := (hg_7 33 (by decide)).trans h33
  have h_13 := (hg_7 34 (by decide)).trans h34
  have h_14 := (hg_7 35 (by decide)).trans h35
  have h_15 : ct_5 20 = some (.inl (G.2.1.1, 300, .inl (upd (upd cv i q.2.1) i y))) := hk_6
  exact h_vret S hr hlk hS hW dX5_step_117 ⟨⟨fb, fa, fx, pl, h_8, h_9, (by rw [upd_upd] at h_15; exact h_15), h_10, h_11, h_12, h_13, h_14, hF, hL⟩, (fun j hj => ((hg_7 j (by omega))).trans ((hag_2 j hj)))⟩
set_option maxRecDepth 100000 in
set_option maxHeartbeats 4000000 in
theorem c_X5_step_p (l : Launch) (G : hG) (ad : Nat → Nat) (ct : Nat → Option va_E) {dn lk st0 : Int32} {i : Nat} {vv cv : Nat → Int32} {Fs : List (Nat × Nat × Int32)} {P : List Int32} {q : St} {y z : Int32} (hM : MC G ad ct dn lk st0 i vv cv Fs (y :: z :: P) q) (hPl : P.length + 1 < 300) (x : Int32)  : Met l yX5_step wzX5_step { frames := 1, cells := 0, slots := 0, locals := 21 } (hPw [.ref (ad 8), .int (nI i), .int 1003, .int x] G ad ct) (hQv (fun ct1 => MC G ad ct1 dn lk st0 i vv cv Fs ((z + y) :: P) q ∧ agM ct1 ct) G ad) 0 0 (hA G.2.2.2) := by
  refine hMetw (by decide) (Nat.le_of_ble_eq_true rfl) (fun p e s m below meth c ls S hr hlk hE hW hl => ?_)
  obtain ⟨hx, hb, hml, hown, hts⟩ := id S
  have hS : va_S (hA G.2.2.2) s.heap s.heap [] := va_S.rf
  have hl : lv_has ls 6 [(0, .ref (ad 8)), (1, .int (nI i)), (2, .int 1003), (3, .int x)] := hl
  obtain ⟨fb, fa, fx, pl, h8, h19, h20, h29, h32, h33, h34, h35, hF, hL⟩ := id hM
  refine lv_iload_n hx hb dX5_step_0 rfl (lv_at hl 2 rfl) ?_
  refine lv_sipush (v := 1000) hx hb dX5_step_1 (by decide) ?_
  refine lv_icmp_ge (tgt := 13) hx hb dX5_step_4 (by decide) (fun _ => ?_) (fun q => absurd (by decide) q)
  refine lv_iload_n hx hb dX5_step_13 rfl (lv_at hl 2 rfl) ?_
  refine lv_tableIn (off := 104) (tgt := 118) hx hb dX5_step_14 (by decide) (by decide) (by decide) (by decide) ?_
  refine lv_aload_n hx hb dX5_step_118 rfl (lv_at hl 0 rfl) ?_
  refine hc_i (va_runV (As := []) (rest := []) S (c_X5_pop l G ad _ hM (by first | assumption | (show _ < 300; omega) | (simp only [List.length_cons]; omega))) (cwV 0 hts (gWSV q_l_5_112 q_im_X5_pop q_se_X5_pop q_in_5 q_co_X5_pop) rfl rfl rfl (by decide +kernel) ⟨Nat.le_of_ble_eq_true rfl, Nat.le_of_ble_eq_true rfl⟩) (hPreVw hE hS (hrecv hE hW h8 (q := (RX5, TX5, 28)) rfl) hW) rfl rfl hl.1 rfl (lv_room (Nat.le_of_ble_eq_true rfl)) dX5_step_119 ⟨Nat.le_of_ble_eq_true rfl, Nat.le_of_ble_eq_true rfl⟩) hS (fun rv_3 ct_1 H locs hp hW hS => ?_)
  obtain ⟨ev_4, hM, hag_2⟩ := hp
  rw [ev_4]
  obtain ⟨fb, fa, fx, pl, h8, h19, h20, h29, h32, h33, h34, h35, hF, hL⟩ := id hM
  refine lv_istore (lv' := [(4, .int y), (0, .ref (ad 8)), (1, .int (nI i)), (2, .int 1003), (3, .int x)]) hx hb dX5_step_122 hl (by decide) rfl (fun ls hl => ?_)
  refine lv_aload_n hx hb dX5_step_124 rfl (lv_at hl 1 rfl) ?_
  refine hc_i (va_runV (As := []) (rest := []) S (c_X5_pop l G ad _ hM (by first | assumption | (show _ < 300; omega) | (simp only [List.length_cons]; omega))) (cwV 0 hts (gWSV q_l_5_112 q_im_X5_pop q_se_X5_pop q_in_5 q_co_X5_pop) rfl rfl rfl (by decide +kernel) ⟨Nat.le_of_ble_eq_true rfl, Nat.le_of_ble_eq_true rfl⟩) (hPreVw hE hS (hrecv hE hW h8 (q := (RX5, TX5, 28)) rfl) hW) rfl rfl hl.1 rfl (lv_room (Nat.le_of_ble_eq_true rfl)) dX5_step_125 ⟨Nat.le_of_ble_eq_true rfl, Nat.le_of_ble_eq_true rfl⟩) hS (fun rv_7 ct_5 H locs hp hW hS => ?_)
  obtain ⟨ev_8, hM, hag_6⟩ := hp
  rw [ev_8]
  obtain ⟨fb, fa, fx, pl, h8, h19, h20, h29, h32, h33, h34, h35, hF, hL⟩ := id hM
  refine lv_istore (lv' := [(5, .int z), (4, .int y), (0, .ref (ad 8)), (1, .int (nI i)), (2, .int 1003), (3, .int x)]) hx hb dX5_step_128 hl (by decide) rfl (fun ls hl => ?_)
  refine lv_aload_n hx hb dX5_step_130 rfl (lv_at hl 2 rfl) ?_
  refine lv_iload_n hx hb dX5_step_131 rfl (lv_at hl 4 rfl) ?_
  refine lv_sipush (v := 1003) hx hb dX5_step_132 (by decide) ?_
  refine lv_icmp_ne (tgt := 146) hx hb dX5_step_135 (by decide) (fun q => absurd (by decide) q) (fun _ => ?_)
  refine lv_iload hx hb dX5_step_138 (lv_at hl 0 rfl) ?_
  refine lv_iload hx hb dX5_step_140 (lv_at hl 1 rfl) ?_
  refine lv_iadd hx hb dX5_step_142 ?_
  refine lv_goto (tgt := 196) hx hb dX5_step_143 (by decide) ?_
  refine hc_v (va_runV (As := [.int (z + y)]) (rest := []) S (c_X5_push l G ad _ hM (by omega) (z + y)) (cwV 1 hts (gWSV q_l_5_119 q_im_X5_push q_se_X5_push q_in_5 q_co_X5_push) rfl rfl rfl (by decide +kernel) ⟨Nat.le_of_ble_eq_true rfl, Nat.le_of_ble_eq_true rfl⟩) (hPreVw hE hS (hrecv hE hW h8 (q := (RX5, TX5, 28)) rfl) hW) rfl rfl hl.1 rfl (lv_room (Nat.le_of_ble_eq_true rfl)) dX5_step_196 ⟨Nat.le_of_ble_eq_true rfl, Nat.le_of_ble_eq_true rfl⟩) hS (fun ct_9 H locs hp hW hS => ?_)
  obtain ⟨hM, hag_10⟩ := hp
  obtain ⟨fb, fa, fx, pl, h8, h19, h20, h29, h32, h33, h34, h35, hF, hL⟩ := id hM
  exact h_vret S hr hlk hS hW dX5_step_199 ⟨hM, (fun j hj => ((hag_10 j hj)).trans (((hag_6 j hj)).trans ((hag_2 j hj))))⟩
set_option maxRecDepth 100000 in
set_option maxHeartbeats 4000000 in
theorem c_X5_step_l (l : Launch) (G : hG) (ad : Nat → Nat) (ct : Nat → Option va_E) {dn lk st0 : Int32} {i : Nat} {vv cv : Nat → Int32} {Fs : List (Nat × Nat × Int32)} {P : List Int32} {q : St} {y z : Int32} (hM : MC G ad ct dn lk st0 i vv cv Fs (y :: z :: P) q) (hPl : P.length + 1 < 300) (x : Int32)  : Met l yX5_step wzX5_step { frames := 1, cells := 0, slots := 0, locals := 21 } (hPw [.ref (ad 8), .int (nI i), .int 1004, .int x] G ad ct) (hQv (fun ct1 => MC G ad ct1 dn lk st0 i vv cv Fs ((z - y) :: P) q ∧ agM ct1 ct) G ad) 0 0 (hA G.2.2.2) := by
  refine hMetw (by decide) (Nat.le_of_ble_eq_true rfl) (fun p e s m below meth c ls S hr hlk hE hW hl => ?_)
  obtain ⟨hx, hb, hml, hown, hts⟩ := id S
  have hS : va_S (hA G.2.2.2) s.heap s.heap [] := va_S.rf
  have hl : lv_has ls 6 [(0, .ref (ad 8)), (1, .int (nI i)), (2, .int 1004), (3, .int x)] := hl
  obtain ⟨fb, fa, fx, pl, h8, h19, h20, h29, h32, h33, h34, h35, hF, hL⟩ := id hM
  refine lv_iload_n hx hb dX5_step_0 rfl (lv_at hl 2 rfl) ?_
  refine lv_sipush (v := 1000) hx hb dX5_step_1 (by decide) ?_
  refine lv_icmp_ge (tgt := 13) hx hb dX5_step_4 (by decide) (fun _ => ?_) (fun q => absurd (by decide) q)
  refine lv_iload_n hx hb dX5_step_13 rfl (lv_at hl 2 rfl) ?_
  refine lv_tableIn (off := 104) (tgt := 118) hx hb dX5_step_14 (by decide) (by decide) (by decide) (by decide) ?_
  refine lv_aload_n hx hb dX5_step_118 rfl (lv_at hl 0 rfl) ?_
  refine hc_i (va_runV (As := []) (rest := []) S (c_X5_pop l G ad _ hM (by first | assumption | (show _ < 300; omega) | (simp only [List.length_cons]; omega))) (cwV 0 hts (gWSV q_l_5_112 q_im_X5_pop q_se_X5_pop q_in_5 q_co_X5_pop) rfl rfl rfl (by decide +kernel) ⟨Nat.le_of_ble_eq_true rfl, Nat.le_of_ble_eq_true rfl⟩) (hPreVw hE hS (hrecv hE hW h8 (q := (RX5, TX5, 28)) rfl) hW) rfl rfl hl.1 rfl (lv_room (Nat.le_of_ble_eq_true rfl)) dX5_step_119 ⟨Nat.le_of_ble_eq_true rfl, Nat.le_of_ble_eq_true rfl⟩) hS (fun rv_3 ct_1 H locs hp hW hS => ?_)
  obtain ⟨ev_4, hM, hag_2⟩ := hp
  rw [ev_4]
  obtain ⟨fb, fa, fx, pl, h8, h19, h20, h29, h32, h33, h34, h35, hF, hL⟩ := id hM
  refine lv_istore (lv' := [(4, .int y), (0, .ref (ad 8)), (1, .int (nI i)), (2, .int 1004), (3, .int x)]) hx hb dX5_step_122 hl (by decide) rfl (fun ls hl => ?_)
  refine lv_aload_n hx hb dX5_step_124 rfl (lv_at hl 1 rfl) ?_
  refine hc_i (va_runV (As := []) (rest := []) S (c_X5_pop l G ad _ hM (by first | assumption | (show _ < 300; omega) | (simp only [List.length_cons]; omega))) (cwV 0 hts (gWSV q_l_5_112 q_im_X5_pop q_se_X5_pop q_in_5 q_co_X5_pop) rfl rfl rfl (by decide +kernel) ⟨Nat.le_of_ble_eq_true rfl, Nat.le_of_ble_eq_true rfl⟩) (hPreVw hE hS (hrecv hE hW h8 (q := (RX5, TX5, 28)) rfl) hW) rfl rfl hl.1 rfl (lv_room (Nat.le_of_ble_eq_true rfl)) dX5_step_125 ⟨Nat.le_of_ble_eq_true rfl, Nat.le_of_ble_eq_true rfl⟩) hS (fun rv_7 ct_5 H locs hp hW hS => ?_)
  obtain ⟨ev_8, hM, hag_6⟩ := hp
  rw [ev_8]
  obtain ⟨fb, fa, fx, pl, h8, h19, h20, h29, h32, h33, h34, h35, hF, hL⟩ := id hM
  refine lv_istore (lv' := [(5, .int z), (4, .int y), (0, .ref (ad 8)), (1, .int (nI i)), (2, .int 1004), (3, .int x)]) hx hb dX5_step_128 hl (by decide) rfl (fun ls hl => ?_)
  refine lv_aload_n hx hb dX5_step_130 rfl (lv_at hl 2 rfl) ?_
  refine lv_iload_n hx hb dX5_step_131 rfl (lv_at hl 4 rfl) ?_
  refine lv_sipush (v := 1003) hx hb dX5_step_132 (by decide) ?_
  refine lv_icmp_ne (tgt := 146) hx hb dX5_step_135 (by decide) (fun _ => ?_) (fun q => absurd q (by decide))
  refine lv_iload_n hx hb dX5_step_146 rfl (lv_at hl 4 rfl) ?_
  refine lv_sipush (v := 1004) hx hb dX5_step_147 (by decide) ?_
  refine lv_icmp_ne (tgt := 161) hx hb dX5_step_150 (by decide) (fun q => absurd (by decide) q) (fun _ => ?_)
  refine lv_iload hx hb dX5_step_153 (lv_at hl 0 rfl) ?_
  refine lv_iload hx hb dX5_step_155 (lv_at hl 1 rfl) ?_
  refine lv_isub hx hb dX5_step_157 ?_
  refine lv_goto (tgt := 196) hx hb dX5_step_158 (by decide) ?_
  refine hc_v (va_runV (As := [.int (z - y)]) (rest := []) S (c_X5_push l G ad _ hM (by omega) (z - y)) (cwV 1 hts (gWSV q_l_5_119 q_im_X5_push q_se_X5_push q_in_5 q_co_X5_push) rfl rfl rfl (by decide +kernel) ⟨Nat.le_of_ble_eq_true rfl, Nat.le_of_ble_eq_true rfl⟩) (hPreVw hE hS (hrecv hE hW h8 (q := (RX5, TX5, 28)) rfl) hW) rfl rfl hl.1 rfl (lv_room (Nat.le_of_ble_eq_true rfl)) dX5_step_196 ⟨Nat.le_of_ble_eq_true rfl, Nat.le_of_ble_eq_true rfl⟩) hS (fun ct_9 H locs hp hW hS => ?_)
  obtain ⟨hM, hag_10⟩ := hp
  obtain ⟨fb, fa, fx, pl, h8, h19, h20, h29, h32, h33, h34, h35, hF, hL⟩ := id hM
  exact h_vret S hr hlk hS hW dX5_step_199 ⟨hM, (fun j hj => ((hag_10 j hj)).trans (((hag_6 j hj)).trans ((hag_2 j hj))))⟩
set_option maxRecDepth 100000 in
set_option maxHeartbeats 4000000 in
theorem c_X5_step_t (l : Launch) (G : hG) (ad : Nat → Nat) (ct : Nat → Option va_E) {dn lk st0 : Int32} {i : Nat} {vv cv : Nat → Int32} {Fs : List (Nat × Nat × Int32)} {P : List Int32} {q : St} {y z : Int32} (hM : MC G ad ct dn lk st0 i vv cv Fs (y :: z :: P) q) (hPl : P.length + 1 < 300) (x : Int32)  : Met l yX5_step wzX5_step { frames := 1, cells := 0, slots := 0, locals := 21 } (hPw [.ref (ad 8), .int (nI i), .int 1005, .int x] G ad ct) (hQv (fun ct1 => MC G ad ct1 dn lk st0 i vv cv Fs ((z * y) :: P) q ∧ agM ct1 ct) G ad) 0 0 (hA G.2.2.2) := by
  refine hMetw (by decide) (Nat.le_of_ble_eq_true rfl) (fun p e s m below meth c ls S hr hlk hE hW hl => ?_)
  obtain ⟨hx, hb, hml, hown, hts⟩ := id S
  have hS : va_S (hA G.2.2.2) s.heap s.heap [] := va_S.rf
  have hl : lv_has ls 6 [(0, .ref (ad 8)), (1, .int (nI i)), (2, .int 1005), (3, .int x)] := hl
  obtain ⟨fb, fa, fx, pl, h8, h19, h20, h29, h32, h33, h34, h35, hF, hL⟩ := id hM
  refine lv_iload_n hx hb dX5_step_0 rfl (lv_at hl 2 rfl) ?_
  refine lv_sipush (v := 1000) hx hb dX5_step_1 (by decide) ?_
  refine lv_icmp_ge (tgt := 13) hx hb dX5_step_4 (by decide) (fun _ => ?_) (fun q => absurd (by decide) q)
  refine lv_iload_n hx hb dX5_step_13 rfl (lv_at hl 2 rfl) ?_
  refine lv_tableIn (off := 104) (tgt := 118) hx hb dX5_step_14 (by decide) (by decide) (by decide) (by decide) ?_
  refine lv_aload_n hx hb dX5_step_118 rfl (lv_at hl 0 rfl) ?_
  refine hc_i (va_runV (As := []) (rest := []) S (c_X5_pop l G ad _ hM (by first | assumption | (show _ < 300; omega) | (simp only [List.length_cons]; omega))) (cwV 0 hts (gWSV q_l_5_112 q_im_X5_pop q_se_X5_pop q_in_5 q_co_X5_pop) rfl rfl rfl (by decide +kernel) ⟨Nat.le_of_ble_eq_true rfl, Nat.le_of_ble_eq_true rfl⟩) (hPreVw hE hS (hrecv hE hW h8 (q := (RX5, TX5, 28)) rfl) hW) rfl rfl hl.1 rfl (lv_room (Nat.le_of_ble_eq_true rfl)) dX5_step_119 ⟨Nat.le_of_ble_eq_true rfl, Nat.le_of_ble_eq_true rfl⟩) hS (fun rv_3 ct_1 H locs hp hW hS => ?_)
  obtain ⟨ev_4, hM, hag_2⟩ := hp
  rw [ev_4]
  obtain ⟨fb, fa, fx, pl, h8, h19, h20, h29, h32, h33, h34, h35, hF, hL⟩ := id hM
  refine lv_istore (lv' := [(4, .int y), (0, .ref (ad 8)), (1, .int (nI i)), (2, .int 1005), (3, .int x)]) hx hb dX5_step_122 hl (by decide) rfl (fun ls hl => ?_)
  refine lv_aload_n hx hb dX5_step_124 rfl (lv_at hl 1 rfl) ?_
  refine hc_i (va_runV (As := []) (rest := []) S (c_X5_pop l G ad _ hM (by first | assumption | (show _ < 300; omega) | (simp only [List.length_cons]; omega))) (cwV 0 hts (gWSV q_l_5_112 q_im_X5_pop q_se_X5_pop q_in_5 q_co_X5_pop) rfl rfl rfl (by decide +kernel) ⟨Nat.le_of_ble_eq_true rfl, Nat.le_of_ble_eq_true rfl⟩) (hPreVw hE hS (hrecv hE hW h8 (q := (RX5, TX5, 28)) rfl) hW) rfl rfl hl.1 rfl (lv_room (Nat.le_of_ble_eq_true rfl)) dX5_step_125 ⟨Nat.le_of_ble_eq_true rfl, Nat.le_of_ble_eq_true rfl⟩) hS (fun rv_7 ct_5 H locs hp hW hS => ?_)
  obtain ⟨ev_8, hM, hag_6⟩ := hp
  rw [ev_8]
  obtain ⟨fb, fa, fx, pl, h8, h19, h20, h29, h32, h33, h34, h35, hF, hL⟩ := id hM
  refine lv_istore (lv' := [(5, .int z), (4, .int y), (0, .ref (ad 8)), (1, .int (nI i)), (2, .int 1005), (3, .int x)]) hx hb dX5_step_128 hl (by decide) rfl (fun ls hl => ?_)
  refine lv_aload_n hx hb dX5_step_130 rfl (lv_at hl 2 rfl) ?_
  refine lv_iload_n hx hb dX5_step_131 rfl (lv_at hl 4 rfl) ?_
  refine lv_sipush (v := 1003) hx hb dX5_step_132 (by decide) ?_
  refine lv_icmp_ne (tgt := 146) hx hb dX5_step_135 (by decide) (fun _ => ?_) (fun q => absurd q (by decide))
  refine lv_iload_n hx hb dX5_step_146 rfl (lv_at hl 4 rfl) ?_
  refine lv_sipush (v := 1004) hx hb dX5_step_147 (by decide) ?_
  refine lv_icmp_ne (tgt := 161) hx hb dX5_step_150 (by decide) (fun _ => ?_) (fun q => absurd q (by decide))
  refine lv_iload_n hx hb dX5_step_161 rfl (lv_at hl 4 rfl) ?_
  refine lv_sipush (v := 1005) hx hb dX5_step_162 (by decide) ?_
  refine lv_icmp_ne (tgt := 176) hx hb dX5_step_165 (by decide) (fun q => absurd (by decide) q) (fun _ => ?_)
  refine lv_iload hx hb dX5_step_168 (lv_at hl 0 rfl) ?_
  refine lv_iload hx hb dX5_step_170 (lv_at hl 1 rfl) ?_
  refine lv_imul hx hb dX5_step_172 ?_
  refine lv_goto (tgt := 196) hx hb dX5_step_173 (by decide) ?_
  refine hc_v (va_runV (As := [.int (z * y)]) (rest := []) S (c_X5_push l G ad _ hM (by omega) (z * y)) (cwV 1 hts (gWSV q_l_5_119 q_im_X5_push q_se_X5_push q_in_5 q_co_X5_push) rfl rfl rfl (by decide +kernel) ⟨Nat.le_of_ble_eq_true rfl, Nat.le_of_ble_eq_true rfl⟩) (hPreVw hE hS (hrecv hE hW h8 (q := (RX5, TX5, 28)) rfl) hW) rfl rfl hl.1 rfl (lv_room (Nat.le_of_ble_eq_true rfl)) dX5_step_196 ⟨Nat.le_of_ble_eq_true rfl, Nat.le_of_ble_eq_true rfl⟩) hS (fun ct_9 H locs hp hW hS => ?_)
  obtain ⟨hM, hag_10⟩ := hp
  obtain ⟨fb, fa, fx, pl, h8, h19, h20, h29, h32, h33, h34, h35, hF, hL⟩ := id hM
  exact h_vret S hr hlk hS hW dX5_step_199 ⟨hM, (fun j hj => ((hag_10 j hj)).trans (((hag_6 j hj)).trans ((hag_2 j hj))))⟩
set_option maxRecDepth 100000 in
set_option maxHeartbeats 4000000 in
theorem c_X5_step_o (l : Launch) (G : hG) (ad : Nat → Nat) (ct : Nat → Option va_E) {dn lk st0 : Int32} {i : Nat} {vv cv : Nat → Int32} {Fs : List (Nat × Nat × Int32)} {P : List Int32} {q : St} {y z : Int32} (hM : MC G ad ct dn lk st0 i vv cv Fs (y :: z :: P) q) (hPl : P.length + 1 < 300) (x : Int32)  : Met l yX5_step wzX5_step { frames := 1, cells := 0, slots := 0, locals := 21 } (hPw [.ref (ad 8), .int (nI i), .int 1006, .int x] G ad ct) (hQv (fun ct1 => MC G ad ct1 dn lk st0 i vv cv Fs ((z ^^^ y) :: P) q ∧ agM ct1 ct) G ad) 0 0 (hA G.2.2.2) := by
  refine hMetw (by decide) (Nat.le_of_ble_eq_true rfl) (fun p e s m below meth c ls S hr hlk hE hW hl => ?_)
  obtain ⟨hx, hb, hml, hown, hts⟩ := id S
  have hS : va_S (hA G.2.2.2) s.heap s.heap [] := va_S.rf
  have hl : lv_has ls 6 [(0, .ref (ad 8)), (1, .int (nI i)), (2, .int 1006), (3, .int x)] := hl
  obtain ⟨fb, fa, fx, pl, h8, h19, h20, h29, h32, h33, h34, h35, hF, hL⟩ := id hM
  refine lv_iload_n hx hb dX5_step_0 rfl (lv_at hl 2 rfl) ?_
  refine lv_sipush (v := 1000) hx hb dX5_step_1 (by decide) ?_
  refine lv_icmp_ge (tgt := 13) hx hb dX5_step_4 (by decide) (fun _ => ?_) (fun q => absurd (by decide) q)
  refine lv_iload_n hx hb dX5_step_13 rfl (lv_at hl 2 rfl) ?_
  refine lv_tableIn (off := 104) (tgt := 118) hx hb dX5_step_14 (by decide) (by decide) (by decide) (by decide) ?_
  refine lv_aload_n hx hb dX5_step_118 rfl (lv_at hl 0 rfl) ?_
  refine hc_i (va_runV (As := []) (rest := []) S (c_X5_pop l G ad _ hM (by first | assumption | (show _ < 300; omega) | (simp only [List.length_cons]; omega))) (cwV 0 hts (gWSV q_l_5_112 q_im_X5_pop q_se_X5_pop q_in_5 q_co_X5_pop) rfl rfl rfl (by decide +kernel) ⟨Nat.le_of_ble_eq_true rfl, Nat.le_of_ble_eq_true rfl⟩) (hPreVw hE hS (hrecv hE hW h8 (q := (RX5, TX5, 28)) rfl) hW) rfl rfl hl.1 rfl (lv_room (Nat.le_of_ble_eq_true rfl)) dX5_step_119 ⟨Nat.le_of_ble_eq_true rfl, Nat.le_of_ble_eq_true rfl⟩) hS (fun rv_3 ct_1 H locs hp hW hS => ?_)
  obtain ⟨ev_4, hM, hag_2⟩ := hp
  rw [ev_4]
  obtain ⟨fb, fa, fx, pl, h8, h19, h20, h29, h32, h33, h34, h35, hF, hL⟩ := id hM
  refine lv_istore (lv' := [(4, .int y), (0, .ref (ad 8)), (1, .int (nI i)), (2, .int 1006), (3, .int x)]) hx hb dX5_step_122 hl (by decide) rfl (fun ls hl => ?_)
  refine lv_aload_n hx hb dX5_step_124 rfl (lv_at hl 1 rfl) ?_
  refine hc_i (va_runV (As := []) (rest := []) S (c_X5_pop l G ad _ hM (by first | assumption | (show _ < 300; omega) | (simp only [List.length_cons]; omega))) (cwV 0 hts (gWSV q_l_5_112 q_im_X5_pop q_se_X5_pop q_in_5 q_co_X5_pop) rfl rfl rfl (by decide +kernel) ⟨Nat.le_of_ble_eq_true rfl, Nat.le_of_ble_eq_true rfl⟩) (hPreVw hE hS (hrecv hE hW h8 (q := (RX5, TX5, 28)) rfl) hW) rfl rfl hl.1 rfl (lv_room (Nat.le_of_ble_eq_true rfl)) dX5_step_125 ⟨Nat.le_of_ble_eq_true rfl, Nat.le_of_ble_eq_true rfl⟩) hS (fun rv_7 ct_5 H locs hp hW hS => ?_)
  obtain ⟨ev_8, hM, hag_6⟩ := hp
  rw [ev_8]
  obtain ⟨fb, fa, fx, pl, h8, h19, h20, h29, h32, h33, h34, h35, hF, hL⟩ := id hM
  refine lv_istore (lv' := [(5, .int z), (4, .int y), (0, .ref (ad 8)), (1, .int (nI i)), (2, .int 1006), (3, .int x)]) hx hb dX5_step_128 hl (by decide) rfl (fun ls hl => ?_)
  refine lv_aload_n hx hb dX5_step_130 rfl (lv_at hl 2 rfl) ?_
  refine lv_iload_n hx hb dX5_step_131 rfl (lv_at hl 4 rfl) ?_
  refine lv_sipush (v := 1003) hx hb dX5_step_132 (by decide) ?_
  refine lv_icmp_ne (tgt := 146) hx hb dX5_step_135 (by decide) (fun _ => ?_) (fun q => absurd q (by decide))
  refine lv_iload_n hx hb dX5_step_146 rfl (lv_at hl 4 rfl) ?_
  refine lv_sipush (v := 1004) hx hb dX5_step_147 (by decide) ?_
  refine lv_icmp_ne (tgt := 161) hx hb dX5_step_150 (by decide) (fun _ => ?_) (fun q => absurd q (by decide))
  refine lv_iload_n hx hb dX5_step_161 rfl (lv_at hl 4 rfl) ?_
  refine lv_sipush (v := 1005) hx hb dX5_step_162 (by decide) ?_
  refine lv_icmp_ne (tgt := 176) hx hb dX5_step_165 (by decide) (fun _ => ?_) (fun q => absurd q (by decide))
  refine lv_iload_n hx hb dX5_step_176 rfl (lv_at hl 4 rfl) ?_
  refine lv_sipush (v := 1006) hx hb dX5_step_177 (by decide) ?_
  refine lv_icmp_ne (tgt := 191) hx hb dX5_step_180 (by decide) (fun q => absurd (by decide) q) (fun _ => ?_)
  refine lv_iload hx hb dX5_step_183 (lv_at hl 0 rfl) ?_
  refine lv_iload hx hb dX5_step_185 (lv_at hl 1 rfl) ?_
  refine lv_ixor hx hb dX5_step_187 ?_
  refine lv_goto (tgt := 196) hx hb dX5_step_188 (by decide) ?_
  refine hc_v (va_runV (As := [.int (z ^^^ y)]) (rest := []) S (c_X5_push l G ad _ hM (by omega) (z ^^^ y)) (cwV 1 hts (gWSV q_l_5_119 q_im_X5_push q_se_X5_push q_in_5 q_co_X5_push) rfl rfl rfl (by decide +kernel) ⟨Nat.le_of_ble_eq_true rfl, Nat.le_of_ble_eq_true rfl⟩) (hPreVw hE hS (hrecv hE hW h8 (q := (RX5, TX5, 28)) rfl) hW) rfl rfl hl.1 rfl (lv_room (Nat.le_of_ble_eq_true rfl)) dX5_step_196 ⟨Nat.le_of_ble_eq_true rfl, Nat.le_of_ble_eq_true rfl⟩) hS (fun ct_9 H locs hp hW hS => ?_)
  obtain ⟨hM, hag_10⟩ := hp
  obtain ⟨fb, fa, fx, pl, h8, h19, h20, h29, h32, h33, h34, h35, hF, hL⟩ := id hM
  exact h_vret S hr hlk hS hW dX5_step_199 ⟨hM, (fun j hj => ((hag_10 j hj)).trans (((hag_6 j hj)).trans ((hag_2 j hj))))⟩
set_option maxRecDepth 100000 in
set_option maxHeartbeats 4000000 in
theorem c_X5_step_a (l : Launch) (G : hG) (ad : Nat → Nat) (ct : Nat → Option va_E) {dn lk st0 : Int32} {i : Nat} {vv cv : Nat → Int32} {Fs : List (Nat × Nat × Int32)} {P : List Int32} {q : St} {y z : Int32} (hM : MC G ad ct dn lk st0 i vv cv Fs (y :: z :: P) q) (hPl : P.length + 1 < 300) (x : Int32)  : Met l yX5_step wzX5_step { frames := 1, cells := 0, slots := 0, locals := 21 } (hPw [.ref (ad 8), .int (nI i), .int 1007, .int x] G ad ct) (hQv (fun ct1 => MC G ad ct1 dn lk st0 i vv cv Fs ((z &&& y) :: P) q ∧ agM ct1 ct) G ad) 0 0 (hA G.2.2.2) := by
  refine hMetw (by decide) (Nat.le_of_ble_eq_true rfl) (fun p e s m below meth c ls S hr hlk hE hW hl => ?_)
  obtain ⟨hx, hb, hml, hown, hts⟩ := id S
  have hS : va_S (hA G.2.2.2) s.heap s.heap [] := va_S.rf
  have hl : lv_has ls 6 [(0, .ref (ad 8)), (1, .int (nI i)), (2, .int 1007), (3, .int x)] := hl
  obtain ⟨fb, fa, fx, pl, h8, h19, h20, h29, h32, h33, h34, h35, hF, hL⟩ := id hM
  refine lv_iload_n hx hb dX5_step_0 rfl (lv_at hl 2 rfl) ?_
  refine lv_sipush (v := 1000) hx hb dX5_step_1 (by decide) ?_
  refine lv_icmp_ge (tgt := 13) hx hb dX5_step_4 (by decide) (fun _ => ?_) (fun q => absurd (by decide) q)
  refine lv_iload_n hx hb dX5_step_13 rfl (lv_at hl 2 rfl) ?_
  refine lv_tableIn (off := 104) (tgt := 118) hx hb dX5_step_14 (by decide) (by decide) (by decide) (by decide) ?_
  refine lv_aload_n hx hb dX5_step_118 rfl (lv_at hl 0 rfl) ?_
  refine hc_i (va_runV (As := []) (rest := []) S (c_X5_pop l G ad _ hM (by first | assumption | (show _ < 300; omega) | (simp only [List.length_cons]; omega))) (cwV 0 hts (gWSV q_l_5_112 q_im_X5_pop q_se_X5_pop q_in_5 q_co_X5_pop) rfl rfl rfl (by decide +kernel) ⟨Nat.le_of_ble_eq_true rfl, Nat.le_of_ble_eq_true rfl⟩) (hPreVw hE hS (hrecv hE hW h8 (q := (RX5, TX5, 28)) rfl) hW) rfl rfl hl.1 rfl (lv_room (Nat.le_of_ble_eq_true rfl)) dX5_step_119 ⟨Nat.le_of_ble_eq_true rfl, Nat.le_of_ble_eq_true rfl⟩) hS (fun rv_3 ct_1 H locs hp hW hS => ?_)
  obtain ⟨ev_4, hM, hag_2⟩ := hp
  rw [ev_4]
  obtain ⟨fb, fa, fx, pl, h8, h19, h20, h29, h32, h33, h34, h35, hF, hL⟩ := id hM
  refine lv_istore (lv' := [(4, .int y), (0, .ref (ad 8)), (1, .int (nI i)), (2, .int 1007), (3, .int x)]) hx hb dX5_step_122 hl (by decide) rfl (fun ls hl => ?_)
  refine lv_aload_n hx hb dX5_step_124 rfl (lv_at hl 1 rfl) ?_
  refine hc_i (va_runV (As := []) (rest := []) S (c_X5_pop l G ad _ hM (by first | assumption | (show _ < 300; omega) | (simp only [List.length_cons]; omega))) (cwV 0 hts (gWSV q_l_5_112 q_im_X5_pop q_se_X5_pop q_in_5 q_co_X5_pop) rfl rfl rfl (by decide +kernel) ⟨Nat.le_of_ble_eq_true rfl, Nat.le_of_ble_eq_true rfl⟩) (hPreVw hE hS (hrecv hE hW h8 (q := (RX5, TX5, 28)) rfl) hW) rfl rfl hl.1 rfl (lv_room (Nat.le_of_ble_eq_true rfl)) dX5_step_125 ⟨Nat.le_of_ble_eq_true rfl, Nat.le_of_ble_eq_true rfl⟩) hS (fun rv_7 ct_5 H locs hp hW hS => ?_)
  obtain ⟨ev_8, hM, hag_6⟩ := hp
  rw [ev_8]
  obtain ⟨fb, fa, fx, pl, h8, h19, h20, h29, h32, h33, h34, h35, hF, hL⟩ := id hM
  refine lv_istore (lv' := [(5, .int z), (4, .int y), (0, .ref (ad 8)), (1, .int (nI i)), (2, .int 1007), (3, .int x)]) hx hb dX5_step_128 hl (by decide) rfl (fun ls hl => ?_)
  refine lv_aload_n hx hb dX5_step_130 rfl (lv_at hl 2 rfl) ?_
  refine lv_iload_n hx hb dX5_step_131 rfl (lv_at hl 4 rfl) ?_
  refine lv_sipush (v := 1003) hx hb dX5_step_132 (by decide) ?_
  refine lv_icmp_ne (tgt := 146) hx hb dX5_step_135 (by decide) (fun _ => ?_) (fun q => absurd q (by decide))
  refine lv_iload_n hx hb dX5_step_146 rfl (lv_at hl 4 rfl) ?_
  refine lv_sipush (v := 1004) hx hb dX5_step_147 (by decide) ?_
  refine lv_icmp_ne (tgt := 161) hx hb dX5_step_150 (by decide) (fun _ => ?_) (fun q => absurd q (by decide))
  refine lv_iload_n hx hb dX5_step_161 rfl (lv_at hl 4 rfl) ?_
  refine lv_sipush (v := 1005) hx hb dX5_step_162 (by decide) ?_
  refine lv_icmp_ne (tgt := 176) hx hb dX5_step_165 (by decide) (fun _ => ?_) (fun q => absurd q (by decide))
  refine lv_iload_n hx hb dX5_step_176 rfl (lv_at hl 4 rfl) ?_
  refine lv_sipush (v := 1006) hx hb dX5_step_177 (by decide) ?_
  refine lv_icmp_ne (tgt := 191) hx hb dX5_step_180 (by decide) (fun _ => ?_) (fun q => absurd q (by decide))
  refine lv_iload hx hb dX5_step_191 (lv_at hl 0 rfl) ?_
  refine lv_iload hx hb dX5_step_193 (lv_at hl 1 rfl) ?_
  refine lv_iand hx hb dX5_step_195 ?_
  refine hc_v (va_runV (As := [.int (z &&& y)]) (rest := []) S (c_X5_push l G ad _ hM (by omega) (z &&& y)) (cwV 1 hts (gWSV q_l_5_119 q_im_X5_push q_se_X5_push q_in_5 q_co_X5_push) rfl rfl rfl (by decide +kernel) ⟨Nat.le_of_ble_eq_true rfl, Nat.le_of_ble_eq_true rfl⟩) (hPreVw hE hS (hrecv hE hW h8 (q := (RX5, TX5, 28)) rfl) hW) rfl rfl hl.1 rfl (lv_room (Nat.le_of_ble_eq_true rfl)) dX5_step_196 ⟨Nat.le_of_ble_eq_true rfl, Nat.le_of_ble_eq_true rfl⟩) hS (fun ct_9 H locs hp hW hS => ?_)
  obtain ⟨hM, hag_10⟩ := hp
  obtain ⟨fb, fa, fx, pl, h8, h19, h20, h29, h32, h33, h34, h35, hF, hL⟩ := id hM
  exact h_vret S hr hlk hS hW dX5_step_199 ⟨hM, (fun j hj => ((hag_10 j hj)).trans (((hag_6 j hj)).trans ((hag_2 j hj))))⟩
end
