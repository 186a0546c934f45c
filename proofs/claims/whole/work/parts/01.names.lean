-- ===== PART A: goes FIRST, ahead of the names: the tables' words, and 'selects' of the private methods out of them =====
/-- a private method of a class that the tables say can be made, by its rows of tables_1 -/
def lw_okq (q : MethodName × Nat) : Prop := (q.1.cls ≠ "java/lang/invoke/MethodHandle" ∧ q.1.cls ≠ "java/lang/invoke/VarHandle") ∧ Cond.instantiable q.1.cls q.2 ∈ tables_1 ∧ Cond.privateMethod q.1 ∈ tables_1 ∧ Cond.instanceMethod q.1 ∈ tables_1
theorem lw_p0 : lw_okq (⟨"LineOfHeirs$Heritage", "takingActOf", "(I)I"⟩, 2) := ⟨⟨by decide +kernel, by decide +kernel⟩, List.mem_of_getElem? (i := 16) (by decide +kernel), List.mem_of_getElem? (i := 125) (by decide +kernel), List.mem_of_getElem? (i := 126) (by decide +kernel)⟩
theorem lw_p1 : lw_okq (⟨"LineOfHeirs$Heritage", "bears", "(II)Z"⟩, 2) := ⟨⟨by decide +kernel, by decide +kernel⟩, List.mem_of_getElem? (i := 16) (by decide +kernel), List.mem_of_getElem? (i := 129) (by decide +kernel), List.mem_of_getElem? (i := 130) (by decide +kernel)⟩
theorem lw_p2 : lw_okq (⟨"LineOfHeirs", "find", "(I)LLineOfHeirs$Device;"⟩, 9) := ⟨⟨by decide +kernel, by decide +kernel⟩, List.mem_of_getElem? (i := 8) (by decide +kernel), List.mem_of_getElem? (i := 184) (by decide +kernel), List.mem_of_getElem? (i := 185) (by decide +kernel)⟩
theorem lw_p3 : lw_okq (⟨"LineOfHeirs$Device", "bears", "(I)Z"⟩, 13) := ⟨⟨by decide +kernel, by decide +kernel⟩, List.mem_of_getElem? (i := 119) (by decide +kernel), List.mem_of_getElem? (i := 193) (by decide +kernel), List.mem_of_getElem? (i := 194) (by decide +kernel)⟩
theorem lw_p4 : lw_okq (⟨"LineOfHeirs$Device", "hasAct", "(II)Z"⟩, 13) := ⟨⟨by decide +kernel, by decide +kernel⟩, List.mem_of_getElem? (i := 119) (by decide +kernel), List.mem_of_getElem? (i := 198) (by decide +kernel), List.mem_of_getElem? (i := 199) (by decide +kernel)⟩
theorem lw_p5 : lw_okq (⟨"LineOfHeirs$Heritage", "kindHasAct", "(II)Z"⟩, 2) := ⟨⟨by decide +kernel, by decide +kernel⟩, List.mem_of_getElem? (i := 16) (by decide +kernel), List.mem_of_getElem? (i := 202) (by decide +kernel), List.mem_of_getElem? (i := 203) (by decide +kernel)⟩
theorem lw_p6 : lw_okq (⟨"LineOfHeirs$Heritage", "hasAct", "(II)Z"⟩, 2) := ⟨⟨by decide +kernel, by decide +kernel⟩, List.mem_of_getElem? (i := 16) (by decide +kernel), List.mem_of_getElem? (i := 206) (by decide +kernel), List.mem_of_getElem? (i := 207) (by decide +kernel)⟩
theorem lw_p7 : lw_okq (⟨"LineOfHeirs$Trail", "clear", "()V"⟩, 2) := ⟨⟨by decide +kernel, by decide +kernel⟩, List.mem_of_getElem? (i := 72) (by decide +kernel), List.mem_of_getElem? (i := 213) (by decide +kernel), List.mem_of_getElem? (i := 214) (by decide +kernel)⟩
theorem lw_p8 : lw_okq (⟨"LineOfHeirs$Device", "answer", "(II)I"⟩, 13) := ⟨⟨by decide +kernel, by decide +kernel⟩, List.mem_of_getElem? (i := 119) (by decide +kernel), List.mem_of_getElem? (i := 217) (by decide +kernel), List.mem_of_getElem? (i := 218) (by decide +kernel)⟩
theorem lw_p9 : lw_okq (⟨"LineOfHeirs$Device", "act", "(III)I"⟩, 13) := ⟨⟨by decide +kernel, by decide +kernel⟩, List.mem_of_getElem? (i := 119) (by decide +kernel), List.mem_of_getElem? (i := 221) (by decide +kernel), List.mem_of_getElem? (i := 222) (by decide +kernel)⟩
theorem lw_p10 : lw_okq (⟨"LineOfHeirs$Heritage", "selectedOf", "(II)I"⟩, 2) := ⟨⟨by decide +kernel, by decide +kernel⟩, List.mem_of_getElem? (i := 16) (by decide +kernel), List.mem_of_getElem? (i := 225) (by decide +kernel), List.mem_of_getElem? (i := 226) (by decide +kernel)⟩
theorem lw_p11 : lw_okq (⟨"LineOfHeirs$Device", "run", "(III)I"⟩, 13) := ⟨⟨by decide +kernel, by decide +kernel⟩, List.mem_of_getElem? (i := 119) (by decide +kernel), List.mem_of_getElem? (i := 229) (by decide +kernel), List.mem_of_getElem? (i := 230) (by decide +kernel)⟩
theorem lw_p12 : lw_okq (⟨"LineOfHeirs$Trail", "begin", "(I)V"⟩, 2) := ⟨⟨by decide +kernel, by decide +kernel⟩, List.mem_of_getElem? (i := 72) (by decide +kernel), List.mem_of_getElem? (i := 233) (by decide +kernel), List.mem_of_getElem? (i := 234) (by decide +kernel)⟩
theorem lw_p13 : lw_okq (⟨"LineOfHeirs$Device", "runOfInterface", "(III)I"⟩, 13) := ⟨⟨by decide +kernel, by decide +kernel⟩, List.mem_of_getElem? (i := 119) (by decide +kernel), List.mem_of_getElem? (i := 237) (by decide +kernel), List.mem_of_getElem? (i := 238) (by decide +kernel)⟩
theorem lw_p14 : lw_okq (⟨"LineOfHeirs$Device", "interfaceAct", "(IIII)I"⟩, 13) := ⟨⟨by decide +kernel, by decide +kernel⟩, List.mem_of_getElem? (i := 119) (by decide +kernel), List.mem_of_getElem? (i := 241) (by decide +kernel), List.mem_of_getElem? (i := 242) (by decide +kernel)⟩
theorem lw_p15 : lw_okq (⟨"LineOfHeirs$Device", "runOfAncestor", "(III)I"⟩, 13) := ⟨⟨by decide +kernel, by decide +kernel⟩, List.mem_of_getElem? (i := 119) (by decide +kernel), List.mem_of_getElem? (i := 245) (by decide +kernel), List.mem_of_getElem? (i := 246) (by decide +kernel)⟩
def lw_privs_1 : List (MethodName × Nat) := [(⟨"LineOfHeirs$Heritage", "takingActOf", "(I)I"⟩, 2), (⟨"LineOfHeirs$Heritage", "bears", "(II)Z"⟩, 2), (⟨"LineOfHeirs", "find", "(I)LLineOfHeirs$Device;"⟩, 9), (⟨"LineOfHeirs$Device", "bears", "(I)Z"⟩, 13), (⟨"LineOfHeirs$Device", "hasAct", "(II)Z"⟩, 13), (⟨"LineOfHeirs$Heritage", "kindHasAct", "(II)Z"⟩, 2), (⟨"LineOfHeirs$Heritage", "hasAct", "(II)Z"⟩, 2), (⟨"LineOfHeirs$Trail", "clear", "()V"⟩, 2), (⟨"LineOfHeirs$Device", "answer", "(II)I"⟩, 13), (⟨"LineOfHeirs$Device", "act", "(III)I"⟩, 13), (⟨"LineOfHeirs$Heritage", "selectedOf", "(II)I"⟩, 2), (⟨"LineOfHeirs$Device", "run", "(III)I"⟩, 13), (⟨"LineOfHeirs$Trail", "begin", "(I)V"⟩, 2), (⟨"LineOfHeirs$Device", "runOfInterface", "(III)I"⟩, 13), (⟨"LineOfHeirs$Device", "interfaceAct", "(IIII)I"⟩, 13), (⟨"LineOfHeirs$Device", "runOfAncestor", "(III)I"⟩, 13)]
theorem lw_r1 : ∀ q ∈ lw_privs_1, lw_okq q := List.forall_mem_cons.mpr ⟨lw_p0, List.forall_mem_cons.mpr ⟨lw_p1, List.forall_mem_cons.mpr ⟨lw_p2, List.forall_mem_cons.mpr ⟨lw_p3, List.forall_mem_cons.mpr ⟨lw_p4, List.forall_mem_cons.mpr ⟨lw_p5, List.forall_mem_cons.mpr ⟨lw_p6, List.forall_mem_cons.mpr ⟨lw_p7, List.forall_mem_cons.mpr ⟨lw_p8, List.forall_mem_cons.mpr ⟨lw_p9, List.forall_mem_cons.mpr ⟨lw_p10, List.forall_mem_cons.mpr ⟨lw_p11, List.forall_mem_cons.mpr ⟨lw_p12, List.forall_mem_cons.mpr ⟨lw_p13, List.forall_mem_cons.mpr ⟨lw_p14, List.forall_mem_cons.mpr ⟨lw_p15, fun _ h => absurd h List.not_mem_nil⟩⟩⟩⟩⟩⟩⟩⟩⟩⟩⟩⟩⟩⟩⟩⟩
theorem lw_p16 : lw_okq (⟨"LineOfHeirs$Device", "runOfEarlierKind", "(III)I"⟩, 13) := ⟨⟨by decide +kernel, by decide +kernel⟩, List.mem_of_getElem? (i := 119) (by decide +kernel), List.mem_of_getElem? (i := 249) (by decide +kernel), List.mem_of_getElem? (i := 250) (by decide +kernel)⟩
theorem lw_p17 : lw_okq (⟨"LineOfHeirs$Device", "parentAct", "(IIII)I"⟩, 13) := ⟨⟨by decide +kernel, by decide +kernel⟩, List.mem_of_getElem? (i := 119) (by decide +kernel), List.mem_of_getElem? (i := 253) (by decide +kernel), List.mem_of_getElem? (i := 254) (by decide +kernel)⟩
theorem lw_p18 : lw_okq (⟨"LineOfHeirs$Device", "runOfLaterKind", "(III)I"⟩, 13) := ⟨⟨by decide +kernel, by decide +kernel⟩, List.mem_of_getElem? (i := 119) (by decide +kernel), List.mem_of_getElem? (i := 258) (by decide +kernel), List.mem_of_getElem? (i := 259) (by decide +kernel)⟩
theorem lw_p19 : lw_okq (⟨"LineOfHeirs", "refusalOfAll", "(II)I"⟩, 9) := ⟨⟨by decide +kernel, by decide +kernel⟩, List.mem_of_getElem? (i := 8) (by decide +kernel), List.mem_of_getElem? (i := 266) (by decide +kernel), List.mem_of_getElem? (i := 267) (by decide +kernel)⟩
theorem lw_p20 : lw_okq (⟨"LineOfHeirs$Device", "addLink", "(LLineOfHeirs$Link;)V"⟩, 13) := ⟨⟨by decide +kernel, by decide +kernel⟩, List.mem_of_getElem? (i := 119) (by decide +kernel), List.mem_of_getElem? (i := 297) (by decide +kernel), List.mem_of_getElem? (i := 298) (by decide +kernel)⟩
theorem lw_p21 : lw_okq (⟨"LineOfHeirs", "letTake", "(LLineOfHeirs$Device;I)V"⟩, 9) := ⟨⟨by decide +kernel, by decide +kernel⟩, List.mem_of_getElem? (i := 8) (by decide +kernel), List.mem_of_getElem? (i := 305) (by decide +kernel), List.mem_of_getElem? (i := 306) (by decide +kernel)⟩
theorem lw_p22 : lw_okq (⟨"LineOfHeirs$Device", "take", "(II)V"⟩, 13) := ⟨⟨by decide +kernel, by decide +kernel⟩, List.mem_of_getElem? (i := 119) (by decide +kernel), List.mem_of_getElem? (i := 309) (by decide +kernel), List.mem_of_getElem? (i := 310) (by decide +kernel)⟩
theorem lw_p23 : lw_okq (⟨"LineOfHeirs", "passOn", "(LLineOfHeirs$Device;)V"⟩, 9) := ⟨⟨by decide +kernel, by decide +kernel⟩, List.mem_of_getElem? (i := 8) (by decide +kernel), List.mem_of_getElem? (i := 313) (by decide +kernel), List.mem_of_getElem? (i := 314) (by decide +kernel)⟩
theorem lw_p24 : lw_okq (⟨"LineOfHeirs$Trail", "keptAt", "(I)I"⟩, 2) := ⟨⟨by decide +kernel, by decide +kernel⟩, List.mem_of_getElem? (i := 72) (by decide +kernel), List.mem_of_getElem? (i := 325) (by decide +kernel), List.mem_of_getElem? (i := 326) (by decide +kernel)⟩
theorem lw_p25 : lw_okq (⟨"LineOfHeirs$Device", "fact", "(I)I"⟩, 13) := ⟨⟨by decide +kernel, by decide +kernel⟩, List.mem_of_getElem? (i := 119) (by decide +kernel), List.mem_of_getElem? (i := 337) (by decide +kernel), List.mem_of_getElem? (i := 338) (by decide +kernel)⟩
theorem lw_p26 : lw_okq (⟨"LineOfHeirs", "countBearers", "(I)I"⟩, 9) := ⟨⟨by decide +kernel, by decide +kernel⟩, List.mem_of_getElem? (i := 8) (by decide +kernel), List.mem_of_getElem? (i := 345) (by decide +kernel), List.mem_of_getElem? (i := 346) (by decide +kernel)⟩
theorem lw_p27 : lw_okq (⟨"LineOfHeirsModel", "have", "(III)V"⟩, 28) := ⟨⟨by decide +kernel, by decide +kernel⟩, List.mem_of_getElem? (i := 353) (by decide +kernel), List.mem_of_getElem? (i := 359) (by decide +kernel), List.mem_of_getElem? (i := 360) (by decide +kernel)⟩
theorem lw_p28 : lw_okq (⟨"LineOfHeirsModel", "heir", "(III)V"⟩, 28) := ⟨⟨by decide +kernel, by decide +kernel⟩, List.mem_of_getElem? (i := 353) (by decide +kernel), List.mem_of_getElem? (i := 363) (by decide +kernel), List.mem_of_getElem? (i := 364) (by decide +kernel)⟩
theorem lw_p29 : lw_okq (⟨"LineOfHeirsModel", "lowest", "(II)I"⟩, 28) := ⟨⟨by decide +kernel, by decide +kernel⟩, List.mem_of_getElem? (i := 353) (by decide +kernel), List.mem_of_getElem? (i := 373) (by decide +kernel), List.mem_of_getElem? (i := 374) (by decide +kernel)⟩
theorem lw_p30 : lw_okq (⟨"LineOfHeirsModel", "select", "(II)I"⟩, 28) := ⟨⟨by decide +kernel, by decide +kernel⟩, List.mem_of_getElem? (i := 353) (by decide +kernel), List.mem_of_getElem? (i := 377) (by decide +kernel), List.mem_of_getElem? (i := 378) (by decide +kernel)⟩
theorem lw_p31 : lw_okq (⟨"LineOfHeirsModel", "why", "(III)I"⟩, 28) := ⟨⟨by decide +kernel, by decide +kernel⟩, List.mem_of_getElem? (i := 353) (by decide +kernel), List.mem_of_getElem? (i := 475) (by decide +kernel), List.mem_of_getElem? (i := 476) (by decide +kernel)⟩
def lw_privs_2 : List (MethodName × Nat) := [(⟨"LineOfHeirs$Device", "runOfEarlierKind", "(III)I"⟩, 13), (⟨"LineOfHeirs$Device", "parentAct", "(IIII)I"⟩, 13), (⟨"LineOfHeirs$Device", "runOfLaterKind", "(III)I"⟩, 13), (⟨"LineOfHeirs", "refusalOfAll", "(II)I"⟩, 9), (⟨"LineOfHeirs$Device", "addLink", "(LLineOfHeirs$Link;)V"⟩, 13), (⟨"LineOfHeirs", "letTake", "(LLineOfHeirs$Device;I)V"⟩, 9), (⟨"LineOfHeirs$Device", "take", "(II)V"⟩, 13), (⟨"LineOfHeirs", "passOn", "(LLineOfHeirs$Device;)V"⟩, 9), (⟨"LineOfHeirs$Trail", "keptAt", "(I)I"⟩, 2), (⟨"LineOfHeirs$Device", "fact", "(I)I"⟩, 13), (⟨"LineOfHeirs", "countBearers", "(I)I"⟩, 9), (⟨"LineOfHeirsModel", "have", "(III)V"⟩, 28), (⟨"LineOfHeirsModel", "heir", "(III)V"⟩, 28), (⟨"LineOfHeirsModel", "lowest", "(II)I"⟩, 28), (⟨"LineOfHeirsModel", "select", "(II)I"⟩, 28), (⟨"LineOfHeirsModel", "why", "(III)I"⟩, 28)]
theorem lw_r2 : ∀ q ∈ lw_privs_2, lw_okq q := List.forall_mem_cons.mpr ⟨lw_p16, List.forall_mem_cons.mpr ⟨lw_p17, List.forall_mem_cons.mpr ⟨lw_p18, List.forall_mem_cons.mpr ⟨lw_p19, List.forall_mem_cons.mpr ⟨lw_p20, List.forall_mem_cons.mpr ⟨lw_p21, List.forall_mem_cons.mpr ⟨lw_p22, List.forall_mem_cons.mpr ⟨lw_p23, List.forall_mem_cons.mpr ⟨lw_p24, List.forall_mem_cons.mpr ⟨lw_p25, List.forall_mem_cons.mpr ⟨lw_p26, List.forall_mem_cons.mpr ⟨lw_p27, List.forall_mem_cons.mpr ⟨lw_p28, List.forall_mem_cons.mpr ⟨lw_p29, List.forall_mem_cons.mpr ⟨lw_p30, List.forall_mem_cons.mpr ⟨lw_p31, fun _ h => absurd h List.not_mem_nil⟩⟩⟩⟩⟩⟩⟩⟩⟩⟩⟩⟩⟩⟩⟩⟩
theorem lw_p32 : lw_okq (⟨"LineOfHeirsModel", "isDevice", "(I)Z"⟩, 28) := ⟨⟨by decide +kernel, by decide +kernel⟩, List.mem_of_getElem? (i := 353) (by decide +kernel), List.mem_of_getElem? (i := 479) (by decide +kernel), List.mem_of_getElem? (i := 480) (by decide +kernel)⟩
theorem lw_p33 : lw_okq (⟨"LineOfHeirsModel", "isAble", "(II)Z"⟩, 28) := ⟨⟨by decide +kernel, by decide +kernel⟩, List.mem_of_getElem? (i := 353) (by decide +kernel), List.mem_of_getElem? (i := 489) (by decide +kernel), List.mem_of_getElem? (i := 490) (by decide +kernel)⟩
theorem lw_p34 : lw_okq (⟨"LineOfHeirsModel", "isOf", "(III)Z"⟩, 28) := ⟨⟨by decide +kernel, by decide +kernel⟩, List.mem_of_getElem? (i := 353) (by decide +kernel), List.mem_of_getElem? (i := 493) (by decide +kernel), List.mem_of_getElem? (i := 494) (by decide +kernel)⟩
theorem lw_p35 : lw_okq (⟨"LineOfHeirsModel", "refused", "(I)I"⟩, 28) := ⟨⟨by decide +kernel, by decide +kernel⟩, List.mem_of_getElem? (i := 353) (by decide +kernel), List.mem_of_getElem? (i := 497) (by decide +kernel), List.mem_of_getElem? (i := 498) (by decide +kernel)⟩
theorem lw_p36 : lw_okq (⟨"LineOfHeirsModel", "begin", "()V"⟩, 28) := ⟨⟨by decide +kernel, by decide +kernel⟩, List.mem_of_getElem? (i := 353) (by decide +kernel), List.mem_of_getElem? (i := 501) (by decide +kernel), List.mem_of_getElem? (i := 502) (by decide +kernel)⟩
theorem lw_p37 : lw_okq (⟨"LineOfHeirsModel", "act", "(III)I"⟩, 28) := ⟨⟨by decide +kernel, by decide +kernel⟩, List.mem_of_getElem? (i := 353) (by decide +kernel), List.mem_of_getElem? (i := 505) (by decide +kernel), List.mem_of_getElem? (i := 506) (by decide +kernel)⟩
theorem lw_p38 : lw_okq (⟨"LineOfHeirsModel", "enter", "(II)V"⟩, 28) := ⟨⟨by decide +kernel, by decide +kernel⟩, List.mem_of_getElem? (i := 353) (by decide +kernel), List.mem_of_getElem? (i := 509) (by decide +kernel), List.mem_of_getElem? (i := 510) (by decide +kernel)⟩
theorem lw_p39 : lw_okq (⟨"LineOfHeirsModel", "pop", "()I"⟩, 28) := ⟨⟨by decide +kernel, by decide +kernel⟩, List.mem_of_getElem? (i := 353) (by decide +kernel), List.mem_of_getElem? (i := 513) (by decide +kernel), List.mem_of_getElem? (i := 514) (by decide +kernel)⟩
theorem lw_p40 : lw_okq (⟨"LineOfHeirsModel", "step", "(III)V"⟩, 28) := ⟨⟨by decide +kernel, by decide +kernel⟩, List.mem_of_getElem? (i := 353) (by decide +kernel), List.mem_of_getElem? (i := 517) (by decide +kernel), List.mem_of_getElem? (i := 518) (by decide +kernel)⟩
theorem lw_p41 : lw_okq (⟨"LineOfHeirsModel", "push", "(I)V"⟩, 28) := ⟨⟨by decide +kernel, by decide +kernel⟩, List.mem_of_getElem? (i := 353) (by decide +kernel), List.mem_of_getElem? (i := 521) (by decide +kernel), List.mem_of_getElem? (i := 522) (by decide +kernel)⟩
theorem lw_p42 : lw_okq (⟨"LineOfHeirsModel", "takes", "(II)I"⟩, 28) := ⟨⟨by decide +kernel, by decide +kernel⟩, List.mem_of_getElem? (i := 353) (by decide +kernel), List.mem_of_getElem? (i := 541) (by decide +kernel), List.mem_of_getElem? (i := 542) (by decide +kernel)⟩
def lw_privs_3 : List (MethodName × Nat) := [(⟨"LineOfHeirsModel", "isDevice", "(I)Z"⟩, 28), (⟨"LineOfHeirsModel", "isAble", "(II)Z"⟩, 28), (⟨"LineOfHeirsModel", "isOf", "(III)Z"⟩, 28), (⟨"LineOfHeirsModel", "refused", "(I)I"⟩, 28), (⟨"LineOfHeirsModel", "begin", "()V"⟩, 28), (⟨"LineOfHeirsModel", "act", "(III)I"⟩, 28), (⟨"LineOfHeirsModel", "enter", "(II)V"⟩, 28), (⟨"LineOfHeirsModel", "pop", "()I"⟩, 28), (⟨"LineOfHeirsModel", "step", "(III)V"⟩, 28), (⟨"LineOfHeirsModel", "push", "(I)V"⟩, 28), (⟨"LineOfHeirsModel", "takes", "(II)I"⟩, 28)]
theorem lw_r3 : ∀ q ∈ lw_privs_3, lw_okq q := List.forall_mem_cons.mpr ⟨lw_p32, List.forall_mem_cons.mpr ⟨lw_p33, List.forall_mem_cons.mpr ⟨lw_p34, List.forall_mem_cons.mpr ⟨lw_p35, List.forall_mem_cons.mpr ⟨lw_p36, List.forall_mem_cons.mpr ⟨lw_p37, List.forall_mem_cons.mpr ⟨lw_p38, List.forall_mem_cons.mpr ⟨lw_p39, List.forall_mem_cons.mpr ⟨lw_p40, List.forall_mem_cons.mpr ⟨lw_p41, List.forall_mem_cons.mpr ⟨lw_p42, fun _ h => absurd h List.not_mem_nil⟩⟩⟩⟩⟩⟩⟩⟩⟩⟩⟩
def lw_privs : List (MethodName × Nat) := lw_privs_1 ++ (lw_privs_2 ++ (lw_privs_3))
def lw_tbl : List Cond := k2_sels lw_privs ++ tables_1
theorem lw_privs_ok : ∀ q ∈ lw_privs, lw_okq q := by
  show ∀ q ∈ lw_privs_1 ++ (lw_privs_2 ++ (lw_privs_3)), lw_okq q
  exact List.forall_mem_append.mpr ⟨lw_r1, List.forall_mem_append.mpr ⟨lw_r2, lw_r3⟩⟩
def RX0 : String := "LineOfHeirs$Device"
def TX0 : u_T := fun k => match k with
  | 0 => ("LineOfHeirs$Device", "heritage", "LLineOfHeirs$Heritage;", true)
  | 1 => ("LineOfHeirs$Device", "trail", "LLineOfHeirs$Trail;", true)
  | 2 => ("LineOfHeirs$Device", "type", "I", true)
  | 3 => ("LineOfHeirs$Device", "takingAct", "I", true)
  | 4 => ("LineOfHeirs$Device", "v", "I", false)
  | 5 => ("LineOfHeirs$Device", "c", "I", false)
  | 6 => ("LineOfHeirs$Device", "firstLink", "LLineOfHeirs$Link;", false)
  | 7 => ("LineOfHeirs$Device", "lastLink", "LLineOfHeirs$Link;", false)
  | 8 => ("LineOfHeirs$Device", "linksFrom", "I", false)
  | 9 => ("LineOfHeirs$Device", "linksTo", "I", false)
  | 10 => ("LineOfHeirs$Device", "taken", "I", false)
  | 11 => ("LineOfHeirs$Device", "latestPulse", "I", false)
  | _ => ("LineOfHeirs$Device", "tookAnswer", "I", false)
def tyX0 : Nat → FieldType := fun k => match k with
  | 0 => .object "LineOfHeirs$Heritage"
  | 1 => .object "LineOfHeirs$Trail"
  | 2 => .int
  | 3 => .int
  | 4 => .int
  | 5 => .int
  | 6 => .object "LineOfHeirs$Link"
  | 7 => .object "LineOfHeirs$Link"
  | 8 => .int
  | 9 => .int
  | 10 => .int
  | 11 => .int
  | _ => .int
abbrev wsX00 : List Cond := u_ws RX0 TX0 13
theorem nmX0 : ∀ a, a < 13 → ∀ b, b < 13 → a ≠ b → (TX0 a).2.1 ≠ (TX0 b).2.1 := by decide +kernel
theorem tyX0_ok : ∀ k, k < 13 → parseFieldDescriptor (TX0 k).2.2.1 = some (tyX0 k) := by decide +kernel
abbrev cX0_init : ByteArray := prog_2_method_1_code
def yX0_init : MethodName := ⟨RX0, "<init>", "(LLineOfHeirs$Heritage;LLineOfHeirs$Trail;II)V"⟩
abbrev cX0_bears : ByteArray := prog_2_method_2_code
def yX0_bears : MethodName := ⟨RX0, "bears", "(I)Z"⟩
abbrev cX0_hasAct : ByteArray := prog_2_method_3_code
def yX0_hasAct : MethodName := ⟨RX0, "hasAct", "(II)Z"⟩
abbrev cX0_fact : ByteArray := prog_2_method_4_code
def yX0_fact : MethodName := ⟨RX0, "fact", "(I)I"⟩
abbrev cX0_addLink : ByteArray := prog_2_method_5_code
def yX0_addLink : MethodName := ⟨RX0, "addLink", "(LLineOfHeirs$Link;)V"⟩
abbrev cX0_take : ByteArray := prog_2_method_6_code
def yX0_take : MethodName := ⟨RX0, "take", "(II)V"⟩
abbrev cX0_answer : ByteArray := prog_2_method_7_code
def yX0_answer : MethodName := ⟨RX0, "answer", "(II)I"⟩
abbrev cX0_act : ByteArray := prog_2_method_8_code
def yX0_act : MethodName := ⟨RX0, "act", "(III)I"⟩
abbrev cX0_parentAct : ByteArray := prog_2_method_9_code
def yX0_parentAct : MethodName := ⟨RX0, "parentAct", "(IIII)I"⟩
abbrev cX0_interfaceAct : ByteArray := prog_2_method_10_code
def yX0_interfaceAct : MethodName := ⟨RX0, "interfaceAct", "(IIII)I"⟩
abbrev cX0_run : ByteArray := prog_2_method_11_code
def yX0_run : MethodName := ⟨RX0, "run", "(III)I"⟩
abbrev cX0_runOfInterface : ByteArray := prog_2_method_12_code
def yX0_runOfInterface : MethodName := ⟨RX0, "runOfInterface", "(III)I"⟩
abbrev cX0_runOfAncestor : ByteArray := prog_2_method_13_code
def yX0_runOfAncestor : MethodName := ⟨RX0, "runOfAncestor", "(III)I"⟩
abbrev cX0_runOfEarlierKind : ByteArray := prog_2_method_14_code
def yX0_runOfEarlierKind : MethodName := ⟨RX0, "runOfEarlierKind", "(III)I"⟩
abbrev cX0_runOfLaterKind : ByteArray := prog_2_method_15_code
def yX0_runOfLaterKind : MethodName := ⟨RX0, "runOfLaterKind", "(III)I"⟩
def RX1 : String := "LineOfHeirs$Heritage"
def TX1 : u_T := fun k => match k with
  | 0 => ("LineOfHeirs$Heritage", "borne", "[I", true)
  | _ => ("LineOfHeirs$Heritage", "selected", "[I", true)
def tyX1 : Nat → FieldType := fun k => match k with
  | 0 => .array .int
  | _ => .array .int
abbrev wsX10 : List Cond := u_ws RX1 TX1 2
theorem nmX1 : ∀ a, a < 2 → ∀ b, b < 2 → a ≠ b → (TX1 a).2.1 ≠ (TX1 b).2.1 := by decide +kernel
theorem tyX1_ok : ∀ k, k < 2 → parseFieldDescriptor (TX1 k).2.2.1 = some (tyX1 k) := by decide +kernel
abbrev cX1_init : ByteArray := prog_3_method_1_code
def yX1_init : MethodName := ⟨RX1, "<init>", "()V"⟩
abbrev cX1_isType : ByteArray := prog_3_method_2_code
def yX1_isType : MethodName := ⟨RX1, "isType", "(I)Z"⟩
abbrev cX1_isInterface : ByteArray := prog_3_method_3_code
def yX1_isInterface : MethodName := ⟨RX1, "isInterface", "(I)Z"⟩
abbrev cX1_holds : ByteArray := prog_3_method_4_code
def yX1_holds : MethodName := ⟨RX1, "holds", "(II)Z"⟩
abbrev cX1_parentOf : ByteArray := prog_3_method_5_code
def yX1_parentOf : MethodName := ⟨RX1, "parentOf", "(I)I"⟩
abbrev cX1_bodyOf : ByteArray := prog_3_method_6_code
def yX1_bodyOf : MethodName := ⟨RX1, "bodyOf", "(II)I"⟩
abbrev cX1_bearsOne : ByteArray := prog_3_method_7_code
def yX1_bearsOne : MethodName := ⟨RX1, "bearsOne", "(II[I)Z"⟩
abbrev cX1_interfacesOf : ByteArray := prog_3_method_8_code
def yX1_interfacesOf : MethodName := ⟨RX1, "interfacesOf", "(I[I)I"⟩
abbrev cX1_select : ByteArray := prog_3_method_9_code
def yX1_select : MethodName := ⟨RX1, "select", "(II[I)I"⟩
abbrev cX1_bodyOfLine : ByteArray := prog_3_method_10_code
def yX1_bodyOfLine : MethodName := ⟨RX1, "bodyOfLine", "(II)I"⟩
abbrev cX1_bodyOfInterfaces : ByteArray := prog_3_method_11_code
def yX1_bodyOfInterfaces : MethodName := ⟨RX1, "bodyOfInterfaces", "(II[I)I"⟩
abbrev cX1_isOvertaken : ByteArray := prog_3_method_12_code
def yX1_isOvertaken : MethodName := ⟨RX1, "isOvertaken", "(III[I)Z"⟩
abbrev cX1_selectedOf : ByteArray := prog_3_method_13_code
def yX1_selectedOf : MethodName := ⟨RX1, "selectedOf", "(II)I"⟩
abbrev cX1_bears : ByteArray := prog_3_method_14_code
def yX1_bears : MethodName := ⟨RX1, "bears", "(II)Z"⟩
abbrev cX1_takingActOf : ByteArray := prog_3_method_15_code
def yX1_takingActOf : MethodName := ⟨RX1, "takingActOf", "(I)I"⟩
abbrev cX1_hasAct : ByteArray := prog_3_method_16_code
def yX1_hasAct : MethodName := ⟨RX1, "hasAct", "(II)Z"⟩
abbrev cX1_kindHasAct : ByteArray := prog_3_method_17_code
def yX1_kindHasAct : MethodName := ⟨RX1, "kindHasAct", "(II)Z"⟩
def RX2 : String := "LineOfHeirs$Link"
def TX2 : u_T := fun k => match k with
  | 0 => ("LineOfHeirs$Link", "to", "LLineOfHeirs$Device;", true)
  | _ => ("LineOfHeirs$Link", "next", "LLineOfHeirs$Link;", false)
def tyX2 : Nat → FieldType := fun k => match k with
  | 0 => .object "LineOfHeirs$Device"
  | _ => .object "LineOfHeirs$Link"
abbrev wsX20 : List Cond := u_ws RX2 TX2 2
theorem nmX2 : ∀ a, a < 2 → ∀ b, b < 2 → a ≠ b → (TX2 a).2.1 ≠ (TX2 b).2.1 := by decide +kernel
theorem tyX2_ok : ∀ k, k < 2 → parseFieldDescriptor (TX2 k).2.2.1 = some (tyX2 k) := by decide +kernel
abbrev cX2_init : ByteArray := prog_4_method_1_code
def yX2_init : MethodName := ⟨RX2, "<init>", "(LLineOfHeirs$Device;)V"⟩
def RX3 : String := "LineOfHeirs$Trail"
def TX3 : u_T := fun k => match k with
  | 0 => ("LineOfHeirs$Trail", "kept", "[I", true)
  | _ => ("LineOfHeirs$Trail", "begun", "I", false)
def tyX3 : Nat → FieldType := fun k => match k with
  | 0 => .array .int
  | _ => .int
abbrev wsX30 : List Cond := u_ws RX3 TX3 2
theorem nmX3 : ∀ a, a < 2 → ∀ b, b < 2 → a ≠ b → (TX3 a).2.1 ≠ (TX3 b).2.1 := by decide +kernel
theorem tyX3_ok : ∀ k, k < 2 → parseFieldDescriptor (TX3 k).2.2.1 = some (tyX3 k) := by decide +kernel
abbrev cX3_init : ByteArray := prog_5_method_1_code
def yX3_init : MethodName := ⟨RX3, "<init>", "()V"⟩
abbrev cX3_clear : ByteArray := prog_5_method_2_code
def yX3_clear : MethodName := ⟨RX3, "clear", "()V"⟩
abbrev cX3_begin : ByteArray := prog_5_method_3_code
def yX3_begin : MethodName := ⟨RX3, "begin", "(I)V"⟩
abbrev cX3_keptAt : ByteArray := prog_5_method_4_code
def yX3_keptAt : MethodName := ⟨RX3, "keptAt", "(I)I"⟩
def RX4 : String := "LineOfHeirs"
def TX4 : u_T := fun k => match k with
  | 0 => ("LineOfHeirs", "heritage", "LLineOfHeirs$Heritage;", true)
  | 1 => ("LineOfHeirs", "trail", "LLineOfHeirs$Trail;", true)
  | 2 => ("LineOfHeirs", "devices", "[LLineOfHeirs$Device;", true)
  | 3 => ("LineOfHeirs", "takers", "[LLineOfHeirs$Device;", true)
  | 4 => ("LineOfHeirs", "deviceCount", "I", false)
  | 5 => ("LineOfHeirs", "linkCount", "I", false)
  | 6 => ("LineOfHeirs", "takerCount", "I", false)
  | 7 => ("LineOfHeirs", "pulse", "I", false)
  | _ => ("LineOfHeirs", "latestStatus", "I", false)
def tyX4 : Nat → FieldType := fun k => match k with
  | 0 => .object "LineOfHeirs$Heritage"
  | 1 => .object "LineOfHeirs$Trail"
  | 2 => .array (.object "LineOfHeirs$Device")
  | 3 => .array (.object "LineOfHeirs$Device")
  | 4 => .int
  | 5 => .int
  | 6 => .int
  | 7 => .int
  | _ => .int
abbrev wsX40 : List Cond := u_ws RX4 TX4 9
theorem nmX4 : ∀ a, a < 9 → ∀ b, b < 9 → a ≠ b → (TX4 a).2.1 ≠ (TX4 b).2.1 := by decide +kernel
theorem tyX4_ok : ∀ k, k < 9 → parseFieldDescriptor (TX4 k).2.2.1 = some (tyX4 k) := by decide +kernel
abbrev cX4_init : ByteArray := prog_1_method_1_code
def yX4_init : MethodName := ⟨RX4, "<init>", "()V"⟩
abbrev cX4_device : ByteArray := prog_1_method_2_code
def yX4_device : MethodName := ⟨RX4, "device", "(II)I"⟩
abbrev cX4_call : ByteArray := prog_1_method_3_code
def yX4_call : MethodName := ⟨RX4, "call", "(IIII)I"⟩
abbrev cX4_every : ByteArray := prog_1_method_4_code
def yX4_every : MethodName := ⟨RX4, "every", "(III)I"⟩
abbrev cX4_feed : ByteArray := prog_1_method_5_code
def yX4_feed : MethodName := ⟨RX4, "feed", "(II)I"⟩
abbrev cX4_link : ByteArray := prog_1_method_6_code
def yX4_link : MethodName := ⟨RX4, "link", "(II)I"⟩
abbrev cX4_pass : ByteArray := prog_1_method_7_code
def yX4_pass : MethodName := ⟨RX4, "pass", "(II)I"⟩
abbrev cX4_able : ByteArray := prog_1_method_8_code
def yX4_able : MethodName := ⟨RX4, "able", "(II)I"⟩
abbrev cX4_chain : ByteArray := prog_1_method_9_code
def yX4_chain : MethodName := ⟨RX4, "chain", "(I)I"⟩
abbrev cX4_ran : ByteArray := prog_1_method_10_code
def yX4_ran : MethodName := ⟨RX4, "ran", "()I"⟩
abbrev cX4_state : ByteArray := prog_1_method_11_code
def yX4_state : MethodName := ⟨RX4, "state", "(II)I"⟩
abbrev cX4_size : ByteArray := prog_1_method_12_code
def yX4_size : MethodName := ⟨RX4, "size", "(I)I"⟩
abbrev cX4_status : ByteArray := prog_1_method_13_code
def yX4_status : MethodName := ⟨RX4, "status", "()I"⟩
abbrev cX4_isAct : ByteArray := prog_1_method_14_code
def yX4_isAct : MethodName := ⟨RX4, "isAct", "(I)Z"⟩
abbrev cX4_isWay : ByteArray := prog_1_method_15_code
def yX4_isWay : MethodName := ⟨RX4, "isWay", "(I)Z"⟩
abbrev cX4_find : ByteArray := prog_1_method_16_code
def yX4_find : MethodName := ⟨RX4, "find", "(I)LLineOfHeirs$Device;"⟩
abbrev cX4_refusal : ByteArray := prog_1_method_17_code
def yX4_refusal : MethodName := ⟨RX4, "refusal", "(LLineOfHeirs$Device;II)I"⟩
abbrev cX4_refusalOfAll : ByteArray := prog_1_method_18_code
def yX4_refusalOfAll : MethodName := ⟨RX4, "refusalOfAll", "(II)I"⟩
abbrev cX4_answerToByte : ByteArray := prog_1_method_19_code
def yX4_answerToByte : MethodName := ⟨RX4, "answerToByte", "(LLineOfHeirs$Device;II)I"⟩
abbrev cX4_letTake : ByteArray := prog_1_method_20_code
def yX4_letTake : MethodName := ⟨RX4, "letTake", "(LLineOfHeirs$Device;I)V"⟩
abbrev cX4_passOn : ByteArray := prog_1_method_21_code
def yX4_passOn : MethodName := ⟨RX4, "passOn", "(LLineOfHeirs$Device;)V"⟩
abbrev cX4_countBearers : ByteArray := prog_1_method_22_code
def yX4_countBearers : MethodName := ⟨RX4, "countBearers", "(I)I"⟩
def RX5 : String := "LineOfHeirsModel"
def TX5 : u_T := fun k => match k with
  | 0 => ("LineOfHeirsModel", "code", "[I", true)
  | 1 => ("LineOfHeirsModel", "start", "[I", true)
  | 2 => ("LineOfHeirsModel", "parent", "[I", true)
  | 3 => ("LineOfHeirsModel", "bears", "[I", true)
  | 4 => ("LineOfHeirsModel", "has", "[I", true)
  | 5 => ("LineOfHeirsModel", "chosen", "[I", true)
  | 6 => ("LineOfHeirsModel", "actsOf", "[I", true)
  | 7 => ("LineOfHeirsModel", "actsOfKind", "[I", true)
  | 8 => ("LineOfHeirsModel", "kindOf", "[I", true)
  | 9 => ("LineOfHeirsModel", "valueOf", "[I", true)
  | 10 => ("LineOfHeirsModel", "countOf", "[I", true)
  | 11 => ("LineOfHeirsModel", "takenOf", "[I", true)
  | 12 => ("LineOfHeirsModel", "devices", "I", false)
  | 13 => ("LineOfHeirsModel", "from", "[I", true)
  | 14 => ("LineOfHeirsModel", "to", "[I", true)
  | 15 => ("LineOfHeirsModel", "links", "I", false)
  | 16 => ("LineOfHeirsModel", "row", "[I", true)
  | 17 => ("LineOfHeirsModel", "answer", "[I", true)
  | 18 => ("LineOfHeirsModel", "isIn", "[Z", true)
  | 19 => ("LineOfHeirsModel", "kept", "[I", true)
  | 20 => ("LineOfHeirsModel", "began", "I", false)
  | 21 => ("LineOfHeirsModel", "status", "I", false)
  | 22 => ("LineOfHeirsModel", "frameBody", "[I", true)
  | 23 => ("LineOfHeirsModel", "frameAt", "[I", true)
  | 24 => ("LineOfHeirsModel", "frameX", "[I", true)
  | 25 => ("LineOfHeirsModel", "pile", "[I", true)
  | 26 => ("LineOfHeirsModel", "frames", "I", false)
  | _ => ("LineOfHeirsModel", "piled", "I", false)
def tyX5 : Nat → FieldType := fun k => match k with
  | 0 => .array .int
  | 1 => .array .int
  | 2 => .array .int
  | 3 => .array .int
  | 4 => .array .int
  | 5 => .array .int
  | 6 => .array .int
  | 7 => .array .int
  | 8 => .array .int
  | 9 => .array .int
  | 10 => .array .int
  | 11 => .array .int
  | 12 => .int
  | 13 => .array .int
  | 14 => .array .int
  | 15 => .int
  | 16 => .array .int
  | 17 => .array .int
  | 18 => .array .boolean
  | 19 => .array .int
  | 20 => .int
  | 21 => .int
  | 22 => .array .int
  | 23 => .array .int
  | 24 => .array .int
  | 25 => .array .int
  | 26 => .int
  | _ => .int
abbrev wsX50 : List Cond := u_ws RX5 TX5 28
theorem nmX5 : ∀ a, a < 28 → ∀ b, b < 28 → a ≠ b → (TX5 a).2.1 ≠ (TX5 b).2.1 := by decide +kernel
theorem tyX5_ok : ∀ k, k < 28 → parseFieldDescriptor (TX5 k).2.2.1 = some (tyX5 k) := by decide +kernel
abbrev cX5_init : ByteArray := prog_7_method_1_code
def yX5_init : MethodName := ⟨RX5, "<init>", "()V"⟩
abbrev cX5_bit : ByteArray := prog_7_method_2_code
def yX5_bit : MethodName := ⟨RX5, "bit", "(I)I"⟩
abbrev cX5_have : ByteArray := prog_7_method_3_code
def yX5_have : MethodName := ⟨RX5, "have", "(III)V"⟩
abbrev cX5_closed : ByteArray := prog_7_method_4_code
def yX5_closed : MethodName := ⟨RX5, "closed", "(I)I"⟩
abbrev cX5_heir : ByteArray := prog_7_method_5_code
def yX5_heir : MethodName := ⟨RX5, "heir", "(III)V"⟩
abbrev cX5_select : ByteArray := prog_7_method_6_code
def yX5_select : MethodName := ⟨RX5, "select", "(II)I"⟩
abbrev cX5_lowest : ByteArray := prog_7_method_7_code
def yX5_lowest : MethodName := ⟨RX5, "lowest", "(II)I"⟩
abbrev cX5_push : ByteArray := prog_7_method_8_code
def yX5_push : MethodName := ⟨RX5, "push", "(I)V"⟩
abbrev cX5_pop : ByteArray := prog_7_method_9_code
def yX5_pop : MethodName := ⟨RX5, "pop", "()I"⟩
abbrev cX5_enter : ByteArray := prog_7_method_10_code
def yX5_enter : MethodName := ⟨RX5, "enter", "(II)V"⟩
abbrev cX5_act : ByteArray := prog_7_method_11_code
def yX5_act : MethodName := ⟨RX5, "act", "(III)I"⟩
abbrev cX5_step : ByteArray := prog_7_method_12_code
def yX5_step : MethodName := ⟨RX5, "step", "(III)V"⟩
abbrev cX5_isDevice : ByteArray := prog_7_method_13_code
def yX5_isDevice : MethodName := ⟨RX5, "isDevice", "(I)Z"⟩
abbrev cX5_isAct : ByteArray := prog_7_method_14_code
def yX5_isAct : MethodName := ⟨RX5, "isAct", "(I)Z"⟩
abbrev cX5_isWay : ByteArray := prog_7_method_15_code
def yX5_isWay : MethodName := ⟨RX5, "isWay", "(I)Z"⟩
abbrev cX5_isAble : ByteArray := prog_7_method_16_code
def yX5_isAble : MethodName := ⟨RX5, "isAble", "(II)Z"⟩
abbrev cX5_isOf : ByteArray := prog_7_method_17_code
def yX5_isOf : MethodName := ⟨RX5, "isOf", "(III)Z"⟩
abbrev cX5_refused : ByteArray := prog_7_method_18_code
def yX5_refused : MethodName := ⟨RX5, "refused", "(I)I"⟩
abbrev cX5_why : ByteArray := prog_7_method_19_code
def yX5_why : MethodName := ⟨RX5, "why", "(III)I"⟩
abbrev cX5_begin : ByteArray := prog_7_method_20_code
def yX5_begin : MethodName := ⟨RX5, "begin", "()V"⟩
abbrev cX5_device : ByteArray := prog_7_method_21_code
def yX5_device : MethodName := ⟨RX5, "device", "(II)I"⟩
abbrev cX5_call : ByteArray := prog_7_method_22_code
def yX5_call : MethodName := ⟨RX5, "call", "(IIII)I"⟩
abbrev cX5_every : ByteArray := prog_7_method_23_code
def yX5_every : MethodName := ⟨RX5, "every", "(III)I"⟩
abbrev cX5_feed : ByteArray := prog_7_method_24_code
def yX5_feed : MethodName := ⟨RX5, "feed", "(II)I"⟩
abbrev cX5_link : ByteArray := prog_7_method_25_code
def yX5_link : MethodName := ⟨RX5, "link", "(II)I"⟩
abbrev cX5_takes : ByteArray := prog_7_method_26_code
def yX5_takes : MethodName := ⟨RX5, "takes", "(II)I"⟩
abbrev cX5_pass : ByteArray := prog_7_method_27_code
def yX5_pass : MethodName := ⟨RX5, "pass", "(II)I"⟩
abbrev cX5_able : ByteArray := prog_7_method_28_code
def yX5_able : MethodName := ⟨RX5, "able", "(II)I"⟩
abbrev cX5_chain : ByteArray := prog_7_method_29_code
def yX5_chain : MethodName := ⟨RX5, "chain", "(I)I"⟩
abbrev cX5_ran : ByteArray := prog_7_method_30_code
def yX5_ran : MethodName := ⟨RX5, "ran", "()I"⟩
abbrev cX5_state : ByteArray := prog_7_method_31_code
def yX5_state : MethodName := ⟨RX5, "state", "(II)I"⟩
abbrev cX5_size : ByteArray := prog_7_method_32_code
def yX5_size : MethodName := ⟨RX5, "size", "(I)I"⟩
abbrev cX5_status : ByteArray := prog_7_method_33_code
def yX5_status : MethodName := ⟨RX5, "status", "()I"⟩
def RL : String := "LineOfHeirsLaw"
abbrev cL_law : ByteArray := code
def yL_law : MethodName := ⟨RL, "law", "([I)Z"⟩
abbrev vwCl : List vw_C := [(RX0, TX0, 13), (RX1, TX1, 2), (RX2, TX2, 2), (RX3, TX3, 2), (RX4, TX4, 9), (RX5, TX5, 28)]
def WS : List Cond := lw_tbl.filter goodWord
theorem mWS {w : Cond} (i : Nat) (h : lw_tbl[i]? = some w) (hg : goodWord w = true) : w ∈ WS := List.mem_filter.mpr ⟨List.mem_of_getElem? h, hg⟩
theorem gWS {b : Cond} (hb : b ∈ WS) : GoodIn WS (b :: WS) := fun w h => by
  have hw : w ∈ WS := by
    rcases List.mem_cons.mp h with h | h
    · rw [h]; exact hb
    · exact h
  exact ⟨hw, good_of_word (List.mem_filter.mp hw).2⟩
theorem gWSa {b : List Cond} {a : List Cond} (ha : ∀ w ∈ a, w ∈ WS) (hb : GoodIn WS b) : GoodIn WS (a ++ b) := fun w h => by
  rcases List.mem_append.mp h with h | h
  · exact ⟨ha w h, good_of_word (List.mem_filter.mp (ha w h)).2⟩
  · exact hb w h
theorem gWSV {own C : String} {idx : Nat} {y : MethodName} {b : Cond} (h1 : Cond.methodLink own idx y ∈ WS) (h2 : Cond.instanceMethod y ∈ WS) (h3 : Cond.selects C y y ∈ WS) (h4 : Cond.initialized C ∈ WS) (hb : b ∈ WS) : GoodIn WS (wsV own idx C y (b :: WS)) :=
  gWSa (fun w h => by
    rcases List.mem_cons.mp h with h | h
    · rw [h]; exact h1
    · rcases List.mem_cons.mp h with h | h
      · rw [h]; exact h2
      · rcases List.mem_cons.mp h with h | h
        · rw [h]; exact h3
        · rw [List.mem_singleton.mp h]; exact h4) (gWS hb)
theorem gWSS {own : String} {idx : Nat} {y : MethodName} {b : Cond} (h1 : Cond.methodLink own idx y ∈ WS) (h2 : Cond.static y ∈ WS) (h4 : Cond.initialized y.cls ∈ WS) (hb : b ∈ WS) : GoodIn WS (va_wsS own idx y (b :: WS)) :=
  gWSa (fun w h => by
    rcases List.mem_cons.mp h with h | h
    · rw [h]; exact h1
    · rcases List.mem_cons.mp h with h | h
      · rw [h]; exact h2
      · rw [List.mem_singleton.mp h]; exact h4) (gWS hb)
theorem mWSu {L : List Cond} (h : L.all (fun w => decide (w ∈ lw_tbl) && goodWord w) = true) : ∀ w ∈ L, w ∈ WS := fun w hw => by
  have h1 := List.all_eq_true.mp h w hw
  simp only [Bool.and_eq_true, decide_eq_true_eq] at h1
  exact List.mem_filter.mpr ⟨h1.1, h1.2⟩
set_option maxRecDepth 20000 in
theorem q_se_X1_takingActOf : Cond.selects RX1 yX1_takingActOf yX1_takingActOf ∈ WS := mWS (w := Cond.selects RX1 yX1_takingActOf yX1_takingActOf) 0 rfl rfl
set_option maxRecDepth 20000 in
theorem q_se_X1_bears : Cond.selects RX1 yX1_bears yX1_bears ∈ WS := mWS (w := Cond.selects RX1 yX1_bears yX1_bears) 1 rfl rfl
set_option maxRecDepth 20000 in
theorem q_se_X4_find : Cond.selects RX4 yX4_find yX4_find ∈ WS := mWS (w := Cond.selects RX4 yX4_find yX4_find) 2 rfl rfl
set_option maxRecDepth 20000 in
theorem q_se_X0_bears : Cond.selects RX0 yX0_bears yX0_bears ∈ WS := mWS (w := Cond.selects RX0 yX0_bears yX0_bears) 3 rfl rfl
set_option maxRecDepth 20000 in
theorem q_se_X0_hasAct : Cond.selects RX0 yX0_hasAct yX0_hasAct ∈ WS := mWS (w := Cond.selects RX0 yX0_hasAct yX0_hasAct) 4 rfl rfl
set_option maxRecDepth 20000 in
theorem q_se_X1_kindHasAct : Cond.selects RX1 yX1_kindHasAct yX1_kindHasAct ∈ WS := mWS (w := Cond.selects RX1 yX1_kindHasAct yX1_kindHasAct) 5 rfl rfl
set_option maxRecDepth 20000 in
theorem q_se_X1_hasAct : Cond.selects RX1 yX1_hasAct yX1_hasAct ∈ WS := mWS (w := Cond.selects RX1 yX1_hasAct yX1_hasAct) 6 rfl rfl
set_option maxRecDepth 20000 in
theorem q_se_X3_clear : Cond.selects RX3 yX3_clear yX3_clear ∈ WS := mWS (w := Cond.selects RX3 yX3_clear yX3_clear) 7 rfl rfl
set_option maxRecDepth 20000 in
theorem q_se_X0_answer : Cond.selects RX0 yX0_answer yX0_answer ∈ WS := mWS (w := Cond.selects RX0 yX0_answer yX0_answer) 8 rfl rfl
set_option maxRecDepth 20000 in
theorem q_se_X0_act : Cond.selects RX0 yX0_act yX0_act ∈ WS := mWS (w := Cond.selects RX0 yX0_act yX0_act) 9 rfl rfl
set_option maxRecDepth 20000 in
theorem q_se_X1_selectedOf : Cond.selects RX1 yX1_selectedOf yX1_selectedOf ∈ WS := mWS (w := Cond.selects RX1 yX1_selectedOf yX1_selectedOf) 10 rfl rfl
set_option maxRecDepth 20000 in
theorem q_se_X0_run : Cond.selects RX0 yX0_run yX0_run ∈ WS := mWS (w := Cond.selects RX0 yX0_run yX0_run) 11 rfl rfl
set_option maxRecDepth 20000 in
theorem q_se_X3_begin : Cond.selects RX3 yX3_begin yX3_begin ∈ WS := mWS (w := Cond.selects RX3 yX3_begin yX3_begin) 12 rfl rfl
set_option maxRecDepth 20000 in
theorem q_se_X0_runOfInterface : Cond.selects RX0 yX0_runOfInterface yX0_runOfInterface ∈ WS := mWS (w := Cond.selects RX0 yX0_runOfInterface yX0_runOfInterface) 13 rfl rfl
set_option maxRecDepth 20000 in
theorem q_se_X0_interfaceAct : Cond.selects RX0 yX0_interfaceAct yX0_interfaceAct ∈ WS := mWS (w := Cond.selects RX0 yX0_interfaceAct yX0_interfaceAct) 14 rfl rfl
set_option maxRecDepth 20000 in
theorem q_se_X0_runOfAncestor : Cond.selects RX0 yX0_runOfAncestor yX0_runOfAncestor ∈ WS := mWS (w := Cond.selects RX0 yX0_runOfAncestor yX0_runOfAncestor) 15 rfl rfl
set_option maxRecDepth 20000 in
theorem q_se_X0_runOfEarlierKind : Cond.selects RX0 yX0_runOfEarlierKind yX0_runOfEarlierKind ∈ WS := mWS (w := Cond.selects RX0 yX0_runOfEarlierKind yX0_runOfEarlierKind) 16 rfl rfl
set_option maxRecDepth 20000 in
theorem q_se_X0_parentAct : Cond.selects RX0 yX0_parentAct yX0_parentAct ∈ WS := mWS (w := Cond.selects RX0 yX0_parentAct yX0_parentAct) 17 rfl rfl
set_option maxRecDepth 20000 in
theorem q_se_X0_runOfLaterKind : Cond.selects RX0 yX0_runOfLaterKind yX0_runOfLaterKind ∈ WS := mWS (w := Cond.selects RX0 yX0_runOfLaterKind yX0_runOfLaterKind) 18 rfl rfl
set_option maxRecDepth 20000 in
theorem q_se_X4_refusalOfAll : Cond.selects RX4 yX4_refusalOfAll yX4_refusalOfAll ∈ WS := mWS (w := Cond.selects RX4 yX4_refusalOfAll yX4_refusalOfAll) 19 rfl rfl
set_option maxRecDepth 20000 in
theorem q_se_X0_addLink : Cond.selects RX0 yX0_addLink yX0_addLink ∈ WS := mWS (w := Cond.selects RX0 yX0_addLink yX0_addLink) 20 rfl rfl
set_option maxRecDepth 20000 in
theorem q_se_X4_letTake : Cond.selects RX4 yX4_letTake yX4_letTake ∈ WS := mWS (w := Cond.selects RX4 yX4_letTake yX4_letTake) 21 rfl rfl
set_option maxRecDepth 20000 in
theorem q_se_X0_take : Cond.selects RX0 yX0_take yX0_take ∈ WS := mWS (w := Cond.selects RX0 yX0_take yX0_take) 22 rfl rfl
set_option maxRecDepth 20000 in
theorem q_se_X4_passOn : Cond.selects RX4 yX4_passOn yX4_passOn ∈ WS := mWS (w := Cond.selects RX4 yX4_passOn yX4_passOn) 23 rfl rfl
set_option maxRecDepth 20000 in
theorem q_se_X3_keptAt : Cond.selects RX3 yX3_keptAt yX3_keptAt ∈ WS := mWS (w := Cond.selects RX3 yX3_keptAt yX3_keptAt) 24 rfl rfl
set_option maxRecDepth 20000 in
theorem q_se_X0_fact : Cond.selects RX0 yX0_fact yX0_fact ∈ WS := mWS (w := Cond.selects RX0 yX0_fact yX0_fact) 25 rfl rfl
set_option maxRecDepth 20000 in
theorem q_se_X4_countBearers : Cond.selects RX4 yX4_countBearers yX4_countBearers ∈ WS := mWS (w := Cond.selects RX4 yX4_countBearers yX4_countBearers) 26 rfl rfl
set_option maxRecDepth 20000 in
theorem q_se_X5_have : Cond.selects RX5 yX5_have yX5_have ∈ WS := mWS (w := Cond.selects RX5 yX5_have yX5_have) 27 rfl rfl
set_option maxRecDepth 20000 in
theorem q_se_X5_heir : Cond.selects RX5 yX5_heir yX5_heir ∈ WS := mWS (w := Cond.selects RX5 yX5_heir yX5_heir) 28 rfl rfl
set_option maxRecDepth 20000 in
theorem q_se_X5_lowest : Cond.selects RX5 yX5_lowest yX5_lowest ∈ WS := mWS (w := Cond.selects RX5 yX5_lowest yX5_lowest) 29 rfl rfl
set_option maxRecDepth 20000 in
theorem q_se_X5_select : Cond.selects RX5 yX5_select yX5_select ∈ WS := mWS (w := Cond.selects RX5 yX5_select yX5_select) 30 rfl rfl
set_option maxRecDepth 20000 in
theorem q_se_X5_why : Cond.selects RX5 yX5_why yX5_why ∈ WS := mWS (w := Cond.selects RX5 yX5_why yX5_why) 31 rfl rfl
set_option maxRecDepth 20000 in
theorem q_se_X5_isDevice : Cond.selects RX5 yX5_isDevice yX5_isDevice ∈ WS := mWS (w := Cond.selects RX5 yX5_isDevice yX5_isDevice) 32 rfl rfl
set_option maxRecDepth 20000 in
theorem q_se_X5_isAble : Cond.selects RX5 yX5_isAble yX5_isAble ∈ WS := mWS (w := Cond.selects RX5 yX5_isAble yX5_isAble) 33 rfl rfl
set_option maxRecDepth 20000 in
theorem q_se_X5_isOf : Cond.selects RX5 yX5_isOf yX5_isOf ∈ WS := mWS (w := Cond.selects RX5 yX5_isOf yX5_isOf) 34 rfl rfl
set_option maxRecDepth 20000 in
theorem q_se_X5_refused : Cond.selects RX5 yX5_refused yX5_refused ∈ WS := mWS (w := Cond.selects RX5 yX5_refused yX5_refused) 35 rfl rfl
set_option maxRecDepth 20000 in
theorem q_se_X5_begin : Cond.selects RX5 yX5_begin yX5_begin ∈ WS := mWS (w := Cond.selects RX5 yX5_begin yX5_begin) 36 rfl rfl
set_option maxRecDepth 20000 in
theorem q_se_X5_act : Cond.selects RX5 yX5_act yX5_act ∈ WS := mWS (w := Cond.selects RX5 yX5_act yX5_act) 37 rfl rfl
set_option maxRecDepth 20000 in
theorem q_se_X5_enter : Cond.selects RX5 yX5_enter yX5_enter ∈ WS := mWS (w := Cond.selects RX5 yX5_enter yX5_enter) 38 rfl rfl
set_option maxRecDepth 20000 in
theorem q_se_X5_pop : Cond.selects RX5 yX5_pop yX5_pop ∈ WS := mWS (w := Cond.selects RX5 yX5_pop yX5_pop) 39 rfl rfl
set_option maxRecDepth 20000 in
theorem q_se_X5_step : Cond.selects RX5 yX5_step yX5_step ∈ WS := mWS (w := Cond.selects RX5 yX5_step yX5_step) 40 rfl rfl
set_option maxRecDepth 20000 in
theorem q_se_X5_push : Cond.selects RX5 yX5_push yX5_push ∈ WS := mWS (w := Cond.selects RX5 yX5_push yX5_push) 41 rfl rfl
set_option maxRecDepth 20000 in
theorem q_se_X5_takes : Cond.selects RX5 yX5_takes yX5_takes ∈ WS := mWS (w := Cond.selects RX5 yX5_takes yX5_takes) 42 rfl rfl
set_option maxRecDepth 20000 in
theorem q_in_L : Cond.initialized RL ∈ WS := mWS (w := Cond.initialized RL) 43 rfl rfl
set_option maxRecDepth 20000 in
theorem q_in_4 : Cond.initialized RX4 ∈ WS := mWS (w := Cond.initialized RX4) 44 rfl rfl
set_option maxRecDepth 20000 in
theorem q_in_1 : Cond.initialized RX1 ∈ WS := mWS (w := Cond.initialized RX1) 45 rfl rfl
set_option maxRecDepth 20000 in
theorem q_in_3 : Cond.initialized RX3 ∈ WS := mWS (w := Cond.initialized RX3) 46 rfl rfl
set_option maxRecDepth 20000 in
theorem q_in_5 : Cond.initialized RX5 ∈ WS := mWS (w := Cond.initialized RX5) 47 rfl rfl
set_option maxRecDepth 20000 in
theorem q_in_0 : Cond.initialized RX0 ∈ WS := mWS (w := Cond.initialized RX0) 48 rfl rfl
set_option maxRecDepth 20000 in
theorem q_in_2 : Cond.initialized RX2 ∈ WS := mWS (w := Cond.initialized RX2) 49 rfl rfl
set_option maxRecDepth 20000 in
theorem q_cl_L_7 : Cond.classLink RL 7 RX4 ∈ WS := mWS (w := Cond.classLink RL 7 RX4) 50 rfl rfl
set_option maxRecDepth 20000 in
theorem q_ia_4 : Cond.instantiable RX4 9 ∈ WS := mWS (w := Cond.instantiable RX4 9) 51 rfl rfl
set_option maxRecDepth 20000 in
theorem q_l_L_9 : Cond.methodLink RL 9 yX4_init ∈ WS := mWS (w := Cond.methodLink RL 9 yX4_init) 52 rfl rfl
set_option maxRecDepth 20000 in
theorem q_im_X4_init : Cond.instanceMethod yX4_init ∈ WS := mWS (w := Cond.instanceMethod yX4_init) 53 rfl rfl
set_option maxRecDepth 20000 in
theorem q_co_X4_init : Cond.code yX4_init cX4_init 1 none ∈ WS := mWS (w := Cond.code yX4_init cX4_init 1 none) 54 rfl rfl
set_option maxRecDepth 20000 in
theorem q_l_4_3 : Cond.methodLink RX4 3 objectInit ∈ WS := mWS (w := Cond.methodLink RX4 3 objectInit) 55 rfl rfl
set_option maxRecDepth 20000 in
theorem q_im_O : Cond.instanceMethod objectInit ∈ WS := mWS (w := Cond.instanceMethod objectInit) 56 rfl rfl
set_option maxRecDepth 20000 in
theorem q_co_O : Cond.code objectInit ⟨#[0xb1]⟩ 1 none ∈ WS := mWS (w := Cond.code objectInit ⟨#[0xb1]⟩ 1 none) 57 rfl rfl
set_option maxRecDepth 20000 in
theorem q_cl_4_9 : Cond.classLink RX4 9 RX1 ∈ WS := mWS (w := Cond.classLink RX4 9 RX1) 58 rfl rfl
set_option maxRecDepth 20000 in
theorem q_ia_1 : Cond.instantiable RX1 2 ∈ WS := mWS (w := Cond.instantiable RX1 2) 59 rfl rfl
set_option maxRecDepth 20000 in
theorem q_im_X1_init : Cond.instanceMethod yX1_init ∈ WS := mWS (w := Cond.instanceMethod yX1_init) 61 rfl rfl
set_option maxRecDepth 20000 in
theorem q_co_X1_init : Cond.code yX1_init cX1_init 3 none ∈ WS := mWS (w := Cond.code yX1_init cX1_init 3 none) 62 rfl rfl
set_option maxRecDepth 20000 in
theorem q_l_1_3 : Cond.methodLink RX1 3 objectInit ∈ WS := mWS (w := Cond.methodLink RX1 3 objectInit) 63 rfl rfl
set_option maxRecDepth 20000 in
theorem q_l_1_18 : Cond.methodLink RX1 18 yX1_interfacesOf ∈ WS := mWS (w := Cond.methodLink RX1 18 yX1_interfacesOf) 64 rfl rfl
set_option maxRecDepth 20000 in
theorem q_st_X1_interfacesOf : Cond.static yX1_interfacesOf ∈ WS := mWS (w := Cond.static yX1_interfacesOf) 65 rfl rfl
set_option maxRecDepth 20000 in
theorem q_co_X1_interfacesOf : Cond.code yX1_interfacesOf cX1_interfacesOf 5 (some .int) ∈ WS := mWS (w := Cond.code yX1_interfacesOf cX1_interfacesOf 5 (some .int)) 66 rfl rfl
set_option maxRecDepth 20000 in
theorem q_l_1_26 : Cond.methodLink RX1 26 yX1_isType ∈ WS := mWS (w := Cond.methodLink RX1 26 yX1_isType) 67 rfl rfl
set_option maxRecDepth 20000 in
theorem q_st_X1_isType : Cond.static yX1_isType ∈ WS := mWS (w := Cond.static yX1_isType) 68 rfl rfl
set_option maxRecDepth 20000 in
theorem q_co_X1_isType : Cond.code yX1_isType cX1_isType 1 (some .boolean) ∈ WS := mWS (w := Cond.code yX1_isType cX1_isType 1 (some .boolean)) 69 rfl rfl
set_option maxRecDepth 20000 in
theorem q_l_1_43 : Cond.methodLink RX1 43 yX1_parentOf ∈ WS := mWS (w := Cond.methodLink RX1 43 yX1_parentOf) 70 rfl rfl
set_option maxRecDepth 20000 in
theorem q_st_X1_parentOf : Cond.static yX1_parentOf ∈ WS := mWS (w := Cond.static yX1_parentOf) 71 rfl rfl
set_option maxRecDepth 20000 in
theorem q_co_X1_parentOf : Cond.code yX1_parentOf cX1_parentOf 1 (some .int) ∈ WS := mWS (w := Cond.code yX1_parentOf cX1_parentOf 1 (some .int)) 72 rfl rfl
set_option maxRecDepth 20000 in
theorem q_f_1_30 : Cond.fieldLink RX1 30 "LineOfHeirs$Heritage" "PARENTS" "[I" ∈ WS := mWS (w := Cond.fieldLink RX1 30 "LineOfHeirs$Heritage" "PARENTS" "[I") 73 rfl rfl
set_option maxRecDepth 20000 in
theorem q_l_1_47 : Cond.methodLink RX1 47 yX1_isInterface ∈ WS := mWS (w := Cond.methodLink RX1 47 yX1_isInterface) 75 rfl rfl
set_option maxRecDepth 20000 in
theorem q_st_X1_isInterface : Cond.static yX1_isInterface ∈ WS := mWS (w := Cond.static yX1_isInterface) 76 rfl rfl
set_option maxRecDepth 20000 in
theorem q_co_X1_isInterface : Cond.code yX1_isInterface cX1_isInterface 1 (some .boolean) ∈ WS := mWS (w := Cond.code yX1_isInterface cX1_isInterface 1 (some .boolean)) 77 rfl rfl
set_option maxRecDepth 20000 in
theorem q_f_1_50 : Cond.fieldLink RX1 50 "LineOfHeirs$Heritage" "NAMED" "[I" ∈ WS := mWS (w := Cond.fieldLink RX1 50 "LineOfHeirs$Heritage" "NAMED" "[I") 78 rfl rfl
set_option maxRecDepth 20000 in
theorem q_l_1_39 : Cond.methodLink RX1 39 yX1_holds ∈ WS := mWS (w := Cond.methodLink RX1 39 yX1_holds) 80 rfl rfl
set_option maxRecDepth 20000 in
theorem q_st_X1_holds : Cond.static yX1_holds ∈ WS := mWS (w := Cond.static yX1_holds) 81 rfl rfl
set_option maxRecDepth 20000 in
theorem q_co_X1_holds : Cond.code yX1_holds cX1_holds 2 (some .boolean) ∈ WS := mWS (w := Cond.code yX1_holds cX1_holds 2 (some .boolean)) 82 rfl rfl
set_option maxRecDepth 20000 in
theorem q_l_1_22 : Cond.methodLink RX1 22 yX1_select ∈ WS := mWS (w := Cond.methodLink RX1 22 yX1_select) 83 rfl rfl
set_option maxRecDepth 20000 in
theorem q_st_X1_select : Cond.static yX1_select ∈ WS := mWS (w := Cond.static yX1_select) 84 rfl rfl
set_option maxRecDepth 20000 in
theorem q_co_X1_select : Cond.code yX1_select cX1_select 4 (some .int) ∈ WS := mWS (w := Cond.code yX1_select cX1_select 4 (some .int)) 85 rfl rfl
set_option maxRecDepth 20000 in
theorem q_l_1_53 : Cond.methodLink RX1 53 yX1_bodyOfLine ∈ WS := mWS (w := Cond.methodLink RX1 53 yX1_bodyOfLine) 86 rfl rfl
set_option maxRecDepth 20000 in
theorem q_st_X1_bodyOfLine : Cond.static yX1_bodyOfLine ∈ WS := mWS (w := Cond.static yX1_bodyOfLine) 87 rfl rfl
set_option maxRecDepth 20000 in
theorem q_co_X1_bodyOfLine : Cond.code yX1_bodyOfLine cX1_bodyOfLine 5 (some .int) ∈ WS := mWS (w := Cond.code yX1_bodyOfLine cX1_bodyOfLine 5 (some .int)) 88 rfl rfl
set_option maxRecDepth 20000 in
theorem q_l_1_60 : Cond.methodLink RX1 60 yX1_bodyOf ∈ WS := mWS (w := Cond.methodLink RX1 60 yX1_bodyOf) 89 rfl rfl
set_option maxRecDepth 20000 in
theorem q_st_X1_bodyOf : Cond.static yX1_bodyOf ∈ WS := mWS (w := Cond.static yX1_bodyOf) 90 rfl rfl
set_option maxRecDepth 20000 in
theorem q_co_X1_bodyOf : Cond.code yX1_bodyOf cX1_bodyOf 2 (some .int) ∈ WS := mWS (w := Cond.code yX1_bodyOf cX1_bodyOf 2 (some .int)) 91 rfl rfl
set_option maxRecDepth 20000 in
theorem q_st_X4_isAct : Cond.static yX4_isAct ∈ WS := mWS (w := Cond.static yX4_isAct) 93 rfl rfl
set_option maxRecDepth 20000 in
theorem q_co_X4_isAct : Cond.code yX4_isAct cX4_isAct 1 (some .boolean) ∈ WS := mWS (w := Cond.code yX4_isAct cX4_isAct 1 (some .boolean)) 94 rfl rfl
set_option maxRecDepth 20000 in
theorem q_f_1_36 : Cond.fieldLink RX1 36 "LineOfHeirs$Heritage" "BODIES" "[I" ∈ WS := mWS (w := Cond.fieldLink RX1 36 "LineOfHeirs$Heritage" "BODIES" "[I") 95 rfl rfl
set_option maxRecDepth 20000 in
theorem q_l_1_57 : Cond.methodLink RX1 57 yX1_bodyOfInterfaces ∈ WS := mWS (w := Cond.methodLink RX1 57 yX1_bodyOfInterfaces) 97 rfl rfl
set_option maxRecDepth 20000 in
theorem q_st_X1_bodyOfInterfaces : Cond.static yX1_bodyOfInterfaces ∈ WS := mWS (w := Cond.static yX1_bodyOfInterfaces) 98 rfl rfl
set_option maxRecDepth 20000 in
theorem q_co_X1_bodyOfInterfaces : Cond.code yX1_bodyOfInterfaces cX1_bodyOfInterfaces 5 (some .int) ∈ WS := mWS (w := Cond.code yX1_bodyOfInterfaces cX1_bodyOfInterfaces 5 (some .int)) 99 rfl rfl
set_option maxRecDepth 20000 in
theorem q_l_1_63 : Cond.methodLink RX1 63 yX1_bearsOne ∈ WS := mWS (w := Cond.methodLink RX1 63 yX1_bearsOne) 100 rfl rfl
set_option maxRecDepth 20000 in
theorem q_st_X1_bearsOne : Cond.static yX1_bearsOne ∈ WS := mWS (w := Cond.static yX1_bearsOne) 101 rfl rfl
set_option maxRecDepth 20000 in
theorem q_co_X1_bearsOne : Cond.code yX1_bearsOne cX1_bearsOne 3 (some .boolean) ∈ WS := mWS (w := Cond.code yX1_bearsOne cX1_bearsOne 3 (some .boolean)) 102 rfl rfl
set_option maxRecDepth 20000 in
theorem q_l_1_67 : Cond.methodLink RX1 67 yX1_isOvertaken ∈ WS := mWS (w := Cond.methodLink RX1 67 yX1_isOvertaken) 103 rfl rfl
set_option maxRecDepth 20000 in
theorem q_st_X1_isOvertaken : Cond.static yX1_isOvertaken ∈ WS := mWS (w := Cond.static yX1_isOvertaken) 104 rfl rfl
set_option maxRecDepth 20000 in
theorem q_co_X1_isOvertaken : Cond.code yX1_isOvertaken cX1_isOvertaken 6 (some .boolean) ∈ WS := mWS (w := Cond.code yX1_isOvertaken cX1_isOvertaken 6 (some .boolean)) 105 rfl rfl
set_option maxRecDepth 20000 in
theorem q_f_1_9 : Cond.fieldLink RX1 9 "LineOfHeirs$Heritage" "borne" "[I" ∈ WS := mWS (w := Cond.fieldLink RX1 9 "LineOfHeirs$Heritage" "borne" "[I") 106 rfl rfl
set_option maxRecDepth 20000 in
theorem q_f_1_15 : Cond.fieldLink RX1 15 "LineOfHeirs$Heritage" "selected" "[I" ∈ WS := mWS (w := Cond.fieldLink RX1 15 "LineOfHeirs$Heritage" "selected" "[I") 107 rfl rfl
set_option maxRecDepth 20000 in
theorem q_ac_int : Cond.arrayClass .int ∈ WS := mWS (w := Cond.arrayClass .int) 113 rfl rfl
set_option maxRecDepth 20000 in
theorem q_cl_4_16 : Cond.classLink RX4 16 RX3 ∈ WS := mWS (w := Cond.classLink RX4 16 RX3) 114 rfl rfl
set_option maxRecDepth 20000 in
theorem q_ia_3 : Cond.instantiable RX3 2 ∈ WS := mWS (w := Cond.instantiable RX3 2) 115 rfl rfl
set_option maxRecDepth 20000 in
theorem q_im_X3_init : Cond.instanceMethod yX3_init ∈ WS := mWS (w := Cond.instanceMethod yX3_init) 117 rfl rfl
set_option maxRecDepth 20000 in
theorem q_co_X3_init : Cond.code yX3_init cX3_init 1 none ∈ WS := mWS (w := Cond.code yX3_init cX3_init 1 none) 118 rfl rfl
set_option maxRecDepth 20000 in
theorem q_l_3_3 : Cond.methodLink RX3 3 objectInit ∈ WS := mWS (w := Cond.methodLink RX3 3 objectInit) 119 rfl rfl
set_option maxRecDepth 20000 in
theorem q_f_3_11 : Cond.fieldLink RX3 11 "LineOfHeirs$Trail" "kept" "[I" ∈ WS := mWS (w := Cond.fieldLink RX3 11 "LineOfHeirs$Trail" "kept" "[I") 120 rfl rfl
set_option maxRecDepth 20000 in
theorem q_f_3_15 : Cond.fieldLink RX3 15 "LineOfHeirs$Trail" "begun" "I" ∈ WS := mWS (w := Cond.fieldLink RX3 15 "LineOfHeirs$Trail" "begun" "I") 121 rfl rfl
set_option maxRecDepth 20000 in
theorem q_cl_4_23 : Cond.classLink RX4 23 RX0 ∈ WS := mWS (w := Cond.classLink RX4 23 RX0) 128 rfl rfl
set_option maxRecDepth 20000 in
theorem q_f_4_12 : Cond.fieldLink RX4 12 "LineOfHeirs" "heritage" "LLineOfHeirs$Heritage;" ∈ WS := mWS (w := Cond.fieldLink RX4 12 "LineOfHeirs" "heritage" "LLineOfHeirs$Heritage;") 130 rfl rfl
set_option maxRecDepth 20000 in
theorem q_f_4_19 : Cond.fieldLink RX4 19 "LineOfHeirs" "trail" "LLineOfHeirs$Trail;" ∈ WS := mWS (w := Cond.fieldLink RX4 19 "LineOfHeirs" "trail" "LLineOfHeirs$Trail;") 131 rfl rfl
set_option maxRecDepth 20000 in
theorem q_f_4_25 : Cond.fieldLink RX4 25 "LineOfHeirs" "devices" "[LLineOfHeirs$Device;" ∈ WS := mWS (w := Cond.fieldLink RX4 25 "LineOfHeirs" "devices" "[LLineOfHeirs$Device;") 132 rfl rfl
set_option maxRecDepth 20000 in
theorem q_f_4_29 : Cond.fieldLink RX4 29 "LineOfHeirs" "takers" "[LLineOfHeirs$Device;" ∈ WS := mWS (w := Cond.fieldLink RX4 29 "LineOfHeirs" "takers" "[LLineOfHeirs$Device;") 133 rfl rfl
set_option maxRecDepth 20000 in
theorem q_f_4_36 : Cond.fieldLink RX4 36 "LineOfHeirs" "deviceCount" "I" ∈ WS := mWS (w := Cond.fieldLink RX4 36 "LineOfHeirs" "deviceCount" "I") 134 rfl rfl
set_option maxRecDepth 20000 in
theorem q_f_4_63 : Cond.fieldLink RX4 63 "LineOfHeirs" "linkCount" "I" ∈ WS := mWS (w := Cond.fieldLink RX4 63 "LineOfHeirs" "linkCount" "I") 135 rfl rfl
set_option maxRecDepth 20000 in
theorem q_f_4_81 : Cond.fieldLink RX4 81 "LineOfHeirs" "takerCount" "I" ∈ WS := mWS (w := Cond.fieldLink RX4 81 "LineOfHeirs" "takerCount" "I") 136 rfl rfl
set_option maxRecDepth 20000 in
theorem q_f_4_78 : Cond.fieldLink RX4 78 "LineOfHeirs" "pulse" "I" ∈ WS := mWS (w := Cond.fieldLink RX4 78 "LineOfHeirs" "pulse" "I") 137 rfl rfl
set_option maxRecDepth 20000 in
theorem q_f_4_32 : Cond.fieldLink RX4 32 "LineOfHeirs" "latestStatus" "I" ∈ WS := mWS (w := Cond.fieldLink RX4 32 "LineOfHeirs" "latestStatus" "I") 138 rfl rfl
set_option maxRecDepth 20000 in
theorem q_l_L_13 : Cond.methodLink RL 13 yX4_device ∈ WS := mWS (w := Cond.methodLink RL 13 yX4_device) 158 rfl rfl
set_option maxRecDepth 20000 in
theorem q_im_X4_device : Cond.instanceMethod yX4_device ∈ WS := mWS (w := Cond.instanceMethod yX4_device) 159 rfl rfl
set_option maxRecDepth 20000 in
theorem q_se_X4_device : Cond.selects RX4 yX4_device yX4_device ∈ WS := mWS (w := Cond.selects RX4 yX4_device yX4_device) 160 rfl rfl
set_option maxRecDepth 20000 in
theorem q_co_X4_device : Cond.code yX4_device cX4_device 4 (some .int) ∈ WS := mWS (w := Cond.code yX4_device cX4_device 4 (some .int)) 161 rfl rfl
set_option maxRecDepth 20000 in
theorem q_ia_0 : Cond.instantiable RX0 13 ∈ WS := mWS (w := Cond.instantiable RX0 13) 162 rfl rfl
set_option maxRecDepth 20000 in
theorem q_im_X0_init : Cond.instanceMethod yX0_init ∈ WS := mWS (w := Cond.instanceMethod yX0_init) 164 rfl rfl
set_option maxRecDepth 20000 in
theorem q_co_X0_init : Cond.code yX0_init cX0_init 5 none ∈ WS := mWS (w := Cond.code yX0_init cX0_init 5 none) 165 rfl rfl
set_option maxRecDepth 20000 in
theorem q_l_0_3 : Cond.methodLink RX0 3 objectInit ∈ WS := mWS (w := Cond.methodLink RX0 3 objectInit) 166 rfl rfl
set_option maxRecDepth 20000 in
theorem q_im_X1_takingActOf : Cond.instanceMethod yX1_takingActOf ∈ WS := mWS (w := Cond.instanceMethod yX1_takingActOf) 169 rfl rfl
set_option maxRecDepth 20000 in
theorem q_co_X1_takingActOf : Cond.code yX1_takingActOf cX1_takingActOf 2 (some .int) ∈ WS := mWS (w := Cond.code yX1_takingActOf cX1_takingActOf 2 (some .int)) 170 rfl rfl
set_option maxRecDepth 20000 in
theorem q_l_1_74 : Cond.methodLink RX1 74 yX1_bears ∈ WS := mWS (w := Cond.methodLink RX1 74 yX1_bears) 171 rfl rfl
set_option maxRecDepth 20000 in
theorem q_im_X1_bears : Cond.instanceMethod yX1_bears ∈ WS := mWS (w := Cond.instanceMethod yX1_bears) 173 rfl rfl
set_option maxRecDepth 20000 in
theorem q_co_X1_bears : Cond.code yX1_bears cX1_bears 3 (some .boolean) ∈ WS := mWS (w := Cond.code yX1_bears cX1_bears 3 (some .boolean)) 174 rfl rfl
set_option maxRecDepth 20000 in
theorem q_st_X4_isWay : Cond.static yX4_isWay ∈ WS := mWS (w := Cond.static yX4_isWay) 176 rfl rfl
set_option maxRecDepth 20000 in
theorem q_co_X4_isWay : Cond.code yX4_isWay cX4_isWay 1 (some .boolean) ∈ WS := mWS (w := Cond.code yX4_isWay cX4_isWay 1 (some .boolean)) 177 rfl rfl
set_option maxRecDepth 20000 in
theorem q_f_0_9 : Cond.fieldLink RX0 9 "LineOfHeirs$Device" "heritage" "LLineOfHeirs$Heritage;" ∈ WS := mWS (w := Cond.fieldLink RX0 9 "LineOfHeirs$Device" "heritage" "LLineOfHeirs$Heritage;") 178 rfl rfl
set_option maxRecDepth 20000 in
theorem q_f_0_15 : Cond.fieldLink RX0 15 "LineOfHeirs$Device" "trail" "LLineOfHeirs$Trail;" ∈ WS := mWS (w := Cond.fieldLink RX0 15 "LineOfHeirs$Device" "trail" "LLineOfHeirs$Trail;") 179 rfl rfl
set_option maxRecDepth 20000 in
theorem q_f_0_19 : Cond.fieldLink RX0 19 "LineOfHeirs$Device" "type" "I" ∈ WS := mWS (w := Cond.fieldLink RX0 19 "LineOfHeirs$Device" "type" "I") 180 rfl rfl
set_option maxRecDepth 20000 in
theorem q_f_0_29 : Cond.fieldLink RX0 29 "LineOfHeirs$Device" "takingAct" "I" ∈ WS := mWS (w := Cond.fieldLink RX0 29 "LineOfHeirs$Device" "takingAct" "I") 181 rfl rfl
set_option maxRecDepth 20000 in
theorem q_f_0_32 : Cond.fieldLink RX0 32 "LineOfHeirs$Device" "v" "I" ∈ WS := mWS (w := Cond.fieldLink RX0 32 "LineOfHeirs$Device" "v" "I") 182 rfl rfl
set_option maxRecDepth 20000 in
theorem q_f_0_45 : Cond.fieldLink RX0 45 "LineOfHeirs$Device" "c" "I" ∈ WS := mWS (w := Cond.fieldLink RX0 45 "LineOfHeirs$Device" "c" "I") 183 rfl rfl
set_option maxRecDepth 20000 in
theorem q_f_0_61 : Cond.fieldLink RX0 61 "LineOfHeirs$Device" "firstLink" "LLineOfHeirs$Link;" ∈ WS := mWS (w := Cond.fieldLink RX0 61 "LineOfHeirs$Device" "firstLink" "LLineOfHeirs$Link;") 184 rfl rfl
set_option maxRecDepth 20000 in
theorem q_f_0_57 : Cond.fieldLink RX0 57 "LineOfHeirs$Device" "lastLink" "LLineOfHeirs$Link;" ∈ WS := mWS (w := Cond.fieldLink RX0 57 "LineOfHeirs$Device" "lastLink" "LLineOfHeirs$Link;") 186 rfl rfl
set_option maxRecDepth 20000 in
theorem q_f_0_48 : Cond.fieldLink RX0 48 "LineOfHeirs$Device" "linksFrom" "I" ∈ WS := mWS (w := Cond.fieldLink RX0 48 "LineOfHeirs$Device" "linksFrom" "I") 187 rfl rfl
set_option maxRecDepth 20000 in
theorem q_f_0_51 : Cond.fieldLink RX0 51 "LineOfHeirs$Device" "linksTo" "I" ∈ WS := mWS (w := Cond.fieldLink RX0 51 "LineOfHeirs$Device" "linksTo" "I") 188 rfl rfl
set_option maxRecDepth 20000 in
theorem q_f_0_54 : Cond.fieldLink RX0 54 "LineOfHeirs$Device" "taken" "I" ∈ WS := mWS (w := Cond.fieldLink RX0 54 "LineOfHeirs$Device" "taken" "I") 190 rfl rfl
set_option maxRecDepth 20000 in
theorem q_f_0_69 : Cond.fieldLink RX0 69 "LineOfHeirs$Device" "latestPulse" "I" ∈ WS := mWS (w := Cond.fieldLink RX0 69 "LineOfHeirs$Device" "latestPulse" "I") 191 rfl rfl
set_option maxRecDepth 20000 in
theorem q_f_0_76 : Cond.fieldLink RX0 76 "LineOfHeirs$Device" "tookAnswer" "I" ∈ WS := mWS (w := Cond.fieldLink RX0 76 "LineOfHeirs$Device" "tookAnswer" "I") 193 rfl rfl
set_option maxRecDepth 20000 in
theorem q_l_L_18 : Cond.methodLink RL 18 yX4_call ∈ WS := mWS (w := Cond.methodLink RL 18 yX4_call) 222 rfl rfl
set_option maxRecDepth 20000 in
theorem q_im_X4_call : Cond.instanceMethod yX4_call ∈ WS := mWS (w := Cond.instanceMethod yX4_call) 223 rfl rfl
set_option maxRecDepth 20000 in
theorem q_se_X4_call : Cond.selects RX4 yX4_call yX4_call ∈ WS := mWS (w := Cond.selects RX4 yX4_call yX4_call) 224 rfl rfl
set_option maxRecDepth 20000 in
theorem q_co_X4_call : Cond.code yX4_call cX4_call 6 (some .int) ∈ WS := mWS (w := Cond.code yX4_call cX4_call 6 (some .int)) 225 rfl rfl
set_option maxRecDepth 20000 in
theorem q_l_4_42 : Cond.methodLink RX4 42 yX4_find ∈ WS := mWS (w := Cond.methodLink RX4 42 yX4_find) 226 rfl rfl
set_option maxRecDepth 20000 in
theorem q_im_X4_find : Cond.instanceMethod yX4_find ∈ WS := mWS (w := Cond.instanceMethod yX4_find) 228 rfl rfl
set_option maxRecDepth 20000 in
theorem q_co_X4_find : Cond.code yX4_find cX4_find 2 (some (.object "LineOfHeirs$Device")) ∈ WS := mWS (w := Cond.code yX4_find cX4_find 2 (some (.object "LineOfHeirs$Device"))) 229 rfl rfl
set_option maxRecDepth 20000 in
theorem q_l_4_46 : Cond.methodLink RX4 46 yX4_refusal ∈ WS := mWS (w := Cond.methodLink RX4 46 yX4_refusal) 230 rfl rfl
set_option maxRecDepth 20000 in
theorem q_st_X4_refusal : Cond.static yX4_refusal ∈ WS := mWS (w := Cond.static yX4_refusal) 231 rfl rfl
set_option maxRecDepth 20000 in
theorem q_co_X4_refusal : Cond.code yX4_refusal cX4_refusal 3 (some .int) ∈ WS := mWS (w := Cond.code yX4_refusal cX4_refusal 3 (some .int)) 232 rfl rfl
set_option maxRecDepth 20000 in
theorem q_l_4_111 : Cond.methodLink RX4 111 yX4_isAct ∈ WS := mWS (w := Cond.methodLink RX4 111 yX4_isAct) 233 rfl rfl
set_option maxRecDepth 20000 in
theorem q_l_4_91 : Cond.methodLink RX4 91 yX4_isWay ∈ WS := mWS (w := Cond.methodLink RX4 91 yX4_isWay) 234 rfl rfl
set_option maxRecDepth 20000 in
theorem q_im_X0_bears : Cond.instanceMethod yX0_bears ∈ WS := mWS (w := Cond.instanceMethod yX0_bears) 237 rfl rfl
set_option maxRecDepth 20000 in
theorem q_co_X0_bears : Cond.code yX0_bears cX0_bears 2 (some .boolean) ∈ WS := mWS (w := Cond.code yX0_bears cX0_bears 2 (some .boolean)) 238 rfl rfl
set_option maxRecDepth 20000 in
theorem q_im_X0_hasAct : Cond.instanceMethod yX0_hasAct ∈ WS := mWS (w := Cond.instanceMethod yX0_hasAct) 242 rfl rfl
set_option maxRecDepth 20000 in
theorem q_co_X0_hasAct : Cond.code yX0_hasAct cX0_hasAct 3 (some .boolean) ∈ WS := mWS (w := Cond.code yX0_hasAct cX0_hasAct 3 (some .boolean)) 243 rfl rfl
set_option maxRecDepth 20000 in
theorem q_im_X1_kindHasAct : Cond.instanceMethod yX1_kindHasAct ∈ WS := mWS (w := Cond.instanceMethod yX1_kindHasAct) 246 rfl rfl
set_option maxRecDepth 20000 in
theorem q_co_X1_kindHasAct : Cond.code yX1_kindHasAct cX1_kindHasAct 4 (some .boolean) ∈ WS := mWS (w := Cond.code yX1_kindHasAct cX1_kindHasAct 4 (some .boolean)) 247 rfl rfl
set_option maxRecDepth 20000 in
theorem q_l_1_80 : Cond.methodLink RX1 80 yX1_hasAct ∈ WS := mWS (w := Cond.methodLink RX1 80 yX1_hasAct) 248 rfl rfl
set_option maxRecDepth 20000 in
theorem q_im_X1_hasAct : Cond.instanceMethod yX1_hasAct ∈ WS := mWS (w := Cond.instanceMethod yX1_hasAct) 250 rfl rfl
set_option maxRecDepth 20000 in
theorem q_co_X1_hasAct : Cond.code yX1_hasAct cX1_hasAct 3 (some .boolean) ∈ WS := mWS (w := Cond.code yX1_hasAct cX1_hasAct 3 (some .boolean)) 251 rfl rfl
set_option maxRecDepth 20000 in
theorem q_f_1_77 : Cond.fieldLink RX1 77 "LineOfHeirs$Heritage" "WAY_ACTS" "[I" ∈ WS := mWS (w := Cond.fieldLink RX1 77 "LineOfHeirs$Heritage" "WAY_ACTS" "[I") 252 rfl rfl
set_option maxRecDepth 20000 in
theorem q_im_X3_clear : Cond.instanceMethod yX3_clear ∈ WS := mWS (w := Cond.instanceMethod yX3_clear) 257 rfl rfl
set_option maxRecDepth 20000 in
theorem q_co_X3_clear : Cond.code yX3_clear cX3_clear 1 none ∈ WS := mWS (w := Cond.code yX3_clear cX3_clear 1 none) 258 rfl rfl
set_option maxRecDepth 20000 in
theorem q_im_X0_answer : Cond.instanceMethod yX0_answer ∈ WS := mWS (w := Cond.instanceMethod yX0_answer) 261 rfl rfl
set_option maxRecDepth 20000 in
theorem q_co_X0_answer : Cond.code yX0_answer cX0_answer 3 (some .int) ∈ WS := mWS (w := Cond.code yX0_answer cX0_answer 3 (some .int)) 262 rfl rfl
set_option maxRecDepth 20000 in
theorem q_l_0_72 : Cond.methodLink RX0 72 yX0_act ∈ WS := mWS (w := Cond.methodLink RX0 72 yX0_act) 263 rfl rfl
set_option maxRecDepth 20000 in
theorem q_im_X0_act : Cond.instanceMethod yX0_act ∈ WS := mWS (w := Cond.instanceMethod yX0_act) 265 rfl rfl
set_option maxRecDepth 20000 in
theorem q_co_X0_act : Cond.code yX0_act cX0_act 4 (some .int) ∈ WS := mWS (w := Cond.code yX0_act cX0_act 4 (some .int)) 266 rfl rfl
set_option maxRecDepth 20000 in
theorem q_im_X1_selectedOf : Cond.instanceMethod yX1_selectedOf ∈ WS := mWS (w := Cond.instanceMethod yX1_selectedOf) 269 rfl rfl
set_option maxRecDepth 20000 in
theorem q_co_X1_selectedOf : Cond.code yX1_selectedOf cX1_selectedOf 3 (some .int) ∈ WS := mWS (w := Cond.code yX1_selectedOf cX1_selectedOf 3 (some .int)) 270 rfl rfl
set_option maxRecDepth 20000 in
theorem q_l_0_83 : Cond.methodLink RX0 83 yX0_run ∈ WS := mWS (w := Cond.methodLink RX0 83 yX0_run) 271 rfl rfl
set_option maxRecDepth 20000 in
theorem q_im_X0_run : Cond.instanceMethod yX0_run ∈ WS := mWS (w := Cond.instanceMethod yX0_run) 273 rfl rfl
set_option maxRecDepth 20000 in
theorem q_co_X0_run : Cond.code yX0_run cX0_run 4 (some .int) ∈ WS := mWS (w := Cond.code yX0_run cX0_run 4 (some .int)) 274 rfl rfl
set_option maxRecDepth 20000 in
theorem q_im_X3_begin : Cond.instanceMethod yX3_begin ∈ WS := mWS (w := Cond.instanceMethod yX3_begin) 277 rfl rfl
set_option maxRecDepth 20000 in
theorem q_co_X3_begin : Cond.code yX3_begin cX3_begin 2 none ∈ WS := mWS (w := Cond.code yX3_begin cX3_begin 2 none) 278 rfl rfl
set_option maxRecDepth 20000 in
theorem q_l_0_95 : Cond.methodLink RX0 95 yX0_runOfInterface ∈ WS := mWS (w := Cond.methodLink RX0 95 yX0_runOfInterface) 279 rfl rfl
set_option maxRecDepth 20000 in
theorem q_im_X0_runOfInterface : Cond.instanceMethod yX0_runOfInterface ∈ WS := mWS (w := Cond.instanceMethod yX0_runOfInterface) 281 rfl rfl
set_option maxRecDepth 20000 in
theorem q_co_X0_runOfInterface : Cond.code yX0_runOfInterface cX0_runOfInterface 4 (some .int) ∈ WS := mWS (w := Cond.code yX0_runOfInterface cX0_runOfInterface 4 (some .int)) 282 rfl rfl
set_option maxRecDepth 20000 in
theorem q_l_0_107 : Cond.methodLink RX0 107 yX0_interfaceAct ∈ WS := mWS (w := Cond.methodLink RX0 107 yX0_interfaceAct) 283 rfl rfl
set_option maxRecDepth 20000 in
theorem q_im_X0_interfaceAct : Cond.instanceMethod yX0_interfaceAct ∈ WS := mWS (w := Cond.instanceMethod yX0_interfaceAct) 285 rfl rfl
set_option maxRecDepth 20000 in
theorem q_co_X0_interfaceAct : Cond.code yX0_interfaceAct cX0_interfaceAct 5 (some .int) ∈ WS := mWS (w := Cond.code yX0_interfaceAct cX0_interfaceAct 5 (some .int)) 286 rfl rfl
set_option maxRecDepth 20000 in
theorem q_l_0_98 : Cond.methodLink RX0 98 yX0_runOfAncestor ∈ WS := mWS (w := Cond.methodLink RX0 98 yX0_runOfAncestor) 287 rfl rfl
set_option maxRecDepth 20000 in
theorem q_im_X0_runOfAncestor : Cond.instanceMethod yX0_runOfAncestor ∈ WS := mWS (w := Cond.instanceMethod yX0_runOfAncestor) 289 rfl rfl
set_option maxRecDepth 20000 in
theorem q_co_X0_runOfAncestor : Cond.code yX0_runOfAncestor cX0_runOfAncestor 4 (some .int) ∈ WS := mWS (w := Cond.code yX0_runOfAncestor cX0_runOfAncestor 4 (some .int)) 290 rfl rfl
set_option maxRecDepth 20000 in
theorem q_l_0_101 : Cond.methodLink RX0 101 yX0_runOfEarlierKind ∈ WS := mWS (w := Cond.methodLink RX0 101 yX0_runOfEarlierKind) 291 rfl rfl
set_option maxRecDepth 20000 in
theorem q_im_X0_runOfEarlierKind : Cond.instanceMethod yX0_runOfEarlierKind ∈ WS := mWS (w := Cond.instanceMethod yX0_runOfEarlierKind) 293 rfl rfl
set_option maxRecDepth 20000 in
theorem q_co_X0_runOfEarlierKind : Cond.code yX0_runOfEarlierKind cX0_runOfEarlierKind 4 (some .int) ∈ WS := mWS (w := Cond.code yX0_runOfEarlierKind cX0_runOfEarlierKind 4 (some .int)) 294 rfl rfl
set_option maxRecDepth 20000 in
theorem q_l_0_111 : Cond.methodLink RX0 111 yX0_parentAct ∈ WS := mWS (w := Cond.methodLink RX0 111 yX0_parentAct) 295 rfl rfl
set_option maxRecDepth 20000 in
theorem q_im_X0_parentAct : Cond.instanceMethod yX0_parentAct ∈ WS := mWS (w := Cond.instanceMethod yX0_parentAct) 297 rfl rfl
set_option maxRecDepth 20000 in
theorem q_co_X0_parentAct : Cond.code yX0_parentAct cX0_parentAct 5 (some .int) ∈ WS := mWS (w := Cond.code yX0_parentAct cX0_parentAct 5 (some .int)) 298 rfl rfl
set_option maxRecDepth 20000 in
theorem q_l_0_104 : Cond.methodLink RX0 104 yX0_runOfLaterKind ∈ WS := mWS (w := Cond.methodLink RX0 104 yX0_runOfLaterKind) 300 rfl rfl
set_option maxRecDepth 20000 in
theorem q_im_X0_runOfLaterKind : Cond.instanceMethod yX0_runOfLaterKind ∈ WS := mWS (w := Cond.instanceMethod yX0_runOfLaterKind) 302 rfl rfl
set_option maxRecDepth 20000 in
theorem q_co_X0_runOfLaterKind : Cond.code yX0_runOfLaterKind cX0_runOfLaterKind 4 (some .int) ∈ WS := mWS (w := Cond.code yX0_runOfLaterKind cX0_runOfLaterKind 4 (some .int)) 303 rfl rfl
set_option maxRecDepth 20000 in
theorem q_l_L_23 : Cond.methodLink RL 23 yX4_every ∈ WS := mWS (w := Cond.methodLink RL 23 yX4_every) 304 rfl rfl
set_option maxRecDepth 20000 in
theorem q_im_X4_every : Cond.instanceMethod yX4_every ∈ WS := mWS (w := Cond.instanceMethod yX4_every) 305 rfl rfl
set_option maxRecDepth 20000 in
theorem q_se_X4_every : Cond.selects RX4 yX4_every yX4_every ∈ WS := mWS (w := Cond.selects RX4 yX4_every yX4_every) 306 rfl rfl
set_option maxRecDepth 20000 in
theorem q_co_X4_every : Cond.code yX4_every cX4_every 7 (some .int) ∈ WS := mWS (w := Cond.code yX4_every cX4_every 7 (some .int)) 307 rfl rfl
set_option maxRecDepth 20000 in
theorem q_l_4_57 : Cond.methodLink RX4 57 yX4_refusalOfAll ∈ WS := mWS (w := Cond.methodLink RX4 57 yX4_refusalOfAll) 308 rfl rfl
set_option maxRecDepth 20000 in
theorem q_im_X4_refusalOfAll : Cond.instanceMethod yX4_refusalOfAll ∈ WS := mWS (w := Cond.instanceMethod yX4_refusalOfAll) 310 rfl rfl
set_option maxRecDepth 20000 in
theorem q_co_X4_refusalOfAll : Cond.code yX4_refusalOfAll cX4_refusalOfAll 3 (some .int) ∈ WS := mWS (w := Cond.code yX4_refusalOfAll cX4_refusalOfAll 3 (some .int)) 311 rfl rfl
set_option maxRecDepth 20000 in
theorem q_l_L_28 : Cond.methodLink RL 28 yX4_feed ∈ WS := mWS (w := Cond.methodLink RL 28 yX4_feed) 313 rfl rfl
set_option maxRecDepth 20000 in
theorem q_im_X4_feed : Cond.instanceMethod yX4_feed ∈ WS := mWS (w := Cond.instanceMethod yX4_feed) 314 rfl rfl
set_option maxRecDepth 20000 in
theorem q_se_X4_feed : Cond.selects RX4 yX4_feed yX4_feed ∈ WS := mWS (w := Cond.selects RX4 yX4_feed yX4_feed) 315 rfl rfl
set_option maxRecDepth 20000 in
theorem q_co_X4_feed : Cond.code yX4_feed cX4_feed 6 (some .int) ∈ WS := mWS (w := Cond.code yX4_feed cX4_feed 6 (some .int)) 316 rfl rfl
set_option maxRecDepth 20000 in
theorem q_l_4_60 : Cond.methodLink RX4 60 yX4_answerToByte ∈ WS := mWS (w := Cond.methodLink RX4 60 yX4_answerToByte) 317 rfl rfl
set_option maxRecDepth 20000 in
theorem q_st_X4_answerToByte : Cond.static yX4_answerToByte ∈ WS := mWS (w := Cond.static yX4_answerToByte) 318 rfl rfl
set_option maxRecDepth 20000 in
theorem q_co_X4_answerToByte : Cond.code yX4_answerToByte cX4_answerToByte 5 (some .int) ∈ WS := mWS (w := Cond.code yX4_answerToByte cX4_answerToByte 5 (some .int)) 319 rfl rfl
set_option maxRecDepth 20000 in
theorem q_l_L_32 : Cond.methodLink RL 32 yX4_link ∈ WS := mWS (w := Cond.methodLink RL 32 yX4_link) 320 rfl rfl
set_option maxRecDepth 20000 in
theorem q_im_X4_link : Cond.instanceMethod yX4_link ∈ WS := mWS (w := Cond.instanceMethod yX4_link) 321 rfl rfl
set_option maxRecDepth 20000 in
theorem q_se_X4_link : Cond.selects RX4 yX4_link yX4_link ∈ WS := mWS (w := Cond.selects RX4 yX4_link yX4_link) 322 rfl rfl
set_option maxRecDepth 20000 in
theorem q_co_X4_link : Cond.code yX4_link cX4_link 6 (some .int) ∈ WS := mWS (w := Cond.code yX4_link cX4_link 6 (some .int)) 323 rfl rfl
set_option maxRecDepth 20000 in
theorem q_cl_4_66 : Cond.classLink RX4 66 RX2 ∈ WS := mWS (w := Cond.classLink RX4 66 RX2) 324 rfl rfl
set_option maxRecDepth 20000 in
theorem q_ia_2 : Cond.instantiable RX2 2 ∈ WS := mWS (w := Cond.instantiable RX2 2) 325 rfl rfl
set_option maxRecDepth 20000 in
theorem q_im_X2_init : Cond.instanceMethod yX2_init ∈ WS := mWS (w := Cond.instanceMethod yX2_init) 327 rfl rfl
set_option maxRecDepth 20000 in
theorem q_co_X2_init : Cond.code yX2_init cX2_init 2 none ∈ WS := mWS (w := Cond.code yX2_init cX2_init 2 none) 328 rfl rfl
set_option maxRecDepth 20000 in
theorem q_l_2_1 : Cond.methodLink RX2 1 objectInit ∈ WS := mWS (w := Cond.methodLink RX2 1 objectInit) 329 rfl rfl
set_option maxRecDepth 20000 in
theorem q_f_2_7 : Cond.fieldLink RX2 7 "LineOfHeirs$Link" "to" "LLineOfHeirs$Device;" ∈ WS := mWS (w := Cond.fieldLink RX2 7 "LineOfHeirs$Link" "to" "LLineOfHeirs$Device;") 330 rfl rfl
set_option maxRecDepth 20000 in
theorem q_im_X0_addLink : Cond.instanceMethod yX0_addLink ∈ WS := mWS (w := Cond.instanceMethod yX0_addLink) 341 rfl rfl
set_option maxRecDepth 20000 in
theorem q_co_X0_addLink : Cond.code yX0_addLink cX0_addLink 2 none ∈ WS := mWS (w := Cond.code yX0_addLink cX0_addLink 2 none) 342 rfl rfl
set_option maxRecDepth 20000 in
theorem q_l_L_36 : Cond.methodLink RL 36 yX4_pass ∈ WS := mWS (w := Cond.methodLink RL 36 yX4_pass) 343 rfl rfl
set_option maxRecDepth 20000 in
theorem q_im_X4_pass : Cond.instanceMethod yX4_pass ∈ WS := mWS (w := Cond.instanceMethod yX4_pass) 344 rfl rfl
set_option maxRecDepth 20000 in
theorem q_se_X4_pass : Cond.selects RX4 yX4_pass yX4_pass ∈ WS := mWS (w := Cond.selects RX4 yX4_pass yX4_pass) 345 rfl rfl
set_option maxRecDepth 20000 in
theorem q_co_X4_pass : Cond.code yX4_pass cX4_pass 6 (some .int) ∈ WS := mWS (w := Cond.code yX4_pass cX4_pass 6 (some .int)) 346 rfl rfl
set_option maxRecDepth 20000 in
theorem q_l_4_84 : Cond.methodLink RX4 84 yX4_letTake ∈ WS := mWS (w := Cond.methodLink RX4 84 yX4_letTake) 347 rfl rfl
set_option maxRecDepth 20000 in
theorem q_im_X4_letTake : Cond.instanceMethod yX4_letTake ∈ WS := mWS (w := Cond.instanceMethod yX4_letTake) 349 rfl rfl
set_option maxRecDepth 20000 in
theorem q_co_X4_letTake : Cond.code yX4_letTake cX4_letTake 3 none ∈ WS := mWS (w := Cond.code yX4_letTake cX4_letTake 3 none) 350 rfl rfl
set_option maxRecDepth 20000 in
theorem q_im_X0_take : Cond.instanceMethod yX0_take ∈ WS := mWS (w := Cond.instanceMethod yX0_take) 353 rfl rfl
set_option maxRecDepth 20000 in
theorem q_co_X0_take : Cond.code yX0_take cX0_take 3 none ∈ WS := mWS (w := Cond.code yX0_take cX0_take 3 none) 354 rfl rfl
set_option maxRecDepth 20000 in
theorem q_l_4_88 : Cond.methodLink RX4 88 yX4_passOn ∈ WS := mWS (w := Cond.methodLink RX4 88 yX4_passOn) 355 rfl rfl
set_option maxRecDepth 20000 in
theorem q_im_X4_passOn : Cond.instanceMethod yX4_passOn ∈ WS := mWS (w := Cond.instanceMethod yX4_passOn) 357 rfl rfl
set_option maxRecDepth 20000 in
theorem q_co_X4_passOn : Cond.code yX4_passOn cX4_passOn 3 none ∈ WS := mWS (w := Cond.code yX4_passOn cX4_passOn 3 none) 358 rfl rfl
set_option maxRecDepth 20000 in
theorem q_l_L_40 : Cond.methodLink RL 40 yX4_able ∈ WS := mWS (w := Cond.methodLink RL 40 yX4_able) 359 rfl rfl
set_option maxRecDepth 20000 in
theorem q_im_X4_able : Cond.instanceMethod yX4_able ∈ WS := mWS (w := Cond.instanceMethod yX4_able) 360 rfl rfl
set_option maxRecDepth 20000 in
theorem q_se_X4_able : Cond.selects RX4 yX4_able yX4_able ∈ WS := mWS (w := Cond.selects RX4 yX4_able yX4_able) 361 rfl rfl
set_option maxRecDepth 20000 in
theorem q_co_X4_able : Cond.code yX4_able cX4_able 4 (some .int) ∈ WS := mWS (w := Cond.code yX4_able cX4_able 4 (some .int)) 362 rfl rfl
set_option maxRecDepth 20000 in
theorem q_l_L_44 : Cond.methodLink RL 44 yX4_chain ∈ WS := mWS (w := Cond.methodLink RL 44 yX4_chain) 363 rfl rfl
set_option maxRecDepth 20000 in
theorem q_im_X4_chain : Cond.instanceMethod yX4_chain ∈ WS := mWS (w := Cond.instanceMethod yX4_chain) 364 rfl rfl
set_option maxRecDepth 20000 in
theorem q_se_X4_chain : Cond.selects RX4 yX4_chain yX4_chain ∈ WS := mWS (w := Cond.selects RX4 yX4_chain yX4_chain) 365 rfl rfl
set_option maxRecDepth 20000 in
theorem q_co_X4_chain : Cond.code yX4_chain cX4_chain 2 (some .int) ∈ WS := mWS (w := Cond.code yX4_chain cX4_chain 2 (some .int)) 366 rfl rfl
set_option maxRecDepth 20000 in
theorem q_im_X3_keptAt : Cond.instanceMethod yX3_keptAt ∈ WS := mWS (w := Cond.instanceMethod yX3_keptAt) 369 rfl rfl
set_option maxRecDepth 20000 in
theorem q_co_X3_keptAt : Cond.code yX3_keptAt cX3_keptAt 2 (some .int) ∈ WS := mWS (w := Cond.code yX3_keptAt cX3_keptAt 2 (some .int)) 370 rfl rfl
set_option maxRecDepth 20000 in
theorem q_l_L_49 : Cond.methodLink RL 49 yX4_ran ∈ WS := mWS (w := Cond.methodLink RL 49 yX4_ran) 371 rfl rfl
set_option maxRecDepth 20000 in
theorem q_im_X4_ran : Cond.instanceMethod yX4_ran ∈ WS := mWS (w := Cond.instanceMethod yX4_ran) 372 rfl rfl
set_option maxRecDepth 20000 in
theorem q_se_X4_ran : Cond.selects RX4 yX4_ran yX4_ran ∈ WS := mWS (w := Cond.selects RX4 yX4_ran yX4_ran) 373 rfl rfl
set_option maxRecDepth 20000 in
theorem q_co_X4_ran : Cond.code yX4_ran cX4_ran 1 (some .int) ∈ WS := mWS (w := Cond.code yX4_ran cX4_ran 1 (some .int)) 374 rfl rfl
set_option maxRecDepth 20000 in
theorem q_l_L_54 : Cond.methodLink RL 54 yX4_state ∈ WS := mWS (w := Cond.methodLink RL 54 yX4_state) 375 rfl rfl
set_option maxRecDepth 20000 in
theorem q_im_X4_state : Cond.instanceMethod yX4_state ∈ WS := mWS (w := Cond.instanceMethod yX4_state) 376 rfl rfl
set_option maxRecDepth 20000 in
theorem q_se_X4_state : Cond.selects RX4 yX4_state yX4_state ∈ WS := mWS (w := Cond.selects RX4 yX4_state yX4_state) 377 rfl rfl
set_option maxRecDepth 20000 in
theorem q_co_X4_state : Cond.code yX4_state cX4_state 4 (some .int) ∈ WS := mWS (w := Cond.code yX4_state cX4_state 4 (some .int)) 378 rfl rfl
set_option maxRecDepth 20000 in
theorem q_im_X0_fact : Cond.instanceMethod yX0_fact ∈ WS := mWS (w := Cond.instanceMethod yX0_fact) 381 rfl rfl
set_option maxRecDepth 20000 in
theorem q_co_X0_fact : Cond.code yX0_fact cX0_fact 2 (some .int) ∈ WS := mWS (w := Cond.code yX0_fact cX0_fact 2 (some .int)) 382 rfl rfl
set_option maxRecDepth 20000 in
theorem q_l_L_58 : Cond.methodLink RL 58 yX4_size ∈ WS := mWS (w := Cond.methodLink RL 58 yX4_size) 383 rfl rfl
set_option maxRecDepth 20000 in
theorem q_im_X4_size : Cond.instanceMethod yX4_size ∈ WS := mWS (w := Cond.instanceMethod yX4_size) 384 rfl rfl
set_option maxRecDepth 20000 in
theorem q_se_X4_size : Cond.selects RX4 yX4_size yX4_size ∈ WS := mWS (w := Cond.selects RX4 yX4_size yX4_size) 385 rfl rfl
set_option maxRecDepth 20000 in
theorem q_co_X4_size : Cond.code yX4_size cX4_size 2 (some .int) ∈ WS := mWS (w := Cond.code yX4_size cX4_size 2 (some .int)) 386 rfl rfl
set_option maxRecDepth 20000 in
theorem q_l_4_108 : Cond.methodLink RX4 108 yX4_countBearers ∈ WS := mWS (w := Cond.methodLink RX4 108 yX4_countBearers) 387 rfl rfl
set_option maxRecDepth 20000 in
theorem q_im_X4_countBearers : Cond.instanceMethod yX4_countBearers ∈ WS := mWS (w := Cond.instanceMethod yX4_countBearers) 389 rfl rfl
set_option maxRecDepth 20000 in
theorem q_co_X4_countBearers : Cond.code yX4_countBearers cX4_countBearers 5 (some .int) ∈ WS := mWS (w := Cond.code yX4_countBearers cX4_countBearers 5 (some .int)) 390 rfl rfl
set_option maxRecDepth 20000 in
theorem q_l_L_62 : Cond.methodLink RL 62 yX4_status ∈ WS := mWS (w := Cond.methodLink RL 62 yX4_status) 391 rfl rfl
set_option maxRecDepth 20000 in
theorem q_im_X4_status : Cond.instanceMethod yX4_status ∈ WS := mWS (w := Cond.instanceMethod yX4_status) 392 rfl rfl
set_option maxRecDepth 20000 in
theorem q_se_X4_status : Cond.selects RX4 yX4_status yX4_status ∈ WS := mWS (w := Cond.selects RX4 yX4_status yX4_status) 393 rfl rfl
set_option maxRecDepth 20000 in
theorem q_co_X4_status : Cond.code yX4_status cX4_status 1 (some .int) ∈ WS := mWS (w := Cond.code yX4_status cX4_status 1 (some .int)) 394 rfl rfl
set_option maxRecDepth 20000 in
theorem q_cl_L_10 : Cond.classLink RL 10 RX5 ∈ WS := mWS (w := Cond.classLink RL 10 RX5) 395 rfl rfl
set_option maxRecDepth 20000 in
theorem q_ia_5 : Cond.instantiable RX5 28 ∈ WS := mWS (w := Cond.instantiable RX5 28) 396 rfl rfl
set_option maxRecDepth 20000 in
theorem q_l_L_12 : Cond.methodLink RL 12 yX5_init ∈ WS := mWS (w := Cond.methodLink RL 12 yX5_init) 397 rfl rfl
set_option maxRecDepth 20000 in
theorem q_im_X5_init : Cond.instanceMethod yX5_init ∈ WS := mWS (w := Cond.instanceMethod yX5_init) 398 rfl rfl
set_option maxRecDepth 20000 in
theorem q_co_X5_init : Cond.code yX5_init cX5_init 3 none ∈ WS := mWS (w := Cond.code yX5_init cX5_init 3 none) 399 rfl rfl
set_option maxRecDepth 20000 in
theorem q_l_5_1 : Cond.methodLink RX5 1 objectInit ∈ WS := mWS (w := Cond.methodLink RX5 1 objectInit) 400 rfl rfl
set_option maxRecDepth 20000 in
theorem q_l_5_77 : Cond.methodLink RX5 77 yX5_have ∈ WS := mWS (w := Cond.methodLink RX5 77 yX5_have) 401 rfl rfl
set_option maxRecDepth 20000 in
theorem q_im_X5_have : Cond.instanceMethod yX5_have ∈ WS := mWS (w := Cond.instanceMethod yX5_have) 403 rfl rfl
set_option maxRecDepth 20000 in
theorem q_co_X5_have : Cond.code yX5_have cX5_have 4 none ∈ WS := mWS (w := Cond.code yX5_have cX5_have 4 none) 404 rfl rfl
set_option maxRecDepth 20000 in
theorem q_l_5_81 : Cond.methodLink RX5 81 yX5_heir ∈ WS := mWS (w := Cond.methodLink RX5 81 yX5_heir) 405 rfl rfl
set_option maxRecDepth 20000 in
theorem q_im_X5_heir : Cond.instanceMethod yX5_heir ∈ WS := mWS (w := Cond.instanceMethod yX5_heir) 407 rfl rfl
set_option maxRecDepth 20000 in
theorem q_co_X5_heir : Cond.code yX5_heir cX5_heir 4 none ∈ WS := mWS (w := Cond.code yX5_heir cX5_heir 4 none) 408 rfl rfl
set_option maxRecDepth 20000 in
theorem q_l_5_88 : Cond.methodLink RX5 88 yX5_closed ∈ WS := mWS (w := Cond.methodLink RX5 88 yX5_closed) 409 rfl rfl
set_option maxRecDepth 20000 in
theorem q_st_X5_closed : Cond.static yX5_closed ∈ WS := mWS (w := Cond.static yX5_closed) 410 rfl rfl
set_option maxRecDepth 20000 in
theorem q_co_X5_closed : Cond.code yX5_closed cX5_closed 2 (some .int) ∈ WS := mWS (w := Cond.code yX5_closed cX5_closed 2 (some .int)) 411 rfl rfl
set_option maxRecDepth 20000 in
theorem q_l_5_84 : Cond.methodLink RX5 84 yX5_bit ∈ WS := mWS (w := Cond.methodLink RX5 84 yX5_bit) 412 rfl rfl
set_option maxRecDepth 20000 in
theorem q_st_X5_bit : Cond.static yX5_bit ∈ WS := mWS (w := Cond.static yX5_bit) 413 rfl rfl
set_option maxRecDepth 20000 in
theorem q_co_X5_bit : Cond.code yX5_bit cX5_bit 1 (some .int) ∈ WS := mWS (w := Cond.code yX5_bit cX5_bit 1 (some .int)) 414 rfl rfl
set_option maxRecDepth 20000 in
theorem q_l_5_91 : Cond.methodLink RX5 91 yX5_lowest ∈ WS := mWS (w := Cond.methodLink RX5 91 yX5_lowest) 415 rfl rfl
set_option maxRecDepth 20000 in
theorem q_im_X5_lowest : Cond.instanceMethod yX5_lowest ∈ WS := mWS (w := Cond.instanceMethod yX5_lowest) 417 rfl rfl
set_option maxRecDepth 20000 in
theorem q_co_X5_lowest : Cond.code yX5_lowest cX5_lowest 6 (some .int) ∈ WS := mWS (w := Cond.code yX5_lowest cX5_lowest 6 (some .int)) 418 rfl rfl
set_option maxRecDepth 20000 in
theorem q_l_5_95 : Cond.methodLink RX5 95 yX5_select ∈ WS := mWS (w := Cond.methodLink RX5 95 yX5_select) 419 rfl rfl
set_option maxRecDepth 20000 in
theorem q_im_X5_select : Cond.instanceMethod yX5_select ∈ WS := mWS (w := Cond.instanceMethod yX5_select) 421 rfl rfl
set_option maxRecDepth 20000 in
theorem q_co_X5_select : Cond.code yX5_select cX5_select 4 (some .int) ∈ WS := mWS (w := Cond.code yX5_select cX5_select 4 (some .int)) 422 rfl rfl
set_option maxRecDepth 20000 in
theorem q_f_5_9 : Cond.fieldLink RX5 9 "LineOfHeirsModel" "code" "[I" ∈ WS := mWS (w := Cond.fieldLink RX5 9 "LineOfHeirsModel" "code" "[I") 423 rfl rfl
set_option maxRecDepth 20000 in
theorem q_f_5_13 : Cond.fieldLink RX5 13 "LineOfHeirsModel" "start" "[I" ∈ WS := mWS (w := Cond.fieldLink RX5 13 "LineOfHeirsModel" "start" "[I") 424 rfl rfl
set_option maxRecDepth 20000 in
theorem q_f_5_16 : Cond.fieldLink RX5 16 "LineOfHeirsModel" "parent" "[I" ∈ WS := mWS (w := Cond.fieldLink RX5 16 "LineOfHeirsModel" "parent" "[I") 425 rfl rfl
set_option maxRecDepth 20000 in
theorem q_f_5_19 : Cond.fieldLink RX5 19 "LineOfHeirsModel" "bears" "[I" ∈ WS := mWS (w := Cond.fieldLink RX5 19 "LineOfHeirsModel" "bears" "[I") 426 rfl rfl
set_option maxRecDepth 20000 in
theorem q_f_5_22 : Cond.fieldLink RX5 22 "LineOfHeirsModel" "has" "[I" ∈ WS := mWS (w := Cond.fieldLink RX5 22 "LineOfHeirsModel" "has" "[I") 427 rfl rfl
set_option maxRecDepth 20000 in
theorem q_f_5_25 : Cond.fieldLink RX5 25 "LineOfHeirsModel" "chosen" "[I" ∈ WS := mWS (w := Cond.fieldLink RX5 25 "LineOfHeirsModel" "chosen" "[I") 428 rfl rfl
set_option maxRecDepth 20000 in
theorem q_f_5_28 : Cond.fieldLink RX5 28 "LineOfHeirsModel" "actsOf" "[I" ∈ WS := mWS (w := Cond.fieldLink RX5 28 "LineOfHeirsModel" "actsOf" "[I") 429 rfl rfl
set_option maxRecDepth 20000 in
theorem q_f_5_31 : Cond.fieldLink RX5 31 "LineOfHeirsModel" "actsOfKind" "[I" ∈ WS := mWS (w := Cond.fieldLink RX5 31 "LineOfHeirsModel" "actsOfKind" "[I") 430 rfl rfl
set_option maxRecDepth 20000 in
theorem q_f_5_34 : Cond.fieldLink RX5 34 "LineOfHeirsModel" "kindOf" "[I" ∈ WS := mWS (w := Cond.fieldLink RX5 34 "LineOfHeirsModel" "kindOf" "[I") 431 rfl rfl
set_option maxRecDepth 20000 in
theorem q_f_5_37 : Cond.fieldLink RX5 37 "LineOfHeirsModel" "valueOf" "[I" ∈ WS := mWS (w := Cond.fieldLink RX5 37 "LineOfHeirsModel" "valueOf" "[I") 432 rfl rfl
set_option maxRecDepth 20000 in
theorem q_f_5_40 : Cond.fieldLink RX5 40 "LineOfHeirsModel" "countOf" "[I" ∈ WS := mWS (w := Cond.fieldLink RX5 40 "LineOfHeirsModel" "countOf" "[I") 433 rfl rfl
set_option maxRecDepth 20000 in
theorem q_f_5_43 : Cond.fieldLink RX5 43 "LineOfHeirsModel" "takenOf" "[I" ∈ WS := mWS (w := Cond.fieldLink RX5 43 "LineOfHeirsModel" "takenOf" "[I") 434 rfl rfl
set_option maxRecDepth 20000 in
theorem q_f_5_123 : Cond.fieldLink RX5 123 "LineOfHeirsModel" "devices" "I" ∈ WS := mWS (w := Cond.fieldLink RX5 123 "LineOfHeirsModel" "devices" "I") 435 rfl rfl
set_option maxRecDepth 20000 in
theorem q_f_5_46 : Cond.fieldLink RX5 46 "LineOfHeirsModel" "from" "[I" ∈ WS := mWS (w := Cond.fieldLink RX5 46 "LineOfHeirsModel" "from" "[I") 436 rfl rfl
set_option maxRecDepth 20000 in
theorem q_f_5_49 : Cond.fieldLink RX5 49 "LineOfHeirsModel" "to" "[I" ∈ WS := mWS (w := Cond.fieldLink RX5 49 "LineOfHeirsModel" "to" "[I") 437 rfl rfl
set_option maxRecDepth 20000 in
theorem q_f_5_160 : Cond.fieldLink RX5 160 "LineOfHeirsModel" "links" "I" ∈ WS := mWS (w := Cond.fieldLink RX5 160 "LineOfHeirsModel" "links" "I") 438 rfl rfl
set_option maxRecDepth 20000 in
theorem q_f_5_52 : Cond.fieldLink RX5 52 "LineOfHeirsModel" "row" "[I" ∈ WS := mWS (w := Cond.fieldLink RX5 52 "LineOfHeirsModel" "row" "[I") 439 rfl rfl
set_option maxRecDepth 20000 in
theorem q_f_5_55 : Cond.fieldLink RX5 55 "LineOfHeirsModel" "answer" "[I" ∈ WS := mWS (w := Cond.fieldLink RX5 55 "LineOfHeirsModel" "answer" "[I") 440 rfl rfl
set_option maxRecDepth 20000 in
theorem q_f_5_58 : Cond.fieldLink RX5 58 "LineOfHeirsModel" "isIn" "[Z" ∈ WS := mWS (w := Cond.fieldLink RX5 58 "LineOfHeirsModel" "isIn" "[Z") 441 rfl rfl
set_option maxRecDepth 20000 in
theorem q_f_5_62 : Cond.fieldLink RX5 62 "LineOfHeirsModel" "kept" "[I" ∈ WS := mWS (w := Cond.fieldLink RX5 62 "LineOfHeirsModel" "kept" "[I") 442 rfl rfl
set_option maxRecDepth 20000 in
theorem q_f_5_102 : Cond.fieldLink RX5 102 "LineOfHeirsModel" "began" "I" ∈ WS := mWS (w := Cond.fieldLink RX5 102 "LineOfHeirsModel" "began" "I") 443 rfl rfl
set_option maxRecDepth 20000 in
theorem q_f_5_126 : Cond.fieldLink RX5 126 "LineOfHeirsModel" "status" "I" ∈ WS := mWS (w := Cond.fieldLink RX5 126 "LineOfHeirsModel" "status" "I") 444 rfl rfl
set_option maxRecDepth 20000 in
theorem q_f_5_65 : Cond.fieldLink RX5 65 "LineOfHeirsModel" "frameBody" "[I" ∈ WS := mWS (w := Cond.fieldLink RX5 65 "LineOfHeirsModel" "frameBody" "[I") 445 rfl rfl
set_option maxRecDepth 20000 in
theorem q_f_5_68 : Cond.fieldLink RX5 68 "LineOfHeirsModel" "frameAt" "[I" ∈ WS := mWS (w := Cond.fieldLink RX5 68 "LineOfHeirsModel" "frameAt" "[I") 446 rfl rfl
set_option maxRecDepth 20000 in
theorem q_f_5_71 : Cond.fieldLink RX5 71 "LineOfHeirsModel" "frameX" "[I" ∈ WS := mWS (w := Cond.fieldLink RX5 71 "LineOfHeirsModel" "frameX" "[I") 447 rfl rfl
set_option maxRecDepth 20000 in
theorem q_f_5_74 : Cond.fieldLink RX5 74 "LineOfHeirsModel" "pile" "[I" ∈ WS := mWS (w := Cond.fieldLink RX5 74 "LineOfHeirsModel" "pile" "[I") 448 rfl rfl
set_option maxRecDepth 20000 in
theorem q_f_5_105 : Cond.fieldLink RX5 105 "LineOfHeirsModel" "frames" "I" ∈ WS := mWS (w := Cond.fieldLink RX5 105 "LineOfHeirsModel" "frames" "I") 449 rfl rfl
set_option maxRecDepth 20000 in
theorem q_f_5_98 : Cond.fieldLink RX5 98 "LineOfHeirsModel" "piled" "I" ∈ WS := mWS (w := Cond.fieldLink RX5 98 "LineOfHeirsModel" "piled" "I") 450 rfl rfl
set_option maxRecDepth 20000 in
theorem q_ac_boolean : Cond.arrayClass .boolean ∈ WS := mWS (w := Cond.arrayClass .boolean) 508 rfl rfl
set_option maxRecDepth 20000 in
theorem q_l_L_17 : Cond.methodLink RL 17 yX5_device ∈ WS := mWS (w := Cond.methodLink RL 17 yX5_device) 509 rfl rfl
set_option maxRecDepth 20000 in
theorem q_im_X5_device : Cond.instanceMethod yX5_device ∈ WS := mWS (w := Cond.instanceMethod yX5_device) 510 rfl rfl
set_option maxRecDepth 20000 in
theorem q_se_X5_device : Cond.selects RX5 yX5_device yX5_device ∈ WS := mWS (w := Cond.selects RX5 yX5_device yX5_device) 511 rfl rfl
set_option maxRecDepth 20000 in
theorem q_co_X5_device : Cond.code yX5_device cX5_device 3 (some .int) ∈ WS := mWS (w := Cond.code yX5_device cX5_device 3 (some .int)) 512 rfl rfl
set_option maxRecDepth 20000 in
theorem q_l_L_22 : Cond.methodLink RL 22 yX5_call ∈ WS := mWS (w := Cond.methodLink RL 22 yX5_call) 513 rfl rfl
set_option maxRecDepth 20000 in
theorem q_im_X5_call : Cond.instanceMethod yX5_call ∈ WS := mWS (w := Cond.instanceMethod yX5_call) 514 rfl rfl
set_option maxRecDepth 20000 in
theorem q_se_X5_call : Cond.selects RX5 yX5_call yX5_call ∈ WS := mWS (w := Cond.selects RX5 yX5_call yX5_call) 515 rfl rfl
set_option maxRecDepth 20000 in
theorem q_co_X5_call : Cond.code yX5_call cX5_call 6 (some .int) ∈ WS := mWS (w := Cond.code yX5_call cX5_call 6 (some .int)) 516 rfl rfl
set_option maxRecDepth 20000 in
theorem q_l_5_147 : Cond.methodLink RX5 147 yX5_why ∈ WS := mWS (w := Cond.methodLink RX5 147 yX5_why) 517 rfl rfl
set_option maxRecDepth 20000 in
theorem q_im_X5_why : Cond.instanceMethod yX5_why ∈ WS := mWS (w := Cond.instanceMethod yX5_why) 519 rfl rfl
set_option maxRecDepth 20000 in
theorem q_co_X5_why : Cond.code yX5_why cX5_why 4 (some .int) ∈ WS := mWS (w := Cond.code yX5_why cX5_why 4 (some .int)) 520 rfl rfl
set_option maxRecDepth 20000 in
theorem q_l_5_129 : Cond.methodLink RX5 129 yX5_isDevice ∈ WS := mWS (w := Cond.methodLink RX5 129 yX5_isDevice) 521 rfl rfl
set_option maxRecDepth 20000 in
theorem q_im_X5_isDevice : Cond.instanceMethod yX5_isDevice ∈ WS := mWS (w := Cond.instanceMethod yX5_isDevice) 523 rfl rfl
set_option maxRecDepth 20000 in
theorem q_co_X5_isDevice : Cond.code yX5_isDevice cX5_isDevice 2 (some .boolean) ∈ WS := mWS (w := Cond.code yX5_isDevice cX5_isDevice 2 (some .boolean)) 524 rfl rfl
set_option maxRecDepth 20000 in
theorem q_l_5_133 : Cond.methodLink RX5 133 yX5_isAct ∈ WS := mWS (w := Cond.methodLink RX5 133 yX5_isAct) 525 rfl rfl
set_option maxRecDepth 20000 in
theorem q_st_X5_isAct : Cond.static yX5_isAct ∈ WS := mWS (w := Cond.static yX5_isAct) 526 rfl rfl
set_option maxRecDepth 20000 in
theorem q_co_X5_isAct : Cond.code yX5_isAct cX5_isAct 1 (some .boolean) ∈ WS := mWS (w := Cond.code yX5_isAct cX5_isAct 1 (some .boolean)) 527 rfl rfl
set_option maxRecDepth 20000 in
theorem q_l_5_136 : Cond.methodLink RX5 136 yX5_isWay ∈ WS := mWS (w := Cond.methodLink RX5 136 yX5_isWay) 528 rfl rfl
set_option maxRecDepth 20000 in
theorem q_st_X5_isWay : Cond.static yX5_isWay ∈ WS := mWS (w := Cond.static yX5_isWay) 529 rfl rfl
set_option maxRecDepth 20000 in
theorem q_co_X5_isWay : Cond.code yX5_isWay cX5_isWay 1 (some .boolean) ∈ WS := mWS (w := Cond.code yX5_isWay cX5_isWay 1 (some .boolean)) 530 rfl rfl
set_option maxRecDepth 20000 in
theorem q_l_5_139 : Cond.methodLink RX5 139 yX5_isAble ∈ WS := mWS (w := Cond.methodLink RX5 139 yX5_isAble) 531 rfl rfl
set_option maxRecDepth 20000 in
theorem q_im_X5_isAble : Cond.instanceMethod yX5_isAble ∈ WS := mWS (w := Cond.instanceMethod yX5_isAble) 533 rfl rfl
set_option maxRecDepth 20000 in
theorem q_co_X5_isAble : Cond.code yX5_isAble cX5_isAble 3 (some .boolean) ∈ WS := mWS (w := Cond.code yX5_isAble cX5_isAble 3 (some .boolean)) 534 rfl rfl
set_option maxRecDepth 20000 in
theorem q_l_5_143 : Cond.methodLink RX5 143 yX5_isOf ∈ WS := mWS (w := Cond.methodLink RX5 143 yX5_isOf) 535 rfl rfl
set_option maxRecDepth 20000 in
theorem q_im_X5_isOf : Cond.instanceMethod yX5_isOf ∈ WS := mWS (w := Cond.instanceMethod yX5_isOf) 537 rfl rfl
set_option maxRecDepth 20000 in
theorem q_co_X5_isOf : Cond.code yX5_isOf cX5_isOf 4 (some .boolean) ∈ WS := mWS (w := Cond.code yX5_isOf cX5_isOf 4 (some .boolean)) 538 rfl rfl
set_option maxRecDepth 20000 in
theorem q_l_5_151 : Cond.methodLink RX5 151 yX5_refused ∈ WS := mWS (w := Cond.methodLink RX5 151 yX5_refused) 539 rfl rfl
set_option maxRecDepth 20000 in
theorem q_im_X5_refused : Cond.instanceMethod yX5_refused ∈ WS := mWS (w := Cond.instanceMethod yX5_refused) 541 rfl rfl
set_option maxRecDepth 20000 in
theorem q_co_X5_refused : Cond.code yX5_refused cX5_refused 2 (some .int) ∈ WS := mWS (w := Cond.code yX5_refused cX5_refused 2 (some .int)) 542 rfl rfl
set_option maxRecDepth 20000 in
theorem q_l_5_154 : Cond.methodLink RX5 154 yX5_begin ∈ WS := mWS (w := Cond.methodLink RX5 154 yX5_begin) 543 rfl rfl
set_option maxRecDepth 20000 in
theorem q_im_X5_begin : Cond.instanceMethod yX5_begin ∈ WS := mWS (w := Cond.instanceMethod yX5_begin) 545 rfl rfl
set_option maxRecDepth 20000 in
theorem q_co_X5_begin : Cond.code yX5_begin cX5_begin 1 none ∈ WS := mWS (w := Cond.code yX5_begin cX5_begin 1 none) 546 rfl rfl
set_option maxRecDepth 20000 in
theorem q_l_5_157 : Cond.methodLink RX5 157 yX5_act ∈ WS := mWS (w := Cond.methodLink RX5 157 yX5_act) 547 rfl rfl
set_option maxRecDepth 20000 in
theorem q_im_X5_act : Cond.instanceMethod yX5_act ∈ WS := mWS (w := Cond.instanceMethod yX5_act) 549 rfl rfl
set_option maxRecDepth 20000 in
theorem q_co_X5_act : Cond.code yX5_act cX5_act 6 (some .int) ∈ WS := mWS (w := Cond.code yX5_act cX5_act 6 (some .int)) 550 rfl rfl
set_option maxRecDepth 20000 in
theorem q_l_5_108 : Cond.methodLink RX5 108 yX5_enter ∈ WS := mWS (w := Cond.methodLink RX5 108 yX5_enter) 551 rfl rfl
set_option maxRecDepth 20000 in
theorem q_im_X5_enter : Cond.instanceMethod yX5_enter ∈ WS := mWS (w := Cond.instanceMethod yX5_enter) 553 rfl rfl
set_option maxRecDepth 20000 in
theorem q_co_X5_enter : Cond.code yX5_enter cX5_enter 3 none ∈ WS := mWS (w := Cond.code yX5_enter cX5_enter 3 none) 554 rfl rfl
set_option maxRecDepth 20000 in
theorem q_l_5_112 : Cond.methodLink RX5 112 yX5_pop ∈ WS := mWS (w := Cond.methodLink RX5 112 yX5_pop) 555 rfl rfl
set_option maxRecDepth 20000 in
theorem q_im_X5_pop : Cond.instanceMethod yX5_pop ∈ WS := mWS (w := Cond.instanceMethod yX5_pop) 557 rfl rfl
set_option maxRecDepth 20000 in
theorem q_co_X5_pop : Cond.code yX5_pop cX5_pop 1 (some .int) ∈ WS := mWS (w := Cond.code yX5_pop cX5_pop 1 (some .int)) 558 rfl rfl
set_option maxRecDepth 20000 in
theorem q_l_5_116 : Cond.methodLink RX5 116 yX5_step ∈ WS := mWS (w := Cond.methodLink RX5 116 yX5_step) 559 rfl rfl
set_option maxRecDepth 20000 in
theorem q_im_X5_step : Cond.instanceMethod yX5_step ∈ WS := mWS (w := Cond.instanceMethod yX5_step) 561 rfl rfl
set_option maxRecDepth 20000 in
theorem q_co_X5_step : Cond.code yX5_step cX5_step 6 none ∈ WS := mWS (w := Cond.code yX5_step cX5_step 6 none) 562 rfl rfl
set_option maxRecDepth 20000 in
theorem q_l_5_119 : Cond.methodLink RX5 119 yX5_push ∈ WS := mWS (w := Cond.methodLink RX5 119 yX5_push) 563 rfl rfl
set_option maxRecDepth 20000 in
theorem q_im_X5_push : Cond.instanceMethod yX5_push ∈ WS := mWS (w := Cond.instanceMethod yX5_push) 565 rfl rfl
set_option maxRecDepth 20000 in
theorem q_co_X5_push : Cond.code yX5_push cX5_push 2 none ∈ WS := mWS (w := Cond.code yX5_push cX5_push 2 none) 566 rfl rfl
set_option maxRecDepth 20000 in
theorem q_l_L_27 : Cond.methodLink RL 27 yX5_every ∈ WS := mWS (w := Cond.methodLink RL 27 yX5_every) 567 rfl rfl
set_option maxRecDepth 20000 in
theorem q_im_X5_every : Cond.instanceMethod yX5_every ∈ WS := mWS (w := Cond.instanceMethod yX5_every) 568 rfl rfl
set_option maxRecDepth 20000 in
theorem q_se_X5_every : Cond.selects RX5 yX5_every yX5_every ∈ WS := mWS (w := Cond.selects RX5 yX5_every yX5_every) 569 rfl rfl
set_option maxRecDepth 20000 in
theorem q_co_X5_every : Cond.code yX5_every cX5_every 6 (some .int) ∈ WS := mWS (w := Cond.code yX5_every cX5_every 6 (some .int)) 570 rfl rfl
set_option maxRecDepth 20000 in
theorem q_l_L_31 : Cond.methodLink RL 31 yX5_feed ∈ WS := mWS (w := Cond.methodLink RL 31 yX5_feed) 571 rfl rfl
set_option maxRecDepth 20000 in
theorem q_im_X5_feed : Cond.instanceMethod yX5_feed ∈ WS := mWS (w := Cond.instanceMethod yX5_feed) 572 rfl rfl
set_option maxRecDepth 20000 in
theorem q_se_X5_feed : Cond.selects RX5 yX5_feed yX5_feed ∈ WS := mWS (w := Cond.selects RX5 yX5_feed yX5_feed) 573 rfl rfl
set_option maxRecDepth 20000 in
theorem q_co_X5_feed : Cond.code yX5_feed cX5_feed 6 (some .int) ∈ WS := mWS (w := Cond.code yX5_feed cX5_feed 6 (some .int)) 574 rfl rfl
set_option maxRecDepth 20000 in
theorem q_l_L_35 : Cond.methodLink RL 35 yX5_link ∈ WS := mWS (w := Cond.methodLink RL 35 yX5_link) 575 rfl rfl
set_option maxRecDepth 20000 in
theorem q_im_X5_link : Cond.instanceMethod yX5_link ∈ WS := mWS (w := Cond.instanceMethod yX5_link) 576 rfl rfl
set_option maxRecDepth 20000 in
theorem q_se_X5_link : Cond.selects RX5 yX5_link yX5_link ∈ WS := mWS (w := Cond.selects RX5 yX5_link yX5_link) 577 rfl rfl
set_option maxRecDepth 20000 in
theorem q_co_X5_link : Cond.code yX5_link cX5_link 3 (some .int) ∈ WS := mWS (w := Cond.code yX5_link cX5_link 3 (some .int)) 578 rfl rfl
set_option maxRecDepth 20000 in
theorem q_l_L_39 : Cond.methodLink RL 39 yX5_pass ∈ WS := mWS (w := Cond.methodLink RL 39 yX5_pass) 579 rfl rfl
set_option maxRecDepth 20000 in
theorem q_im_X5_pass : Cond.instanceMethod yX5_pass ∈ WS := mWS (w := Cond.instanceMethod yX5_pass) 580 rfl rfl
set_option maxRecDepth 20000 in
theorem q_se_X5_pass : Cond.selects RX5 yX5_pass yX5_pass ∈ WS := mWS (w := Cond.selects RX5 yX5_pass yX5_pass) 581 rfl rfl
set_option maxRecDepth 20000 in
theorem q_co_X5_pass : Cond.code yX5_pass cX5_pass 6 (some .int) ∈ WS := mWS (w := Cond.code yX5_pass cX5_pass 6 (some .int)) 582 rfl rfl
set_option maxRecDepth 20000 in
theorem q_l_5_163 : Cond.methodLink RX5 163 yX5_takes ∈ WS := mWS (w := Cond.methodLink RX5 163 yX5_takes) 583 rfl rfl
set_option maxRecDepth 20000 in
theorem q_im_X5_takes : Cond.instanceMethod yX5_takes ∈ WS := mWS (w := Cond.instanceMethod yX5_takes) 585 rfl rfl
set_option maxRecDepth 20000 in
theorem q_co_X5_takes : Cond.code yX5_takes cX5_takes 3 (some .int) ∈ WS := mWS (w := Cond.code yX5_takes cX5_takes 3 (some .int)) 586 rfl rfl
set_option maxRecDepth 20000 in
theorem q_l_L_43 : Cond.methodLink RL 43 yX5_able ∈ WS := mWS (w := Cond.methodLink RL 43 yX5_able) 587 rfl rfl
set_option maxRecDepth 20000 in
theorem q_im_X5_able : Cond.instanceMethod yX5_able ∈ WS := mWS (w := Cond.instanceMethod yX5_able) 588 rfl rfl
set_option maxRecDepth 20000 in
theorem q_se_X5_able : Cond.selects RX5 yX5_able yX5_able ∈ WS := mWS (w := Cond.selects RX5 yX5_able yX5_able) 589 rfl rfl
set_option maxRecDepth 20000 in
theorem q_co_X5_able : Cond.code yX5_able cX5_able 3 (some .int) ∈ WS := mWS (w := Cond.code yX5_able cX5_able 3 (some .int)) 590 rfl rfl
set_option maxRecDepth 20000 in
theorem q_l_L_48 : Cond.methodLink RL 48 yX5_chain ∈ WS := mWS (w := Cond.methodLink RL 48 yX5_chain) 591 rfl rfl
set_option maxRecDepth 20000 in
theorem q_im_X5_chain : Cond.instanceMethod yX5_chain ∈ WS := mWS (w := Cond.instanceMethod yX5_chain) 592 rfl rfl
set_option maxRecDepth 20000 in
theorem q_se_X5_chain : Cond.selects RX5 yX5_chain yX5_chain ∈ WS := mWS (w := Cond.selects RX5 yX5_chain yX5_chain) 593 rfl rfl
set_option maxRecDepth 20000 in
theorem q_co_X5_chain : Cond.code yX5_chain cX5_chain 2 (some .int) ∈ WS := mWS (w := Cond.code yX5_chain cX5_chain 2 (some .int)) 594 rfl rfl
set_option maxRecDepth 20000 in
theorem q_l_L_53 : Cond.methodLink RL 53 yX5_ran ∈ WS := mWS (w := Cond.methodLink RL 53 yX5_ran) 595 rfl rfl
set_option maxRecDepth 20000 in
theorem q_im_X5_ran : Cond.instanceMethod yX5_ran ∈ WS := mWS (w := Cond.instanceMethod yX5_ran) 596 rfl rfl
set_option maxRecDepth 20000 in
theorem q_se_X5_ran : Cond.selects RX5 yX5_ran yX5_ran ∈ WS := mWS (w := Cond.selects RX5 yX5_ran yX5_ran) 597 rfl rfl
set_option maxRecDepth 20000 in
theorem q_co_X5_ran : Cond.code yX5_ran cX5_ran 1 (some .int) ∈ WS := mWS (w := Cond.code yX5_ran cX5_ran 1 (some .int)) 598 rfl rfl
set_option maxRecDepth 20000 in
theorem q_l_L_57 : Cond.methodLink RL 57 yX5_state ∈ WS := mWS (w := Cond.methodLink RL 57 yX5_state) 599 rfl rfl
set_option maxRecDepth 20000 in
theorem q_im_X5_state : Cond.instanceMethod yX5_state ∈ WS := mWS (w := Cond.instanceMethod yX5_state) 600 rfl rfl
set_option maxRecDepth 20000 in
theorem q_se_X5_state : Cond.selects RX5 yX5_state yX5_state ∈ WS := mWS (w := Cond.selects RX5 yX5_state yX5_state) 601 rfl rfl
set_option maxRecDepth 20000 in
theorem q_co_X5_state : Cond.code yX5_state cX5_state 5 (some .int) ∈ WS := mWS (w := Cond.code yX5_state cX5_state 5 (some .int)) 602 rfl rfl
set_option maxRecDepth 20000 in
theorem q_l_L_61 : Cond.methodLink RL 61 yX5_size ∈ WS := mWS (w := Cond.methodLink RL 61 yX5_size) 603 rfl rfl
set_option maxRecDepth 20000 in
theorem q_im_X5_size : Cond.instanceMethod yX5_size ∈ WS := mWS (w := Cond.instanceMethod yX5_size) 604 rfl rfl
set_option maxRecDepth 20000 in
theorem q_se_X5_size : Cond.selects RX5 yX5_size yX5_size ∈ WS := mWS (w := Cond.selects RX5 yX5_size yX5_size) 605 rfl rfl
set_option maxRecDepth 20000 in
theorem q_co_X5_size : Cond.code yX5_size cX5_size 4 (some .int) ∈ WS := mWS (w := Cond.code yX5_size cX5_size 4 (some .int)) 606 rfl rfl
set_option maxRecDepth 20000 in
theorem q_l_L_65 : Cond.methodLink RL 65 yX5_status ∈ WS := mWS (w := Cond.methodLink RL 65 yX5_status) 607 rfl rfl
set_option maxRecDepth 20000 in
theorem q_im_X5_status : Cond.instanceMethod yX5_status ∈ WS := mWS (w := Cond.instanceMethod yX5_status) 608 rfl rfl
set_option maxRecDepth 20000 in
theorem q_se_X5_status : Cond.selects RX5 yX5_status yX5_status ∈ WS := mWS (w := Cond.selects RX5 yX5_status yX5_status) 609 rfl rfl
set_option maxRecDepth 20000 in
theorem q_co_X5_status : Cond.code yX5_status cX5_status 1 (some .int) ∈ WS := mWS (w := Cond.code yX5_status cX5_status 1 (some .int)) 610 rfl rfl
set_option maxRecDepth 20000 in
theorem inX0 : ∀ w ∈ u_ws RX0 TX0 13, w ∈ WS := mWSu (by decide +kernel)
set_option maxRecDepth 20000 in
theorem inX1 : ∀ w ∈ u_ws RX1 TX1 2, w ∈ WS := mWSu (by decide +kernel)
set_option maxRecDepth 20000 in
theorem inX2 : ∀ w ∈ u_ws RX2 TX2 2, w ∈ WS := mWSu (by decide +kernel)
set_option maxRecDepth 20000 in
theorem inX3 : ∀ w ∈ u_ws RX3 TX3 2, w ∈ WS := mWSu (by decide +kernel)
set_option maxRecDepth 20000 in
theorem inX4 : ∀ w ∈ u_ws RX4 TX4 9, w ∈ WS := mWSu (by decide +kernel)
set_option maxRecDepth 20000 in
theorem inX5 : ∀ w ∈ u_ws RX5 TX5 28, w ∈ WS := mWSu (by decide +kernel)
def wzX1_isType : List Cond := .code yX1_isType cX1_isType 1 (some .boolean) :: WS
def wzX4_isWay : List Cond := .code yX4_isWay cX4_isWay 1 (some .boolean) :: WS
def wzX1_holds : List Cond := .code yX1_holds cX1_holds 2 (some .boolean) :: WS
def wzX1_bears : List Cond := .code yX1_bears cX1_bears 3 (some .boolean) :: WS
def wzX1_takingActOf : List Cond := .code yX1_takingActOf cX1_takingActOf 2 (some .int) :: WS
def wzX0_init : List Cond := .code yX0_init cX0_init 5 none :: WS
def wzX0_bears : List Cond := .code yX0_bears cX0_bears 2 (some .boolean) :: WS
def wzX4_isAct : List Cond := .code yX4_isAct cX4_isAct 1 (some .boolean) :: WS
def wzX1_hasAct : List Cond := .code yX1_hasAct cX1_hasAct 3 (some .boolean) :: WS
def wzX1_kindHasAct : List Cond := .code yX1_kindHasAct cX1_kindHasAct 4 (some .boolean) :: WS
def wzX0_hasAct : List Cond := .code yX0_hasAct cX0_hasAct 3 (some .boolean) :: WS
def wzX0_fact : List Cond := .code yX0_fact cX0_fact 2 (some .int) :: WS
def wzX0_addLink : List Cond := .code yX0_addLink cX0_addLink 2 none :: WS
def wzX1_selectedOf : List Cond := .code yX1_selectedOf cX1_selectedOf 3 (some .int) :: WS
def wzX1_parentOf : List Cond := .code yX1_parentOf cX1_parentOf 1 (some .int) :: WS
def wzX3_begin : List Cond := .code yX3_begin cX3_begin 2 none :: WS
def wzX0_act : List Cond := .code yX0_act cX0_act 4 (some .int) :: WS
def wzX0_interfaceAct : List Cond := .code yX0_interfaceAct cX0_interfaceAct 5 (some .int) :: WS
def wzX0_parentAct : List Cond := .code yX0_parentAct cX0_parentAct 5 (some .int) :: WS
def wzX0_run : List Cond := .code yX0_run cX0_run 4 (some .int) :: WS
def wzX0_runOfAncestor : List Cond := .code yX0_runOfAncestor cX0_runOfAncestor 4 (some .int) :: WS
def wzX0_runOfEarlierKind : List Cond := .code yX0_runOfEarlierKind cX0_runOfEarlierKind 4 (some .int) :: WS
def wzX0_runOfInterface : List Cond := .code yX0_runOfInterface cX0_runOfInterface 4 (some .int) :: WS
def wzX0_runOfLaterKind : List Cond := .code yX0_runOfLaterKind cX0_runOfLaterKind 4 (some .int) :: WS
def wzX0_take : List Cond := .code yX0_take cX0_take 3 none :: WS
def wzX0_answer : List Cond := .code yX0_answer cX0_answer 3 (some .int) :: WS
def wzX1_isInterface : List Cond := .code yX1_isInterface cX1_isInterface 1 (some .boolean) :: WS
def wzX1_interfacesOf : List Cond := .code yX1_interfacesOf cX1_interfacesOf 5 (some .int) :: WS
def wzX1_bodyOf : List Cond := .code yX1_bodyOf cX1_bodyOf 2 (some .int) :: WS
def wzX1_bodyOfLine : List Cond := .code yX1_bodyOfLine cX1_bodyOfLine 5 (some .int) :: WS
def wzX1_bearsOne : List Cond := .code yX1_bearsOne cX1_bearsOne 3 (some .boolean) :: WS
def wzX1_isOvertaken : List Cond := .code yX1_isOvertaken cX1_isOvertaken 6 (some .boolean) :: WS
def wzX1_bodyOfInterfaces : List Cond := .code yX1_bodyOfInterfaces cX1_bodyOfInterfaces 5 (some .int) :: WS
def wzX1_select : List Cond := .code yX1_select cX1_select 4 (some .int) :: WS
def wzX1_init : List Cond := .code yX1_init cX1_init 3 none :: WS
def wzX2_init : List Cond := .code yX2_init cX2_init 2 none :: WS
def wzX3_init : List Cond := .code yX3_init cX3_init 1 none :: WS
def wzX3_clear : List Cond := .code yX3_clear cX3_clear 1 none :: WS
def wzX3_keptAt : List Cond := .code yX3_keptAt cX3_keptAt 2 (some .int) :: WS
def wzX4_init : List Cond := .code yX4_init cX4_init 1 none :: WS
def wzX4_device : List Cond := .code yX4_device cX4_device 4 (some .int) :: WS
def wzX4_find : List Cond := .code yX4_find cX4_find 2 (some (.object "LineOfHeirs$Device")) :: WS
def wzX4_refusal : List Cond := .code yX4_refusal cX4_refusal 3 (some .int) :: WS
def wzX4_call : List Cond := .code yX4_call cX4_call 6 (some .int) :: WS
def wzX4_refusalOfAll : List Cond := .code yX4_refusalOfAll cX4_refusalOfAll 3 (some .int) :: WS
def wzX4_every : List Cond := .code yX4_every cX4_every 7 (some .int) :: WS
def wzX4_answerToByte : List Cond := .code yX4_answerToByte cX4_answerToByte 5 (some .int) :: WS
def wzX4_feed : List Cond := .code yX4_feed cX4_feed 6 (some .int) :: WS
def wzX4_link : List Cond := .code yX4_link cX4_link 6 (some .int) :: WS
def wzX4_letTake : List Cond := .code yX4_letTake cX4_letTake 3 none :: WS
def wzX4_passOn : List Cond := .code yX4_passOn cX4_passOn 3 none :: WS
def wzX4_pass : List Cond := .code yX4_pass cX4_pass 6 (some .int) :: WS
def wzX4_able : List Cond := .code yX4_able cX4_able 4 (some .int) :: WS
def wzX4_chain : List Cond := .code yX4_chain cX4_chain 2 (some .int) :: WS
def wzX4_ran : List Cond := .code yX4_ran cX4_ran 1 (some .int) :: WS
def wzX4_state : List Cond := .code yX4_state cX4_state 4 (some .int) :: WS
def wzX4_countBearers : List Cond := .code yX4_countBearers cX4_countBearers 5 (some .int) :: WS
def wzX4_size : List Cond := .code yX4_size cX4_size 2 (some .int) :: WS
def wzX4_status : List Cond := .code yX4_status cX4_status 1 (some .int) :: WS
def wzX5_have : List Cond := .code yX5_have cX5_have 4 none :: WS
def wzX5_bit : List Cond := .code yX5_bit cX5_bit 1 (some .int) :: WS
def wzX5_closed : List Cond := .code yX5_closed cX5_closed 2 (some .int) :: WS
def wzX5_heir : List Cond := .code yX5_heir cX5_heir 4 none :: WS
def wzX5_lowest : List Cond := .code yX5_lowest cX5_lowest 6 (some .int) :: WS
def wzX5_select : List Cond := .code yX5_select cX5_select 4 (some .int) :: WS
def wzX5_init : List Cond := .code yX5_init cX5_init 3 none :: WS
def wzX5_push : List Cond := .code yX5_push cX5_push 2 none :: WS
def wzX5_pop : List Cond := .code yX5_pop cX5_pop 1 (some .int) :: WS
def wzX5_enter : List Cond := .code yX5_enter cX5_enter 3 none :: WS
def wzX5_step : List Cond := .code yX5_step cX5_step 6 none :: WS
def wzX5_act : List Cond := .code yX5_act cX5_act 6 (some .int) :: WS
def wzX5_isDevice : List Cond := .code yX5_isDevice cX5_isDevice 2 (some .boolean) :: WS
def wzX5_isAct : List Cond := .code yX5_isAct cX5_isAct 1 (some .boolean) :: WS
def wzX5_isWay : List Cond := .code yX5_isWay cX5_isWay 1 (some .boolean) :: WS
def wzX5_isAble : List Cond := .code yX5_isAble cX5_isAble 3 (some .boolean) :: WS
def wzX5_isOf : List Cond := .code yX5_isOf cX5_isOf 4 (some .boolean) :: WS
def wzX5_refused : List Cond := .code yX5_refused cX5_refused 2 (some .int) :: WS
def wzX5_why : List Cond := .code yX5_why cX5_why 4 (some .int) :: WS
def wzX5_begin : List Cond := .code yX5_begin cX5_begin 1 none :: WS
def wzX5_device : List Cond := .code yX5_device cX5_device 3 (some .int) :: WS
def wzX5_call : List Cond := .code yX5_call cX5_call 6 (some .int) :: WS
def wzX5_every : List Cond := .code yX5_every cX5_every 6 (some .int) :: WS
def wzX5_feed : List Cond := .code yX5_feed cX5_feed 6 (some .int) :: WS
def wzX5_link : List Cond := .code yX5_link cX5_link 3 (some .int) :: WS
def wzX5_takes : List Cond := .code yX5_takes cX5_takes 3 (some .int) :: WS
def wzX5_pass : List Cond := .code yX5_pass cX5_pass 6 (some .int) :: WS
def wzX5_able : List Cond := .code yX5_able cX5_able 3 (some .int) :: WS
def wzX5_chain : List Cond := .code yX5_chain cX5_chain 2 (some .int) :: WS
def wzX5_ran : List Cond := .code yX5_ran cX5_ran 1 (some .int) :: WS
def wzX5_state : List Cond := .code yX5_state cX5_state 5 (some .int) :: WS
def wzX5_size : List Cond := .code yX5_size cX5_size 4 (some .int) :: WS
def wzX5_status : List Cond := .code yX5_status cX5_status 1 (some .int) :: WS
