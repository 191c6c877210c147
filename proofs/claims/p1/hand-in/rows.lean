section
-- ===== PART A: goes FIRST, ahead of the names: the tables' words, and 'selects' of the private methods out of them =====
/-- a private method of a class that the tables say can be made, by its rows of tables_1 -/
def lw_okq (q : MethodName × Nat) : Prop := (q.1.cls ≠ "java/lang/invoke/MethodHandle" ∧ q.1.cls ≠ "java/lang/invoke/VarHandle") ∧ Cond.instantiable q.1.cls q.2 ∈ tables_1 ∧ Cond.privateMethod q.1 ∈ tables_1 ∧ Cond.instanceMethod q.1 ∈ tables_1
theorem lw_p0 : lw_okq (⟨"AngleChains", "takeDraft", "(I)I"⟩, 8) := ⟨⟨by decide +kernel, by decide +kernel⟩, List.mem_of_getElem? (i := 12) (by decide +kernel), List.mem_of_getElem? (i := 180) (by decide +kernel), List.mem_of_getElem? (i := 181) (by decide +kernel)⟩
theorem lw_p1 : lw_okq (⟨"AngleChains$Figure", "hasLikeTurns", "(I)Z"⟩, 3) := ⟨⟨by decide +kernel, by decide +kernel⟩, List.mem_of_getElem? (i := 20) (by decide +kernel), List.mem_of_getElem? (i := 233) (by decide +kernel), List.mem_of_getElem? (i := 234) (by decide +kernel)⟩
theorem lw_p2 : lw_okq (⟨"AngleChains$Cases", "findBisectors", "(II)V"⟩, 3) := ⟨⟨by decide +kernel, by decide +kernel⟩, List.mem_of_getElem? (i := 70) (by decide +kernel), List.mem_of_getElem? (i := 257) (by decide +kernel), List.mem_of_getElem? (i := 258) (by decide +kernel)⟩
theorem lw_p3 : lw_okq (⟨"AngleChains$Cases", "add", "(IIIIII)V"⟩, 3) := ⟨⟨by decide +kernel, by decide +kernel⟩, List.mem_of_getElem? (i := 70) (by decide +kernel), List.mem_of_getElem? (i := 262) (by decide +kernel), List.mem_of_getElem? (i := 263) (by decide +kernel)⟩
theorem lw_p4 : lw_okq (⟨"AngleChains$Cases", "findOfThree", "(III)V"⟩, 3) := ⟨⟨by decide +kernel, by decide +kernel⟩, List.mem_of_getElem? (i := 70) (by decide +kernel), List.mem_of_getElem? (i := 266) (by decide +kernel), List.mem_of_getElem? (i := 267) (by decide +kernel)⟩
theorem lw_p5 : lw_okq (⟨"AngleChains$Cases", "findAtCorner", "(III)V"⟩, 3) := ⟨⟨by decide +kernel, by decide +kernel⟩, List.mem_of_getElem? (i := 70) (by decide +kernel), List.mem_of_getElem? (i := 271) (by decide +kernel), List.mem_of_getElem? (i := 272) (by decide +kernel)⟩
theorem lw_p6 : lw_okq (⟨"AngleChains$Cases", "findOfFour", "(IIII)V"⟩, 3) := ⟨⟨by decide +kernel, by decide +kernel⟩, List.mem_of_getElem? (i := 70) (by decide +kernel), List.mem_of_getElem? (i := 279) (by decide +kernel), List.mem_of_getElem? (i := 280) (by decide +kernel)⟩
theorem lw_p7 : lw_okq (⟨"AngleChains$Cases", "findCentre", "(IIII)V"⟩, 3) := ⟨⟨by decide +kernel, by decide +kernel⟩, List.mem_of_getElem? (i := 70) (by decide +kernel), List.mem_of_getElem? (i := 284) (by decide +kernel), List.mem_of_getElem? (i := 285) (by decide +kernel)⟩
theorem lw_p8 : lw_okq (⟨"AngleChains$Cases", "findParallelogram", "(IIII)V"⟩, 3) := ⟨⟨by decide +kernel, by decide +kernel⟩, List.mem_of_getElem? (i := 70) (by decide +kernel), List.mem_of_getElem? (i := 288) (by decide +kernel), List.mem_of_getElem? (i := 289) (by decide +kernel)⟩
theorem lw_p9 : lw_okq (⟨"AngleChains$Deduction", "start", "()V"⟩, 13) := ⟨⟨by decide +kernel, by decide +kernel⟩, List.mem_of_getElem? (i := 40) (by decide +kernel), List.mem_of_getElem? (i := 296) (by decide +kernel), List.mem_of_getElem? (i := 297) (by decide +kernel)⟩
theorem lw_p10 : lw_okq (⟨"AngleChains$Deduction", "isProper", "(I)Z"⟩, 13) := ⟨⟨by decide +kernel, by decide +kernel⟩, List.mem_of_getElem? (i := 40) (by decide +kernel), List.mem_of_getElem? (i := 311) (by decide +kernel), List.mem_of_getElem? (i := 312) (by decide +kernel)⟩
theorem lw_p11 : lw_okq (⟨"AngleChains$Deduction", "assume", "(I)V"⟩, 13) := ⟨⟨by decide +kernel, by decide +kernel⟩, List.mem_of_getElem? (i := 40) (by decide +kernel), List.mem_of_getElem? (i := 327) (by decide +kernel), List.mem_of_getElem? (i := 328) (by decide +kernel)⟩
theorem lw_p12 : lw_okq (⟨"AngleChains$Deduction", "joinLine", "(I)V"⟩, 13) := ⟨⟨by decide +kernel, by decide +kernel⟩, List.mem_of_getElem? (i := 40) (by decide +kernel), List.mem_of_getElem? (i := 333) (by decide +kernel), List.mem_of_getElem? (i := 334) (by decide +kernel)⟩
theorem lw_p13 : lw_okq (⟨"AngleChains$Rows", "subtract", "([JJI)V"⟩, 4) := ⟨⟨by decide +kernel, by decide +kernel⟩, List.mem_of_getElem? (i := 46) (by decide +kernel), List.mem_of_getElem? (i := 346) (by decide +kernel), List.mem_of_getElem? (i := 347) (by decide +kernel)⟩
theorem lw_p14 : lw_okq (⟨"AngleChains$Rows", "settle", "([JI)V"⟩, 4) := ⟨⟨by decide +kernel, by decide +kernel⟩, List.mem_of_getElem? (i := 46) (by decide +kernel), List.mem_of_getElem? (i := 350) (by decide +kernel), List.mem_of_getElem? (i := 351) (by decide +kernel)⟩
theorem lw_p15 : lw_okq (⟨"AngleChains$Rows", "swapWithBasis", "(I)V"⟩, 4) := ⟨⟨by decide +kernel, by decide +kernel⟩, List.mem_of_getElem? (i := 46) (by decide +kernel), List.mem_of_getElem? (i := 357) (by decide +kernel), List.mem_of_getElem? (i := 358) (by decide +kernel)⟩
def lw_privs_1 : List (MethodName × Nat) := [(⟨"AngleChains", "takeDraft", "(I)I"⟩, 8), (⟨"AngleChains$Figure", "hasLikeTurns", "(I)Z"⟩, 3), (⟨"AngleChains$Cases", "findBisectors", "(II)V"⟩, 3), (⟨"AngleChains$Cases", "add", "(IIIIII)V"⟩, 3), (⟨"AngleChains$Cases", "findOfThree", "(III)V"⟩, 3), (⟨"AngleChains$Cases", "findAtCorner", "(III)V"⟩, 3), (⟨"AngleChains$Cases", "findOfFour", "(IIII)V"⟩, 3), (⟨"AngleChains$Cases", "findCentre", "(IIII)V"⟩, 3), (⟨"AngleChains$Cases", "findParallelogram", "(IIII)V"⟩, 3), (⟨"AngleChains$Deduction", "start", "()V"⟩, 13), (⟨"AngleChains$Deduction", "isProper", "(I)Z"⟩, 13), (⟨"AngleChains$Deduction", "assume", "(I)V"⟩, 13), (⟨"AngleChains$Deduction", "joinLine", "(I)V"⟩, 13), (⟨"AngleChains$Rows", "subtract", "([JJI)V"⟩, 4), (⟨"AngleChains$Rows", "settle", "([JI)V"⟩, 4), (⟨"AngleChains$Rows", "swapWithBasis", "(I)V"⟩, 4)]
theorem lw_r1 : ∀ q ∈ lw_privs_1, lw_okq q := List.forall_mem_cons.mpr ⟨lw_p0, List.forall_mem_cons.mpr ⟨lw_p1, List.forall_mem_cons.mpr ⟨lw_p2, List.forall_mem_cons.mpr ⟨lw_p3, List.forall_mem_cons.mpr ⟨lw_p4, List.forall_mem_cons.mpr ⟨lw_p5, List.forall_mem_cons.mpr ⟨lw_p6, List.forall_mem_cons.mpr ⟨lw_p7, List.forall_mem_cons.mpr ⟨lw_p8, List.forall_mem_cons.mpr ⟨lw_p9, List.forall_mem_cons.mpr ⟨lw_p10, List.forall_mem_cons.mpr ⟨lw_p11, List.forall_mem_cons.mpr ⟨lw_p12, List.forall_mem_cons.mpr ⟨lw_p13, List.forall_mem_cons.mpr ⟨lw_p14, List.forall_mem_cons.mpr ⟨lw_p15, fun _ h => absurd h List.not_mem_nil⟩⟩⟩⟩⟩⟩⟩⟩⟩⟩⟩⟩⟩⟩⟩⟩
theorem lw_p16 : lw_okq (⟨"AngleChains$Deduction", "joinCircle", "(I)V"⟩, 13) := ⟨⟨by decide +kernel, by decide +kernel⟩, List.mem_of_getElem? (i := 40) (by decide +kernel), List.mem_of_getElem? (i := 362) (by decide +kernel), List.mem_of_getElem? (i := 363) (by decide +kernel)⟩
theorem lw_p17 : lw_okq (⟨"AngleChains$Deduction", "joinLengths", "(II)V"⟩, 13) := ⟨⟨by decide +kernel, by decide +kernel⟩, List.mem_of_getElem? (i := 40) (by decide +kernel), List.mem_of_getElem? (i := 374) (by decide +kernel), List.mem_of_getElem? (i := 375) (by decide +kernel)⟩
theorem lw_p18 : lw_okq (⟨"AngleChains$Deduction", "writeRowOf", "(I)V"⟩, 13) := ⟨⟨by decide +kernel, by decide +kernel⟩, List.mem_of_getElem? (i := 40) (by decide +kernel), List.mem_of_getElem? (i := 384) (by decide +kernel), List.mem_of_getElem? (i := 385) (by decide +kernel)⟩
theorem lw_p19 : lw_okq (⟨"AngleChains$Deduction", "writeDifference", "(III)V"⟩, 13) := ⟨⟨by decide +kernel, by decide +kernel⟩, List.mem_of_getElem? (i := 40) (by decide +kernel), List.mem_of_getElem? (i := 388) (by decide +kernel), List.mem_of_getElem? (i := 389) (by decide +kernel)⟩
theorem lw_p20 : lw_okq (⟨"AngleChains$Deduction", "writeTurns", "(IIII)V"⟩, 13) := ⟨⟨by decide +kernel, by decide +kernel⟩, List.mem_of_getElem? (i := 40) (by decide +kernel), List.mem_of_getElem? (i := 392) (by decide +kernel), List.mem_of_getElem? (i := 393) (by decide +kernel)⟩
theorem lw_p21 : lw_okq (⟨"AngleChains$Deduction", "usesUp", "(I)Z"⟩, 13) := ⟨⟨by decide +kernel, by decide +kernel⟩, List.mem_of_getElem? (i := 40) (by decide +kernel), List.mem_of_getElem? (i := 400) (by decide +kernel), List.mem_of_getElem? (i := 401) (by decide +kernel)⟩
theorem lw_p22 : lw_okq (⟨"AngleChains$Deduction", "triesLine", "(I)Z"⟩, 13) := ⟨⟨by decide +kernel, by decide +kernel⟩, List.mem_of_getElem? (i := 40) (by decide +kernel), List.mem_of_getElem? (i := 404) (by decide +kernel), List.mem_of_getElem? (i := 405) (by decide +kernel)⟩
theorem lw_p23 : lw_okq (⟨"AngleChains$Deduction", "areOnLine", "(I)Z"⟩, 13) := ⟨⟨by decide +kernel, by decide +kernel⟩, List.mem_of_getElem? (i := 40) (by decide +kernel), List.mem_of_getElem? (i := 408) (by decide +kernel), List.mem_of_getElem? (i := 409) (by decide +kernel)⟩
theorem lw_p24 : lw_okq (⟨"AngleChains$Deduction", "haveDifference", "(III)Z"⟩, 13) := ⟨⟨by decide +kernel, by decide +kernel⟩, List.mem_of_getElem? (i := 40) (by decide +kernel), List.mem_of_getElem? (i := 413) (by decide +kernel), List.mem_of_getElem? (i := 414) (by decide +kernel)⟩
theorem lw_p25 : lw_okq (⟨"AngleChains$Deduction", "triesCircle", "(I)Z"⟩, 13) := ⟨⟨by decide +kernel, by decide +kernel⟩, List.mem_of_getElem? (i := 40) (by decide +kernel), List.mem_of_getElem? (i := 421) (by decide +kernel), List.mem_of_getElem? (i := 422) (by decide +kernel)⟩
theorem lw_p26 : lw_okq (⟨"AngleChains$Deduction", "areOnCircle", "(I)Z"⟩, 13) := ⟨⟨by decide +kernel, by decide +kernel⟩, List.mem_of_getElem? (i := 40) (by decide +kernel), List.mem_of_getElem? (i := 425) (by decide +kernel), List.mem_of_getElem? (i := 426) (by decide +kernel)⟩
theorem lw_p27 : lw_okq (⟨"AngleChains$Deduction", "haveTurns", "(IIII)Z"⟩, 13) := ⟨⟨by decide +kernel, by decide +kernel⟩, List.mem_of_getElem? (i := 40) (by decide +kernel), List.mem_of_getElem? (i := 429) (by decide +kernel), List.mem_of_getElem? (i := 430) (by decide +kernel)⟩
theorem lw_p28 : lw_okq (⟨"AngleChains$Deduction", "triesIsosceles", "(I)Z"⟩, 13) := ⟨⟨by decide +kernel, by decide +kernel⟩, List.mem_of_getElem? (i := 40) (by decide +kernel), List.mem_of_getElem? (i := 433) (by decide +kernel), List.mem_of_getElem? (i := 434) (by decide +kernel)⟩
theorem lw_p29 : lw_okq (⟨"AngleChains$Deduction", "linksRowTo", "(II)Z"⟩, 13) := ⟨⟨by decide +kernel, by decide +kernel⟩, List.mem_of_getElem? (i := 40) (by decide +kernel), List.mem_of_getElem? (i := 437) (by decide +kernel), List.mem_of_getElem? (i := 438) (by decide +kernel)⟩
theorem lw_p30 : lw_okq (⟨"AngleChains$Deduction", "areSame", "(II)Z"⟩, 13) := ⟨⟨by decide +kernel, by decide +kernel⟩, List.mem_of_getElem? (i := 40) (by decide +kernel), List.mem_of_getElem? (i := 441) (by decide +kernel), List.mem_of_getElem? (i := 442) (by decide +kernel)⟩
theorem lw_p31 : lw_okq (⟨"AngleChains$Deduction", "triesDiameter", "(I)Z"⟩, 13) := ⟨⟨by decide +kernel, by decide +kernel⟩, List.mem_of_getElem? (i := 40) (by decide +kernel), List.mem_of_getElem? (i := 445) (by decide +kernel), List.mem_of_getElem? (i := 446) (by decide +kernel)⟩
def lw_privs_2 : List (MethodName × Nat) := [(⟨"AngleChains$Deduction", "joinCircle", "(I)V"⟩, 13), (⟨"AngleChains$Deduction", "joinLengths", "(II)V"⟩, 13), (⟨"AngleChains$Deduction", "writeRowOf", "(I)V"⟩, 13), (⟨"AngleChains$Deduction", "writeDifference", "(III)V"⟩, 13), (⟨"AngleChains$Deduction", "writeTurns", "(IIII)V"⟩, 13), (⟨"AngleChains$Deduction", "usesUp", "(I)Z"⟩, 13), (⟨"AngleChains$Deduction", "triesLine", "(I)Z"⟩, 13), (⟨"AngleChains$Deduction", "areOnLine", "(I)Z"⟩, 13), (⟨"AngleChains$Deduction", "haveDifference", "(III)Z"⟩, 13), (⟨"AngleChains$Deduction", "triesCircle", "(I)Z"⟩, 13), (⟨"AngleChains$Deduction", "areOnCircle", "(I)Z"⟩, 13), (⟨"AngleChains$Deduction", "haveTurns", "(IIII)Z"⟩, 13), (⟨"AngleChains$Deduction", "triesIsosceles", "(I)Z"⟩, 13), (⟨"AngleChains$Deduction", "linksRowTo", "(II)Z"⟩, 13), (⟨"AngleChains$Deduction", "areSame", "(II)Z"⟩, 13), (⟨"AngleChains$Deduction", "triesDiameter", "(I)Z"⟩, 13)]
theorem lw_r2 : ∀ q ∈ lw_privs_2, lw_okq q := List.forall_mem_cons.mpr ⟨lw_p16, List.forall_mem_cons.mpr ⟨lw_p17, List.forall_mem_cons.mpr ⟨lw_p18, List.forall_mem_cons.mpr ⟨lw_p19, List.forall_mem_cons.mpr ⟨lw_p20, List.forall_mem_cons.mpr ⟨lw_p21, List.forall_mem_cons.mpr ⟨lw_p22, List.forall_mem_cons.mpr ⟨lw_p23, List.forall_mem_cons.mpr ⟨lw_p24, List.forall_mem_cons.mpr ⟨lw_p25, List.forall_mem_cons.mpr ⟨lw_p26, List.forall_mem_cons.mpr ⟨lw_p27, List.forall_mem_cons.mpr ⟨lw_p28, List.forall_mem_cons.mpr ⟨lw_p29, List.forall_mem_cons.mpr ⟨lw_p30, List.forall_mem_cons.mpr ⟨lw_p31, fun _ h => absurd h List.not_mem_nil⟩⟩⟩⟩⟩⟩⟩⟩⟩⟩⟩⟩⟩⟩⟩⟩
theorem lw_p32 : lw_okq (⟨"AngleChains$Deduction", "isMiddle", "(III)Z"⟩, 13) := ⟨⟨by decide +kernel, by decide +kernel⟩, List.mem_of_getElem? (i := 40) (by decide +kernel), List.mem_of_getElem? (i := 449) (by decide +kernel), List.mem_of_getElem? (i := 450) (by decide +kernel)⟩
theorem lw_p33 : lw_okq (⟨"AngleChains$Deduction", "triesCentre", "(I)Z"⟩, 13) := ⟨⟨by decide +kernel, by decide +kernel⟩, List.mem_of_getElem? (i := 40) (by decide +kernel), List.mem_of_getElem? (i := 454) (by decide +kernel), List.mem_of_getElem? (i := 455) (by decide +kernel)⟩
theorem lw_p34 : lw_okq (⟨"AngleChains$Deduction", "triesBisector", "(I)Z"⟩, 13) := ⟨⟨by decide +kernel, by decide +kernel⟩, List.mem_of_getElem? (i := 40) (by decide +kernel), List.mem_of_getElem? (i := 458) (by decide +kernel), List.mem_of_getElem? (i := 459) (by decide +kernel)⟩
theorem lw_p35 : lw_okq (⟨"AngleChains$Deduction", "triesMidline", "(I)Z"⟩, 13) := ⟨⟨by decide +kernel, by decide +kernel⟩, List.mem_of_getElem? (i := 40) (by decide +kernel), List.mem_of_getElem? (i := 462) (by decide +kernel), List.mem_of_getElem? (i := 463) (by decide +kernel)⟩
theorem lw_p36 : lw_okq (⟨"AngleChains$Deduction", "triesParallelogram", "(I)Z"⟩, 13) := ⟨⟨by decide +kernel, by decide +kernel⟩, List.mem_of_getElem? (i := 40) (by decide +kernel), List.mem_of_getElem? (i := 466) (by decide +kernel), List.mem_of_getElem? (i := 467) (by decide +kernel)⟩
theorem lw_p37 : lw_okq (⟨"AngleChains$Deduction", "isThere", "(I)Z"⟩, 13) := ⟨⟨by decide +kernel, by decide +kernel⟩, List.mem_of_getElem? (i := 40) (by decide +kernel), List.mem_of_getElem? (i := 515) (by decide +kernel), List.mem_of_getElem? (i := 516) (by decide +kernel)⟩
theorem lw_p38 : lw_okq (⟨"AngleChainsModel", "isFact", "(I)Z"⟩, 34) := ⟨⟨by decide +kernel, by decide +kernel⟩, List.mem_of_getElem? (i := 534) (by decide +kernel), List.mem_of_getElem? (i := 656) (by decide +kernel), List.mem_of_getElem? (i := 657) (by decide +kernel)⟩
theorem lw_p39 : lw_okq (⟨"AngleChainsModel", "holds", "(I)Z"⟩, 34) := ⟨⟨by decide +kernel, by decide +kernel⟩, List.mem_of_getElem? (i := 534) (by decide +kernel), List.mem_of_getElem? (i := 663) (by decide +kernel), List.mem_of_getElem? (i := 664) (by decide +kernel)⟩
theorem lw_p40 : lw_okq (⟨"AngleChainsModel", "p", "(I)I"⟩, 34) := ⟨⟨by decide +kernel, by decide +kernel⟩, List.mem_of_getElem? (i := 534) (by decide +kernel), List.mem_of_getElem? (i := 667) (by decide +kernel), List.mem_of_getElem? (i := 668) (by decide +kernel)⟩
theorem lw_p41 : lw_okq (⟨"AngleChainsModel", "isProper", "(III)Z"⟩, 34) := ⟨⟨by decide +kernel, by decide +kernel⟩, List.mem_of_getElem? (i := 534) (by decide +kernel), List.mem_of_getElem? (i := 671) (by decide +kernel), List.mem_of_getElem? (i := 672) (by decide +kernel)⟩
theorem lw_p42 : lw_okq (⟨"AngleChainsModel", "cross", "(IIII)J"⟩, 34) := ⟨⟨by decide +kernel, by decide +kernel⟩, List.mem_of_getElem? (i := 534) (by decide +kernel), List.mem_of_getElem? (i := 675) (by decide +kernel), List.mem_of_getElem? (i := 676) (by decide +kernel)⟩
theorem lw_p43 : lw_okq (⟨"AngleChainsModel", "dot", "(IIII)J"⟩, 34) := ⟨⟨by decide +kernel, by decide +kernel⟩, List.mem_of_getElem? (i := 534) (by decide +kernel), List.mem_of_getElem? (i := 679) (by decide +kernel), List.mem_of_getElem? (i := 680) (by decide +kernel)⟩
theorem lw_p44 : lw_okq (⟨"AngleChainsModel", "isCircle", "(IIII)Z"⟩, 34) := ⟨⟨by decide +kernel, by decide +kernel⟩, List.mem_of_getElem? (i := 534) (by decide +kernel), List.mem_of_getElem? (i := 683) (by decide +kernel), List.mem_of_getElem? (i := 684) (by decide +kernel)⟩
theorem lw_p45 : lw_okq (⟨"AngleChainsModel", "isTurn", "(IIIIIIII)Z"⟩, 34) := ⟨⟨by decide +kernel, by decide +kernel⟩, List.mem_of_getElem? (i := 534) (by decide +kernel), List.mem_of_getElem? (i := 687) (by decide +kernel), List.mem_of_getElem? (i := 688) (by decide +kernel)⟩
theorem lw_p46 : lw_okq (⟨"AngleChainsModel", "refresh", "()V"⟩, 34) := ⟨⟨by decide +kernel, by decide +kernel⟩, List.mem_of_getElem? (i := 534) (by decide +kernel), List.mem_of_getElem? (i := 703) (by decide +kernel), List.mem_of_getElem? (i := 704) (by decide +kernel)⟩
theorem lw_p47 : lw_okq (⟨"AngleChainsModel", "work", "()V"⟩, 34) := ⟨⟨by decide +kernel, by decide +kernel⟩, List.mem_of_getElem? (i := 534) (by decide +kernel), List.mem_of_getElem? (i := 707) (by decide +kernel), List.mem_of_getElem? (i := 708) (by decide +kernel)⟩
def lw_privs_3 : List (MethodName × Nat) := [(⟨"AngleChains$Deduction", "isMiddle", "(III)Z"⟩, 13), (⟨"AngleChains$Deduction", "triesCentre", "(I)Z"⟩, 13), (⟨"AngleChains$Deduction", "triesBisector", "(I)Z"⟩, 13), (⟨"AngleChains$Deduction", "triesMidline", "(I)Z"⟩, 13), (⟨"AngleChains$Deduction", "triesParallelogram", "(I)Z"⟩, 13), (⟨"AngleChains$Deduction", "isThere", "(I)Z"⟩, 13), (⟨"AngleChainsModel", "isFact", "(I)Z"⟩, 34), (⟨"AngleChainsModel", "holds", "(I)Z"⟩, 34), (⟨"AngleChainsModel", "p", "(I)I"⟩, 34), (⟨"AngleChainsModel", "isProper", "(III)Z"⟩, 34), (⟨"AngleChainsModel", "cross", "(IIII)J"⟩, 34), (⟨"AngleChainsModel", "dot", "(IIII)J"⟩, 34), (⟨"AngleChainsModel", "isCircle", "(IIII)Z"⟩, 34), (⟨"AngleChainsModel", "isTurn", "(IIIIIIII)Z"⟩, 34), (⟨"AngleChainsModel", "refresh", "()V"⟩, 34), (⟨"AngleChainsModel", "work", "()V"⟩, 34)]
theorem lw_r3 : ∀ q ∈ lw_privs_3, lw_okq q := List.forall_mem_cons.mpr ⟨lw_p32, List.forall_mem_cons.mpr ⟨lw_p33, List.forall_mem_cons.mpr ⟨lw_p34, List.forall_mem_cons.mpr ⟨lw_p35, List.forall_mem_cons.mpr ⟨lw_p36, List.forall_mem_cons.mpr ⟨lw_p37, List.forall_mem_cons.mpr ⟨lw_p38, List.forall_mem_cons.mpr ⟨lw_p39, List.forall_mem_cons.mpr ⟨lw_p40, List.forall_mem_cons.mpr ⟨lw_p41, List.forall_mem_cons.mpr ⟨lw_p42, List.forall_mem_cons.mpr ⟨lw_p43, List.forall_mem_cons.mpr ⟨lw_p44, List.forall_mem_cons.mpr ⟨lw_p45, List.forall_mem_cons.mpr ⟨lw_p46, List.forall_mem_cons.mpr ⟨lw_p47, fun _ h => absurd h List.not_mem_nil⟩⟩⟩⟩⟩⟩⟩⟩⟩⟩⟩⟩⟩⟩⟩⟩
theorem lw_p48 : lw_okq (⟨"AngleChainsModel", "begin", "()V"⟩, 34) := ⟨⟨by decide +kernel, by decide +kernel⟩, List.mem_of_getElem? (i := 534) (by decide +kernel), List.mem_of_getElem? (i := 711) (by decide +kernel), List.mem_of_getElem? (i := 712) (by decide +kernel)⟩
theorem lw_p49 : lw_okq (⟨"AngleChainsModel", "numberLines", "()V"⟩, 34) := ⟨⟨by decide +kernel, by decide +kernel⟩, List.mem_of_getElem? (i := 534) (by decide +kernel), List.mem_of_getElem? (i := 715) (by decide +kernel), List.mem_of_getElem? (i := 716) (by decide +kernel)⟩
theorem lw_p50 : lw_okq (⟨"AngleChainsModel", "lineOf", "(II)I"⟩, 34) := ⟨⟨by decide +kernel, by decide +kernel⟩, List.mem_of_getElem? (i := 534) (by decide +kernel), List.mem_of_getElem? (i := 719) (by decide +kernel), List.mem_of_getElem? (i := 720) (by decide +kernel)⟩
theorem lw_p51 : lw_okq (⟨"AngleChainsModel", "startLattice", "()V"⟩, 34) := ⟨⟨by decide +kernel, by decide +kernel⟩, List.mem_of_getElem? (i := 534) (by decide +kernel), List.mem_of_getElem? (i := 723) (by decide +kernel), List.mem_of_getElem? (i := 724) (by decide +kernel)⟩
theorem lw_p52 : lw_okq (⟨"AngleChainsModel", "lineFacts", "()V"⟩, 34) := ⟨⟨by decide +kernel, by decide +kernel⟩, List.mem_of_getElem? (i := 534) (by decide +kernel), List.mem_of_getElem? (i := 728) (by decide +kernel), List.mem_of_getElem? (i := 729) (by decide +kernel)⟩
theorem lw_p53 : lw_okq (⟨"AngleChainsModel", "f", "(II)I"⟩, 34) := ⟨⟨by decide +kernel, by decide +kernel⟩, List.mem_of_getElem? (i := 534) (by decide +kernel), List.mem_of_getElem? (i := 732) (by decide +kernel), List.mem_of_getElem? (i := 733) (by decide +kernel)⟩
theorem lw_p54 : lw_okq (⟨"AngleChainsModel", "join", "(I)V"⟩, 34) := ⟨⟨by decide +kernel, by decide +kernel⟩, List.mem_of_getElem? (i := 534) (by decide +kernel), List.mem_of_getElem? (i := 736) (by decide +kernel), List.mem_of_getElem? (i := 737) (by decide +kernel)⟩
theorem lw_p55 : lw_okq (⟨"AngleChainsModel", "round", "(I)V"⟩, 34) := ⟨⟨by decide +kernel, by decide +kernel⟩, List.mem_of_getElem? (i := 534) (by decide +kernel), List.mem_of_getElem? (i := 743) (by decide +kernel), List.mem_of_getElem? (i := 744) (by decide +kernel)⟩
theorem lw_p56 : lw_okq (⟨"AngleChainsModel", "circleOf", "(III)I"⟩, 34) := ⟨⟨by decide +kernel, by decide +kernel⟩, List.mem_of_getElem? (i := 534) (by decide +kernel), List.mem_of_getElem? (i := 747) (by decide +kernel), List.mem_of_getElem? (i := 748) (by decide +kernel)⟩
theorem lw_p57 : lw_okq (⟨"AngleChainsModel", "equal", "(IIII)V"⟩, 34) := ⟨⟨by decide +kernel, by decide +kernel⟩, List.mem_of_getElem? (i := 534) (by decide +kernel), List.mem_of_getElem? (i := 751) (by decide +kernel), List.mem_of_getElem? (i := 752) (by decide +kernel)⟩
theorem lw_p58 : lw_okq (⟨"AngleChainsModel", "lengthOf", "(II)I"⟩, 34) := ⟨⟨by decide +kernel, by decide +kernel⟩, List.mem_of_getElem? (i := 534) (by decide +kernel), List.mem_of_getElem? (i := 755) (by decide +kernel), List.mem_of_getElem? (i := 756) (by decide +kernel)⟩
theorem lw_p59 : lw_okq (⟨"AngleChainsModel", "moveColumns", "()V"⟩, 34) := ⟨⟨by decide +kernel, by decide +kernel⟩, List.mem_of_getElem? (i := 534) (by decide +kernel), List.mem_of_getElem? (i := 759) (by decide +kernel), List.mem_of_getElem? (i := 760) (by decide +kernel)⟩
theorem lw_p60 : lw_okq (⟨"AngleChainsModel", "columnOf", "(II)I"⟩, 34) := ⟨⟨by decide +kernel, by decide +kernel⟩, List.mem_of_getElem? (i := 534) (by decide +kernel), List.mem_of_getElem? (i := 763) (by decide +kernel), List.mem_of_getElem? (i := 764) (by decide +kernel)⟩
theorem lw_p61 : lw_okq (⟨"AngleChainsModel", "clearRow", "()V"⟩, 34) := ⟨⟨by decide +kernel, by decide +kernel⟩, List.mem_of_getElem? (i := 534) (by decide +kernel), List.mem_of_getElem? (i := 767) (by decide +kernel), List.mem_of_getElem? (i := 768) (by decide +kernel)⟩
theorem lw_p62 : lw_okq (⟨"AngleChainsModel", "comes", "()Z"⟩, 34) := ⟨⟨by decide +kernel, by decide +kernel⟩, List.mem_of_getElem? (i := 534) (by decide +kernel), List.mem_of_getElem? (i := 771) (by decide +kernel), List.mem_of_getElem? (i := 772) (by decide +kernel)⟩
theorem lw_p63 : lw_okq (⟨"AngleChainsModel", "reduce", "(I)V"⟩, 34) := ⟨⟨by decide +kernel, by decide +kernel⟩, List.mem_of_getElem? (i := 534) (by decide +kernel), List.mem_of_getElem? (i := 775) (by decide +kernel), List.mem_of_getElem? (i := 776) (by decide +kernel)⟩
def lw_privs_4 : List (MethodName × Nat) := [(⟨"AngleChainsModel", "begin", "()V"⟩, 34), (⟨"AngleChainsModel", "numberLines", "()V"⟩, 34), (⟨"AngleChainsModel", "lineOf", "(II)I"⟩, 34), (⟨"AngleChainsModel", "startLattice", "()V"⟩, 34), (⟨"AngleChainsModel", "lineFacts", "()V"⟩, 34), (⟨"AngleChainsModel", "f", "(II)I"⟩, 34), (⟨"AngleChainsModel", "join", "(I)V"⟩, 34), (⟨"AngleChainsModel", "round", "(I)V"⟩, 34), (⟨"AngleChainsModel", "circleOf", "(III)I"⟩, 34), (⟨"AngleChainsModel", "equal", "(IIII)V"⟩, 34), (⟨"AngleChainsModel", "lengthOf", "(II)I"⟩, 34), (⟨"AngleChainsModel", "moveColumns", "()V"⟩, 34), (⟨"AngleChainsModel", "columnOf", "(II)I"⟩, 34), (⟨"AngleChainsModel", "clearRow", "()V"⟩, 34), (⟨"AngleChainsModel", "comes", "()Z"⟩, 34), (⟨"AngleChainsModel", "reduce", "(I)V"⟩, 34)]
theorem lw_r4 : ∀ q ∈ lw_privs_4, lw_okq q := List.forall_mem_cons.mpr ⟨lw_p48, List.forall_mem_cons.mpr ⟨lw_p49, List.forall_mem_cons.mpr ⟨lw_p50, List.forall_mem_cons.mpr ⟨lw_p51, List.forall_mem_cons.mpr ⟨lw_p52, List.forall_mem_cons.mpr ⟨lw_p53, List.forall_mem_cons.mpr ⟨lw_p54, List.forall_mem_cons.mpr ⟨lw_p55, List.forall_mem_cons.mpr ⟨lw_p56, List.forall_mem_cons.mpr ⟨lw_p57, List.forall_mem_cons.mpr ⟨lw_p58, List.forall_mem_cons.mpr ⟨lw_p59, List.forall_mem_cons.mpr ⟨lw_p60, List.forall_mem_cons.mpr ⟨lw_p61, List.forall_mem_cons.mpr ⟨lw_p62, List.forall_mem_cons.mpr ⟨lw_p63, fun _ h => absurd h List.not_mem_nil⟩⟩⟩⟩⟩⟩⟩⟩⟩⟩⟩⟩⟩⟩⟩⟩
theorem lw_p64 : lw_okq (⟨"AngleChainsModel", "layStep", "(I)V"⟩, 34) := ⟨⟨by decide +kernel, by decide +kernel⟩, List.mem_of_getElem? (i := 534) (by decide +kernel), List.mem_of_getElem? (i := 782) (by decide +kernel), List.mem_of_getElem? (i := 783) (by decide +kernel)⟩
theorem lw_p65 : lw_okq (⟨"AngleChainsModel", "meet", "(I)V"⟩, 34) := ⟨⟨by decide +kernel, by decide +kernel⟩, List.mem_of_getElem? (i := 534) (by decide +kernel), List.mem_of_getElem? (i := 787) (by decide +kernel), List.mem_of_getElem? (i := 788) (by decide +kernel)⟩
theorem lw_p66 : lw_okq (⟨"AngleChainsModel", "rowFacts", "()V"⟩, 34) := ⟨⟨by decide +kernel, by decide +kernel⟩, List.mem_of_getElem? (i := 534) (by decide +kernel), List.mem_of_getElem? (i := 791) (by decide +kernel), List.mem_of_getElem? (i := 792) (by decide +kernel)⟩
theorem lw_p67 : lw_okq (⟨"AngleChainsModel", "rowOf", "(IIIIJ)V"⟩, 34) := ⟨⟨by decide +kernel, by decide +kernel⟩, List.mem_of_getElem? (i := 534) (by decide +kernel), List.mem_of_getElem? (i := 795) (by decide +kernel), List.mem_of_getElem? (i := 796) (by decide +kernel)⟩
theorem lw_p68 : lw_okq (⟨"AngleChainsModel", "put", "(IIJ)V"⟩, 34) := ⟨⟨by decide +kernel, by decide +kernel⟩, List.mem_of_getElem? (i := 534) (by decide +kernel), List.mem_of_getElem? (i := 799) (by decide +kernel), List.mem_of_getElem? (i := 800) (by decide +kernel)⟩
theorem lw_p69 : lw_okq (⟨"AngleChainsModel", "rowComes", "()V"⟩, 34) := ⟨⟨by decide +kernel, by decide +kernel⟩, List.mem_of_getElem? (i := 534) (by decide +kernel), List.mem_of_getElem? (i := 803) (by decide +kernel), List.mem_of_getElem? (i := 804) (by decide +kernel)⟩
theorem lw_p70 : lw_okq (⟨"AngleChainsModel", "numberAll", "()V"⟩, 34) := ⟨⟨by decide +kernel, by decide +kernel⟩, List.mem_of_getElem? (i := 534) (by decide +kernel), List.mem_of_getElem? (i := 807) (by decide +kernel), List.mem_of_getElem? (i := 808) (by decide +kernel)⟩
theorem lw_p71 : lw_okq (⟨"AngleChainsModel", "number", "()I"⟩, 34) := ⟨⟨by decide +kernel, by decide +kernel⟩, List.mem_of_getElem? (i := 534) (by decide +kernel), List.mem_of_getElem? (i := 811) (by decide +kernel), List.mem_of_getElem? (i := 812) (by decide +kernel)⟩
theorem lw_p72 : lw_okq (⟨"AngleChainsModel", "isFound", "(I)Z"⟩, 34) := ⟨⟨by decide +kernel, by decide +kernel⟩, List.mem_of_getElem? (i := 534) (by decide +kernel), List.mem_of_getElem? (i := 818) (by decide +kernel), List.mem_of_getElem? (i := 819) (by decide +kernel)⟩
theorem lw_p73 : lw_okq (⟨"AngleChainsModel", "ruleOne", "()V"⟩, 34) := ⟨⟨by decide +kernel, by decide +kernel⟩, List.mem_of_getElem? (i := 534) (by decide +kernel), List.mem_of_getElem? (i := 822) (by decide +kernel), List.mem_of_getElem? (i := 823) (by decide +kernel)⟩
theorem lw_p74 : lw_okq (⟨"AngleChainsModel", "turnOf", "(IIII)I"⟩, 34) := ⟨⟨by decide +kernel, by decide +kernel⟩, List.mem_of_getElem? (i := 534) (by decide +kernel), List.mem_of_getElem? (i := 826) (by decide +kernel), List.mem_of_getElem? (i := 827) (by decide +kernel)⟩
theorem lw_p75 : lw_okq (⟨"AngleChainsModel", "threes", "()V"⟩, 34) := ⟨⟨by decide +kernel, by decide +kernel⟩, List.mem_of_getElem? (i := 534) (by decide +kernel), List.mem_of_getElem? (i := 830) (by decide +kernel), List.mem_of_getElem? (i := 831) (by decide +kernel)⟩
theorem lw_p76 : lw_okq (⟨"AngleChainsModel", "isEqual", "(IIII)Z"⟩, 34) := ⟨⟨by decide +kernel, by decide +kernel⟩, List.mem_of_getElem? (i := 534) (by decide +kernel), List.mem_of_getElem? (i := 834) (by decide +kernel), List.mem_of_getElem? (i := 835) (by decide +kernel)⟩
theorem lw_p77 : lw_okq (⟨"AngleChainsModel", "fours", "()V"⟩, 34) := ⟨⟨by decide +kernel, by decide +kernel⟩, List.mem_of_getElem? (i := 534) (by decide +kernel), List.mem_of_getElem? (i := 839) (by decide +kernel), List.mem_of_getElem? (i := 840) (by decide +kernel)⟩
theorem lw_p78 : lw_okq (⟨"AngleChainsModel", "angles", "(IIII)V"⟩, 34) := ⟨⟨by decide +kernel, by decide +kernel⟩, List.mem_of_getElem? (i := 534) (by decide +kernel), List.mem_of_getElem? (i := 843) (by decide +kernel), List.mem_of_getElem? (i := 844) (by decide +kernel)⟩
theorem lw_p79 : lw_okq (⟨"AngleChainsModel", "parallels", "(IIII)V"⟩, 34) := ⟨⟨by decide +kernel, by decide +kernel⟩, List.mem_of_getElem? (i := 534) (by decide +kernel), List.mem_of_getElem? (i := 847) (by decide +kernel), List.mem_of_getElem? (i := 848) (by decide +kernel)⟩
def lw_privs_5 : List (MethodName × Nat) := [(⟨"AngleChainsModel", "layStep", "(I)V"⟩, 34), (⟨"AngleChainsModel", "meet", "(I)V"⟩, 34), (⟨"AngleChainsModel", "rowFacts", "()V"⟩, 34), (⟨"AngleChainsModel", "rowOf", "(IIIIJ)V"⟩, 34), (⟨"AngleChainsModel", "put", "(IIJ)V"⟩, 34), (⟨"AngleChainsModel", "rowComes", "()V"⟩, 34), (⟨"AngleChainsModel", "numberAll", "()V"⟩, 34), (⟨"AngleChainsModel", "number", "()I"⟩, 34), (⟨"AngleChainsModel", "isFound", "(I)Z"⟩, 34), (⟨"AngleChainsModel", "ruleOne", "()V"⟩, 34), (⟨"AngleChainsModel", "turnOf", "(IIII)I"⟩, 34), (⟨"AngleChainsModel", "threes", "()V"⟩, 34), (⟨"AngleChainsModel", "isEqual", "(IIII)Z"⟩, 34), (⟨"AngleChainsModel", "fours", "()V"⟩, 34), (⟨"AngleChainsModel", "angles", "(IIII)V"⟩, 34), (⟨"AngleChainsModel", "parallels", "(IIII)V"⟩, 34)]
theorem lw_r5 : ∀ q ∈ lw_privs_5, lw_okq q := List.forall_mem_cons.mpr ⟨lw_p64, List.forall_mem_cons.mpr ⟨lw_p65, List.forall_mem_cons.mpr ⟨lw_p66, List.forall_mem_cons.mpr ⟨lw_p67, List.forall_mem_cons.mpr ⟨lw_p68, List.forall_mem_cons.mpr ⟨lw_p69, List.forall_mem_cons.mpr ⟨lw_p70, List.forall_mem_cons.mpr ⟨lw_p71, List.forall_mem_cons.mpr ⟨lw_p72, List.forall_mem_cons.mpr ⟨lw_p73, List.forall_mem_cons.mpr ⟨lw_p74, List.forall_mem_cons.mpr ⟨lw_p75, List.forall_mem_cons.mpr ⟨lw_p76, List.forall_mem_cons.mpr ⟨lw_p77, List.forall_mem_cons.mpr ⟨lw_p78, List.forall_mem_cons.mpr ⟨lw_p79, fun _ h => absurd h List.not_mem_nil⟩⟩⟩⟩⟩⟩⟩⟩⟩⟩⟩⟩⟩⟩⟩⟩
theorem lw_p80 : lw_okq (⟨"AngleChainsModel", "perpendiculars", "(IIII)V"⟩, 34) := ⟨⟨by decide +kernel, by decide +kernel⟩, List.mem_of_getElem? (i := 534) (by decide +kernel), List.mem_of_getElem? (i := 851) (by decide +kernel), List.mem_of_getElem? (i := 852) (by decide +kernel)⟩
theorem lw_p81 : lw_okq (⟨"AngleChainsModel", "halves", "(IIII)V"⟩, 34) := ⟨⟨by decide +kernel, by decide +kernel⟩, List.mem_of_getElem? (i := 534) (by decide +kernel), List.mem_of_getElem? (i := 855) (by decide +kernel), List.mem_of_getElem? (i := 856) (by decide +kernel)⟩
theorem lw_p82 : lw_okq (⟨"AngleChainsModel", "middles", "(IIII)V"⟩, 34) := ⟨⟨by decide +kernel, by decide +kernel⟩, List.mem_of_getElem? (i := 534) (by decide +kernel), List.mem_of_getElem? (i := 859) (by decide +kernel), List.mem_of_getElem? (i := 860) (by decide +kernel)⟩
theorem lw_p83 : lw_okq (⟨"AngleChainsModel", "wheels", "(IIII)V"⟩, 34) := ⟨⟨by decide +kernel, by decide +kernel⟩, List.mem_of_getElem? (i := 534) (by decide +kernel), List.mem_of_getElem? (i := 863) (by decide +kernel), List.mem_of_getElem? (i := 864) (by decide +kernel)⟩
theorem lw_p84 : lw_okq (⟨"AngleChainsModel", "follow", "(I)Z"⟩, 34) := ⟨⟨by decide +kernel, by decide +kernel⟩, List.mem_of_getElem? (i := 534) (by decide +kernel), List.mem_of_getElem? (i := 867) (by decide +kernel), List.mem_of_getElem? (i := 868) (by decide +kernel)⟩
theorem lw_p85 : lw_okq (⟨"AngleChainsModel", "rowFollows", "()Z"⟩, 34) := ⟨⟨by decide +kernel, by decide +kernel⟩, List.mem_of_getElem? (i := 534) (by decide +kernel), List.mem_of_getElem? (i := 871) (by decide +kernel), List.mem_of_getElem? (i := 872) (by decide +kernel)⟩
theorem lw_p86 : lw_okq (⟨"AngleChainsModel", "noPoint", "(I)Z"⟩, 34) := ⟨⟨by decide +kernel, by decide +kernel⟩, List.mem_of_getElem? (i := 534) (by decide +kernel), List.mem_of_getElem? (i := 887) (by decide +kernel), List.mem_of_getElem? (i := 888) (by decide +kernel)⟩
theorem lw_p87 : lw_okq (⟨"AngleChainsModel", "circles", "()I"⟩, 34) := ⟨⟨by decide +kernel, by decide +kernel⟩, List.mem_of_getElem? (i := 534) (by decide +kernel), List.mem_of_getElem? (i := 903) (by decide +kernel), List.mem_of_getElem? (i := 904) (by decide +kernel)⟩
theorem lw_p88 : lw_okq (⟨"AngleChainsModel", "lengths", "()I"⟩, 34) := ⟨⟨by decide +kernel, by decide +kernel⟩, List.mem_of_getElem? (i := 534) (by decide +kernel), List.mem_of_getElem? (i := 910) (by decide +kernel), List.mem_of_getElem? (i := 911) (by decide +kernel)⟩
def lw_privs_6 : List (MethodName × Nat) := [(⟨"AngleChainsModel", "perpendiculars", "(IIII)V"⟩, 34), (⟨"AngleChainsModel", "halves", "(IIII)V"⟩, 34), (⟨"AngleChainsModel", "middles", "(IIII)V"⟩, 34), (⟨"AngleChainsModel", "wheels", "(IIII)V"⟩, 34), (⟨"AngleChainsModel", "follow", "(I)Z"⟩, 34), (⟨"AngleChainsModel", "rowFollows", "()Z"⟩, 34), (⟨"AngleChainsModel", "noPoint", "(I)Z"⟩, 34), (⟨"AngleChainsModel", "circles", "()I"⟩, 34), (⟨"AngleChainsModel", "lengths", "()I"⟩, 34)]
theorem lw_r6 : ∀ q ∈ lw_privs_6, lw_okq q := List.forall_mem_cons.mpr ⟨lw_p80, List.forall_mem_cons.mpr ⟨lw_p81, List.forall_mem_cons.mpr ⟨lw_p82, List.forall_mem_cons.mpr ⟨lw_p83, List.forall_mem_cons.mpr ⟨lw_p84, List.forall_mem_cons.mpr ⟨lw_p85, List.forall_mem_cons.mpr ⟨lw_p86, List.forall_mem_cons.mpr ⟨lw_p87, List.forall_mem_cons.mpr ⟨lw_p88, fun _ h => absurd h List.not_mem_nil⟩⟩⟩⟩⟩⟩⟩⟩⟩
def lw_privs : List (MethodName × Nat) := lw_privs_1 ++ (lw_privs_2 ++ (lw_privs_3 ++ (lw_privs_4 ++ (lw_privs_5 ++ (lw_privs_6)))))
def lw_tbl : List Cond := k2_sels lw_privs ++ tables_1
theorem lw_privs_ok : ∀ q ∈ lw_privs, lw_okq q := by
  show ∀ q ∈ lw_privs_1 ++ (lw_privs_2 ++ (lw_privs_3 ++ (lw_privs_4 ++ (lw_privs_5 ++ (lw_privs_6))))), lw_okq q
  exact List.forall_mem_append.mpr ⟨lw_r1, List.forall_mem_append.mpr ⟨lw_r2, List.forall_mem_append.mpr ⟨lw_r3, List.forall_mem_append.mpr ⟨lw_r4, List.forall_mem_append.mpr ⟨lw_r5, lw_r6⟩⟩⟩⟩⟩
end
section
/-! THE ABSTRACT MACHINE. A state is a list of cells (the k-th made cell is id k + 16; ids below 16 are read-only int arrays), a frame is pc, locals, stack. rx_run runs a method by its bytecode; rx_sound says that the machine does what rx_run does. -/
abbrev rx_C : Type := (Nat × vp_A) ⊕ (Nat × List Value)
abbrev rx_H : Type := List rx_C
abbrev rx_L : Type := List (Nat × Value)
abbrev rx_R : Type := Nat → Option (Nat × (Nat → Int32))
def rx_ad (ro : Nat → Nat) (base id : Nat) : Nat := if id < 16 then ro id else base + (id - 16)
def rx_cv (ad : Nat → Nat) : Value → Value
  | .ref k => .ref (ad k)
  | v => v
def rx_ca (ad : Nat → Nat) (a : vp_A) : vp_A := (a.1, match a.2 with
  | .inr (.inr (.inr (.inr f))) => .inr (.inr (.inr (.inr (fun i => (f i).map ad))))
  | x => x)
def rx_ce (ad : Nat → Nat) (dT : Nat → ClassId) : rx_C → va_E
  | .inl q => .inl (dT q.1, rx_ca ad q.2)
  | .inr q => .inr (q.1, q.2.map (rx_cv ad))
def rx_sz1 : rx_C → Nat
  | .inl q => q.2.1
  | .inr q => q.2.length
def rx_sz (h : rx_H) : Nat := (h.map rx_sz1).sum
def rx_lk (lv : rx_L) (i : Nat) : Option Value := (lv.find? (fun q => q.1 == i)).map (fun q => q.2)
def rx_s1 (lv : rx_L) (i : Nat) (v : Value) : rx_L := (i, v) :: lv.filter (fun q => !(q.1 == i) && !(q.1 + 1 == i && q.2.category == 2))
def rx_s2 (lv : rx_L) (i : Nat) (v : Value) : rx_L := (i, v) :: lv.filter (fun q => !(q.1 == i) && (!(q.1 == i + 1) && !(q.1 + 1 == i && q.2.category == 2)))
def rx_cl2 (ad : Nat → Nat) (lv : rx_L) : rx_L := lv.map (fun q => (q.1, rx_cv ad q.2))
theorem rx_cat (ad : Nat → Nat) (v : Value) : (rx_cv ad v).category = v.category := by cases v <;> rfl
theorem rx_lk_mem {lv : rx_L} {i : Nat} {v : Value} (h : rx_lk lv i = some v) : (i, v) ∈ lv := by
  unfold rx_lk at h
  cases hf : lv.find? (fun q => q.1 == i) with
  | none => rw [hf] at h; cases h
  | some q =>
    rw [hf] at h
    have h1 := List.mem_of_find?_eq_some hf
    have h2 := List.find?_some hf
    obtain ⟨a, b⟩ := q
    simp only [beq_iff_eq] at h2
    cases h
    subst h2
    exact h1
theorem rx_lk_at {ls : Array Slot} {nL : Nat} {ad : Nat → Nat} {lv : rx_L} {i : Nat} {v : Value} (hl : lv_has ls nL (rx_cl2 ad lv)) (h : rx_lk lv i = some v) : ls[i]? = some (.val (rx_cv ad v)) :=
  hl.2.2 (i, rx_cv ad v) (List.mem_map.mpr ⟨(i, v), rx_lk_mem h, rfl⟩)
theorem rx_s1_c (ad : Nat → Nat) (lv : rx_L) (i : Nat) (v : Value) : (i, rx_cv ad v) :: (rx_cl2 ad lv).filter (fun q => !(q.1 == i) && !(q.1 + 1 == i && q.2.category == 2)) = rx_cl2 ad (rx_s1 lv i v) := by
  simp only [rx_cl2, rx_s1, List.filter_map, List.map_cons]
  congr 2
  apply List.filter_congr
  intro q _
  simp only [Function.comp, rx_cat]
theorem rx_s2_c (ad : Nat → Nat) (lv : rx_L) (i : Nat) (v : Value) : (i, rx_cv ad v) :: (rx_cl2 ad lv).filter (fun q => !(q.1 == i) && (!(q.1 == i + 1) && !(q.1 + 1 == i && q.2.category == 2))) = rx_cl2 ad (rx_s2 lv i v) := by
  simp only [rx_cl2, rx_s2, List.filter_map, List.map_cons]
  congr 2
  apply List.filter_congr
  intro q _
  simp only [Function.comp, rx_cat]
def rx_W (D : va_G) (cl : List vw_C) (dT : Nat → ClassId) (ad : Nat → Nat) (base : Nat) (h : rx_H) (H : Heap) : Prop := H.size = base + h.length ∧ ∀ (k : Nat) (c : rx_C), h[k]? = some c → va_at D cl (base + k, rx_ce ad dT c) H
theorem rx_sz_set : ∀ (h : rx_H) (k : Nat) (c c' : rx_C), h[k]? = some c → rx_sz1 c' = rx_sz1 c → rx_sz (h.set k c') = rx_sz h
  | [], _, _, _, hk, _ => by simp at hk
  | a :: h, 0, c, c', hk, hs => by
    simp only [List.getElem?_cons_zero, Option.some.injEq] at hk
    subst hk
    simp only [rx_sz, List.set_cons_zero, List.map_cons, List.sum_cons, hs]
  | a :: h, k + 1, c, c', hk, hs => by
    simp only [List.getElem?_cons_succ] at hk
    have ih := rx_sz_set h k c c' hk hs
    simp only [rx_sz] at ih
    simp only [rx_sz, List.set_cons_succ, List.map_cons, List.sum_cons, ih]
theorem rx_sz_app (h h2 : rx_H) : rx_sz (h ++ h2) = rx_sz h + rx_sz h2 := by simp [rx_sz]
theorem rx_W.set {D : va_G} {cl : List vw_C} {dT : Nat → ClassId} {ad : Nat → Nat} {base : Nat} {h : rx_H} {H H1 : Heap} {k : Nat} {c' : rx_C} (hW : rx_W D cl dT ad base h H) (hk : k < h.length) (hz : H1.size = H.size) (he : va_at D cl (base + k, rx_ce ad dT c') H1) (ho : ∀ q : Nat, q ≠ base + k → H1[q]? = H[q]?) : rx_W D cl dT ad base (h.set k c') H1 := by
  refine ⟨by rw [hz, hW.1, List.length_set], fun j c hj => ?_⟩
  by_cases e : j = k
  · subst e
    rw [List.getElem?_set_self hk] at hj
    cases hj
    exact he
  · rw [List.getElem?_set_ne (Ne.symm e)] at hj
    exact (hW.2 j c hj).kept (ho (base + j) (by omega))
theorem rx_W.push {D : va_G} {cl : List vw_C} {dT : Nat → ClassId} {ad : Nat → Nat} {base : Nat} {h : rx_H} {H H1 : Heap} {c' : rx_C} (hW : rx_W D cl dT ad base h H) (hz : H1.size = H.size + 1) (he : va_at D cl (base + h.length, rx_ce ad dT c') H1) (ho : ∀ q : Nat, q < H.size → H1[q]? = H[q]?) : rx_W D cl dT ad base (h ++ [c']) H1 := by
  refine ⟨by rw [hz, hW.1]; simp; omega, fun j c hj => ?_⟩
  by_cases e : j < h.length
  · rw [List.getElem?_append_left e] at hj
    exact (hW.2 j c hj).kept (ho (base + j) (by rw [hW.1]; omega))
  · rw [List.getElem?_append_right (by omega)] at hj
    have hz : j - h.length < 1 := (List.getElem?_eq_some_iff.mp hj).1
    have e2 : j = h.length := by omega
    subst e2
    rw [Nat.sub_self] at hj
    cases hj
    exact he
theorem rx_one {D : va_G} {cl : List vw_C} {a : Nat} {e : va_E} {H : Heap} (h : va_at D cl (a, e) H) : va_P D cl [(a, e)] H := fun k q hk => by
  have h1 : k < 1 := (List.getElem?_eq_some_iff.mp hk).1
  have h2 : k = 0 := by omega
  subst h2
  cases hk
  exact h
end
section
abbrev rx_Tb : Type := List (Nat × List (Nat × Instr × Nat))
/-- a method: name, bytes, locals, what it returns, its class's number (owner), its kind (0 static, 1 virtual, 2 constructor), how many parameters, its class's place in the worlds, its instructions -/
abbrev rx_M : Type := MethodName × ByteArray × Nat × Option FieldType × Nat × Nat × Nat × Nat × rx_Tb
abbrev rx_My (M : rx_M) : MethodName := M.1
abbrev rx_Mb (M : rx_M) : ByteArray := M.2.1
abbrev rx_Ml (M : rx_M) : Nat := M.2.2.1
abbrev rx_Mr (M : rx_M) : Option FieldType := M.2.2.2.1
abbrev rx_Mo (M : rx_M) : Nat := M.2.2.2.2.1
abbrev rx_Mk (M : rx_M) : Nat := M.2.2.2.2.2.1
abbrev rx_Mn (M : rx_M) : Nat := M.2.2.2.2.2.2.1
abbrev rx_Mc (M : rx_M) : Nat := M.2.2.2.2.2.2.2.1
abbrev rx_Mt (M : rx_M) : rx_Tb := M.2.2.2.2.2.2.2.2
/-- the next point of a run: pc, locals, stack, cells -/
abbrev rx_N : Type := Nat × rx_L × List Value × rx_H
def rx_f1 : List (Nat × Instr × Nat) → Nat → Option Instr
  | [], _ => none
  | q :: r, pc => bif Nat.beq q.1 pc then some q.2.1 else rx_f1 r pc
def rx_f2 : rx_Tb → Nat → Option Instr
  | [], _ => none
  | c :: r, pc => bif Nat.blt pc c.1 then rx_f1 c.2 pc else rx_f2 r pc
def rx_len : Instr → Nat
  | .iload _ => 2 | .lload _ => 2 | .aload _ => 2 | .istore _ => 2 | .lstore _ => 2 | .astore _ => 2
  | .bipush _ => 2 | .sipush _ => 3 | .iinc _ _ => 3 | .goto _ => 3 | .if_icmp _ _ => 3 | .ifCond _ _ => 3 | .ifnull _ => 3 | .ifnonnull _ => 3 | .if_acmp _ _ => 3
  | .getfield _ => 3 | .putfield _ => 3 | .getstatic _ => 3 | .invokespecial _ => 3 | .invokestatic _ => 3 | .invokevirtual _ => 3 | .new _ => 3
  | .ldc _ => 2 | .ldc_w _ => 3 | .ldc2_w _ => 3 | .newarray _ => 2 | .multianewarray _ _ => 4 | .anewarray _ => 3
  | _ => 1
def rx_sw (ins : Instr) : Bool := match ins with
  | .tableswitch _ _ _ _ => true
  | .lookupswitch _ _ => true
  | _ => false
def rx_lc (ins : Instr) (len : Nat) : Bool := rx_sw ins || Nat.beq len (rx_len ins)
def rx_dec (cc : ByteArray) (pc : Nat) (ins : Instr) : Prop := ∃ len, decode cc pc = .ok (ins, len) ∧ rx_lc ins len = true
theorem rx_dec_n {cc : ByteArray} {pc : Nat} {ins : Instr} (h : rx_dec cc pc ins) (hs : rx_sw ins = false) : decode cc pc = .ok (ins, rx_len ins) := by
  obtain ⟨len, h1, h2⟩ := h
  unfold rx_lc at h2
  rw [hs, Bool.false_or] at h2
  rw [← Nat.eq_of_beq_eq_true h2]
  exact h1
def rx_nx (pc : Nat) (lv : rx_L) (st : List Value) (h : rx_H) : Option rx_N := some (pc, lv, st, h)
def rx_jp (pc : Nat) (off : Int) (lv : rx_L) (st : List Value) (h : rx_H) : Option rx_N := if 0 ≤ (pc : Int) + off then rx_nx ((pc : Int) + off).toNat lv st h else none
def rx_li (lv : rx_L) (i pc : Nat) (st : List Value) (h : rx_H) : Option rx_N := match rx_lk lv i with
  | some (.int x) => rx_nx pc lv (.int x :: st) h
  | _ => none
def rx_ll (lv : rx_L) (i pc : Nat) (st : List Value) (h : rx_H) : Option rx_N := match rx_lk lv i with
  | some (.long x) => rx_nx pc lv (.long x :: st) h
  | _ => none
def rx_la (lv : rx_L) (i pc : Nat) (st : List Value) (h : rx_H) : Option rx_N := match rx_lk lv i with
  | some (.ref x) => rx_nx pc lv (.ref x :: st) h
  | _ => none
def rx_si (nL : Nat) (lv : rx_L) (i pc : Nat) (st : List Value) (h : rx_H) : Option rx_N := match st with
  | .int x :: r => if i < nL then rx_nx pc (rx_s1 lv i (.int x)) r h else none
  | _ => none
def rx_sl (nL : Nat) (lv : rx_L) (i pc : Nat) (st : List Value) (h : rx_H) : Option rx_N := match st with
  | .long x :: r => if i + 1 < nL then rx_nx pc (rx_s2 lv i (.long x)) r h else none
  | _ => none
def rx_sa (nL : Nat) (lv : rx_L) (i pc : Nat) (st : List Value) (h : rx_H) : Option rx_N := match st with
  | .ref x :: r => if i < nL then rx_nx pc (rx_s1 lv i (.ref x)) r h else none
  | _ => none
def rx_2i (f : Int32 → Int32 → Int32) (pc : Nat) (lv : rx_L) (st : List Value) (h : rx_H) : Option rx_N := match st with
  | .int y :: .int x :: r => rx_nx (pc + 1) lv (.int (f x y) :: r) h
  | _ => none
def rx_2l (f : Int64 → Int64 → Int64) (pc : Nat) (lv : rx_L) (st : List Value) (h : rx_H) : Option rx_N := match st with
  | .long y :: .long x :: r => rx_nx (pc + 1) lv (.long (f x y) :: r) h
  | _ => none
def rx_bi (P : Bool) (pc : Nat) (off : Int) (lv : rx_L) (r : List Value) (h : rx_H) : Option rx_N := if 0 ≤ (pc : Int) + off then (if P = true then rx_nx ((pc : Int) + off).toNat lv r h else rx_nx (pc + 3) lv r h) else none
def rx_c1 (c : ClassFile.Cond) (x : Int32) : Bool := match c with
  | .eq => decide (x = 0) | .ne => decide (¬ x = 0) | .lt => decide (x < 0) | .ge => decide (0 ≤ x) | .gt => decide (0 < x) | .le => decide (x ≤ 0)
def rx_c2 (c : ClassFile.Cond) (x y : Int32) : Bool := match c with
  | .eq => decide (x = y) | .ne => decide (¬ x = y) | .lt => decide (x < y) | .ge => decide (y ≤ x) | .gt => decide (y < x) | .le => decide (x ≤ y)
def rx_cell (h : rx_H) (a : Nat) : Option rx_C := if a < 16 then none else h[a - 16]?
def rx_ok (i : Int32) (n : Nat) : Bool := !(decide (i < 0) || Nat.ble n i.toNatClampNeg)
def rx_luv {α : Type} : List ((Nat × Nat) × α) → Nat → Nat → Option α
  | [], _, _ => none
  | q :: r, o, ix => bif Nat.beq q.1.1 o && Nat.beq q.1.2 ix then some q.2 else rx_luv r o ix
/-- a value as a field of a type takes it -/
def rx_fit (ty : FieldType) (v : Value) : Bool := match ty, v with
  | .int, .int _ => true
  | .long, .long _ => true
  | .boolean, .int x => decide (x = 0) || decide (x = 1)
  | .object _, .ref _ => true
  | .array _, .ref _ => true
  | _, _ => false
/-- the links of all constant pools: fields (class, place), statics (id), methods (number, 1: of a nest mate), classes, ints, longs -/
abbrev rx_Lk : Type := List ((Nat × Nat) × Nat × Nat × FieldType × Nat) × List ((Nat × Nat) × Nat) × List ((Nat × Nat) × Nat × Nat) × List ((Nat × Nat) × Nat) × List ((Nat × Nat) × Int32) × List ((Nat × Nat) × Int64)
def rx_cold (h : rx_H) (a t : Nat) : Option vp_A := match rx_cell h a with
  | some (.inl q) => if q.1 = t then some q.2 else none
  | _ => none
/-- the heap behind a store into an array -/
def rx_put (h : rx_H) (a t : Nat) (x : vp_A) : rx_H := h.set (a - 16) (.inl (t, x))
def rx_zero (ty : FieldType) (n : Nat) : Option vp_A := match ty with
  | .int => some (n, .inl (fun _ => 0))
  | .boolean => some (n, .inl (fun _ => 0))
  | .long => some (n, .inr (.inl (fun _ => 0)))
  | _ => none
def rx_dv (f : Int32 → Int32 → Int32) (pc : Nat) (lv : rx_L) (st : List Value) (h : rx_H) : Option rx_N := match st with
  | .int y :: .int x :: r => if y = 0 then none else rx_nx (pc + 1) lv (.int (f x y) :: r) h
  | _ => none
def rx_dl (f : Int64 → Int64 → Int64) (pc : Nat) (lv : rx_L) (st : List Value) (h : rx_H) : Option rx_N := match st with
  | .long y :: .long x :: r => if y = 0 then none else rx_nx (pc + 1) lv (.long (f x y) :: r) h
  | _ => none
def rx_1i (f : Int32 → Value) (pc : Nat) (lv : rx_L) (st : List Value) (h : rx_H) : Option rx_N := match st with
  | .int x :: r => rx_nx (pc + 1) lv (f x :: r) h
  | _ => none
def rx_1l (f : Int64 → Value) (pc : Nat) (lv : rx_L) (st : List Value) (h : rx_H) : Option rx_N := match st with
  | .long x :: r => rx_nx (pc + 1) lv (f x :: r) h
  | _ => none
def rx_cm (pc : Nat) (lv : rx_L) (st : List Value) (h : rx_H) : Option rx_N := match st with
  | .long y :: .long x :: r => rx_nx (pc + 1) lv (.int (lg_cmp x y) :: r) h
  | _ => none
def rx_in (nL : Nat) (i : Nat) (n : Int) (pc : Nat) (lv : rx_L) (st : List Value) (h : rx_H) : Option rx_N := match rx_lk lv i with
  | some (.int x) => if i < nL then rx_nx (pc + 3) (rx_s1 lv i (.int (x + Int32.ofInt n))) st h else none
  | _ => none
def rx_d0 (pc : Nat) (lv : rx_L) (st : List Value) (h : rx_H) : Option rx_N := match st with
  | a :: r => if a.category = 1 then rx_nx (pc + 1) lv (a :: a :: r) h else none
  | _ => none
def rx_pp (pc : Nat) (lv : rx_L) (st : List Value) (h : rx_H) : Option rx_N := match st with
  | a :: r => if a.category = 1 then rx_nx (pc + 1) lv r h else none
  | _ => none
def rx_d1 (pc : Nat) (lv : rx_L) (st : List Value) (h : rx_H) : Option rx_N := match st with
  | a :: b :: r => if a.category = 1 ∧ b.category = 1 then rx_nx (pc + 1) lv (a :: b :: a :: r) h else none
  | _ => none
def rx_d2 (pc : Nat) (lv : rx_L) (st : List Value) (h : rx_H) : Option rx_N := match st with
  | a :: b :: d :: r => if a.category = 1 ∧ b.category = 1 ∧ d.category = 1 then rx_nx (pc + 1) lv (a :: b :: d :: a :: r) h else none
  | _ => none
def rx_dd (pc : Nat) (lv : rx_L) (st : List Value) (h : rx_H) : Option rx_N := match st with
  | a :: b :: r => if a.category = 1 ∧ b.category = 1 then rx_nx (pc + 1) lv (a :: b :: a :: b :: r) h else none
  | _ => none
def rx_b1 (c : ClassFile.Cond) (off : Int) (pc : Nat) (lv : rx_L) (st : List Value) (h : rx_H) : Option rx_N := match st with
  | .int x :: r => rx_bi (rx_c1 c x) pc off lv r h
  | _ => none
def rx_b2 (c : ClassFile.Cond) (off : Int) (pc : Nat) (lv : rx_L) (st : List Value) (h : rx_H) : Option rx_N := match st with
  | .int y :: .int x :: r => rx_bi (rx_c2 c x y) pc off lv r h
  | _ => none
def rx_ts (dflt lo hi : Int) (offs : Array Int) (pc : Nat) (lv : rx_L) (st : List Value) (h : rx_H) : Option rx_N := match st with
  | .int x :: r => if x.toInt < lo ∨ hi < x.toInt then rx_jp pc dflt lv r h else match offs[(x.toInt - lo).toNat]? with
    | some off => rx_jp pc off lv r h
    | none => none
  | _ => none
def rx_us (pc : Nat) (lv : rx_L) (st : List Value) (h : rx_H) : Option rx_N := match st with
  | .int y :: .long x :: r => rx_nx (pc + 1) lv (.long (x.toUInt64 >>> (y.toInt64.toUInt64 &&& Int64.toUInt64 63)).toInt64 :: r) h
  | _ => none
def rx_ls (dflt : Int) (ps : Array (Int × Int)) (pc : Nat) (lv : rx_L) (st : List Value) (h : rx_H) : Option rx_N := match st with
  | .int x :: r => if (ps.toList.zip (ps.toList.drop 1)).all (fun (a, next) => a.1 < next.1) = true then rx_jp pc (Op.lookupswitch.offset ps.toList dflt x.toInt) lv r h else none
  | _ => none
def rx_kc (o : Option Value) (n pc : Nat) (lv : rx_L) (st : List Value) (h : rx_H) : Option rx_N := match o with
  | some v => rx_nx (pc + n) lv (v :: st) h
  | none => none
/-- reading an int array: a read-only one, or a cell -/
def rx_ri (rt : rx_R) (h : rx_H) (a : Nat) : Option (Nat × (Nat → Int32)) := if a < 16 then rt a else match rx_cold h a 0 with
  | some (n, .inl f) => some (n, f)
  | _ => none
def rx_rl (h : rx_H) (a : Nat) : Option (Nat × (Nat → Int64)) := match rx_cold h a 1 with
  | some (n, .inr (.inl f)) => some (n, f)
  | _ => none
def rx_rz (h : rx_H) (a : Nat) : Option (Nat × (Nat → Int32)) := match rx_cold h a 2 with
  | some (n, .inl f) => some (n, f)
  | _ => none
def rx_rq (h : rx_H) (a : Nat) : Option (Nat × (Nat → Option Nat)) := match rx_cold h a 3 with
  | some (n, .inr (.inr (.inr (.inr f)))) => some (n, f)
  | _ => none
def rx_ro (h : rx_H) (a : Nat) : Option (Nat × List Value) := match rx_cell h a with
  | some (.inr q) => some q
  | _ => none
def rx_ial (rt : rx_R) (pc : Nat) (lv : rx_L) (st : List Value) (h : rx_H) : Option rx_N := match st with
  | .int i :: .ref a :: r => match rx_ri rt h a with
    | some q => if rx_ok i q.1 = true then rx_nx (pc + 1) lv (.int (q.2 i.toNatClampNeg) :: r) h else none
    | none => none
  | _ => none
def rx_lal (pc : Nat) (lv : rx_L) (st : List Value) (h : rx_H) : Option rx_N := match st with
  | .int i :: .ref a :: r => match rx_rl h a with
    | some q => if rx_ok i q.1 = true then rx_nx (pc + 1) lv (.long (q.2 i.toNatClampNeg) :: r) h else none
    | none => none
  | _ => none
def rx_zal (pc : Nat) (lv : rx_L) (st : List Value) (h : rx_H) : Option rx_N := match st with
  | .int i :: .ref a :: r => match rx_rz h a with
    | some q => if rx_ok i q.1 = true then rx_nx (pc + 1) lv (.int (q.2 i.toNatClampNeg) :: r) h else none
    | none => none
  | _ => none
def rx_qal (pc : Nat) (lv : rx_L) (st : List Value) (h : rx_H) : Option rx_N := match st with
  | .int i :: .ref a :: r => match rx_rq h a with
    | some q => if rx_ok i q.1 = true then match q.2 i.toNatClampNeg with
        | some k => rx_nx (pc + 1) lv (.ref k :: r) h
        | none => none
      else none
    | none => none
  | _ => none
def rx_ias (pc : Nat) (lv : rx_L) (st : List Value) (h : rx_H) : Option rx_N := match st with
  | .int x :: .int i :: .ref a :: r => if a < 16 then none else match rx_ri (fun _ => none) h a with
    | some q => if rx_ok i q.1 = true then rx_nx (pc + 1) lv r (rx_put h a 0 (q.1, .inl (upd q.2 i.toNatClampNeg x))) else none
    | none => none
  | _ => none
def rx_las (pc : Nat) (lv : rx_L) (st : List Value) (h : rx_H) : Option rx_N := match st with
  | .long x :: .int i :: .ref a :: r => match rx_rl h a with
    | some q => if rx_ok i q.1 = true then rx_nx (pc + 1) lv r (rx_put h a 1 (q.1, .inr (.inl (vp_updL q.2 i.toNatClampNeg x)))) else none
    | none => none
  | _ => none
def rx_zas (pc : Nat) (lv : rx_L) (st : List Value) (h : rx_H) : Option rx_N := match st with
  | .int x :: .int i :: .ref a :: r => match rx_rz h a with
    | some q => if rx_ok i q.1 = true then rx_nx (pc + 1) lv r (rx_put h a 2 (q.1, .inl (upd q.2 i.toNatClampNeg (vp_nar .boolean x)))) else none
    | none => none
  | _ => none
def rx_aln (rt : rx_R) (h : rx_H) (a : Nat) : Option Nat := if a < 16 then (rt a).map (fun q => q.1) else match rx_cell h a with
  | some (.inl q) => if q.1 < 4 then some q.2.1 else none
  | _ => none
def rx_al (rt : rx_R) (pc : Nat) (lv : rx_L) (st : List Value) (h : rx_H) : Option rx_N := match st with
  | .ref a :: r => match rx_aln rt h a with
    | some n => rx_nx (pc + 1) lv (.int (Int32.ofNat n) :: r) h
    | none => none
  | _ => none
def rx_gf (o : Option (Nat × Nat × FieldType × Nat)) (pc : Nat) (lv : rx_L) (st : List Value) (h : rx_H) : Option rx_N := match st, o with
  | .ref a :: r, some q => match rx_ro h a with
    | some w => if w.1 = q.1 then match w.2[q.2.1]? with
        | some v => rx_nx (pc + 3) lv (v :: r) h
        | none => none
      else none
    | none => none
  | _, _ => none
def rx_pf (ini : Bool) (o : Option (Nat × Nat × FieldType × Nat)) (pc : Nat) (lv : rx_L) (st : List Value) (h : rx_H) : Option rx_N := match st, o with
  | v :: .ref a :: r, some q => match rx_ro h a with
    | some w => if w.1 = q.1 ∧ q.2.1 < w.2.length ∧ rx_fit q.2.2.1 v = true ∧ (q.2.2.2 = 0 ∨ (q.2.2.2 = 1 ∧ ini = true)) then rx_nx (pc + 3) lv r (h.set (a - 16) (.inr (w.1, w.2.set q.2.1 v))) else none
    | none => none
  | _, _ => none
/-- what a return instruction returns -/
def rx_ret (M : rx_M) (ins : Instr) (st : List Value) : Option (Option Value) := match ins with
  | .ireturn => match rx_Mr M, st with
    | some .int, [.int x] => some (some (.int x))
    | some .boolean, [.int x] => if x = 0 ∨ x = 1 then some (some (.int x)) else none
    | _, _ => none
  | .lreturn => match rx_Mr M, st with
    | some .long, [.long x] => some (some (.long x))
    | _, _ => none
  | .return_ => match rx_Mr M, st with
    | none, [] => some none
    | _, _ => none
  | _ => none
theorem rx_ret_e {M : rx_M} {ins : Instr} {st : List Value} {v : Option Value} (e : rx_ret M ins st = some v) : (∃ x, ins = .ireturn ∧ rx_Mr M = some .int ∧ st = [.int x] ∧ v = some (.int x)) ∨ (∃ x, ins = .ireturn ∧ rx_Mr M = some .boolean ∧ st = [.int x] ∧ (x = 0 ∨ x = 1) ∧ v = some (.int x)) ∨ (∃ x, ins = .lreturn ∧ rx_Mr M = some .long ∧ st = [.long x] ∧ v = some (.long x)) ∨ (ins = .return_ ∧ rx_Mr M = none ∧ st = [] ∧ v = none) := by
  unfold rx_ret at e
  split at e
  · split at e
    · next x h1 => cases e; exact Or.inl ⟨x, rfl, h1, rfl, rfl⟩
    · next x h1 =>
      split at e
      · next w => cases e; exact Or.inr (Or.inl ⟨x, rfl, h1, rfl, w, rfl⟩)
      · cases e
    · cases e
  · split at e
    · next x h1 => cases e; exact Or.inr (Or.inr (Or.inl ⟨x, rfl, h1, rfl, rfl⟩))
    · cases e
  · split at e
    · next h1 => cases e; exact Or.inr (Or.inr (Or.inr ⟨rfl, h1, rfl, rfl⟩))
    · cases e
  · cases e
end
section
section RXE
variable {pc i : Nat} {lv : rx_L} {st : List Value} {h : rx_H} {r : Nat × rx_L × List Value × rx_H} {off : Int} {nL : Nat}
theorem rx_nx_e (e : rx_nx pc lv st h = some r) : r = (pc, lv, st, h) := by
  unfold rx_nx at e
  exact (Option.some.inj e).symm
theorem rx_jp_e (e : rx_jp pc off lv st h = some r) : ∃ t : Nat, (pc : Int) + off = (t : Int) ∧ r = (t, lv, st, h) := by
  unfold rx_jp at e
  split at e
  · next q => exact ⟨_, (Int.toNat_of_nonneg q).symm, rx_nx_e e⟩
  · cases e
theorem rx_li_e (e : rx_li lv i pc st h = some r) : ∃ x, rx_lk lv i = some (.int x) ∧ r = (pc, lv, .int x :: st, h) := by
  unfold rx_li at e
  split at e
  · next x q => exact ⟨x, q, rx_nx_e e⟩
  · cases e
theorem rx_ll_e (e : rx_ll lv i pc st h = some r) : ∃ x, rx_lk lv i = some (.long x) ∧ r = (pc, lv, .long x :: st, h) := by
  unfold rx_ll at e
  split at e
  · next x q => exact ⟨x, q, rx_nx_e e⟩
  · cases e
theorem rx_la_e (e : rx_la lv i pc st h = some r) : ∃ x, rx_lk lv i = some (.ref x) ∧ r = (pc, lv, .ref x :: st, h) := by
  unfold rx_la at e
  split at e
  · next x q => exact ⟨x, q, rx_nx_e e⟩
  · cases e
theorem rx_si_e (e : rx_si nL lv i pc st h = some r) : ∃ x t, st = .int x :: t ∧ i < nL ∧ r = (pc, rx_s1 lv i (.int x), t, h) := by
  unfold rx_si at e
  split at e
  · next x t =>
    split at e
    · next q => exact ⟨x, t, rfl, q, rx_nx_e e⟩
    · cases e
  · cases e
theorem rx_sl_e (e : rx_sl nL lv i pc st h = some r) : ∃ x t, st = .long x :: t ∧ i + 1 < nL ∧ r = (pc, rx_s2 lv i (.long x), t, h) := by
  unfold rx_sl at e
  split at e
  · next x t =>
    split at e
    · next q => exact ⟨x, t, rfl, q, rx_nx_e e⟩
    · cases e
  · cases e
theorem rx_sa_e (e : rx_sa nL lv i pc st h = some r) : ∃ x t, st = .ref x :: t ∧ i < nL ∧ r = (pc, rx_s1 lv i (.ref x), t, h) := by
  unfold rx_sa at e
  split at e
  · next x t =>
    split at e
    · next q => exact ⟨x, t, rfl, q, rx_nx_e e⟩
    · cases e
  · cases e
theorem rx_2i_e {f : Int32 → Int32 → Int32} (e : rx_2i f pc lv st h = some r) : ∃ x y t, st = .int y :: .int x :: t ∧ r = (pc + 1, lv, .int (f x y) :: t, h) := by
  unfold rx_2i at e
  split at e
  · next y x t => exact ⟨x, y, t, rfl, rx_nx_e e⟩
  · cases e
theorem rx_2l_e {f : Int64 → Int64 → Int64} (e : rx_2l f pc lv st h = some r) : ∃ x y t, st = .long y :: .long x :: t ∧ r = (pc + 1, lv, .long (f x y) :: t, h) := by
  unfold rx_2l at e
  split at e
  · next y x t => exact ⟨x, y, t, rfl, rx_nx_e e⟩
  · cases e
theorem rx_bi_e {P : Bool} (e : rx_bi P pc off lv st h = some r) : ∃ g : Nat, (pc : Int) + off = (g : Int) ∧ ((P = true ∧ r = (g, lv, st, h)) ∨ (P = false ∧ r = (pc + 3, lv, st, h))) := by
  unfold rx_bi at e
  split at e
  · next w =>
    refine ⟨_, (Int.toNat_of_nonneg w).symm, ?_⟩
    split at e
    · next q => exact Or.inl ⟨q, rx_nx_e e⟩
    · next q => exact Or.inr ⟨by simpa using q, rx_nx_e e⟩
  · cases e
end RXE
theorem rx_cell_e {h : rx_H} {a : Nat} {c : rx_C} (e : rx_cell h a = some c) : ∃ k, a = k + 16 ∧ h[k]? = some c ∧ k < h.length := by
  unfold rx_cell at e
  split at e
  · cases e
  · next q => exact ⟨a - 16, by omega, e, (List.getElem?_eq_some_iff.mp e).1⟩
theorem rx_cold_e {h : rx_H} {a t : Nat} {x : vp_A} (e : rx_cold h a t = some x) : ∃ k, a = k + 16 ∧ h[k]? = some (.inl (t, x)) ∧ k < h.length := by
  unfold rx_cold at e
  split at e
  · next q w =>
    split at e
    · next z =>
      subst z
      cases e
      exact rx_cell_e w
    · cases e
  · cases e
theorem rx_ad_k (ro : Nat → Nat) (base k : Nat) : rx_ad ro base (k + 16) = base + k := by
  unfold rx_ad
  rw [if_neg (by omega)]
  rfl
theorem rx_ad_r (ro : Nat → Nat) (base : Nat) {k : Nat} (h : k < 16) : rx_ad ro base k = ro k := by
  unfold rx_ad
  rw [if_pos h]
theorem rx_ok_e {i : Int32} {n : Nat} (h : rx_ok i n = true) : vp_in i n := by
  unfold rx_ok at h
  simp only [Bool.not_eq_true', Bool.or_eq_false_iff, decide_eq_false_iff_not] at h
  intro q
  rcases q with q | q
  · exact h.1 q
  · have := Nat.ble_eq_true_of_le q
    rw [this] at h
    exact absurd h.2 (by decide)
section RXE2
variable {pc i : Nat} {lv : rx_L} {st : List Value} {h : rx_H} {r : Nat × rx_L × List Value × rx_H} {off : Int} {nL : Nat}
theorem rx_dv_e {f : Int32 → Int32 → Int32} (e : rx_dv f pc lv st h = some r) : ∃ x y t, st = .int y :: .int x :: t ∧ ¬ y = 0 ∧ r = (pc + 1, lv, .int (f x y) :: t, h) := by
  unfold rx_dv at e
  split at e
  · next y x t =>
    split at e
    · cases e
    · next q => exact ⟨x, y, t, rfl, q, rx_nx_e e⟩
  · cases e
theorem rx_dl_e {f : Int64 → Int64 → Int64} (e : rx_dl f pc lv st h = some r) : ∃ x y t, st = .long y :: .long x :: t ∧ ¬ y = 0 ∧ r = (pc + 1, lv, .long (f x y) :: t, h) := by
  unfold rx_dl at e
  split at e
  · next y x t =>
    split at e
    · cases e
    · next q => exact ⟨x, y, t, rfl, q, rx_nx_e e⟩
  · cases e
theorem rx_1i_e {f : Int32 → Value} (e : rx_1i f pc lv st h = some r) : ∃ x t, st = .int x :: t ∧ r = (pc + 1, lv, f x :: t, h) := by
  unfold rx_1i at e
  split at e
  · next x t => exact ⟨x, t, rfl, rx_nx_e e⟩
  · cases e
theorem rx_1l_e {f : Int64 → Value} (e : rx_1l f pc lv st h = some r) : ∃ x t, st = .long x :: t ∧ r = (pc + 1, lv, f x :: t, h) := by
  unfold rx_1l at e
  split at e
  · next x t => exact ⟨x, t, rfl, rx_nx_e e⟩
  · cases e
theorem rx_cm_e (e : rx_cm pc lv st h = some r) : ∃ x y t, st = .long y :: .long x :: t ∧ r = (pc + 1, lv, .int (lg_cmp x y) :: t, h) := by
  unfold rx_cm at e
  split at e
  · next y x t => exact ⟨x, y, t, rfl, rx_nx_e e⟩
  · cases e
theorem rx_in_e {n : Int} (e : rx_in nL i n pc lv st h = some r) : ∃ x, rx_lk lv i = some (.int x) ∧ i < nL ∧ r = (pc + 3, rx_s1 lv i (.int (x + Int32.ofInt n)), st, h) := by
  unfold rx_in at e
  split at e
  · next x q =>
    split at e
    · next w => exact ⟨x, q, w, rx_nx_e e⟩
    · cases e
  · cases e
theorem rx_d0_e (e : rx_d0 pc lv st h = some r) : ∃ a t, st = a :: t ∧ a.category = 1 ∧ r = (pc + 1, lv, a :: a :: t, h) := by
  unfold rx_d0 at e
  split at e
  · next a t =>
    split at e
    · next w => exact ⟨a, t, rfl, w, rx_nx_e e⟩
    · cases e
  · cases e
theorem rx_pp_e (e : rx_pp pc lv st h = some r) : ∃ a t, st = a :: t ∧ a.category = 1 ∧ r = (pc + 1, lv, t, h) := by
  unfold rx_pp at e
  split at e
  · next a t =>
    split at e
    · next w => exact ⟨a, t, rfl, w, rx_nx_e e⟩
    · cases e
  · cases e
theorem rx_d1_e (e : rx_d1 pc lv st h = some r) : ∃ a b t, st = a :: b :: t ∧ a.category = 1 ∧ b.category = 1 ∧ r = (pc + 1, lv, a :: b :: a :: t, h) := by
  unfold rx_d1 at e
  split at e
  · next a b t =>
    split at e
    · next w => exact ⟨a, b, t, rfl, w.1, w.2, rx_nx_e e⟩
    · cases e
  · cases e
theorem rx_d2_e (e : rx_d2 pc lv st h = some r) : ∃ a b d t, st = a :: b :: d :: t ∧ a.category = 1 ∧ b.category = 1 ∧ d.category = 1 ∧ r = (pc + 1, lv, a :: b :: d :: a :: t, h) := by
  unfold rx_d2 at e
  split at e
  · next a b d t =>
    split at e
    · next w => exact ⟨a, b, d, t, rfl, w.1, w.2.1, w.2.2, rx_nx_e e⟩
    · cases e
  · cases e
theorem rx_dd_e (e : rx_dd pc lv st h = some r) : ∃ a b t, st = a :: b :: t ∧ a.category = 1 ∧ b.category = 1 ∧ r = (pc + 1, lv, a :: b :: a :: b :: t, h) := by
  unfold rx_dd at e
  split at e
  · next a b t =>
    split at e
    · next w => exact ⟨a, b, t, rfl, w.1, w.2, rx_nx_e e⟩
    · cases e
  · cases e
theorem rx_b1_e {c : ClassFile.Cond} (e : rx_b1 c off pc lv st h = some r) : ∃ x t, st = .int x :: t ∧ ∃ g : Nat, (pc : Int) + off = (g : Int) ∧ ((rx_c1 c x = true ∧ r = (g, lv, t, h)) ∨ (rx_c1 c x = false ∧ r = (pc + 3, lv, t, h))) := by
  unfold rx_b1 at e
  split at e
  · next x t => exact ⟨x, t, rfl, rx_bi_e e⟩
  · cases e
theorem rx_b2_e {c : ClassFile.Cond} (e : rx_b2 c off pc lv st h = some r) : ∃ x y t, st = .int y :: .int x :: t ∧ ∃ g : Nat, (pc : Int) + off = (g : Int) ∧ ((rx_c2 c x y = true ∧ r = (g, lv, t, h)) ∨ (rx_c2 c x y = false ∧ r = (pc + 3, lv, t, h))) := by
  unfold rx_b2 at e
  split at e
  · next y x t => exact ⟨x, y, t, rfl, rx_bi_e e⟩
  · cases e
theorem rx_ts_e {dflt lo hi : Int} {offs : Array Int} (e : rx_ts dflt lo hi offs pc lv st h = some r) : ∃ x t, st = .int x :: t ∧ (((x.toInt < lo ∨ hi < x.toInt) ∧ ∃ g : Nat, (pc : Int) + dflt = (g : Int) ∧ r = (g, lv, t, h)) ∨ (¬ x.toInt < lo ∧ ¬ hi < x.toInt ∧ ∃ (off : Int) (g : Nat), offs[(x.toInt - lo).toNat]? = some off ∧ (pc : Int) + off = (g : Int) ∧ r = (g, lv, t, h))) := by
  unfold rx_ts at e
  split at e
  · next x t =>
    refine ⟨x, t, rfl, ?_⟩
    split at e
    · next q => exact Or.inl ⟨q, rx_jp_e e⟩
    · next q =>
      split at e
      · next off w =>
        obtain ⟨g, h1, h2⟩ := rx_jp_e e
        exact Or.inr ⟨fun z => q (Or.inl z), fun z => q (Or.inr z), off, g, w, h1, h2⟩
      · cases e
  · cases e
theorem rx_kc_e {o : Option Value} {n : Nat} (e : rx_kc o n pc lv st h = some r) : ∃ v, o = some v ∧ r = (pc + n, lv, v :: st, h) := by
  unfold rx_kc at e
  split at e
  · next v => exact ⟨v, rfl, rx_nx_e e⟩
  · cases e
theorem rx_ri_e {rt : rx_R} {a : Nat} {q : Nat × (Nat → Int32)} (e : rx_ri rt h a = some q) : (a < 16 ∧ rt a = some q) ∨ ∃ k, a = k + 16 ∧ h[k]? = some (.inl (0, q.1, .inl q.2)) ∧ k < h.length := by
  unfold rx_ri at e
  split at e
  · next w => exact Or.inl ⟨w, e⟩
  · next w =>
    split at e
    · next n f z =>
      cases e
      exact Or.inr (rx_cold_e z)
    · cases e
theorem rx_rl_e {a : Nat} {q : Nat × (Nat → Int64)} (e : rx_rl h a = some q) : ∃ k, a = k + 16 ∧ h[k]? = some (.inl (1, q.1, .inr (.inl q.2))) ∧ k < h.length := by
  unfold rx_rl at e
  split at e
  · next n f z =>
    cases e
    exact rx_cold_e z
  · cases e
theorem rx_rz_e {a : Nat} {q : Nat × (Nat → Int32)} (e : rx_rz h a = some q) : ∃ k, a = k + 16 ∧ h[k]? = some (.inl (2, q.1, .inl q.2)) ∧ k < h.length := by
  unfold rx_rz at e
  split at e
  · next n f z =>
    cases e
    exact rx_cold_e z
  · cases e
theorem rx_rq_e {a : Nat} {q : Nat × (Nat → Option Nat)} (e : rx_rq h a = some q) : ∃ k, a = k + 16 ∧ h[k]? = some (.inl (3, q.1, .inr (.inr (.inr (.inr q.2))))) ∧ k < h.length := by
  unfold rx_rq at e
  split at e
  · next n f z =>
    cases e
    exact rx_cold_e z
  · cases e
theorem rx_us_e (e : rx_us pc lv st h = some r) : ∃ x y t, st = .int y :: .long x :: t ∧ r = (pc + 1, lv, .long (x.toUInt64 >>> (y.toInt64.toUInt64 &&& Int64.toUInt64 63)).toInt64 :: t, h) := by
  unfold rx_us at e
  split at e
  · next y x t => exact ⟨x, y, t, rfl, rx_nx_e e⟩
  · cases e
theorem rx_ls_e {dflt : Int} {ps : Array (Int × Int)} (e : rx_ls dflt ps pc lv st h = some r) : ∃ x t, st = .int x :: t ∧ (ps.toList.zip (ps.toList.drop 1)).all (fun (a, next) => a.1 < next.1) = true ∧ ∃ g : Nat, (pc : Int) + Op.lookupswitch.offset ps.toList dflt x.toInt = (g : Int) ∧ r = (g, lv, t, h) := by
  unfold rx_ls at e
  split at e
  · next x t =>
    split at e
    · next w => exact ⟨x, t, rfl, w, rx_jp_e e⟩
    · cases e
  · cases e
theorem rx_ro_e {a : Nat} {q : Nat × List Value} (e : rx_ro h a = some q) : ∃ k, a = k + 16 ∧ h[k]? = some (.inr q) ∧ k < h.length := by
  unfold rx_ro at e
  split at e
  · next w z =>
    cases e
    exact rx_cell_e z
  · cases e
theorem rx_ial_e {rt : rx_R} (e : rx_ial rt pc lv st h = some r) : ∃ i a t q, st = .int i :: .ref a :: t ∧ rx_ri rt h a = some q ∧ vp_in i q.1 ∧ r = (pc + 1, lv, .int (q.2 i.toNatClampNeg) :: t, h) := by
  unfold rx_ial at e
  split at e
  · next i a t =>
    split at e
    · next q w =>
      split at e
      · next z => exact ⟨i, a, t, q, rfl, w, rx_ok_e z, rx_nx_e e⟩
      · cases e
    · cases e
  · cases e
theorem rx_lal_e (e : rx_lal pc lv st h = some r) : ∃ i a t q, st = .int i :: .ref a :: t ∧ rx_rl h a = some q ∧ vp_in i q.1 ∧ r = (pc + 1, lv, .long (q.2 i.toNatClampNeg) :: t, h) := by
  unfold rx_lal at e
  split at e
  · next i a t =>
    split at e
    · next q w =>
      split at e
      · next z => exact ⟨i, a, t, q, rfl, w, rx_ok_e z, rx_nx_e e⟩
      · cases e
    · cases e
  · cases e
theorem rx_zal_e (e : rx_zal pc lv st h = some r) : ∃ i a t q, st = .int i :: .ref a :: t ∧ rx_rz h a = some q ∧ vp_in i q.1 ∧ r = (pc + 1, lv, .int (q.2 i.toNatClampNeg) :: t, h) := by
  unfold rx_zal at e
  split at e
  · next i a t =>
    split at e
    · next q w =>
      split at e
      · next z => exact ⟨i, a, t, q, rfl, w, rx_ok_e z, rx_nx_e e⟩
      · cases e
    · cases e
  · cases e
theorem rx_qal_e (e : rx_qal pc lv st h = some r) : ∃ i a t q k, st = .int i :: .ref a :: t ∧ rx_rq h a = some q ∧ vp_in i q.1 ∧ q.2 i.toNatClampNeg = some k ∧ r = (pc + 1, lv, .ref k :: t, h) := by
  unfold rx_qal at e
  split at e
  · next i a t =>
    split at e
    · next q w =>
      split at e
      · next z =>
        split at e
        · next k y => exact ⟨i, a, t, q, k, rfl, w, rx_ok_e z, y, rx_nx_e e⟩
        · cases e
      · cases e
    · cases e
  · cases e
theorem rx_ias_e (e : rx_ias pc lv st h = some r) : ∃ x i k t n f, st = .int x :: .int i :: .ref (k + 16) :: t ∧ h[k]? = some (.inl (0, n, .inl f)) ∧ k < h.length ∧ vp_in i n ∧ r = (pc + 1, lv, t, h.set k (.inl (0, n, .inl (upd f i.toNatClampNeg x)))) := by
  unfold rx_ias at e
  split at e
  · next x i a t =>
    split at e
    · cases e
    · next na =>
      split at e
      · next q w =>
        split at e
        · next z =>
          rcases rx_ri_e w with ⟨q1, -⟩ | ⟨k, rfl, h1, h2⟩
          · exact absurd q1 na
          · exact ⟨x, i, k, t, q.1, q.2, rfl, h1, h2, rx_ok_e z, rx_nx_e e⟩
        · cases e
      · cases e
  · cases e
theorem rx_las_e (e : rx_las pc lv st h = some r) : ∃ x i k t n f, st = .long x :: .int i :: .ref (k + 16) :: t ∧ h[k]? = some (.inl (1, n, .inr (.inl f))) ∧ k < h.length ∧ vp_in i n ∧ r = (pc + 1, lv, t, h.set k (.inl (1, n, .inr (.inl (vp_updL f i.toNatClampNeg x))))) := by
  unfold rx_las at e
  split at e
  · next x i a t =>
    split at e
    · next q w =>
      split at e
      · next z =>
        obtain ⟨k, rfl, h1, h2⟩ := rx_rl_e w
        exact ⟨x, i, k, t, q.1, q.2, rfl, h1, h2, rx_ok_e z, rx_nx_e e⟩
      · cases e
    · cases e
  · cases e
theorem rx_zas_e (e : rx_zas pc lv st h = some r) : ∃ x i k t n f, st = .int x :: .int i :: .ref (k + 16) :: t ∧ h[k]? = some (.inl (2, n, .inl f)) ∧ k < h.length ∧ vp_in i n ∧ r = (pc + 1, lv, t, h.set k (.inl (2, n, .inl (upd f i.toNatClampNeg (vp_nar .boolean x))))) := by
  unfold rx_zas at e
  split at e
  · next x i a t =>
    split at e
    · next q w =>
      split at e
      · next z =>
        obtain ⟨k, rfl, h1, h2⟩ := rx_rz_e w
        exact ⟨x, i, k, t, q.1, q.2, rfl, h1, h2, rx_ok_e z, rx_nx_e e⟩
      · cases e
    · cases e
  · cases e
theorem rx_al_e {rt : rx_R} (e : rx_al rt pc lv st h = some r) : ∃ a t n, st = .ref a :: t ∧ rx_aln rt h a = some n ∧ r = (pc + 1, lv, .int (Int32.ofNat n) :: t, h) := by
  unfold rx_al at e
  split at e
  · next a t =>
    split at e
    · next n w => exact ⟨a, t, n, rfl, w, rx_nx_e e⟩
    · cases e
  · cases e
theorem rx_gf_e {o : Option (Nat × Nat × FieldType × Nat)} (e : rx_gf o pc lv st h = some r) : ∃ k t q fs v, st = .ref (k + 16) :: t ∧ o = some q ∧ h[k]? = some (.inr (q.1, fs)) ∧ fs[q.2.1]? = some v ∧ r = (pc + 3, lv, v :: t, h) := by
  unfold rx_gf at e
  split at e
  · next a t q =>
    split at e
    · next w z =>
      split at e
      · next y =>
        split at e
        · next v u =>
          obtain ⟨k, rfl, h1, h2⟩ := rx_ro_e z
          obtain ⟨w1, w2⟩ := w
          dsimp only at y u
          subst y
          exact ⟨k, t, q, w2, v, rfl, rfl, h1, u, rx_nx_e e⟩
        · cases e
      · cases e
    · cases e
  · cases e
theorem rx_pf_e {ini : Bool} {o : Option (Nat × Nat × FieldType × Nat)} (e : rx_pf ini o pc lv st h = some r) : ∃ v k t q fs, st = v :: .ref (k + 16) :: t ∧ o = some q ∧ h[k]? = some (.inr (q.1, fs)) ∧ k < h.length ∧ q.2.1 < fs.length ∧ rx_fit q.2.2.1 v = true ∧ (q.2.2.2 = 0 ∨ (q.2.2.2 = 1 ∧ ini = true)) ∧ r = (pc + 3, lv, t, h.set k (.inr (q.1, fs.set q.2.1 v))) := by
  unfold rx_pf at e
  split at e
  · next v a t q =>
    split at e
    · next w z =>
      split at e
      · next y =>
        obtain ⟨k, rfl, h1, h2⟩ := rx_ro_e z
        obtain ⟨w1, w2⟩ := w
        obtain ⟨y1, y2, y3, y4⟩ := y
        dsimp only at y1 y2 e
        subst y1
        exact ⟨v, k, t, q, w2, rfl, rfl, h1, h2, y2, y3, y4, rx_nx_e e⟩
      · cases e
    · cases e
  · cases e
end RXE2
theorem rx_f1_e : ∀ {t : List (Nat × Instr × Nat)} {pc : Nat} {i : Instr}, rx_f1 t pc = some i → ∃ n, (pc, i, n) ∈ t
  | [], _, _, h => by cases h
  | q :: r, pc, i, h => by
    unfold rx_f1 at h
    cases hb : Nat.beq q.1 pc with
    | true =>
      rw [hb] at h
      have e := Nat.eq_of_beq_eq_true hb
      obtain ⟨a, b, c⟩ := q
      dsimp only at e h
      subst e
      cases h
      exact ⟨c, List.mem_cons_self⟩
    | false =>
      rw [hb] at h
      obtain ⟨n, hn⟩ := rx_f1_e (t := r) h
      exact ⟨n, List.mem_cons_of_mem _ hn⟩
theorem rx_f2_e : ∀ {t : rx_Tb} {pc : Nat} {i : Instr}, rx_f2 t pc = some i → ∃ c ∈ t, ∃ n, (pc, i, n) ∈ c.2
  | [], _, _, h => by cases h
  | q :: r, pc, i, h => by
    unfold rx_f2 at h
    cases hb : Nat.blt pc q.1 with
    | true =>
      rw [hb] at h
      exact ⟨q, List.mem_cons_self, rx_f1_e h⟩
    | false =>
      rw [hb] at h
      obtain ⟨c, hc, w⟩ := rx_f2_e (t := r) h
      exact ⟨c, List.mem_cons_of_mem _ hc, w⟩
theorem rx_luv_e {α : Type} : ∀ {t : List ((Nat × Nat) × α)} {o ix : Nat} {v : α}, rx_luv t o ix = some v → ((o, ix), v) ∈ t
  | [], _, _, _, h => by cases h
  | q :: r, o, ix, v, h => by
    unfold rx_luv at h
    cases hb : (Nat.beq q.1.1 o && Nat.beq q.1.2 ix) with
    | true =>
      rw [hb] at h
      obtain ⟨⟨a, b⟩, c⟩ := q
      simp only [Bool.and_eq_true] at hb
      have e1 := Nat.eq_of_beq_eq_true hb.1
      have e2 := Nat.eq_of_beq_eq_true hb.2
      dsimp only at e1 e2 h
      subst e1
      subst e2
      cases h
      exact List.mem_cons_self
    | false =>
      rw [hb] at h
      exact List.mem_cons_of_mem _ (rx_luv_e (t := r) h)
end
section
/-- what the tables say of an array over arrays -/
theorem rx_ao_spec {A : Array Value} {s : State} {t : FieldType} (h : (Cond.arrayOver (.array t)).before A s = true) :
    ∃ comp c k, s.vm.findClass (FieldType.array t).toString = some comp ∧ (s.vm.classes.findIdx? fun (x : Class) => match x.kind with | .array component _ => component == comp | _ => false) = some c ∧ s.vm.classes[c]? = some k ∧ k.kind = .array comp (.array t) ∧ s.vm.findClass ("[" ++ (FieldType.array t).toString) = some c := by
  simp only [Cond.before, Cond.holds, Cond.value, beq_iff_eq] at h
  cases hc : s.vm.findClass (FieldType.array t).toString with
  | none => simp [hc] at h
  | some comp =>
    simp only [hc, Option.bind_some, Option.bind_eq_some_iff, Option.map_eq_some_iff] at h
    obtain ⟨c, hi, k, hk, hb⟩ := h
    obtain ⟨hlt, hp, -⟩ := Array.findIdx?_eq_some_iff_getElem.mp hi
    have hkk : s.vm.classes[c] = k := (Array.getElem?_eq_some_iff.mp hk).2
    rw [hkk] at hp
    cases hkind : k.kind with
    | array component ty =>
      rw [hkind] at hb hp
      simp at hb hp
      exact ⟨comp, c, k, rfl, hi, hk, by rw [hkind, hp, hb.1], hb.2⟩
    | _ => rw [hkind] at hb; simp at hb
theorem rx_ao_moved {t : FieldType} {u U : State} (hvm : u.vm.Alike U.vm) (h : va_Nw (.arrayOver (.array t)) u) : va_Nw (.arrayOver (.array t)) U := by
  obtain ⟨comp, c, k, h1, h2, h3, h4, h5⟩ := rx_ao_spec h
  obtain ⟨k', hk', he⟩ := hvm.2.2 _ _ h3
  have hi : (U.vm.classes.findIdx? fun (x : Class) => match x.kind with | .array component _ => component == comp | _ => false) = some c := by
    refine Eq.trans (va_idx_bare U.vm comp).symm ?_
    first | rw [hvm.bare_eq] | rw [← hvm.bare_eq]
    exact Eq.trans (va_idx_bare u.vm comp) h2
  have hkind : k'.kind = .array comp (.array t) := by rw [he]; exact h4
  have f1 : U.vm.findClass (FieldType.array t).toString = some comp := by rw [hvm.findClass]; exact h1
  have f2 : U.vm.findClass ("[" ++ (FieldType.array t).toString) = some c := by rw [hvm.findClass]; exact h5
  unfold va_Nw Cond.before Cond.holds
  simp only [Cond.value]
  rw [f1, Option.bind_some]
  refine (congrArg (fun o : Option Nat => (o.bind (fun c => (U.vm.classes[c]?).map fun (k : Class) => match k.kind with | .array _ ty => decide (ty = FieldType.array t) && decide (U.vm.findClass ("[" ++ (FieldType.array t).toString) = some c) | _ => false) == some true)) hi).trans ?_
  simp [hk', hkind, f2]
/-- what holds of the tables at a state, and of the read-only arrays at its heap: classes, array classes, read-only arrays, statics, links between nest mates -/
def rx_Kx (cl : List vw_C) (tys : List FieldType) (sts : List (String × String × String × Nat)) (nst : List Cond) (D : va_G) (dT : Nat → ClassId) (ro : Nat → Nat) (rt : rx_R) (base : Nat) (U : State) (H : Heap) : Prop :=
  (∀ (c : Nat) (q : vw_C), cl[c]? = some q → u_Kn U q.1 q.2.1 q.2.2 (D.1 c) (D.2 c)) ∧
  (∀ (t : Nat) (ty : FieldType), tys[t]? = some ty → ArrOfT U (dT t) ty ∧ va_RA U (dT t) ty) ∧
  (∀ (id n : Nat) (f : Nat → Int32), id < 16 → rt id = some (n, f) → va_T .int (ro id) n (fun j => .int (f j)) (fun q => base ≤ q) U H) ∧
  (∀ q ∈ sts, q.2.2.2 < 16 ∧ va_Z q.1 q.2.1 q.2.2.1 (.ref (ro q.2.2.2)) (fun q => base ≤ q) U H) ∧
  (∀ w ∈ nst, va_Nw w U)
def rx_isN (w : Cond) : Bool := match w with
  | .fieldLinkNest _ _ _ _ _ _ => true
  | .methodLinkNest _ _ _ _ => true
  | .arrayOver (.array _) => true
  | _ => false
theorem rx_isN_cases {w : Cond} (h : rx_isN w = true) : (∃ a b c d e f, w = .fieldLinkNest a b c d e f) ∨ (∃ a b c d, w = .methodLinkNest a b c d) ∨ ∃ t, w = .arrayOver (.array t) := by
  unfold rx_isN at h
  split at h
  · exact Or.inl ⟨_, _, _, _, _, _, rfl⟩
  · exact Or.inr (Or.inl ⟨_, _, _, _, rfl⟩)
  · exact Or.inr (Or.inr ⟨_, rfl⟩)
  · cases h
section RXK
variable {cl : List vw_C} {tys : List FieldType} {sts : List (String × String × String × Nat)} {nst : List Cond} {D : va_G} {dT : Nat → ClassId} {ro : Nat → Nat} {rt : rx_R} {base : Nat} {U : State} {H : Heap}
theorem rx_Kx.K (h : rx_Kx cl tys sts nst D dT ro rt base U H) {t : Nat} {ty : FieldType} (ht : tys[t]? = some ty) : va_K D cl [(dT t, ty)] U := ⟨h.1, fun k q hk => by
  have h1 : k < 1 := (List.getElem?_eq_some_iff.mp hk).1
  have h2 : k = 0 := by omega
  subst h2
  cases hk
  exact h.2.1 t ty ht⟩
theorem rx_Kx.K0 (h : rx_Kx cl tys sts nst D dT ro rt base U H) : va_K D cl [] U := ⟨h.1, fun k q hk => by simp at hk⟩
theorem rx_Kx.kept (h : rx_Kx cl tys sts nst D dT ro rt base U H) {H1 : Heap} (hq : ∀ a : Nat, a < H.size → ¬ base ≤ a → H1[a]? = H[a]?) : rx_Kx cl tys sts nst D dT ro rt base U H1 :=
  ⟨h.1, h.2.1, fun id n f h1 h2 => (h.2.2.1 id n f h1 h2).kept hq, fun q hs => ⟨(h.2.2.2.1 q hs).1, (h.2.2.2.1 q hs).2.kept hq⟩, h.2.2.2.2⟩
theorem rx_Kx.warm (h : rx_Kx cl tys sts nst D dT ro rt base U H) (hn : ∀ w ∈ nst, rx_isN w = true) {V : State} (hW : U.WarmedH V.vm) : rx_Kx cl tys sts nst D dT ro rt base V H := by
  refine ⟨fun c q hq => u_Kn_moved hW.alike (h.1 c q hq), fun t ty ht => ⟨arrOfT_moved hW.alike (h.2.1 t ty ht).1, (h.2.1 t ty ht).2.moved hW.alike⟩, fun id n f h1 h2 => (h.2.2.1 id n f h1 h2).moved hW.alike, fun q hs => ⟨(h.2.2.2.1 q hs).1, (h.2.2.2.1 q hs).2.moved hW.alike⟩, fun w hw => ?_⟩
  have h1 := hn w hw
  have h2 := h.2.2.2.2 w hw
  rcases rx_isN_cases h1 with ⟨a, b, c, d, e, f, rfl⟩ | ⟨a, b, c, d, rfl⟩ | ⟨t, rfl⟩
  · exact h2.warmF hW
  · exact h2.warmM hW
  · exact rx_ao_moved hW.alike h2
theorem rx_Kx.same (h : rx_Kx cl tys sts nst D dT ro rt base U H) (hn : ∀ w ∈ nst, rx_isN w = true) {V : State} (hV : U.vm = V.vm) : rx_Kx cl tys sts nst D dT ro rt base V H := by
  have ha : U.vm.Alike V.vm := hV ▸ Vm.Alike.refl U.vm
  exact ⟨fun c q hq => u_Kn_moved ha (h.1 c q hq), fun t ty ht => ⟨arrOfT_moved ha (h.2.1 t ty ht).1, (h.2.1 t ty ht).2.moved ha⟩, fun id n f h1 h2 => (h.2.2.1 id n f h1 h2).moved ha, fun q hs => ⟨(h.2.2.2.1 q hs).1, (h.2.2.2.1 q hs).2.moved ha⟩, fun w hw => by
    have h2 := h.2.2.2.2 w hw
    rcases rx_isN_cases (hn w hw) with ⟨a, b, c, d, e, f, rfl⟩ | ⟨a, b, c, d, rfl⟩ | ⟨t, rfl⟩
    · exact va_Nw.same rfl hV h2
    · exact va_Nw.same rfl hV h2
    · exact rx_ao_moved ha h2⟩
end RXK
/-- what the links of the pools must be: each by words of the tables 'all', or by a word 'nst' between nest mates -/
def rx_GF (all nst : List Cond) (cl : List vw_C) (own : String) (ix ci k : Nat) (ty : FieldType) (fl : Nat) : Prop := ∃ (C : String) (T : u_T) (N : Nat), cl[ci]? = some (C, T, N) ∧ k < N ∧ parseFieldDescriptor (T k).2.2.1 = some ty ∧ (fl = 0 → (T k).2.2.2 = false) ∧ (fl = 1 → (T k).2.2.2 = true ∧ (T k).1 = own ∧ Cond.fieldLink own ix (T k).1 (T k).2.1 (T k).2.2.1 ∈ all) ∧
  (Cond.fieldLink own ix (T k).1 (T k).2.1 (T k).2.2.1 ∈ all ∨ ∃ host : String, Cond.fieldLinkNest own ix (T k).1 (T k).2.1 (T k).2.2.1 host ∈ nst)
def rx_GC (all : List Cond) (q : vw_C) : Prop := (∀ w ∈ u_ws q.1 q.2.1 q.2.2, w ∈ all) ∧ (∃ ty0 : Nat → FieldType, ∀ k, k < q.2.2 → parseFieldDescriptor (q.2.1 k).2.2.1 = some (ty0 k)) ∧ (∀ a, a < q.2.2 → ∀ b, b < q.2.2 → a ≠ b → (q.2.1 a).2.1 ≠ (q.2.1 b).2.1) ∧ Cond.instantiable q.1 q.2.2 ∈ all ∧ Cond.initialized q.1 ∈ all
section RXA
variable (p : Program) (l : Launch) (e : Env) (R : Room) (s : State) (m : MethodId) (args : Array Value) (below : List Frame) (meth : Method) (c : Code) (Q : State → Prop)
variable (cl : List vw_C) (D : va_G) (dT : Nat → ClassId) (ro : Nat → Nat) (base n0 z0 : Nat)
/-- the machine is right from this abstract point on -/
def rx_At (nL pc : Nat) (lv : rx_L) (st : List Value) (h : rx_H) : Prop := ∀ (H : Heap) (locs : List Loc) (ls : Array Slot), n0 ≤ h.length → z0 ≤ rx_sz h → rx_W D cl dT (rx_ad ro base) base h H → va_S (fun q => base ≤ q) s.heap H locs → lv_has ls nL (rx_cl2 (rx_ad ro base) lv) →
  W p l e R s m args below meth c H locs (h.length - n0) (rx_sz h - z0) Q (F0 m pc ls (st.map (rx_cv (rx_ad ro base))))
end RXA
end
section
section RXH
variable {p : Program} {l : Launch} {e : Env} {R : Room} {s : State} {m : MethodId} {args : Array Value} {below : List Frame} {meth : Method} {c : Code} {Q : State → Prop}
variable {cl : List vw_C} {tys : List FieldType} {sts : List (String × String × String × Nat)} {nst : List Cond} {D : va_G} {dT : Nat → ClassId} {ro : Nat → Nat} {rt : rx_R} {base n0 z0 : Nat}
variable {cc : ByteArray} {nL pc pc' : Nat} {lv lv' : rx_L} {st st' t : List Value} {h : rx_H}
theorem rx_At.set {k : Nat} {c0 c' : rx_C} (K : rx_At p l e R s m args below meth c Q cl D dT ro base n0 z0 nL pc' lv' st' (h.set k c')) (hk : h[k]? = some c0) (hs : rx_sz1 c' = rx_sz1 c0) (H : Heap) (locs : List Loc) (ls : Array Slot) (hn : n0 ≤ h.length) (hz : z0 ≤ rx_sz h) (hW : rx_W D cl dT (rx_ad ro base) base (h.set k c') H) (hS : va_S (fun q => base ≤ q) s.heap H locs) (hl : lv_has ls nL (rx_cl2 (rx_ad ro base) lv')) :
    W p l e R s m args below meth c H locs (h.length - n0) (rx_sz h - z0) Q (F0 m pc' ls (st'.map (rx_cv (rx_ad ro base)))) := by
  have h1 := K H locs ls (by rw [List.length_set]; exact hn) (by rw [rx_sz_set h k c0 c' hk hs]; exact hz) hW hS hl
  rw [List.length_set, rx_sz_set h k c0 c' hk hs] at h1
  exact h1
theorem rx_h_iald (hx : p.tables.exec = Jvm.exec) (hb : c.code = cc) (hK : rx_Kx cl tys sts nst D dT ro rt base s s.heap) (ht : tys[0]? = some .int) {i : Int32} {a : Nat} {q : Nat × (Nat → Int32)} (hr : rx_ri rt h a = some q) (hin : vp_in i q.1) (hd : decode cc pc = .ok (.iaload, 1))
    (K : rx_At p l e R s m args below meth c Q cl D dT ro base n0 z0 nL (pc + 1) lv (.int (q.2 i.toNatClampNeg) :: t) h) : rx_At p l e R s m args below meth c Q cl D dT ro base n0 z0 nL pc lv (.int i :: .ref a :: t) h := by
  intro H locs ls hn hz hW hS hl
  obtain ⟨n, f⟩ := q
  rcases rx_ri_e hr with ⟨h1, h2⟩ | ⟨k, rfl, h1, h2⟩
  · show W p l e R s m args below meth c H locs _ _ Q (F0 m pc ls (.int i :: .ref (rx_ad ro base a) :: t.map (rx_cv (rx_ad ro base))))
    rw [rx_ad_r ro base h1]
    exact va_ti (v := .int (f i.toNatClampNeg)) hx hb (hK.2.2.1 a n f h1 h2) hS hin rfl hd (K H locs ls hn hz hW hS hl)
  · show W p l e R s m args below meth c H locs _ _ Q (F0 m pc ls (.int i :: .ref (rx_ad ro base (k + 16)) :: t.map (rx_cv (rx_ad ro base))))
    rw [rx_ad_k ro base k]
    exact va_iald (f := f) (n := n) hx hb (hK.K ht) (rx_one (hW.2 k _ h1)) 0 0 rfl rfl hin hd (K H locs ls hn hz hW hS hl)
theorem rx_h_lald (hx : p.tables.exec = Jvm.exec) (hb : c.code = cc) (hK : rx_Kx cl tys sts nst D dT ro rt base s s.heap) (ht : tys[1]? = some .long) {i : Int32} {a : Nat} {q : Nat × (Nat → Int64)} (hr : rx_rl h a = some q) (hin : vp_in i q.1) (hd : decode cc pc = .ok (.laload, 1))
    (K : rx_At p l e R s m args below meth c Q cl D dT ro base n0 z0 nL (pc + 1) lv (.long (q.2 i.toNatClampNeg) :: t) h) : rx_At p l e R s m args below meth c Q cl D dT ro base n0 z0 nL pc lv (.int i :: .ref a :: t) h := by
  intro H locs ls hn hz hW hS hl
  obtain ⟨n, f⟩ := q
  obtain ⟨k, rfl, h1, h2⟩ := rx_rl_e hr
  show W p l e R s m args below meth c H locs _ _ Q (F0 m pc ls (.int i :: .ref (rx_ad ro base (k + 16)) :: t.map (rx_cv (rx_ad ro base))))
  rw [rx_ad_k ro base k]
  exact va_lald (f := f) (n := n) hx hb (hK.K ht) (rx_one (hW.2 k _ h1)) 0 0 rfl rfl hin hd (K H locs ls hn hz hW hS hl)
theorem rx_h_zald (hx : p.tables.exec = Jvm.exec) (hb : c.code = cc) (hK : rx_Kx cl tys sts nst D dT ro rt base s s.heap) (ht : tys[2]? = some .boolean) {i : Int32} {a : Nat} {q : Nat × (Nat → Int32)} (hr : rx_rz h a = some q) (hin : vp_in i q.1) (hd : decode cc pc = .ok (.baload, 1))
    (K : rx_At p l e R s m args below meth c Q cl D dT ro base n0 z0 nL (pc + 1) lv (.int (q.2 i.toNatClampNeg) :: t) h) : rx_At p l e R s m args below meth c Q cl D dT ro base n0 z0 nL pc lv (.int i :: .ref a :: t) h := by
  intro H locs ls hn hz hW hS hl
  obtain ⟨n, f⟩ := q
  obtain ⟨k, rfl, h1, h2⟩ := rx_rz_e hr
  show W p l e R s m args below meth c H locs _ _ Q (F0 m pc ls (.int i :: .ref (rx_ad ro base (k + 16)) :: t.map (rx_cv (rx_ad ro base))))
  rw [rx_ad_k ro base k]
  exact va_zald (f := f) (n := n) hx hb (hK.K ht) (rx_one (hW.2 k _ h1)) 0 0 rfl rfl hin hd (K H locs ls hn hz hW hS hl)
theorem rx_h_iast (hx : p.tables.exec = Jvm.exec) (hb : c.code = cc) (hK : rx_Kx cl tys sts nst D dT ro rt base s s.heap) (ht : tys[0]? = some .int) {x i : Int32} {k n : Nat} {f : Nat → Int32} (hk : h[k]? = some (.inl (0, n, .inl f))) (hlt : k < h.length) (hin : vp_in i n) (hd : decode cc pc = .ok (.iastore, 1))
    (K : rx_At p l e R s m args below meth c Q cl D dT ro base n0 z0 nL (pc + 1) lv t (h.set k (.inl (0, n, .inl (upd f i.toNatClampNeg x))))) : rx_At p l e R s m args below meth c Q cl D dT ro base n0 z0 nL pc lv (.int x :: .int i :: .ref (k + 16) :: t) h := by
  intro H locs ls hn hz hW hS hl
  show W p l e R s m args below meth c H locs _ _ Q (F0 m pc ls (.int x :: .int i :: .ref (rx_ad ro base (k + 16)) :: t.map (rx_cv (rx_ad ro base))))
  rw [rx_ad_k ro base k]
  have hc : H[base + k]? = some (vp_cell (dT 0) (n, .inl f)) := hW.2 k _ hk
  refine W.iast hx hb hc ((hK.2.1 0 _ ht).1 n (fun j => .int (f j))) (fun q => by cases q) (by show ¬ (i < 0 ∨ (arrV _ _ _).slots.size ≤ _); rw [arrV_size]; exact hin) rfl rfl hd fun H1 e1 z1 oq => ?_
  refine K.set hk rfl H1 _ ls hn hz (hW.set hlt z1 ?_ oq) (hS.put z1 oq (Nat.le_add_right _ _)) hl
  show H1[base + k]? = some (vp_cell (dT 0) (n, .inl (upd f i.toNatClampNeg x)))
  rw [e1, vp_cell_i, vp_cell_i, arrV_store]
  congr 2
  funext q
  by_cases hq : q = i.toNatClampNeg
  · subst hq
    simp [updV, upd]
  · simp [updV, upd, hq]
theorem rx_h_last (hx : p.tables.exec = Jvm.exec) (hb : c.code = cc) (hK : rx_Kx cl tys sts nst D dT ro rt base s s.heap) (ht : tys[1]? = some .long) {x : Int64} {i : Int32} {k n : Nat} {f : Nat → Int64} (hk : h[k]? = some (.inl (1, n, .inr (.inl f)))) (hlt : k < h.length) (hin : vp_in i n) (hd : decode cc pc = .ok (.lastore, 1))
    (K : rx_At p l e R s m args below meth c Q cl D dT ro base n0 z0 nL (pc + 1) lv t (h.set k (.inl (1, n, .inr (.inl (vp_updL f i.toNatClampNeg x)))))) : rx_At p l e R s m args below meth c Q cl D dT ro base n0 z0 nL pc lv (.long x :: .int i :: .ref (k + 16) :: t) h := by
  intro H locs ls hn hz hW hS hl
  show W p l e R s m args below meth c H locs _ _ Q (F0 m pc ls (.long x :: .int i :: .ref (rx_ad ro base (k + 16)) :: t.map (rx_cv (rx_ad ro base))))
  rw [rx_ad_k ro base k]
  have hc : H[base + k]? = some (vp_cell (dT 1) (n, .inr (.inl f))) := hW.2 k _ hk
  refine W.last hx hb hc ((hK.2.1 1 _ ht).1 n (fun j => .long (f j))) (fun q => by cases q) (by show ¬ (i < 0 ∨ (arrV _ _ _).slots.size ≤ _); rw [arrV_size]; exact hin) rfl rfl hd fun H1 e1 z1 oq => ?_
  refine K.set hk rfl H1 _ ls hn hz (hW.set hlt z1 ?_ oq) (hS.put z1 oq (Nat.le_add_right _ _)) hl
  show H1[base + k]? = some (vp_cell (dT 1) (n, .inr (.inl (vp_updL f i.toNatClampNeg x))))
  rw [e1, vp_cell_l, vp_cell_l, arrV_store]
  congr 2
  funext q
  by_cases hq : q = i.toNatClampNeg
  · subst hq
    simp [updV, vp_updL]
  · simp [updV, vp_updL, hq]
theorem rx_h_zast (hx : p.tables.exec = Jvm.exec) (hb : c.code = cc) (hK : rx_Kx cl tys sts nst D dT ro rt base s s.heap) (ht : tys[2]? = some .boolean) {x i : Int32} {k n : Nat} {f : Nat → Int32} (hk : h[k]? = some (.inl (2, n, .inl f))) (hlt : k < h.length) (hin : vp_in i n) (hd : decode cc pc = .ok (.bastore, 1))
    (K : rx_At p l e R s m args below meth c Q cl D dT ro base n0 z0 nL (pc + 1) lv t (h.set k (.inl (2, n, .inl (upd f i.toNatClampNeg (vp_nar .boolean x)))))) : rx_At p l e R s m args below meth c Q cl D dT ro base n0 z0 nL pc lv (.int x :: .int i :: .ref (k + 16) :: t) h := by
  intro H locs ls hn hz hW hS hl
  show W p l e R s m args below meth c H locs _ _ Q (F0 m pc ls (.int x :: .int i :: .ref (rx_ad ro base (k + 16)) :: t.map (rx_cv (rx_ad ro base))))
  rw [rx_ad_k ro base k]
  have hc : H[base + k]? = some (vp_cell (dT 2) (n, .inl f)) := hW.2 k _ hk
  refine W.zast hx hb hc ((hK.2.1 2 _ ht).1 n (fun j => .int (f j))) (fun q => by cases q) (by show ¬ (i < 0 ∨ (arrV _ _ _).slots.size ≤ _); rw [arrV_size]; exact hin) rfl rfl hd fun H1 e1 z1 oq => ?_
  refine K.set hk rfl H1 _ ls hn hz (hW.set hlt z1 ?_ oq) (hS.put z1 oq (Nat.le_add_right _ _)) hl
  show H1[base + k]? = some (vp_cell (dT 2) (n, .inl (upd f i.toNatClampNeg (vp_nar .boolean x))))
  rw [e1, vp_cell_i, vp_cell_i, arrV_store]
  congr 2
  funext q
  by_cases hq : q = i.toNatClampNeg
  · subst hq
    simp [updV, upd, vp_nar, narrow]
  · simp [updV, upd, hq]
theorem rx_h_alen (hx : p.tables.exec = Jvm.exec) (hb : c.code = cc) (hK : rx_Kx cl tys sts nst D dT ro rt base s s.heap) {a n : Nat} (hT : 4 ≤ tys.length) (hr : rx_aln rt h a = some n) (hd : decode cc pc = .ok (.arraylength, 1))
    (K : rx_At p l e R s m args below meth c Q cl D dT ro base n0 z0 nL (pc + 1) lv (.int (Int32.ofNat n) :: t) h) : rx_At p l e R s m args below meth c Q cl D dT ro base n0 z0 nL pc lv (.ref a :: t) h := by
  intro H locs ls hn hz hW hS hl
  unfold rx_aln at hr
  split at hr
  · next h1 =>
    cases hq : rt a with
    | none => rw [hq] at hr; cases hr
    | some q =>
      obtain ⟨n', f⟩ := q
      rw [hq] at hr
      cases hr
      show W p l e R s m args below meth c H locs _ _ Q (F0 m pc ls (.ref (rx_ad ro base a) :: t.map (rx_cv (rx_ad ro base))))
      rw [rx_ad_r ro base h1]
      exact va_tlen hx hb (hK.2.2.1 a n' f h1 hq) hS rfl hd (K H locs ls hn hz hW hS hl)
  · next h1 =>
    split at hr
    · next q hq =>
      split at hr
      · next q4 =>
        cases hr
        obtain ⟨k, rfl, g1, g2⟩ := rx_cell_e hq
        obtain ⟨ty, hty⟩ : ∃ ty, tys[q.1]? = some ty := ⟨tys[q.1]'(by omega), List.getElem?_eq_getElem (by omega)⟩
        show W p l e R s m args below meth c H locs _ _ Q (F0 m pc ls (.ref (rx_ad ro base (k + 16)) :: t.map (rx_cv (rx_ad ro base))))
        rw [rx_ad_k ro base k]
        exact va_alen (x := rx_ca (rx_ad ro base) q.2) hx hb (hK.K hty) (rx_one (hW.2 k _ g1)) 0 0 rfl rfl rfl hd (K H locs ls hn hz hW hS hl)
      · cases hr
    · cases hr
end RXH
end
section
theorem rx_fit_n {ty : FieldType} {v : Value} (ad : Nat → Nat) (h : rx_fit ty v = true) : narrow ty (rx_cv ad v) = rx_cv ad v ∧ fits ty (rx_cv ad v) = true := by
  unfold rx_fit at h
  split at h
  · exact ⟨rfl, rfl⟩
  · exact ⟨rfl, rfl⟩
  · next x =>
    simp only [Bool.or_eq_true, decide_eq_true_eq] at h
    rcases h with rfl | rfl
    · exact ⟨(by decide +kernel : narrow .boolean (.int 0) = .int 0), (by decide +kernel : fits .boolean (.int 0) = true)⟩
    · exact ⟨(by decide +kernel : narrow .boolean (.int 1) = .int 1), (by decide +kernel : fits .boolean (.int 1) = true)⟩
  · exact ⟨rfl, rfl⟩
  · exact ⟨rfl, rfl⟩
  · cases h
section RXF
variable {p : Program} {l : Launch} {e : Env} {R : Room} {s : State} {m : MethodId} {args : Array Value} {below : List Frame} {meth : Method} {c : Code} {Q : State → Prop}
variable {all : List Cond} {cl : List vw_C} {tys : List FieldType} {sts : List (String × String × String × Nat)} {nst : List Cond} {D : va_G} {dT : Nat → ClassId} {ro : Nat → Nat} {rt : rx_R} {base n0 z0 : Nat}
variable {cc : ByteArray} {nL pc pc' : Nat} {lv lv' : rx_L} {st st' t : List Value} {h : rx_H} {own : String}
theorem rx_h_get (hx : p.tables.exec = Jvm.exec) (hb : c.code = cc) (hts : ∀ w ∈ all, w.before args s = true) (hown : s.vm.findClass own = some m.cls) (hK : rx_Kx cl tys sts nst D dT ro rt base s s.heap) (GC : ∀ (ci : Nat) (q : vw_C), cl[ci]? = some q → rx_GC all q) {ix ci k : Nat} {ty : FieldType} {fl : Nat} (G : rx_GF all nst cl own ix ci k ty fl)
    {o : Nat} {fs : List Value} {v : Value} (hk : h[o]? = some (.inr (ci, fs))) (hv : fs[k]? = some v) (hd : decode cc pc = .ok (.getfield ix, 3))
    (K : rx_At p l e R s m args below meth c Q cl D dT ro base n0 z0 nL (pc + 3) lv (v :: t) h) : rx_At p l e R s m args below meth c Q cl D dT ro base n0 z0 nL pc lv (.ref (o + 16) :: t) h := by
  intro H locs ls hn hz hW hS hl
  show W p l e R s m args below meth c H locs _ _ Q (F0 m pc ls (.ref (rx_ad ro base (o + 16)) :: t.map (rx_cv (rx_ad ro base))))
  rw [rx_ad_k ro base o]
  obtain ⟨C, T, N, hc, hkN, hpd, -, -, hlk | ⟨host, hlk⟩⟩ := G
  · exact va_get (D := D) (ci := ci) (v := rx_cv (rx_ad ro base) v) (C := C) (T := T) (N := N) hx hb hts (GC ci _ hc).1 hown hK.K0 (rx_one (hW.2 o _ hk)) 0 rfl hc k hkN (hts _ hlk) (fun _ h9 => h9) (by rw [List.getElem?_map, hv]; rfl) hd (K H locs ls hn hz hW hS hl)
  · exact va_getN (D := D) (ci := ci) (v := rx_cv (rx_ad ro base) v) (C := C) (T := T) (N := N) hx hb hts (GC ci _ hc).1 hown hK.K0 (rx_one (hW.2 o _ hk)) 0 rfl hc k hkN (va_Nw.use rfl (hK.2.2.2.2 _ hlk)) (fun _ h9 => h9) (by rw [List.getElem?_map, hv]; rfl) hd (K H locs ls hn hz hW hS hl)
theorem rx_h_put (hx : p.tables.exec = Jvm.exec) (hb : c.code = cc) (hts : ∀ w ∈ all, w.before args s = true) (hown : s.vm.findClass own = some m.cls) (hK : rx_Kx cl tys sts nst D dT ro rt base s s.heap) (GC : ∀ (ci : Nat) (q : vw_C), cl[ci]? = some q → rx_GC all q) {ix ci k : Nat} {ty : FieldType} {fl : Nat} {ini : Bool} (G : rx_GF all nst cl own ix ci k ty fl) (hini : ini = true → meth.name = "<init>")
    {o : Nat} {fs : List Value} {v : Value} (hk : h[o]? = some (.inr (ci, fs))) (hlt : o < h.length) (hkl : k < fs.length) (hfit : rx_fit ty v = true) (hf : fl = 0 ∨ (fl = 1 ∧ ini = true)) (hd : decode cc pc = .ok (.putfield ix, 3))
    (K : rx_At p l e R s m args below meth c Q cl D dT ro base n0 z0 nL (pc + 3) lv t (h.set o (.inr (ci, fs.set k v)))) : rx_At p l e R s m args below meth c Q cl D dT ro base n0 z0 nL pc lv (v :: .ref (o + 16) :: t) h := by
  intro H locs ls hn hz hW hS hl
  show W p l e R s m args below meth c H locs _ _ Q (F0 m pc ls (rx_cv (rx_ad ro base) v :: .ref (rx_ad ro base (o + 16)) :: t.map (rx_cv (rx_ad ro base))))
  rw [rx_ad_k ro base o]
  obtain ⟨C, T, N, hc, hkN, hpd, hf0, hf1, hlk⟩ := G
  obtain ⟨g1, ⟨ty0, g2⟩, g3, g4, g5⟩ := GC ci _ hc
  obtain ⟨f1, f2⟩ := rx_fit_n (rx_ad ro base) hfit
  have hap := va_apart (own := own) hts g1 ty0 g2 g3 hK.K0 hc
  obtain ⟨r, h1, cell, q1, q2, q3, q4⟩ := hW.2 o _ hk
  have hr : r = (C, T, N) := Option.some.inj (h1.symm.trans hc)
  subst hr
  obtain ⟨hSl, hfc, kC, hkC, hkind⟩ := hK.1 ci _ hc
  obtain ⟨cf, kf, fi, f, hi, hsl⟩ := hSl k hkN
  have hst := (u_facts hfc hkC (u_lays hts g1 hkN) hi).1
  have hlay := hts _ (g1 _ (u_in_lay hkN))
  unfold u_lay at hlay
  have fin' : ∀ (H1 : Heap) (sl : Nat), H1[base + o]? = some (cell.setSlot ((D.2 ci) k) (rx_cv (rx_ad ro base) v)) → H1.size = H.size → (∀ q : Nat, q ≠ base + o → H1[q]? = H[q]?) →
      W p l e R s m args below meth c H1 (locs ++ [⟨base + o, sl⟩]) (h.length - n0) (rx_sz h - z0) Q (F0 m (pc + 3) ls (t.map (rx_cv (rx_ad ro base)))) := by
    intro H1 sl e1 e2 e3
    refine K.set hk (by simp [rx_sz1]) H1 _ ls hn hz (hW.set hlt e2 ?_ e3) (hS.put e2 e3 (Nat.le_add_right _ _)) hl
    refine ⟨_, hc, t_OB.to (V := updV (vp_V (fs.map (rx_cv (rx_ad ro base)))) k (rx_cv (rx_ad ro base) v)) ⟨_, e1, q2, q3, t_set q4 hap hkN _⟩ (fun j _ => ?_)⟩
    have e9 : (fs.set k v).map (rx_cv (rx_ad ro base)) = (fs.map (rx_cv (rx_ad ro base))).set k (rx_cv (rx_ad ro base) v) := List.map_set
    show _ = vp_V ((fs.set k v).map (rx_cv (rx_ad ro base))) j
    rw [e9]
    exact vp_updV_set (by rw [List.length_map]; exact hkl) _ j
  rcases hf with hfl | ⟨hfl, hi9⟩
  · rw [if_neg (by rw [hf0 hfl]; decide)] at hlay
    have h6 := u_store hfc hkC hkind hlay hi hpd f1 f2
    rcases hlk with hlk | ⟨host, hlk⟩
    · refine W.putK hx hb (f := f) ⟨hown, hts _ hlk, ⟨_, _, _, hi⟩, hst⟩ (by rw [q2]; exact h6) q1 q3 (by rw [hsl]; exact k2_hasslot (q4 k hkN)) rfl rfl hd fun H' e1 e2 e3 => ?_
      rw [hsl] at e1
      exact fin' H' _ e1 e2 e3
    · refine va_WputK hx hb (f := f) hown (va_Nw.use rfl (hK.2.2.2.2 _ hlk)) hi hst (by rw [q2]; exact h6) q1 q3 (by rw [hsl]; exact k2_hasslot (q4 k hkN)) rfl rfl hd fun H' e1 e2 e3 => ?_
      rw [hsl] at e1
      exact fin' H' _ e1 e2 e3
  · obtain ⟨w1, w2, w3⟩ := hf1 hfl
    rw [if_pos w1] at hlay
    have hi2 : meth.name = "<init>" := hini hi9
    have hcf : m.cls = cf := by
      obtain ⟨_, _, c', _, _, _, -, -, hf', -, -, -, hown2, -⟩ := Cond.laysFinal_spec hlay
      have e1 : c' = cf := by have := hi.symm.trans hf'; simp at this; exact this.1.symm
      rw [w2] at hown2
      rw [← e1]; exact Option.some.inj (hown.symm.trans hown2)
    have h6 := u_fits hfc hkC hkind (Or.inr hlay) hi hpd f1 f2
    refine W.putFinK hx hb hown (hts _ w3) hi hst hcf hi2 (by rw [q2]; exact h6) q1 q3 (by rw [hsl]; exact k2_hasslot (q4 k hkN)) rfl rfl hd fun H' e1 e2 e3 => ?_
    rw [hsl] at e1
    exact fin' H' _ e1 e2 e3
end RXF
end
section
def rx_noref (fs : List Value) : Bool := fs.all (fun v => match v with | .ref _ => false | _ => true)
theorem rx_noref_e (ad : Nat → Nat) : ∀ (fs : List Value), rx_noref fs = true → fs.map (rx_cv ad) = fs
  | [], _ => rfl
  | v :: fs, h => by
    simp only [rx_noref, List.all_cons, Bool.and_eq_true] at h
    have ih := rx_noref_e ad fs (by simpa [rx_noref] using h.2)
    rw [List.map_cons, ih]
    have h1 := h.1
    cases v <;> first | rfl | exact absurd h1 (by simp)
def rx_nw (o : Option Nat) (cds : List (List Value)) (pc : Nat) (lv : rx_L) (st : List Value) (h : rx_H) : Option rx_N := match o with
  | some ci => match cds[ci]? with
    | some fs => rx_nx (pc + 3) lv (.ref (h.length + 16) :: st) (h ++ [.inr (ci, fs)])
    | none => none
  | none => none
/-- which array a 'newarray' makes: the type's place, the zeros -/
def rx_aty (a : ArrayType) : Option (Nat × FieldType) := match a with
  | .int => some (0, .int)
  | .long => some (1, .long)
  | .boolean => some (2, .boolean)
  | _ => none
def rx_zer (t n : Nat) : vp_A := if t = 1 then (n, .inr (.inl (fun _ => 0))) else (n, .inl (fun _ => 0))
def rx_na (o : Option (Nat × FieldType)) (pc : Nat) (lv : rx_L) (st : List Value) (h : rx_H) : Option rx_N := match o, st with
  | some q, .int n :: r => if n < 0 ∨ 1000000 < n.toNatClampNeg then none else rx_nx (pc + 2) lv (.ref (h.length + 16) :: r) (h ++ [.inl (q.1, rx_zer q.1 n.toNatClampNeg)])
  | _, _ => none
theorem rx_nw_e {o : Option Nat} {cds : List (List Value)} {pc : Nat} {lv : rx_L} {st : List Value} {h : rx_H} {r : Nat × rx_L × List Value × rx_H} (e : rx_nw o cds pc lv st h = some r) : ∃ ci fs, o = some ci ∧ cds[ci]? = some fs ∧ r = (pc + 3, lv, .ref (h.length + 16) :: st, h ++ [.inr (ci, fs)]) := by
  unfold rx_nw at e
  split at e
  · next ci =>
    split at e
    · next fs w => exact ⟨ci, fs, rfl, w, rx_nx_e e⟩
    · cases e
  · cases e
theorem rx_na_e {o : Option (Nat × FieldType)} {pc : Nat} {lv : rx_L} {st : List Value} {h : rx_H} {r : Nat × rx_L × List Value × rx_H} (e : rx_na o pc lv st h = some r) : ∃ q n t, o = some q ∧ st = .int n :: t ∧ ¬ n < 0 ∧ n.toNatClampNeg ≤ 1000000 ∧ r = (pc + 2, lv, .ref (h.length + 16) :: t, h ++ [.inl (q.1, rx_zer q.1 n.toNatClampNeg)]) := by
  unfold rx_na at e
  split at e
  · next q n t =>
    split at e
    · cases e
    · next w => exact ⟨q, n, t, rfl, rfl, fun z => w (Or.inl z), Nat.not_lt.mp (fun z => w (Or.inr z)), rx_nx_e e⟩
  · cases e
def rx_GN (all : List Cond) (cl : List vw_C) (cds : List (List Value)) (own : String) (ix ci : Nat) : Prop := ∃ (C : String) (T : u_T) (N : Nat) (ty0 : Nat → FieldType) (fs : List Value), cl[ci]? = some (C, T, N) ∧ cds[ci]? = some fs ∧ fs.length = N ∧ rx_noref fs = true ∧ Cond.classLink own ix C ∈ all ∧ (∀ k, k < N → parseFieldDescriptor (T k).2.2.1 = some (ty0 k)) ∧ ∀ j, j < N → defaultValue (ty0 j) = vp_V fs j
section RXN
variable {p : Program} {l : Launch} {e : Env} {R : Room} {s : State} {m : MethodId} {args : Array Value} {below : List Frame} {meth : Method} {c : Code} {Q : State → Prop}
variable {all : List Cond} {cl : List vw_C} {tys : List FieldType} {sts : List (String × String × String × Nat)} {nst : List Cond} {D : va_G} {dT : Nat → ClassId} {ro : Nat → Nat} {rt : rx_R} {base n0 z0 : Nat}
variable {cc : ByteArray} {nL pc pc' : Nat} {lv lv' : rx_L} {st st' t : List Value} {h : rx_H} {own : String}
theorem rx_At.push {c' : rx_C} (K : rx_At p l e R s m args below meth c Q cl D dT ro base n0 z0 nL pc' lv' st' (h ++ [c'])) (H : Heap) (locs : List Loc) (ls : Array Slot) (hn : n0 ≤ h.length) (hz : z0 ≤ rx_sz h) (hW : rx_W D cl dT (rx_ad ro base) base (h ++ [c']) H) (hS : va_S (fun q => base ≤ q) s.heap H locs) (hl : lv_has ls nL (rx_cl2 (rx_ad ro base) lv')) :
    W p l e R s m args below meth c H locs (h.length - n0 + 1) (rx_sz h - z0 + rx_sz1 c') Q (F0 m pc' ls (st'.map (rx_cv (rx_ad ro base)))) := by
  have e1 : rx_sz (h ++ [c']) = rx_sz h + rx_sz1 c' := by simp [rx_sz]
  have h1 := K H locs ls (by simp; omega) (by rw [e1]; omega) hW hS hl
  rw [e1, List.length_append, show h.length + [c'].length - n0 = h.length - n0 + 1 by simp; omega, show rx_sz h + rx_sz1 c' - z0 = rx_sz h - z0 + rx_sz1 c' by omega] at h1
  exact h1
theorem rx_h_new (hx : p.tables.exec = Jvm.exec) (hb : c.code = cc) (hts : ∀ w ∈ all, w.before args s = true) (hown : s.vm.findClass own = some m.cls) (hK : rx_Kx cl tys sts nst D dT ro rt base s s.heap) (GC : ∀ (ci : Nat) (q : vw_C), cl[ci]? = some q → rx_GC all q) {cds : List (List Value)} {ix ci : Nat} (G : rx_GN all cl cds own ix ci)
    {fs : List Value} (hfs : cds[ci]? = some fs) (hRc : h.length + 1 ≤ n0 + R.cells) (hRs : rx_sz h + fs.length ≤ z0 + R.slots) (hd : decode cc pc = .ok (.new ix, 3))
    (K : rx_At p l e R s m args below meth c Q cl D dT ro base n0 z0 nL (pc + 3) lv (.ref (h.length + 16) :: st) (h ++ [.inr (ci, fs)])) : rx_At p l e R s m args below meth c Q cl D dT ro base n0 z0 nL pc lv st h := by
  intro H locs ls hn hz hW hS hl
  obtain ⟨C, T, N, ty0, fs', hc, hcd, hlen, hnr, hlk, hty, hdf⟩ := G
  cases hcd.symm.trans hfs
  obtain ⟨g1, -, -, g4, g5⟩ := GC ci _ hc
  have hKn := hK.1 ci _ hc
  refine W.newcK (h := H.size) hx hb hown (hts _ hlk) (hts _ g4) (hts _ g5) rfl hd (by omega) (show rx_sz h - z0 + N ≤ R.slots by omega) hKn.2.1 rfl fun H1 kC hkC e1 z1 o1 => ?_
  have h1 := K.push H1 locs ls hn hz (hW.push z1 ?_ o1) ⟨by rw [z1]; exact Nat.le_trans hS.1 (Nat.le_succ _), fun x q1 q2 => (o1 x (Nat.lt_of_lt_of_le q1 hS.1)).trans (hS.2.1 x q1 q2), hS.2.2⟩ hl
  · rw [show rx_sz1 (.inr (ci, fs)) = N from hlen] at h1
    rw [List.map_cons, show rx_cv (rx_ad ro base) (.ref (h.length + 16)) = .ref (rx_ad ro base (h.length + 16)) from rfl, rx_ad_k ro base, ← hW.1] at h1
    exact h1
  · refine ⟨_, hc, ?_⟩
    rw [show (rx_ce (rx_ad ro base) dT (.inr (ci, fs))) = .inr (ci, fs.map (rx_cv (rx_ad ro base))) from rfl, rx_noref_e _ fs hnr, ← hW.1]
    exact (u_born ty0 hts g1 hKn hkC e1 hty).to hdf
theorem rx_h_na (hx : p.tables.exec = Jvm.exec) (hb : c.code = cc) (hts : ∀ w ∈ all, w.before args s = true) (hK : rx_Kx cl tys sts nst D dT ro rt base s s.heap) (htt : tys[0]? = some .int ∧ tys[1]? = some .long ∧ tys[2]? = some .boolean) {at' : ArrayType} {q : Nat × FieldType} (hq : rx_aty at' = some q) (harr : Cond.arrayClass q.2 ∈ all)
    {n : Int32} (hn0 : ¬ n < 0) (hn1 : n.toNatClampNeg ≤ 1000000) (hRc : h.length + 1 ≤ n0 + R.cells) (hRs : rx_sz h + n.toNatClampNeg ≤ z0 + R.slots) (hd : decode cc pc = .ok (.newarray at', 2))
    (K : rx_At p l e R s m args below meth c Q cl D dT ro base n0 z0 nL (pc + 2) lv (.ref (h.length + 16) :: t) (h ++ [.inl (q.1, rx_zer q.1 n.toNatClampNeg)])) : rx_At p l e R s m args below meth c Q cl D dT ro base n0 z0 nL pc lv (.int n :: t) h := by
  intro H locs ls hn hz hW hS hl
  have hty : newarray.typeOf at' = q.2 ∧ tys[q.1]? = some q.2 ∧ (∀ cA : ClassId, vp_cell cA (rx_ca (rx_ad ro base) (rx_zer q.1 n.toNatClampNeg)) = arrV cA n.toNatClampNeg (fun _ => defaultValue q.2)) ∧ componentBytes q.2 ≤ 8 ∧ "[" ++ q.2.toString = "[" ++ (newarray.typeOf at').toString ∧ rx_sz1 (.inl (q.1, rx_zer q.1 n.toNatClampNeg)) = n.toNatClampNeg ∧ (∀ U cA, va_RA U cA q.2 → U.vm.findClass ("[" ++ q.2.toString) = some cA) := by
    cases at' <;> first
      | (cases hq; refine ⟨rfl, ?_, fun _ => rfl, by decide, rfl, rfl, fun _ _ z => z⟩; first | exact htt.1 | exact htt.2.1 | exact htt.2.2)
      | (cases hq)
  obtain ⟨e1, e2, e3, e4, e5, e6, e7⟩ := hty
  refine va_newaK (h := H.size) (N := n.toNatClampNeg) hx hb (by rw [e1]; exact hts _ harr) (g := F0 m pc ls (.int n :: t.map (rx_cv (rx_ad ro base)))) rfl hd rfl hn0 rfl (by rw [e1]; exact Nat.le_trans (Nat.mul_le_mul hn1 e4) (by decide)) (by omega) (by omega) rfl fun H1 cA c1 z1 o1 hAr hNm => ?_
  have hcA : cA = dT q.1 := by
    have h1 := e7 _ _ (hK.2.1 q.1 _ e2).2
    rw [e5, hNm] at h1
    exact Option.some.inj h1
  subst hcA
  have h1 := K.push H1 locs ls hn hz (hW.push z1 ?_ o1) ⟨by rw [z1]; exact Nat.le_trans hS.1 (Nat.le_succ _), fun x q1 q2 => (o1 x (Nat.lt_of_lt_of_le q1 hS.1)).trans (hS.2.1 x q1 q2), hS.2.2⟩ hl
  · rw [e6, List.map_cons, show rx_cv (rx_ad ro base) (.ref (h.length + 16)) = .ref (rx_ad ro base (h.length + 16)) from rfl, rx_ad_k ro base, ← hW.1] at h1
    exact h1
  · show H1[base + h.length]? = some (vp_cell (dT q.1) (rx_ca (rx_ad ro base) (rx_zer q.1 n.toNatClampNeg)))
    rw [e3, ← e1, ← hW.1]
    exact c1
end RXN
end
section
def rx_rcv (h : rx_H) (k ci : Nat) (as : List Value) : Bool := match k, as with
  | 0, _ => true
  | 1, .ref a :: _ => match rx_ro h a with
    | some q => Nat.beq q.1 ci
    | none => false
  | _, .ref _ :: _ => true
  | _, _ => false
def rx_an (M : rx_M) (kind : Nat) : Nat := match kind with
  | 0 => rx_Mn M
  | _ => rx_Mn M + 1
def rx_iv (ms : List rx_M) (o : Option (Nat × Nat)) (kind : Nat) (st : List Value) (h : rx_H) : Option (Nat × List Value × List Value) := match o with
  | some q => match ms[q.1]? with
    | some M => if rx_Mk M = kind ∧ rx_an M kind ≤ st.length ∧ ((st.drop (rx_an M kind)).map (fun v => v.category)).sum ≤ 8 ∧ (lg_sl (st.take (rx_an M kind)).reverse).length ≤ rx_Ml M ∧ rx_rcv h kind (rx_Mc M) (st.take (rx_an M kind)).reverse = true
      then some (q.1, (st.take (rx_an M kind)).reverse, st.drop (rx_an M kind)) else none
    | none => none
  | none => none
theorem rx_iv_e {ms : List rx_M} {o : Option (Nat × Nat)} {kind : Nat} {st : List Value} {h : rx_H} {j : Nat} {as rest : List Value} (e : rx_iv ms o kind st h = some (j, as, rest)) :
    ∃ nest M, o = some (j, nest) ∧ ms[j]? = some M ∧ rx_Mk M = kind ∧ as.length = rx_an M kind ∧ st = as.reverse ++ rest ∧ (rest.map (fun v => v.category)).sum ≤ 8 ∧ (lg_sl as).length ≤ rx_Ml M ∧ rx_rcv h kind (rx_Mc M) as = true := by
  unfold rx_iv at e
  split at e
  · next q =>
    split at e
    · next M w =>
      split at e
      · next z =>
        obtain ⟨z1, z2, z3, z4, z5⟩ := z
        have e1 := Option.some.inj e
        obtain ⟨j', nest⟩ := q
        simp only [Prod.mk.injEq] at e1
        obtain ⟨rfl, rfl, rfl⟩ := e1
        refine ⟨nest, M, rfl, w, z1, ?_, ?_, z3, z4, z5⟩
        · rw [List.length_reverse, List.length_take]; omega
        · rw [List.reverse_reverse, List.take_append_drop]
      · cases e
    · cases e
  · cases e
/-- which call an instruction is, if it is one -/
def rx_call (ms : List rx_M) (lk : rx_Lk) (M : rx_M) (ins : Instr) (st : List Value) (h : rx_H) : Option (Nat × List Value × List Value) := match ins with
  | .invokestatic ix => rx_iv ms (rx_luv lk.2.2.1 (rx_Mo M) ix) 0 st h
  | .invokevirtual ix => rx_iv ms (rx_luv lk.2.2.1 (rx_Mo M) ix) 1 st h
  | .invokespecial ix => rx_iv ms (rx_luv lk.2.2.1 (rx_Mo M) ix) 2 st h
  | _ => none
theorem rx_call_e {ms : List rx_M} {lk : rx_Lk} {M : rx_M} {ins : Instr} {st : List Value} {h : rx_H} {r : Nat × List Value × List Value} (e : rx_call ms lk M ins st h = some r) : ∃ ix k, rx_iv ms (rx_luv lk.2.2.1 (rx_Mo M) ix) k st h = some r ∧ ((ins = .invokestatic ix ∧ k = 0) ∨ (ins = .invokevirtual ix ∧ k = 1) ∨ (ins = .invokespecial ix ∧ k = 2)) := by
  unfold rx_call at e
  split at e
  · next ix => exact ⟨ix, 0, e, Or.inl ⟨rfl, rfl⟩⟩
  · next ix => exact ⟨ix, 1, e, Or.inr (Or.inl ⟨rfl, rfl⟩)⟩
  · next ix => exact ⟨ix, 2, e, Or.inr (Or.inr ⟨rfl, rfl⟩)⟩
  · cases e
def rx_GM (all : List Cond) (cl : List vw_C) (M : rx_M) : Prop :=
  Cond.code (rx_My M) (rx_Mb M) (rx_Ml M) (rx_Mr M) ∈ all ∧ Cond.initialized (rx_My M).cls ∈ all ∧ ((rx_My M).cls ≠ "java/lang/invoke/MethodHandle" ∧ (rx_My M).cls ≠ "java/lang/invoke/VarHandle") ∧ (parseMethodDescriptor (rx_My M).desc).map (fun d => d.parameters.length) = some (rx_Mn M) ∧ plainFor (rx_My M) = true ∧
  (rx_Mk M = 0 → Cond.static (rx_My M) ∈ all) ∧ (rx_Mk M = 1 → Cond.instanceMethod (rx_My M) ∈ all ∧ ∃ q : vw_C, cl[rx_Mc M]? = some q ∧ Cond.selects q.1 (rx_My M) (rx_My M) ∈ all) ∧ (rx_Mk M = 2 → Cond.instanceMethod (rx_My M) ∈ all ∧ (rx_My M).name = "<init>" ∧ rx_Mr M = none)
def rx_GL (all nst : List Cond) (own : String) (ix : Nat) (y : MethodName) : Prop := Cond.methodLink own ix y ∈ all ∨ ∃ host : String, Cond.methodLinkNest own ix y host ∈ nst
def rx_Pc (cl : List vw_C) (tys : List FieldType) (sts : List (String × String × String × Nat)) (nst : List Cond) (D : va_G) (dT : Nat → ClassId) (ro : Nat → Nat) (rt : rx_R) (base : Nat) (as : List Value) (h : rx_H) : Array Value → State → Prop :=
  va_Pc (as.map (rx_cv (rx_ad ro base))) (fun U => rx_W D cl dT (rx_ad ro base) base h U.heap ∧ rx_Kx cl tys sts nst D dT ro rt base U U.heap)
def rx_Qc (cl : List vw_C) (D : va_G) (dT : Nat → ClassId) (ro : Nat → Nat) (base : Nat) (v : Option Value) (h' : rx_H) : Array Value → State → Outcome → State → Prop :=
  fun _ st o t => o = .returned (v.map (rx_cv (rx_ad ro base))) ∧ rx_W D cl dT (rx_ad ro base) base h' t.heap ∧ ∀ q : Nat, q < base → t.heap[q]? = st.heap[q]?
abbrev rx_ws (all : List Cond) (M : rx_M) : List Cond := Cond.code (rx_My M) (rx_Mb M) (rx_Ml M) (rx_Mr M) :: all
def rx_rm (d w mc ms : Nat) : Room := { frames := d, cells := mc, slots := ms, locals := w }
/-- the contract of a run -/
def rx_Met (l : Launch) (all : List Cond) (cl : List vw_C) (tys : List FieldType) (sts : List (String × String × String × Nat)) (nst : List Cond) (D : va_G) (dT : Nat → ClassId) (ro : Nat → Nat) (rt : rx_R) (base : Nat) (M : rx_M) (d w : Nat) (as : List Value) (h : rx_H) (v : Option Value) (h' : rx_H) : Prop :=
  Met l (rx_My M) (rx_ws all M) (rx_rm d w (h'.length - h.length) (rx_sz h' - rx_sz h)) (rx_Pc cl tys sts nst D dT ro rt base as h) (rx_Qc cl D dT ro base v h') (h'.length - h.length) (rx_sz h' - rx_sz h) (fun q => base ≤ q)
section RXC
variable {p : Program} {l : Launch} {e : Env} {R : Room} {s : State} {m : MethodId} {args : Array Value} {below : List Frame} {meth : Method} {c : Code} {Q : State → Prop}
variable {all : List Cond} {cl : List vw_C} {tys : List FieldType} {sts : List (String × String × String × Nat)} {nst : List Cond} {D : va_G} {dT : Nat → ClassId} {ro : Nat → Nat} {rt : rx_R} {base n0 z0 : Nat}
variable {cc : ByteArray} {nL pc pc' : Nat} {lv lv' : rx_L} {st st' t : List Value} {h h' : rx_H} {own : String}
theorem rx_h_back (hlen : h.length ≤ h'.length) (hsz : rx_sz h ≤ rx_sz h') (hs0 : s.heap.size = base + n0) {v : Option Value} {rest : List Value} {H : Heap} {locs : List Loc} {ls : Array Slot} {stk : List Value} {a : Array Value} (hn : n0 ≤ h.length) (hz : z0 ≤ rx_sz h) (hS : va_S (fun q => base ≤ q) s.heap H locs) (hl : lv_has ls nL (rx_cl2 (rx_ad ro base) lv))
    (run : va_Run p l e R s m args below meth c H locs (h.length - n0) (rx_sz h - z0) (h'.length - h.length) (rx_sz h' - rx_sz h) (F0 m pc ls stk) (rest.map (rx_cv (rx_ad ro base))) (rx_Qc cl D dT ro base v h' a) (fun q => base ≤ q))
    (K : rx_At p l e R s m args below meth c Q cl D dT ro base n0 z0 nL (pc + 3) lv (v.toList ++ rest) h') : W p l e R s m args below meth c H locs (h.length - n0) (rx_sz h - z0) Q (F0 m pc ls stk) := by
  intro T hT X
  obtain ⟨v0, st₀, t, T', L, h0, X', hL, e1, e2, ⟨hv, hW', hfr⟩, stp⟩ := run T hT X
  cases hv
  have hS' : va_S (fun q => base ≤ q) s.heap T'.heap (locs ++ L) := by
    refine ⟨by rw [e1, hW'.1, hs0]; omega, fun q q1 q2 => ?_, fun q hq => ?_⟩
    · rw [e1, hfr q (Nat.not_le.mp q2), h0]
      exact hS.2.1 q q1 q2
    · rcases List.mem_append.mp hq with h9 | h9
      · exact hS.2.2 q h9
      · exact hL q h9
  have hg : ({ (F0 m pc ls stk) with pc := (F0 m pc ls stk).pc + 3, stack := (v.map (rx_cv (rx_ad ro base))).toList ++ rest.map (rx_cv (rx_ad ro base)) } : JFrame) = F0 m (pc + 3) ls ((v.toList ++ rest).map (rx_cv (rx_ad ro base))) := by
    cases v <;> rfl
  rw [hg] at stp
  have h1 := K T'.heap (locs ++ L) ls (by omega) (by omega) (by rw [e1]; exact hW') hS' hl
  rw [show h'.length - n0 = h.length - n0 + (h'.length - h.length) by omega, show rx_sz h' - z0 = rx_sz h - z0 + (rx_sz h' - rx_sz h) by omega] at h1
  obtain ⟨t2, a1, b1⟩ := h1 T' rfl X'
  exact ⟨t2, stp t2 a1, b1⟩
theorem rx_blind (hno : ∀ w ∈ nst, rx_isN w = true) {as : List Value} : FrameBlind (rx_Pc cl tys sts nst D dT ro rt base as h) := fun _ U _ _ q => ⟨q.1, q.2.1, q.2.2.same hno rfl⟩
theorem rx_pre (hni : ∀ w ∈ nst, rx_isN w = true) (hK : rx_Kx cl tys sts nst D dT ro rt base s s.heap) {H : Heap} {locs : List Loc} (hW : rx_W D cl dT (rx_ad ro base) base h H) (hS : va_S (fun q => base ≤ q) s.heap H locs) {as : List Value} (U : State) (hU : U.heap = H) (hw : s.WarmedH U.vm) : rx_Pc cl tys sts nst D dT ro rt base as h (as.map (rx_cv (rx_ad ro base))).toArray U := by
  refine ⟨rfl, by rw [hU]; exact hW, ?_⟩
  rw [hU]
  exact (hK.warm hni hw).kept (fun a h1 h2 => hS.2.1 a h1 h2)
theorem rx_good (hg : ∀ w ∈ all, (w.onTables && w.keeps) = true ∨ ∃ ty, w = .arrayClass ty) {M : rx_M} (hM : Cond.code (rx_My M) (rx_Mb M) (rx_Ml M) (rx_Mr M) ∈ all) : GoodIn all (rx_ws all M) := by
  intro w hw
  rcases List.mem_cons.mp hw with rfl | h
  · exact ⟨hM, hg _ hM⟩
  · exact ⟨h, hg _ h⟩
end RXC
section RXD
variable {p : Program} {l : Launch} {e : Env} {R : Room} {s : State} {m : MethodId} {args : Array Value} {below : List Frame} {meth : Method} {c : Code} {Q : State → Prop}
variable {all : List Cond} {cl : List vw_C} {tys : List FieldType} {sts : List (String × String × String × Nat)} {nst : List Cond} {D : va_G} {dT : Nat → ClassId} {ro : Nat → Nat} {rt : rx_R} {base n0 z0 : Nat}
variable {cc : ByteArray} {nL pc pc' : Nat} {lv lv' : rx_L} {st st' t : List Value} {h h' : rx_H} {own : String}
theorem rx_h_callS (hx : p.tables.exec = Jvm.exec) (hb : c.code = cc) (hml : c.maxLocals = nL) (hts : ∀ w ∈ all, w.before args s = true) (hown : s.vm.findClass own = some m.cls) (hK : rx_Kx cl tys sts nst D dT ro rt base s s.heap) (hg : ∀ w ∈ all, (w.onTables && w.keeps) = true ∨ ∃ ty, w = .arrayClass ty) (hno : ∀ w ∈ nst, rx_isN w = true) (hni : ∀ w ∈ nst, rx_isN w = true) (hs0 : s.heap.size = base + n0)
    {ix d w : Nat} {M : rx_M} (G : rx_GM all cl M) (GL : rx_GL all nst own ix (rx_My M)) (hk : rx_Mk M = 0) {as rest : List Value} {v : Option Value} (hM : rx_Met l all cl tys sts nst D dT ro rt base M d w as h v h') (hlen : h.length ≤ h'.length) (hsz : rx_sz h ≤ rx_sz h') (han : as.length = rx_Mn M) (hrs : (rest.map (fun v => v.category)).sum ≤ 8) (hR : d + 1 ≤ R.frames ∧ w + (19 + rx_Ml M) ≤ R.locals) (hRc : h'.length ≤ n0 + R.cells) (hRs : rx_sz h' ≤ z0 + R.slots) (hd : decode cc pc = .ok (.invokestatic ix, 3))
    (K : rx_At p l e R s m args below meth c Q cl D dT ro base n0 z0 nL (pc + 3) lv (v.toList ++ rest) h') : rx_At p l e R s m args below meth c Q cl D dT ro base n0 z0 nL pc lv (as.reverse ++ rest) h := by
  intro H locs ls hn hz hW hS hl
  obtain ⟨g1, g2, g3, g4, g6, g7, g8, g9⟩ := G
  have hrs' : ((rest.map (rx_cv (rx_ad ro base))).map (fun v => v.category)).sum ≤ 8 := by
    rw [List.map_map, show ((fun v => Value.category v) ∘ rx_cv (rx_ad ro base)) = (fun v => v.category) from funext (rx_cat _)]
    exact hrs
  refine rx_h_back hlen hsz hs0 hn hz hS hl (a := (as.map (rx_cv (rx_ad ro base))).toArray) (rest := rest) ?_ K
  rcases GL with h1 | ⟨host, h1⟩
  · exact va_runS (As := as.map (rx_cv (rx_ad ro base))) ⟨hx, hb, hml, hown, hts⟩ hM ⟨callB_of (rx_Mn M) hts (rx_good hg g1) rfl rfl rfl (hts _ g2) (hts _ h1) ⟨g3.1, g3.2, g4⟩ ⟨hR.1, by show 8 + (rx_Ml M + 11) + w ≤ R.locals; omega⟩, hts _ (g7 hk)⟩ ⟨rx_blind hno, rx_pre hni hK hW hS⟩ rfl (by rw [List.length_map]; exact han) hl.1 (by show List.map _ _ = _; rw [List.map_append, List.map_reverse]) (lv_room hrs') hd ⟨by omega, by omega⟩
  · exact va_runSN (host := host) (As := as.map (rx_cv (rx_ad ro base))) ⟨hx, hb, hml, hown, hts⟩ hM ⟨va_cnB (rx_Mn M) hts (rx_good hg g1) rfl rfl rfl (hK.2.2.2.2 _ h1) (hts _ g2) ⟨g3.1, g3.2, g4⟩ ⟨hR.1, by show 8 + (rx_Ml M + 11) + w ≤ R.locals; omega⟩, hts _ (g7 hk), trivial⟩ ⟨rx_blind hno, rx_pre hni hK hW hS⟩ rfl (by rw [List.length_map]; exact han) hl.1 (by show List.map _ _ = _; rw [List.map_append, List.map_reverse]) (lv_room hrs') hd ⟨by omega, by omega⟩
theorem rx_h_callV (hx : p.tables.exec = Jvm.exec) (hb : c.code = cc) (hml : c.maxLocals = nL) (hts : ∀ w ∈ all, w.before args s = true) (hown : s.vm.findClass own = some m.cls) (hK : rx_Kx cl tys sts nst D dT ro rt base s s.heap) (hg : ∀ w ∈ all, (w.onTables && w.keeps) = true ∨ ∃ ty, w = .arrayClass ty) (hno : ∀ w ∈ nst, rx_isN w = true) (hni : ∀ w ∈ nst, rx_isN w = true) (hs0 : s.heap.size = base + n0)
    {ix d w : Nat} {M : rx_M} (G : rx_GM all cl M) (GL : rx_GL all nst own ix (rx_My M)) (hk : rx_Mk M = 1) {o : Nat} {as rest fs : List Value} {v : Option Value} (ho : h[o]? = some (.inr (rx_Mc M, fs))) (hM : rx_Met l all cl tys sts nst D dT ro rt base M d w (.ref (o + 16) :: as) h v h') (hlen : h.length ≤ h'.length) (hsz : rx_sz h ≤ rx_sz h') (han : as.length = rx_Mn M) (hrs : (rest.map (fun v => v.category)).sum ≤ 8) (hR : d + 1 ≤ R.frames ∧ w + (19 + rx_Ml M) ≤ R.locals) (hRc : h'.length ≤ n0 + R.cells) (hRs : rx_sz h' ≤ z0 + R.slots) (hd : decode cc pc = .ok (.invokevirtual ix, 3))
    (K : rx_At p l e R s m args below meth c Q cl D dT ro base n0 z0 nL (pc + 3) lv (v.toList ++ rest) h') : rx_At p l e R s m args below meth c Q cl D dT ro base n0 z0 nL pc lv ((.ref (o + 16) :: as).reverse ++ rest) h := by
  intro H locs ls hn hz hW hS hl
  obtain ⟨g1, g2, g3, g4, g6, g7, g8, g9⟩ := G
  obtain ⟨g8a, q, g8b, g8c⟩ := g8 hk
  have hrs' : ((rest.map (rx_cv (rx_ad ro base))).map (fun v => v.category)).sum ≤ 8 := by
    rw [List.map_map, show ((fun v => Value.category v) ∘ rx_cv (rx_ad ro base)) = (fun v => v.category) from funext (rx_cat _)]
    exact hrs
  have har : (Value.ref (rx_ad ro base (o + 16)) :: as.map (rx_cv (rx_ad ro base))).toArray = ((.ref (o + 16) :: as : List Value).map (rx_cv (rx_ad ro base))).toArray := rfl
  have hrec : ∃ cellB : Cell, H[rx_ad ro base (o + 16)]? = some cellB ∧ cellB.vm.isStatics = false ∧ s.vm.findClass q.1 = some cellB.cls := by
    rw [rx_ad_k]
    exact va_recv hK.K0 (rx_one (hW.2 o _ ho)) g8b (q0 := 0) rfl
  refine rx_h_back hlen hsz hs0 hn hz hS hl (a := (Value.ref (rx_ad ro base (o + 16)) :: as.map (rx_cv (rx_ad ro base))).toArray) (rest := rest) ?_ K
  rcases GL with h1 | ⟨host, h1⟩
  · exact va_runV (C := q.1) (As := as.map (rx_cv (rx_ad ro base))) ⟨hx, hb, hml, hown, hts⟩ hM ⟨callB_of (rx_Mn M) hts (rx_good hg g1) rfl rfl rfl (hts _ g2) (hts _ h1) ⟨g3.1, g3.2, g4⟩ ⟨hR.1, by show 8 + (rx_Ml M + 11) + w ≤ R.locals; omega⟩, hts _ g8a, hts _ g8c⟩ ⟨rx_blind hno, hrec, rx_pre (as := .ref (o + 16) :: as) hni hK hW hS⟩ rfl (by rw [List.length_map]; exact han) hl.1 (by show List.map _ _ = _; simp [rx_cv]) (lv_room hrs') hd ⟨by omega, by omega⟩
  · exact va_runVN (host := host) (C := q.1) (As := as.map (rx_cv (rx_ad ro base))) ⟨hx, hb, hml, hown, hts⟩ hM ⟨va_cnB (rx_Mn M) hts (rx_good hg g1) rfl rfl rfl (hK.2.2.2.2 _ h1) (hts _ g2) ⟨g3.1, g3.2, g4⟩ ⟨hR.1, by show 8 + (rx_Ml M + 11) + w ≤ R.locals; omega⟩, hts _ g8a, hts _ g8c⟩ ⟨rx_blind hno, hrec, rx_pre (as := .ref (o + 16) :: as) hni hK hW hS⟩ rfl (by rw [List.length_map]; exact han) hl.1 (by show List.map _ _ = _; simp [rx_cv]) (lv_room hrs') hd ⟨by omega, by omega⟩
theorem rx_h_callI (hx : p.tables.exec = Jvm.exec) (hb : c.code = cc) (hml : c.maxLocals = nL) (hts : ∀ w ∈ all, w.before args s = true) (hown : s.vm.findClass own = some m.cls) (hK : rx_Kx cl tys sts nst D dT ro rt base s s.heap) (hg : ∀ w ∈ all, (w.onTables && w.keeps) = true ∨ ∃ ty, w = .arrayClass ty) (hno : ∀ w ∈ nst, rx_isN w = true) (hni : ∀ w ∈ nst, rx_isN w = true) (hs0 : s.heap.size = base + n0)
    {ix d w : Nat} {M : rx_M} (G : rx_GM all cl M) (GL : rx_GL all nst own ix (rx_My M)) (hk : rx_Mk M = 2) {o : Nat} {as rest : List Value} {v : Option Value} (hM : rx_Met l all cl tys sts nst D dT ro rt base M d w (.ref o :: as) h v h') (hlen : h.length ≤ h'.length) (hsz : rx_sz h ≤ rx_sz h') (han : as.length = rx_Mn M) (hrs : (rest.map (fun v => v.category)).sum ≤ 8) (hR : d + 1 ≤ R.frames ∧ w + (19 + rx_Ml M) ≤ R.locals) (hRc : h'.length ≤ n0 + R.cells) (hRs : rx_sz h' ≤ z0 + R.slots) (hd : decode cc pc = .ok (.invokespecial ix, 3))
    (K : rx_At p l e R s m args below meth c Q cl D dT ro base n0 z0 nL (pc + 3) lv (v.toList ++ rest) h') : rx_At p l e R s m args below meth c Q cl D dT ro base n0 z0 nL pc lv ((.ref o :: as).reverse ++ rest) h := by
  intro H locs ls hn hz hW hS hl
  obtain ⟨g1, g2, g3, g4, g6, g7, g8, g9⟩ := G
  obtain ⟨g9a, g9b, g9c⟩ := g9 hk
  have hrs' : ((rest.map (rx_cv (rx_ad ro base))).map (fun v => v.category)).sum ≤ 8 := by
    rw [List.map_map, show ((fun v => Value.category v) ∘ rx_cv (rx_ad ro base)) = (fun v => v.category) from funext (rx_cat _)]
    exact hrs
  refine rx_h_back hlen hsz hs0 hn hz hS hl (a := (Value.ref (rx_ad ro base o) :: as.map (rx_cv (rx_ad ro base))).toArray) (rest := rest) ?_ K
  unfold rx_Met rx_ws at hM
  have hgd := rx_good hg g1
  unfold rx_ws at hgd
  rw [g9c] at hM hgd
  rcases GL with h1 | ⟨host, h1⟩
  · exact va_runI (As := as.map (rx_cv (rx_ad ro base))) ⟨hx, hb, hml, hown, hts⟩ hM ⟨callB_of (rx_Mn M) hts hgd rfl rfl rfl (hts _ g2) (hts _ h1) ⟨g3.1, g3.2, g4⟩ ⟨hR.1, by show 8 + (rx_Ml M + 11) + w ≤ R.locals; omega⟩, g9b, hts _ g9a⟩ ⟨rx_blind hno, rx_pre (as := .ref o :: as) hni hK hW hS⟩ rfl (by rw [List.length_map]; exact han) hl.1 (by show List.map _ _ = _; simp [rx_cv]) (lv_room hrs') hd ⟨by omega, by omega⟩
  · exact va_runIN (host := host) (As := as.map (rx_cv (rx_ad ro base))) ⟨hx, hb, hml, hown, hts⟩ hM ⟨va_cnB (rx_Mn M) hts hgd rfl rfl rfl (hK.2.2.2.2 _ h1) (hts _ g2) ⟨g3.1, g3.2, g4⟩ ⟨hR.1, by show 8 + (rx_Ml M + 11) + w ≤ R.locals; omega⟩, g9b, hts _ g9a⟩ ⟨rx_blind hno, rx_pre (as := .ref o :: as) hni hK hW hS⟩ rfl (by rw [List.length_map]; exact han) hl.1 (by show List.map _ _ = _; simp [rx_cv]) (lv_room hrs') hd ⟨by omega, by omega⟩
end RXD
end
section
def rx_oi (d w : Nat) (pc : Nat) (lv : rx_L) (st : List Value) (h : rx_H) : Option rx_N := match st with
  | .ref _ :: r => if (1 ≤ d ∧ 20 ≤ w) ∧ (r.map (fun v => v.category)).sum ≤ 8 then rx_nx (pc + 3) lv r h else none
  | _ => none
theorem rx_oi_e {d w pc : Nat} {lv : rx_L} {st : List Value} {h : rx_H} {r : Nat × rx_L × List Value × rx_H} (e : rx_oi d w pc lv st h = some r) : ∃ a t, st = .ref a :: t ∧ (1 ≤ d ∧ 20 ≤ w) ∧ (t.map (fun v => v.category)).sum ≤ 8 ∧ r = (pc + 3, lv, t, h) := by
  unfold rx_oi at e
  split at e
  · next a t =>
    split at e
    · next y => exact ⟨a, t, rfl, y.1, y.2, rx_nx_e e⟩
    · cases e
  · cases e
def rx_ac (d w : Nat) (pc : Nat) (lv : rx_L) (st : List Value) (h : rx_H) : Option rx_N := match st with
  | .int n :: .int dp :: .ref a :: .int sp :: .ref b :: r => match rx_cold h b 0, rx_cold h a 0 with
    | some (n0, .inl f), some (n1, .inl g) => if (1 ≤ d ∧ 26 ≤ w) ∧ (r.map (fun v => v.category)).sum ≤ 8 ∧ ¬ sp < 0 ∧ ¬ dp < 0 ∧ ¬ n < 0 ∧ sp.toNatClampNeg + n.toNatClampNeg ≤ n0 ∧ dp.toNatClampNeg + n.toNatClampNeg ≤ n1 then rx_nx (pc + 3) lv r (rx_put h a 0 (n1, .inl (va_cpy f g sp.toNatClampNeg dp.toNatClampNeg n.toNatClampNeg))) else none
    | _, _ => none
  | _ => none
theorem rx_ac_e {d w pc : Nat} {lv : rx_L} {st : List Value} {h : rx_H} {r : Nat × rx_L × List Value × rx_H} (e : rx_ac d w pc lv st h = some r) : ∃ (n dp sp : Int32) (ka kb n0 n1 : Nat) (f g : Nat → Int32) (t : List Value), st = .int n :: .int dp :: .ref (ka + 16) :: .int sp :: .ref (kb + 16) :: t ∧ h[kb]? = some (.inl (0, n0, .inl f)) ∧ h[ka]? = some (.inl (0, n1, .inl g)) ∧ ka < h.length ∧ (1 ≤ d ∧ 26 ≤ w) ∧ (t.map (fun v => v.category)).sum ≤ 8 ∧ ¬ sp < 0 ∧ ¬ dp < 0 ∧ ¬ n < 0 ∧ sp.toNatClampNeg + n.toNatClampNeg ≤ n0 ∧ dp.toNatClampNeg + n.toNatClampNeg ≤ n1 ∧ r = (pc + 3, lv, t, h.set ka (.inl (0, n1, .inl (va_cpy f g sp.toNatClampNeg dp.toNatClampNeg n.toNatClampNeg)))) := by
  unfold rx_ac at e
  split at e
  · next n dp a sp b t =>
    split at e
    · next n0 f n1 g w1 w2 =>
      split at e
      · next z =>
        obtain ⟨z1, z2, z3, z4, z5, z6, z7⟩ := z
        obtain ⟨kb, rfl, b1, b2⟩ := rx_cold_e w1
        obtain ⟨ka, rfl, a1, a2⟩ := rx_cold_e w2
        exact ⟨n, dp, sp, ka, kb, n0, n1, f, g, t, rfl, b1, a1, a2, z1, z2, z3, z4, z5, z6, z7, rx_nx_e e⟩
      · cases e
    · cases e
  · cases e
section RXY
variable {p : Program} {l : Launch} {e : Env} {R : Room} {s : State} {m : MethodId} {args : Array Value} {below : List Frame} {meth : Method} {c : Code} {Q : State → Prop}
variable {all : List Cond} {cl : List vw_C} {tys : List FieldType} {sts : List (String × String × String × Nat)} {nst : List Cond} {D : va_G} {dT : Nat → ClassId} {ro : Nat → Nat} {rt : rx_R} {base n0 z0 : Nat}
variable {cc : ByteArray} {nL pc pc' : Nat} {lv lv' : rx_L} {st st' t : List Value} {h h' : rx_H} {own : String}
theorem rx_h_oi (hx : p.tables.exec = Jvm.exec) (hb : c.code = cc) (hml : c.maxLocals = nL) (hts : ∀ w ∈ all, w.before args s = true) (hown : s.vm.findClass own = some m.cls) {ix d w : Nat} (hlk : Cond.methodLink own ix Lib.objectInit ∈ all) (hi : Cond.instanceMethod Lib.objectInit ∈ all) (hc : Cond.code Lib.objectInit ⟨#[0xb1]⟩ 1 none ∈ all) {a : Nat} (hd1 : 1 ≤ d ∧ 20 ≤ w) (hrs : (t.map (fun v => v.category)).sum ≤ 8) (hR : d ≤ R.frames ∧ w ≤ R.locals) (hd : decode cc pc = .ok (.invokespecial ix, 3))
    (K : rx_At p l e R s m args below meth c Q cl D dT ro base n0 z0 nL (pc + 3) lv t h) : rx_At p l e R s m args below meth c Q cl D dT ro base n0 z0 nL pc lv (.ref a :: t) h := by
  intro H locs ls hn hz hW hS hl
  have hrs' : ((t.map (rx_cv (rx_ad ro base))).map (fun v => v.category)).sum ≤ 8 := by
    rw [List.map_map, show ((fun v => Value.category v) ∘ rx_cv (rx_ad ro base)) = (fun v => v.category) from funext (rx_cat _)]
    exact hrs
  exact W.objInit hx hb hown (hts _ hlk) (hts _ hi) (hts _ hc) (g := F0 m pc ls (.ref (rx_ad ro base a) :: t.map (rx_cv (rx_ad ro base)))) rfl (by rw [hml]; exact hl.1) rfl hd (by omega) (by show 2 * 0 + _ + 12 ≤ R.locals; omega) (K H locs ls hn hz hW hS hl)
theorem rx_h_ac (hx : p.tables.exec = Jvm.exec) (hb : c.code = cc) (hml : c.maxLocals = nL) (hts : ∀ w ∈ all, w.before args s = true) (hown : s.vm.findClass own = some m.cls) (hK : rx_Kx cl tys sts nst D dT ro rt base s s.heap) (ht : tys[0]? = some .int) {ix d w : Nat} (hlk : Cond.methodLink own ix arraycopyName ∈ all) (hnat : Cond.native arraycopyName ∈ all) (hstat : Cond.static arraycopyName ∈ all) (hini : Cond.initialized "java/lang/System" ∈ all)
    {n dp sp : Int32} {ka kb m0 m1 : Nat} {f g : Nat → Int32} (hkb : h[kb]? = some (.inl (0, m0, .inl f))) (hka : h[ka]? = some (.inl (0, m1, .inl g))) (hlt : ka < h.length) (hd1 : 1 ≤ d ∧ 26 ≤ w) (hrs : (t.map (fun v => v.category)).sum ≤ 8) (h1 : ¬ sp < 0) (h2 : ¬ dp < 0) (h3 : ¬ n < 0) (h4 : sp.toNatClampNeg + n.toNatClampNeg ≤ m0) (h5 : dp.toNatClampNeg + n.toNatClampNeg ≤ m1) (hR : d ≤ R.frames ∧ w ≤ R.locals) (hd : decode cc pc = .ok (.invokestatic ix, 3))
    (K : rx_At p l e R s m args below meth c Q cl D dT ro base n0 z0 nL (pc + 3) lv t (h.set ka (.inl (0, m1, .inl (va_cpy f g sp.toNatClampNeg dp.toNatClampNeg n.toNatClampNeg))))) : rx_At p l e R s m args below meth c Q cl D dT ro base n0 z0 nL pc lv (.int n :: .int dp :: .ref (ka + 16) :: .int sp :: .ref (kb + 16) :: t) h := by
  intro H locs ls hn hz hW hS hl
  have hrs' : ((t.map (rx_cv (rx_ad ro base))).map (fun v => v.category)).sum ≤ 8 := by
    rw [List.map_map, show ((fun v => Value.category v) ∘ rx_cv (rx_ad ro base)) = (fun v => v.category) from funext (rx_cat _)]
    exact hrs
  show W p l e R s m args below meth c H locs _ _ Q (F0 m pc ls (.int n :: .int dp :: .ref (rx_ad ro base (ka + 16)) :: .int sp :: .ref (rx_ad ro base (kb + 16)) :: t.map (rx_cv (rx_ad ro base))))
  rw [rx_ad_k ro base ka, rx_ad_k ro base kb]
  have nn : ∀ z : Int32, ¬ z < 0 → z.toInt = (z.toNatClampNeg : Int) := by
    intro z hz
    have hz0 : (0 : Int) ≤ z.toInt := by
      have := Int32.not_lt.mp hz
      simpa using Int32.le_iff_toInt_le.mp this
    show z.toInt = ((z.toInt.toNat : Nat) : Int)
    omega
  intro T hT X
  have hc0 : H[base + kb]? = some (vp_cell (dT 0) (m0, .inl f)) := hW.2 kb _ hkb
  have hc1 : H[base + ka]? = some (vp_cell (dT 0) (m1, .inl g)) := hW.2 ka _ hka
  obtain ⟨-, k0, hk0, cm0, hkk0⟩ := (hK.2.1 0 _ ht).1 m0 (fun j => .int (f j))
  obtain ⟨-, k1, hk1, cm1, hkk1⟩ := (hK.2.1 0 _ ht).1 m1 (fun j => .int (g j))
  obtain ⟨vm', X', step⟩ := X.arraycopy hx hown (hts _ hlk) (hts _ hnat) (hts _ hstat) (hts _ hini) (src := base + kb) (dst := base + ka) (cs := vp_cell (dT 0) (m0, .inl f)) (cd := vp_cell (dT 0) (m1, .inl g)) (srcPos := sp) (destPos := dp) (n := n) (by rw [hT]; exact hc0) (by rw [hT]; exact hc1)
    (fun _ h => by cases h) (fun _ h => by cases h) (fun h => by cases h) (fun h => by cases h) hk0 hk1 hkk0 hkk1 (by simp [refKind]) h1 h2 h3
    (by rw [nn sp h1, nn n h3]; show ¬ _ > ((arrV (dT 0) m0 (fun j => .int (f j))).slots.size : Int); rw [arrV_size]; omega)
    (by rw [nn dp h2, nn n h3]; show ¬ _ > ((arrV (dT 0) m1 (fun j => .int (g j))).slots.size : Int); rw [arrV_size]; omega)
    (fun vm₁ _ i hi => by
      have e : (vp_cell (dT 0) (m0, .inl f)).slots.getD (sp.toNatClampNeg + i) .null = .int (f (sp.toNatClampNeg + i)) := by
        show (arrV (dT 0) m0 (fun j => .int (f j))).slots.getD _ _ = _
        rw [Array.getD_eq_getD_getElem?, arrV_read _ _ (by omega)]
        rfl
      refine ⟨?_, ?_⟩
      · rw [e]
        rfl
      · rw [e]
        exact trivial)
    (g := F0 m pc ls (.int n :: .int dp :: .ref (base + ka) :: .int sp :: .ref (base + kb) :: t.map (rx_cv (rx_ad ro base)))) rfl (by rw [hml]; exact hl.1) (rest := t.map (rx_cv (rx_ad ro base))) rfl (by rw [hb]; exact hd) (by omega) (by
      have e9 : nativeFrameWords "java/lang/System" "arraycopy" 5 = 7 := by decide +kernel
      show 2 * 0 + _ + _ ≤ _
      rw [e9]
      omega)
  have e1 : copied (vp_cell (dT 0) (m0, .inl f)) (vp_cell (dT 0) (m1, .inl g)) sp dp n = vp_cell (dT 0) (m1, .inl (va_cpy f g sp.toNatClampNeg dp.toNatClampNeg n.toNatClampNeg)) := va_copied (fun z => .int z) (dT 0) (dT 0) f g h4
  rw [e1] at X' step
  have hll : base + ka < H.size := (Array.getElem?_eq_some_iff.mp hc1).1
  have hheap : ((T.setVm vm').setCell (base + ka) (vp_cell (dT 0) (m1, .inl (va_cpy f g sp.toNatClampNeg dp.toNatClampNeg n.toNatClampNeg)))).heap = H.setIfInBounds (base + ka) (vp_cell (dT 0) (m1, .inl (va_cpy f g sp.toNatClampNeg dp.toNatClampNeg n.toNatClampNeg))) := by rw [← hT]; rfl
  have oq : ∀ q : Nat, q ≠ base + ka → (H.setIfInBounds (base + ka) (vp_cell (dT 0) (m1, .inl (va_cpy f g sp.toNatClampNeg dp.toNatClampNeg n.toNatClampNeg))))[q]? = H[q]? := fun q hq => by simp [Array.getElem?_setIfInBounds, Ne.symm hq]
  have hset : (H.setIfInBounds (base + ka) (vp_cell (dT 0) (m1, .inl (va_cpy f g sp.toNatClampNeg dp.toNatClampNeg n.toNatClampNeg))))[base + ka]? = some (vp_cell (dT 0) (m1, .inl (va_cpy f g sp.toNatClampNeg dp.toNatClampNeg n.toNatClampNeg))) := by simp [Array.getElem?_setIfInBounds, hll]
  obtain ⟨t9, a1, b1⟩ := K.set hka rfl _ _ ls hn hz (hW.set hlt (by simp) hset oq) ⟨by simp; exact hS.1, fun q g1 g2 => by
      rw [oq q (fun e => g2 (by rw [e]; exact Nat.le_add_right _ _))]
      exact hS.2.1 q g1 g2, fun q hq => by
      rcases List.mem_append.mp hq with h9 | h9
      · exact hS.2.2 q h9
      · obtain ⟨z, -, hz⟩ := List.mem_map.mp h9
        rw [← hz]
        exact Nat.le_add_right _ _⟩ hl _ hheap X'
  exact ⟨t9, step t9 a1, b1⟩
end RXY
/-- Math.max, Math.min -/
def rx_m4 (d w : Nat) (pc : Nat) (lv : rx_L) (st : List Value) (h : rx_H) : Option rx_N := match st with
  | .int y :: .int x :: r => if (1 ≤ d ∧ 21 ≤ w) ∧ (r.map (fun v => v.category)).sum ≤ 8 then rx_nx (pc + 3) lv (.int (if x < y then y else x) :: r) h else none
  | _ => none
def rx_m5 (d w : Nat) (pc : Nat) (lv : rx_L) (st : List Value) (h : rx_H) : Option rx_N := match st with
  | .int y :: .int x :: r => if (1 ≤ d ∧ 21 ≤ w) ∧ (r.map (fun v => v.category)).sum ≤ 8 then rx_nx (pc + 3) lv (.int (if y < x then y else x) :: r) h else none
  | _ => none
theorem rx_m4_e {d w pc : Nat} {lv : rx_L} {st : List Value} {h : rx_H} {r : rx_N} (e : rx_m4 d w pc lv st h = some r) : ∃ x y t, st = .int y :: .int x :: t ∧ (1 ≤ d ∧ 21 ≤ w) ∧ (t.map (fun v => v.category)).sum ≤ 8 ∧ r = (pc + 3, lv, .int (if x < y then y else x) :: t, h) := by
  unfold rx_m4 at e
  split at e
  · next y x t =>
    split at e
    · next z => exact ⟨x, y, t, rfl, z.1, z.2, rx_nx_e e⟩
    · cases e
  · cases e
theorem rx_m5_e {d w pc : Nat} {lv : rx_L} {st : List Value} {h : rx_H} {r : rx_N} (e : rx_m5 d w pc lv st h = some r) : ∃ x y t, st = .int y :: .int x :: t ∧ (1 ≤ d ∧ 21 ≤ w) ∧ (t.map (fun v => v.category)).sum ≤ 8 ∧ r = (pc + 3, lv, .int (if y < x then y else x) :: t, h) := by
  unfold rx_m5 at e
  split at e
  · next y x t =>
    split at e
    · next z => exact ⟨x, y, t, rfl, z.1, z.2, rx_nx_e e⟩
    · cases e
  · cases e
section RXM
variable {p : Program} {l : Launch} {e : Env} {R : Room} {s : State} {m : MethodId} {args : Array Value} {below : List Frame} {meth : Method} {c : Code} {Q : State → Prop}
variable {all : List Cond} {cl : List vw_C} {D : va_G} {dT : Nat → ClassId} {ro : Nat → Nat} {base n0 z0 : Nat}
variable {cc : ByteArray} {nL pc : Nat} {lv : rx_L} {t : List Value} {h : rx_H} {own : String}
theorem rx_h_m4 (hx : p.tables.exec = Jvm.exec) (hb : c.code = cc) (hml : c.maxLocals = nL) (hts : ∀ w ∈ all, w.before args s = true) (hown : s.vm.findClass own = some m.cls) {ix d w : Nat} (G : Cond.methodLink own ix Lib.Math.max.name ∈ all ∧ Cond.static Lib.Math.max.name ∈ all ∧ Cond.initialized "java/lang/Math" ∈ all ∧ Cond.code Lib.Math.max.name Lib.Math.max.code 2 (some .int) ∈ all) {x y : Int32} (hd1 : 1 ≤ d ∧ 21 ≤ w) (hrs : (t.map (fun v => v.category)).sum ≤ 8) (hR : d ≤ R.frames ∧ w ≤ R.locals) (hRc : h.length ≤ n0 + R.cells) (hRs : rx_sz h ≤ z0 + R.slots) (hd : decode cc pc = .ok (.invokestatic ix, 3))
    (K : rx_At p l e R s m args below meth c Q cl D dT ro base n0 z0 nL (pc + 3) lv (.int (if x < y then y else x) :: t) h) : rx_At p l e R s m args below meth c Q cl D dT ro base n0 z0 nL pc lv (.int y :: .int x :: t) h := by
  intro H locs ls hn hz hW hS hl
  have hrs' : ((t.map (rx_cv (rx_ad ro base))).map (fun v => v.category)).sum ≤ 8 := by
    rw [List.map_map, show ((fun v => Value.category v) ∘ rx_cv (rx_ad ro base)) = (fun v => v.category) from funext (rx_cat _)]
    exact hrs
  exact va_mmax hx hb (by rw [hml]; exact hl.1.symm) hown (hts _ G.1) (hts _ G.2.1) (hts _ G.2.2.1) (hts _ G.2.2.2) (by omega) (by omega) (by omega) (by omega) hd (K H locs ls hn hz hW hS hl)
theorem rx_h_m5 (hx : p.tables.exec = Jvm.exec) (hb : c.code = cc) (hml : c.maxLocals = nL) (hts : ∀ w ∈ all, w.before args s = true) (hown : s.vm.findClass own = some m.cls) {ix d w : Nat} (G : Cond.methodLink own ix Lib.Math.min.name ∈ all ∧ Cond.static Lib.Math.min.name ∈ all ∧ Cond.initialized "java/lang/Math" ∈ all ∧ Cond.code Lib.Math.min.name Lib.Math.min.code 2 (some .int) ∈ all) {x y : Int32} (hd1 : 1 ≤ d ∧ 21 ≤ w) (hrs : (t.map (fun v => v.category)).sum ≤ 8) (hR : d ≤ R.frames ∧ w ≤ R.locals) (hRc : h.length ≤ n0 + R.cells) (hRs : rx_sz h ≤ z0 + R.slots) (hd : decode cc pc = .ok (.invokestatic ix, 3))
    (K : rx_At p l e R s m args below meth c Q cl D dT ro base n0 z0 nL (pc + 3) lv (.int (if y < x then y else x) :: t) h) : rx_At p l e R s m args below meth c Q cl D dT ro base n0 z0 nL pc lv (.int y :: .int x :: t) h := by
  intro H locs ls hn hz hW hS hl
  have hrs' : ((t.map (rx_cv (rx_ad ro base))).map (fun v => v.category)).sum ≤ 8 := by
    rw [List.map_map, show ((fun v => Value.category v) ∘ rx_cv (rx_ad ro base)) = (fun v => v.category) from funext (rx_cat _)]
    exact hrs
  exact va_mmin hx hb (by rw [hml]; exact hl.1.symm) hown (hts _ G.1) (hts _ G.2.1) (hts _ G.2.2.1) (hts _ G.2.2.2) (by omega) (by omega) (by omega) (by omega) hd (K H locs ls hn hz hW hS hl)
end RXM
end
section
theorem rx_zer_sz (t n : Nat) : rx_sz1 (.inl (t, rx_zer t n)) = n := by
  show (rx_zer t n).1 = n
  unfold rx_zer
  split <;> rfl
section RXZ
variable {p : Program} {l : Launch} {e : Env} {R : Room} {s : State} {m : MethodId} {args : Array Value} {below : List Frame} {meth : Method} {c : Code} {Q : State → Prop}
variable {all : List Cond} {cl : List vw_C} {tys : List FieldType} {sts : List (String × String × String × Nat)} {nst : List Cond} {D : va_G} {dT : Nat → ClassId} {ro : Nat → Nat} {rt : rx_R} {base n0 z0 : Nat}
variable {cc : ByteArray} {nL pc pc' : Nat} {lv lv' : rx_L} {st st' t : List Value} {h h' : rx_H} {own : String}
theorem rx_h_gets (hx : p.tables.exec = Jvm.exec) (hb : c.code = cc) (hts : ∀ w ∈ all, w.before args s = true) (hown : s.vm.findClass own = some m.cls) (hK : rx_Kx cl tys sts nst D dT ro rt base s s.heap) {ix id : Nat} (G : ∃ C n d, (C, n, d, id) ∈ sts ∧ (Cond.fieldLink own ix C n d ∈ all ∨ ∃ host, Cond.fieldLinkNest own ix C n d host ∈ nst)) (hd : decode cc pc = .ok (.getstatic ix, 3))
    (K : rx_At p l e R s m args below meth c Q cl D dT ro base n0 z0 nL (pc + 3) lv (.ref id :: st) h) : rx_At p l e R s m args below meth c Q cl D dT ro base n0 z0 nL pc lv st h := by
  intro H locs ls hn hz hW hS hl
  obtain ⟨C, n, d, hs, hlk⟩ := G
  obtain ⟨h16, hZ⟩ := hK.2.2.2.1 _ hs
  have h1 := K H locs ls hn hz hW hS hl
  rw [List.map_cons, show rx_cv (rx_ad ro base) (.ref id) = .ref (rx_ad ro base id) from rfl, rx_ad_r ro base h16] at h1
  rcases hlk with hlk | ⟨host, hlk⟩
  · exact va_gets hx hb hZ hS hown (hts _ hlk) (fun _ h9 => h9) hd h1
  · exact va_getsN hx hb hZ hS hown (va_Nw.use rfl (hK.2.2.2.2 _ hlk)) (fun _ h9 => h9) hd h1
end RXZ
end
section
/-- new long[n][k]: the outer array, then its rows -/
def rx_mn (o : Option Nat) (dims : Nat) (pc : Nat) (lv : rx_L) (st : List Value) (h : rx_H) : Option rx_N := match o, st with
  | some 1003, .int k :: .int n :: r => if dims = 2 ∧ ¬ n < 0 ∧ ¬ k < 0 ∧ n.toNatClampNeg ≤ 1000 ∧ k.toNatClampNeg ≤ 1000 then
      rx_nx (pc + 4) lv (.ref (h.length + 16) :: r) (h ++ (.inl (3, n.toNatClampNeg, .inr (.inr (.inr (.inr (fun i => if i < n.toNatClampNeg then some (h.length + 17 + i) else none))))) :: List.replicate n.toNatClampNeg (.inl (1, k.toNatClampNeg, .inr (.inl (fun _ => 0)))))) else none
  | _, _ => none
theorem rx_mn_e {o : Option Nat} {dims pc : Nat} {lv : rx_L} {st : List Value} {h : rx_H} {r : rx_N} (e : rx_mn o dims pc lv st h = some r) : ∃ k n t, o = some 1003 ∧ st = .int k :: .int n :: t ∧ dims = 2 ∧ ¬ n < 0 ∧ ¬ k < 0 ∧ n.toNatClampNeg ≤ 1000 ∧ k.toNatClampNeg ≤ 1000 ∧
    r = (pc + 4, lv, .ref (h.length + 16) :: t, h ++ (.inl (3, n.toNatClampNeg, .inr (.inr (.inr (.inr (fun i => if i < n.toNatClampNeg then some (h.length + 17 + i) else none))))) :: List.replicate n.toNatClampNeg (.inl (1, k.toNatClampNeg, .inr (.inl (fun _ => 0)))))) := by
  unfold rx_mn at e
  split at e
  · next k n t =>
    split at e
    · next w => exact ⟨k, n, t, rfl, rfl, w.1, w.2.1, w.2.2.1, w.2.2.2.1, w.2.2.2.2, rx_nx_e e⟩
    · cases e
  · cases e
theorem rx_rows_sz (n k : Nat) (g : Nat → Int64) : rx_sz (List.replicate n (.inl (1, k, .inr (.inl g)))) = n * k := by
  induction n with
  | zero => simp [rx_sz]
  | succ n ih =>
    rw [List.replicate_succ]
    show rx_sz ([_] ++ _) = _
    rw [rx_sz_app, ih]
    simp only [rx_sz, rx_sz1, List.map_cons, List.map_nil, List.sum_cons, List.sum_nil]
    rw [Nat.succ_mul]
    omega
theorem rx_outer (c : ClassId) (N h0 : Nat) : ∀ i : Nat, Jvm.Free.Multi.outerC c N h0 i = arrV c N (fun j => va_rf (if j < i then some (h0 + 1 + j) else none))
  | 0 => by
    show ({ cls := c, slots := Array.replicate N .null, vm := .none } : Cell) = _
    rw [arrV_new]
    refine congrArg (arrV c N) (funext fun j => ?_)
    simp [va_rf]
  | i + 1 => by
    show (Jvm.Free.Multi.outerC c N h0 i).setSlot i (.ref (h0 + 1 + i)) = _
    rw [rx_outer c N h0 i, arrV_store]
    refine congrArg (arrV c N) (funext fun j => ?_)
    by_cases e : j = i
    · subst e
      simp [updV, va_rf]
    · by_cases h : j < i
      · simp [updV, e, h, Nat.lt_succ_of_lt h]
      · simp [updV, e, h, show ¬ j < i + 1 by omega]
section RXG
variable {p : Program} {l : Launch} {e : Env} {R : Room} {s : State} {m : MethodId} {args : Array Value} {below : List Frame} {meth : Method} {c : Code} {Q : State → Prop}
variable {all : List Cond} {cl : List vw_C} {tys : List FieldType} {sts : List (String × String × String × Nat)} {nst : List Cond} {D : va_G} {dT : Nat → ClassId} {ro : Nat → Nat} {rt : rx_R} {base n0 z0 : Nat}
variable {cc : ByteArray} {nL pc pc' : Nat} {lv lv' : rx_L} {st st' t : List Value} {h h' : rx_H} {own : String}
theorem rx_h_qald (hx : p.tables.exec = Jvm.exec) (hb : c.code = cc) (hK : rx_Kx cl tys sts nst D dT ro rt base s s.heap) (ht : tys[3]? = some (.array .long)) {i : Int32} {a k : Nat} {q : Nat × (Nat → Option Nat)} (hr : rx_rq h a = some q) (hin : vp_in i q.1) (hv : q.2 i.toNatClampNeg = some k) (hd : decode cc pc = .ok (.aaload, 1))
    (K : rx_At p l e R s m args below meth c Q cl D dT ro base n0 z0 nL (pc + 1) lv (.ref k :: t) h) : rx_At p l e R s m args below meth c Q cl D dT ro base n0 z0 nL pc lv (.int i :: .ref a :: t) h := by
  intro H locs ls hn hz hW hS hl
  obtain ⟨n, f⟩ := q
  obtain ⟨o, rfl, h1, h2⟩ := rx_rq_e hr
  dsimp only at hin hv h1
  show W p l e R s m args below meth c H locs _ _ Q (F0 m pc ls (.int i :: .ref (rx_ad ro base (o + 16)) :: t.map (rx_cv (rx_ad ro base))))
  rw [rx_ad_k ro base o]
  have hlt : i.toNatClampNeg < n := Nat.not_le.mp fun q => hin (Or.inr q)
  have hc : H[base + o]? = some (arrV (dT 3) n (fun j => va_rf ((f j).map (rx_ad ro base)))) := hW.2 o _ h1
  refine W.aald (v := .ref (rx_ad ro base k)) (ty := .array .long) hx hb hc ((hK.2.1 3 _ ht).1 n _) rfl (fun q => by cases q) (by rw [arrV_size]; exact hin) (by rw [arrV_read _ _ hlt, hv]; rfl) rfl rfl hd (K H locs ls hn hz hW hS hl)
theorem rx_h_mna (hx : p.tables.exec = Jvm.exec) (hb : c.code = cc) (hts : ∀ w ∈ all, w.before args s = true) (hown : s.vm.findClass own = some m.cls) (hK : rx_Kx cl tys sts nst D dT ro rt base s s.heap) (ht1 : tys[1]? = some .long) (ht3 : tys[3]? = some (.array .long)) {ix : Nat} {o : Option Nat} {dims : Nat} (G : o = some 1003 → Cond.classLink own ix "[[J" ∈ all ∧ Cond.arrayOver (.array .long) ∈ nst ∧ Cond.arrayClass .long ∈ all) (hop : rx_mn o dims pc lv st h = some (pc', lv', st', h')) (hRc : h'.length ≤ n0 + R.cells) (hRs : rx_sz h' ≤ z0 + R.slots) (hd : decode cc pc = .ok (.multianewarray ix dims, 4))
    (K : rx_At p l e R s m args below meth c Q cl D dT ro base n0 z0 nL pc' lv' st' h') : rx_At p l e R s m args below meth c Q cl D dT ro base n0 z0 nL pc lv st h := by
  obtain ⟨k, n, t, ho, rfl, rfl, hn0, hk0, hn1, hk1, e9⟩ := rx_mn_e hop
  simp only [Prod.mk.injEq] at e9
  obtain ⟨rfl, rfl, rfl, rfl⟩ := e9
  obtain ⟨G1, G2, G3⟩ := G ho
  intro H locs ls hn hz hW hS hl
  have eL : (h ++ (Sum.inl (3, n.toNatClampNeg, .inr (.inr (.inr (.inr (fun i => if i < n.toNatClampNeg then some (h.length + 17 + i) else none))))) :: List.replicate n.toNatClampNeg (Sum.inl (1, k.toNatClampNeg, .inr (.inl (fun _ => 0)))) : rx_H)).length = h.length + (1 + n.toNatClampNeg) := by
    rw [List.length_append, List.length_cons, List.length_replicate]; omega
  have eZ : rx_sz (h ++ (Sum.inl (3, n.toNatClampNeg, .inr (.inr (.inr (.inr (fun i => if i < n.toNatClampNeg then some (h.length + 17 + i) else none))))) :: List.replicate n.toNatClampNeg (Sum.inl (1, k.toNatClampNeg, .inr (.inl (fun _ => 0)))) : rx_H)) = rx_sz h + (n.toNatClampNeg + n.toNatClampNeg * k.toNatClampNeg) := by
    rw [rx_sz_app]
    congr 1
    show rx_sz ([_] ++ _) = _
    rw [rx_sz_app, rx_rows_sz]
    simp [rx_sz, rx_sz1]
  rw [eL] at hRc
  rw [eZ] at hRs
  intro T hT Xs
  obtain ⟨vm₁, cA, comp, -, fA, fC, -, -, X', step⟩ := Xs.multianewarray2F (ty := .long) hx hown (hts _ G1) (hK.2.2.2.2 _ G2) (hts _ G3) (g := F0 m pc ls (.int k :: .int n :: t.map (rx_cv (rx_ad ro base)))) rfl (by rw [hb]; exact hd) rfl hn0 hk0 (by omega) (show k.toNatClampNeg * 8 ≤ 536870912 by omega) (by omega) rfl rfl (by omega) (by omega)
  have eA : cA = dT 3 := by
    have h1 : s.vm.findClass ("[" ++ (FieldType.array .long).toString) = some (dT 3) := (hK.2.1 3 _ ht3).2
    exact Option.some.inj (fA.symm.trans h1)
  have eC : comp = dT 1 := by
    have h1 : s.vm.findClass ("[" ++ FieldType.long.toString) = some (dT 1) := (hK.2.1 1 _ ht1).2
    exact Option.some.inj (fC.symm.trans h1)
  subst eA
  subst eC
  generalize hF : Jvm.Free.Multi.fill (T.setVm vm₁) (dT 3) (dT 1) n.toNatClampNeg k.toNatClampNeg (defaultValue .long) n.toNatClampNeg = F at X' step
  have hTh : (T.setVm vm₁).heap = H := hT
  obtain ⟨f1, f2, -, -⟩ := Jvm.Free.Multi.fill_facts (T.setVm vm₁) (dT 3) (dT 1) n.toNatClampNeg k.toNatClampNeg (defaultValue .long) n.toNatClampNeg
  rw [hF, hTh] at f1 f2
  have hold : ∀ x : Nat, x < H.size → F.heap[x]? = H[x]? := fun x hx9 => by
    have := Jvm.Free.Multi.fill_old (T.setVm vm₁) (dT 3) (dT 1) n.toNatClampNeg k.toNatClampNeg (defaultValue .long) (a := x) (by rw [hTh]; exact hx9) n.toNatClampNeg
    rw [hF, hTh] at this
    exact this
  have hrow : ∀ j : Nat, j < n.toNatClampNeg → F.heap[H.size + 1 + j]? = some (arrV (dT 1) k.toNatClampNeg (fun _ => .long 0)) := fun j hj => by
    have := Jvm.Free.Multi.fill_inner (T.setVm vm₁) (dT 3) (dT 1) n.toNatClampNeg k.toNatClampNeg (defaultValue .long) n.toNatClampNeg j hj
    rw [hF, hTh] at this
    rw [this, ← arrV_new]
    rfl
  rw [rx_outer] at f2
  have hW' : rx_W D cl dT (rx_ad ro base) base (h ++ (Sum.inl (3, n.toNatClampNeg, .inr (.inr (.inr (.inr (fun i => if i < n.toNatClampNeg then some (h.length + 17 + i) else none))))) :: List.replicate n.toNatClampNeg (Sum.inl (1, k.toNatClampNeg, .inr (.inl (fun _ => 0)))))) F.heap := by
    refine ⟨by rw [f1, eL, hW.1]; omega, fun j c9 hj => ?_⟩
    by_cases e1 : j < h.length
    · rw [List.getElem?_append_left e1] at hj
      exact (hW.2 j c9 hj).kept (hold (base + j) (by rw [hW.1]; omega))
    · rw [List.getElem?_append_right (by omega)] at hj
      cases e2 : j - h.length with
      | zero =>
        rw [e2] at hj
        cases hj
        have e3 : base + j = H.size := by rw [hW.1]; omega
        show F.heap[base + j]? = some (arrV (dT 3) n.toNatClampNeg (fun i => va_rf (Option.map (rx_ad ro base) (if i < n.toNatClampNeg then some (h.length + 17 + i) else none))))
        rw [e3, f2]
        congr 2
        funext i
        by_cases e4 : i < n.toNatClampNeg
        · rw [if_pos e4, if_pos e4]
          show va_rf (some (H.size + 1 + i)) = va_rf (some (rx_ad ro base (h.length + 17 + i)))
          rw [show h.length + 17 + i = (h.length + 1 + i) + 16 by omega, rx_ad_k, hW.1]
          congr 2
          omega
        · rw [if_neg e4, if_neg e4]
          rfl
      | succ i =>
        rw [e2, List.getElem?_cons_succ, List.getElem?_replicate] at hj
        split at hj
        · next e4 =>
          cases hj
          have e3 : base + j = H.size + 1 + i := by rw [hW.1]; omega
          show F.heap[base + j]? = some (arrV (dT 1) k.toNatClampNeg (fun _ => .long 0))
          rw [e3]
          exact hrow i e4
        · cases hj
  have hS' : va_S (fun q => base ≤ q) s.heap F.heap locs := ⟨by rw [f1]; have := hS.1; omega, fun q q1 q2 => by rw [hold q (Nat.lt_of_lt_of_le q1 hS.1)]; exact hS.2.1 q q1 q2, hS.2.2⟩
  have h1 := K F.heap locs ls (by rw [eL]; omega) (by rw [eZ]; omega) hW' hS' hl
  rw [eL, eZ, show h.length + (1 + n.toNatClampNeg) - n0 = h.length - n0 + 1 + n.toNatClampNeg by omega, show rx_sz h + (n.toNatClampNeg + n.toNatClampNeg * k.toNatClampNeg) - z0 = rx_sz h - z0 + n.toNatClampNeg + n.toNatClampNeg * k.toNatClampNeg by omega] at h1
  obtain ⟨t9, a1, b1⟩ := h1 F rfl X'
  refine ⟨t9, step t9 ?_, b1⟩
  have e5 : (F0 m (pc + 4) ls ((.ref (h.length + 16) :: t : List Value).map (rx_cv (rx_ad ro base)))) = { (F0 m pc ls (.int k :: .int n :: t.map (rx_cv (rx_ad ro base)))) with pc := (F0 m pc ls (.int k :: .int n :: t.map (rx_cv (rx_ad ro base)))).pc + 4, stack := .ref T.heap.size :: t.map (rx_cv (rx_ad ro base)) } := by
    rw [List.map_cons, show rx_cv (rx_ad ro base) (.ref (h.length + 16)) = .ref (rx_ad ro base (h.length + 16)) from rfl, rx_ad_k ro base, ← hW.1, hT]
  rw [← e5]
  exact a1
end RXG
end
section
/-- calls that are steps: Object's constructor, System.arraycopy -/
def rx_is (d w : Nat) (o : Option (Nat × Nat)) (pc : Nat) (lv : rx_L) (st : List Value) (h : rx_H) : Option rx_N := match o with
  | some q => if q.1 = 1000 then rx_oi d w pc lv st h else none
  | none => none
def rx_it (d w : Nat) (o : Option (Nat × Nat)) (pc : Nat) (lv : rx_L) (st : List Value) (h : rx_H) : Option rx_N := match o with
  | some q => if q.1 = 1001 then rx_ac d w pc lv st h else if q.1 = 1004 then rx_m4 d w pc lv st h else if q.1 = 1005 then rx_m5 d w pc lv st h else none
  | none => none
theorem rx_is_e {d w : Nat} {o : Option (Nat × Nat)} {pc : Nat} {lv : rx_L} {st : List Value} {h : rx_H} {r : rx_N} (e : rx_is d w o pc lv st h = some r) : ∃ q, o = some q ∧ q.1 = 1000 ∧ rx_oi d w pc lv st h = some r := by
  unfold rx_is at e
  split at e
  · next q =>
    split at e
    · next y => exact ⟨q, rfl, y, e⟩
    · cases e
  · cases e
theorem rx_it_e {d w : Nat} {o : Option (Nat × Nat)} {pc : Nat} {lv : rx_L} {st : List Value} {h : rx_H} {r : rx_N} (e : rx_it d w o pc lv st h = some r) : ∃ q, o = some q ∧ ((q.1 = 1001 ∧ rx_ac d w pc lv st h = some r) ∨ (q.1 = 1004 ∧ rx_m4 d w pc lv st h = some r) ∨ (q.1 = 1005 ∧ rx_m5 d w pc lv st h = some r)) := by
  unfold rx_it at e
  split at e
  · next q =>
    split at e
    · next y => exact ⟨q, rfl, Or.inl ⟨y, e⟩⟩
    · split at e
      · next y => exact ⟨q, rfl, Or.inr (Or.inl ⟨y, e⟩)⟩
      · split at e
        · next y => exact ⟨q, rfl, Or.inr (Or.inr ⟨y, e⟩)⟩
        · cases e
  · cases e
def rx_opI (cds : List (List Value)) (lk : rx_Lk) (rt : rx_R) (d w : Nat) (M : rx_M) (ins : Instr) (pc : Nat) (lv : rx_L) (st : List Value) (h : rx_H) : Option rx_N := match ins with
  | .iconst n => rx_nx (pc + 1) lv (.int (Int32.ofInt n) :: st) h
  | .bipush n => rx_nx (pc + 2) lv (.int (Int8.ofInt n).toInt32 :: st) h
  | .sipush n => rx_nx (pc + 3) lv (.int (Int16.ofInt n).toInt32 :: st) h
  | .lconst n => rx_nx (pc + 1) lv (.long (Int64.ofNat n.val) :: st) h
  | .ldc ix => rx_kc ((rx_luv lk.2.2.2.2.1 (rx_Mo M) ix).map Value.int) 2 pc lv st h
  | .ldc_w ix => rx_kc ((rx_luv lk.2.2.2.2.1 (rx_Mo M) ix).map Value.int) 3 pc lv st h
  | .ldc2_w ix => rx_kc ((rx_luv lk.2.2.2.2.2 (rx_Mo M) ix).map Value.long) 3 pc lv st h
  | .iload_n k => rx_li lv k.val (pc + 1) st h
  | .iload i => rx_li lv i (pc + 2) st h
  | .lload_n k => rx_ll lv k.val (pc + 1) st h
  | .lload i => rx_ll lv i (pc + 2) st h
  | .aload_n k => rx_la lv k.val (pc + 1) st h
  | .aload i => rx_la lv i (pc + 2) st h
  | .istore_n k => rx_si (rx_Ml M) lv k.val (pc + 1) st h
  | .istore i => rx_si (rx_Ml M) lv i (pc + 2) st h
  | .lstore_n k => rx_sl (rx_Ml M) lv k.val (pc + 1) st h
  | .lstore i => rx_sl (rx_Ml M) lv i (pc + 2) st h
  | .astore_n k => rx_sa (rx_Ml M) lv k.val (pc + 1) st h
  | .astore i => rx_sa (rx_Ml M) lv i (pc + 2) st h
  | .iinc i n => rx_in (rx_Ml M) i n pc lv st h
  | .iadd => rx_2i (fun x y => x + y) pc lv st h
  | .isub => rx_2i (fun x y => x - y) pc lv st h
  | .imul => rx_2i (fun x y => x * y) pc lv st h
  | .iand => rx_2i (fun x y => x &&& y) pc lv st h
  | .ior => rx_2i (fun x y => x ||| y) pc lv st h
  | .ixor => rx_2i (fun x y => x ^^^ y) pc lv st h
  | .ishl => rx_2i (fun x y => x <<< (y &&& 31)) pc lv st h
  | .ishr => rx_2i (fun x y => x >>> (y &&& 31)) pc lv st h
  | .iushr => rx_2i (fun x y => (x.toUInt32 >>> (y.toUInt32 &&& Int32.toUInt32 31)).toInt32) pc lv st h
  | .idiv => rx_dv (fun x y => x / y) pc lv st h
  | .irem => rx_dv (fun x y => x - x / y * y) pc lv st h
  | .ineg => rx_1i (fun x => .int (-x)) pc lv st h
  | .i2l => rx_1i (fun x => .long x.toInt64) pc lv st h
  | .ladd => rx_2l (fun x y => x + y) pc lv st h
  | .lsub => rx_2l (fun x y => x - y) pc lv st h
  | .lmul => rx_2l (fun x y => x * y) pc lv st h
  | .land => rx_2l (fun x y => x &&& y) pc lv st h
  | .lor => rx_2l (fun x y => x ||| y) pc lv st h
  | .lxor => rx_2l (fun x y => x ^^^ y) pc lv st h
  | .ldiv => rx_dl (fun x y => x / y) pc lv st h
  | .lrem => rx_dl (fun x y => x - x / y * y) pc lv st h
  | .lneg => rx_1l (fun x => .long (-x)) pc lv st h
  | .l2i => rx_1l (fun x => .int x.toInt32) pc lv st h
  | .lushr => rx_us pc lv st h
  | .lcmp => rx_cm pc lv st h
  | .dup => rx_d0 pc lv st h
  | .pop => rx_pp pc lv st h
  | .dup_x1 => rx_d1 pc lv st h
  | .dup_x2 => rx_d2 pc lv st h
  | .dup2 => rx_dd pc lv st h
  | .ifCond c off => rx_b1 c off pc lv st h
  | .if_icmp c off => rx_b2 c off pc lv st h
  | .goto off => rx_jp pc off lv st h
  | .tableswitch dflt lo hi offs => rx_ts dflt lo hi offs pc lv st h
  | .lookupswitch dflt ps => rx_ls dflt ps pc lv st h
  | .iaload => rx_ial rt pc lv st h
  | .laload => rx_lal pc lv st h
  | .baload => rx_zal pc lv st h
  | .aaload => rx_qal pc lv st h
  | .iastore => rx_ias pc lv st h
  | .lastore => rx_las pc lv st h
  | .bastore => rx_zas pc lv st h
  | .arraylength => rx_al rt pc lv st h
  | .getfield ix => rx_gf (rx_luv lk.1 (rx_Mo M) ix) pc lv st h
  | .putfield ix => rx_pf (Nat.beq (rx_Mk M) 2) (rx_luv lk.1 (rx_Mo M) ix) pc lv st h
  | .getstatic ix => rx_kc ((rx_luv lk.2.1 (rx_Mo M) ix).map Value.ref) 3 pc lv st h
  | .new ix => rx_nw (rx_luv lk.2.2.2.1 (rx_Mo M) ix) cds pc lv st h
  | .newarray a => rx_na (rx_aty a) pc lv st h
  | .multianewarray ix n => rx_mn (rx_luv lk.2.2.2.1 (rx_Mo M) ix) n pc lv st h
  | .invokestatic ix => rx_it d w (rx_luv lk.2.2.1 (rx_Mo M) ix) pc lv st h
  | .invokespecial ix => rx_is d w (rx_luv lk.2.2.1 (rx_Mo M) ix) pc lv st h
  | _ => none
/-- the links are what the tables say -/
def rx_G (all nst : List Cond) (cl : List vw_C) (cds : List (List Value)) (tys : List FieldType) (sts : List (String × String × String × Nat)) (own : Nat → String) (lk : rx_Lk) : Prop :=
  (tys[0]? = some .int ∧ tys[1]? = some .long ∧ tys[2]? = some .boolean ∧ tys[3]? = some (.array .long) ∧ 4 ≤ tys.length) ∧
  (∀ (ci : Nat) (q : vw_C), cl[ci]? = some q → rx_GC all q) ∧
  (∀ (o ix : Nat) (q : Nat × Nat × FieldType × Nat), ((o, ix), q) ∈ lk.1 → rx_GF all nst cl (own o) ix q.1 q.2.1 q.2.2.1 q.2.2.2) ∧
  (∀ (o ix id : Nat), ((o, ix), id) ∈ lk.2.1 → ∃ C n d, (C, n, d, id) ∈ sts ∧ (Cond.fieldLink (own o) ix C n d ∈ all ∨ ∃ host, Cond.fieldLinkNest (own o) ix C n d host ∈ nst)) ∧
  (∀ (o ix : Nat) (q : Nat × Nat), ((o, ix), q) ∈ lk.2.2.1 → q.1 = 1000 → Cond.methodLink (own o) ix Lib.objectInit ∈ all ∧ Cond.instanceMethod Lib.objectInit ∈ all ∧ Cond.code Lib.objectInit ⟨#[0xb1]⟩ 1 none ∈ all) ∧
  (∀ (o ix : Nat) (q : Nat × Nat), ((o, ix), q) ∈ lk.2.2.1 → q.1 = 1001 → Cond.methodLink (own o) ix arraycopyName ∈ all ∧ Cond.native arraycopyName ∈ all ∧ Cond.static arraycopyName ∈ all ∧ Cond.initialized "java/lang/System" ∈ all) ∧
  (∀ (o ix : Nat) (q : Nat × Nat), ((o, ix), q) ∈ lk.2.2.1 → q.1 = 1004 → Cond.methodLink (own o) ix Lib.Math.max.name ∈ all ∧ Cond.static Lib.Math.max.name ∈ all ∧ Cond.initialized "java/lang/Math" ∈ all ∧ Cond.code Lib.Math.max.name Lib.Math.max.code 2 (some .int) ∈ all) ∧
  (∀ (o ix : Nat) (q : Nat × Nat), ((o, ix), q) ∈ lk.2.2.1 → q.1 = 1005 → Cond.methodLink (own o) ix Lib.Math.min.name ∈ all ∧ Cond.static Lib.Math.min.name ∈ all ∧ Cond.initialized "java/lang/Math" ∈ all ∧ Cond.code Lib.Math.min.name Lib.Math.min.code 2 (some .int) ∈ all) ∧
  (∀ (o ix ci : Nat) (fs : List Value), ((o, ix), ci) ∈ lk.2.2.2.1 → cds[ci]? = some fs → rx_GN all cl cds (own o) ix ci) ∧
  (∀ (o ix : Nat), ((o, ix), 1003) ∈ lk.2.2.2.1 → Cond.classLink (own o) ix "[[J" ∈ all ∧ Cond.arrayOver (.array .long) ∈ nst ∧ Cond.arrayClass .long ∈ all) ∧
  (∀ (o ix : Nat) (v : Int32), ((o, ix), v) ∈ lk.2.2.2.2.1 → Cond.constant (own o) ix v ∈ all) ∧
  (∀ (o ix : Nat) (v : Int64), ((o, ix), v) ∈ lk.2.2.2.2.2 → Cond.constantLong (own o) ix v ∈ all) ∧
  (∀ (a : ArrayType) (q : Nat × FieldType), rx_aty a = some q → Cond.arrayClass q.2 ∈ all)
end
section
section RXS
variable {p : Program} {l : Launch} {e : Env} {R : Room} {s : State} {m : MethodId} {args : Array Value} {below : List Frame} {meth : Method} {c : Code} {Q : State → Prop}
variable {all : List Cond} {cl : List vw_C} {tys : List FieldType} {sts : List (String × String × String × Nat)} {nst : List Cond} {D : va_G} {dT : Nat → ClassId} {ro : Nat → Nat} {rt : rx_R} {base n0 z0 : Nat}
variable {cds : List (List Value)} {lk : rx_Lk} {own : Nat → String} {d w : Nat} {M : rx_M}
set_option maxHeartbeats 4000000 in
set_option maxRecDepth 100000 in
theorem rx_step (hx : p.tables.exec = Jvm.exec) (hb : c.code = rx_Mb M) (hml : c.maxLocals = rx_Ml M) (hts : ∀ w ∈ all, w.before args s = true) (hown : s.vm.findClass (own (rx_Mo M)) = some m.cls) (hK : rx_Kx cl tys sts nst D dT ro rt base s s.heap) (hini : rx_Mk M = 2 → meth.name = "<init>") (hR : d ≤ R.frames ∧ w ≤ R.locals)
    (G : rx_G all nst cl cds tys sts own lk) {ins : Instr} {pc pc' : Nat} {lv lv' : rx_L} {st st' : List Value} {h h' : rx_H} (hop : rx_opI cds lk rt d w M ins pc lv st h = some (pc', lv', st', h')) (hdg : rx_dec (rx_Mb M) pc ins) (hRc : h'.length ≤ n0 + R.cells) (hRs : rx_sz h' ≤ z0 + R.slots)
    (K : rx_At p l e R s m args below meth c Q cl D dT ro base n0 z0 (rx_Ml M) pc' lv' st' h') : rx_At p l e R s m args below meth c Q cl D dT ro base n0 z0 (rx_Ml M) pc lv st h := by
  obtain ⟨Gt, GC, Gf, Gs, Go, Gy, Gx4, Gx5, Gn, Gm, Gc, Gl, Ga⟩ := G
  cases ins
  case iconst n =>
    have hd : decode (rx_Mb M) pc = .ok (.iconst n, 1) := rx_dec_n hdg rfl
    cases rx_nx_e hop
    intro H locs ls hn hz hW hS hl
    exact lv_iconst hx hb hd rfl (K H locs ls hn hz hW hS hl)
  case bipush n =>
    have hd : decode (rx_Mb M) pc = .ok (.bipush n, 2) := rx_dec_n hdg rfl
    cases rx_nx_e hop
    intro H locs ls hn hz hW hS hl
    exact lv_bipush hx hb hd rfl (K H locs ls hn hz hW hS hl)
  case sipush n =>
    have hd : decode (rx_Mb M) pc = .ok (.sipush n, 3) := rx_dec_n hdg rfl
    cases rx_nx_e hop
    intro H locs ls hn hz hW hS hl
    exact lv_sipush hx hb hd rfl (K H locs ls hn hz hW hS hl)
  case lconst n =>
    have hd : decode (rx_Mb M) pc = .ok (.lconst n, 1) := rx_dec_n hdg rfl
    cases rx_nx_e hop
    intro H locs ls hn hz hW hS hl
    exact lv_lconst hx hb hd rfl (K H locs ls hn hz hW hS hl)
  case ldc ix =>
    have hd : decode (rx_Mb M) pc = .ok (.ldc ix, 2) := rx_dec_n hdg rfl
    obtain ⟨v, ho, e⟩ := rx_kc_e hop
    cases e
    obtain ⟨z, hz9, rfl⟩ := Option.map_eq_some_iff.mp ho
    intro H locs ls hn hz hW hS hl
    exact lv_ldc hx hb hown (hts _ (Gc _ _ _ (rx_luv_e hz9))) hd (K H locs ls hn hz hW hS hl)
  case ldc_w ix =>
    have hd : decode (rx_Mb M) pc = .ok (.ldc_w ix, 3) := rx_dec_n hdg rfl
    obtain ⟨v, ho, e⟩ := rx_kc_e hop
    cases e
    obtain ⟨z, hz9, rfl⟩ := Option.map_eq_some_iff.mp ho
    intro H locs ls hn hz hW hS hl
    exact lv_ldcw hx hb hown (hts _ (Gc _ _ _ (rx_luv_e hz9))) hd (K H locs ls hn hz hW hS hl)
  case ldc2_w ix =>
    have hd : decode (rx_Mb M) pc = .ok (.ldc2_w ix, 3) := rx_dec_n hdg rfl
    obtain ⟨v, ho, e⟩ := rx_kc_e hop
    cases e
    obtain ⟨z, hz9, rfl⟩ := Option.map_eq_some_iff.mp ho
    intro H locs ls hn hz hW hS hl
    exact lv_ldc2 hx hb hown (hts _ (Gl _ _ _ (rx_luv_e hz9))) hd (K H locs ls hn hz hW hS hl)
  case iload_n k =>
    have hd : decode (rx_Mb M) pc = .ok (.iload_n k, 1) := rx_dec_n hdg rfl
    obtain ⟨x, hk, e⟩ := rx_li_e hop
    cases e
    intro H locs ls hn hz hW hS hl
    exact lv_iload_n hx hb hd rfl (rx_lk_at hl hk) (K H locs ls hn hz hW hS hl)
  case iload i =>
    have hd : decode (rx_Mb M) pc = .ok (.iload i, 2) := rx_dec_n hdg rfl
    obtain ⟨x, hk, e⟩ := rx_li_e hop
    cases e
    intro H locs ls hn hz hW hS hl
    exact lv_iload hx hb hd (rx_lk_at hl hk) (K H locs ls hn hz hW hS hl)
  case lload_n k =>
    have hd : decode (rx_Mb M) pc = .ok (.lload_n k, 1) := rx_dec_n hdg rfl
    obtain ⟨x, hk, e⟩ := rx_ll_e hop
    cases e
    intro H locs ls hn hz hW hS hl
    exact lv_lload_n hx hb hd rfl (rx_lk_at hl hk) (K H locs ls hn hz hW hS hl)
  case lload i =>
    have hd : decode (rx_Mb M) pc = .ok (.lload i, 2) := rx_dec_n hdg rfl
    obtain ⟨x, hk, e⟩ := rx_ll_e hop
    cases e
    intro H locs ls hn hz hW hS hl
    exact lv_lload hx hb hd (rx_lk_at hl hk) (K H locs ls hn hz hW hS hl)
  case aload_n k =>
    have hd : decode (rx_Mb M) pc = .ok (.aload_n k, 1) := rx_dec_n hdg rfl
    obtain ⟨x, hk, e⟩ := rx_la_e hop
    cases e
    intro H locs ls hn hz hW hS hl
    exact lv_aload_n hx hb hd rfl (rx_lk_at hl hk) (K H locs ls hn hz hW hS hl)
  case aload i =>
    have hd : decode (rx_Mb M) pc = .ok (.aload i, 2) := rx_dec_n hdg rfl
    obtain ⟨x, hk, e⟩ := rx_la_e hop
    cases e
    intro H locs ls hn hz hW hS hl
    exact lv_aload hx hb hd (rx_lk_at hl hk) (K H locs ls hn hz hW hS hl)
  case istore_n k =>
    have hd : decode (rx_Mb M) pc = .ok (.istore_n k, 1) := rx_dec_n hdg rfl
    obtain ⟨x, t, rfl, hi, e⟩ := rx_si_e hop
    cases e
    intro H locs ls hn hz hW hS hl
    exact lv_istore_n hx hb hd rfl hl hi (rx_s1_c (rx_ad ro base) lv k.val (.int x)) (fun ls' hl' => K H locs ls' hn hz hW hS hl')
  case istore i =>
    have hd : decode (rx_Mb M) pc = .ok (.istore i, 2) := rx_dec_n hdg rfl
    obtain ⟨x, t, rfl, hi, e⟩ := rx_si_e hop
    cases e
    intro H locs ls hn hz hW hS hl
    exact lv_istore hx hb hd hl hi (rx_s1_c (rx_ad ro base) lv i (.int x)) (fun ls' hl' => K H locs ls' hn hz hW hS hl')
  case lstore_n k =>
    have hd : decode (rx_Mb M) pc = .ok (.lstore_n k, 1) := rx_dec_n hdg rfl
    obtain ⟨x, t, rfl, hi, e⟩ := rx_sl_e hop
    cases e
    intro H locs ls hn hz hW hS hl
    exact lv_lstore_n hx hb hd rfl hl hi (rx_s2_c (rx_ad ro base) lv k.val (.long x)) (fun ls' hl' => K H locs ls' hn hz hW hS hl')
  case lstore i =>
    have hd : decode (rx_Mb M) pc = .ok (.lstore i, 2) := rx_dec_n hdg rfl
    obtain ⟨x, t, rfl, hi, e⟩ := rx_sl_e hop
    cases e
    intro H locs ls hn hz hW hS hl
    exact lv_lstore hx hb hd hl hi (rx_s2_c (rx_ad ro base) lv i (.long x)) (fun ls' hl' => K H locs ls' hn hz hW hS hl')
  case astore_n k =>
    have hd : decode (rx_Mb M) pc = .ok (.astore_n k, 1) := rx_dec_n hdg rfl
    obtain ⟨x, t, rfl, hi, e⟩ := rx_sa_e hop
    cases e
    intro H locs ls hn hz hW hS hl
    exact lv_astore_n hx hb hd rfl hl hi (rx_s1_c (rx_ad ro base) lv k.val (.ref x)) (fun ls' hl' => K H locs ls' hn hz hW hS hl')
  case astore i =>
    have hd : decode (rx_Mb M) pc = .ok (.astore i, 2) := rx_dec_n hdg rfl
    obtain ⟨x, t, rfl, hi, e⟩ := rx_sa_e hop
    cases e
    intro H locs ls hn hz hW hS hl
    exact lv_astore hx hb hd hl hi (rx_s1_c (rx_ad ro base) lv i (.ref x)) (fun ls' hl' => K H locs ls' hn hz hW hS hl')
  case iinc i n =>
    have hd : decode (rx_Mb M) pc = .ok (.iinc i n, 3) := rx_dec_n hdg rfl
    obtain ⟨x, hk, hi, e⟩ := rx_in_e hop
    cases e
    intro H locs ls hn hz hW hS hl
    obtain ⟨j, hj⟩ := List.getElem?_of_mem (List.mem_map.mpr ⟨(i, Value.int x), rx_lk_mem hk, rfl⟩ : (i, Value.int x) ∈ rx_cl2 (rx_ad ro base) lv)
    exact lv_iinc hx hb hd hl hj rfl hi (rx_s1_c (rx_ad ro base) lv i (.int (x + Int32.ofInt n))) (fun ls' hl' => K H locs ls' hn hz hW hS hl')
  case iadd =>
    have hd : decode (rx_Mb M) pc = .ok (.iadd, 1) := rx_dec_n hdg rfl
    obtain ⟨x, y, t, rfl, e⟩ := rx_2i_e hop
    cases e
    intro H locs ls hn hz hW hS hl
    exact lv_iadd hx hb hd (K H locs ls hn hz hW hS hl)
  case isub =>
    have hd : decode (rx_Mb M) pc = .ok (.isub, 1) := rx_dec_n hdg rfl
    obtain ⟨x, y, t, rfl, e⟩ := rx_2i_e hop
    cases e
    intro H locs ls hn hz hW hS hl
    exact lv_isub hx hb hd (K H locs ls hn hz hW hS hl)
  case imul =>
    have hd : decode (rx_Mb M) pc = .ok (.imul, 1) := rx_dec_n hdg rfl
    obtain ⟨x, y, t, rfl, e⟩ := rx_2i_e hop
    cases e
    intro H locs ls hn hz hW hS hl
    exact lv_imul hx hb hd (K H locs ls hn hz hW hS hl)
  case iand =>
    have hd : decode (rx_Mb M) pc = .ok (.iand, 1) := rx_dec_n hdg rfl
    obtain ⟨x, y, t, rfl, e⟩ := rx_2i_e hop
    cases e
    intro H locs ls hn hz hW hS hl
    exact lv_iand hx hb hd (K H locs ls hn hz hW hS hl)
  case ior =>
    have hd : decode (rx_Mb M) pc = .ok (.ior, 1) := rx_dec_n hdg rfl
    obtain ⟨x, y, t, rfl, e⟩ := rx_2i_e hop
    cases e
    intro H locs ls hn hz hW hS hl
    exact lv_ior hx hb hd (K H locs ls hn hz hW hS hl)
  case ixor =>
    have hd : decode (rx_Mb M) pc = .ok (.ixor, 1) := rx_dec_n hdg rfl
    obtain ⟨x, y, t, rfl, e⟩ := rx_2i_e hop
    cases e
    intro H locs ls hn hz hW hS hl
    exact lv_ixor hx hb hd (K H locs ls hn hz hW hS hl)
  case ishl =>
    have hd : decode (rx_Mb M) pc = .ok (.ishl, 1) := rx_dec_n hdg rfl
    obtain ⟨x, y, t, rfl, e⟩ := rx_2i_e hop
    cases e
    intro H locs ls hn hz hW hS hl
    exact lv_ishl hx hb hd (K H locs ls hn hz hW hS hl)
  case ishr =>
    have hd : decode (rx_Mb M) pc = .ok (.ishr, 1) := rx_dec_n hdg rfl
    obtain ⟨x, y, t, rfl, e⟩ := rx_2i_e hop
    cases e
    intro H locs ls hn hz hW hS hl
    exact lv_ishr hx hb hd (K H locs ls hn hz hW hS hl)
  case iushr =>
    have hd : decode (rx_Mb M) pc = .ok (.iushr, 1) := rx_dec_n hdg rfl
    obtain ⟨x, y, t, rfl, e⟩ := rx_2i_e hop
    cases e
    intro H locs ls hn hz hW hS hl
    exact lv_iushr hx hb hd rfl (K H locs ls hn hz hW hS hl)
  case idiv =>
    have hd : decode (rx_Mb M) pc = .ok (.idiv, 1) := rx_dec_n hdg rfl
    obtain ⟨x, y, t, rfl, h0, e⟩ := rx_dv_e hop
    cases e
    intro H locs ls hn hz hW hS hl
    exact lv_idiv hx hb hd h0 (K H locs ls hn hz hW hS hl)
  case irem =>
    have hd : decode (rx_Mb M) pc = .ok (.irem, 1) := rx_dec_n hdg rfl
    obtain ⟨x, y, t, rfl, h0, e⟩ := rx_dv_e hop
    cases e
    intro H locs ls hn hz hW hS hl
    exact lv_irem hx hb hd h0 (K H locs ls hn hz hW hS hl)
  case ldiv =>
    have hd : decode (rx_Mb M) pc = .ok (.ldiv, 1) := rx_dec_n hdg rfl
    obtain ⟨x, y, t, rfl, h0, e⟩ := rx_dl_e hop
    cases e
    intro H locs ls hn hz hW hS hl
    exact lv_ldiv hx hb hd h0 (K H locs ls hn hz hW hS hl)
  case lrem =>
    have hd : decode (rx_Mb M) pc = .ok (.lrem, 1) := rx_dec_n hdg rfl
    obtain ⟨x, y, t, rfl, h0, e⟩ := rx_dl_e hop
    cases e
    intro H locs ls hn hz hW hS hl
    exact lv_lrem hx hb hd h0 (K H locs ls hn hz hW hS hl)
  case ladd =>
    have hd : decode (rx_Mb M) pc = .ok (.ladd, 1) := rx_dec_n hdg rfl
    obtain ⟨x, y, t, rfl, e⟩ := rx_2l_e hop
    cases e
    intro H locs ls hn hz hW hS hl
    exact lv_ladd hx hb hd (K H locs ls hn hz hW hS hl)
  case lsub =>
    have hd : decode (rx_Mb M) pc = .ok (.lsub, 1) := rx_dec_n hdg rfl
    obtain ⟨x, y, t, rfl, e⟩ := rx_2l_e hop
    cases e
    intro H locs ls hn hz hW hS hl
    exact lv_lsub hx hb hd (K H locs ls hn hz hW hS hl)
  case lmul =>
    have hd : decode (rx_Mb M) pc = .ok (.lmul, 1) := rx_dec_n hdg rfl
    obtain ⟨x, y, t, rfl, e⟩ := rx_2l_e hop
    cases e
    intro H locs ls hn hz hW hS hl
    exact lv_lmul hx hb hd (K H locs ls hn hz hW hS hl)
  case land =>
    have hd : decode (rx_Mb M) pc = .ok (.land, 1) := rx_dec_n hdg rfl
    obtain ⟨x, y, t, rfl, e⟩ := rx_2l_e hop
    cases e
    intro H locs ls hn hz hW hS hl
    exact lv_land hx hb hd (K H locs ls hn hz hW hS hl)
  case lor =>
    have hd : decode (rx_Mb M) pc = .ok (.lor, 1) := rx_dec_n hdg rfl
    obtain ⟨x, y, t, rfl, e⟩ := rx_2l_e hop
    cases e
    intro H locs ls hn hz hW hS hl
    exact lv_lor hx hb hd (K H locs ls hn hz hW hS hl)
  case lxor =>
    have hd : decode (rx_Mb M) pc = .ok (.lxor, 1) := rx_dec_n hdg rfl
    obtain ⟨x, y, t, rfl, e⟩ := rx_2l_e hop
    cases e
    intro H locs ls hn hz hW hS hl
    exact lv_lxor hx hb hd (K H locs ls hn hz hW hS hl)
  case ineg =>
    have hd : decode (rx_Mb M) pc = .ok (.ineg, 1) := rx_dec_n hdg rfl
    obtain ⟨x, t, rfl, e⟩ := rx_1i_e hop
    cases e
    intro H locs ls hn hz hW hS hl
    exact lv_ineg hx hb hd (K H locs ls hn hz hW hS hl)
  case i2l =>
    have hd : decode (rx_Mb M) pc = .ok (.i2l, 1) := rx_dec_n hdg rfl
    obtain ⟨x, t, rfl, e⟩ := rx_1i_e hop
    cases e
    intro H locs ls hn hz hW hS hl
    exact lv_i2l hx hb hd rfl (K H locs ls hn hz hW hS hl)
  case lneg =>
    have hd : decode (rx_Mb M) pc = .ok (.lneg, 1) := rx_dec_n hdg rfl
    obtain ⟨x, t, rfl, e⟩ := rx_1l_e hop
    cases e
    intro H locs ls hn hz hW hS hl
    exact lv_lneg hx hb hd (K H locs ls hn hz hW hS hl)
  case l2i =>
    have hd : decode (rx_Mb M) pc = .ok (.l2i, 1) := rx_dec_n hdg rfl
    obtain ⟨x, t, rfl, e⟩ := rx_1l_e hop
    cases e
    intro H locs ls hn hz hW hS hl
    exact lv_l2i hx hb hd rfl (K H locs ls hn hz hW hS hl)
  case lushr =>
    have hd : decode (rx_Mb M) pc = .ok (.lushr, 1) := rx_dec_n hdg rfl
    obtain ⟨x, y, t, rfl, e⟩ := rx_us_e hop
    cases e
    intro H locs ls hn hz hW hS hl
    exact lv_lushr hx hb hd rfl (K H locs ls hn hz hW hS hl)
  case lcmp =>
    have hd : decode (rx_Mb M) pc = .ok (.lcmp, 1) := rx_dec_n hdg rfl
    obtain ⟨x, y, t, rfl, e⟩ := rx_cm_e hop
    cases e
    intro H locs ls hn hz hW hS hl
    exact W.lcmp hx hb hd (K H locs ls hn hz hW hS hl)
  case dup =>
    have hd : decode (rx_Mb M) pc = .ok (.dup, 1) := rx_dec_n hdg rfl
    obtain ⟨a, t, rfl, h1, e⟩ := rx_d0_e hop
    cases e
    intro H locs ls hn hz hW hS hl
    exact lv_dup hx hb hd ((rx_cat _ a).trans h1) (K H locs ls hn hz hW hS hl)
  case pop =>
    have hd : decode (rx_Mb M) pc = .ok (.pop, 1) := rx_dec_n hdg rfl
    obtain ⟨a, t, rfl, h1, e⟩ := rx_pp_e hop
    cases e
    intro H locs ls hn hz hW hS hl
    exact lv_pop hx hb hd ((rx_cat _ a).trans h1) (K H locs ls hn hz hW hS hl)
  case dup_x1 =>
    have hd : decode (rx_Mb M) pc = .ok (.dup_x1, 1) := rx_dec_n hdg rfl
    obtain ⟨a, b, t, rfl, h1, h2, e⟩ := rx_d1_e hop
    cases e
    intro H locs ls hn hz hW hS hl
    exact lv_dup_x1 hx hb hd ((rx_cat _ a).trans h1) ((rx_cat _ b).trans h2) (K H locs ls hn hz hW hS hl)
  case dup_x2 =>
    have hd : decode (rx_Mb M) pc = .ok (.dup_x2, 1) := rx_dec_n hdg rfl
    obtain ⟨a, b, d9, t, rfl, h1, h2, h3, e⟩ := rx_d2_e hop
    cases e
    intro H locs ls hn hz hW hS hl
    exact lv_dup_x2 hx hb hd ((rx_cat _ a).trans h1) ((rx_cat _ b).trans h2) ((rx_cat _ d9).trans h3) (K H locs ls hn hz hW hS hl)
  case dup2 =>
    have hd : decode (rx_Mb M) pc = .ok (.dup2, 1) := rx_dec_n hdg rfl
    obtain ⟨a, b, t, rfl, h1, h2, e⟩ := rx_dd_e hop
    cases e
    intro H locs ls hn hz hW hS hl
    exact lv_dup2_11 hx hb hd ((rx_cat _ a).trans h1) ((rx_cat _ b).trans h2) (K H locs ls hn hz hW hS hl)
  case ifCond cond off =>
    obtain ⟨x, t, rfl, g, hg, hc⟩ := rx_b1_e hop
    cases cond
    case eq =>
      have hd : decode (rx_Mb M) pc = .ok (.ifCond .eq off, 3) := rx_dec_n hdg rfl
      rcases hc with ⟨hc, e⟩ | ⟨hc, e⟩
      · cases e
        have hc := of_decide_eq_true hc
        intro H locs ls hn hz hW hS hl
        exact lv_if_eq hx hb hd hg (fun _ => K H locs ls hn hz hW hS hl) (fun h9 => absurd hc h9)
      · cases e
        have hc := of_decide_eq_false hc
        intro H locs ls hn hz hW hS hl
        exact lv_if_eq hx hb hd hg (fun h9 => absurd h9 hc) (fun _ => K H locs ls hn hz hW hS hl)
    case ne =>
      have hd : decode (rx_Mb M) pc = .ok (.ifCond .ne off, 3) := rx_dec_n hdg rfl
      rcases hc with ⟨hc, e⟩ | ⟨hc, e⟩
      · cases e
        have hc := of_decide_eq_true hc
        intro H locs ls hn hz hW hS hl
        exact lv_if_ne hx hb hd hg (fun _ => K H locs ls hn hz hW hS hl) (fun h9 => absurd h9 hc)
      · cases e
        have hc := of_decide_eq_false hc
        intro H locs ls hn hz hW hS hl
        exact lv_if_ne hx hb hd hg (fun h9 => absurd h9 hc) (fun _ => K H locs ls hn hz hW hS hl)
    case lt =>
      have hd : decode (rx_Mb M) pc = .ok (.ifCond .lt off, 3) := rx_dec_n hdg rfl
      rcases hc with ⟨hc, e⟩ | ⟨hc, e⟩
      · cases e
        have hc := of_decide_eq_true hc
        intro H locs ls hn hz hW hS hl
        exact lv_if_lt hx hb hd hg (fun _ => K H locs ls hn hz hW hS hl) (fun h9 => absurd hc h9)
      · cases e
        have hc := of_decide_eq_false hc
        intro H locs ls hn hz hW hS hl
        exact lv_if_lt hx hb hd hg (fun h9 => absurd h9 hc) (fun _ => K H locs ls hn hz hW hS hl)
    case ge =>
      have hd : decode (rx_Mb M) pc = .ok (.ifCond .ge off, 3) := rx_dec_n hdg rfl
      rcases hc with ⟨hc, e⟩ | ⟨hc, e⟩
      · cases e
        have hc := of_decide_eq_true hc
        intro H locs ls hn hz hW hS hl
        exact lv_if_ge hx hb hd hg (fun _ => K H locs ls hn hz hW hS hl) (fun h9 => absurd hc h9)
      · cases e
        have hc := of_decide_eq_false hc
        intro H locs ls hn hz hW hS hl
        exact lv_if_ge hx hb hd hg (fun h9 => absurd h9 hc) (fun _ => K H locs ls hn hz hW hS hl)
    case gt =>
      have hd : decode (rx_Mb M) pc = .ok (.ifCond .gt off, 3) := rx_dec_n hdg rfl
      rcases hc with ⟨hc, e⟩ | ⟨hc, e⟩
      · cases e
        have hc := of_decide_eq_true hc
        intro H locs ls hn hz hW hS hl
        exact lv_if_gt hx hb hd hg (fun _ => K H locs ls hn hz hW hS hl) (fun h9 => absurd hc h9)
      · cases e
        have hc := of_decide_eq_false hc
        intro H locs ls hn hz hW hS hl
        exact lv_if_gt hx hb hd hg (fun h9 => absurd h9 hc) (fun _ => K H locs ls hn hz hW hS hl)
    case le =>
      have hd : decode (rx_Mb M) pc = .ok (.ifCond .le off, 3) := rx_dec_n hdg rfl
      rcases hc with ⟨hc, e⟩ | ⟨hc, e⟩
      · cases e
        have hc := of_decide_eq_true hc
        intro H locs ls hn hz hW hS hl
        exact lv_if_le hx hb hd hg (fun _ => K H locs ls hn hz hW hS hl) (fun h9 => absurd hc h9)
      · cases e
        have hc := of_decide_eq_false hc
        intro H locs ls hn hz hW hS hl
        exact lv_if_le hx hb hd hg (fun h9 => absurd h9 hc) (fun _ => K H locs ls hn hz hW hS hl)
  case if_icmp cond off =>
    obtain ⟨x, y, t, rfl, g, hg, hc⟩ := rx_b2_e hop
    cases cond
    case eq =>
      have hd : decode (rx_Mb M) pc = .ok (.if_icmp .eq off, 3) := rx_dec_n hdg rfl
      rcases hc with ⟨hc, e⟩ | ⟨hc, e⟩
      · cases e
        have hc := of_decide_eq_true hc
        intro H locs ls hn hz hW hS hl
        exact lv_icmp_eq hx hb hd hg (fun _ => K H locs ls hn hz hW hS hl) (fun h9 => absurd hc h9)
      · cases e
        have hc := of_decide_eq_false hc
        intro H locs ls hn hz hW hS hl
        exact lv_icmp_eq hx hb hd hg (fun h9 => absurd h9 hc) (fun _ => K H locs ls hn hz hW hS hl)
    case ne =>
      have hd : decode (rx_Mb M) pc = .ok (.if_icmp .ne off, 3) := rx_dec_n hdg rfl
      rcases hc with ⟨hc, e⟩ | ⟨hc, e⟩
      · cases e
        have hc := of_decide_eq_true hc
        intro H locs ls hn hz hW hS hl
        exact lv_icmp_ne hx hb hd hg (fun _ => K H locs ls hn hz hW hS hl) (fun h9 => absurd h9 hc)
      · cases e
        have hc := of_decide_eq_false hc
        intro H locs ls hn hz hW hS hl
        exact lv_icmp_ne hx hb hd hg (fun h9 => absurd h9 hc) (fun _ => K H locs ls hn hz hW hS hl)
    case lt =>
      have hd : decode (rx_Mb M) pc = .ok (.if_icmp .lt off, 3) := rx_dec_n hdg rfl
      rcases hc with ⟨hc, e⟩ | ⟨hc, e⟩
      · cases e
        have hc := of_decide_eq_true hc
        intro H locs ls hn hz hW hS hl
        exact lv_icmp_lt hx hb hd hg (fun _ => K H locs ls hn hz hW hS hl) (fun h9 => absurd hc h9)
      · cases e
        have hc := of_decide_eq_false hc
        intro H locs ls hn hz hW hS hl
        exact lv_icmp_lt hx hb hd hg (fun h9 => absurd h9 hc) (fun _ => K H locs ls hn hz hW hS hl)
    case ge =>
      have hd : decode (rx_Mb M) pc = .ok (.if_icmp .ge off, 3) := rx_dec_n hdg rfl
      rcases hc with ⟨hc, e⟩ | ⟨hc, e⟩
      · cases e
        have hc := of_decide_eq_true hc
        intro H locs ls hn hz hW hS hl
        exact lv_icmp_ge hx hb hd hg (fun _ => K H locs ls hn hz hW hS hl) (fun h9 => absurd hc h9)
      · cases e
        have hc := of_decide_eq_false hc
        intro H locs ls hn hz hW hS hl
        exact lv_icmp_ge hx hb hd hg (fun h9 => absurd h9 hc) (fun _ => K H locs ls hn hz hW hS hl)
    case gt =>
      have hd : decode (rx_Mb M) pc = .ok (.if_icmp .gt off, 3) := rx_dec_n hdg rfl
      rcases hc with ⟨hc, e⟩ | ⟨hc, e⟩
      · cases e
        have hc := of_decide_eq_true hc
        intro H locs ls hn hz hW hS hl
        exact lv_icmp_gt hx hb hd hg (fun _ => K H locs ls hn hz hW hS hl) (fun h9 => absurd hc h9)
      · cases e
        have hc := of_decide_eq_false hc
        intro H locs ls hn hz hW hS hl
        exact lv_icmp_gt hx hb hd hg (fun h9 => absurd h9 hc) (fun _ => K H locs ls hn hz hW hS hl)
    case le =>
      have hd : decode (rx_Mb M) pc = .ok (.if_icmp .le off, 3) := rx_dec_n hdg rfl
      rcases hc with ⟨hc, e⟩ | ⟨hc, e⟩
      · cases e
        have hc := of_decide_eq_true hc
        intro H locs ls hn hz hW hS hl
        exact lv_icmp_le hx hb hd hg (fun _ => K H locs ls hn hz hW hS hl) (fun h9 => absurd hc h9)
      · cases e
        have hc := of_decide_eq_false hc
        intro H locs ls hn hz hW hS hl
        exact lv_icmp_le hx hb hd hg (fun h9 => absurd h9 hc) (fun _ => K H locs ls hn hz hW hS hl)
  case goto off =>
    have hd : decode (rx_Mb M) pc = .ok (.goto off, 3) := rx_dec_n hdg rfl
    obtain ⟨g, hg, e⟩ := rx_jp_e hop
    cases e
    intro H locs ls hn hz hW hS hl
    exact lv_goto hx hb hd hg (K H locs ls hn hz hW hS hl)
  case tableswitch dflt lo hi offs =>
    obtain ⟨len, hd, -⟩ := hdg
    obtain ⟨x, t, rfl, ⟨h1, g, hg, e⟩ | ⟨h1, h2, off, g, h3, hg, e⟩⟩ := rx_ts_e hop
    · cases e
      intro H locs ls hn hz hW hS hl
      exact lv_tableOut hx hb hd h1 hg (K H locs ls hn hz hW hS hl)
    · cases e
      intro H locs ls hn hz hW hS hl
      exact lv_tableIn hx hb hd h1 h2 h3 hg (K H locs ls hn hz hW hS hl)
  case lookupswitch dflt ps =>
    obtain ⟨len, hd, -⟩ := hdg
    obtain ⟨x, t, rfl, h1, g, hg, e⟩ := rx_ls_e hop
    cases e
    intro H locs ls hn hz hW hS hl
    exact lv_lookup hx hb hd h1 rfl hg (K H locs ls hn hz hW hS hl)
  case iaload =>
    have hd : decode (rx_Mb M) pc = .ok (.iaload, 1) := rx_dec_n hdg rfl
    obtain ⟨i, a, t, q, rfl, h1, h2, e⟩ := rx_ial_e hop
    cases e
    exact rx_h_iald hx hb hK Gt.1 h1 h2 hd K
  case laload =>
    have hd : decode (rx_Mb M) pc = .ok (.laload, 1) := rx_dec_n hdg rfl
    obtain ⟨i, a, t, q, rfl, h1, h2, e⟩ := rx_lal_e hop
    cases e
    exact rx_h_lald hx hb hK Gt.2.1 h1 h2 hd K
  case baload =>
    have hd : decode (rx_Mb M) pc = .ok (.baload, 1) := rx_dec_n hdg rfl
    obtain ⟨i, a, t, q, rfl, h1, h2, e⟩ := rx_zal_e hop
    cases e
    exact rx_h_zald hx hb hK Gt.2.2.1 h1 h2 hd K
  case aaload =>
    have hd : decode (rx_Mb M) pc = .ok (.aaload, 1) := rx_dec_n hdg rfl
    obtain ⟨i, a, t, q, k, rfl, h1, h2, h3, e⟩ := rx_qal_e hop
    cases e
    exact rx_h_qald hx hb hK Gt.2.2.2.1 h1 h2 h3 hd K
  case iastore =>
    have hd : decode (rx_Mb M) pc = .ok (.iastore, 1) := rx_dec_n hdg rfl
    obtain ⟨x, i, k, t, n, f, rfl, h1, h2, h3, e⟩ := rx_ias_e hop
    cases e
    exact rx_h_iast hx hb hK Gt.1 h1 h2 h3 hd K
  case lastore =>
    have hd : decode (rx_Mb M) pc = .ok (.lastore, 1) := rx_dec_n hdg rfl
    obtain ⟨x, i, k, t, n, f, rfl, h1, h2, h3, e⟩ := rx_las_e hop
    cases e
    exact rx_h_last hx hb hK Gt.2.1 h1 h2 h3 hd K
  case bastore =>
    have hd : decode (rx_Mb M) pc = .ok (.bastore, 1) := rx_dec_n hdg rfl
    obtain ⟨x, i, k, t, n, f, rfl, h1, h2, h3, e⟩ := rx_zas_e hop
    cases e
    exact rx_h_zast hx hb hK Gt.2.2.1 h1 h2 h3 hd K
  case arraylength =>
    have hd : decode (rx_Mb M) pc = .ok (.arraylength, 1) := rx_dec_n hdg rfl
    obtain ⟨a, t, n, rfl, h1, e⟩ := rx_al_e hop
    cases e
    exact rx_h_alen hx hb hK Gt.2.2.2.2 h1 hd K
  case getfield ix =>
    have hd : decode (rx_Mb M) pc = .ok (.getfield ix, 3) := rx_dec_n hdg rfl
    obtain ⟨k, t, q, fs, v, rfl, h1, h2, h3, e⟩ := rx_gf_e hop
    cases e
    exact rx_h_get hx hb hts hown hK GC (Gf _ _ _ (rx_luv_e h1)) h2 h3 hd K
  case putfield ix =>
    have hd : decode (rx_Mb M) pc = .ok (.putfield ix, 3) := rx_dec_n hdg rfl
    obtain ⟨v, k, t, q, fs, rfl, h1, h2, h3, h4, h5, h6, e⟩ := rx_pf_e hop
    cases e
    exact rx_h_put hx hb hts hown hK GC (Gf _ _ _ (rx_luv_e h1)) (fun z => hini (Nat.eq_of_beq_eq_true z)) h2 h3 h4 h5 h6 hd K
  case getstatic ix =>
    have hd : decode (rx_Mb M) pc = .ok (.getstatic ix, 3) := rx_dec_n hdg rfl
    obtain ⟨v, ho, e⟩ := rx_kc_e hop
    cases e
    obtain ⟨z, hz9, rfl⟩ := Option.map_eq_some_iff.mp ho
    exact rx_h_gets hx hb hts hown hK (Gs _ _ _ (rx_luv_e hz9)) hd K
  case new ix =>
    have hd : decode (rx_Mb M) pc = .ok (.new ix, 3) := rx_dec_n hdg rfl
    obtain ⟨ci, fs, h1, h2, e⟩ := rx_nw_e hop
    cases e
    exact rx_h_new hx hb hts hown hK GC (Gn _ _ _ _ (rx_luv_e h1) h2) h2 (by simpa using hRc) (by simpa [rx_sz, rx_sz1] using hRs) hd K
  case newarray a =>
    have hd : decode (rx_Mb M) pc = .ok (.newarray a, 2) := rx_dec_n hdg rfl
    obtain ⟨q, n, t, h1, rfl, h2, h3, e⟩ := rx_na_e hop
    cases e
    have e9 := rx_zer_sz q.1 n.toNatClampNeg
    have e8 : rx_sz h + n.toNatClampNeg ≤ z0 + R.slots := by
      rw [rx_sz_app] at hRs
      have e7 : rx_sz [Sum.inl (q.1, rx_zer q.1 n.toNatClampNeg)] = n.toNatClampNeg := by
        show rx_sz1 _ + 0 = _
        rw [e9]; rfl
      omega
    exact rx_h_na hx hb hts hK ⟨Gt.1, Gt.2.1, Gt.2.2.1⟩ h1 (Ga _ _ h1) h2 h3 (by simpa using hRc) e8 hd K
  case multianewarray ix n =>
    have hd : decode (rx_Mb M) pc = .ok (.multianewarray ix n, 4) := rx_dec_n hdg rfl
    exact rx_h_mna hx hb hts hown hK Gt.2.1 Gt.2.2.2.1 (fun z => Gm _ _ (rx_luv_e z)) hop hRc hRs hd K
  case invokespecial ix =>
    have hd : decode (rx_Mb M) pc = .ok (.invokespecial ix, 3) := rx_dec_n hdg rfl
    obtain ⟨q, h1, h2, h3⟩ := rx_is_e hop
    obtain ⟨a, t, rfl, h4, h5, e⟩ := rx_oi_e h3
    cases e
    exact rx_h_oi hx hb hml hts hown (Go _ _ _ (rx_luv_e h1) h2).1 (Go _ _ _ (rx_luv_e h1) h2).2.1 (Go _ _ _ (rx_luv_e h1) h2).2.2 h4 h5 hR hd K
  case invokestatic ix =>
    have hd : decode (rx_Mb M) pc = .ok (.invokestatic ix, 3) := rx_dec_n hdg rfl
    obtain ⟨q, h1, ⟨h2, h3⟩ | ⟨h2, h3⟩ | ⟨h2, h3⟩⟩ := rx_it_e hop
    · obtain ⟨n, dp, sp, ka, kb, m0, m1, f, g, t, rfl, w1, w2, w3, w4, w5, w6, w7, w8, w9, w10, e⟩ := rx_ac_e h3
      cases e
      exact rx_h_ac hx hb hml hts hown hK Gt.1 (Gy _ _ _ (rx_luv_e h1) h2).1 (Gy _ _ _ (rx_luv_e h1) h2).2.1 (Gy _ _ _ (rx_luv_e h1) h2).2.2.1 (Gy _ _ _ (rx_luv_e h1) h2).2.2.2 w1 w2 w3 w4 w5 w6 w7 w8 w9 w10 hR hd K
    · obtain ⟨x, y, t, rfl, w1, w2, e⟩ := rx_m4_e h3
      cases e
      exact rx_h_m4 hx hb hml hts hown (Gx4 _ _ _ (rx_luv_e h1) h2) w1 w2 hR hRc hRs hd K
    · obtain ⟨x, y, t, rfl, w1, w2, e⟩ := rx_m5_e h3
      cases e
      exact rx_h_m5 hx hb hml hts hown (Gx5 _ _ _ (rx_luv_e h1) h2) w1 w2 hR hRc hRs hd K
  all_goals exact absurd hop (fun z => by cases z)
end RXS
end
section
set_option maxHeartbeats 4000000 in
set_option maxRecDepth 100000 in
/-- the cells only grow -/
theorem rx_op_grow {cds : List (List Value)} {lk : rx_Lk} {rt : rx_R} {d w : Nat} {M : rx_M} {ins : Instr} {pc pc' : Nat} {lv lv' : rx_L} {st st' : List Value} {h h' : rx_H} (hop : rx_opI cds lk rt d w M ins pc lv st h = some (pc', lv', st', h')) : h.length ≤ h'.length ∧ rx_sz h ≤ rx_sz h' := by
  cases ins
  case iconst n =>
    cases rx_nx_e hop
    exact ⟨Nat.le_refl _, Nat.le_refl _⟩
  case bipush n =>
    cases rx_nx_e hop
    exact ⟨Nat.le_refl _, Nat.le_refl _⟩
  case sipush n =>
    cases rx_nx_e hop
    exact ⟨Nat.le_refl _, Nat.le_refl _⟩
  case lconst n =>
    cases rx_nx_e hop
    exact ⟨Nat.le_refl _, Nat.le_refl _⟩
  case ldc ix =>
    obtain ⟨v, ho, e⟩ := rx_kc_e hop
    cases e
    exact ⟨Nat.le_refl _, Nat.le_refl _⟩
  case ldc_w ix =>
    obtain ⟨v, ho, e⟩ := rx_kc_e hop
    cases e
    exact ⟨Nat.le_refl _, Nat.le_refl _⟩
  case ldc2_w ix =>
    obtain ⟨v, ho, e⟩ := rx_kc_e hop
    cases e
    exact ⟨Nat.le_refl _, Nat.le_refl _⟩
  case getstatic ix =>
    obtain ⟨v, ho, e⟩ := rx_kc_e hop
    cases e
    exact ⟨Nat.le_refl _, Nat.le_refl _⟩
  case iload_n k =>
    obtain ⟨x, hk, e⟩ := rx_li_e hop
    cases e
    exact ⟨Nat.le_refl _, Nat.le_refl _⟩
  case iload i =>
    obtain ⟨x, hk, e⟩ := rx_li_e hop
    cases e
    exact ⟨Nat.le_refl _, Nat.le_refl _⟩
  case lload_n k =>
    obtain ⟨x, hk, e⟩ := rx_ll_e hop
    cases e
    exact ⟨Nat.le_refl _, Nat.le_refl _⟩
  case lload i =>
    obtain ⟨x, hk, e⟩ := rx_ll_e hop
    cases e
    exact ⟨Nat.le_refl _, Nat.le_refl _⟩
  case aload_n k =>
    obtain ⟨x, hk, e⟩ := rx_la_e hop
    cases e
    exact ⟨Nat.le_refl _, Nat.le_refl _⟩
  case aload i =>
    obtain ⟨x, hk, e⟩ := rx_la_e hop
    cases e
    exact ⟨Nat.le_refl _, Nat.le_refl _⟩
  case istore_n k =>
    obtain ⟨x, t, rfl, hi, e⟩ := rx_si_e hop
    cases e
    exact ⟨Nat.le_refl _, Nat.le_refl _⟩
  case istore i =>
    obtain ⟨x, t, rfl, hi, e⟩ := rx_si_e hop
    cases e
    exact ⟨Nat.le_refl _, Nat.le_refl _⟩
  case lstore_n k =>
    obtain ⟨x, t, rfl, hi, e⟩ := rx_sl_e hop
    cases e
    exact ⟨Nat.le_refl _, Nat.le_refl _⟩
  case lstore i =>
    obtain ⟨x, t, rfl, hi, e⟩ := rx_sl_e hop
    cases e
    exact ⟨Nat.le_refl _, Nat.le_refl _⟩
  case astore_n k =>
    obtain ⟨x, t, rfl, hi, e⟩ := rx_sa_e hop
    cases e
    exact ⟨Nat.le_refl _, Nat.le_refl _⟩
  case astore i =>
    obtain ⟨x, t, rfl, hi, e⟩ := rx_sa_e hop
    cases e
    exact ⟨Nat.le_refl _, Nat.le_refl _⟩
  case iinc i n =>
    obtain ⟨x, hk, hi, e⟩ := rx_in_e hop
    cases e
    exact ⟨Nat.le_refl _, Nat.le_refl _⟩
  case iadd =>
    obtain ⟨x, y, t, rfl, e⟩ := rx_2i_e hop
    cases e
    exact ⟨Nat.le_refl _, Nat.le_refl _⟩
  case isub =>
    obtain ⟨x, y, t, rfl, e⟩ := rx_2i_e hop
    cases e
    exact ⟨Nat.le_refl _, Nat.le_refl _⟩
  case imul =>
    obtain ⟨x, y, t, rfl, e⟩ := rx_2i_e hop
    cases e
    exact ⟨Nat.le_refl _, Nat.le_refl _⟩
  case iand =>
    obtain ⟨x, y, t, rfl, e⟩ := rx_2i_e hop
    cases e
    exact ⟨Nat.le_refl _, Nat.le_refl _⟩
  case ior =>
    obtain ⟨x, y, t, rfl, e⟩ := rx_2i_e hop
    cases e
    exact ⟨Nat.le_refl _, Nat.le_refl _⟩
  case ixor =>
    obtain ⟨x, y, t, rfl, e⟩ := rx_2i_e hop
    cases e
    exact ⟨Nat.le_refl _, Nat.le_refl _⟩
  case ishl =>
    obtain ⟨x, y, t, rfl, e⟩ := rx_2i_e hop
    cases e
    exact ⟨Nat.le_refl _, Nat.le_refl _⟩
  case ishr =>
    obtain ⟨x, y, t, rfl, e⟩ := rx_2i_e hop
    cases e
    exact ⟨Nat.le_refl _, Nat.le_refl _⟩
  case iushr =>
    obtain ⟨x, y, t, rfl, e⟩ := rx_2i_e hop
    cases e
    exact ⟨Nat.le_refl _, Nat.le_refl _⟩
  case ladd =>
    obtain ⟨x, y, t, rfl, e⟩ := rx_2l_e hop
    cases e
    exact ⟨Nat.le_refl _, Nat.le_refl _⟩
  case lsub =>
    obtain ⟨x, y, t, rfl, e⟩ := rx_2l_e hop
    cases e
    exact ⟨Nat.le_refl _, Nat.le_refl _⟩
  case lmul =>
    obtain ⟨x, y, t, rfl, e⟩ := rx_2l_e hop
    cases e
    exact ⟨Nat.le_refl _, Nat.le_refl _⟩
  case land =>
    obtain ⟨x, y, t, rfl, e⟩ := rx_2l_e hop
    cases e
    exact ⟨Nat.le_refl _, Nat.le_refl _⟩
  case lor =>
    obtain ⟨x, y, t, rfl, e⟩ := rx_2l_e hop
    cases e
    exact ⟨Nat.le_refl _, Nat.le_refl _⟩
  case lxor =>
    obtain ⟨x, y, t, rfl, e⟩ := rx_2l_e hop
    cases e
    exact ⟨Nat.le_refl _, Nat.le_refl _⟩
  case idiv =>
    obtain ⟨x, y, t, rfl, h0, e⟩ := rx_dv_e hop
    cases e
    exact ⟨Nat.le_refl _, Nat.le_refl _⟩
  case irem =>
    obtain ⟨x, y, t, rfl, h0, e⟩ := rx_dv_e hop
    cases e
    exact ⟨Nat.le_refl _, Nat.le_refl _⟩
  case ldiv =>
    obtain ⟨x, y, t, rfl, h0, e⟩ := rx_dl_e hop
    cases e
    exact ⟨Nat.le_refl _, Nat.le_refl _⟩
  case lrem =>
    obtain ⟨x, y, t, rfl, h0, e⟩ := rx_dl_e hop
    cases e
    exact ⟨Nat.le_refl _, Nat.le_refl _⟩
  case ineg =>
    obtain ⟨x, t, rfl, e⟩ := rx_1i_e hop
    cases e
    exact ⟨Nat.le_refl _, Nat.le_refl _⟩
  case i2l =>
    obtain ⟨x, t, rfl, e⟩ := rx_1i_e hop
    cases e
    exact ⟨Nat.le_refl _, Nat.le_refl _⟩
  case lneg =>
    obtain ⟨x, t, rfl, e⟩ := rx_1l_e hop
    cases e
    exact ⟨Nat.le_refl _, Nat.le_refl _⟩
  case l2i =>
    obtain ⟨x, t, rfl, e⟩ := rx_1l_e hop
    cases e
    exact ⟨Nat.le_refl _, Nat.le_refl _⟩
  case lushr =>
    obtain ⟨x, y, t, rfl, e⟩ := rx_us_e hop
    cases e
    exact ⟨Nat.le_refl _, Nat.le_refl _⟩
  case lcmp =>
    obtain ⟨x, y, t, rfl, e⟩ := rx_cm_e hop
    cases e
    exact ⟨Nat.le_refl _, Nat.le_refl _⟩
  case dup =>
    obtain ⟨a, t, rfl, h1, e⟩ := rx_d0_e hop
    cases e
    exact ⟨Nat.le_refl _, Nat.le_refl _⟩
  case pop =>
    obtain ⟨a, t, rfl, h1, e⟩ := rx_pp_e hop
    cases e
    exact ⟨Nat.le_refl _, Nat.le_refl _⟩
  case dup_x1 =>
    obtain ⟨a, b, t, rfl, h1, h2, e⟩ := rx_d1_e hop
    cases e
    exact ⟨Nat.le_refl _, Nat.le_refl _⟩
  case dup_x2 =>
    obtain ⟨a, b, d9, t, rfl, h1, h2, h3, e⟩ := rx_d2_e hop
    cases e
    exact ⟨Nat.le_refl _, Nat.le_refl _⟩
  case dup2 =>
    obtain ⟨a, b, t, rfl, h1, h2, e⟩ := rx_dd_e hop
    cases e
    exact ⟨Nat.le_refl _, Nat.le_refl _⟩
  case ifCond cond off =>
    obtain ⟨x, t, rfl, g, hg, ⟨hc, e⟩ | ⟨hc, e⟩⟩ := rx_b1_e hop
    · cases e; exact ⟨Nat.le_refl _, Nat.le_refl _⟩
    · cases e; exact ⟨Nat.le_refl _, Nat.le_refl _⟩
  case if_icmp cond off =>
    obtain ⟨x, y, t, rfl, g, hg, ⟨hc, e⟩ | ⟨hc, e⟩⟩ := rx_b2_e hop
    · cases e; exact ⟨Nat.le_refl _, Nat.le_refl _⟩
    · cases e; exact ⟨Nat.le_refl _, Nat.le_refl _⟩
  case goto off =>
    obtain ⟨g, hg, e⟩ := rx_jp_e hop
    cases e
    exact ⟨Nat.le_refl _, Nat.le_refl _⟩
  case tableswitch dflt lo hi offs =>
    obtain ⟨x, t, rfl, ⟨h1, g, hg, e⟩ | ⟨h1, h2, off, g, h3, hg, e⟩⟩ := rx_ts_e hop
    · cases e; exact ⟨Nat.le_refl _, Nat.le_refl _⟩
    · cases e; exact ⟨Nat.le_refl _, Nat.le_refl _⟩
  case lookupswitch dflt ps =>
    obtain ⟨x, t, rfl, h1, g, hg, e⟩ := rx_ls_e hop
    cases e
    exact ⟨Nat.le_refl _, Nat.le_refl _⟩
  case iaload =>
    obtain ⟨i, a, t, q, rfl, h1, h2, e⟩ := rx_ial_e hop
    cases e
    exact ⟨Nat.le_refl _, Nat.le_refl _⟩
  case laload =>
    obtain ⟨i, a, t, q, rfl, h1, h2, e⟩ := rx_lal_e hop
    cases e
    exact ⟨Nat.le_refl _, Nat.le_refl _⟩
  case baload =>
    obtain ⟨i, a, t, q, rfl, h1, h2, e⟩ := rx_zal_e hop
    cases e
    exact ⟨Nat.le_refl _, Nat.le_refl _⟩
  case aaload =>
    obtain ⟨i, a, t, q, k, rfl, h1, h2, h3, e⟩ := rx_qal_e hop
    cases e
    exact ⟨Nat.le_refl _, Nat.le_refl _⟩
  case iastore =>
    obtain ⟨x, i, k, t, n, f, rfl, h1, h2, h3, e⟩ := rx_ias_e hop
    cases e
    exact ⟨by rw [List.length_set]; exact Nat.le_refl _, Nat.le_of_eq (rx_sz_set h k _ _ h1 (by rfl)).symm⟩
  case lastore =>
    obtain ⟨x, i, k, t, n, f, rfl, h1, h2, h3, e⟩ := rx_las_e hop
    cases e
    exact ⟨by rw [List.length_set]; exact Nat.le_refl _, Nat.le_of_eq (rx_sz_set h k _ _ h1 (by rfl)).symm⟩
  case bastore =>
    obtain ⟨x, i, k, t, n, f, rfl, h1, h2, h3, e⟩ := rx_zas_e hop
    cases e
    exact ⟨by rw [List.length_set]; exact Nat.le_refl _, Nat.le_of_eq (rx_sz_set h k _ _ h1 (by rfl)).symm⟩
  case arraylength =>
    obtain ⟨a, t, n, rfl, h1, e⟩ := rx_al_e hop
    cases e
    exact ⟨Nat.le_refl _, Nat.le_refl _⟩
  case getfield ix =>
    obtain ⟨k, t, q, fs, v, rfl, h1, h2, h3, e⟩ := rx_gf_e hop
    cases e
    exact ⟨Nat.le_refl _, Nat.le_refl _⟩
  case putfield ix =>
    obtain ⟨v, k, t, q, fs, rfl, h1, h2, h3, h4, h5, h6, e⟩ := rx_pf_e hop
    cases e
    exact ⟨by rw [List.length_set]; exact Nat.le_refl _, Nat.le_of_eq (rx_sz_set h k _ _ h2 (by simp [rx_sz1])).symm⟩
  case new ix =>
    obtain ⟨ci, fs, h1, h2, e⟩ := rx_nw_e hop
    cases e
    exact ⟨by simp, by rw [rx_sz_app]; exact Nat.le_add_right _ _⟩
  case newarray a =>
    obtain ⟨q, n, t, h1, rfl, h2, h3, e⟩ := rx_na_e hop
    cases e
    exact ⟨by simp, by rw [rx_sz_app]; exact Nat.le_add_right _ _⟩
  case multianewarray ix n =>
    obtain ⟨k, n, t, ho, rfl, rfl, hn0, hk0, hn1, hk1, e⟩ := rx_mn_e hop
    cases e
    exact ⟨by simp, by rw [rx_sz_app]; exact Nat.le_add_right _ _⟩
  case invokespecial ix =>
    obtain ⟨q, h1, h2, h3⟩ := rx_is_e hop
    obtain ⟨a, t, rfl, h4, h5, e⟩ := rx_oi_e h3
    cases e
    exact ⟨Nat.le_refl _, Nat.le_refl _⟩
  case invokestatic ix =>
    obtain ⟨q, h1, ⟨h2, h3⟩ | ⟨h2, h3⟩ | ⟨h2, h3⟩⟩ := rx_it_e hop
    · obtain ⟨n, dp, sp, ka, kb, m0, m1, f, g, t, rfl, w1, w2, w3, w4, w5, w6, w7, w8, w9, w10, e⟩ := rx_ac_e h3
      cases e
      exact ⟨by rw [List.length_set]; exact Nat.le_refl _, Nat.le_of_eq (rx_sz_set h ka _ _ w2 (by rfl)).symm⟩
    · obtain ⟨x, y, t, rfl, w1, w2, e⟩ := rx_m4_e h3
      cases e; exact ⟨Nat.le_refl _, Nat.le_refl _⟩
    · obtain ⟨x, y, t, rfl, w1, w2, e⟩ := rx_m5_e h3
      cases e; exact ⟨Nat.le_refl _, Nat.le_refl _⟩
  all_goals exact absurd hop (fun z => by cases z)
end
section
/-- a run: fuel, calls that may stand open, words of locals that are left, method, pc, locals, stack, cells -/
def rx_run (cds : List (List Value)) (ms : List rx_M) (lk : rx_Lk) (rt : rx_R) : Nat → Nat → Nat → Nat → Nat → rx_L → List Value → rx_H → Option (Option Value × rx_H)
  | 0, _, _, _, _, _, _, _ => none
  | f + 1, d, w, mi, pc, lv, st, h => match ms[mi]? with
    | none => none
    | some M => match rx_f2 (rx_Mt M) pc with
      | none => none
      | some ins => match rx_ret M ins st with
        | some v => some (v, h)
        | none => match rx_call ms lk M ins st h with
          | some q => match d with
            | 0 => none
            | d' + 1 => match ms[q.1]? with
              | none => none
              | some N => if 19 + rx_Ml N ≤ w then match rx_run cds ms lk rt f d' (w - (19 + rx_Ml N)) q.1 0 (lv_args 0 q.2.1) [] h with
                  | none => none
                  | some z => rx_run cds ms lk rt f (d' + 1) w mi (pc + 3) lv (z.1.toList ++ q.2.2) z.2
                else none
          | none => match rx_opI cds lk rt d w M ins pc lv st h with
            | none => none
            | some q => rx_run cds ms lk rt f d w mi q.1 q.2.1 q.2.2.1 q.2.2.2
section RXR
variable {cds : List (List Value)} {ms : List rx_M} {lk : rx_Lk} {rt : rx_R}
theorem rx_run_e {f d w mi pc : Nat} {lv : rx_L} {st : List Value} {h : rx_H} {v : Option Value} {h' : rx_H} (e : rx_run cds ms lk rt (f + 1) d w mi pc lv st h = some (v, h')) :
    ∃ M ins, ms[mi]? = some M ∧ rx_f2 (rx_Mt M) pc = some ins ∧ ((rx_ret M ins st = some v ∧ h' = h) ∨
      (∃ j as rest N d' v1 h1, d = d' + 1 ∧ rx_call ms lk M ins st h = some (j, as, rest) ∧ ms[j]? = some N ∧ 19 + rx_Ml N ≤ w ∧ rx_run cds ms lk rt f d' (w - (19 + rx_Ml N)) j 0 (lv_args 0 as) [] h = some (v1, h1) ∧ rx_run cds ms lk rt f d w mi (pc + 3) lv (v1.toList ++ rest) h1 = some (v, h')) ∨
      (∃ pc' lv' st' h1, rx_opI cds lk rt d w M ins pc lv st h = some (pc', lv', st', h1) ∧ rx_run cds ms lk rt f d w mi pc' lv' st' h1 = some (v, h'))) := by
  rw [rx_run] at e
  split at e
  · cases e
  · next M hM =>
    split at e
    · cases e
    · next ins hi =>
      refine ⟨M, ins, hM, hi, ?_⟩
      split at e
      · next v0 hr =>
        cases e
        exact Or.inl ⟨hr, rfl⟩
      · split at e
        · next q hq =>
          obtain ⟨j, as, rest⟩ := q
          split at e
          · cases e
          · next d' =>
            split at e
            · cases e
            · next N hN =>
              split at e
              · next hw =>
                split at e
                · cases e
                · next z hz =>
                  obtain ⟨v1, h1⟩ := z
                  exact Or.inr (Or.inl ⟨j, as, rest, N, d', v1, h1, rfl, hq, hN, hw, hz, e⟩)
              · cases e
        · split at e
          · cases e
          · next q hq =>
            obtain ⟨pc', lv', st', h1⟩ := q
            exact Or.inr (Or.inr ⟨pc', lv', st', h1, hq, e⟩)
theorem rx_run_grow : ∀ (f d w mi pc : Nat) (lv : rx_L) (st : List Value) (h : rx_H) (v : Option Value) (h' : rx_H), rx_run cds ms lk rt f d w mi pc lv st h = some (v, h') → h.length ≤ h'.length ∧ rx_sz h ≤ rx_sz h'
  | 0, _, _, _, _, _, _, _, _, _, e => by rw [rx_run] at e; cases e
  | f + 1, d, w, mi, pc, lv, st, h, v, h', e => by
    obtain ⟨M, ins, -, -, ⟨-, rfl⟩ | ⟨j, as, rest, N, d', v1, h1, -, -, -, -, e1, e2⟩ | ⟨pc', lv', st', h1, e1, e2⟩⟩ := rx_run_e e
    · exact ⟨Nat.le_refl _, Nat.le_refl _⟩
    · have a1 := rx_run_grow _ _ _ _ _ _ _ _ _ _ e1
      have a2 := rx_run_grow _ _ _ _ _ _ _ _ _ _ e2
      exact ⟨Nat.le_trans a1.1 a2.1, Nat.le_trans a1.2 a2.2⟩
    · have a1 := rx_op_grow e1
      have a2 := rx_run_grow _ _ _ _ _ _ _ _ _ _ e2
      exact ⟨Nat.le_trans a1.1 a2.1, Nat.le_trans a1.2 a2.2⟩
end RXR
end
section
theorem rx_args_c (ad : Nat → Nat) : ∀ (as : List Value) (k : Nat), lv_args k (as.map (rx_cv ad)) = rx_cl2 ad (lv_args k as)
  | [], k => by simp [lv_args, rx_cl2]
  | v :: as, k => by
    have h1 := rx_args_c ad as
    simp only [List.map_cons, lv_args, rx_cat, h1, rx_cl2, List.map_cons]
theorem rx_sl_len (ad : Nat → Nat) : ∀ as : List Value, (lg_sl (as.map (rx_cv ad))).length = (lg_sl as).length
  | [] => rfl
  | v :: as => by
    have h1 := rx_sl_len ad as
    simp only [lg_sl, List.map_cons, List.flatMap_cons, List.length_append, rx_cat] at h1 ⊢
    rw [h1]
    by_cases h : v.category = 2
    · simp [h]
    · simp [h]
/-- what the methods' rows must be: the decoded instructions, the owner's name; for a method that a link names also its words -/
def rx_GD (own : Nat → String) (ms : List rx_M) : Prop := ∀ (j : Nat) (M : rx_M), ms[j]? = some M → own (rx_Mo M) = (rx_My M).cls ∧ ∀ c ∈ rx_Mt M, ∀ q ∈ c.2, decode (rx_Mb M) q.1 = .ok q.2 ∧ rx_lc q.2.1 q.2.2 = true
def rx_GK (all nst : List Cond) (cl : List vw_C) (own : Nat → String) (ms : List rx_M) (lk : rx_Lk) : Prop := ∀ (o ix : Nat) (q : Nat × Nat), ((o, ix), q) ∈ lk.2.2.1 → ∀ M, ms[q.1]? = some M → rx_GM all cl M ∧ rx_GL all nst (own o) ix (rx_My M)
def rx_GW (all nst : List Cond) : Prop := (∀ w ∈ all, (w.onTables && w.keeps) = true ∨ ∃ ty, w = .arrayClass ty) ∧ (∀ w ∈ nst, rx_isN w = true) ∧ (∀ w ∈ nst, rx_isN w = true)
section RXT
variable {l : Launch} {all nst : List Cond} {cl : List vw_C} {cds : List (List Value)} {tys : List FieldType} {sts : List (String × String × String × Nat)} {own : Nat → String} {ms : List rx_M} {lk : rx_Lk} {D : va_G} {dT : Nat → ClassId} {ro : Nat → Nat} {rt : rx_R} {base : Nat}
theorem rx_fetch {M : rx_M} {j pc : Nat} {ins : Instr} (GD : rx_GD own ms) (hM : ms[j]? = some M) (h : rx_f2 (rx_Mt M) pc = some ins) : rx_dec (rx_Mb M) pc ins := by
  obtain ⟨c, hc, n, hn⟩ := rx_f2_e h
  obtain ⟨h1, h2⟩ := (GD j M hM).2 c hc _ hn
  exact ⟨n, h1, h2⟩
/-- the machine does what a run of this fuel does -/
def rx_Sd (l : Launch) (all nst : List Cond) (cl : List vw_C) (cds : List (List Value)) (tys : List FieldType) (sts : List (String × String × String × Nat)) (own : Nat → String) (ms : List rx_M) (lk : rx_Lk) (D : va_G) (dT : Nat → ClassId) (ro : Nat → Nat) (rt : rx_R) (base f : Nat) : Prop :=
  ∀ (d w mi pc : Nat) (lv : rx_L) (st : List Value) (h : rx_H) (v : Option Value) (h' : rx_H), rx_run cds ms lk rt f d w mi pc lv st h = some (v, h') → ∀ M : rx_M, ms[mi]? = some M →
  ∀ (p : Program) (e : Env) (R : Room) (s : State) (m : MethodId) (args : Array Value) (below : List Frame) (meth : Method) (c : Code) (Q : State → Prop) (n0 z0 : Nat),
    p.tables.exec = Jvm.exec → c.code = rx_Mb M → c.maxLocals = rx_Ml M → (∀ w ∈ all, w.before args s = true) → s.vm.findClass (rx_My M).cls = some m.cls → rx_Kx cl tys sts nst D dT ro rt base s s.heap → (rx_Mk M = 2 → meth.name = "<init>") → (d ≤ R.frames ∧ w ≤ R.locals) →
    s.heap.size = base + n0 → h'.length ≤ n0 + R.cells → rx_sz h' ≤ z0 + R.slots →
    (∀ (pc9 : Nat) (ins9 : Instr) (lv9 : rx_L) (st9 : List Value), rx_dec (rx_Mb M) pc9 ins9 → rx_ret M ins9 st9 = some v → rx_At p l e R s m args below meth c Q cl D dT ro base n0 z0 (rx_Ml M) pc9 lv9 st9 h') →
    rx_At p l e R s m args below meth c Q cl D dT ro base n0 z0 (rx_Ml M) pc lv st h
/-- a method of a class that has entries of its own for other methods (java.lang.Math) is run by its code too -/
theorem rx_ofW {l : Launch} {all : List Cond} {M : rx_M} {rm : Room} {Pc : Array Value → State → Prop} {Qc : Array Value → State → Outcome → State → Prop} {mc mz : Nat} {free : Addr → Prop} (hy : plainFor (rx_My M) = true)
    (body : ∀ p e s m args below meth c s₁, BodyLoose p l (rx_My M) (headSpec (rx_ws all M) rm) (rx_Mb M) (rx_Ml M) (rx_Mr M) e s m args below meth c s₁ → c.maxLocals = rx_Ml M → Pc args s → W p l e (headSpec (rx_ws all M) rm).room s m args below meth c s.heap [] 0 0 (MQ below Qc args s mc mz free) (entryFrame m args (rx_Ml M))) : Met l (rx_My M) (rx_ws all M) rm Pc Qc mc mz free := by
  refine MetFree.of_bodySF (code := rx_Mb M) (maxLocals := rx_Ml M) (ret := rx_Mr M) hy (fun args s m h hn => ?_) (fun p e s m args below meth c s₁ B hml hP _ => ?_)
  · obtain ⟨meth, c, h1, h2, h3, h4, h5, h6, _⟩ := Cond.code_spec hn (atoms_spec (ws := rx_ws all M) h _ List.mem_cons_self)
    exact ⟨meth, c, h1, h2, h3, h4, h5, h6⟩
  · obtain ⟨t, a1, o, b1, b2, b3⟩ := body p e s m args below meth c s₁ B hml hP s₁ (by rw [B.state]; rfl) (Stand.of_body B)
    exact ⟨t, o, a1, b1, b2, ⟨b3.1, b3.2⟩⟩
set_option maxHeartbeats 4000000 in
theorem rx_met_of {f : Nat} (hSd : rx_Sd l all nst cl cds tys sts own ms lk D dT ro rt base f) {d w j : Nat} {as : List Value} {h : rx_H} {v : Option Value} {h' : rx_H} {M : rx_M} (hM : ms[j]? = some M) (GM : rx_GM all cl M) (hlen : (lg_sl as).length ≤ rx_Ml M) (hrun : rx_run cds ms lk rt f d w j 0 (lv_args 0 as) [] h = some (v, h')) :
    rx_Met l all cl tys sts nst D dT ro rt base M d w as h v h' := by
  obtain ⟨g1, g2, g3, g4, g6, g7, g8, g9⟩ := GM
  have hgr := rx_run_grow _ _ _ _ _ _ _ _ _ _ hrun
  refine rx_ofW g6 ?_
  intro p e s m args below meth c s₁ B hml hv
  obtain ⟨rfl, hW, hKx⟩ := hv
  have hx := B.exec
  have hb := B.bytes
  have hr := B.returns
  have hts0 := atoms_spec (ws := rx_ws all M) B.pre
  have hts : ∀ w ∈ all, w.before (as.map (rx_cv (rx_ad ro base))).toArray s = true := fun w hw => hts0 w (List.mem_cons_of_mem _ hw)
  have hown : s.vm.findClass (rx_My M).cls = some m.cls := findClass_of_methodNamed B.named
  have hlocks := B.notSynchronized
  have hnm : meth.name = (rx_My M).name := (name_of_methodNamed B.named B.method).1
  have hl := lv_entry (as.map (rx_cv (rx_ad ro base))) (n := rx_Ml M) (by rw [rx_sl_len]; exact hlen)
  rw [lg_entry_eq]
  generalize (lg_sl (as.map (rx_cv (rx_ad ro base))) ++ List.replicate (rx_Ml M - (lg_sl (as.map (rx_cv (rx_ad ro base)))).length) Slot.unset).toArray = ls at hl ⊢
  rw [rx_args_c] at hl
  have key := hSd d w j 0 (lv_args 0 as) [] h v h' hrun M hM p e (headSpec (rx_ws all M) (rx_rm d w (h'.length - h.length) (rx_sz h' - rx_sz h))).room s m (as.map (rx_cv (rx_ad ro base))).toArray below meth c
    (MQ below (rx_Qc cl D dT ro base v h') (as.map (rx_cv (rx_ad ro base))).toArray s (h'.length - h.length) (rx_sz h' - rx_sz h) (fun q => base ≤ q)) h.length (rx_sz h) hx hb hml hts hown hKx (fun hk => by rw [hnm]; exact (g9 hk).2.1) ⟨Nat.le_refl _, Nat.le_refl _⟩ hW.1
    (show h'.length ≤ h.length + (h'.length - h.length) by omega) (show rx_sz h' ≤ rx_sz h + (rx_sz h' - rx_sz h) by omega) ?_
  · have h1 := key s.heap [] ls (Nat.le_refl _) (Nat.le_refl _) hW va_S.rf hl
    rw [Nat.sub_self, Nat.sub_self] at h1
    exact h1
  · intro pc9 ins9 lv9 st9 hdg hret H locs ls9 hn hz hW9 hS9 hl9
    have hq : ∀ (v9 : Option Value), v = v9 → ∀ t : State, t.heap = H → s.WarmedH t.vm → rx_Qc cl D dT ro base v h' (as.map (rx_cv (rx_ad ro base))).toArray s (.returned (v9.map (rx_cv (rx_ad ro base)))) t := fun v9 e9 t ht _ => ⟨by rw [e9], by rw [ht]; exact hW9, fun q hq => by rw [ht]; exact hS9.2.1 q (by rw [hW.1]; omega) (Nat.not_le.mpr hq)⟩
    rcases rx_ret_e hret with ⟨x, rfl, e1, rfl, rfl⟩ | ⟨x, rfl, e1, rfl, hx01, rfl⟩ | ⟨x, rfl, e1, rfl, rfl⟩ | ⟨rfl, e1, rfl, rfl⟩
    · exact W.iret (v := x) hx hb (hr.trans e1) (hq _ rfl) hS9.2.2 (rx_dec_n hdg rfl) hlocks
    · refine W.zret (v := x) (ty := .boolean) hx hb (hr.trans e1) ?_ (hq _ rfl) hS9.2.2 (rx_dec_n hdg rfl) hlocks
      rcases hx01 with rfl | rfl
      · exact (by decide +kernel : narrow .boolean (.int 0) = .int 0)
      · exact (by decide +kernel : narrow .boolean (.int 1) = .int 1)
    · exact W.lret (v := x) hx hb (hr.trans e1) (hq _ rfl) hS9.2.2 (rx_dec_n hdg rfl) hlocks
    · exact W.vret hx hb (hr.trans e1) (hq _ rfl) hS9.2.2 (rx_dec_n hdg rfl) hlocks
set_option maxHeartbeats 4000000 in
theorem rx_sound (G : rx_G all nst cl cds tys sts own lk) (GD : rx_GD own ms) (GK : rx_GK all nst cl own ms lk) (GW : rx_GW all nst) : ∀ f : Nat, rx_Sd l all nst cl cds tys sts own ms lk D dT ro rt base f
  | 0 => fun d w mi pc lv st h v h' hrun => by rw [rx_run] at hrun; cases hrun
  | f + 1 => by
    have ih := rx_sound G GD GK GW f
    intro d w mi pc lv st h v h' hrun M hM p e R s m args below meth c Q n0 z0 hx hb hml hts hown hK hini hR hs0 hRc hRs hret
    obtain ⟨M', ins, hM', hf, hcase⟩ := rx_run_e hrun
    cases hM.symm.trans hM'
    have hdg := rx_fetch GD hM hf
    have hown' : s.vm.findClass (own (rx_Mo M)) = some m.cls := by rw [(GD mi M hM).1]; exact hown
    rcases hcase with ⟨hr, rfl⟩ | ⟨j, as, rest, N, d', v1, h1, rfl, hc, hN, hw, e1, e2⟩ | ⟨pc', lv', st', h1, e1, e2⟩
    · exact hret pc ins lv st hdg hr
    · have a1 := rx_run_grow _ _ _ _ _ _ _ _ _ _ e1
      have a2 := rx_run_grow _ _ _ _ _ _ _ _ _ _ e2
      have K := ih _ _ _ _ _ _ _ _ _ e2 M hM p e R s m args below meth c Q n0 z0 hx hb hml hts hown hK hini hR hs0 hRc hRs hret
      obtain ⟨ix, k, hiv, hkind⟩ := rx_call_e hc
      obtain ⟨nest, N', ho, hN', hkk, han, hst, hrs, hsl, hrcv⟩ := rx_iv_e hiv
      cases hN.symm.trans hN'
      obtain ⟨GMj, GLj⟩ := GK _ _ _ (rx_luv_e ho) N hN
      have hMet : rx_Met l all cl tys sts nst D dT ro rt base N d' (w - (19 + rx_Ml N)) as h v1 h1 := rx_met_of ih hN GMj hsl e1
      have hR' : d' + 1 ≤ R.frames ∧ w - (19 + rx_Ml N) + (19 + rx_Ml N) ≤ R.locals := ⟨hR.1, by omega⟩
      subst hst
      rcases hkind with ⟨rfl, rfl⟩ | ⟨rfl, rfl⟩ | ⟨rfl, rfl⟩
      · exact rx_h_callS hx hb hml hts hown' hK GW.1 GW.2.1 GW.2.2 hs0 GMj GLj hkk hMet a1.1 a1.2 han hrs hR' (by omega) (by omega) (rx_dec_n hdg rfl) K
      · cases as with
        | nil => simp [rx_rcv] at hrcv
        | cons b as =>
          cases b with
          | ref o =>
            have hrcv : (match rx_ro h o with | some q => Nat.beq q.1 (rx_Mc N) | none => false) = true := hrcv
            cases hq9 : rx_ro h o with
            | none => rw [hq9] at hrcv; cases hrcv
            | some q9 =>
              rw [hq9] at hrcv
              obtain ⟨o9, rfl, g1, g2⟩ := rx_ro_e hq9
              obtain ⟨q1, q2⟩ := q9
              have e9 : q1 = rx_Mc N := Nat.eq_of_beq_eq_true hrcv
              subst e9
              exact rx_h_callV hx hb hml hts hown' hK GW.1 GW.2.1 GW.2.2 hs0 GMj GLj hkk g1 hMet a1.1 a1.2 (by simpa [rx_an] using han) hrs hR' (by omega) (by omega) (rx_dec_n hdg rfl) K
          | _ => simp [rx_rcv] at hrcv
      · cases as with
        | nil => simp [rx_rcv] at hrcv
        | cons b as =>
          cases b with
          | ref o => exact rx_h_callI hx hb hml hts hown' hK GW.1 GW.2.1 GW.2.2 hs0 GMj GLj hkk hMet a1.1 a1.2 (by simpa [rx_an] using han) hrs hR' (by omega) (by omega) (rx_dec_n hdg rfl) K
          | _ => simp [rx_rcv] at hrcv
    · have a2 := rx_run_grow _ _ _ _ _ _ _ _ _ _ e2
      have K := ih _ _ _ _ _ _ _ _ _ e2 M hM p e R s m args below meth c Q n0 z0 hx hb hml hts hown hK hini hR hs0 hRc hRs hret
      exact rx_step hx hb hml hts hown' hK hini hR G e1 hdg (by omega) (by omega) K
end RXT
end
section
def rx_all : List Cond := lw_tbl.filter goodWord
def rx_nst : List Cond := tables_1.filter rx_isN
theorem rx_inT {i : Nat} {w : Cond} (h : tables_1[i]? = some w) (hg : goodWord w = true) : w ∈ rx_all := List.mem_filter.mpr ⟨List.mem_append_right _ (List.mem_of_getElem? h), hg⟩
theorem rx_inS {i : Nat} {q : MethodName × Nat} (h : lw_privs[i]? = some q) : Cond.selects q.1.cls q.1 q.1 ∈ rx_all := List.mem_filter.mpr ⟨List.mem_append_left _ (List.mem_map.mpr ⟨q, List.mem_of_getElem? h, rfl⟩), rfl⟩
theorem rx_inN {i : Nat} {w : Cond} (h : tables_1[i]? = some w) (hg : rx_isN w = true) : w ∈ rx_nst := List.mem_filter.mpr ⟨List.mem_of_getElem? h, hg⟩
theorem rx_GW0 : rx_GW rx_all rx_nst := ⟨fun w h => good_of_word (List.mem_filter.mp h).2, fun w h => (List.mem_filter.mp h).2, fun w h => (List.mem_filter.mp h).2⟩
theorem rx_fc {α : Type} {P : α → Prop} {a : α} {l : List α} (h : P a) (t : ∀ e ∈ l, P e) : ∀ e ∈ a :: l, P e := List.forall_mem_cons.mpr ⟨h, t⟩
theorem rx_fn {α : Type} {P : α → Prop} : ∀ e ∈ ([] : List α), P e := fun _ h => absurd h List.not_mem_nil
def rx_T0 : u_T := fun k => match k with
  | 0 => ("AngleChains", "figure", "LAngleChains$Figure;", true)
  | 1 => ("AngleChains", "hypotheses", "[I", true)
  | 2 => ("AngleChains", "deduction", "LAngleChains$Deduction;", true)
  | 3 => ("AngleChains", "hypothesisCount", "I", false)
  | 4 => ("AngleChains", "onBits", "I", false)
  | 5 => ("AngleChains", "leftBits", "I", false)
  | 6 => ("AngleChains", "draft", "I", false)
  | _ => ("AngleChains", "draftCount", "I", false)
def rx_y0 : Nat → FieldType := fun k => match k with
  | 0 => .object "AngleChains$Figure"
  | 1 => .array (.int)
  | 2 => .object "AngleChains$Deduction"
  | 3 => .int
  | 4 => .int
  | 5 => .int
  | 6 => .int
  | _ => .int
def rx_T1 : u_T := fun k => match k with
  | 0 => ("AngleChains$Figure", "xs", "[I", true)
  | 1 => ("AngleChains$Figure", "ys", "[I", true)
  | _ => ("AngleChains$Figure", "size", "I", false)
def rx_y1 : Nat → FieldType := fun k => match k with
  | 0 => .array (.int)
  | 1 => .array (.int)
  | _ => .int
def rx_T2 : u_T := fun k => match k with
  | 0 => ("AngleChains$Deduction", "figure", "LAngleChains$Figure;", true)
  | 1 => ("AngleChains$Deduction", "hypotheses", "[I", true)
  | 2 => ("AngleChains$Deduction", "cases", "LAngleChains$Cases;", true)
  | 3 => ("AngleChains$Deduction", "rows", "LAngleChains$Rows;", true)
  | 4 => ("AngleChains$Deduction", "lineOf", "[I", true)
  | 5 => ("AngleChains$Deduction", "columnOf", "[I", true)
  | 6 => ("AngleChains$Deduction", "lengthOf", "[I", true)
  | 7 => ("AngleChains$Deduction", "circleOf", "[I", true)
  | 8 => ("AngleChains$Deduction", "open", "[I", true)
  | 9 => ("AngleChains$Deduction", "openCount", "I", false)
  | 10 => ("AngleChains$Deduction", "hasJoined", "Z", false)
  | 11 => ("AngleChains$Deduction", "closedSize", "I", false)
  | _ => ("AngleChains$Deduction", "closedBits", "I", false)
def rx_y2 : Nat → FieldType := fun k => match k with
  | 0 => .object "AngleChains$Figure"
  | 1 => .array (.int)
  | 2 => .object "AngleChains$Cases"
  | 3 => .object "AngleChains$Rows"
  | 4 => .array (.int)
  | 5 => .array (.int)
  | 6 => .array (.int)
  | 7 => .array (.int)
  | 8 => .array (.int)
  | 9 => .int
  | 10 => .boolean
  | 11 => .int
  | _ => .int
def rx_T3 : u_T := fun k => match k with
  | 0 => ("AngleChains$Rows", "basis", "[[J", true)
  | 1 => ("AngleChains$Rows", "row", "[J", true)
  | 2 => ("AngleChains$Rows", "rank", "I", false)
  | _ => ("AngleChains$Rows", "hasGrown", "Z", false)
def rx_y3 : Nat → FieldType := fun k => match k with
  | 0 => .array (.array (.long))
  | 1 => .array (.long)
  | 2 => .int
  | _ => .boolean
def rx_T4 : u_T := fun k => match k with
  | 0 => ("AngleChains$Cases", "figure", "LAngleChains$Figure;", true)
  | 1 => ("AngleChains$Cases", "packed", "[I", true)
  | _ => ("AngleChains$Cases", "count", "I", false)
def rx_y4 : Nat → FieldType := fun k => match k with
  | 0 => .object "AngleChains$Figure"
  | 1 => .array (.int)
  | _ => .int
def rx_T5 : u_T := fun k => match k with
  | 0 => ("AngleChainsModel", "thrown", "I", false)
  | 1 => ("AngleChainsModel", "n", "I", false)
  | 2 => ("AngleChainsModel", "px", "[I", true)
  | 3 => ("AngleChainsModel", "py", "[I", true)
  | 4 => ("AngleChainsModel", "draft", "[I", true)
  | 5 => ("AngleChainsModel", "drafted", "I", false)
  | 6 => ("AngleChainsModel", "facts", "I", false)
  | 7 => ("AngleChainsModel", "factKind", "[I", true)
  | 8 => ("AngleChainsModel", "factPoint", "[I", true)
  | 9 => ("AngleChainsModel", "isOn", "[Z", true)
  | 10 => ("AngleChainsModel", "plays", "[Z", true)
  | 11 => ("AngleChainsModel", "needed", "[I", true)
  | 12 => ("AngleChainsModel", "needs", "I", false)
  | 13 => ("AngleChainsModel", "fresh", "Z", false)
  | 14 => ("AngleChainsModel", "line", "[I", true)
  | 15 => ("AngleChainsModel", "circle", "[I", true)
  | 16 => ("AngleChainsModel", "same", "[I", true)
  | 17 => ("AngleChainsModel", "news", "Z", false)
  | 18 => ("AngleChainsModel", "column", "[I", true)
  | 19 => ("AngleChainsModel", "columns", "I", false)
  | 20 => ("AngleChainsModel", "moved", "Z", false)
  | 21 => ("AngleChainsModel", "steps", "[J", true)
  | 22 => ("AngleChainsModel", "hasStep", "[Z", true)
  | 23 => ("AngleChainsModel", "row", "[J", true)
  | 24 => ("AngleChainsModel", "other", "[J", true)
  | 25 => ("AngleChainsModel", "oldSteps", "[J", true)
  | 26 => ("AngleChainsModel", "hadStep", "[Z", true)
  | 27 => ("AngleChainsModel", "oldColumn", "[I", true)
  | 28 => ("AngleChainsModel", "toColumn", "[I", true)
  | 29 => ("AngleChainsModel", "reduced", "[J", true)
  | 30 => ("AngleChainsModel", "numberOf", "[I", true)
  | 31 => ("AngleChainsModel", "table", "[I", true)
  | 32 => ("AngleChainsModel", "numbers", "I", false)
  | _ => ("AngleChainsModel", "quarter", "I", false)
def rx_y5 : Nat → FieldType := fun k => match k with
  | 0 => .int
  | 1 => .int
  | 2 => .array (.int)
  | 3 => .array (.int)
  | 4 => .array (.int)
  | 5 => .int
  | 6 => .int
  | 7 => .array (.int)
  | 8 => .array (.int)
  | 9 => .array (.boolean)
  | 10 => .array (.boolean)
  | 11 => .array (.int)
  | 12 => .int
  | 13 => .boolean
  | 14 => .array (.int)
  | 15 => .array (.int)
  | 16 => .array (.int)
  | 17 => .boolean
  | 18 => .array (.int)
  | 19 => .int
  | 20 => .boolean
  | 21 => .array (.long)
  | 22 => .array (.boolean)
  | 23 => .array (.long)
  | 24 => .array (.long)
  | 25 => .array (.long)
  | 26 => .array (.boolean)
  | 27 => .array (.int)
  | 28 => .array (.int)
  | 29 => .array (.long)
  | 30 => .array (.int)
  | 31 => .array (.int)
  | 32 => .int
  | _ => .int
def rx_cl : List vw_C := [("AngleChains", rx_T0, 8), ("AngleChains$Figure", rx_T1, 3), ("AngleChains$Deduction", rx_T2, 13), ("AngleChains$Rows", rx_T3, 4), ("AngleChains$Cases", rx_T4, 3), ("AngleChainsModel", rx_T5, 34)]
def rx_cds : List (List Value) := [[.null, .null, .null, .int 0, .int 0, .int 0, .int 0, .int 0], [.null, .null, .int 0], [.null, .null, .null, .null, .null, .null, .null, .null, .null, .int 0, .int 0, .int 0, .int 0], [.null, .null, .int 0, .int 0], [.null, .null, .int 0], [.int 0, .int 0, .null, .null, .null, .int 0, .int 0, .null, .null, .null, .null, .null, .int 0, .int 0, .null, .null, .null, .int 0, .null, .int 0, .int 0, .null, .null, .null, .null, .null, .null, .null, .null, .null, .null, .null, .int 0, .int 0]]
def rx_tys : List FieldType := [.int, .long, .boolean, .array .long]
def rx_sts : List (String × String × String × Nat) := [("AngleChains", "POINTS_OF_KIND", "[I", 1), ("AngleChains", "PAIR_BITS", "[I", 2), ("AngleChains", "TRIPLES", "[I", 3), ("AngleChains", "PAIR_NUMBERS", "[I", 4)]
end
section
def rx_chk (M : rx_M) : Bool := (rx_Mt M).all (fun c => c.2.all (fun q => decide (decode (rx_Mb M) q.1 = .ok q.2) && rx_lc q.2.1 q.2.2))
def rxt_0 : rx_Tb := [(24, [(0, .new 7, 3), (3, .dup, 1), (4, .invokespecial 9, 3), (7, .astore_n 1, 1), (8, .new 10, 3), (11, .dup, 1), (12, .invokespecial 12, 3), (15, .astore_n 2, 1), (16, .iconst 0, 1), (17, .istore_n 3, 1), (18, .iload_n 3, 1), (19, .aload_n 0, 1), (20, .arraylength, 1), (21, .iconst 4, 1), (22, .isub, 1), (23, .if_icmp .gt 431, 3)]), (106, [(26, .aload_n 0, 1), (27, .iload_n 3, 1), (28, .iaload, 1), (29, .bipush 15, 2), (31, .iand, 1), (32, .tableswitch 416 0 11 #[64, 97, 120, 143, 166, 215, 238, 261, 284, 317, 360, 393], 64), (96, .aload_n 1, 1), (97, .aload_n 0, 1), (98, .iload_n 3, 1), (99, .iconst 1, 1), (100, .iadd, 1), (101, .iaload, 1), (102, .aload_n 0, 1), (103, .iload_n 3, 1), (104, .iconst 2, 1), (105, .iadd, 1)]), (128, [(106, .iaload, 1), (107, .invokevirtual 13, 3), (110, .aload_n 2, 1), (111, .aload_n 0, 1), (112, .iload_n 3, 1), (113, .iconst 1, 1), (114, .iadd, 1), (115, .iaload, 1), (116, .aload_n 0, 1), (117, .iload_n 3, 1), (118, .iconst 2, 1), (119, .iadd, 1), (120, .iaload, 1), (121, .invokevirtual 17, 3), (124, .if_icmp .eq 324, 3), (127, .iconst 0, 1)]), (148, [(128, .ireturn, 1), (129, .aload_n 1, 1), (130, .aload_n 0, 1), (131, .iload_n 3, 1), (132, .iconst 1, 1), (133, .iadd, 1), (134, .iaload, 1), (135, .invokevirtual 18, 3), (138, .aload_n 2, 1), (139, .aload_n 0, 1), (140, .iload_n 3, 1), (141, .iconst 1, 1), (142, .iadd, 1), (143, .iaload, 1), (144, .invokevirtual 22, 3), (147, .if_icmp .eq 301, 3)]), (168, [(150, .iconst 0, 1), (151, .ireturn, 1), (152, .aload_n 1, 1), (153, .aload_n 0, 1), (154, .iload_n 3, 1), (155, .iconst 1, 1), (156, .iadd, 1), (157, .iaload, 1), (158, .invokevirtual 23, 3), (161, .aload_n 2, 1), (162, .aload_n 0, 1), (163, .iload_n 3, 1), (164, .iconst 1, 1), (165, .iadd, 1), (166, .iaload, 1), (167, .invokevirtual 26, 3)]), (190, [(170, .if_icmp .eq 278, 3), (173, .iconst 0, 1), (174, .ireturn, 1), (175, .aload_n 1, 1), (176, .aload_n 0, 1), (177, .iload_n 3, 1), (178, .iconst 1, 1), (179, .iadd, 1), (180, .iaload, 1), (181, .invokevirtual 27, 3), (184, .aload_n 2, 1), (185, .aload_n 0, 1), (186, .iload_n 3, 1), (187, .iconst 1, 1), (188, .iadd, 1), (189, .iaload, 1)]), (210, [(190, .invokevirtual 30, 3), (193, .if_icmp .eq 255, 3), (196, .iconst 0, 1), (197, .ireturn, 1), (198, .aload_n 1, 1), (199, .aload_n 0, 1), (200, .iload_n 3, 1), (201, .iconst 1, 1), (202, .iadd, 1), (203, .iaload, 1), (204, .aload_n 0, 1), (205, .iload_n 3, 1), (206, .iconst 2, 1), (207, .iadd, 1), (208, .iaload, 1), (209, .ifCond .eq 7, 3)]), (232, [(212, .iconst 1, 1), (213, .goto 4, 3), (216, .iconst 0, 1), (217, .invokevirtual 31, 3), (220, .aload_n 2, 1), (221, .aload_n 0, 1), (222, .iload_n 3, 1), (223, .iconst 1, 1), (224, .iadd, 1), (225, .iaload, 1), (226, .aload_n 0, 1), (227, .iload_n 3, 1), (228, .iconst 2, 1), (229, .iadd, 1), (230, .iaload, 1), (231, .ifCond .eq 7, 3)]), (258, [(234, .iconst 1, 1), (235, .goto 4, 3), (238, .iconst 0, 1), (239, .invokevirtual 35, 3), (242, .if_icmp .eq 206, 3), (245, .iconst 0, 1), (246, .ireturn, 1), (247, .aload_n 1, 1), (248, .aload_n 0, 1), (249, .iload_n 3, 1), (250, .iconst 1, 1), (251, .iadd, 1), (252, .iaload, 1), (253, .invokevirtual 36, 3), (256, .aload_n 2, 1), (257, .aload_n 0, 1)]), (280, [(258, .iload_n 3, 1), (259, .iconst 1, 1), (260, .iadd, 1), (261, .iaload, 1), (262, .invokevirtual 39, 3), (265, .if_icmp .eq 183, 3), (268, .iconst 0, 1), (269, .ireturn, 1), (270, .aload_n 1, 1), (271, .aload_n 0, 1), (272, .iload_n 3, 1), (273, .iconst 1, 1), (274, .iadd, 1), (275, .iaload, 1), (276, .invokevirtual 40, 3), (279, .aload_n 2, 1)]), (300, [(280, .aload_n 0, 1), (281, .iload_n 3, 1), (282, .iconst 1, 1), (283, .iadd, 1), (284, .iaload, 1), (285, .invokevirtual 43, 3), (288, .if_icmp .eq 160, 3), (291, .iconst 0, 1), (292, .ireturn, 1), (293, .aload_n 1, 1), (294, .aload_n 0, 1), (295, .iload_n 3, 1), (296, .iconst 1, 1), (297, .iadd, 1), (298, .iaload, 1), (299, .invokevirtual 44, 3)]), (322, [(302, .aload_n 2, 1), (303, .aload_n 0, 1), (304, .iload_n 3, 1), (305, .iconst 1, 1), (306, .iadd, 1), (307, .iaload, 1), (308, .invokevirtual 47, 3), (311, .if_icmp .eq 137, 3), (314, .iconst 0, 1), (315, .ireturn, 1), (316, .aload_n 1, 1), (317, .aload_n 0, 1), (318, .iload_n 3, 1), (319, .iconst 1, 1), (320, .iadd, 1), (321, .iaload, 1)]), (340, [(322, .aload_n 0, 1), (323, .iload_n 3, 1), (324, .iconst 2, 1), (325, .iadd, 1), (326, .iaload, 1), (327, .invokevirtual 48, 3), (330, .aload_n 2, 1), (331, .aload_n 0, 1), (332, .iload_n 3, 1), (333, .iconst 1, 1), (334, .iadd, 1), (335, .iaload, 1), (336, .aload_n 0, 1), (337, .iload_n 3, 1), (338, .iconst 2, 1), (339, .iadd, 1)]), (360, [(340, .iaload, 1), (341, .invokevirtual 51, 3), (344, .if_icmp .eq 104, 3), (347, .iconst 0, 1), (348, .ireturn, 1), (349, .aload_n 1, 1), (350, .aload_n 0, 1), (351, .iload_n 3, 1), (352, .iconst 1, 1), (353, .iadd, 1), (354, .iaload, 1), (355, .aload_n 0, 1), (356, .iload_n 3, 1), (357, .iconst 2, 1), (358, .iadd, 1), (359, .iaload, 1)]), (378, [(360, .aload_n 0, 1), (361, .iload_n 3, 1), (362, .iconst 3, 1), (363, .iadd, 1), (364, .iaload, 1), (365, .invokevirtual 52, 3), (368, .aload_n 2, 1), (369, .aload_n 0, 1), (370, .iload_n 3, 1), (371, .iconst 1, 1), (372, .iadd, 1), (373, .iaload, 1), (374, .aload_n 0, 1), (375, .iload_n 3, 1), (376, .iconst 2, 1), (377, .iadd, 1)]), (398, [(378, .iaload, 1), (379, .aload_n 0, 1), (380, .iload_n 3, 1), (381, .iconst 3, 1), (382, .iadd, 1), (383, .iaload, 1), (384, .invokevirtual 56, 3), (387, .if_icmp .eq 61, 3), (390, .iconst 0, 1), (391, .ireturn, 1), (392, .aload_n 1, 1), (393, .aload_n 0, 1), (394, .iload_n 3, 1), (395, .iconst 1, 1), (396, .iadd, 1), (397, .iaload, 1)]), (416, [(398, .aload_n 0, 1), (399, .iload_n 3, 1), (400, .iconst 2, 1), (401, .iadd, 1), (402, .iaload, 1), (403, .invokevirtual 57, 3), (406, .aload_n 2, 1), (407, .aload_n 0, 1), (408, .iload_n 3, 1), (409, .iconst 1, 1), (410, .iadd, 1), (411, .iaload, 1), (412, .aload_n 0, 1), (413, .iload_n 3, 1), (414, .iconst 2, 1), (415, .iadd, 1)]), (438, [(416, .iaload, 1), (417, .invokevirtual 60, 3), (420, .if_icmp .eq 28, 3), (423, .iconst 0, 1), (424, .ireturn, 1), (425, .aload_n 1, 1), (426, .aload_n 0, 1), (427, .iload_n 3, 1), (428, .iconst 1, 1), (429, .iadd, 1), (430, .iaload, 1), (431, .invokevirtual 61, 3), (434, .aload_n 2, 1), (435, .aload_n 0, 1), (436, .iload_n 3, 1), (437, .iconst 1, 1)]), (456, [(438, .iadd, 1), (439, .iaload, 1), (440, .invokevirtual 64, 3), (443, .if_icmp .eq 5, 3), (446, .iconst 0, 1), (447, .ireturn, 1), (448, .iinc 3 4, 3), (451, .goto (-433), 3), (454, .iconst 1, 1), (455, .ireturn, 1)])]
def rxm_0 : rx_M := ((⟨"AngleChainsLaw", "law", "([I)Z"⟩ : MethodName), code, 4, (some .boolean), 0, 0, 1, 0, rxt_0)
def rxt_1 : rx_Tb := [(30, [(0, .aload_n 0, 1), (1, .invokespecial 1, 3), (4, .aload_n 0, 1), (5, .new 7, 3), (8, .dup, 1), (9, .invokespecial 9, 3), (12, .putfield 10, 3), (15, .aload_n 0, 1), (16, .bipush 30, 2), (18, .newarray .int, 2), (20, .putfield 16, 3), (23, .aload_n 0, 1), (24, .new 20, 3), (27, .dup, 1), (28, .aload_n 0, 1), (29, .getfield 10, 3)]), (43, [(32, .aload_n 0, 1), (33, .getfield 16, 3), (36, .invokespecial 22, 3), (39, .putfield 25, 3), (42, .return_, 1)])]
def rxm_1 : rx_M := ((⟨"AngleChains", "<init>", "()V"⟩ : MethodName), prog_1_method_1_code, 1, none, 1, 2, 0, 0, rxt_1)
def rxt_2 : rx_Tb := [(21, [(0, .aload_n 0, 1), (1, .invokespecial 3, 3), (4, .aload_n 0, 1), (5, .bipush 8, 2), (7, .newarray .int, 2), (9, .putfield 9, 3), (12, .aload_n 0, 1), (13, .bipush 8, 2), (15, .newarray .int, 2), (17, .putfield 15, 3), (20, .return_, 1)])]
def rxm_2 : rx_M := ((⟨"AngleChains$Figure", "<init>", "()V"⟩ : MethodName), prog_4_method_1_code, 1, none, 2, 2, 0, 1, rxt_2)
def rxt_3 : rx_Tb := [(32, [(0, .aload_n 0, 1), (1, .invokespecial 3, 3), (4, .aload_n 0, 1), (5, .new 9, 3), (8, .dup, 1), (9, .invokespecial 11, 3), (12, .putfield 12, 3), (15, .aload_n 0, 1), (16, .bipush 21, 2), (18, .newarray .int, 2), (20, .putfield 18, 3), (23, .aload_n 0, 1), (24, .bipush 21, 2), (26, .newarray .int, 2), (28, .putfield 22, 3), (31, .aload_n 0, 1)]), (64, [(32, .bipush 21, 2), (34, .newarray .int, 2), (36, .putfield 25, 3), (39, .aload_n 0, 1), (40, .sipush 256, 3), (43, .newarray .int, 2), (45, .putfield 28, 3), (48, .aload_n 0, 1), (49, .sipush 679, 3), (52, .newarray .int, 2), (54, .putfield 33, 3), (57, .aload_n 0, 1), (58, .iconst (-1), 1), (59, .putfield 36, 3), (62, .aload_n 0, 1), (63, .aload_n 1, 1)]), (85, [(64, .putfield 40, 3), (67, .aload_n 0, 1), (68, .aload_n 2, 1), (69, .putfield 44, 3), (72, .aload_n 0, 1), (73, .new 31, 3), (76, .dup, 1), (77, .aload_n 1, 1), (78, .invokespecial 47, 3), (81, .putfield 50, 3), (84, .return_, 1)])]
def rxm_3 : rx_M := ((⟨"AngleChains$Deduction", "<init>", "(LAngleChains$Figure;[I)V"⟩ : MethodName), prog_3_method_1_code, 3, none, 3, 2, 2, 2, rxt_3)
def rxt_4 : rx_Tb := [(25, [(0, .aload_n 0, 1), (1, .invokespecial 3, 3), (4, .aload_n 0, 1), (5, .bipush 21, 2), (7, .bipush 22, 2), (9, .multianewarray 9 2, 4), (13, .putfield 11, 3), (16, .aload_n 0, 1), (17, .bipush 22, 2), (19, .newarray .long, 2), (21, .putfield 16, 3), (24, .return_, 1)])]
def rxm_4 : rx_M := ((⟨"AngleChains$Rows", "<init>", "()V"⟩ : MethodName), prog_5_method_1_code, 1, none, 4, 2, 0, 3, rxt_4)
def rxt_5 : rx_Tb := [(19, [(0, .aload_n 0, 1), (1, .invokespecial 3, 3), (4, .aload_n 0, 1), (5, .sipush 679, 3), (8, .newarray .int, 2), (10, .putfield 11, 3), (13, .aload_n 0, 1), (14, .aload_n 1, 1), (15, .putfield 15, 3), (18, .return_, 1)])]
def rxm_5 : rx_M := ((⟨"AngleChains$Cases", "<init>", "(LAngleChains$Figure;)V"⟩ : MethodName), prog_2_method_1_code, 2, none, 5, 2, 1, 4, rxt_5)
def rxt_6 : rx_Tb := [(28, [(0, .aload_n 0, 1), (1, .getfield 29, 3), (4, .ifCond .gt 15, 3), (7, .aload_n 0, 1), (8, .getfield 10, 3), (11, .iload_n 1, 1), (12, .iload_n 2, 1), (13, .invokevirtual 33, 3), (16, .ifCond .ne 5, 3), (19, .iconst (-1), 1), (20, .ireturn, 1), (21, .aload_n 0, 1), (22, .getfield 10, 3), (25, .iload_n 1, 1), (26, .iload_n 2, 1), (27, .invokevirtual 37, 3)]), (31, [(30, .ireturn, 1)])]
def rxm_6 : rx_M := ((⟨"AngleChains", "point", "(II)I"⟩ : MethodName), prog_1_method_2_code, 3, (some .int), 1, 1, 2, 0, rxt_6)
def rxt_7 : rx_Tb := [(29, [(0, .aload_n 0, 1), (1, .getfield 18, 3), (4, .bipush 7, 2), (6, .if_icmp .ge 17, 3), (9, .iload_n 1, 1), (10, .invokestatic 22, 3), (13, .ifCond .eq 10, 3), (16, .iload_n 2, 1), (17, .invokestatic 22, 3), (20, .ifCond .ne 5, 3), (23, .iconst 0, 1), (24, .ireturn, 1), (25, .iconst 0, 1), (26, .istore_n 3, 1), (27, .iload_n 3, 1), (28, .aload_n 0, 1)]), (57, [(29, .getfield 18, 3), (32, .if_icmp .ge 31, 3), (35, .aload_n 0, 1), (36, .getfield 9, 3), (39, .iload_n 3, 1), (40, .iaload, 1), (41, .iload_n 1, 1), (42, .if_icmp .ne 15, 3), (45, .aload_n 0, 1), (46, .getfield 15, 3), (49, .iload_n 3, 1), (50, .iaload, 1), (51, .iload_n 2, 1), (52, .if_icmp .ne 5, 3), (55, .iconst 0, 1), (56, .ireturn, 1)]), (65, [(57, .iinc 3 1, 3), (60, .goto (-33), 3), (63, .iconst 1, 1), (64, .ireturn, 1)])]
def rxm_7 : rx_M := ((⟨"AngleChains$Figure", "hasRoomAt", "(II)Z"⟩ : MethodName), prog_4_method_3_code, 4, (some .boolean), 2, 1, 2, 1, rxt_7)
def rxt_8 : rx_Tb := [(20, [(0, .iload_n 0, 1), (1, .sipush (-1000), 3), (4, .if_icmp .lt 14, 3), (7, .iload_n 0, 1), (8, .sipush 1000, 3), (11, .if_icmp .gt 7, 3), (14, .iconst 1, 1), (15, .goto 4, 3), (18, .iconst 0, 1), (19, .ireturn, 1)])]
def rxm_8 : rx_M := ((⟨"AngleChains$Figure", "isCoordinate", "(I)Z"⟩ : MethodName), prog_4_method_4_code, 1, (some .boolean), 2, 0, 1, 1, rxt_8)
def rxt_9 : rx_Tb := [(22, [(0, .aload_n 0, 1), (1, .getfield 18, 3), (4, .istore_n 3, 1), (5, .aload_n 0, 1), (6, .getfield 9, 3), (9, .iload_n 3, 1), (10, .iload_n 1, 1), (11, .iastore, 1), (12, .aload_n 0, 1), (13, .getfield 15, 3), (16, .iload_n 3, 1), (17, .iload_n 2, 1), (18, .iastore, 1), (19, .aload_n 0, 1), (20, .dup, 1), (21, .getfield 18, 3)]), (31, [(24, .iconst 1, 1), (25, .iadd, 1), (26, .putfield 18, 3), (29, .iload_n 3, 1), (30, .ireturn, 1)])]
def rxm_9 : rx_M := ((⟨"AngleChains$Figure", "place", "(II)I"⟩ : MethodName), prog_4_method_5_code, 4, (some .int), 2, 1, 2, 1, rxt_9)
def rxt_10 : rx_Tb := [(29, [(0, .aload_n 0, 1), (1, .getfield 10, 3), (4, .iload_n 1, 1), (5, .invokevirtual 41, 3), (8, .ifCond .eq 12, 3), (11, .aload_n 0, 1), (12, .getfield 45, 3), (15, .bipush 8, 2), (17, .if_icmp .lt 5, 3), (20, .iconst (-1), 1), (21, .ireturn, 1), (22, .aload_n 0, 1), (23, .dup, 1), (24, .getfield 48, 3), (27, .iload_n 1, 1), (28, .iconst 3, 1)]), (54, [(29, .aload_n 0, 1), (30, .getfield 45, 3), (33, .imul, 1), (34, .ishl, 1), (35, .ior, 1), (36, .putfield 48, 3), (39, .aload_n 0, 1), (40, .dup, 1), (41, .getfield 45, 3), (44, .iconst 1, 1), (45, .iadd, 1), (46, .putfield 45, 3), (49, .aload_n 0, 1), (50, .getfield 45, 3), (53, .ireturn, 1)])]
def rxm_10 : rx_M := ((⟨"AngleChains", "of", "(I)I"⟩ : MethodName), prog_1_method_3_code, 2, (some .int), 1, 1, 1, 0, rxt_10)
def rxt_11 : rx_Tb := [(18, [(0, .iload_n 1, 1), (1, .ifCond .lt 15, 3), (4, .iload_n 1, 1), (5, .aload_n 0, 1), (6, .getfield 18, 3), (9, .if_icmp .ge 7, 3), (12, .iconst 1, 1), (13, .goto 4, 3), (16, .iconst 0, 1), (17, .ireturn, 1)])]
def rxm_11 : rx_M := ((⟨"AngleChains$Figure", "has", "(I)Z"⟩ : MethodName), prog_4_method_2_code, 2, (some .boolean), 2, 1, 1, 1, rxt_11)
def rxt_12 : rx_Tb := [(26, [(0, .aload_n 0, 1), (1, .iload_n 1, 1), (2, .invokevirtual 51, 3), (5, .istore_n 2, 1), (6, .iload_n 2, 1), (7, .iconst (-1), 1), (8, .if_icmp .ne 5, 3), (11, .iconst (-1), 1), (12, .ireturn, 1), (13, .aload_n 0, 1), (14, .getfield 10, 3), (17, .iload_n 2, 1), (18, .invokevirtual 55, 3), (21, .ifCond .eq 7, 3), (24, .iconst 1, 1), (25, .goto 4, 3)]), (30, [(28, .iconst 0, 1), (29, .ireturn, 1)])]
def rxm_12 : rx_M := ((⟨"AngleChains", "isTrue", "(I)I"⟩ : MethodName), prog_1_method_4_code, 3, (some .int), 1, 1, 1, 0, rxt_12)
def rxt_13 : rx_Tb := [(26, [(0, .aload_n 0, 1), (1, .getfield 48, 3), (4, .istore_n 2, 1), (5, .aload_n 0, 1), (6, .getfield 45, 3), (9, .istore_n 3, 1), (10, .aload_n 0, 1), (11, .iconst 0, 1), (12, .putfield 48, 3), (15, .aload_n 0, 1), (16, .iconst 0, 1), (17, .putfield 45, 3), (20, .iload_n 1, 1), (21, .ifCond .lt 20, 3), (24, .iload_n 1, 1), (25, .getstatic 106, 3)]), (52, [(28, .arraylength, 1), (29, .if_icmp .ge 12, 3), (32, .iload_n 3, 1), (33, .getstatic 106, 3), (36, .iload_n 1, 1), (37, .iaload, 1), (38, .if_icmp .eq 5, 3), (41, .iconst (-1), 1), (42, .ireturn, 1), (43, .iload_n 1, 1), (44, .bipush 24, 2), (46, .ishl, 1), (47, .iload_n 2, 1), (48, .ior, 1), (49, .istore 4, 2), (51, .iload_n 1, 1)]), (83, [(52, .ifCond .eq 13, 3), (55, .iload_n 1, 1), (56, .iconst 3, 1), (57, .if_icmp .eq 8, 3), (60, .iload_n 1, 1), (61, .iconst 5, 1), (62, .if_icmp .ne 24, 3), (65, .iload 4, 2), (67, .iload_n 3, 1), (68, .invokestatic 109, 3), (71, .invokestatic 71, 3), (74, .iload_n 3, 1), (75, .if_icmp .ne 7, 3), (78, .iconst 1, 1), (79, .goto 13, 3), (82, .iconst 0, 1)]), (106, [(83, .goto 9, 3), (86, .iload 4, 2), (88, .iload_n 3, 1), (89, .invokestatic 112, 3), (92, .istore 5, 2), (94, .iload 5, 2), (96, .ifCond .eq 8, 3), (99, .iload 4, 2), (101, .goto 4, 3), (104, .iconst (-1), 1), (105, .ireturn, 1)])]
def rxm_13 : rx_M := ((⟨"AngleChains", "takeDraft", "(I)I"⟩ : MethodName), prog_1_method_14_code, 6, (some .int), 1, 1, 1, 0, rxt_13)
def rxt_14 : rx_Tb := [(20, [(0, .iconst 0, 1), (1, .istore_n 2, 1), (2, .iconst 0, 1), (3, .istore_n 3, 1), (4, .iload_n 3, 1), (5, .iload_n 1, 1), (6, .if_icmp .ge 19, 3), (9, .iload_n 2, 1), (10, .iconst 1, 1), (11, .iload_n 0, 1), (12, .iload_n 3, 1), (13, .invokestatic 115, 3), (16, .ishl, 1), (17, .ior, 1), (18, .istore_n 2, 1), (19, .iinc 3 1, 3)]), (27, [(22, .goto (-18), 3), (25, .iload_n 2, 1), (26, .ireturn, 1)])]
def rxm_14 : rx_M := ((⟨"AngleChains", "bitsOf", "(II)I"⟩ : MethodName), prog_1_method_18_code, 4, (some .int), 1, 0, 2, 0, rxt_14)
def rxt_15 : rx_Tb := [(9, [(0, .iload_n 0, 1), (1, .iconst 3, 1), (2, .iload_n 1, 1), (3, .imul, 1), (4, .ishr, 1), (5, .bipush 7, 2), (7, .iand, 1), (8, .ireturn, 1)])]
def rxm_15 : rx_M := ((⟨"AngleChains", "at", "(II)I"⟩ : MethodName), prog_1_method_16_code, 2, (some .int), 1, 0, 2, 0, rxt_15)
def rxt_16 : rx_Tb := [(22, [(0, .iload_n 0, 1), (1, .iload_n 0, 1), (2, .iconst 1, 1), (3, .iushr, 1), (4, .ldc_w 265, 3), (7, .iand, 1), (8, .isub, 1), (9, .istore_n 0, 1), (10, .iload_n 0, 1), (11, .ldc_w 266, 3), (14, .iand, 1), (15, .iload_n 0, 1), (16, .iconst 2, 1), (17, .iushr, 1), (18, .ldc_w 266, 3), (21, .iand, 1)]), (41, [(22, .iadd, 1), (23, .istore_n 0, 1), (24, .iload_n 0, 1), (25, .iload_n 0, 1), (26, .iconst 4, 1), (27, .iushr, 1), (28, .iadd, 1), (29, .ldc_w 267, 3), (32, .iand, 1), (33, .istore_n 0, 1), (34, .iload_n 0, 1), (35, .iload_n 0, 1), (36, .bipush 8, 2), (38, .iushr, 1), (39, .iadd, 1), (40, .istore_n 0, 1)]), (53, [(41, .iload_n 0, 1), (42, .iload_n 0, 1), (43, .bipush 16, 2), (45, .iushr, 1), (46, .iadd, 1), (47, .istore_n 0, 1), (48, .iload_n 0, 1), (49, .bipush 63, 2), (51, .iand, 1), (52, .ireturn, 1)])]
def rxm_16 : rx_M := ((⟨"java/lang/Integer", "bitCount", "(I)I"⟩ : MethodName), prog_8_method_49_code, 1, (some .int), 6, 0, 1, 0, rxt_16)
def rxt_17 : rx_Tb := [(22, [(0, .iconst 0, 1), (1, .istore_n 2, 1), (2, .iload_n 2, 1), (3, .iconst 1, 1), (4, .iadd, 1), (5, .iload_n 1, 1), (6, .if_icmp .ge 26, 3), (9, .iload_n 0, 1), (10, .iload_n 2, 1), (11, .invokestatic 115, 3), (14, .iload_n 0, 1), (15, .iload_n 2, 1), (16, .iconst 1, 1), (17, .iadd, 1), (18, .invokestatic 115, 3), (21, .if_icmp .ne 5, 3)]), (34, [(24, .iconst 0, 1), (25, .ireturn, 1), (26, .iinc 2 2, 3), (29, .goto (-27), 3), (32, .iconst 1, 1), (33, .ireturn, 1)])]
def rxm_17 : rx_M := ((⟨"AngleChains", "hasPairsOfTwo", "(II)Z"⟩ : MethodName), prog_1_method_15_code, 3, (some .boolean), 1, 0, 2, 0, rxt_17)
def rxt_18 : rx_Tb := [(25, [(0, .iload_n 1, 1), (1, .iconst 0, 1), (2, .invokestatic 40, 3), (5, .istore_n 2, 1), (6, .iload_n 1, 1), (7, .iconst 1, 1), (8, .invokestatic 40, 3), (11, .istore_n 3, 1), (12, .iload_n 1, 1), (13, .iconst 2, 1), (14, .invokestatic 40, 3), (17, .istore 4, 2), (19, .iload_n 1, 1), (20, .iconst 3, 1), (21, .invokestatic 40, 3), (24, .istore 5, 2)]), (92, [(26, .iload_n 1, 1), (27, .invokestatic 44, 3), (30, .tableswitch 130 0 6 #[42, 51, 72, 93, 104, 115, 124], 42), (72, .aload_n 0, 1), (73, .iload_n 2, 1), (74, .iload_n 3, 1), (75, .iload 4, 2), (77, .invokevirtual 37, 3), (80, .ireturn, 1), (81, .aload_n 0, 1), (82, .iload_n 2, 1), (83, .iload_n 3, 1), (84, .iload 4, 2), (86, .iload 5, 2), (88, .invokevirtual 26, 3), (91, .lconst 0, 1)]), (118, [(92, .lcmp, 1), (93, .ifCond .ne 7, 3), (96, .iconst 1, 1), (97, .goto 4, 3), (100, .iconst 0, 1), (101, .ireturn, 1), (102, .aload_n 0, 1), (103, .iload_n 2, 1), (104, .iload_n 3, 1), (105, .iload 4, 2), (107, .iload 5, 2), (109, .invokevirtual 30, 3), (112, .lconst 0, 1), (113, .lcmp, 1), (114, .ifCond .ne 7, 3), (117, .iconst 1, 1)]), (142, [(118, .goto 4, 3), (121, .iconst 0, 1), (122, .ireturn, 1), (123, .aload_n 0, 1), (124, .iload_n 2, 1), (125, .iload_n 3, 1), (126, .iload 4, 2), (128, .iload 5, 2), (130, .invokevirtual 48, 3), (133, .ireturn, 1), (134, .aload_n 0, 1), (135, .iload_n 2, 1), (136, .iload_n 3, 1), (137, .iload 4, 2), (139, .iload 5, 2), (141, .invokevirtual 52, 3)]), (162, [(144, .ireturn, 1), (145, .aload_n 0, 1), (146, .iload_n 2, 1), (147, .iload_n 3, 1), (148, .iload 4, 2), (150, .invokevirtual 33, 3), (153, .ireturn, 1), (154, .aload_n 0, 1), (155, .iload_n 1, 1), (156, .invokevirtual 55, 3), (159, .ireturn, 1), (160, .iconst 0, 1), (161, .ireturn, 1)])]
def rxm_18 : rx_M := ((⟨"AngleChains$Figure", "holds", "(I)Z"⟩ : MethodName), prog_4_method_15_code, 6, (some .boolean), 2, 1, 1, 1, rxt_18)
def rxt_19 : rx_Tb := [(5, [(0, .iload_n 0, 1), (1, .bipush 24, 2), (3, .ishr, 1), (4, .ireturn, 1)])]
def rxm_19 : rx_M := ((⟨"AngleChains", "kindOf", "(I)I"⟩ : MethodName), prog_1_method_17_code, 1, (some .int), 1, 0, 1, 0, rxt_19)
def rxt_20 : rx_Tb := [(19, [(0, .aload_n 0, 1), (1, .iload_n 1, 1), (2, .iload_n 2, 1), (3, .iload_n 1, 1), (4, .iload_n 3, 1), (5, .invokevirtual 26, 3), (8, .lconst 0, 1), (9, .lcmp, 1), (10, .ifCond .ne 7, 3), (13, .iconst 1, 1), (14, .goto 4, 3), (17, .iconst 0, 1), (18, .ireturn, 1)])]
def rxm_20 : rx_M := ((⟨"AngleChains$Figure", "areCollinear", "(III)Z"⟩ : MethodName), prog_4_method_8_code, 4, (some .boolean), 2, 1, 3, 1, rxt_20)
def rxt_21 : rx_Tb := [(23, [(0, .aload_n 0, 1), (1, .getfield 9, 3), (4, .iload_n 2, 1), (5, .iaload, 1), (6, .aload_n 0, 1), (7, .getfield 9, 3), (10, .iload_n 1, 1), (11, .iaload, 1), (12, .isub, 1), (13, .i2l, 1), (14, .aload_n 0, 1), (15, .getfield 15, 3), (18, .iload 4, 2), (20, .iaload, 1), (21, .aload_n 0, 1), (22, .getfield 15, 3)]), (45, [(25, .iload_n 3, 1), (26, .iaload, 1), (27, .isub, 1), (28, .i2l, 1), (29, .lmul, 1), (30, .aload_n 0, 1), (31, .getfield 15, 3), (34, .iload_n 2, 1), (35, .iaload, 1), (36, .aload_n 0, 1), (37, .getfield 15, 3), (40, .iload_n 1, 1), (41, .iaload, 1), (42, .isub, 1), (43, .i2l, 1), (44, .aload_n 0, 1)]), (62, [(45, .getfield 9, 3), (48, .iload 4, 2), (50, .iaload, 1), (51, .aload_n 0, 1), (52, .getfield 9, 3), (55, .iload_n 3, 1), (56, .iaload, 1), (57, .isub, 1), (58, .i2l, 1), (59, .lmul, 1), (60, .lsub, 1), (61, .lreturn, 1)])]
def rxm_21 : rx_M := ((⟨"AngleChains$Figure", "cross", "(IIII)J"⟩ : MethodName), prog_4_method_6_code, 5, (some .long), 2, 1, 4, 1, rxt_21)
def rxt_22 : rx_Tb := [(23, [(0, .aload_n 0, 1), (1, .getfield 9, 3), (4, .iload_n 2, 1), (5, .iaload, 1), (6, .aload_n 0, 1), (7, .getfield 9, 3), (10, .iload_n 1, 1), (11, .iaload, 1), (12, .isub, 1), (13, .i2l, 1), (14, .aload_n 0, 1), (15, .getfield 9, 3), (18, .iload 4, 2), (20, .iaload, 1), (21, .aload_n 0, 1), (22, .getfield 9, 3)]), (45, [(25, .iload_n 3, 1), (26, .iaload, 1), (27, .isub, 1), (28, .i2l, 1), (29, .lmul, 1), (30, .aload_n 0, 1), (31, .getfield 15, 3), (34, .iload_n 2, 1), (35, .iaload, 1), (36, .aload_n 0, 1), (37, .getfield 15, 3), (40, .iload_n 1, 1), (41, .iaload, 1), (42, .isub, 1), (43, .i2l, 1), (44, .aload_n 0, 1)]), (62, [(45, .getfield 15, 3), (48, .iload 4, 2), (50, .iaload, 1), (51, .aload_n 0, 1), (52, .getfield 15, 3), (55, .iload_n 3, 1), (56, .iaload, 1), (57, .isub, 1), (58, .i2l, 1), (59, .lmul, 1), (60, .ladd, 1), (61, .lreturn, 1)])]
def rxm_22 : rx_M := ((⟨"AngleChains$Figure", "dot", "(IIII)J"⟩ : MethodName), prog_4_method_7_code, 5, (some .long), 2, 1, 4, 1, rxt_22)
def rxt_23 : rx_Tb := [(25, [(0, .aload_n 0, 1), (1, .iload 4, 2), (3, .iload_n 1, 1), (4, .iload 4, 2), (6, .iload_n 1, 1), (7, .invokevirtual 30, 3), (10, .aload_n 0, 1), (11, .iload 4, 2), (13, .iload_n 2, 1), (14, .iload 4, 2), (16, .iload_n 3, 1), (17, .invokevirtual 26, 3), (20, .lmul, 1), (21, .aload_n 0, 1), (22, .iload 4, 2), (24, .iload_n 2, 1)]), (50, [(25, .iload 4, 2), (27, .iload_n 2, 1), (28, .invokevirtual 30, 3), (31, .aload_n 0, 1), (32, .iload 4, 2), (34, .iload_n 1, 1), (35, .iload 4, 2), (37, .iload_n 3, 1), (38, .invokevirtual 26, 3), (41, .lmul, 1), (42, .lsub, 1), (43, .aload_n 0, 1), (44, .iload 4, 2), (46, .iload_n 3, 1), (47, .iload 4, 2), (49, .iload_n 3, 1)]), (76, [(50, .invokevirtual 30, 3), (53, .aload_n 0, 1), (54, .iload 4, 2), (56, .iload_n 1, 1), (57, .iload 4, 2), (59, .iload_n 2, 1), (60, .invokevirtual 26, 3), (63, .lmul, 1), (64, .ladd, 1), (65, .lstore 5, 2), (67, .lload 5, 2), (69, .lconst 0, 1), (70, .lcmp, 1), (71, .ifCond .ne 17, 3), (74, .aload_n 0, 1), (75, .iload_n 1, 1)]), (90, [(76, .iload_n 2, 1), (77, .iload_n 3, 1), (78, .invokevirtual 37, 3), (81, .ifCond .ne 7, 3), (84, .iconst 1, 1), (85, .goto 4, 3), (88, .iconst 0, 1), (89, .ireturn, 1)])]
def rxm_23 : rx_M := ((⟨"AngleChains$Figure", "areOnCircle", "(IIII)Z"⟩ : MethodName), prog_4_method_12_code, 7, (some .boolean), 2, 1, 4, 1, rxt_23)
def rxt_24 : rx_Tb := [(24, [(0, .aload_n 0, 1), (1, .iload_n 1, 1), (2, .iload_n 2, 1), (3, .iload_n 1, 1), (4, .iload_n 2, 1), (5, .invokevirtual 30, 3), (8, .aload_n 0, 1), (9, .iload_n 3, 1), (10, .iload 4, 2), (12, .iload_n 3, 1), (13, .iload 4, 2), (15, .invokevirtual 30, 3), (18, .lcmp, 1), (19, .ifCond .ne 7, 3), (22, .iconst 1, 1), (23, .goto 4, 3)]), (28, [(26, .iconst 0, 1), (27, .ireturn, 1)])]
def rxm_24 : rx_M := ((⟨"AngleChains$Figure", "areEqual", "(IIII)Z"⟩ : MethodName), prog_4_method_9_code, 5, (some .boolean), 2, 1, 4, 1, rxt_24)
def rxt_25 : rx_Tb := [(22, [(0, .iconst 2, 1), (1, .aload_n 0, 1), (2, .getfield 9, 3), (5, .iload_n 1, 1), (6, .iaload, 1), (7, .imul, 1), (8, .aload_n 0, 1), (9, .getfield 9, 3), (12, .iload_n 2, 1), (13, .iaload, 1), (14, .aload_n 0, 1), (15, .getfield 9, 3), (18, .iload_n 3, 1), (19, .iaload, 1), (20, .iadd, 1), (21, .if_icmp .ne 31, 3)]), (46, [(24, .iconst 2, 1), (25, .aload_n 0, 1), (26, .getfield 15, 3), (29, .iload_n 1, 1), (30, .iaload, 1), (31, .imul, 1), (32, .aload_n 0, 1), (33, .getfield 15, 3), (36, .iload_n 2, 1), (37, .iaload, 1), (38, .aload_n 0, 1), (39, .getfield 15, 3), (42, .iload_n 3, 1), (43, .iaload, 1), (44, .iadd, 1), (45, .if_icmp .ne 7, 3)]), (54, [(48, .iconst 1, 1), (49, .goto 4, 3), (52, .iconst 0, 1), (53, .ireturn, 1)])]
def rxm_25 : rx_M := ((⟨"AngleChains$Figure", "isMiddle", "(III)Z"⟩ : MethodName), prog_4_method_10_code, 4, (some .boolean), 2, 1, 3, 1, rxt_25)
def rxt_26 : rx_Tb := [(25, [(0, .iload_n 1, 1), (1, .iconst 0, 1), (2, .invokestatic 40, 3), (5, .istore_n 2, 1), (6, .iload_n 1, 1), (7, .iconst 1, 1), (8, .invokestatic 40, 3), (11, .istore_n 3, 1), (12, .iload_n 1, 1), (13, .iconst 2, 1), (14, .invokestatic 40, 3), (17, .istore 4, 2), (19, .iload_n 1, 1), (20, .iconst 3, 1), (21, .invokestatic 40, 3), (24, .istore 5, 2)]), (55, [(26, .iload_n 1, 1), (27, .iconst 4, 1), (28, .invokestatic 40, 3), (31, .istore 6, 2), (33, .iload_n 1, 1), (34, .iconst 5, 1), (35, .invokestatic 40, 3), (38, .istore 7, 2), (40, .iload_n 1, 1), (41, .bipush 6, 2), (43, .invokestatic 40, 3), (46, .istore 8, 2), (48, .iload_n 1, 1), (49, .bipush 7, 2), (51, .invokestatic 40, 3), (54, .istore 9, 2)]), (82, [(56, .aload_n 0, 1), (57, .iload_n 2, 1), (58, .iload_n 3, 1), (59, .iload 4, 2), (61, .iload 5, 2), (63, .invokevirtual 30, 3), (66, .aload_n 0, 1), (67, .iload 6, 2), (69, .iload 7, 2), (71, .iload 8, 2), (73, .iload 9, 2), (75, .invokevirtual 26, 3), (78, .lmul, 1), (79, .aload_n 0, 1), (80, .iload_n 2, 1), (81, .iload_n 3, 1)]), (112, [(82, .iload 4, 2), (84, .iload 5, 2), (86, .invokevirtual 26, 3), (89, .aload_n 0, 1), (90, .iload 6, 2), (92, .iload 7, 2), (94, .iload 8, 2), (96, .iload 9, 2), (98, .invokevirtual 30, 3), (101, .lmul, 1), (102, .lcmp, 1), (103, .ifCond .ne 7, 3), (106, .iconst 1, 1), (107, .goto 4, 3), (110, .iconst 0, 1), (111, .ireturn, 1)])]
def rxm_26 : rx_M := ((⟨"AngleChains$Figure", "hasLikeTurns", "(I)Z"⟩ : MethodName), prog_4_method_14_code, 10, (some .boolean), 2, 1, 1, 1, rxt_26)
def rxt_27 : rx_Tb := [(27, [(0, .aload_n 0, 1), (1, .iload_n 1, 1), (2, .invokevirtual 51, 3), (5, .istore_n 2, 1), (6, .iload_n 2, 1), (7, .iconst (-1), 1), (8, .if_icmp .eq 12, 3), (11, .aload_n 0, 1), (12, .getfield 29, 3), (15, .bipush 30, 2), (17, .if_icmp .lt 5, 3), (20, .iconst (-1), 1), (21, .ireturn, 1), (22, .aload_n 0, 1), (23, .getfield 10, 3), (26, .iload_n 2, 1)]), (54, [(27, .invokevirtual 55, 3), (30, .ifCond .ne 6, 3), (33, .bipush (-2), 2), (35, .ireturn, 1), (36, .aload_n 0, 1), (37, .getfield 29, 3), (40, .istore_n 3, 1), (41, .aload_n 0, 1), (42, .getfield 16, 3), (45, .iload_n 3, 1), (46, .iload_n 2, 1), (47, .iastore, 1), (48, .aload_n 0, 1), (49, .dup, 1), (50, .getfield 58, 3), (53, .iconst 1, 1)]), (72, [(54, .iload_n 3, 1), (55, .ishl, 1), (56, .ior, 1), (57, .putfield 58, 3), (60, .aload_n 0, 1), (61, .dup, 1), (62, .getfield 29, 3), (65, .iconst 1, 1), (66, .iadd, 1), (67, .putfield 29, 3), (70, .iload_n 3, 1), (71, .ireturn, 1)])]
def rxm_27 : rx_M := ((⟨"AngleChains", "fact", "(I)I"⟩ : MethodName), prog_1_method_5_code, 4, (some .int), 1, 1, 1, 0, rxt_27)
def rxt_28 : rx_Tb := [(24, [(0, .iload_n 1, 1), (1, .ifCond .lt 11, 3), (4, .iload_n 1, 1), (5, .aload_n 0, 1), (6, .getfield 29, 3), (9, .if_icmp .lt 5, 3), (12, .iconst 0, 1), (13, .ireturn, 1), (14, .iconst 1, 1), (15, .iload_n 1, 1), (16, .ishl, 1), (17, .istore_n 3, 1), (18, .aload_n 0, 1), (19, .iload_n 2, 1), (20, .ifCond .eq 12, 3), (23, .aload_n 0, 1)]), (45, [(24, .getfield 58, 3), (27, .iload_n 3, 1), (28, .ior, 1), (29, .goto 11, 3), (32, .aload_n 0, 1), (33, .getfield 58, 3), (36, .iload_n 3, 1), (37, .iconst (-1), 1), (38, .ixor, 1), (39, .iand, 1), (40, .putfield 58, 3), (43, .iconst 1, 1), (44, .ireturn, 1)])]
def rxm_28 : rx_M := ((⟨"AngleChains", "turn", "(IZ)Z"⟩ : MethodName), prog_1_method_6_code, 4, (some .boolean), 1, 1, 2, 0, rxt_28)
def rxt_29 : rx_Tb := [(27, [(0, .aload_n 0, 1), (1, .iload_n 1, 1), (2, .invokevirtual 51, 3), (5, .istore_n 2, 1), (6, .iload_n 2, 1), (7, .iconst (-1), 1), (8, .if_icmp .ne 5, 3), (11, .iconst (-1), 1), (12, .ireturn, 1), (13, .aload_n 0, 1), (14, .getfield 10, 3), (17, .iload_n 2, 1), (18, .invokevirtual 55, 3), (21, .ifCond .ne 6, 3), (24, .bipush (-2), 2), (26, .ireturn, 1)]), (55, [(27, .aload_n 0, 1), (28, .getfield 25, 3), (31, .aload_n 0, 1), (32, .getfield 58, 3), (35, .invokevirtual 61, 3), (38, .aload_n 0, 1), (39, .getfield 25, 3), (42, .iload_n 2, 1), (43, .invokevirtual 65, 3), (46, .ifCond .eq 7, 3), (49, .iconst 1, 1), (50, .goto 4, 3), (53, .iconst 0, 1), (54, .ireturn, 1)])]
def rxm_29 : rx_M := ((⟨"AngleChains", "follows", "(I)I"⟩ : MethodName), prog_1_method_7_code, 3, (some .int), 1, 1, 1, 0, rxt_29)
def rxt_30 : rx_Tb := [(34, [(0, .aload_n 0, 1), (1, .getfield 36, 3), (4, .aload_n 0, 1), (5, .getfield 40, 3), (8, .getfield 54, 3), (11, .if_icmp .eq 17, 3), (14, .aload_n 0, 1), (15, .getfield 50, 3), (18, .invokevirtual 59, 3), (21, .aload_n 0, 1), (22, .invokevirtual 62, 3), (25, .goto 18, 3), (28, .aload_n 0, 1), (29, .getfield 65, 3), (32, .iload_n 1, 1), (33, .iconst (-1), 1)]), (59, [(34, .ixor, 1), (35, .iand, 1), (36, .ifCond .eq 7, 3), (39, .aload_n 0, 1), (40, .invokevirtual 62, 3), (43, .iconst 0, 1), (44, .istore_n 2, 1), (45, .iload_n 2, 1), (46, .bipush 30, 2), (48, .if_icmp .ge 34, 3), (51, .iload_n 1, 1), (52, .aload_n 0, 1), (53, .getfield 65, 3), (56, .iconst (-1), 1), (57, .ixor, 1), (58, .iand, 1)]), (85, [(59, .iload_n 2, 1), (60, .ishr, 1), (61, .iconst 1, 1), (62, .iand, 1), (63, .ifCond .eq 13, 3), (66, .aload_n 0, 1), (67, .aload_n 0, 1), (68, .getfield 44, 3), (71, .iload_n 2, 1), (72, .iaload, 1), (73, .invokevirtual 68, 3), (76, .iinc 2 1, 3), (79, .goto (-34), 3), (82, .aload_n 0, 1), (83, .iload_n 1, 1), (84, .putfield 65, 3)]), (119, [(87, .iconst 0, 1), (88, .istore_n 2, 1), (89, .iload_n 2, 1), (90, .sipush 679, 3), (93, .if_icmp .gt 94, 3), (96, .aload_n 0, 1), (97, .getfield 72, 3), (100, .ifCond .ne 13, 3), (103, .aload_n 0, 1), (104, .getfield 12, 3), (107, .getfield 76, 3), (110, .ifCond .eq 77, 3), (113, .aload_n 0, 1), (114, .iconst 0, 1), (115, .putfield 72, 3), (118, .aload_n 0, 1)]), (148, [(119, .getfield 12, 3), (122, .iconst 0, 1), (123, .putfield 76, 3), (126, .iconst 0, 1), (127, .istore_n 3, 1), (128, .iconst 0, 1), (129, .istore 4, 2), (131, .iload 4, 2), (133, .aload_n 0, 1), (134, .getfield 79, 3), (137, .if_icmp .ge 39, 3), (140, .aload_n 0, 1), (141, .aload_n 0, 1), (142, .getfield 33, 3), (145, .iload 4, 2), (147, .iaload, 1)]), (179, [(148, .invokevirtual 82, 3), (151, .ifCond .ne 19, 3), (154, .aload_n 0, 1), (155, .getfield 33, 3), (158, .iload_n 3, 1), (159, .aload_n 0, 1), (160, .getfield 33, 3), (163, .iload 4, 2), (165, .iaload, 1), (166, .iastore, 1), (167, .iinc 3 1, 3), (170, .iinc 4 1, 3), (173, .goto (-42), 3), (176, .aload_n 0, 1), (177, .iload_n 3, 1), (178, .putfield 79, 3)]), (188, [(181, .iinc 2 1, 3), (184, .goto (-95), 3), (187, .return_, 1)])]
def rxm_30 : rx_M := ((⟨"AngleChains$Deduction", "close", "(I)V"⟩ : MethodName), prog_3_method_2_code, 5, none, 3, 1, 1, 2, rxt_30)
def rxt_31 : rx_Tb := [(24, [(0, .aload_n 0, 1), (1, .iconst 0, 1), (2, .putfield 19, 3), (5, .aload_n 0, 1), (6, .getfield 15, 3), (9, .getfield 23, 3), (12, .istore_n 1, 1), (13, .iconst 0, 1), (14, .istore_n 2, 1), (15, .iload_n 2, 1), (16, .iload_n 1, 1), (17, .if_icmp .ge 83, 3), (20, .iload_n 2, 1), (21, .iconst 1, 1), (22, .iadd, 1), (23, .istore_n 3, 1)]), (48, [(24, .iload_n 3, 1), (25, .iload_n 1, 1), (26, .if_icmp .ge 68, 3), (29, .aload_n 0, 1), (30, .iload_n 2, 1), (31, .iload_n 3, 1), (32, .invokevirtual 28, 3), (35, .iload_n 3, 1), (36, .iconst 1, 1), (37, .iadd, 1), (38, .istore 4, 2), (40, .iload 4, 2), (42, .iload_n 1, 1), (43, .if_icmp .ge 45, 3), (46, .aload_n 0, 1), (47, .iload_n 2, 1)]), (74, [(48, .iload_n 3, 1), (49, .iload 4, 2), (51, .invokevirtual 32, 3), (54, .iload 4, 2), (56, .iconst 1, 1), (57, .iadd, 1), (58, .istore 5, 2), (60, .iload 5, 2), (62, .iload_n 1, 1), (63, .if_icmp .ge 19, 3), (66, .aload_n 0, 1), (67, .iload_n 2, 1), (68, .iload_n 3, 1), (69, .iload 4, 2), (71, .iload 5, 2), (73, .invokevirtual 36, 3)]), (101, [(76, .iinc 5 1, 3), (79, .goto (-19), 3), (82, .iinc 4 1, 3), (85, .goto (-45), 3), (88, .iinc 3 1, 3), (91, .goto (-67), 3), (94, .iinc 2 1, 3), (97, .goto (-82), 3), (100, .return_, 1)])]
def rxm_31 : rx_M := ((⟨"AngleChains$Cases", "find", "()V"⟩ : MethodName), prog_2_method_2_code, 6, none, 5, 1, 0, 4, rxt_31)
def rxt_32 : rx_Tb := [(28, [(0, .iconst 0, 1), (1, .istore_n 3, 1), (2, .iload_n 3, 1), (3, .aload_n 0, 1), (4, .getfield 15, 3), (7, .getfield 23, 3), (10, .if_icmp .ge 73, 3), (13, .aload_n 0, 1), (14, .getfield 15, 3), (17, .iload_n 3, 1), (18, .iload_n 1, 1), (19, .iload_n 3, 1), (20, .iload_n 2, 1), (21, .invokevirtual 51, 3), (24, .ifCond .eq 53, 3), (27, .iload_n 3, 1)]), (58, [(28, .iconst 1, 1), (29, .iadd, 1), (30, .istore 4, 2), (32, .iload 4, 2), (34, .aload_n 0, 1), (35, .getfield 15, 3), (38, .getfield 23, 3), (41, .if_icmp .ge 36, 3), (44, .aload_n 0, 1), (45, .getfield 15, 3), (48, .iload 4, 2), (50, .iload_n 1, 1), (51, .iload 4, 2), (53, .iload_n 2, 1), (54, .invokevirtual 51, 3), (57, .ifCond .eq 14, 3)]), (84, [(60, .aload_n 0, 1), (61, .iconst 5, 1), (62, .iload_n 3, 1), (63, .iload 4, 2), (65, .iload_n 1, 1), (66, .iload_n 2, 1), (67, .iconst 0, 1), (68, .invokevirtual 44, 3), (71, .iinc 4 1, 3), (74, .goto (-42), 3), (77, .iinc 3 1, 3), (80, .goto (-78), 3), (83, .return_, 1)])]
def rxm_32 : rx_M := ((⟨"AngleChains$Cases", "findBisectors", "(II)V"⟩ : MethodName), prog_2_method_9_code, 5, none, 5, 1, 2, 4, rxt_32)
def rxt_33 : rx_Tb := [(29, [(0, .aload_n 0, 1), (1, .getfield 19, 3), (4, .sipush 679, 3), (7, .if_icmp .ge 50, 3), (10, .aload_n 0, 1), (11, .getfield 11, 3), (14, .aload_n 0, 1), (15, .getfield 19, 3), (18, .iload_n 1, 1), (19, .bipush 24, 2), (21, .ishl, 1), (22, .iload 6, 2), (24, .bipush 12, 2), (26, .ishl, 1), (27, .ior, 1), (28, .iload 5, 2)]), (49, [(30, .bipush 9, 2), (32, .ishl, 1), (33, .ior, 1), (34, .iload 4, 2), (36, .bipush 6, 2), (38, .ishl, 1), (39, .ior, 1), (40, .iload_n 3, 1), (41, .iconst 3, 1), (42, .ishl, 1), (43, .ior, 1), (44, .iload_n 2, 1), (45, .ior, 1), (46, .iastore, 1), (47, .aload_n 0, 1), (48, .dup, 1)]), (58, [(49, .getfield 19, 3), (52, .iconst 1, 1), (53, .iadd, 1), (54, .putfield 19, 3), (57, .return_, 1)])]
def rxm_33 : rx_M := ((⟨"AngleChains$Cases", "add", "(IIIIII)V"⟩ : MethodName), prog_2_method_3_code, 7, none, 5, 1, 6, 4, rxt_33)
def rxt_34 : rx_Tb := [(24, [(0, .aload_n 0, 1), (1, .getfield 15, 3), (4, .iload_n 1, 1), (5, .iload_n 2, 1), (6, .iload_n 3, 1), (7, .invokevirtual 40, 3), (10, .ifCond .eq 16, 3), (13, .aload_n 0, 1), (14, .iconst 0, 1), (15, .iload_n 1, 1), (16, .iload_n 2, 1), (17, .iload_n 3, 1), (18, .iconst 0, 1), (19, .iconst 0, 1), (20, .invokevirtual 44, 3), (23, .goto 24, 3)]), (48, [(26, .aload_n 0, 1), (27, .iload_n 1, 1), (28, .iload_n 2, 1), (29, .iload_n 3, 1), (30, .invokevirtual 48, 3), (33, .aload_n 0, 1), (34, .iload_n 2, 1), (35, .iload_n 1, 1), (36, .iload_n 3, 1), (37, .invokevirtual 48, 3), (40, .aload_n 0, 1), (41, .iload_n 3, 1), (42, .iload_n 1, 1), (43, .iload_n 2, 1), (44, .invokevirtual 48, 3), (47, .return_, 1)])]
def rxm_34 : rx_M := ((⟨"AngleChains$Cases", "findOfThree", "(III)V"⟩ : MethodName), prog_2_method_4_code, 4, none, 5, 1, 3, 4, rxt_34)
def rxt_35 : rx_Tb := [(22, [(0, .aload_n 0, 1), (1, .getfield 15, 3), (4, .iload_n 1, 1), (5, .iload_n 2, 1), (6, .iload_n 1, 1), (7, .iload_n 3, 1), (8, .invokevirtual 51, 3), (11, .ifCond .eq 13, 3), (14, .aload_n 0, 1), (15, .iconst 2, 1), (16, .iload_n 1, 1), (17, .iload_n 2, 1), (18, .iload_n 3, 1), (19, .iconst 0, 1), (20, .iconst 0, 1), (21, .invokevirtual 44, 3)]), (52, [(24, .aload_n 0, 1), (25, .getfield 15, 3), (28, .iload_n 2, 1), (29, .iload_n 3, 1), (30, .invokevirtual 55, 3), (33, .istore 4, 2), (35, .iload 4, 2), (37, .iconst (-1), 1), (38, .if_icmp .eq 30, 3), (41, .aload_n 0, 1), (42, .getfield 15, 3), (45, .iload 4, 2), (47, .iload_n 2, 1), (48, .iload 4, 2), (50, .iload_n 1, 1), (51, .invokevirtual 51, 3)]), (80, [(54, .ifCond .eq 14, 3), (57, .aload_n 0, 1), (58, .iconst 3, 1), (59, .iload 4, 2), (61, .iload_n 2, 1), (62, .iload_n 3, 1), (63, .iload_n 1, 1), (64, .iconst 0, 1), (65, .invokevirtual 44, 3), (68, .aload_n 0, 1), (69, .getfield 15, 3), (72, .iload_n 1, 1), (73, .iload_n 2, 1), (74, .invokevirtual 55, 3), (77, .istore 5, 2), (79, .aload_n 0, 1)]), (108, [(80, .getfield 15, 3), (83, .iload_n 1, 1), (84, .iload_n 3, 1), (85, .invokevirtual 55, 3), (88, .istore 6, 2), (90, .iload 5, 2), (92, .iconst (-1), 1), (93, .if_icmp .eq 22, 3), (96, .iload 6, 2), (98, .iconst (-1), 1), (99, .if_icmp .eq 16, 3), (102, .aload_n 0, 1), (103, .bipush 6, 2), (105, .iload_n 1, 1), (106, .iload_n 2, 1), (107, .iload_n 3, 1)]), (116, [(108, .iload 5, 2), (110, .iload 6, 2), (112, .invokevirtual 44, 3), (115, .return_, 1)])]
def rxm_35 : rx_M := ((⟨"AngleChains$Cases", "findAtCorner", "(III)V"⟩ : MethodName), prog_2_method_5_code, 7, none, 5, 1, 3, 4, rxt_35)
def rxt_36 : rx_Tb := [(26, [(0, .iconst 0, 1), (1, .istore_n 3, 1), (2, .iload_n 3, 1), (3, .aload_n 0, 1), (4, .getfield 18, 3), (7, .if_icmp .ge 21, 3), (10, .aload_n 0, 1), (11, .iload_n 3, 1), (12, .iload_n 1, 1), (13, .iload_n 2, 1), (14, .invokevirtual 33, 3), (17, .ifCond .eq 5, 3), (20, .iload_n 3, 1), (21, .ireturn, 1), (22, .iinc 3 1, 3), (25, .goto (-23), 3)]), (30, [(28, .iconst (-1), 1), (29, .ireturn, 1)])]
def rxm_36 : rx_M := ((⟨"AngleChains$Figure", "middleOf", "(II)I"⟩ : MethodName), prog_4_method_11_code, 4, (some .int), 2, 1, 2, 1, rxt_36)
def rxt_37 : rx_Tb := [(24, [(0, .aload_n 0, 1), (1, .getfield 15, 3), (4, .iload_n 1, 1), (5, .iload_n 2, 1), (6, .iload_n 3, 1), (7, .iload 4, 2), (9, .invokevirtual 59, 3), (12, .ifCond .eq 23, 3), (15, .aload_n 0, 1), (16, .iconst 1, 1), (17, .iload_n 1, 1), (18, .iload_n 2, 1), (19, .iload_n 3, 1), (20, .iload 4, 2), (22, .iconst 0, 1), (23, .invokevirtual 44, 3)]), (48, [(26, .aload_n 0, 1), (27, .iload_n 1, 1), (28, .iload_n 2, 1), (29, .iload_n 3, 1), (30, .iload 4, 2), (32, .invokevirtual 62, 3), (35, .aload_n 0, 1), (36, .iload_n 1, 1), (37, .iload_n 2, 1), (38, .iload_n 3, 1), (39, .iload 4, 2), (41, .invokevirtual 65, 3), (44, .aload_n 0, 1), (45, .iload_n 1, 1), (46, .iload_n 2, 1), (47, .iload 4, 2)]), (63, [(49, .iload_n 3, 1), (50, .invokevirtual 65, 3), (53, .aload_n 0, 1), (54, .iload_n 1, 1), (55, .iload_n 3, 1), (56, .iload 4, 2), (58, .iload_n 2, 1), (59, .invokevirtual 65, 3), (62, .return_, 1)])]
def rxm_37 : rx_M := ((⟨"AngleChains$Cases", "findOfFour", "(IIII)V"⟩ : MethodName), prog_2_method_6_code, 5, none, 5, 1, 4, 4, rxt_37)
def rxt_38 : rx_Tb := [(32, [(0, .iconst 0, 1), (1, .istore 5, 2), (3, .iload 5, 2), (5, .aload_n 0, 1), (6, .getfield 15, 3), (9, .getfield 23, 3), (12, .if_icmp .ge 53, 3), (15, .aload_n 0, 1), (16, .getfield 15, 3), (19, .iload 5, 2), (21, .iload_n 1, 1), (22, .iload 5, 2), (24, .iload_n 2, 1), (25, .invokevirtual 51, 3), (28, .ifCond .eq 31, 3), (31, .aload_n 0, 1)]), (60, [(32, .getfield 15, 3), (35, .iload 5, 2), (37, .iload_n 1, 1), (38, .iload 5, 2), (40, .iload_n 3, 1), (41, .invokevirtual 51, 3), (44, .ifCond .eq 15, 3), (47, .aload_n 0, 1), (48, .iconst 4, 1), (49, .iload 5, 2), (51, .iload_n 1, 1), (52, .iload_n 2, 1), (53, .iload_n 3, 1), (54, .iload 4, 2), (56, .invokevirtual 44, 3), (59, .iinc 5 1, 3)]), (66, [(62, .goto (-59), 3), (65, .return_, 1)])]
def rxm_38 : rx_M := ((⟨"AngleChains$Cases", "findCentre", "(IIII)V"⟩ : MethodName), prog_2_method_7_code, 6, none, 5, 1, 4, 4, rxt_38)
def rxt_39 : rx_Tb := [(25, [(0, .aload_n 0, 1), (1, .getfield 15, 3), (4, .iload_n 1, 1), (5, .iload_n 2, 1), (6, .iload_n 3, 1), (7, .iload 4, 2), (9, .invokevirtual 68, 3), (12, .ifCond .eq 15, 3), (15, .aload_n 0, 1), (16, .bipush 7, 2), (18, .iload_n 1, 1), (19, .iload_n 2, 1), (20, .iload_n 3, 1), (21, .iload 4, 2), (23, .iconst 0, 1), (24, .invokevirtual 44, 3)]), (28, [(27, .return_, 1)])]
def rxm_39 : rx_M := ((⟨"AngleChains$Cases", "findParallelogram", "(IIII)V"⟩ : MethodName), prog_2_method_8_code, 5, none, 5, 1, 4, 4, rxt_39)
def rxt_40 : rx_Tb := [(25, [(0, .aload_n 0, 1), (1, .getfield 9, 3), (4, .iload_n 1, 1), (5, .iaload, 1), (6, .aload_n 0, 1), (7, .getfield 9, 3), (10, .iload 4, 2), (12, .iaload, 1), (13, .iadd, 1), (14, .aload_n 0, 1), (15, .getfield 9, 3), (18, .iload_n 2, 1), (19, .iaload, 1), (20, .aload_n 0, 1), (21, .getfield 9, 3), (24, .iload_n 3, 1)]), (50, [(25, .iaload, 1), (26, .iadd, 1), (27, .if_icmp .ne 47, 3), (30, .aload_n 0, 1), (31, .getfield 15, 3), (34, .iload_n 1, 1), (35, .iaload, 1), (36, .aload_n 0, 1), (37, .getfield 15, 3), (40, .iload 4, 2), (42, .iaload, 1), (43, .iadd, 1), (44, .aload_n 0, 1), (45, .getfield 15, 3), (48, .iload_n 2, 1), (49, .iaload, 1)]), (76, [(50, .aload_n 0, 1), (51, .getfield 15, 3), (54, .iload_n 3, 1), (55, .iaload, 1), (56, .iadd, 1), (57, .if_icmp .ne 17, 3), (60, .aload_n 0, 1), (61, .iload_n 1, 1), (62, .iload_n 2, 1), (63, .iload_n 3, 1), (64, .invokevirtual 37, 3), (67, .ifCond .ne 7, 3), (70, .iconst 1, 1), (71, .goto 4, 3), (74, .iconst 0, 1), (75, .ireturn, 1)])]
def rxm_40 : rx_M := ((⟨"AngleChains$Figure", "isParallelogram", "(IIII)Z"⟩ : MethodName), prog_4_method_13_code, 5, (some .boolean), 2, 1, 4, 1, rxt_40)
def rxt_41 : rx_Tb := [(29, [(0, .aload_n 0, 1), (1, .aload_n 0, 1), (2, .getfield 40, 3), (5, .getfield 54, 3), (8, .putfield 36, 3), (11, .aload_n 0, 1), (12, .iconst 0, 1), (13, .putfield 65, 3), (16, .aload_n 0, 1), (17, .getfield 12, 3), (20, .invokevirtual 86, 3), (23, .iconst 0, 1), (24, .istore_n 1, 1), (25, .iload_n 1, 1), (26, .bipush 21, 2), (28, .if_icmp .ge 34, 3)]), (55, [(31, .aload_n 0, 1), (32, .getfield 18, 3), (35, .iload_n 1, 1), (36, .getstatic 89, 3), (39, .iload_n 1, 1), (40, .iaload, 1), (41, .iastore, 1), (42, .aload_n 0, 1), (43, .getfield 22, 3), (46, .iload_n 1, 1), (47, .iload_n 1, 1), (48, .iastore, 1), (49, .aload_n 0, 1), (50, .getfield 25, 3), (53, .iload_n 1, 1), (54, .iload_n 1, 1)]), (83, [(55, .iastore, 1), (56, .iinc 1 1, 3), (59, .goto (-34), 3), (62, .iconst 0, 1), (63, .istore_n 1, 1), (64, .iload_n 1, 1), (65, .getstatic 92, 3), (68, .arraylength, 1), (69, .if_icmp .ge 34, 3), (72, .getstatic 92, 3), (75, .iload_n 1, 1), (76, .iaload, 1), (77, .istore_n 2, 1), (78, .aload_n 0, 1), (79, .getfield 28, 3), (82, .iload_n 2, 1)]), (115, [(83, .aload_n 0, 1), (84, .iload_n 2, 1), (85, .invokevirtual 95, 3), (88, .ifCond .eq 7, 3), (91, .iload_n 2, 1), (92, .goto 4, 3), (95, .iconst 0, 1), (96, .iastore, 1), (97, .iinc 1 1, 3), (100, .goto (-36), 3), (103, .aload_n 0, 1), (104, .aload_n 0, 1), (105, .getfield 50, 3), (108, .getfield 98, 3), (111, .putfield 79, 3), (114, .aload_n 0, 1)]), (135, [(115, .getfield 50, 3), (118, .getfield 101, 3), (121, .iconst 0, 1), (122, .aload_n 0, 1), (123, .getfield 33, 3), (126, .iconst 0, 1), (127, .aload_n 0, 1), (128, .getfield 79, 3), (131, .invokestatic 104, 3), (134, .return_, 1)])]
def rxm_41 : rx_M := ((⟨"AngleChains$Deduction", "start", "()V"⟩ : MethodName), prog_3_method_3_code, 3, none, 3, 1, 0, 2, rxt_41)
def rxt_42 : rx_Tb := [(27, [(0, .aload_n 0, 1), (1, .iconst 0, 1), (2, .putfield 20, 3), (5, .iconst 0, 1), (6, .istore_n 1, 1), (7, .iload_n 1, 1), (8, .bipush 21, 2), (10, .if_icmp .ge 19, 3), (13, .aload_n 0, 1), (14, .getfield 11, 3), (17, .iload_n 1, 1), (18, .aaload, 1), (19, .lconst 0, 1), (20, .invokestatic 24, 3), (23, .iinc 1 1, 3), (26, .goto (-19), 3)]), (30, [(29, .return_, 1)])]
def rxm_42 : rx_M := ((⟨"AngleChains$Rows", "clear", "()V"⟩ : MethodName), prog_5_method_2_code, 2, none, 4, 1, 0, 3, rxt_42)
def rxt_43 : rx_Tb := [(23, [(0, .iconst 0, 1), (1, .istore_n 3, 1), (2, .aload_n 0, 1), (3, .arraylength, 1), (4, .istore 4, 2), (6, .iload_n 3, 1), (7, .iload 4, 2), (9, .if_icmp .ge 13, 3), (12, .aload_n 0, 1), (13, .iload_n 3, 1), (14, .lload_n 1, 1), (15, .lastore, 1), (16, .iinc 3 1, 3), (19, .goto (-13), 3), (22, .return_, 1)])]
def rxm_43 : rx_M := ((⟨"java/util/Arrays", "fill", "([JJ)V"⟩ : MethodName), prog_11_method_101_code, 5, none, 7, 0, 2, 0, rxt_43)
def rxt_44 : rx_Tb := [(24, [(0, .iload_n 1, 1), (1, .invokestatic 110, 3), (4, .istore_n 2, 1), (5, .bipush 31, 2), (7, .iload_n 1, 1), (8, .invokestatic 116, 3), (11, .isub, 1), (12, .istore_n 3, 1), (13, .iload_n 1, 1), (14, .iconst 1, 1), (15, .iload_n 2, 1), (16, .ishl, 1), (17, .ixor, 1), (18, .invokestatic 110, 3), (21, .istore 4, 2), (23, .aload_n 0, 1)]), (54, [(24, .getfield 40, 3), (27, .iload_n 3, 1), (28, .invokevirtual 119, 3), (31, .ifCond .eq 21, 3), (34, .aload_n 0, 1), (35, .getfield 40, 3), (38, .iload_n 2, 1), (39, .iload 4, 2), (41, .iload_n 3, 1), (42, .invokevirtual 122, 3), (45, .ifCond .ne 7, 3), (48, .iconst 1, 1), (49, .goto 4, 3), (52, .iconst 0, 1), (53, .ireturn, 1)])]
def rxm_44 : rx_M := ((⟨"AngleChains$Deduction", "isProper", "(I)Z"⟩ : MethodName), prog_3_method_4_code, 5, (some .boolean), 3, 1, 1, 2, rxt_44)
def rxt_45 : rx_Tb := [(19, [(0, .iload_n 0, 1), (1, .iconst (-1), 1), (2, .ixor, 1), (3, .iload_n 0, 1), (4, .iconst 1, 1), (5, .isub, 1), (6, .iand, 1), (7, .istore_n 0, 1), (8, .iload_n 0, 1), (9, .ifCond .gt 8, 3), (12, .iload_n 0, 1), (13, .bipush 32, 2), (15, .iand, 1), (16, .ireturn, 1), (17, .iconst 1, 1), (18, .istore_n 1, 1)]), (49, [(19, .iload_n 0, 1), (20, .ldc_w 264, 3), (23, .if_icmp .le 11, 3), (26, .iinc 1 16, 3), (29, .iload_n 0, 1), (30, .bipush 16, 2), (32, .iushr, 1), (33, .istore_n 0, 1), (34, .iload_n 0, 1), (35, .sipush 256, 3), (38, .if_icmp .le 11, 3), (41, .iinc 1 8, 3), (44, .iload_n 0, 1), (45, .bipush 8, 2), (47, .iushr, 1), (48, .istore_n 0, 1)]), (74, [(49, .iload_n 0, 1), (50, .bipush 16, 2), (52, .if_icmp .le 10, 3), (55, .iinc 1 4, 3), (58, .iload_n 0, 1), (59, .iconst 4, 1), (60, .iushr, 1), (61, .istore_n 0, 1), (62, .iload_n 0, 1), (63, .iconst 4, 1), (64, .if_icmp .le 10, 3), (67, .iinc 1 2, 3), (70, .iload_n 0, 1), (71, .iconst 2, 1), (72, .iushr, 1), (73, .istore_n 0, 1)]), (80, [(74, .iload_n 1, 1), (75, .iload_n 0, 1), (76, .iconst 1, 1), (77, .iushr, 1), (78, .iadd, 1), (79, .ireturn, 1)])]
def rxm_45 : rx_M := ((⟨"java/lang/Integer", "numberOfTrailingZeros", "(I)I"⟩ : MethodName), prog_8_method_48_code, 2, (some .int), 6, 0, 1, 0, rxt_45)
def rxt_46 : rx_Tb := [(30, [(0, .iload_n 0, 1), (1, .ifCond .gt 14, 3), (4, .iload_n 0, 1), (5, .ifCond .ne 8, 3), (8, .bipush 32, 2), (10, .goto 4, 3), (13, .iconst 0, 1), (14, .ireturn, 1), (15, .bipush 31, 2), (17, .istore_n 1, 1), (18, .iload_n 0, 1), (19, .ldc_w 264, 3), (22, .if_icmp .lt 11, 3), (25, .iinc 1 (-16), 3), (28, .iload_n 0, 1), (29, .bipush 16, 2)]), (59, [(31, .iushr, 1), (32, .istore_n 0, 1), (33, .iload_n 0, 1), (34, .sipush 256, 3), (37, .if_icmp .lt 11, 3), (40, .iinc 1 (-8), 3), (43, .iload_n 0, 1), (44, .bipush 8, 2), (46, .iushr, 1), (47, .istore_n 0, 1), (48, .iload_n 0, 1), (49, .bipush 16, 2), (51, .if_icmp .lt 10, 3), (54, .iinc 1 (-4), 3), (57, .iload_n 0, 1), (58, .iconst 4, 1)]), (79, [(59, .iushr, 1), (60, .istore_n 0, 1), (61, .iload_n 0, 1), (62, .iconst 4, 1), (63, .if_icmp .lt 10, 3), (66, .iinc 1 (-2), 3), (69, .iload_n 0, 1), (70, .iconst 2, 1), (71, .iushr, 1), (72, .istore_n 0, 1), (73, .iload_n 1, 1), (74, .iload_n 0, 1), (75, .iconst 1, 1), (76, .iushr, 1), (77, .isub, 1), (78, .ireturn, 1)])]
def rxm_46 : rx_M := ((⟨"java/lang/Integer", "numberOfLeadingZeros", "(I)I"⟩ : MethodName), prog_8_method_47_code, 2, (some .int), 6, 0, 1, 0, rxt_46)
def rxt_47 : rx_Tb := [(69, [(0, .iload_n 1, 1), (1, .invokestatic 126, 3), (4, .tableswitch 111 0 5 #[40, 111, 111, 52, 64, 83], 40), (44, .aload_n 0, 1), (45, .iload_n 1, 1), (46, .iconst 3, 1), (47, .invokestatic 129, 3), (50, .invokevirtual 133, 3), (53, .goto 74, 3), (56, .aload_n 0, 1), (57, .iload_n 1, 1), (58, .iconst 4, 1), (59, .invokestatic 129, 3), (62, .invokevirtual 136, 3), (65, .goto 62, 3), (68, .aload_n 0, 1)]), (97, [(69, .iload_n 1, 1), (70, .iconst 0, 1), (71, .iconst 1, 1), (72, .invokestatic 139, 3), (75, .iload_n 1, 1), (76, .iconst 2, 1), (77, .iconst 3, 1), (78, .invokestatic 139, 3), (81, .invokevirtual 143, 3), (84, .goto 43, 3), (87, .aload_n 0, 1), (88, .iload_n 1, 1), (89, .iconst 3, 1), (90, .invokestatic 129, 3), (93, .invokevirtual 133, 3), (96, .aload_n 0, 1)]), (125, [(97, .iload_n 1, 1), (98, .iconst 0, 1), (99, .iconst 1, 1), (100, .invokestatic 139, 3), (103, .iload_n 1, 1), (104, .iconst 0, 1), (105, .iconst 2, 1), (106, .invokestatic 139, 3), (109, .invokevirtual 143, 3), (112, .goto 15, 3), (115, .aload_n 0, 1), (116, .iload_n 1, 1), (117, .invokevirtual 147, 3), (120, .aload_n 0, 1), (121, .getfield 12, 3), (124, .invokevirtual 150, 3)]), (128, [(127, .return_, 1)])]
def rxm_47 : rx_M := ((⟨"AngleChains$Deduction", "assume", "(I)V"⟩ : MethodName), prog_3_method_5_code, 2, none, 3, 1, 1, 2, rxt_47)
def rxt_48 : rx_Tb := [(23, [(0, .iconst 0, 1), (1, .istore_n 2, 1), (2, .iload_n 1, 1), (3, .istore_n 3, 1), (4, .iconst 0, 1), (5, .istore 4, 2), (7, .iload 4, 2), (9, .bipush 7, 2), (11, .if_icmp .ge 58, 3), (14, .iload_n 3, 1), (15, .iload_n 2, 1), (16, .if_icmp .eq 53, 3), (19, .iload_n 3, 1), (20, .istore_n 2, 1), (21, .iconst 0, 1), (22, .istore 5, 2)]), (53, [(24, .iload 5, 2), (26, .bipush 21, 2), (28, .if_icmp .ge 35, 3), (31, .aload_n 0, 1), (32, .getfield 18, 3), (35, .iload 5, 2), (37, .iaload, 1), (38, .iload_n 3, 1), (39, .iand, 1), (40, .invokestatic 186, 3), (43, .iconst 2, 1), (44, .if_icmp .lt 13, 3), (47, .iload_n 3, 1), (48, .aload_n 0, 1), (49, .getfield 18, 3), (52, .iload 5, 2)]), (87, [(54, .iaload, 1), (55, .ior, 1), (56, .istore_n 3, 1), (57, .iinc 5 1, 3), (60, .goto (-36), 3), (63, .iinc 4 1, 3), (66, .goto (-59), 3), (69, .iconst (-1), 1), (70, .istore 4, 2), (72, .bipush 20, 2), (74, .istore 5, 2), (76, .iload 5, 2), (78, .ifCond .lt 88, 3), (81, .getstatic 89, 3), (84, .iload 5, 2), (86, .iaload, 1)]), (115, [(87, .iload_n 3, 1), (88, .iconst (-1), 1), (89, .ixor, 1), (90, .iand, 1), (91, .ifCond .ne 69, 3), (94, .iload 4, 2), (96, .iconst (-1), 1), (97, .if_icmp .ne 10, 3), (100, .iload 5, 2), (102, .istore 4, 2), (104, .goto 39, 3), (107, .aload_n 0, 1), (108, .getfield 22, 3), (111, .iload 5, 2), (113, .iaload, 1), (114, .iload 5, 2)]), (148, [(116, .if_icmp .ne 27, 3), (119, .aload_n 0, 1), (120, .getfield 12, 3), (123, .iload 5, 2), (125, .iload 4, 2), (127, .iconst 0, 1), (128, .invokevirtual 181, 3), (131, .aload_n 0, 1), (132, .getfield 12, 3), (135, .invokevirtual 150, 3), (138, .aload_n 0, 1), (139, .iconst 1, 1), (140, .putfield 72, 3), (143, .aload_n 0, 1), (144, .getfield 22, 3), (147, .iload 5, 2)]), (167, [(149, .iload 4, 2), (151, .iastore, 1), (152, .aload_n 0, 1), (153, .getfield 18, 3), (156, .iload 5, 2), (158, .iload_n 3, 1), (159, .iastore, 1), (160, .iinc 5 (-1), 3), (163, .goto (-87), 3), (166, .return_, 1)])]
def rxm_48 : rx_M := ((⟨"AngleChains$Deduction", "joinLine", "(I)V"⟩ : MethodName), prog_3_method_16_code, 6, none, 3, 1, 1, 2, rxt_48)
def rxt_49 : rx_Tb := [(24, [(0, .aload_n 0, 1), (1, .getfield 16, 3), (4, .lconst 0, 1), (5, .invokestatic 24, 3), (8, .aload_n 0, 1), (9, .getfield 16, 3), (12, .iload_n 1, 1), (13, .dup2, 1), (14, .laload, 1), (15, .lconst 1, 1), (16, .ladd, 1), (17, .lastore, 1), (18, .aload_n 0, 1), (19, .getfield 16, 3), (22, .iload_n 2, 1), (23, .dup2, 1)]), (38, [(24, .laload, 1), (25, .lconst 1, 1), (26, .lsub, 1), (27, .lastore, 1), (28, .aload_n 0, 1), (29, .getfield 16, 3), (32, .bipush 21, 2), (34, .iload_n 3, 1), (35, .i2l, 1), (36, .lastore, 1), (37, .return_, 1)])]
def rxm_49 : rx_M := ((⟨"AngleChains$Rows", "writeDifference", "(III)V"⟩ : MethodName), prog_5_method_3_code, 4, none, 4, 1, 3, 3, rxt_49)
def rxt_50 : rx_Tb := [(25, [(0, .iconst 0, 1), (1, .istore_n 1, 1), (2, .iconst 0, 1), (3, .istore_n 2, 1), (4, .iload_n 2, 1), (5, .bipush 21, 2), (7, .if_icmp .ge 112, 3), (10, .iconst 0, 1), (11, .istore_n 3, 1), (12, .iload_n 3, 1), (13, .sipush 200, 3), (16, .if_icmp .ge 97, 3), (19, .aload_n 0, 1), (20, .getfield 16, 3), (23, .iload_n 2, 1), (24, .laload, 1)]), (49, [(25, .lconst 0, 1), (26, .lcmp, 1), (27, .ifCond .eq 86, 3), (30, .aload_n 0, 1), (31, .getfield 11, 3), (34, .iload_n 2, 1), (35, .aaload, 1), (36, .iload_n 2, 1), (37, .laload, 1), (38, .lstore 4, 2), (40, .lload 4, 2), (42, .lconst 0, 1), (43, .lcmp, 1), (44, .ifCond .ne 16, 3), (47, .aload_n 0, 1), (48, .dup, 1)]), (76, [(49, .getfield 20, 3), (52, .iconst 1, 1), (53, .iadd, 1), (54, .putfield 20, 3), (57, .goto 21, 3), (60, .aload_n 0, 1), (61, .aload_n 0, 1), (62, .getfield 16, 3), (65, .aload_n 0, 1), (66, .getfield 16, 3), (69, .iload_n 2, 1), (70, .laload, 1), (71, .lload 4, 2), (73, .ldiv, 1), (74, .iload_n 2, 1), (75, .invokevirtual 30, 3)]), (102, [(78, .aload_n 0, 1), (79, .getfield 16, 3), (82, .iload_n 2, 1), (83, .laload, 1), (84, .lconst 0, 1), (85, .lcmp, 1), (86, .ifCond .eq 21, 3), (89, .aload_n 0, 1), (90, .aload_n 0, 1), (91, .getfield 16, 3), (94, .iload_n 2, 1), (95, .iconst 1, 1), (96, .iadd, 1), (97, .invokevirtual 34, 3), (100, .aload_n 0, 1), (101, .iload_n 2, 1)]), (133, [(102, .invokevirtual 38, 3), (105, .iconst 1, 1), (106, .istore_n 1, 1), (107, .iinc 3 1, 3), (110, .goto (-98), 3), (113, .iinc 2 1, 3), (116, .goto (-112), 3), (119, .iload_n 1, 1), (120, .ifCond .eq 34, 3), (123, .aload_n 0, 1), (124, .iconst 1, 1), (125, .putfield 42, 3), (128, .bipush 20, 2), (130, .istore_n 2, 1), (131, .iload_n 2, 1), (132, .ifCond .lt 22, 3)]), (155, [(135, .aload_n 0, 1), (136, .aload_n 0, 1), (137, .getfield 11, 3), (140, .iload_n 2, 1), (141, .aaload, 1), (142, .iload_n 2, 1), (143, .iconst 1, 1), (144, .iadd, 1), (145, .invokevirtual 34, 3), (148, .iinc 2 (-1), 3), (151, .goto (-20), 3), (154, .return_, 1)])]
def rxm_50 : rx_M := ((⟨"AngleChains$Rows", "takeWritten", "()V"⟩ : MethodName), prog_5_method_6_code, 6, none, 4, 1, 0, 3, rxt_50)
def rxt_51 : rx_Tb := [(28, [(0, .lload_n 2, 1), (1, .lconst 0, 1), (2, .lcmp, 1), (3, .ifCond .eq 61, 3), (6, .aload_n 0, 1), (7, .getfield 11, 3), (10, .iload 4, 2), (12, .aaload, 1), (13, .astore 5, 2), (15, .iload 4, 2), (17, .istore 6, 2), (19, .iload 6, 2), (21, .bipush 21, 2), (23, .if_icmp .ge 23, 3), (26, .aload_n 1, 1), (27, .iload 6, 2)]), (53, [(29, .dup2, 1), (30, .laload, 1), (31, .lload_n 2, 1), (32, .aload 5, 2), (34, .iload 6, 2), (36, .laload, 1), (37, .lmul, 1), (38, .lsub, 1), (39, .lastore, 1), (40, .iinc 6 1, 3), (43, .goto (-24), 3), (46, .aload_n 1, 1), (47, .bipush 21, 2), (49, .aload_n 1, 1), (50, .bipush 21, 2), (52, .laload, 1)]), (65, [(53, .lload_n 2, 1), (54, .aload 5, 2), (56, .bipush 21, 2), (58, .laload, 1), (59, .lmul, 1), (60, .lsub, 1), (61, .lconst 1, 1), (62, .land, 1), (63, .lastore, 1), (64, .return_, 1)])]
def rxm_51 : rx_M := ((⟨"AngleChains$Rows", "subtract", "([JJI)V"⟩ : MethodName), prog_5_method_9_code, 7, none, 4, 1, 3, 3, rxt_51)
def rxt_52 : rx_Tb := [(23, [(0, .iload_n 2, 1), (1, .istore_n 3, 1), (2, .iload_n 3, 1), (3, .bipush 21, 2), (5, .if_icmp .ge 40, 3), (8, .aload_n 0, 1), (9, .getfield 11, 3), (12, .iload_n 3, 1), (13, .aaload, 1), (14, .iload_n 3, 1), (15, .laload, 1), (16, .lstore 4, 2), (18, .lload 4, 2), (20, .lconst 0, 1), (21, .lcmp, 1), (22, .ifCond .eq 17, 3)]), (46, [(25, .aload_n 0, 1), (26, .aload_n 1, 1), (27, .aload_n 1, 1), (28, .iload_n 3, 1), (29, .laload, 1), (30, .lload 4, 2), (32, .invokestatic 48, 3), (35, .iload_n 3, 1), (36, .invokevirtual 30, 3), (39, .iinc 3 1, 3), (42, .goto (-40), 3), (45, .return_, 1)])]
def rxm_52 : rx_M := ((⟨"AngleChains$Rows", "settle", "([JI)V"⟩ : MethodName), prog_5_method_8_code, 6, none, 4, 1, 2, 3, rxt_52)
def rxt_53 : rx_Tb := [(20, [(0, .lload_n 0, 1), (1, .lload_n 2, 1), (2, .ldiv, 1), (3, .lstore 4, 2), (5, .lload_n 0, 1), (6, .lload_n 2, 1), (7, .lxor, 1), (8, .lconst 0, 1), (9, .lcmp, 1), (10, .ifCond .ge 17, 3), (13, .lload 4, 2), (15, .lload_n 2, 1), (16, .lmul, 1), (17, .lload_n 0, 1), (18, .lcmp, 1), (19, .ifCond .eq 8, 3)]), (30, [(22, .lload 4, 2), (24, .lconst 1, 1), (25, .lsub, 1), (26, .lreturn, 1), (27, .lload 4, 2), (29, .lreturn, 1)])]
def rxm_53 : rx_M := ((⟨"java/lang/Math", "floorDiv", "(JJ)J"⟩ : MethodName), prog_9_method_49_code, 6, (some .long), 8, 0, 2, 0, rxt_53)
def rxt_54 : rx_Tb := [(26, [(0, .aload_n 0, 1), (1, .getfield 16, 3), (4, .iload_n 1, 1), (5, .laload, 1), (6, .lconst 0, 1), (7, .lcmp, 1), (8, .ifCond .ge 9, 3), (11, .ldc2_w 46, 3), (14, .goto 4, 3), (17, .lconst 1, 1), (18, .lstore_n 2, 1), (19, .aload_n 0, 1), (20, .getfield 11, 3), (23, .iload_n 1, 1), (24, .aaload, 1), (25, .astore 4, 2)]), (56, [(27, .iload_n 1, 1), (28, .istore 5, 2), (30, .iload 5, 2), (32, .bipush 21, 2), (34, .if_icmp .ge 39, 3), (37, .aload 4, 2), (39, .iload 5, 2), (41, .laload, 1), (42, .lstore 6, 2), (44, .aload 4, 2), (46, .iload 5, 2), (48, .lload_n 2, 1), (49, .aload_n 0, 1), (50, .getfield 16, 3), (53, .iload 5, 2), (55, .laload, 1)]), (85, [(56, .lmul, 1), (57, .lastore, 1), (58, .aload_n 0, 1), (59, .getfield 16, 3), (62, .iload 5, 2), (64, .lload 6, 2), (66, .lastore, 1), (67, .iinc 5 1, 3), (70, .goto (-40), 3), (73, .aload 4, 2), (75, .bipush 21, 2), (77, .laload, 1), (78, .lstore 5, 2), (80, .aload 4, 2), (82, .bipush 21, 2), (84, .aload_n 0, 1)]), (102, [(85, .getfield 16, 3), (88, .bipush 21, 2), (90, .laload, 1), (91, .lastore, 1), (92, .aload_n 0, 1), (93, .getfield 16, 3), (96, .bipush 21, 2), (98, .lload 5, 2), (100, .lastore, 1), (101, .return_, 1)])]
def rxm_54 : rx_M := ((⟨"AngleChains$Rows", "swapWithBasis", "(I)V"⟩ : MethodName), prog_5_method_7_code, 8, none, 4, 1, 1, 3, rxt_54)
def rxt_55 : rx_Tb := [(23, [(0, .iconst 0, 1), (1, .istore_n 2, 1), (2, .iload_n 1, 1), (3, .istore_n 3, 1), (4, .iconst 0, 1), (5, .istore 4, 2), (7, .iload 4, 2), (9, .bipush 7, 2), (11, .if_icmp .ge 63, 3), (14, .iload_n 3, 1), (15, .iload_n 2, 1), (16, .if_icmp .eq 58, 3), (19, .iload_n 3, 1), (20, .istore_n 2, 1), (21, .iconst 0, 1), (22, .istore 5, 2)]), (54, [(24, .iload 5, 2), (26, .getstatic 92, 3), (29, .arraylength, 1), (30, .if_icmp .ge 38, 3), (33, .aload_n 0, 1), (34, .getfield 28, 3), (37, .getstatic 92, 3), (40, .iload 5, 2), (42, .iaload, 1), (43, .iaload, 1), (44, .istore 6, 2), (46, .iload 6, 2), (48, .iload_n 3, 1), (49, .iand, 1), (50, .invokestatic 186, 3), (53, .iconst 3, 1)]), (87, [(54, .if_icmp .lt 8, 3), (57, .iload_n 3, 1), (58, .iload 6, 2), (60, .ior, 1), (61, .istore_n 3, 1), (62, .iinc 5 1, 3), (65, .goto (-41), 3), (68, .iinc 4 1, 3), (71, .goto (-64), 3), (74, .iconst 0, 1), (75, .istore 4, 2), (77, .iload 4, 2), (79, .getstatic 92, 3), (82, .arraylength, 1), (83, .if_icmp .ge 60, 3), (86, .getstatic 92, 3)]), (115, [(89, .iload 4, 2), (91, .iaload, 1), (92, .istore 5, 2), (94, .iload 5, 2), (96, .iload_n 3, 1), (97, .iconst (-1), 1), (98, .ixor, 1), (99, .iand, 1), (100, .ifCond .ne 37, 3), (103, .aload_n 0, 1), (104, .getfield 28, 3), (107, .iload 5, 2), (109, .iaload, 1), (110, .iload_n 3, 1), (111, .if_icmp .eq 26, 3), (114, .aload_n 0, 1)]), (144, [(115, .getfield 28, 3), (118, .iload 5, 2), (120, .iaload, 1), (121, .ifCond .eq 16, 3), (124, .aload_n 0, 1), (125, .getfield 28, 3), (128, .iload 5, 2), (130, .iload_n 3, 1), (131, .iastore, 1), (132, .aload_n 0, 1), (133, .iconst 1, 1), (134, .putfield 72, 3), (137, .iinc 4 1, 3), (140, .goto (-63), 3), (143, .return_, 1)])]
def rxm_55 : rx_M := ((⟨"AngleChains$Deduction", "joinCircle", "(I)V"⟩ : MethodName), prog_3_method_17_code, 7, none, 3, 1, 1, 2, rxt_55)
def rxt_56 : rx_Tb := [(14, [(0, .iload_n 0, 1), (1, .iload_n 1, 1), (2, .invokestatic 115, 3), (5, .iload_n 0, 1), (6, .iload_n 2, 1), (7, .invokestatic 115, 3), (10, .invokestatic 121, 3), (13, .ireturn, 1)])]
def rxm_56 : rx_M := ((⟨"AngleChains", "pairAt", "(III)I"⟩ : MethodName), prog_1_method_20_code, 3, (some .int), 1, 0, 3, 0, rxt_56)
def rxt_57 : rx_Tb := [(11, [(0, .getstatic 118, 3), (3, .bipush 8, 2), (5, .iload_n 0, 1), (6, .imul, 1), (7, .iload_n 1, 1), (8, .iadd, 1), (9, .iaload, 1), (10, .ireturn, 1)])]
def rxm_57 : rx_M := ((⟨"AngleChains", "pairOf", "(II)I"⟩ : MethodName), prog_1_method_19_code, 2, (some .int), 1, 0, 2, 0, rxt_57)
def rxt_58 : rx_Tb := [(24, [(0, .aload_n 0, 1), (1, .getfield 25, 3), (4, .iload_n 1, 1), (5, .iaload, 1), (6, .aload_n 0, 1), (7, .getfield 25, 3), (10, .iload_n 2, 1), (11, .iaload, 1), (12, .invokestatic 189, 3), (15, .istore_n 3, 1), (16, .aload_n 0, 1), (17, .getfield 25, 3), (20, .iload_n 1, 1), (21, .iaload, 1), (22, .aload_n 0, 1), (23, .getfield 25, 3)]), (56, [(26, .iload_n 2, 1), (27, .iaload, 1), (28, .invokestatic 194, 3), (31, .istore 4, 2), (33, .iload_n 3, 1), (34, .iload 4, 2), (36, .if_icmp .eq 44, 3), (39, .iconst 0, 1), (40, .istore 5, 2), (42, .iload 5, 2), (44, .bipush 21, 2), (46, .if_icmp .ge 29, 3), (49, .aload_n 0, 1), (50, .getfield 25, 3), (53, .iload 5, 2), (55, .iaload, 1)]), (81, [(56, .iload 4, 2), (58, .if_icmp .ne 11, 3), (61, .aload_n 0, 1), (62, .getfield 25, 3), (65, .iload 5, 2), (67, .iload_n 3, 1), (68, .iastore, 1), (69, .iinc 5 1, 3), (72, .goto (-30), 3), (75, .aload_n 0, 1), (76, .iconst 1, 1), (77, .putfield 72, 3), (80, .return_, 1)])]
def rxm_58 : rx_M := ((⟨"AngleChains$Deduction", "joinLengths", "(II)V"⟩ : MethodName), prog_3_method_18_code, 6, none, 3, 1, 2, 2, rxt_58)
def rxt_59 : rx_Tb := [(47, [(0, .iload_n 1, 1), (1, .iconst 0, 1), (2, .iconst 1, 1), (3, .invokestatic 139, 3), (6, .istore_n 2, 1), (7, .iload_n 1, 1), (8, .iconst 2, 1), (9, .iconst 3, 1), (10, .invokestatic 139, 3), (13, .istore_n 3, 1), (14, .iload_n 1, 1), (15, .invokestatic 126, 3), (18, .lookupswitch 46 #[(1, 26), (2, 36)], 26), (44, .aload_n 0, 1), (45, .iload_n 2, 1), (46, .iload_n 3, 1)]), (71, [(47, .iconst 0, 1), (48, .invokevirtual 173, 3), (51, .goto 33, 3), (54, .aload_n 0, 1), (55, .iload_n 2, 1), (56, .iload_n 3, 1), (57, .iconst 1, 1), (58, .invokevirtual 173, 3), (61, .goto 23, 3), (64, .aload_n 0, 1), (65, .iload_n 2, 1), (66, .iload_n 3, 1), (67, .iload_n 1, 1), (68, .iconst 4, 1), (69, .iconst 5, 1), (70, .invokestatic 139, 3)]), (85, [(73, .iload_n 1, 1), (74, .bipush 6, 2), (76, .bipush 7, 2), (78, .invokestatic 139, 3), (81, .invokevirtual 177, 3), (84, .return_, 1)])]
def rxm_59 : rx_M := ((⟨"AngleChains$Deduction", "writeRowOf", "(I)V"⟩ : MethodName), prog_3_method_7_code, 4, none, 3, 1, 1, 2, rxt_59)
def rxt_60 : rx_Tb := [(21, [(0, .aload_n 0, 1), (1, .getfield 12, 3), (4, .aload_n 0, 1), (5, .getfield 22, 3), (8, .iload_n 1, 1), (9, .iaload, 1), (10, .aload_n 0, 1), (11, .getfield 22, 3), (14, .iload_n 2, 1), (15, .iaload, 1), (16, .iload_n 3, 1), (17, .invokevirtual 181, 3), (20, .return_, 1)])]
def rxm_60 : rx_M := ((⟨"AngleChains$Deduction", "writeDifference", "(III)V"⟩ : MethodName), prog_3_method_8_code, 4, none, 3, 1, 3, 2, rxt_60)
def rxt_61 : rx_Tb := [(24, [(0, .aload_n 0, 1), (1, .getfield 12, 3), (4, .aload_n 0, 1), (5, .getfield 22, 3), (8, .iload_n 1, 1), (9, .iaload, 1), (10, .aload_n 0, 1), (11, .getfield 22, 3), (14, .iload_n 2, 1), (15, .iaload, 1), (16, .aload_n 0, 1), (17, .getfield 22, 3), (20, .iload_n 3, 1), (21, .iaload, 1), (22, .aload_n 0, 1), (23, .getfield 22, 3)]), (33, [(26, .iload 4, 2), (28, .iaload, 1), (29, .invokevirtual 182, 3), (32, .return_, 1)])]
def rxm_61 : rx_M := ((⟨"AngleChains$Deduction", "writeTurns", "(IIII)V"⟩ : MethodName), prog_3_method_9_code, 5, none, 3, 1, 4, 2, rxt_61)
def rxt_62 : rx_Tb := [(24, [(0, .aload_n 0, 1), (1, .getfield 16, 3), (4, .lconst 0, 1), (5, .invokestatic 24, 3), (8, .aload_n 0, 1), (9, .getfield 16, 3), (12, .iload_n 1, 1), (13, .dup2, 1), (14, .laload, 1), (15, .lconst 1, 1), (16, .ladd, 1), (17, .lastore, 1), (18, .aload_n 0, 1), (19, .getfield 16, 3), (22, .iload_n 2, 1), (23, .dup2, 1)]), (45, [(24, .laload, 1), (25, .lconst 1, 1), (26, .lsub, 1), (27, .lastore, 1), (28, .aload_n 0, 1), (29, .getfield 16, 3), (32, .iload_n 3, 1), (33, .dup2, 1), (34, .laload, 1), (35, .lconst 1, 1), (36, .lsub, 1), (37, .lastore, 1), (38, .aload_n 0, 1), (39, .getfield 16, 3), (42, .iload 4, 2), (44, .dup2, 1)]), (50, [(45, .laload, 1), (46, .lconst 1, 1), (47, .ladd, 1), (48, .lastore, 1), (49, .return_, 1)])]
def rxm_62 : rx_M := ((⟨"AngleChains$Rows", "writeTurns", "(IIII)V"⟩ : MethodName), prog_5_method_4_code, 5, none, 4, 1, 4, 3, rxt_62)
def rxt_63 : rx_Tb := [(71, [(0, .iload_n 1, 1), (1, .invokestatic 126, 3), (4, .tableswitch 96 0 7 #[48, 54, 60, 66, 72, 78, 84, 90], 48), (52, .aload_n 0, 1), (53, .iload_n 1, 1), (54, .invokevirtual 197, 3), (57, .ireturn, 1), (58, .aload_n 0, 1), (59, .iload_n 1, 1), (60, .invokevirtual 200, 3), (63, .ireturn, 1), (64, .aload_n 0, 1), (65, .iload_n 1, 1), (66, .invokevirtual 203, 3), (69, .ireturn, 1), (70, .aload_n 0, 1)]), (95, [(71, .iload_n 1, 1), (72, .invokevirtual 206, 3), (75, .ireturn, 1), (76, .aload_n 0, 1), (77, .iload_n 1, 1), (78, .invokevirtual 209, 3), (81, .ireturn, 1), (82, .aload_n 0, 1), (83, .iload_n 1, 1), (84, .invokevirtual 212, 3), (87, .ireturn, 1), (88, .aload_n 0, 1), (89, .iload_n 1, 1), (90, .invokevirtual 215, 3), (93, .ireturn, 1), (94, .aload_n 0, 1)]), (102, [(95, .iload_n 1, 1), (96, .invokevirtual 218, 3), (99, .ireturn, 1), (100, .iconst 1, 1), (101, .ireturn, 1)])]
def rxm_63 : rx_M := ((⟨"AngleChains$Deduction", "usesUp", "(I)Z"⟩ : MethodName), prog_3_method_19_code, 2, (some .boolean), 3, 1, 1, 2, rxt_63)
def rxt_64 : rx_Tb := [(24, [(0, .aload_n 0, 1), (1, .iload_n 1, 1), (2, .invokevirtual 153, 3), (5, .ifCond .eq 5, 3), (8, .iconst 1, 1), (9, .ireturn, 1), (10, .iload_n 1, 1), (11, .iconst 0, 1), (12, .iconst 1, 1), (13, .invokestatic 139, 3), (16, .istore_n 2, 1), (17, .iload_n 1, 1), (18, .iconst 0, 1), (19, .iconst 2, 1), (20, .invokestatic 139, 3), (23, .istore_n 3, 1)]), (48, [(24, .iload_n 1, 1), (25, .iconst 1, 1), (26, .iconst 2, 1), (27, .invokestatic 139, 3), (30, .istore 4, 2), (32, .aload_n 0, 1), (33, .iload_n 2, 1), (34, .iload_n 3, 1), (35, .iconst 0, 1), (36, .invokevirtual 221, 3), (39, .ifCond .ne 25, 3), (42, .aload_n 0, 1), (43, .iload_n 2, 1), (44, .iload 4, 2), (46, .iconst 0, 1), (47, .invokevirtual 221, 3)]), (77, [(50, .ifCond .ne 14, 3), (53, .aload_n 0, 1), (54, .iload_n 3, 1), (55, .iload 4, 2), (57, .iconst 0, 1), (58, .invokevirtual 221, 3), (61, .ifCond .eq 14, 3), (64, .aload_n 0, 1), (65, .iload_n 1, 1), (66, .iconst 3, 1), (67, .invokestatic 129, 3), (70, .invokevirtual 133, 3), (73, .iconst 1, 1), (74, .ireturn, 1), (75, .iconst 0, 1), (76, .ireturn, 1)])]
def rxm_64 : rx_M := ((⟨"AngleChains$Deduction", "triesLine", "(I)Z"⟩ : MethodName), prog_3_method_20_code, 5, (some .boolean), 3, 1, 1, 2, rxt_64)
def rxt_65 : rx_Tb := [(24, [(0, .aload_n 0, 1), (1, .getfield 18, 3), (4, .iload_n 1, 1), (5, .iconst 0, 1), (6, .iconst 1, 1), (7, .invokestatic 139, 3), (10, .iaload, 1), (11, .iload_n 1, 1), (12, .iconst 2, 1), (13, .invokestatic 163, 3), (16, .ishr, 1), (17, .iconst 1, 1), (18, .iand, 1), (19, .ifCond .eq 7, 3), (22, .iconst 1, 1), (23, .goto 4, 3)]), (28, [(26, .iconst 0, 1), (27, .ireturn, 1)])]
def rxm_65 : rx_M := ((⟨"AngleChains$Deduction", "areOnLine", "(I)Z"⟩ : MethodName), prog_3_method_13_code, 2, (some .boolean), 3, 1, 1, 2, rxt_65)
def rxt_66 : rx_Tb := [(15, [(0, .aload_n 0, 1), (1, .iload_n 1, 1), (2, .iload_n 2, 1), (3, .iload_n 3, 1), (4, .invokevirtual 173, 3), (7, .aload_n 0, 1), (8, .getfield 12, 3), (11, .invokevirtual 169, 3), (14, .ireturn, 1)])]
def rxm_66 : rx_M := ((⟨"AngleChains$Deduction", "haveDifference", "(III)Z"⟩ : MethodName), prog_3_method_10_code, 4, (some .boolean), 3, 1, 3, 2, rxt_66)
def rxt_67 : rx_Tb := [(25, [(0, .iconst 0, 1), (1, .istore_n 1, 1), (2, .iload_n 1, 1), (3, .bipush 21, 2), (5, .if_icmp .ge 67, 3), (8, .aload_n 0, 1), (9, .getfield 16, 3), (12, .iload_n 1, 1), (13, .laload, 1), (14, .lconst 0, 1), (15, .lcmp, 1), (16, .ifCond .eq 50, 3), (19, .aload_n 0, 1), (20, .getfield 11, 3), (23, .iload_n 1, 1), (24, .aaload, 1)]), (45, [(25, .iload_n 1, 1), (26, .laload, 1), (27, .lstore_n 2, 1), (28, .lload_n 2, 1), (29, .lconst 0, 1), (30, .lcmp, 1), (31, .ifCond .eq 16, 3), (34, .aload_n 0, 1), (35, .getfield 16, 3), (38, .iload_n 1, 1), (39, .laload, 1), (40, .lload_n 2, 1), (41, .lrem, 1), (42, .lconst 0, 1), (43, .lcmp, 1), (44, .ifCond .eq 5, 3)]), (73, [(47, .iconst 0, 1), (48, .ireturn, 1), (49, .aload_n 0, 1), (50, .aload_n 0, 1), (51, .getfield 16, 3), (54, .aload_n 0, 1), (55, .getfield 16, 3), (58, .iload_n 1, 1), (59, .laload, 1), (60, .lload_n 2, 1), (61, .ldiv, 1), (62, .iload_n 1, 1), (63, .invokevirtual 30, 3), (66, .iinc 1 1, 3), (69, .goto (-67), 3), (72, .aload_n 0, 1)]), (92, [(73, .getfield 16, 3), (76, .bipush 21, 2), (78, .laload, 1), (79, .lconst 1, 1), (80, .land, 1), (81, .lconst 0, 1), (82, .lcmp, 1), (83, .ifCond .ne 7, 3), (86, .iconst 1, 1), (87, .goto 4, 3), (90, .iconst 0, 1), (91, .ireturn, 1)])]
def rxm_67 : rx_M := ((⟨"AngleChains$Rows", "haveWritten", "()Z"⟩ : MethodName), prog_5_method_5_code, 4, (some .boolean), 4, 1, 0, 3, rxt_67)
def rxt_68 : rx_Tb := [(23, [(0, .iload_n 1, 1), (1, .iconst 0, 1), (2, .iconst 1, 1), (3, .invokestatic 139, 3), (6, .istore_n 2, 1), (7, .iload_n 1, 1), (8, .iconst 0, 1), (9, .iconst 2, 1), (10, .invokestatic 139, 3), (13, .istore_n 3, 1), (14, .iload_n 1, 1), (15, .iconst 0, 1), (16, .iconst 3, 1), (17, .invokestatic 139, 3), (20, .istore 4, 2), (22, .iload_n 1, 1)]), (48, [(23, .iconst 1, 1), (24, .iconst 2, 1), (25, .invokestatic 139, 3), (28, .istore 5, 2), (30, .iload_n 1, 1), (31, .iconst 1, 1), (32, .iconst 3, 1), (33, .invokestatic 139, 3), (36, .istore 6, 2), (38, .iload_n 1, 1), (39, .iconst 2, 1), (40, .iconst 3, 1), (41, .invokestatic 139, 3), (44, .istore 7, 2), (46, .iload_n 1, 1), (47, .iconst 4, 1)]), (79, [(48, .invokestatic 129, 3), (51, .istore 8, 2), (53, .aload_n 0, 1), (54, .iload 8, 2), (56, .invokevirtual 156, 3), (59, .ifCond .ne 52, 3), (62, .aload_n 0, 1), (63, .iload_n 3, 1), (64, .iload 5, 2), (66, .iload 4, 2), (68, .iload 6, 2), (70, .invokevirtual 224, 3), (73, .ifCond .ne 32, 3), (76, .aload_n 0, 1), (77, .iload_n 2, 1), (78, .iload 5, 2)]), (109, [(80, .iload 4, 2), (82, .iload 7, 2), (84, .invokevirtual 224, 3), (87, .ifCond .ne 18, 3), (90, .aload_n 0, 1), (91, .iload_n 2, 1), (92, .iload 6, 2), (94, .iload_n 3, 1), (95, .iload 7, 2), (97, .invokevirtual 224, 3), (100, .ifCond .ne 5, 3), (103, .iconst 0, 1), (104, .ireturn, 1), (105, .aload_n 0, 1), (106, .iload 8, 2), (108, .invokevirtual 136, 3)]), (141, [(111, .aload_n 0, 1), (112, .iload_n 3, 1), (113, .iload 5, 2), (115, .iload 4, 2), (117, .iload 6, 2), (119, .invokevirtual 177, 3), (122, .aload_n 0, 1), (123, .getfield 12, 3), (126, .invokevirtual 150, 3), (129, .aload_n 0, 1), (130, .iload_n 2, 1), (131, .iload 5, 2), (133, .iload 4, 2), (135, .iload 7, 2), (137, .invokevirtual 177, 3), (140, .aload_n 0, 1)]), (149, [(141, .getfield 12, 3), (144, .invokevirtual 150, 3), (147, .iconst 1, 1), (148, .ireturn, 1)])]
def rxm_68 : rx_M := ((⟨"AngleChains$Deduction", "triesCircle", "(I)Z"⟩ : MethodName), prog_3_method_21_code, 9, (some .boolean), 3, 1, 1, 2, rxt_68)
def rxt_69 : rx_Tb := [(20, [(0, .iload_n 1, 1), (1, .iload_n 1, 1), (2, .iconst 1, 1), (3, .isub, 1), (4, .iand, 1), (5, .istore_n 2, 1), (6, .iload_n 1, 1), (7, .aload_n 0, 1), (8, .getfield 28, 3), (11, .iload_n 2, 1), (12, .iaload, 1), (13, .iconst (-1), 1), (14, .ixor, 1), (15, .iand, 1), (16, .ifCond .ne 7, 3), (19, .iconst 1, 1)]), (25, [(20, .goto 4, 3), (23, .iconst 0, 1), (24, .ireturn, 1)])]
def rxm_69 : rx_M := ((⟨"AngleChains$Deduction", "areOnCircle", "(I)Z"⟩ : MethodName), prog_3_method_15_code, 3, (some .boolean), 3, 1, 1, 2, rxt_69)
def rxt_70 : rx_Tb := [(17, [(0, .aload_n 0, 1), (1, .iload_n 1, 1), (2, .iload_n 2, 1), (3, .iload_n 3, 1), (4, .iload 4, 2), (6, .invokevirtual 177, 3), (9, .aload_n 0, 1), (10, .getfield 12, 3), (13, .invokevirtual 169, 3), (16, .ireturn, 1)])]
def rxm_70 : rx_M := ((⟨"AngleChains$Deduction", "haveTurns", "(IIII)Z"⟩ : MethodName), prog_3_method_11_code, 5, (some .boolean), 3, 1, 4, 2, rxt_70)
def rxt_71 : rx_Tb := [(23, [(0, .iload_n 1, 1), (1, .iconst 0, 1), (2, .iconst 1, 1), (3, .invokestatic 139, 3), (6, .istore_n 2, 1), (7, .iload_n 1, 1), (8, .iconst 0, 1), (9, .iconst 2, 1), (10, .invokestatic 139, 3), (13, .istore_n 3, 1), (14, .iload_n 1, 1), (15, .iconst 1, 1), (16, .iconst 2, 1), (17, .invokestatic 139, 3), (20, .istore 4, 2), (22, .aload_n 0, 1)]), (39, [(23, .iload_n 2, 1), (24, .iload 4, 2), (26, .iload 4, 2), (28, .iload_n 3, 1), (29, .invokevirtual 177, 3), (32, .aload_n 0, 1), (33, .iload_n 2, 1), (34, .iload_n 3, 1), (35, .invokevirtual 228, 3), (38, .ireturn, 1)])]
def rxm_71 : rx_M := ((⟨"AngleChains$Deduction", "triesIsosceles", "(I)Z"⟩ : MethodName), prog_3_method_23_code, 5, (some .boolean), 3, 1, 1, 2, rxt_71)
def rxt_72 : rx_Tb := [(30, [(0, .aload_n 0, 1), (1, .iload_n 1, 1), (2, .iload_n 2, 1), (3, .invokevirtual 159, 3), (6, .ifCond .eq 12, 3), (9, .aload_n 0, 1), (10, .getfield 12, 3), (13, .invokevirtual 150, 3), (16, .iconst 1, 1), (17, .ireturn, 1), (18, .aload_n 0, 1), (19, .getfield 12, 3), (22, .invokevirtual 169, 3), (25, .ifCond .eq 11, 3), (28, .aload_n 0, 1), (29, .iload_n 1, 1)]), (38, [(30, .iload_n 2, 1), (31, .invokevirtual 143, 3), (34, .iconst 1, 1), (35, .ireturn, 1), (36, .iconst 0, 1), (37, .ireturn, 1)])]
def rxm_72 : rx_M := ((⟨"AngleChains$Deduction", "linksRowTo", "(II)Z"⟩ : MethodName), prog_3_method_22_code, 3, (some .boolean), 3, 1, 2, 2, rxt_72)
def rxt_73 : rx_Tb := [(21, [(0, .aload_n 0, 1), (1, .getfield 25, 3), (4, .iload_n 1, 1), (5, .iaload, 1), (6, .aload_n 0, 1), (7, .getfield 25, 3), (10, .iload_n 2, 1), (11, .iaload, 1), (12, .if_icmp .ne 7, 3), (15, .iconst 1, 1), (16, .goto 4, 3), (19, .iconst 0, 1), (20, .ireturn, 1)])]
def rxm_73 : rx_M := ((⟨"AngleChains$Deduction", "areSame", "(II)Z"⟩ : MethodName), prog_3_method_12_code, 3, (some .boolean), 3, 1, 2, 2, rxt_73)
def rxt_74 : rx_Tb := [(25, [(0, .iload_n 1, 1), (1, .iconst 0, 1), (2, .invokestatic 163, 3), (5, .istore_n 2, 1), (6, .iload_n 1, 1), (7, .iconst 1, 1), (8, .invokestatic 163, 3), (11, .istore_n 3, 1), (12, .iload_n 1, 1), (13, .iconst 2, 1), (14, .invokestatic 163, 3), (17, .istore 4, 2), (19, .iload_n 1, 1), (20, .iconst 3, 1), (21, .invokestatic 163, 3), (24, .istore 5, 2)]), (54, [(26, .aload_n 0, 1), (27, .iload_n 2, 1), (28, .iload_n 3, 1), (29, .iload 4, 2), (31, .invokevirtual 166, 3), (34, .ifCond .ne 5, 3), (37, .iconst 0, 1), (38, .ireturn, 1), (39, .aload_n 0, 1), (40, .iload_n 3, 1), (41, .iload 5, 2), (43, .invokestatic 183, 3), (46, .iload 4, 2), (48, .iload 5, 2), (50, .invokestatic 183, 3), (53, .iconst 1, 1)]), (73, [(54, .invokevirtual 173, 3), (57, .aload_n 0, 1), (58, .iload_n 2, 1), (59, .iload_n 3, 1), (60, .invokestatic 183, 3), (63, .iload_n 2, 1), (64, .iload 5, 2), (66, .invokestatic 183, 3), (69, .invokevirtual 228, 3), (72, .ireturn, 1)])]
def rxm_74 : rx_M := ((⟨"AngleChains$Deduction", "triesDiameter", "(I)Z"⟩ : MethodName), prog_3_method_24_code, 6, (some .boolean), 3, 1, 1, 2, rxt_74)
def rxt_75 : rx_Tb := [(28, [(0, .aload_n 0, 1), (1, .iload_n 1, 1), (2, .iload_n 2, 1), (3, .invokestatic 183, 3), (6, .iload_n 1, 1), (7, .iload_n 3, 1), (8, .invokestatic 183, 3), (11, .invokevirtual 159, 3), (14, .ifCond .eq 24, 3), (17, .aload_n 0, 1), (18, .getfield 18, 3), (21, .iload_n 2, 1), (22, .iload_n 3, 1), (23, .invokestatic 183, 3), (26, .iaload, 1), (27, .iload_n 1, 1)]), (40, [(28, .ishr, 1), (29, .iconst 1, 1), (30, .iand, 1), (31, .ifCond .eq 7, 3), (34, .iconst 1, 1), (35, .goto 4, 3), (38, .iconst 0, 1), (39, .ireturn, 1)])]
def rxm_75 : rx_M := ((⟨"AngleChains$Deduction", "isMiddle", "(III)Z"⟩ : MethodName), prog_3_method_14_code, 4, (some .boolean), 3, 1, 3, 2, rxt_75)
def rxt_76 : rx_Tb := [(24, [(0, .iload_n 1, 1), (1, .iconst 0, 1), (2, .iconst 1, 1), (3, .invokestatic 139, 3), (6, .istore_n 2, 1), (7, .aload_n 0, 1), (8, .iload_n 2, 1), (9, .iload_n 1, 1), (10, .iconst 0, 1), (11, .iconst 2, 1), (12, .invokestatic 139, 3), (15, .invokevirtual 159, 3), (18, .ifCond .eq 31, 3), (21, .aload_n 0, 1), (22, .iload_n 2, 1), (23, .iload_n 1, 1)]), (52, [(24, .iconst 0, 1), (25, .iconst 3, 1), (26, .invokestatic 139, 3), (29, .invokevirtual 159, 3), (32, .ifCond .eq 17, 3), (35, .aload_n 0, 1), (36, .iload_n 2, 1), (37, .iload_n 1, 1), (38, .iconst 0, 1), (39, .iconst 4, 1), (40, .invokestatic 139, 3), (43, .invokevirtual 159, 3), (46, .ifCond .ne 5, 3), (49, .iconst 0, 1), (50, .ireturn, 1), (51, .iload_n 1, 1)]), (74, [(52, .iconst 3, 1), (53, .ishr, 1), (54, .iconst 4, 1), (55, .invokestatic 129, 3), (58, .istore_n 3, 1), (59, .aload_n 0, 1), (60, .iload_n 3, 1), (61, .invokevirtual 156, 3), (64, .ifCond .ne 8, 3), (67, .aload_n 0, 1), (68, .iload_n 3, 1), (69, .invokevirtual 136, 3), (72, .iconst 1, 1), (73, .ireturn, 1)])]
def rxm_76 : rx_M := ((⟨"AngleChains$Deduction", "triesCentre", "(I)Z"⟩ : MethodName), prog_3_method_25_code, 4, (some .boolean), 3, 1, 1, 2, rxt_76)
def rxt_77 : rx_Tb := [(23, [(0, .iload_n 1, 1), (1, .iconst 0, 1), (2, .iconst 2, 1), (3, .invokestatic 139, 3), (6, .istore_n 2, 1), (7, .iload_n 1, 1), (8, .iconst 0, 1), (9, .iconst 3, 1), (10, .invokestatic 139, 3), (13, .istore_n 3, 1), (14, .iload_n 1, 1), (15, .iconst 1, 1), (16, .iconst 2, 1), (17, .invokestatic 139, 3), (20, .istore 4, 2), (22, .iload_n 1, 1)]), (52, [(23, .iconst 1, 1), (24, .iconst 3, 1), (25, .invokestatic 139, 3), (28, .istore 5, 2), (30, .aload_n 0, 1), (31, .iload_n 2, 1), (32, .iload_n 3, 1), (33, .invokevirtual 159, 3), (36, .istore 6, 2), (38, .iload 6, 2), (40, .ifCond .ne 16, 3), (43, .aload_n 0, 1), (44, .iload 4, 2), (46, .iload 5, 2), (48, .invokevirtual 159, 3), (51, .ifCond .ne 5, 3)]), (79, [(54, .iconst 0, 1), (55, .ireturn, 1), (56, .aload_n 0, 1), (57, .iload_n 1, 1), (58, .iconst 0, 1), (59, .iconst 1, 1), (60, .invokestatic 139, 3), (63, .iload_n 1, 1), (64, .iconst 2, 1), (65, .iconst 3, 1), (66, .invokestatic 139, 3), (69, .iconst 1, 1), (70, .invokevirtual 173, 3), (73, .iload 6, 2), (75, .ifCond .eq 14, 3), (78, .aload_n 0, 1)]), (96, [(79, .iload 4, 2), (81, .iload 5, 2), (83, .invokevirtual 228, 3), (86, .goto 9, 3), (89, .aload_n 0, 1), (90, .iload_n 2, 1), (91, .iload_n 3, 1), (92, .invokevirtual 228, 3), (95, .ireturn, 1)])]
def rxm_77 : rx_M := ((⟨"AngleChains$Deduction", "triesBisector", "(I)Z"⟩ : MethodName), prog_3_method_26_code, 7, (some .boolean), 3, 1, 1, 2, rxt_77)
def rxt_78 : rx_Tb := [(25, [(0, .iload_n 1, 1), (1, .iconst 0, 1), (2, .invokestatic 163, 3), (5, .istore_n 2, 1), (6, .iload_n 1, 1), (7, .iconst 1, 1), (8, .invokestatic 163, 3), (11, .istore_n 3, 1), (12, .iload_n 1, 1), (13, .iconst 2, 1), (14, .invokestatic 163, 3), (17, .istore 4, 2), (19, .iload_n 1, 1), (20, .iconst 3, 1), (21, .invokestatic 163, 3), (24, .istore 5, 2)]), (54, [(26, .iload_n 1, 1), (27, .iconst 4, 1), (28, .invokestatic 163, 3), (31, .istore 6, 2), (33, .aload_n 0, 1), (34, .iload 5, 2), (36, .iload_n 2, 1), (37, .iload_n 3, 1), (38, .invokevirtual 166, 3), (41, .ifCond .eq 15, 3), (44, .aload_n 0, 1), (45, .iload 6, 2), (47, .iload_n 2, 1), (48, .iload 4, 2), (50, .invokevirtual 166, 3), (53, .ifCond .ne 5, 3)]), (85, [(56, .iconst 0, 1), (57, .ireturn, 1), (58, .aload_n 0, 1), (59, .iload 5, 2), (61, .iload 6, 2), (63, .invokestatic 183, 3), (66, .iload_n 3, 1), (67, .iload 4, 2), (69, .invokestatic 183, 3), (72, .iconst 0, 1), (73, .invokevirtual 173, 3), (76, .aload_n 0, 1), (77, .getfield 12, 3), (80, .invokevirtual 150, 3), (83, .iconst 1, 1), (84, .ireturn, 1)])]
def rxm_78 : rx_M := ((⟨"AngleChains$Deduction", "triesMidline", "(I)Z"⟩ : MethodName), prog_3_method_27_code, 7, (some .boolean), 3, 1, 1, 2, rxt_78)
def rxt_79 : rx_Tb := [(23, [(0, .iload_n 1, 1), (1, .iconst 0, 1), (2, .iconst 1, 1), (3, .invokestatic 139, 3), (6, .istore_n 2, 1), (7, .iload_n 1, 1), (8, .iconst 2, 1), (9, .iconst 3, 1), (10, .invokestatic 139, 3), (13, .istore_n 3, 1), (14, .iload_n 1, 1), (15, .iconst 0, 1), (16, .iconst 2, 1), (17, .invokestatic 139, 3), (20, .istore 4, 2), (22, .iload_n 1, 1)]), (52, [(23, .iconst 1, 1), (24, .iconst 3, 1), (25, .invokestatic 139, 3), (28, .istore 5, 2), (30, .aload_n 0, 1), (31, .iload_n 2, 1), (32, .iload_n 3, 1), (33, .invokevirtual 159, 3), (36, .ifCond .eq 16, 3), (39, .aload_n 0, 1), (40, .iload 4, 2), (42, .iload 5, 2), (44, .invokevirtual 159, 3), (47, .ifCond .eq 5, 3), (50, .iconst 1, 1), (51, .ireturn, 1)]), (78, [(52, .aload_n 0, 1), (53, .iload_n 2, 1), (54, .iload_n 3, 1), (55, .iconst 0, 1), (56, .invokevirtual 221, 3), (59, .ifCond .eq 15, 3), (62, .aload_n 0, 1), (63, .iload 4, 2), (65, .iload 5, 2), (67, .iconst 0, 1), (68, .invokevirtual 221, 3), (71, .ifCond .ne 5, 3), (74, .iconst 0, 1), (75, .ireturn, 1), (76, .aload_n 0, 1), (77, .iload_n 2, 1)]), (92, [(78, .iload_n 3, 1), (79, .invokevirtual 143, 3), (82, .aload_n 0, 1), (83, .iload 4, 2), (85, .iload 5, 2), (87, .invokevirtual 143, 3), (90, .iconst 1, 1), (91, .ireturn, 1)])]
def rxm_79 : rx_M := ((⟨"AngleChains$Deduction", "triesParallelogram", "(I)Z"⟩ : MethodName), prog_3_method_28_code, 6, (some .boolean), 3, 1, 1, 2, rxt_79)
def rxt_80 : rx_Tb := [(63, [(0, .iload_n 1, 1), (1, .invokestatic 126, 3), (4, .tableswitch 93 0 5 #[40, 93, 93, 46, 56, 73], 40), (44, .aload_n 0, 1), (45, .iload_n 1, 1), (46, .invokevirtual 153, 3), (49, .ireturn, 1), (50, .aload_n 0, 1), (51, .iload_n 1, 1), (52, .iconst 4, 1), (53, .invokestatic 129, 3), (56, .invokevirtual 156, 3), (59, .ireturn, 1), (60, .aload_n 0, 1), (61, .iload_n 1, 1), (62, .iconst 0, 1)]), (89, [(63, .iconst 1, 1), (64, .invokestatic 139, 3), (67, .iload_n 1, 1), (68, .iconst 2, 1), (69, .iconst 3, 1), (70, .invokestatic 139, 3), (73, .invokevirtual 159, 3), (76, .ireturn, 1), (77, .aload_n 0, 1), (78, .iload_n 1, 1), (79, .iconst 0, 1), (80, .invokestatic 163, 3), (83, .iload_n 1, 1), (84, .iconst 1, 1), (85, .invokestatic 163, 3), (88, .iload_n 1, 1)]), (110, [(89, .iconst 2, 1), (90, .invokestatic 163, 3), (93, .invokevirtual 166, 3), (96, .ireturn, 1), (97, .aload_n 0, 1), (98, .iload_n 1, 1), (99, .invokevirtual 147, 3), (102, .aload_n 0, 1), (103, .getfield 12, 3), (106, .invokevirtual 169, 3), (109, .ireturn, 1)])]
def rxm_80 : rx_M := ((⟨"AngleChains$Deduction", "shows", "(I)Z"⟩ : MethodName), prog_3_method_6_code, 2, (some .boolean), 3, 1, 1, 2, rxt_80)
def rxt_81 : rx_Tb := [(27, [(0, .aload_n 0, 1), (1, .iload_n 1, 1), (2, .invokevirtual 51, 3), (5, .istore_n 2, 1), (6, .iload_n 2, 1), (7, .iconst (-1), 1), (8, .if_icmp .ne 5, 3), (11, .iconst (-1), 1), (12, .ireturn, 1), (13, .aload_n 0, 1), (14, .getfield 10, 3), (17, .iload_n 2, 1), (18, .invokevirtual 55, 3), (21, .ifCond .ne 6, 3), (24, .bipush (-2), 2), (26, .ireturn, 1)]), (57, [(27, .aload_n 0, 1), (28, .iconst 0, 1), (29, .putfield 68, 3), (32, .aload_n 0, 1), (33, .getfield 25, 3), (36, .aload_n 0, 1), (37, .getfield 58, 3), (40, .invokevirtual 61, 3), (43, .aload_n 0, 1), (44, .getfield 25, 3), (47, .iload_n 2, 1), (48, .invokevirtual 65, 3), (51, .ifCond .ne 5, 3), (54, .iconst 0, 1), (55, .ireturn, 1), (56, .iconst 0, 1)]), (87, [(57, .istore_n 3, 1), (58, .aload_n 0, 1), (59, .getfield 25, 3), (62, .iload_n 3, 1), (63, .invokevirtual 61, 3), (66, .iconst 0, 1), (67, .istore 4, 2), (69, .iload 4, 2), (71, .aload_n 0, 1), (72, .getfield 29, 3), (75, .if_icmp .ge 95, 3), (78, .aload_n 0, 1), (79, .getfield 25, 3), (82, .iload_n 2, 1), (83, .invokevirtual 65, 3), (86, .ifCond .ne 84, 3)]), (119, [(89, .iload_n 3, 1), (90, .istore 5, 2), (92, .iconst 0, 1), (93, .istore 6, 2), (95, .iconst 0, 1), (96, .istore 7, 2), (98, .iload 7, 2), (100, .aload_n 0, 1), (101, .getfield 29, 3), (104, .if_icmp .ge 47, 3), (107, .aload_n 0, 1), (108, .getfield 25, 3), (111, .iload_n 2, 1), (112, .invokevirtual 65, 3), (115, .ifCond .ne 36, 3), (118, .aload_n 0, 1)]), (149, [(119, .getfield 58, 3), (122, .iconst 1, 1), (123, .iload 7, 2), (125, .ishl, 1), (126, .iand, 1), (127, .istore 6, 2), (129, .iload 5, 2), (131, .iload 6, 2), (133, .ior, 1), (134, .istore 5, 2), (136, .aload_n 0, 1), (137, .getfield 25, 3), (140, .iload 5, 2), (142, .invokevirtual 61, 3), (145, .iinc 7 1, 3), (148, .goto (-50), 3)]), (180, [(151, .iload_n 3, 1), (152, .iload 6, 2), (154, .ior, 1), (155, .istore_n 3, 1), (156, .aload_n 0, 1), (157, .getfield 25, 3), (160, .iload_n 3, 1), (161, .invokevirtual 61, 3), (164, .iinc 4 1, 3), (167, .goto (-98), 3), (170, .aload_n 0, 1), (171, .iload_n 3, 1), (172, .putfield 68, 3), (175, .iload_n 3, 1), (176, .invokestatic 71, 3), (179, .ireturn, 1)])]
def rxm_81 : rx_M := ((⟨"AngleChains", "needs", "(I)I"⟩ : MethodName), prog_1_method_8_code, 8, (some .int), 1, 1, 1, 0, rxt_81)
def rxt_82 : rx_Tb := [(23, [(0, .iconst 0, 1), (1, .istore_n 2, 1), (2, .iconst 0, 1), (3, .istore_n 3, 1), (4, .iload_n 3, 1), (5, .bipush 30, 2), (7, .if_icmp .ge 30, 3), (10, .aload_n 0, 1), (11, .getfield 68, 3), (14, .iload_n 3, 1), (15, .ishr, 1), (16, .iconst 1, 1), (17, .iand, 1), (18, .ifCond .eq 13, 3), (21, .iload_n 2, 1), (22, .iload_n 1, 1)]), (39, [(23, .if_icmp .ne 5, 3), (26, .iload_n 3, 1), (27, .ireturn, 1), (28, .iinc 2 1, 3), (31, .iinc 3 1, 3), (34, .goto (-30), 3), (37, .iconst (-1), 1), (38, .ireturn, 1)])]
def rxm_82 : rx_M := ((⟨"AngleChains", "need", "(I)I"⟩ : MethodName), prog_1_method_9_code, 4, (some .int), 1, 1, 1, 0, rxt_82)
def rxt_83 : rx_Tb := [(30, [(0, .aload_n 0, 1), (1, .getfield 10, 3), (4, .iload_n 1, 1), (5, .invokevirtual 41, 3), (8, .ifCond .eq 19, 3), (11, .aload_n 0, 1), (12, .getfield 10, 3), (15, .iload_n 2, 1), (16, .invokevirtual 41, 3), (19, .ifCond .eq 8, 3), (22, .iload_n 1, 1), (23, .iload_n 2, 1), (24, .if_icmp .ne 5, 3), (27, .iconst 0, 1), (28, .ireturn, 1), (29, .aload_n 0, 1)]), (50, [(30, .getfield 25, 3), (33, .aload_n 0, 1), (34, .getfield 58, 3), (37, .invokevirtual 61, 3), (40, .aload_n 0, 1), (41, .getfield 25, 3), (44, .iload_n 1, 1), (45, .iload_n 2, 1), (46, .invokevirtual 76, 3), (49, .ireturn, 1)])]
def rxm_83 : rx_M := ((⟨"AngleChains", "line", "(II)I"⟩ : MethodName), prog_1_method_10_code, 3, (some .int), 1, 1, 2, 0, rxt_83)
def rxt_84 : rx_Tb := [(11, [(0, .aload_n 0, 1), (1, .getfield 18, 3), (4, .iload_n 1, 1), (5, .iload_n 2, 1), (6, .invokestatic 183, 3), (9, .iaload, 1), (10, .ireturn, 1)])]
def rxm_84 : rx_M := ((⟨"AngleChains$Deduction", "lineBits", "(II)I"⟩ : MethodName), prog_3_method_29_code, 3, (some .int), 3, 1, 2, 2, rxt_84)
def rxt_85 : rx_Tb := [(34, [(0, .aload_n 0, 1), (1, .getfield 10, 3), (4, .iload_n 1, 1), (5, .invokevirtual 41, 3), (8, .ifCond .eq 25, 3), (11, .aload_n 0, 1), (12, .getfield 10, 3), (15, .iload_n 2, 1), (16, .invokevirtual 41, 3), (19, .ifCond .eq 14, 3), (22, .aload_n 0, 1), (23, .getfield 10, 3), (26, .iload_n 3, 1), (27, .invokevirtual 41, 3), (30, .ifCond .ne 5, 3), (33, .iconst 0, 1)]), (62, [(34, .ireturn, 1), (35, .aload_n 0, 1), (36, .getfield 10, 3), (39, .iload_n 1, 1), (40, .iload_n 2, 1), (41, .iload_n 3, 1), (42, .invokevirtual 79, 3), (45, .ifCond .eq 5, 3), (48, .iconst 0, 1), (49, .ireturn, 1), (50, .aload_n 0, 1), (51, .getfield 25, 3), (54, .aload_n 0, 1), (55, .getfield 58, 3), (58, .invokevirtual 61, 3), (61, .aload_n 0, 1)]), (72, [(62, .getfield 25, 3), (65, .iload_n 1, 1), (66, .iload_n 2, 1), (67, .iload_n 3, 1), (68, .invokevirtual 83, 3), (71, .ireturn, 1)])]
def rxm_85 : rx_M := ((⟨"AngleChains", "circle", "(III)I"⟩ : MethodName), prog_1_method_11_code, 4, (some .int), 1, 1, 3, 0, rxt_85)
def rxt_86 : rx_Tb := [(17, [(0, .aload_n 0, 1), (1, .getfield 28, 3), (4, .iconst 1, 1), (5, .iload_n 1, 1), (6, .ishl, 1), (7, .iconst 1, 1), (8, .iload_n 2, 1), (9, .ishl, 1), (10, .ior, 1), (11, .iconst 1, 1), (12, .iload_n 3, 1), (13, .ishl, 1), (14, .ior, 1), (15, .iaload, 1), (16, .ireturn, 1)])]
def rxm_86 : rx_M := ((⟨"AngleChains$Deduction", "circleBits", "(III)I"⟩ : MethodName), prog_3_method_30_code, 4, (some .int), 3, 1, 3, 2, rxt_86)
def rxt_87 : rx_Tb := [(30, [(0, .aload_n 0, 1), (1, .getfield 10, 3), (4, .iload_n 1, 1), (5, .invokevirtual 41, 3), (8, .ifCond .eq 19, 3), (11, .aload_n 0, 1), (12, .getfield 10, 3), (15, .iload_n 2, 1), (16, .invokevirtual 41, 3), (19, .ifCond .eq 8, 3), (22, .iload_n 1, 1), (23, .iload_n 2, 1), (24, .if_icmp .ne 5, 3), (27, .iconst (-1), 1), (28, .ireturn, 1), (29, .aload_n 0, 1)]), (50, [(30, .getfield 25, 3), (33, .aload_n 0, 1), (34, .getfield 58, 3), (37, .invokevirtual 61, 3), (40, .aload_n 0, 1), (41, .getfield 25, 3), (44, .iload_n 1, 1), (45, .iload_n 2, 1), (46, .invokevirtual 87, 3), (49, .ireturn, 1)])]
def rxm_87 : rx_M := ((⟨"AngleChains", "length", "(II)I"⟩ : MethodName), prog_1_method_12_code, 3, (some .int), 1, 1, 2, 0, rxt_87)
def rxt_88 : rx_Tb := [(28, [(0, .getstatic 89, 3), (3, .aload_n 0, 1), (4, .getfield 25, 3), (7, .iload_n 1, 1), (8, .iload_n 2, 1), (9, .invokestatic 183, 3), (12, .iaload, 1), (13, .iaload, 1), (14, .istore_n 3, 1), (15, .iload_n 3, 1), (16, .invokestatic 110, 3), (19, .istore 4, 2), (21, .bipush 31, 2), (23, .iload_n 3, 1), (24, .invokestatic 116, 3), (27, .isub, 1)]), (39, [(28, .istore 5, 2), (30, .bipush 12, 2), (32, .iload 4, 2), (34, .imul, 1), (35, .iload 5, 2), (37, .iadd, 1), (38, .ireturn, 1)])]
def rxm_88 : rx_M := ((⟨"AngleChains$Deduction", "leastPair", "(II)I"⟩ : MethodName), prog_3_method_31_code, 6, (some .int), 3, 1, 2, 2, rxt_88)
def rxt_89 : rx_Tb := [(73, [(0, .iload_n 1, 1), (1, .iconst 4, 1), (2, .if_icmp .lt 20, 3), (5, .iload_n 1, 1), (6, .bipush 7, 2), (8, .if_icmp .gt 14, 3), (11, .aload_n 0, 1), (12, .getfield 25, 3), (15, .aload_n 0, 1), (16, .getfield 58, 3), (19, .invokevirtual 61, 3), (22, .iload_n 1, 1), (23, .tableswitch 103 0 7 #[45, 53, 58, 66, 71, 79, 87, 95], 45), (68, .aload_n 0, 1), (69, .getfield 10, 3), (72, .getfield 90, 3)]), (103, [(75, .ireturn, 1), (76, .aload_n 0, 1), (77, .getfield 29, 3), (80, .ireturn, 1), (81, .aload_n 0, 1), (82, .getfield 58, 3), (85, .invokestatic 71, 3), (88, .ireturn, 1), (89, .aload_n 0, 1), (90, .getfield 45, 3), (93, .ireturn, 1), (94, .aload_n 0, 1), (95, .getfield 25, 3), (98, .invokevirtual 93, 3), (101, .ireturn, 1), (102, .aload_n 0, 1)]), (128, [(103, .getfield 25, 3), (106, .invokevirtual 97, 3), (109, .ireturn, 1), (110, .aload_n 0, 1), (111, .getfield 25, 3), (114, .invokevirtual 100, 3), (117, .ireturn, 1), (118, .aload_n 0, 1), (119, .getfield 25, 3), (122, .invokevirtual 103, 3), (125, .ireturn, 1), (126, .iconst (-1), 1), (127, .ireturn, 1)])]
def rxm_89 : rx_M := ((⟨"AngleChains", "told", "(I)I"⟩ : MethodName), prog_1_method_13_code, 2, (some .int), 1, 1, 1, 0, rxt_89)
def rxt_90 : rx_Tb := [(25, [(0, .iconst 0, 1), (1, .istore_n 1, 1), (2, .iconst 0, 1), (3, .istore_n 2, 1), (4, .iload_n 2, 1), (5, .bipush 21, 2), (7, .if_icmp .ge 30, 3), (10, .aload_n 0, 1), (11, .iload_n 2, 1), (12, .invokevirtual 231, 3), (15, .ifCond .eq 16, 3), (18, .aload_n 0, 1), (19, .getfield 22, 3), (22, .iload_n 2, 1), (23, .iaload, 1), (24, .iload_n 2, 1)]), (39, [(25, .if_icmp .ne 6, 3), (28, .iinc 1 1, 3), (31, .iinc 2 1, 3), (34, .goto (-30), 3), (37, .iload_n 1, 1), (38, .ireturn, 1)])]
def rxm_90 : rx_M := ((⟨"AngleChains$Deduction", "countLines", "()I"⟩ : MethodName), prog_3_method_33_code, 3, (some .int), 3, 1, 0, 2, rxt_90)
def rxt_91 : rx_Tb := [(23, [(0, .getstatic 89, 3), (3, .iload_n 1, 1), (4, .iaload, 1), (5, .iconst 1, 1), (6, .aload_n 0, 1), (7, .getfield 40, 3), (10, .getfield 54, 3), (13, .ishl, 1), (14, .if_icmp .ge 7, 3), (17, .iconst 1, 1), (18, .goto 4, 3), (21, .iconst 0, 1), (22, .ireturn, 1)])]
def rxm_91 : rx_M := ((⟨"AngleChains$Deduction", "isThere", "(I)Z"⟩ : MethodName), prog_3_method_32_code, 2, (some .boolean), 3, 1, 1, 2, rxt_91)
def rxt_92 : rx_Tb := [(26, [(0, .iconst 0, 1), (1, .istore_n 1, 1), (2, .iconst 0, 1), (3, .istore_n 2, 1), (4, .iload_n 2, 1), (5, .getstatic 92, 3), (8, .arraylength, 1), (9, .if_icmp .ge 43, 3), (12, .aload_n 0, 1), (13, .getfield 28, 3), (16, .getstatic 92, 3), (19, .iload_n 2, 1), (20, .iaload, 1), (21, .iaload, 1), (22, .getstatic 92, 3), (25, .iload_n 2, 1)]), (54, [(26, .iaload, 1), (27, .iconst (-1), 1), (28, .ixor, 1), (29, .iand, 1), (30, .istore_n 3, 1), (31, .iload_n 3, 1), (32, .invokestatic 234, 3), (35, .getstatic 92, 3), (38, .iload_n 2, 1), (39, .iaload, 1), (40, .if_icmp .le 6, 3), (43, .iinc 1 1, 3), (46, .iinc 2 1, 3), (49, .goto (-45), 3), (52, .iload_n 1, 1), (53, .ireturn, 1)])]
def rxm_92 : rx_M := ((⟨"AngleChains$Deduction", "countWideCircles", "()I"⟩ : MethodName), prog_3_method_35_code, 4, (some .int), 3, 1, 0, 2, rxt_92)
def rxt_93 : rx_Tb := [(5, [(0, .iload_n 0, 1), (1, .iload_n 0, 1), (2, .ineg, 1), (3, .iand, 1), (4, .ireturn, 1)])]
def rxm_93 : rx_M := ((⟨"java/lang/Integer", "lowestOneBit", "(I)I"⟩ : MethodName), prog_8_method_46_code, 1, (some .int), 6, 0, 1, 0, rxt_93)
def rxt_94 : rx_Tb := [(25, [(0, .iconst 0, 1), (1, .istore_n 1, 1), (2, .iconst 0, 1), (3, .istore_n 2, 1), (4, .iload_n 2, 1), (5, .bipush 21, 2), (7, .if_icmp .ge 30, 3), (10, .aload_n 0, 1), (11, .iload_n 2, 1), (12, .invokevirtual 231, 3), (15, .ifCond .eq 16, 3), (18, .aload_n 0, 1), (19, .getfield 25, 3), (22, .iload_n 2, 1), (23, .iaload, 1), (24, .iload_n 2, 1)]), (39, [(25, .if_icmp .ne 6, 3), (28, .iinc 1 1, 3), (31, .iinc 2 1, 3), (34, .goto (-30), 3), (37, .iload_n 1, 1), (38, .ireturn, 1)])]
def rxm_94 : rx_M := ((⟨"AngleChains$Deduction", "countLengths", "()I"⟩ : MethodName), prog_3_method_34_code, 3, (some .int), 3, 1, 0, 2, rxt_94)
def rxt_95 : rx_Tb := [(27, [(0, .iconst 0, 1), (1, .istore_n 1, 1), (2, .iconst 0, 1), (3, .istore_n 2, 1), (4, .iload_n 2, 1), (5, .bipush 21, 2), (7, .if_icmp .ge 22, 3), (10, .aload_n 0, 1), (11, .getfield 22, 3), (14, .iload_n 2, 1), (15, .iaload, 1), (16, .iload_n 2, 1), (17, .if_icmp .eq 6, 3), (20, .iinc 1 1, 3), (23, .iinc 2 1, 3), (26, .goto (-22), 3)]), (39, [(29, .aload_n 0, 1), (30, .getfield 12, 3), (33, .getfield 237, 3), (36, .iload_n 1, 1), (37, .isub, 1), (38, .ireturn, 1)])]
def rxm_95 : rx_M := ((⟨"AngleChains$Deduction", "countRows", "()I"⟩ : MethodName), prog_3_method_36_code, 3, (some .int), 3, 1, 0, 2, rxt_95)
def rxt_96 : rx_Tb := [(30, [(0, .aload_n 0, 1), (1, .invokespecial 1, 3), (4, .aload_n 0, 1), (5, .bipush 12, 2), (7, .newarray .int, 2), (9, .putfield 7, 3), (12, .aload_n 0, 1), (13, .bipush 12, 2), (15, .newarray .int, 2), (17, .putfield 13, 3), (20, .aload_n 0, 1), (21, .bipush 8, 2), (23, .newarray .int, 2), (25, .putfield 16, 3), (28, .aload_n 0, 1), (29, .bipush 40, 2)]), (63, [(31, .newarray .int, 2), (33, .putfield 19, 3), (36, .aload_n 0, 1), (37, .sipush 320, 3), (40, .newarray .int, 2), (42, .putfield 22, 3), (45, .aload_n 0, 1), (46, .bipush 40, 2), (48, .newarray .boolean, 2), (50, .putfield 25, 3), (53, .aload_n 0, 1), (54, .bipush 40, 2), (56, .newarray .boolean, 2), (58, .putfield 29, 3), (61, .aload_n 0, 1), (62, .bipush 40, 2)]), (98, [(64, .newarray .int, 2), (66, .putfield 32, 3), (69, .aload_n 0, 1), (70, .sipush 144, 3), (73, .newarray .int, 2), (75, .putfield 35, 3), (78, .aload_n 0, 1), (79, .sipush 1728, 3), (82, .newarray .int, 2), (84, .putfield 38, 3), (87, .aload_n 0, 1), (88, .sipush 144, 3), (91, .newarray .int, 2), (93, .putfield 41, 3), (96, .aload_n 0, 1), (97, .sipush 144, 3)]), (132, [(100, .newarray .int, 2), (102, .putfield 44, 3), (105, .aload_n 0, 1), (106, .sipush 484, 3), (109, .newarray .long, 2), (111, .putfield 47, 3), (114, .aload_n 0, 1), (115, .bipush 22, 2), (117, .newarray .boolean, 2), (119, .putfield 51, 3), (122, .aload_n 0, 1), (123, .bipush 22, 2), (125, .newarray .long, 2), (127, .putfield 54, 3), (130, .aload_n 0, 1), (131, .bipush 22, 2)]), (166, [(133, .newarray .long, 2), (135, .putfield 57, 3), (138, .aload_n 0, 1), (139, .sipush 484, 3), (142, .newarray .long, 2), (144, .putfield 60, 3), (147, .aload_n 0, 1), (148, .bipush 22, 2), (150, .newarray .boolean, 2), (152, .putfield 63, 3), (155, .aload_n 0, 1), (156, .sipush 144, 3), (159, .newarray .int, 2), (161, .putfield 66, 3), (164, .aload_n 0, 1), (165, .bipush 22, 2)]), (200, [(167, .newarray .int, 2), (169, .putfield 69, 3), (172, .aload_n 0, 1), (173, .sipush 10000, 3), (176, .newarray .long, 2), (178, .putfield 72, 3), (181, .aload_n 0, 1), (182, .sipush 441, 3), (185, .newarray .int, 2), (187, .putfield 75, 3), (190, .aload_n 0, 1), (191, .sipush 2048, 3), (194, .newarray .int, 2), (196, .putfield 78, 3), (199, .return_, 1)])]
def rxm_96 : rx_M := ((⟨"AngleChainsModel", "<init>", "()V"⟩ : MethodName), prog_7_method_1_code, 1, none, 9, 2, 0, 5, rxt_96)
def rxt_97 : rx_Tb := [(33, [(0, .aload_n 0, 1), (1, .iconst 0, 1), (2, .putfield 81, 3), (5, .aload_n 0, 1), (6, .getfield 114, 3), (9, .bipush 7, 2), (11, .if_icmp .eq 38, 3), (14, .iload_n 1, 1), (15, .sipush (-1000), 3), (18, .if_icmp .lt 31, 3), (21, .iload_n 1, 1), (22, .sipush 1000, 3), (25, .if_icmp .gt 24, 3), (28, .iload_n 2, 1), (29, .sipush (-1000), 3), (32, .if_icmp .lt 17, 3)]), (63, [(35, .iload_n 2, 1), (36, .sipush 1000, 3), (39, .if_icmp .gt 10, 3), (42, .aload_n 0, 1), (43, .getfield 117, 3), (46, .ifCond .le 5, 3), (49, .iconst (-1), 1), (50, .ireturn, 1), (51, .iconst 0, 1), (52, .istore_n 3, 1), (53, .iload_n 3, 1), (54, .aload_n 0, 1), (55, .getfield 114, 3), (58, .if_icmp .ge 31, 3), (61, .aload_n 0, 1), (62, .getfield 7, 3)]), (91, [(65, .iload_n 3, 1), (66, .iaload, 1), (67, .iload_n 1, 1), (68, .if_icmp .ne 15, 3), (71, .aload_n 0, 1), (72, .getfield 13, 3), (75, .iload_n 3, 1), (76, .iaload, 1), (77, .iload_n 2, 1), (78, .if_icmp .ne 5, 3), (81, .iconst (-1), 1), (82, .ireturn, 1), (83, .iinc 3 1, 3), (86, .goto (-33), 3), (89, .aload_n 0, 1), (90, .getfield 7, 3)]), (117, [(93, .aload_n 0, 1), (94, .getfield 114, 3), (97, .iload_n 1, 1), (98, .iastore, 1), (99, .aload_n 0, 1), (100, .getfield 13, 3), (103, .aload_n 0, 1), (104, .getfield 114, 3), (107, .iload_n 2, 1), (108, .iastore, 1), (109, .aload_n 0, 1), (110, .dup, 1), (111, .getfield 114, 3), (114, .iconst 1, 1), (115, .iadd, 1), (116, .putfield 114, 3)]), (131, [(119, .aload_n 0, 1), (120, .iconst 0, 1), (121, .putfield 120, 3), (124, .aload_n 0, 1), (125, .getfield 114, 3), (128, .iconst 1, 1), (129, .isub, 1), (130, .ireturn, 1)])]
def rxm_97 : rx_M := ((⟨"AngleChainsModel", "point", "(II)I"⟩ : MethodName), prog_7_method_12_code, 4, (some .int), 9, 1, 2, 5, rxt_97)
def rxt_98 : rx_Tb := [(29, [(0, .aload_n 0, 1), (1, .iconst 0, 1), (2, .putfield 81, 3), (5, .iload_n 1, 1), (6, .ifCond .lt 20, 3), (9, .iload_n 1, 1), (10, .aload_n 0, 1), (11, .getfield 114, 3), (14, .if_icmp .ge 12, 3), (17, .aload_n 0, 1), (18, .getfield 108, 3), (21, .bipush 8, 2), (23, .if_icmp .ne 5, 3), (26, .iconst (-1), 1), (27, .ireturn, 1), (28, .aload_n 0, 1)]), (53, [(29, .getfield 16, 3), (32, .aload_n 0, 1), (33, .getfield 108, 3), (36, .iload_n 1, 1), (37, .iastore, 1), (38, .aload_n 0, 1), (39, .dup, 1), (40, .getfield 108, 3), (43, .iconst 1, 1), (44, .iadd, 1), (45, .putfield 108, 3), (48, .aload_n 0, 1), (49, .getfield 108, 3), (52, .ireturn, 1)])]
def rxm_98 : rx_M := ((⟨"AngleChainsModel", "of", "(I)I"⟩ : MethodName), prog_7_method_13_code, 2, (some .int), 9, 1, 1, 5, rxt_98)
def rxt_99 : rx_Tb := [(28, [(0, .aload_n 0, 1), (1, .iconst 0, 1), (2, .putfield 81, 3), (5, .aload_n 0, 1), (6, .iload_n 1, 1), (7, .invokevirtual 124, 3), (10, .istore_n 2, 1), (11, .iload_n 2, 1), (12, .ifCond .eq 15, 3), (15, .aload_n 0, 1), (16, .iload_n 1, 1), (17, .invokevirtual 128, 3), (20, .ifCond .eq 7, 3), (23, .iconst 1, 1), (24, .goto 4, 3), (27, .iconst 0, 1)]), (52, [(28, .istore_n 3, 1), (29, .aload_n 0, 1), (30, .iconst 0, 1), (31, .putfield 108, 3), (34, .iload_n 2, 1), (35, .ifCond .ne 7, 3), (38, .iconst (-1), 1), (39, .goto 12, 3), (42, .iload_n 3, 1), (43, .ifCond .eq 7, 3), (46, .iconst 1, 1), (47, .goto 4, 3), (50, .iconst 0, 1), (51, .ireturn, 1)])]
def rxm_99 : rx_M := ((⟨"AngleChainsModel", "isTrue", "(I)I"⟩ : MethodName), prog_7_method_14_code, 4, (some .int), 9, 1, 1, 5, rxt_99)
def rxt_100 : rx_Tb := [(27, [(0, .iload_n 1, 1), (1, .ifCond .lt 20, 3), (4, .iload_n 1, 1), (5, .bipush 7, 2), (7, .if_icmp .ge 14, 3), (10, .aload_n 0, 1), (11, .getfield 108, 3), (14, .iload_n 1, 1), (15, .invokestatic 111, 3), (18, .if_icmp .eq 5, 3), (21, .iconst 0, 1), (22, .ireturn, 1), (23, .iconst 1, 1), (24, .istore_n 2, 1), (25, .iconst 0, 1), (26, .istore_n 3, 1)]), (55, [(27, .iload_n 3, 1), (28, .aload_n 0, 1), (29, .getfield 108, 3), (32, .if_icmp .ge 93, 3), (35, .iload_n 3, 1), (36, .iconst 1, 1), (37, .iadd, 1), (38, .istore 4, 2), (40, .iload 4, 2), (42, .aload_n 0, 1), (43, .getfield 108, 3), (46, .if_icmp .ge 73, 3), (49, .iload_n 1, 1), (50, .ifCond .eq 27, 3), (53, .iload_n 1, 1), (54, .iconst 3, 1)]), (82, [(55, .if_icmp .eq 22, 3), (58, .iload_n 1, 1), (59, .iconst 5, 1), (60, .if_icmp .eq 17, 3), (63, .iload_n 3, 1), (64, .iconst 2, 1), (65, .irem, 1), (66, .ifCond .ne 15, 3), (69, .iload 4, 2), (71, .iload_n 3, 1), (72, .iconst 1, 1), (73, .iadd, 1), (74, .if_icmp .ne 7, 3), (77, .iconst 1, 1), (78, .goto 4, 3), (81, .iconst 0, 1)]), (111, [(82, .istore 5, 2), (84, .iload_n 2, 1), (85, .iload 5, 2), (87, .ifCond .eq 19, 3), (90, .aload_n 0, 1), (91, .getfield 16, 3), (94, .iload_n 3, 1), (95, .iaload, 1), (96, .aload_n 0, 1), (97, .getfield 16, 3), (100, .iload 4, 2), (102, .iaload, 1), (103, .if_icmp .eq 7, 3), (106, .iconst 1, 1), (107, .goto 4, 3), (110, .iconst 0, 1)]), (127, [(111, .iand, 1), (112, .istore_n 2, 1), (113, .iinc 4 1, 3), (116, .goto (-76), 3), (119, .iinc 3 1, 3), (122, .goto (-95), 3), (125, .iload_n 2, 1), (126, .ireturn, 1)])]
def rxm_100 : rx_M := ((⟨"AngleChainsModel", "isFact", "(I)Z"⟩ : MethodName), prog_7_method_11_code, 6, (some .boolean), 9, 1, 1, 5, rxt_100)
def rxt_101 : rx_Tb := [(26, [(0, .iload_n 0, 1), (1, .ifCond .eq 8, 3), (4, .iload_n 0, 1), (5, .iconst 5, 1), (6, .if_icmp .ne 7, 3), (9, .iconst 3, 1), (10, .goto 15, 3), (13, .iload_n 0, 1), (14, .bipush 6, 2), (16, .if_icmp .ne 8, 3), (19, .bipush 8, 2), (21, .goto 4, 3), (24, .iconst 4, 1), (25, .ireturn, 1)])]
def rxm_101 : rx_M := ((⟨"AngleChainsModel", "pointsOf", "(I)I"⟩ : MethodName), prog_7_method_10_code, 1, (some .int), 9, 0, 1, 5, rxt_101)
def rxt_102 : rx_Tb := [(64, [(0, .iload_n 1, 1), (1, .tableswitch 298 0 5 #[39, 67, 102, 137, 162, 220], 39), (40, .aload_n 0, 1), (41, .aload_n 0, 1), (42, .iconst 0, 1), (43, .invokevirtual 96, 3), (46, .aload_n 0, 1), (47, .iconst 1, 1), (48, .invokevirtual 96, 3), (51, .aload_n 0, 1), (52, .iconst 2, 1), (53, .invokevirtual 96, 3), (56, .invokevirtual 89, 3), (59, .ifCond .ne 7, 3), (62, .iconst 1, 1), (63, .goto 4, 3)]), (90, [(66, .iconst 0, 1), (67, .ireturn, 1), (68, .aload_n 0, 1), (69, .aload_n 0, 1), (70, .iconst 0, 1), (71, .invokevirtual 96, 3), (74, .aload_n 0, 1), (75, .iconst 1, 1), (76, .invokevirtual 96, 3), (79, .aload_n 0, 1), (80, .iconst 2, 1), (81, .invokevirtual 96, 3), (84, .aload_n 0, 1), (85, .iconst 3, 1), (86, .invokevirtual 96, 3), (89, .invokevirtual 85, 3)]), (116, [(92, .lconst 0, 1), (93, .lcmp, 1), (94, .ifCond .ne 7, 3), (97, .iconst 1, 1), (98, .goto 4, 3), (101, .iconst 0, 1), (102, .ireturn, 1), (103, .aload_n 0, 1), (104, .aload_n 0, 1), (105, .iconst 0, 1), (106, .invokevirtual 96, 3), (109, .aload_n 0, 1), (110, .iconst 1, 1), (111, .invokevirtual 96, 3), (114, .aload_n 0, 1), (115, .iconst 2, 1)]), (142, [(116, .invokevirtual 96, 3), (119, .aload_n 0, 1), (120, .iconst 3, 1), (121, .invokevirtual 96, 3), (124, .invokevirtual 93, 3), (127, .lconst 0, 1), (128, .lcmp, 1), (129, .ifCond .ne 7, 3), (132, .iconst 1, 1), (133, .goto 4, 3), (136, .iconst 0, 1), (137, .ireturn, 1), (138, .aload_n 0, 1), (139, .aload_n 0, 1), (140, .iconst 0, 1), (141, .invokevirtual 96, 3)]), (170, [(144, .aload_n 0, 1), (145, .iconst 1, 1), (146, .invokevirtual 96, 3), (149, .aload_n 0, 1), (150, .iconst 2, 1), (151, .invokevirtual 96, 3), (154, .aload_n 0, 1), (155, .iconst 3, 1), (156, .invokevirtual 96, 3), (159, .invokevirtual 100, 3), (162, .ireturn, 1), (163, .aload_n 0, 1), (164, .aload_n 0, 1), (165, .iconst 0, 1), (166, .invokevirtual 96, 3), (169, .aload_n 0, 1)]), (196, [(170, .iconst 1, 1), (171, .invokevirtual 96, 3), (174, .aload_n 0, 1), (175, .iconst 0, 1), (176, .invokevirtual 96, 3), (179, .aload_n 0, 1), (180, .iconst 1, 1), (181, .invokevirtual 96, 3), (184, .invokevirtual 93, 3), (187, .aload_n 0, 1), (188, .aload_n 0, 1), (189, .iconst 2, 1), (190, .invokevirtual 96, 3), (193, .aload_n 0, 1), (194, .iconst 3, 1), (195, .invokevirtual 96, 3)]), (224, [(198, .aload_n 0, 1), (199, .iconst 2, 1), (200, .invokevirtual 96, 3), (203, .aload_n 0, 1), (204, .iconst 3, 1), (205, .invokevirtual 96, 3), (208, .invokevirtual 93, 3), (211, .lcmp, 1), (212, .ifCond .ne 7, 3), (215, .iconst 1, 1), (216, .goto 4, 3), (219, .iconst 0, 1), (220, .ireturn, 1), (221, .iconst 2, 1), (222, .aload_n 0, 1), (223, .getfield 7, 3)]), (250, [(226, .aload_n 0, 1), (227, .iconst 0, 1), (228, .invokevirtual 96, 3), (231, .iaload, 1), (232, .imul, 1), (233, .aload_n 0, 1), (234, .getfield 7, 3), (237, .aload_n 0, 1), (238, .iconst 1, 1), (239, .invokevirtual 96, 3), (242, .iaload, 1), (243, .aload_n 0, 1), (244, .getfield 7, 3), (247, .aload_n 0, 1), (248, .iconst 2, 1), (249, .invokevirtual 96, 3)]), (276, [(252, .iaload, 1), (253, .iadd, 1), (254, .if_icmp .ne 43, 3), (257, .iconst 2, 1), (258, .aload_n 0, 1), (259, .getfield 13, 3), (262, .aload_n 0, 1), (263, .iconst 0, 1), (264, .invokevirtual 96, 3), (267, .iaload, 1), (268, .imul, 1), (269, .aload_n 0, 1), (270, .getfield 13, 3), (273, .aload_n 0, 1), (274, .iconst 1, 1), (275, .invokevirtual 96, 3)]), (302, [(278, .iaload, 1), (279, .aload_n 0, 1), (280, .getfield 13, 3), (283, .aload_n 0, 1), (284, .iconst 2, 1), (285, .invokevirtual 96, 3), (288, .iaload, 1), (289, .iadd, 1), (290, .if_icmp .ne 7, 3), (293, .iconst 1, 1), (294, .goto 4, 3), (297, .iconst 0, 1), (298, .ireturn, 1), (299, .aload_n 0, 1), (300, .aload_n 0, 1), (301, .iconst 0, 1)]), (328, [(302, .invokevirtual 96, 3), (305, .aload_n 0, 1), (306, .iconst 1, 1), (307, .invokevirtual 96, 3), (310, .aload_n 0, 1), (311, .iconst 2, 1), (312, .invokevirtual 96, 3), (315, .aload_n 0, 1), (316, .iconst 3, 1), (317, .invokevirtual 96, 3), (320, .aload_n 0, 1), (321, .iconst 4, 1), (322, .invokevirtual 96, 3), (325, .aload_n 0, 1), (326, .iconst 5, 1), (327, .invokevirtual 96, 3)]), (346, [(330, .aload_n 0, 1), (331, .bipush 6, 2), (333, .invokevirtual 96, 3), (336, .aload_n 0, 1), (337, .bipush 7, 2), (339, .invokevirtual 96, 3), (342, .invokevirtual 104, 3), (345, .ireturn, 1)])]
def rxm_102 : rx_M := ((⟨"AngleChainsModel", "holds", "(I)Z"⟩ : MethodName), prog_7_method_9_code, 2, (some .boolean), 9, 1, 1, 5, rxt_102)
def rxt_103 : rx_Tb := [(7, [(0, .aload_n 0, 1), (1, .getfield 16, 3), (4, .iload_n 1, 1), (5, .iaload, 1), (6, .ireturn, 1)])]
def rxm_103 : rx_M := ((⟨"AngleChainsModel", "p", "(I)I"⟩ : MethodName), prog_7_method_8_code, 2, (some .int), 9, 1, 1, 5, rxt_103)
def rxt_104 : rx_Tb := [(19, [(0, .aload_n 0, 1), (1, .iload_n 1, 1), (2, .iload_n 2, 1), (3, .iload_n 1, 1), (4, .iload_n 3, 1), (5, .invokevirtual 85, 3), (8, .lconst 0, 1), (9, .lcmp, 1), (10, .ifCond .eq 7, 3), (13, .iconst 1, 1), (14, .goto 4, 3), (17, .iconst 0, 1), (18, .ireturn, 1)])]
def rxm_104 : rx_M := ((⟨"AngleChainsModel", "isProper", "(III)Z"⟩ : MethodName), prog_7_method_5_code, 4, (some .boolean), 9, 1, 3, 5, rxt_104)
def rxt_105 : rx_Tb := [(23, [(0, .aload_n 0, 1), (1, .getfield 7, 3), (4, .iload_n 2, 1), (5, .iaload, 1), (6, .aload_n 0, 1), (7, .getfield 7, 3), (10, .iload_n 1, 1), (11, .iaload, 1), (12, .isub, 1), (13, .i2l, 1), (14, .aload_n 0, 1), (15, .getfield 13, 3), (18, .iload 4, 2), (20, .iaload, 1), (21, .aload_n 0, 1), (22, .getfield 13, 3)]), (45, [(25, .iload_n 3, 1), (26, .iaload, 1), (27, .isub, 1), (28, .i2l, 1), (29, .lmul, 1), (30, .aload_n 0, 1), (31, .getfield 13, 3), (34, .iload_n 2, 1), (35, .iaload, 1), (36, .aload_n 0, 1), (37, .getfield 13, 3), (40, .iload_n 1, 1), (41, .iaload, 1), (42, .isub, 1), (43, .i2l, 1), (44, .aload_n 0, 1)]), (62, [(45, .getfield 7, 3), (48, .iload 4, 2), (50, .iaload, 1), (51, .aload_n 0, 1), (52, .getfield 7, 3), (55, .iload_n 3, 1), (56, .iaload, 1), (57, .isub, 1), (58, .i2l, 1), (59, .lmul, 1), (60, .lsub, 1), (61, .lreturn, 1)])]
def rxm_105 : rx_M := ((⟨"AngleChainsModel", "cross", "(IIII)J"⟩ : MethodName), prog_7_method_3_code, 5, (some .long), 9, 1, 4, 5, rxt_105)
def rxt_106 : rx_Tb := [(23, [(0, .aload_n 0, 1), (1, .getfield 7, 3), (4, .iload_n 2, 1), (5, .iaload, 1), (6, .aload_n 0, 1), (7, .getfield 7, 3), (10, .iload_n 1, 1), (11, .iaload, 1), (12, .isub, 1), (13, .i2l, 1), (14, .aload_n 0, 1), (15, .getfield 7, 3), (18, .iload 4, 2), (20, .iaload, 1), (21, .aload_n 0, 1), (22, .getfield 7, 3)]), (45, [(25, .iload_n 3, 1), (26, .iaload, 1), (27, .isub, 1), (28, .i2l, 1), (29, .lmul, 1), (30, .aload_n 0, 1), (31, .getfield 13, 3), (34, .iload_n 2, 1), (35, .iaload, 1), (36, .aload_n 0, 1), (37, .getfield 13, 3), (40, .iload_n 1, 1), (41, .iaload, 1), (42, .isub, 1), (43, .i2l, 1), (44, .aload_n 0, 1)]), (62, [(45, .getfield 13, 3), (48, .iload 4, 2), (50, .iaload, 1), (51, .aload_n 0, 1), (52, .getfield 13, 3), (55, .iload_n 3, 1), (56, .iaload, 1), (57, .isub, 1), (58, .i2l, 1), (59, .lmul, 1), (60, .ladd, 1), (61, .lreturn, 1)])]
def rxm_106 : rx_M := ((⟨"AngleChainsModel", "dot", "(IIII)J"⟩ : MethodName), prog_7_method_4_code, 5, (some .long), 9, 1, 4, 5, rxt_106)
def rxt_107 : rx_Tb := [(26, [(0, .aload_n 0, 1), (1, .iload 4, 2), (3, .iload_n 1, 1), (4, .iload 4, 2), (6, .iload_n 2, 1), (7, .invokevirtual 85, 3), (10, .lstore 5, 2), (12, .aload_n 0, 1), (13, .iload 4, 2), (15, .iload_n 2, 1), (16, .iload 4, 2), (18, .iload_n 3, 1), (19, .invokevirtual 85, 3), (22, .lstore 7, 2), (24, .aload_n 0, 1), (25, .iload 4, 2)]), (53, [(27, .iload_n 3, 1), (28, .iload 4, 2), (30, .iload_n 1, 1), (31, .invokevirtual 85, 3), (34, .lstore 9, 2), (36, .aload_n 0, 1), (37, .iload_n 1, 1), (38, .iload_n 2, 1), (39, .iload_n 3, 1), (40, .invokevirtual 89, 3), (43, .ifCond .eq 53, 3), (46, .aload_n 0, 1), (47, .iload 4, 2), (49, .iload_n 1, 1), (50, .iload 4, 2), (52, .iload_n 1, 1)]), (78, [(53, .invokevirtual 93, 3), (56, .lload 7, 2), (58, .lmul, 1), (59, .aload_n 0, 1), (60, .iload 4, 2), (62, .iload_n 2, 1), (63, .iload 4, 2), (65, .iload_n 2, 1), (66, .invokevirtual 93, 3), (69, .lload 9, 2), (71, .lmul, 1), (72, .ladd, 1), (73, .aload_n 0, 1), (74, .iload 4, 2), (76, .iload_n 3, 1), (77, .iload 4, 2)]), (98, [(79, .iload_n 3, 1), (80, .invokevirtual 93, 3), (83, .lload 5, 2), (85, .lmul, 1), (86, .ladd, 1), (87, .lconst 0, 1), (88, .lcmp, 1), (89, .ifCond .ne 7, 3), (92, .iconst 1, 1), (93, .goto 4, 3), (96, .iconst 0, 1), (97, .ireturn, 1)])]
def rxm_107 : rx_M := ((⟨"AngleChainsModel", "isCircle", "(IIII)Z"⟩ : MethodName), prog_7_method_6_code, 11, (some .boolean), 9, 1, 4, 5, rxt_107)
def rxt_108 : rx_Tb := [(24, [(0, .aload_n 0, 1), (1, .iload_n 1, 1), (2, .iload_n 2, 1), (3, .iload_n 3, 1), (4, .iload 4, 2), (6, .invokevirtual 93, 3), (9, .lstore 9, 2), (11, .aload_n 0, 1), (12, .iload_n 1, 1), (13, .iload_n 2, 1), (14, .iload_n 3, 1), (15, .iload 4, 2), (17, .invokevirtual 85, 3), (20, .lstore 11, 2), (22, .aload_n 0, 1), (23, .iload 5, 2)]), (56, [(25, .iload 6, 2), (27, .iload 7, 2), (29, .iload 8, 2), (31, .invokevirtual 93, 3), (34, .lstore 13, 2), (36, .aload_n 0, 1), (37, .iload 5, 2), (39, .iload 6, 2), (41, .iload 7, 2), (43, .iload 8, 2), (45, .invokevirtual 85, 3), (48, .lstore 15, 2), (50, .lload 11, 2), (52, .lload 13, 2), (54, .lmul, 1), (55, .lload 9, 2)]), (72, [(57, .lload 15, 2), (59, .lmul, 1), (60, .lsub, 1), (61, .lconst 0, 1), (62, .lcmp, 1), (63, .ifCond .ne 7, 3), (66, .iconst 1, 1), (67, .goto 4, 3), (70, .iconst 0, 1), (71, .ireturn, 1)])]
def rxm_108 : rx_M := ((⟨"AngleChainsModel", "isTurn", "(IIIIIIII)Z"⟩ : MethodName), prog_7_method_7_code, 17, (some .boolean), 9, 1, 8, 5, rxt_108)
def rxt_109 : rx_Tb := [(29, [(0, .aload_n 0, 1), (1, .iconst 0, 1), (2, .putfield 81, 3), (5, .aload_n 0, 1), (6, .iload_n 1, 1), (7, .invokevirtual 124, 3), (10, .ifCond .eq 16, 3), (13, .aload_n 0, 1), (14, .getfield 117, 3), (17, .bipush 30, 2), (19, .if_icmp .ge 7, 3), (22, .iconst 1, 1), (23, .goto 4, 3), (26, .iconst 0, 1), (27, .istore_n 2, 1), (28, .iload_n 2, 1)]), (58, [(29, .ifCond .eq 15, 3), (32, .aload_n 0, 1), (33, .iload_n 1, 1), (34, .invokevirtual 128, 3), (37, .ifCond .eq 7, 3), (40, .iconst 1, 1), (41, .goto 4, 3), (44, .iconst 0, 1), (45, .istore_n 3, 1), (46, .aload_n 0, 1), (47, .getfield 108, 3), (50, .istore 4, 2), (52, .aload_n 0, 1), (53, .iconst 0, 1), (54, .putfield 108, 3), (57, .iload_n 2, 1)]), (84, [(58, .ifCond .ne 5, 3), (61, .iconst (-1), 1), (62, .ireturn, 1), (63, .iload_n 3, 1), (64, .ifCond .ne 6, 3), (67, .bipush (-2), 2), (69, .ireturn, 1), (70, .aload_n 0, 1), (71, .getfield 19, 3), (74, .aload_n 0, 1), (75, .getfield 117, 3), (78, .iload_n 1, 1), (79, .iastore, 1), (80, .iconst 0, 1), (81, .istore 5, 2), (83, .iload 5, 2)]), (113, [(85, .iload 4, 2), (87, .if_icmp .ge 31, 3), (90, .aload_n 0, 1), (91, .getfield 22, 3), (94, .bipush 8, 2), (96, .aload_n 0, 1), (97, .getfield 117, 3), (100, .imul, 1), (101, .iload 5, 2), (103, .iadd, 1), (104, .aload_n 0, 1), (105, .getfield 16, 3), (108, .iload 5, 2), (110, .iaload, 1), (111, .iastore, 1), (112, .iinc 5 1, 3)]), (141, [(115, .goto (-32), 3), (118, .aload_n 0, 1), (119, .getfield 25, 3), (122, .aload_n 0, 1), (123, .getfield 117, 3), (126, .iconst 1, 1), (127, .bastore, 1), (128, .aload_n 0, 1), (129, .dup, 1), (130, .getfield 117, 3), (133, .iconst 1, 1), (134, .iadd, 1), (135, .putfield 117, 3), (138, .aload_n 0, 1), (139, .iconst 0, 1), (140, .putfield 120, 3)]), (150, [(143, .aload_n 0, 1), (144, .getfield 117, 3), (147, .iconst 1, 1), (148, .isub, 1), (149, .ireturn, 1)])]
def rxm_109 : rx_M := ((⟨"AngleChainsModel", "fact", "(I)I"⟩ : MethodName), prog_7_method_15_code, 6, (some .int), 9, 1, 1, 5, rxt_109)
def rxt_110 : rx_Tb := [(26, [(0, .aload_n 0, 1), (1, .iconst 0, 1), (2, .putfield 81, 3), (5, .iload_n 1, 1), (6, .ifCond .lt 11, 3), (9, .iload_n 1, 1), (10, .aload_n 0, 1), (11, .getfield 117, 3), (14, .if_icmp .lt 5, 3), (17, .iconst 0, 1), (18, .ireturn, 1), (19, .aload_n 0, 1), (20, .dup, 1), (21, .getfield 120, 3), (24, .aload_n 0, 1), (25, .getfield 25, 3)]), (52, [(28, .iload_n 1, 1), (29, .baload, 1), (30, .iload_n 2, 1), (31, .if_icmp .ne 7, 3), (34, .iconst 1, 1), (35, .goto 4, 3), (38, .iconst 0, 1), (39, .iand, 1), (40, .putfield 120, 3), (43, .aload_n 0, 1), (44, .getfield 25, 3), (47, .iload_n 1, 1), (48, .iload_n 2, 1), (49, .bastore, 1), (50, .iconst 1, 1), (51, .ireturn, 1)])]
def rxm_110 : rx_M := ((⟨"AngleChainsModel", "turn", "(IZ)Z"⟩ : MethodName), prog_7_method_16_code, 3, (some .boolean), 9, 1, 2, 5, rxt_110)
def rxt_111 : rx_Tb := [(28, [(0, .aload_n 0, 1), (1, .iconst 0, 1), (2, .putfield 81, 3), (5, .aload_n 0, 1), (6, .iload_n 1, 1), (7, .invokevirtual 124, 3), (10, .istore_n 2, 1), (11, .iload_n 2, 1), (12, .ifCond .eq 15, 3), (15, .aload_n 0, 1), (16, .iload_n 1, 1), (17, .invokevirtual 128, 3), (20, .ifCond .eq 7, 3), (23, .iconst 1, 1), (24, .goto 4, 3), (27, .iconst 0, 1)]), (54, [(28, .istore_n 3, 1), (29, .iconst 0, 1), (30, .istore 4, 2), (32, .iload_n 3, 1), (33, .ifCond .eq 14, 3), (36, .aload_n 0, 1), (37, .invokevirtual 289, 3), (40, .aload_n 0, 1), (41, .iload_n 1, 1), (42, .invokevirtual 292, 3), (45, .istore 4, 2), (47, .aload_n 0, 1), (48, .iconst 0, 1), (49, .putfield 108, 3), (52, .iload_n 2, 1), (53, .ifCond .ne 7, 3)]), (80, [(56, .iconst (-1), 1), (57, .goto 22, 3), (60, .iload_n 3, 1), (61, .ifCond .ne 8, 3), (64, .bipush (-2), 2), (66, .goto 13, 3), (69, .iload 4, 2), (71, .ifCond .eq 7, 3), (74, .iconst 1, 1), (75, .goto 4, 3), (78, .iconst 0, 1), (79, .ireturn, 1)])]
def rxm_111 : rx_M := ((⟨"AngleChainsModel", "follows", "(I)I"⟩ : MethodName), prog_7_method_59_code, 5, (some .int), 9, 1, 1, 5, rxt_111)
def rxt_112 : rx_Tb := [(28, [(0, .aload_n 0, 1), (1, .getfield 120, 3), (4, .ifCond .ne 40, 3), (7, .iconst 0, 1), (8, .istore_n 1, 1), (9, .iload_n 1, 1), (10, .aload_n 0, 1), (11, .getfield 117, 3), (14, .if_icmp .ge 21, 3), (17, .aload_n 0, 1), (18, .getfield 29, 3), (21, .iload_n 1, 1), (22, .aload_n 0, 1), (23, .getfield 25, 3), (26, .iload_n 1, 1), (27, .baload, 1)]), (45, [(28, .bastore, 1), (29, .iinc 1 1, 3), (32, .goto (-23), 3), (35, .aload_n 0, 1), (36, .invokevirtual 283, 3), (39, .aload_n 0, 1), (40, .iconst 1, 1), (41, .putfield 120, 3), (44, .return_, 1)])]
def rxm_112 : rx_M := ((⟨"AngleChainsModel", "refresh", "()V"⟩ : MethodName), prog_7_method_56_code, 2, none, 9, 1, 0, 5, rxt_112)
def rxt_113 : rx_Tb := [(30, [(0, .aload_n 0, 1), (1, .invokevirtual 259, 3), (4, .aload_n 0, 1), (5, .invokevirtual 262, 3), (8, .aload_n 0, 1), (9, .getfield 139, 3), (12, .ifCond .eq 7, 3), (15, .aload_n 0, 1), (16, .invokevirtual 265, 3), (19, .aload_n 0, 1), (20, .invokevirtual 268, 3), (23, .aload_n 0, 1), (24, .iconst 1, 1), (25, .putfield 142, 3), (28, .aload_n 0, 1), (29, .getfield 142, 3)]), (64, [(32, .ifCond .eq 41, 3), (35, .aload_n 0, 1), (36, .iconst 0, 1), (37, .putfield 142, 3), (40, .aload_n 0, 1), (41, .invokevirtual 271, 3), (44, .aload_n 0, 1), (45, .invokevirtual 274, 3), (48, .aload_n 0, 1), (49, .getfield 139, 3), (52, .ifCond .eq 10, 3), (55, .aload_n 0, 1), (56, .invokevirtual 265, 3), (59, .goto (-31), 3), (62, .aload_n 0, 1), (63, .invokevirtual 277, 3)]), (74, [(66, .aload_n 0, 1), (67, .invokevirtual 280, 3), (70, .goto (-42), 3), (73, .return_, 1)])]
def rxm_113 : rx_M := ((⟨"AngleChainsModel", "work", "()V"⟩ : MethodName), prog_7_method_55_code, 1, none, 9, 1, 0, 5, rxt_113)
def rxt_114 : rx_Tb := [(27, [(0, .iconst 0, 1), (1, .istore_n 1, 1), (2, .iload_n 1, 1), (3, .aload_n 0, 1), (4, .getfield 114, 3), (7, .if_icmp .ge 176, 3), (10, .iconst 0, 1), (11, .istore_n 2, 1), (12, .iload_n 2, 1), (13, .aload_n 0, 1), (14, .getfield 114, 3), (17, .if_icmp .ge 160, 3), (20, .aload_n 0, 1), (21, .getfield 35, 3), (24, .bipush 12, 2), (26, .iload_n 1, 1)]), (47, [(27, .imul, 1), (28, .iload_n 2, 1), (29, .iadd, 1), (30, .iload_n 1, 1), (31, .iload_n 2, 1), (32, .if_icmp .ne 7, 3), (35, .iconst 0, 1), (36, .goto 10, 3), (39, .iconst 1, 1), (40, .iload_n 1, 1), (41, .ishl, 1), (42, .iconst 1, 1), (43, .iload_n 2, 1), (44, .ishl, 1), (45, .ior, 1), (46, .iastore, 1)]), (72, [(47, .aload_n 0, 1), (48, .getfield 41, 3), (51, .bipush 12, 2), (53, .iload_n 1, 1), (54, .imul, 1), (55, .iload_n 2, 1), (56, .iadd, 1), (57, .iload_n 1, 1), (58, .iload_n 2, 1), (59, .if_icmp .ne 7, 3), (62, .iconst (-1), 1), (63, .goto 23, 3), (66, .iload_n 1, 1), (67, .iload_n 2, 1), (68, .if_icmp .ge 12, 3), (71, .bipush 12, 2)]), (92, [(73, .iload_n 1, 1), (74, .imul, 1), (75, .iload_n 2, 1), (76, .iadd, 1), (77, .goto 9, 3), (80, .bipush 12, 2), (82, .iload_n 2, 1), (83, .imul, 1), (84, .iload_n 1, 1), (85, .iadd, 1), (86, .iastore, 1), (87, .iconst 0, 1), (88, .istore_n 3, 1), (89, .iload_n 3, 1), (90, .aload_n 0, 1), (91, .getfield 114, 3)]), (120, [(94, .if_icmp .ge 77, 3), (97, .iload_n 1, 1), (98, .iload_n 2, 1), (99, .if_icmp .eq 27, 3), (102, .iload_n 2, 1), (103, .iload_n 3, 1), (104, .if_icmp .eq 22, 3), (107, .iload_n 1, 1), (108, .iload_n 3, 1), (109, .if_icmp .eq 17, 3), (112, .aload_n 0, 1), (113, .iload_n 1, 1), (114, .iload_n 2, 1), (115, .iload_n 3, 1), (116, .invokevirtual 89, 3), (119, .ifCond .eq 7, 3)]), (145, [(122, .iconst 1, 1), (123, .goto 4, 3), (126, .iconst 0, 1), (127, .istore 4, 2), (129, .aload_n 0, 1), (130, .getfield 38, 3), (133, .bipush 12, 2), (135, .iload_n 1, 1), (136, .imul, 1), (137, .iload_n 2, 1), (138, .iadd, 1), (139, .bipush 12, 2), (141, .imul, 1), (142, .iload_n 3, 1), (143, .iadd, 1), (144, .iload 4, 2)]), (166, [(146, .ifCond .eq 17, 3), (149, .iconst 1, 1), (150, .iload_n 1, 1), (151, .ishl, 1), (152, .iconst 1, 1), (153, .iload_n 2, 1), (154, .ishl, 1), (155, .ior, 1), (156, .iconst 1, 1), (157, .iload_n 3, 1), (158, .ishl, 1), (159, .ior, 1), (160, .goto 4, 3), (163, .iconst 0, 1), (164, .iastore, 1), (165, .iinc 3 1, 3)]), (197, [(168, .goto (-79), 3), (171, .iinc 2 1, 3), (174, .goto (-162), 3), (177, .iinc 1 1, 3), (180, .goto (-178), 3), (183, .aload_n 0, 1), (184, .invokevirtual 180, 3), (187, .aload_n 0, 1), (188, .invokevirtual 183, 3), (191, .aload_n 0, 1), (192, .iconst 0, 1), (193, .putfield 139, 3), (196, .return_, 1)])]
def rxm_114 : rx_M := ((⟨"AngleChainsModel", "begin", "()V"⟩ : MethodName), prog_7_method_51_code, 5, none, 9, 1, 0, 5, rxt_114)
def rxt_115 : rx_Tb := [(22, [(0, .aload_n 0, 1), (1, .iconst 0, 1), (2, .putfield 175, 3), (5, .iconst 0, 1), (6, .istore_n 1, 1), (7, .iload_n 1, 1), (8, .aload_n 0, 1), (9, .getfield 114, 3), (12, .if_icmp .ge 180, 3), (15, .iload_n 1, 1), (16, .iconst 1, 1), (17, .iadd, 1), (18, .istore_n 2, 1), (19, .iload_n 2, 1), (20, .aload_n 0, 1), (21, .getfield 114, 3)]), (52, [(24, .if_icmp .ge 162, 3), (27, .iconst (-1), 1), (28, .istore_n 3, 1), (29, .iconst 0, 1), (30, .istore 4, 2), (32, .iload 4, 2), (34, .aload_n 0, 1), (35, .getfield 114, 3), (38, .if_icmp .ge 99, 3), (41, .iload_n 3, 1), (42, .ifCond .ge 95, 3), (45, .iload 4, 2), (47, .iconst 1, 1), (48, .iadd, 1), (49, .istore 5, 2), (51, .iload 5, 2)]), (84, [(53, .aload_n 0, 1), (54, .getfield 114, 3), (57, .if_icmp .ge 74, 3), (60, .iload_n 3, 1), (61, .ifCond .ge 70, 3), (64, .iload 4, 2), (66, .iload_n 1, 1), (67, .if_icmp .lt 15, 3), (70, .iload 4, 2), (72, .iload_n 1, 1), (73, .if_icmp .ne 13, 3), (76, .iload 5, 2), (78, .iload_n 2, 1), (79, .if_icmp .ge 7, 3), (82, .iconst 1, 1), (83, .goto 4, 3)]), (116, [(86, .iconst 0, 1), (87, .istore 6, 2), (89, .iload 6, 2), (91, .ifCond .eq 34, 3), (94, .aload_n 0, 1), (95, .iload 4, 2), (97, .iload 5, 2), (99, .invokevirtual 135, 3), (102, .aload_n 0, 1), (103, .iload_n 1, 1), (104, .iload_n 2, 1), (105, .invokevirtual 135, 3), (108, .if_icmp .ne 17, 3), (111, .aload_n 0, 1), (112, .getfield 44, 3), (115, .bipush 12, 2)]), (147, [(117, .iload 4, 2), (119, .imul, 1), (120, .iload 5, 2), (122, .iadd, 1), (123, .iaload, 1), (124, .istore_n 3, 1), (125, .iinc 5 1, 3), (128, .goto (-77), 3), (131, .iinc 4 1, 3), (134, .goto (-102), 3), (137, .iload_n 3, 1), (138, .ifCond .ge 18, 3), (141, .aload_n 0, 1), (142, .getfield 175, 3), (145, .istore_n 3, 1), (146, .aload_n 0, 1)]), (170, [(147, .dup, 1), (148, .getfield 175, 3), (151, .iconst 1, 1), (152, .iadd, 1), (153, .putfield 175, 3), (156, .aload_n 0, 1), (157, .getfield 44, 3), (160, .bipush 12, 2), (162, .iload_n 1, 1), (163, .imul, 1), (164, .iload_n 2, 1), (165, .iadd, 1), (166, .iload_n 3, 1), (167, .iastore, 1), (168, .aload_n 0, 1), (169, .getfield 44, 3)]), (193, [(172, .bipush 12, 2), (174, .iload_n 2, 1), (175, .imul, 1), (176, .iload_n 1, 1), (177, .iadd, 1), (178, .iload_n 3, 1), (179, .iastore, 1), (180, .iinc 2 1, 3), (183, .goto (-164), 3), (186, .iinc 1 1, 3), (189, .goto (-182), 3), (192, .return_, 1)])]
def rxm_115 : rx_M := ((⟨"AngleChainsModel", "numberLines", "()V"⟩ : MethodName), prog_7_method_34_code, 7, none, 9, 1, 0, 5, rxt_115)
def rxt_116 : rx_Tb := [(12, [(0, .aload_n 0, 1), (1, .getfield 35, 3), (4, .bipush 12, 2), (6, .iload_n 1, 1), (7, .imul, 1), (8, .iload_n 2, 1), (9, .iadd, 1), (10, .iaload, 1), (11, .ireturn, 1)])]
def rxm_116 : rx_M := ((⟨"AngleChainsModel", "lineOf", "(II)I"⟩ : MethodName), prog_7_method_17_code, 3, (some .int), 9, 1, 2, 5, rxt_116)
def rxt_117 : rx_Tb := [(24, [(0, .iconst 0, 1), (1, .istore_n 1, 1), (2, .iload_n 1, 1), (3, .bipush 22, 2), (5, .if_icmp .ge 42, 3), (8, .aload_n 0, 1), (9, .getfield 51, 3), (12, .iload_n 1, 1), (13, .iconst 0, 1), (14, .bastore, 1), (15, .iconst 0, 1), (16, .istore_n 2, 1), (17, .iload_n 2, 1), (18, .bipush 22, 2), (20, .if_icmp .ge 21, 3), (23, .aload_n 0, 1)]), (55, [(24, .getfield 47, 3), (27, .bipush 22, 2), (29, .iload_n 1, 1), (30, .imul, 1), (31, .iload_n 2, 1), (32, .iadd, 1), (33, .lconst 0, 1), (34, .lastore, 1), (35, .iinc 2 1, 3), (38, .goto (-21), 3), (41, .iinc 1 1, 3), (44, .goto (-42), 3), (47, .aload_n 0, 1), (48, .getfield 47, 3), (51, .sipush 483, 3), (54, .ldc2_w 178, 3)]), (67, [(57, .lastore, 1), (58, .aload_n 0, 1), (59, .getfield 51, 3), (62, .bipush 21, 2), (64, .iconst 1, 1), (65, .bastore, 1), (66, .return_, 1)])]
def rxm_117 : rx_M := ((⟨"AngleChainsModel", "startLattice", "()V"⟩ : MethodName), prog_7_method_35_code, 3, none, 9, 1, 0, 5, rxt_117)
def rxt_118 : rx_Tb := [(24, [(0, .iconst 0, 1), (1, .istore_n 1, 1), (2, .iload_n 1, 1), (3, .aload_n 0, 1), (4, .getfield 117, 3), (7, .if_icmp .ge 201, 3), (10, .aload_n 0, 1), (11, .getfield 19, 3), (14, .iload_n 1, 1), (15, .iaload, 1), (16, .istore_n 2, 1), (17, .aload_n 0, 1), (18, .getfield 29, 3), (21, .iload_n 1, 1), (22, .baload, 1), (23, .ifCond .eq 42, 3)]), (48, [(26, .iload_n 2, 1), (27, .ifCond .eq 8, 3), (30, .iload_n 2, 1), (31, .iconst 5, 1), (32, .if_icmp .ne 33, 3), (35, .aload_n 0, 1), (36, .iconst 1, 1), (37, .aload_n 0, 1), (38, .iload_n 1, 1), (39, .iconst 0, 1), (40, .invokevirtual 256, 3), (43, .ishl, 1), (44, .iconst 1, 1), (45, .aload_n 0, 1), (46, .iload_n 1, 1), (47, .iconst 1, 1)]), (72, [(48, .invokevirtual 256, 3), (51, .ishl, 1), (52, .ior, 1), (53, .iconst 1, 1), (54, .aload_n 0, 1), (55, .iload_n 1, 1), (56, .iconst 2, 1), (57, .invokevirtual 256, 3), (60, .ishl, 1), (61, .ior, 1), (62, .invokevirtual 216, 3), (65, .aload_n 0, 1), (66, .getfield 29, 3), (69, .iload_n 1, 1), (70, .baload, 1), (71, .ifCond .eq 47, 3)]), (96, [(74, .iload_n 2, 1), (75, .iconst 3, 1), (76, .if_icmp .ne 42, 3), (79, .aload_n 0, 1), (80, .iconst 1, 1), (81, .aload_n 0, 1), (82, .iload_n 1, 1), (83, .iconst 0, 1), (84, .invokevirtual 256, 3), (87, .ishl, 1), (88, .iconst 1, 1), (89, .aload_n 0, 1), (90, .iload_n 1, 1), (91, .iconst 1, 1), (92, .invokevirtual 256, 3), (95, .ishl, 1)]), (116, [(96, .ior, 1), (97, .iconst 1, 1), (98, .aload_n 0, 1), (99, .iload_n 1, 1), (100, .iconst 2, 1), (101, .invokevirtual 256, 3), (104, .ishl, 1), (105, .ior, 1), (106, .iconst 1, 1), (107, .aload_n 0, 1), (108, .iload_n 1, 1), (109, .iconst 3, 1), (110, .invokevirtual 256, 3), (113, .ishl, 1), (114, .ior, 1), (115, .invokevirtual 222, 3)]), (142, [(118, .aload_n 0, 1), (119, .getfield 29, 3), (122, .iload_n 1, 1), (123, .baload, 1), (124, .ifCond .eq 36, 3), (127, .iload_n 2, 1), (128, .iconst 4, 1), (129, .if_icmp .ne 31, 3), (132, .aload_n 0, 1), (133, .aload_n 0, 1), (134, .iload_n 1, 1), (135, .iconst 0, 1), (136, .invokevirtual 256, 3), (139, .aload_n 0, 1), (140, .iload_n 1, 1), (141, .iconst 1, 1)]), (170, [(142, .invokevirtual 256, 3), (145, .aload_n 0, 1), (146, .iload_n 1, 1), (147, .iconst 2, 1), (148, .invokevirtual 256, 3), (151, .aload_n 0, 1), (152, .iload_n 1, 1), (153, .iconst 3, 1), (154, .invokevirtual 256, 3), (157, .invokevirtual 225, 3), (160, .aload_n 0, 1), (161, .getfield 29, 3), (164, .iload_n 1, 1), (165, .baload, 1), (166, .ifCond .eq 36, 3), (169, .iload_n 2, 1)]), (194, [(170, .iconst 5, 1), (171, .if_icmp .ne 31, 3), (174, .aload_n 0, 1), (175, .aload_n 0, 1), (176, .iload_n 1, 1), (177, .iconst 0, 1), (178, .invokevirtual 256, 3), (181, .aload_n 0, 1), (182, .iload_n 1, 1), (183, .iconst 1, 1), (184, .invokevirtual 256, 3), (187, .aload_n 0, 1), (188, .iload_n 1, 1), (189, .iconst 0, 1), (190, .invokevirtual 256, 3), (193, .aload_n 0, 1)]), (209, [(194, .iload_n 1, 1), (195, .iconst 2, 1), (196, .invokevirtual 256, 3), (199, .invokevirtual 225, 3), (202, .iinc 1 1, 3), (205, .goto (-203), 3), (208, .return_, 1)])]
def rxm_118 : rx_M := ((⟨"AngleChainsModel", "lineFacts", "()V"⟩ : MethodName), prog_7_method_53_code, 3, none, 9, 1, 0, 5, rxt_118)
def rxt_119 : rx_Tb := [(12, [(0, .aload_n 0, 1), (1, .getfield 22, 3), (4, .bipush 8, 2), (6, .iload_n 1, 1), (7, .imul, 1), (8, .iload_n 2, 1), (9, .iadd, 1), (10, .iaload, 1), (11, .ireturn, 1)])]
def rxm_119 : rx_M := ((⟨"AngleChainsModel", "f", "(II)I"⟩ : MethodName), prog_7_method_52_code, 3, (some .int), 9, 1, 2, 5, rxt_119)
def rxt_120 : rx_Tb := [(24, [(0, .iload_n 1, 1), (1, .istore_n 2, 1), (2, .iconst 1, 1), (3, .istore_n 3, 1), (4, .iload_n 3, 1), (5, .ifCond .eq 96, 3), (8, .iconst 0, 1), (9, .istore_n 3, 1), (10, .iconst 0, 1), (11, .istore 4, 2), (13, .iload 4, 2), (15, .aload_n 0, 1), (16, .getfield 114, 3), (19, .if_icmp .ge 79, 3), (22, .iconst 0, 1), (23, .istore 5, 2)]), (60, [(25, .iload 5, 2), (27, .aload_n 0, 1), (28, .getfield 114, 3), (31, .if_icmp .ge 61, 3), (34, .iload 4, 2), (36, .iload 5, 2), (38, .if_icmp .eq 48, 3), (41, .iload_n 2, 1), (42, .iload 4, 2), (44, .invokestatic 131, 3), (47, .ifCond .eq 39, 3), (50, .iload_n 2, 1), (51, .iload 5, 2), (53, .invokestatic 131, 3), (56, .ifCond .eq 30, 3), (59, .aload_n 0, 1)]), (86, [(60, .iload 4, 2), (62, .iload 5, 2), (64, .invokevirtual 135, 3), (67, .iload_n 2, 1), (68, .ior, 1), (69, .iload_n 2, 1), (70, .if_icmp .eq 16, 3), (73, .iload_n 2, 1), (74, .aload_n 0, 1), (75, .iload 4, 2), (77, .iload 5, 2), (79, .invokevirtual 135, 3), (82, .ior, 1), (83, .istore_n 2, 1), (84, .iconst 1, 1), (85, .istore_n 3, 1)]), (120, [(86, .iinc 5 1, 3), (89, .goto (-64), 3), (92, .iinc 4 1, 3), (95, .goto (-82), 3), (98, .goto (-94), 3), (101, .iconst 0, 1), (102, .istore 4, 2), (104, .iload 4, 2), (106, .aload_n 0, 1), (107, .getfield 114, 3), (110, .if_icmp .ge 88, 3), (113, .iconst 0, 1), (114, .istore 5, 2), (116, .iload 5, 2), (118, .aload_n 0, 1), (119, .getfield 114, 3)]), (156, [(122, .if_icmp .ge 70, 3), (125, .iload 4, 2), (127, .iload 5, 2), (129, .if_icmp .eq 57, 3), (132, .iload_n 2, 1), (133, .iload 4, 2), (135, .invokestatic 131, 3), (138, .ifCond .eq 48, 3), (141, .iload_n 2, 1), (142, .iload 5, 2), (144, .invokestatic 131, 3), (147, .ifCond .eq 39, 3), (150, .aload_n 0, 1), (151, .iload 4, 2), (153, .iload 5, 2), (155, .invokevirtual 135, 3)]), (183, [(158, .iload_n 2, 1), (159, .if_icmp .eq 27, 3), (162, .aload_n 0, 1), (163, .getfield 35, 3), (166, .bipush 12, 2), (168, .iload 4, 2), (170, .imul, 1), (171, .iload 5, 2), (173, .iadd, 1), (174, .iload_n 2, 1), (175, .iastore, 1), (176, .aload_n 0, 1), (177, .iconst 1, 1), (178, .putfield 139, 3), (181, .aload_n 0, 1), (182, .iconst 1, 1)]), (199, [(183, .putfield 142, 3), (186, .iinc 5 1, 3), (189, .goto (-73), 3), (192, .iinc 4 1, 3), (195, .goto (-91), 3), (198, .return_, 1)])]
def rxm_120 : rx_M := ((⟨"AngleChainsModel", "join", "(I)V"⟩ : MethodName), prog_7_method_19_code, 6, none, 9, 1, 1, 5, rxt_120)
def rxt_121 : rx_Tb := [(15, [(0, .iload_n 0, 1), (1, .iload_n 1, 1), (2, .ishr, 1), (3, .iconst 1, 1), (4, .iand, 1), (5, .iconst 1, 1), (6, .if_icmp .ne 7, 3), (9, .iconst 1, 1), (10, .goto 4, 3), (13, .iconst 0, 1), (14, .ireturn, 1)])]
def rxm_121 : rx_M := ((⟨"AngleChainsModel", "has", "(II)Z"⟩ : MethodName), prog_7_method_18_code, 2, (some .boolean), 9, 0, 2, 5, rxt_121)
def rxt_122 : rx_Tb := [(25, [(0, .iload_n 1, 1), (1, .istore_n 2, 1), (2, .iconst 1, 1), (3, .istore_n 3, 1), (4, .iload_n 3, 1), (5, .ifCond .eq 139, 3), (8, .iconst 0, 1), (9, .istore_n 3, 1), (10, .iconst 0, 1), (11, .istore 4, 2), (13, .iload 4, 2), (15, .aload_n 0, 1), (16, .getfield 114, 3), (19, .if_icmp .ge 122, 3), (22, .iload 4, 2), (24, .iconst 1, 1)]), (54, [(25, .iadd, 1), (26, .istore 5, 2), (28, .iload 5, 2), (30, .aload_n 0, 1), (31, .getfield 114, 3), (34, .if_icmp .ge 101, 3), (37, .iload 5, 2), (39, .iconst 1, 1), (40, .iadd, 1), (41, .istore 6, 2), (43, .iload 6, 2), (45, .aload_n 0, 1), (46, .getfield 114, 3), (49, .if_icmp .ge 80, 3), (52, .iload_n 2, 1), (53, .iload 4, 2)]), (90, [(55, .invokestatic 131, 3), (58, .ifCond .eq 65, 3), (61, .iload_n 2, 1), (62, .iload 5, 2), (64, .invokestatic 131, 3), (67, .ifCond .eq 56, 3), (70, .iload_n 2, 1), (71, .iload 6, 2), (73, .invokestatic 131, 3), (76, .ifCond .eq 47, 3), (79, .aload_n 0, 1), (80, .iload 4, 2), (82, .iload 5, 2), (84, .iload 6, 2), (86, .invokevirtual 89, 3), (89, .ifCond .eq 34, 3)]), (120, [(92, .aload_n 0, 1), (93, .iload 4, 2), (95, .iload 5, 2), (97, .iload 6, 2), (99, .invokevirtual 145, 3), (102, .iload_n 2, 1), (103, .ior, 1), (104, .iload_n 2, 1), (105, .if_icmp .eq 18, 3), (108, .iload_n 2, 1), (109, .aload_n 0, 1), (110, .iload 4, 2), (112, .iload 5, 2), (114, .iload 6, 2), (116, .invokevirtual 145, 3), (119, .ior, 1)]), (154, [(120, .istore_n 2, 1), (121, .iconst 1, 1), (122, .istore_n 3, 1), (123, .iinc 6 1, 3), (126, .goto (-83), 3), (129, .iinc 5 1, 3), (132, .goto (-104), 3), (135, .iinc 4 1, 3), (138, .goto (-125), 3), (141, .goto (-137), 3), (144, .iconst 0, 1), (145, .istore 4, 2), (147, .iload 4, 2), (149, .aload_n 0, 1), (150, .getfield 114, 3), (153, .if_icmp .ge 145, 3)]), (188, [(156, .iconst 0, 1), (157, .istore 5, 2), (159, .iload 5, 2), (161, .aload_n 0, 1), (162, .getfield 114, 3), (165, .if_icmp .ge 127, 3), (168, .iconst 0, 1), (169, .istore 6, 2), (171, .iload 6, 2), (173, .aload_n 0, 1), (174, .getfield 114, 3), (177, .if_icmp .ge 109, 3), (180, .iload 4, 2), (182, .iload 5, 2), (184, .if_icmp .eq 96, 3), (187, .iload 5, 2)]), (223, [(189, .iload 6, 2), (191, .if_icmp .eq 89, 3), (194, .iload 4, 2), (196, .iload 6, 2), (198, .if_icmp .eq 82, 3), (201, .iload_n 2, 1), (202, .iload 4, 2), (204, .invokestatic 131, 3), (207, .ifCond .eq 73, 3), (210, .iload_n 2, 1), (211, .iload 5, 2), (213, .invokestatic 131, 3), (216, .ifCond .eq 64, 3), (219, .iload_n 2, 1), (220, .iload 6, 2), (222, .invokestatic 131, 3)]), (257, [(225, .ifCond .eq 55, 3), (228, .aload_n 0, 1), (229, .iload 4, 2), (231, .iload 5, 2), (233, .iload 6, 2), (235, .invokevirtual 89, 3), (238, .ifCond .eq 42, 3), (241, .aload_n 0, 1), (242, .iload 4, 2), (244, .iload 5, 2), (246, .iload 6, 2), (248, .invokevirtual 145, 3), (251, .iload_n 2, 1), (252, .if_icmp .eq 28, 3), (255, .aload_n 0, 1), (256, .getfield 38, 3)]), (284, [(259, .bipush 12, 2), (261, .iload 4, 2), (263, .imul, 1), (264, .iload 5, 2), (266, .iadd, 1), (267, .bipush 12, 2), (269, .imul, 1), (270, .iload 6, 2), (272, .iadd, 1), (273, .iload_n 2, 1), (274, .iastore, 1), (275, .aload_n 0, 1), (276, .iconst 1, 1), (277, .putfield 142, 3), (280, .iinc 6 1, 3), (283, .goto (-112), 3)]), (299, [(286, .iinc 5 1, 3), (289, .goto (-130), 3), (292, .iinc 4 1, 3), (295, .goto (-148), 3), (298, .return_, 1)])]
def rxm_122 : rx_M := ((⟨"AngleChainsModel", "round", "(I)V"⟩ : MethodName), prog_7_method_21_code, 7, none, 9, 1, 1, 5, rxt_122)
def rxt_123 : rx_Tb := [(17, [(0, .aload_n 0, 1), (1, .getfield 38, 3), (4, .bipush 12, 2), (6, .iload_n 1, 1), (7, .imul, 1), (8, .iload_n 2, 1), (9, .iadd, 1), (10, .bipush 12, 2), (12, .imul, 1), (13, .iload_n 3, 1), (14, .iadd, 1), (15, .iaload, 1), (16, .ireturn, 1)])]
def rxm_123 : rx_M := ((⟨"AngleChainsModel", "circleOf", "(III)I"⟩ : MethodName), prog_7_method_20_code, 4, (some .int), 9, 1, 3, 5, rxt_123)
def rxt_124 : rx_Tb := [(29, [(0, .aload_n 0, 1), (1, .iload_n 1, 1), (2, .iload_n 2, 1), (3, .invokevirtual 149, 3), (6, .istore 5, 2), (8, .aload_n 0, 1), (9, .iload_n 3, 1), (10, .iload 4, 2), (12, .invokevirtual 149, 3), (15, .istore 6, 2), (17, .iload 5, 2), (19, .iload 6, 2), (21, .if_icmp .eq 84, 3), (24, .iload 5, 2), (26, .iload 6, 2), (28, .if_icmp .ge 8, 3)]), (64, [(31, .iload 5, 2), (33, .goto 5, 3), (36, .iload 6, 2), (38, .istore 7, 2), (40, .iconst 0, 1), (41, .istore 8, 2), (43, .iload 8, 2), (45, .sipush 144, 3), (48, .if_icmp .ge 52, 3), (51, .aload_n 0, 1), (52, .getfield 41, 3), (55, .iload 8, 2), (57, .aload_n 0, 1), (58, .getfield 41, 3), (61, .iload 8, 2), (63, .iaload, 1)]), (95, [(64, .iload 5, 2), (66, .if_icmp .eq 15, 3), (69, .aload_n 0, 1), (70, .getfield 41, 3), (73, .iload 8, 2), (75, .iaload, 1), (76, .iload 6, 2), (78, .if_icmp .ne 8, 3), (81, .iload 7, 2), (83, .goto 10, 3), (86, .aload_n 0, 1), (87, .getfield 41, 3), (90, .iload 8, 2), (92, .iaload, 1), (93, .iastore, 1), (94, .iinc 8 1, 3)]), (106, [(97, .goto (-54), 3), (100, .aload_n 0, 1), (101, .iconst 1, 1), (102, .putfield 142, 3), (105, .return_, 1)])]
def rxm_124 : rx_M := ((⟨"AngleChainsModel", "equal", "(IIII)V"⟩ : MethodName), prog_7_method_24_code, 9, none, 9, 1, 4, 5, rxt_124)
def rxt_125 : rx_Tb := [(12, [(0, .aload_n 0, 1), (1, .getfield 41, 3), (4, .bipush 12, 2), (6, .iload_n 1, 1), (7, .imul, 1), (8, .iload_n 2, 1), (9, .iadd, 1), (10, .iaload, 1), (11, .ireturn, 1)])]
def rxm_125 : rx_M := ((⟨"AngleChainsModel", "lengthOf", "(II)I"⟩ : MethodName), prog_7_method_22_code, 3, (some .int), 9, 1, 2, 5, rxt_125)
def rxt_126 : rx_Tb := [(28, [(0, .iconst 0, 1), (1, .istore_n 1, 1), (2, .iload_n 1, 1), (3, .sipush 144, 3), (6, .if_icmp .ge 21, 3), (9, .aload_n 0, 1), (10, .getfield 66, 3), (13, .iload_n 1, 1), (14, .aload_n 0, 1), (15, .getfield 44, 3), (18, .iload_n 1, 1), (19, .iaload, 1), (20, .iastore, 1), (21, .iinc 1 1, 3), (24, .goto (-22), 3), (27, .iconst 0, 1)]), (56, [(28, .istore_n 1, 1), (29, .iload_n 1, 1), (30, .sipush 484, 3), (33, .if_icmp .ge 21, 3), (36, .aload_n 0, 1), (37, .getfield 60, 3), (40, .iload_n 1, 1), (41, .aload_n 0, 1), (42, .getfield 47, 3), (45, .iload_n 1, 1), (46, .laload, 1), (47, .lastore, 1), (48, .iinc 1 1, 3), (51, .goto (-22), 3), (54, .iconst 0, 1), (55, .istore_n 1, 1)]), (82, [(56, .iload_n 1, 1), (57, .bipush 22, 2), (59, .if_icmp .ge 29, 3), (62, .aload_n 0, 1), (63, .getfield 63, 3), (66, .iload_n 1, 1), (67, .aload_n 0, 1), (68, .getfield 51, 3), (71, .iload_n 1, 1), (72, .baload, 1), (73, .bastore, 1), (74, .aload_n 0, 1), (75, .getfield 69, 3), (78, .iload_n 1, 1), (79, .bipush 21, 2), (81, .iastore, 1)]), (108, [(82, .iinc 1 1, 3), (85, .goto (-29), 3), (88, .aload_n 0, 1), (89, .invokevirtual 180, 3), (92, .iconst 0, 1), (93, .istore_n 1, 1), (94, .iload_n 1, 1), (95, .aload_n 0, 1), (96, .getfield 114, 3), (99, .if_icmp .ge 49, 3), (102, .iload_n 1, 1), (103, .iconst 1, 1), (104, .iadd, 1), (105, .istore_n 2, 1), (106, .iload_n 2, 1), (107, .aload_n 0, 1)]), (133, [(108, .getfield 114, 3), (111, .if_icmp .ge 31, 3), (114, .aload_n 0, 1), (115, .getfield 69, 3), (118, .aload_n 0, 1), (119, .getfield 66, 3), (122, .bipush 12, 2), (124, .iload_n 1, 1), (125, .imul, 1), (126, .iload_n 2, 1), (127, .iadd, 1), (128, .iaload, 1), (129, .aload_n 0, 1), (130, .iload_n 1, 1), (131, .iload_n 2, 1), (132, .invokevirtual 168, 3)]), (166, [(135, .iastore, 1), (136, .iinc 2 1, 3), (139, .goto (-33), 3), (142, .iinc 1 1, 3), (145, .goto (-51), 3), (148, .aload_n 0, 1), (149, .invokevirtual 183, 3), (152, .iconst 0, 1), (153, .istore_n 1, 1), (154, .iload_n 1, 1), (155, .bipush 21, 2), (157, .if_icmp .ge 66, 3), (160, .aload_n 0, 1), (161, .getfield 63, 3), (164, .iload_n 1, 1), (165, .baload, 1)]), (193, [(166, .ifCond .eq 51, 3), (169, .aload_n 0, 1), (170, .invokevirtual 186, 3), (173, .iconst 0, 1), (174, .istore_n 2, 1), (175, .iload_n 2, 1), (176, .bipush 22, 2), (178, .if_icmp .ge 34, 3), (181, .aload_n 0, 1), (182, .getfield 54, 3), (185, .aload_n 0, 1), (186, .getfield 69, 3), (189, .iload_n 2, 1), (190, .iaload, 1), (191, .dup2, 1), (192, .laload, 1)]), (218, [(193, .aload_n 0, 1), (194, .getfield 60, 3), (197, .bipush 22, 2), (199, .iload_n 1, 1), (200, .imul, 1), (201, .iload_n 2, 1), (202, .iadd, 1), (203, .laload, 1), (204, .ladd, 1), (205, .lastore, 1), (206, .iinc 2 1, 3), (209, .goto (-34), 3), (212, .aload_n 0, 1), (213, .invokevirtual 171, 3), (216, .istore_n 2, 1), (217, .iinc 1 1, 3)]), (229, [(220, .goto (-66), 3), (223, .aload_n 0, 1), (224, .iconst 0, 1), (225, .putfield 139, 3), (228, .return_, 1)])]
def rxm_126 : rx_M := ((⟨"AngleChainsModel", "moveColumns", "()V"⟩ : MethodName), prog_7_method_36_code, 3, none, 9, 1, 0, 5, rxt_126)
def rxt_127 : rx_Tb := [(12, [(0, .aload_n 0, 1), (1, .getfield 44, 3), (4, .bipush 12, 2), (6, .iload_n 1, 1), (7, .imul, 1), (8, .iload_n 2, 1), (9, .iadd, 1), (10, .iaload, 1), (11, .ireturn, 1)])]
def rxm_127 : rx_M := ((⟨"AngleChainsModel", "columnOf", "(II)I"⟩ : MethodName), prog_7_method_31_code, 3, (some .int), 9, 1, 2, 5, rxt_127)
def rxt_128 : rx_Tb := [(22, [(0, .iconst 0, 1), (1, .istore_n 1, 1), (2, .iload_n 1, 1), (3, .bipush 22, 2), (5, .if_icmp .ge 16, 3), (8, .aload_n 0, 1), (9, .getfield 54, 3), (12, .iload_n 1, 1), (13, .lconst 0, 1), (14, .lastore, 1), (15, .iinc 1 1, 3), (18, .goto (-16), 3), (21, .return_, 1)])]
def rxm_128 : rx_M := ((⟨"AngleChainsModel", "clearRow", "()V"⟩ : MethodName), prog_7_method_25_code, 2, none, 9, 1, 0, 5, rxt_128)
def rxt_129 : rx_Tb := [(23, [(0, .iconst 0, 1), (1, .istore_n 1, 1), (2, .aload_n 0, 1), (3, .iconst 0, 1), (4, .invokevirtual 156, 3), (7, .iconst 0, 1), (8, .istore_n 2, 1), (9, .iload_n 2, 1), (10, .bipush 22, 2), (12, .if_icmp .ge 50, 3), (15, .aload_n 0, 1), (16, .getfield 54, 3), (19, .iload_n 2, 1), (20, .laload, 1), (21, .lconst 0, 1), (22, .lcmp, 1)]), (47, [(23, .ifCond .eq 33, 3), (26, .iconst 1, 1), (27, .istore_n 1, 1), (28, .aload_n 0, 1), (29, .getfield 51, 3), (32, .iload_n 2, 1), (33, .baload, 1), (34, .ifCond .ne 10, 3), (37, .aload_n 0, 1), (38, .iload_n 2, 1), (39, .invokevirtual 160, 3), (42, .iconst 1, 1), (43, .ireturn, 1), (44, .aload_n 0, 1), (45, .iload_n 2, 1), (46, .invokevirtual 163, 3)]), (64, [(49, .aload_n 0, 1), (50, .iload_n 2, 1), (51, .iconst 1, 1), (52, .iadd, 1), (53, .invokevirtual 156, 3), (56, .iinc 2 1, 3), (59, .goto (-50), 3), (62, .iload_n 1, 1), (63, .ireturn, 1)])]
def rxm_129 : rx_M := ((⟨"AngleChainsModel", "comes", "()Z"⟩ : MethodName), prog_7_method_28_code, 3, (some .boolean), 9, 1, 0, 5, rxt_129)
def rxt_130 : rx_Tb := [(25, [(0, .iload_n 1, 1), (1, .istore_n 2, 1), (2, .iload_n 2, 1), (3, .bipush 22, 2), (5, .if_icmp .ge 96, 3), (8, .aload_n 0, 1), (9, .getfield 51, 3), (12, .iload_n 2, 1), (13, .baload, 1), (14, .ifCond .eq 81, 3), (17, .aload_n 0, 1), (18, .getfield 54, 3), (21, .iload_n 2, 1), (22, .laload, 1), (23, .lconst 0, 1), (24, .lcmp, 1)]), (50, [(25, .ifCond .eq 70, 3), (28, .aload_n 0, 1), (29, .getfield 54, 3), (32, .iload_n 2, 1), (33, .laload, 1), (34, .aload_n 0, 1), (35, .getfield 47, 3), (38, .bipush 22, 2), (40, .iload_n 2, 1), (41, .imul, 1), (42, .iload_n 2, 1), (43, .iadd, 1), (44, .laload, 1), (45, .invokestatic 152, 3), (48, .lstore_n 3, 1), (49, .iload_n 2, 1)]), (76, [(50, .istore 5, 2), (52, .iload 5, 2), (54, .bipush 22, 2), (56, .if_icmp .ge 39, 3), (59, .lload_n 3, 1), (60, .lconst 0, 1), (61, .lcmp, 1), (62, .ifCond .eq 33, 3), (65, .aload_n 0, 1), (66, .getfield 54, 3), (69, .iload 5, 2), (71, .dup2, 1), (72, .laload, 1), (73, .lload_n 3, 1), (74, .aload_n 0, 1), (75, .getfield 47, 3)]), (102, [(78, .bipush 22, 2), (80, .iload_n 2, 1), (81, .imul, 1), (82, .iload 5, 2), (84, .iadd, 1), (85, .laload, 1), (86, .lmul, 1), (87, .lsub, 1), (88, .lastore, 1), (89, .iinc 5 1, 3), (92, .goto (-40), 3), (95, .iinc 2 1, 3), (98, .goto (-96), 3), (101, .return_, 1)])]
def rxm_130 : rx_M := ((⟨"AngleChainsModel", "reduce", "(I)V"⟩ : MethodName), prog_7_method_27_code, 6, none, 9, 1, 1, 5, rxt_130)
def rxt_131 : rx_Tb := [(23, [(0, .lload_n 0, 1), (1, .lload_n 2, 1), (2, .ldiv, 1), (3, .lstore 4, 2), (5, .lload_n 0, 1), (6, .lload_n 2, 1), (7, .lrem, 1), (8, .lconst 0, 1), (9, .lcmp, 1), (10, .ifCond .ge 10, 3), (13, .lload 4, 2), (15, .lconst 1, 1), (16, .lsub, 1), (17, .goto 5, 3), (20, .lload 4, 2), (22, .lreturn, 1)])]
def rxm_131 : rx_M := ((⟨"AngleChainsModel", "down", "(JJ)J"⟩ : MethodName), prog_7_method_26_code, 6, (some .long), 9, 0, 2, 5, rxt_131)
def rxt_132 : rx_Tb := [(27, [(0, .aload_n 0, 1), (1, .getfield 54, 3), (4, .iload_n 1, 1), (5, .laload, 1), (6, .lconst 0, 1), (7, .lcmp, 1), (8, .ifCond .ge 9, 3), (11, .ldc2_w 166, 3), (14, .goto 4, 3), (17, .lconst 1, 1), (18, .lstore_n 2, 1), (19, .iconst 0, 1), (20, .istore 4, 2), (22, .iload 4, 2), (24, .bipush 22, 2), (26, .if_icmp .ge 20, 3)]), (54, [(29, .aload_n 0, 1), (30, .getfield 54, 3), (33, .iload 4, 2), (35, .dup2, 1), (36, .laload, 1), (37, .lload_n 2, 1), (38, .lmul, 1), (39, .lastore, 1), (40, .iinc 4 1, 3), (43, .goto (-21), 3), (46, .aload_n 0, 1), (47, .iload_n 1, 1), (48, .iconst 1, 1), (49, .iadd, 1), (50, .invokevirtual 156, 3), (53, .iconst 0, 1)]), (82, [(54, .istore 4, 2), (56, .iload 4, 2), (58, .bipush 22, 2), (60, .if_icmp .ge 28, 3), (63, .aload_n 0, 1), (64, .getfield 47, 3), (67, .bipush 22, 2), (69, .iload_n 1, 1), (70, .imul, 1), (71, .iload 4, 2), (73, .iadd, 1), (74, .aload_n 0, 1), (75, .getfield 54, 3), (78, .iload 4, 2), (80, .laload, 1), (81, .lastore, 1)]), (96, [(82, .iinc 4 1, 3), (85, .goto (-29), 3), (88, .aload_n 0, 1), (89, .getfield 51, 3), (92, .iload_n 1, 1), (93, .iconst 1, 1), (94, .bastore, 1), (95, .return_, 1)])]
def rxm_132 : rx_M := ((⟨"AngleChainsModel", "layStep", "(I)V"⟩ : MethodName), prog_7_method_29_code, 5, none, 9, 1, 1, 5, rxt_132)
def rxt_133 : rx_Tb := [(23, [(0, .aload_n 0, 1), (1, .getfield 54, 3), (4, .iload_n 1, 1), (5, .laload, 1), (6, .lconst 0, 1), (7, .lcmp, 1), (8, .ifCond .eq 95, 3), (11, .aload_n 0, 1), (12, .getfield 47, 3), (15, .bipush 22, 2), (17, .iload_n 1, 1), (18, .imul, 1), (19, .iload_n 1, 1), (20, .iadd, 1), (21, .laload, 1), (22, .aload_n 0, 1)]), (51, [(23, .getfield 54, 3), (26, .iload_n 1, 1), (27, .laload, 1), (28, .invokestatic 152, 3), (31, .lstore_n 2, 1), (32, .iload_n 1, 1), (33, .istore 4, 2), (35, .iload 4, 2), (37, .bipush 22, 2), (39, .if_icmp .ge 61, 3), (42, .aload_n 0, 1), (43, .getfield 47, 3), (46, .bipush 22, 2), (48, .iload_n 1, 1), (49, .imul, 1), (50, .iload 4, 2)]), (75, [(52, .iadd, 1), (53, .laload, 1), (54, .lload_n 2, 1), (55, .aload_n 0, 1), (56, .getfield 54, 3), (59, .iload 4, 2), (61, .laload, 1), (62, .lmul, 1), (63, .lsub, 1), (64, .lstore 5, 2), (66, .aload_n 0, 1), (67, .getfield 47, 3), (70, .bipush 22, 2), (72, .iload_n 1, 1), (73, .imul, 1), (74, .iload 4, 2)]), (105, [(76, .iadd, 1), (77, .aload_n 0, 1), (78, .getfield 54, 3), (81, .iload 4, 2), (83, .laload, 1), (84, .lastore, 1), (85, .aload_n 0, 1), (86, .getfield 54, 3), (89, .iload 4, 2), (91, .lload 5, 2), (93, .lastore, 1), (94, .iinc 4 1, 3), (97, .goto (-62), 3), (100, .goto (-100), 3), (103, .aload_n 0, 1), (104, .getfield 47, 3)]), (129, [(107, .bipush 22, 2), (109, .iload_n 1, 1), (110, .imul, 1), (111, .iload_n 1, 1), (112, .iadd, 1), (113, .laload, 1), (114, .lconst 0, 1), (115, .lcmp, 1), (116, .ifCond .ge 40, 3), (119, .iload_n 1, 1), (120, .istore_n 2, 1), (121, .iload_n 2, 1), (122, .bipush 22, 2), (124, .if_icmp .ge 32, 3), (127, .aload_n 0, 1), (128, .getfield 47, 3)]), (151, [(131, .bipush 22, 2), (133, .iload_n 1, 1), (134, .imul, 1), (135, .iload_n 2, 1), (136, .iadd, 1), (137, .aload_n 0, 1), (138, .getfield 47, 3), (141, .bipush 22, 2), (143, .iload_n 1, 1), (144, .imul, 1), (145, .iload_n 2, 1), (146, .iadd, 1), (147, .laload, 1), (148, .lneg, 1), (149, .lastore, 1), (150, .iinc 2 1, 3)]), (178, [(153, .goto (-32), 3), (156, .iconst 0, 1), (157, .istore_n 2, 1), (158, .iload_n 2, 1), (159, .bipush 22, 2), (161, .if_icmp .ge 47, 3), (164, .aload_n 0, 1), (165, .getfield 57, 3), (168, .iload_n 2, 1), (169, .aload_n 0, 1), (170, .getfield 54, 3), (173, .iload_n 2, 1), (174, .laload, 1), (175, .lastore, 1), (176, .aload_n 0, 1), (177, .getfield 54, 3)]), (203, [(180, .iload_n 2, 1), (181, .iload_n 2, 1), (182, .iload_n 1, 1), (183, .if_icmp .ge 7, 3), (186, .lconst 0, 1), (187, .goto 14, 3), (190, .aload_n 0, 1), (191, .getfield 47, 3), (194, .bipush 22, 2), (196, .iload_n 1, 1), (197, .imul, 1), (198, .iload_n 2, 1), (199, .iadd, 1), (200, .laload, 1), (201, .lastore, 1), (202, .iinc 2 1, 3)]), (231, [(205, .goto (-47), 3), (208, .aload_n 0, 1), (209, .iload_n 1, 1), (210, .iconst 1, 1), (211, .iadd, 1), (212, .invokevirtual 156, 3), (215, .iconst 0, 1), (216, .istore_n 2, 1), (217, .iload_n 2, 1), (218, .bipush 22, 2), (220, .if_icmp .ge 38, 3), (223, .aload_n 0, 1), (224, .getfield 47, 3), (227, .bipush 22, 2), (229, .iload_n 1, 1), (230, .imul, 1)]), (253, [(231, .iload_n 2, 1), (232, .iadd, 1), (233, .aload_n 0, 1), (234, .getfield 54, 3), (237, .iload_n 2, 1), (238, .laload, 1), (239, .lastore, 1), (240, .aload_n 0, 1), (241, .getfield 54, 3), (244, .iload_n 2, 1), (245, .aload_n 0, 1), (246, .getfield 57, 3), (249, .iload_n 2, 1), (250, .laload, 1), (251, .lastore, 1), (252, .iinc 2 1, 3)]), (259, [(255, .goto (-38), 3), (258, .return_, 1)])]
def rxm_133 : rx_M := ((⟨"AngleChainsModel", "meet", "(I)V"⟩ : MethodName), prog_7_method_30_code, 7, none, 9, 1, 1, 5, rxt_133)
def rxt_134 : rx_Tb := [(24, [(0, .iconst 0, 1), (1, .istore_n 1, 1), (2, .iload_n 1, 1), (3, .aload_n 0, 1), (4, .getfield 117, 3), (7, .if_icmp .ge 127, 3), (10, .aload_n 0, 1), (11, .getfield 19, 3), (14, .iload_n 1, 1), (15, .iaload, 1), (16, .istore_n 2, 1), (17, .aload_n 0, 1), (18, .getfield 29, 3), (21, .iload_n 1, 1), (22, .baload, 1), (23, .ifCond .eq 105, 3)]), (51, [(26, .iload_n 2, 1), (27, .iconst 1, 1), (28, .if_icmp .eq 14, 3), (31, .iload_n 2, 1), (32, .iconst 2, 1), (33, .if_icmp .eq 9, 3), (36, .iload_n 2, 1), (37, .bipush 6, 2), (39, .if_icmp .ne 89, 3), (42, .aload_n 0, 1), (43, .aload_n 0, 1), (44, .iload_n 1, 1), (45, .iconst 0, 1), (46, .invokevirtual 256, 3), (49, .aload_n 0, 1), (50, .iload_n 1, 1)]), (77, [(51, .iconst 1, 1), (52, .invokevirtual 256, 3), (55, .aload_n 0, 1), (56, .iload_n 1, 1), (57, .iconst 2, 1), (58, .invokevirtual 256, 3), (61, .aload_n 0, 1), (62, .iload_n 1, 1), (63, .iconst 3, 1), (64, .invokevirtual 256, 3), (67, .iload_n 2, 1), (68, .iconst 2, 1), (69, .if_icmp .ne 7, 3), (72, .lconst 1, 1), (73, .goto 4, 3), (76, .lconst 0, 1)]), (106, [(77, .invokevirtual 232, 3), (80, .iload_n 2, 1), (81, .bipush 6, 2), (83, .if_icmp .ne 41, 3), (86, .aload_n 0, 1), (87, .aload_n 0, 1), (88, .iload_n 1, 1), (89, .iconst 4, 1), (90, .invokevirtual 256, 3), (93, .aload_n 0, 1), (94, .iload_n 1, 1), (95, .iconst 5, 1), (96, .invokevirtual 256, 3), (99, .ldc2_w 166, 3), (102, .invokevirtual 208, 3), (105, .aload_n 0, 1)]), (135, [(106, .aload_n 0, 1), (107, .iload_n 1, 1), (108, .bipush 6, 2), (110, .invokevirtual 256, 3), (113, .aload_n 0, 1), (114, .iload_n 1, 1), (115, .bipush 7, 2), (117, .invokevirtual 256, 3), (120, .lconst 1, 1), (121, .invokevirtual 208, 3), (124, .aload_n 0, 1), (125, .invokevirtual 219, 3), (128, .iinc 1 1, 3), (131, .goto (-129), 3), (134, .return_, 1)])]
def rxm_134 : rx_M := ((⟨"AngleChainsModel", "rowFacts", "()V"⟩ : MethodName), prog_7_method_54_code, 3, none, 9, 1, 0, 5, rxt_134)
def rxt_135 : rx_Tb := [(28, [(0, .aload_n 0, 1), (1, .invokevirtual 186, 3), (4, .aload_n 0, 1), (5, .iload_n 1, 1), (6, .iload_n 2, 1), (7, .lconst 1, 1), (8, .invokevirtual 208, 3), (11, .aload_n 0, 1), (12, .iload_n 3, 1), (13, .iload 4, 2), (15, .ldc2_w 166, 3), (18, .invokevirtual 208, 3), (21, .aload_n 0, 1), (22, .getfield 54, 3), (25, .bipush 21, 2), (27, .dup2, 1)]), (34, [(28, .laload, 1), (29, .lload 5, 2), (31, .lsub, 1), (32, .lastore, 1), (33, .return_, 1)])]
def rxm_135 : rx_M := ((⟨"AngleChainsModel", "rowOf", "(IIIIJ)V"⟩ : MethodName), prog_7_method_41_code, 7, none, 9, 1, 5, 5, rxt_135)
def rxt_136 : rx_Tb := [(16, [(0, .aload_n 0, 1), (1, .getfield 54, 3), (4, .aload_n 0, 1), (5, .iload_n 1, 1), (6, .iload_n 2, 1), (7, .invokevirtual 168, 3), (10, .dup2, 1), (11, .laload, 1), (12, .lload_n 3, 1), (13, .ladd, 1), (14, .lastore, 1), (15, .return_, 1)])]
def rxm_136 : rx_M := ((⟨"AngleChainsModel", "put", "(IIJ)V"⟩ : MethodName), prog_7_method_32_code, 5, none, 9, 1, 3, 5, rxt_136)
def rxt_137 : rx_Tb := [(14, [(0, .aload_n 0, 1), (1, .dup, 1), (2, .getfield 142, 3), (5, .aload_n 0, 1), (6, .invokevirtual 171, 3), (9, .ior, 1), (10, .putfield 142, 3), (13, .return_, 1)])]
def rxm_137 : rx_M := ((⟨"AngleChainsModel", "rowComes", "()V"⟩ : MethodName), prog_7_method_33_code, 1, none, 9, 1, 0, 5, rxt_137)
def rxt_138 : rx_Tb := [(28, [(0, .iconst 0, 1), (1, .istore_n 1, 1), (2, .iload_n 1, 1), (3, .sipush 2048, 3), (6, .if_icmp .ge 16, 3), (9, .aload_n 0, 1), (10, .getfield 78, 3), (13, .iload_n 1, 1), (14, .iconst (-1), 1), (15, .iastore, 1), (16, .iinc 1 1, 3), (19, .goto (-17), 3), (22, .aload_n 0, 1), (23, .iconst 0, 1), (24, .putfield 198, 3), (27, .aload_n 0, 1)]), (57, [(28, .invokevirtual 186, 3), (31, .aload_n 0, 1), (32, .invokevirtual 201, 3), (35, .istore_n 1, 1), (36, .aload_n 0, 1), (37, .invokevirtual 186, 3), (40, .aload_n 0, 1), (41, .getfield 54, 3), (44, .bipush 21, 2), (46, .lconst 1, 1), (47, .lastore, 1), (48, .aload_n 0, 1), (49, .aload_n 0, 1), (50, .invokevirtual 201, 3), (53, .putfield 205, 3), (56, .iconst 0, 1)]), (85, [(57, .istore_n 2, 1), (58, .iload_n 2, 1), (59, .aload_n 0, 1), (60, .getfield 175, 3), (63, .if_icmp .ge 64, 3), (66, .iconst 0, 1), (67, .istore_n 3, 1), (68, .iload_n 3, 1), (69, .aload_n 0, 1), (70, .getfield 175, 3), (73, .if_icmp .ge 48, 3), (76, .aload_n 0, 1), (77, .invokevirtual 186, 3), (80, .aload_n 0, 1), (81, .getfield 54, 3), (84, .iload_n 2, 1)]), (105, [(85, .dup2, 1), (86, .laload, 1), (87, .lconst 1, 1), (88, .ladd, 1), (89, .lastore, 1), (90, .aload_n 0, 1), (91, .getfield 54, 3), (94, .iload_n 3, 1), (95, .dup2, 1), (96, .laload, 1), (97, .lconst 1, 1), (98, .lsub, 1), (99, .lastore, 1), (100, .aload_n 0, 1), (101, .getfield 75, 3), (104, .bipush 21, 2)]), (128, [(106, .iload_n 2, 1), (107, .imul, 1), (108, .iload_n 3, 1), (109, .iadd, 1), (110, .aload_n 0, 1), (111, .invokevirtual 201, 3), (114, .iastore, 1), (115, .iinc 3 1, 3), (118, .goto (-50), 3), (121, .iinc 2 1, 3), (124, .goto (-66), 3), (127, .return_, 1)])]
def rxm_138 : rx_M := ((⟨"AngleChainsModel", "numberAll", "()V"⟩ : MethodName), prog_7_method_39_code, 4, none, 9, 1, 0, 5, rxt_138)
def rxt_139 : rx_Tb := [(27, [(0, .aload_n 0, 1), (1, .iconst 0, 1), (2, .invokevirtual 156, 3), (5, .ldc2_w 189, 3), (8, .lstore_n 1, 1), (9, .iconst 0, 1), (10, .istore_n 3, 1), (11, .iload_n 3, 1), (12, .bipush 22, 2), (14, .if_icmp .ge 26, 3), (17, .lload_n 1, 1), (18, .ldc2_w 191, 3), (21, .lmul, 1), (22, .aload_n 0, 1), (23, .getfield 54, 3), (26, .iload_n 3, 1)]), (52, [(27, .laload, 1), (28, .ladd, 1), (29, .ldc2_w 193, 3), (32, .ladd, 1), (33, .lstore_n 1, 1), (34, .iinc 3 1, 3), (37, .goto (-26), 3), (40, .lload_n 1, 1), (41, .bipush 53, 2), (43, .lushr, 1), (44, .l2i, 1), (45, .istore_n 3, 1), (46, .aload_n 0, 1), (47, .getfield 78, 3), (50, .iload_n 3, 1), (51, .iaload, 1)]), (80, [(52, .ifCond .lt 27, 3), (55, .aload_n 0, 1), (56, .aload_n 0, 1), (57, .getfield 78, 3), (60, .iload_n 3, 1), (61, .iaload, 1), (62, .invokevirtual 195, 3), (65, .ifCond .ne 14, 3), (68, .iload_n 3, 1), (69, .iconst 1, 1), (70, .iadd, 1), (71, .sipush 2048, 3), (74, .irem, 1), (75, .istore_n 3, 1), (76, .goto (-30), 3), (79, .aload_n 0, 1)]), (109, [(80, .getfield 78, 3), (83, .iload_n 3, 1), (84, .iaload, 1), (85, .ifCond .ge 61, 3), (88, .aload_n 0, 1), (89, .getfield 78, 3), (92, .iload_n 3, 1), (93, .aload_n 0, 1), (94, .getfield 198, 3), (97, .iastore, 1), (98, .iconst 0, 1), (99, .istore 4, 2), (101, .iload 4, 2), (103, .bipush 22, 2), (105, .if_icmp .ge 31, 3), (108, .aload_n 0, 1)]), (138, [(109, .getfield 72, 3), (112, .bipush 22, 2), (114, .aload_n 0, 1), (115, .getfield 198, 3), (118, .imul, 1), (119, .iload 4, 2), (121, .iadd, 1), (122, .aload_n 0, 1), (123, .getfield 54, 3), (126, .iload 4, 2), (128, .laload, 1), (129, .lastore, 1), (130, .iinc 4 1, 3), (133, .goto (-32), 3), (136, .aload_n 0, 1), (137, .dup, 1)]), (153, [(138, .getfield 198, 3), (141, .iconst 1, 1), (142, .iadd, 1), (143, .putfield 198, 3), (146, .aload_n 0, 1), (147, .getfield 78, 3), (150, .iload_n 3, 1), (151, .iaload, 1), (152, .ireturn, 1)])]
def rxm_139 : rx_M := ((⟨"AngleChainsModel", "number", "()I"⟩ : MethodName), prog_7_method_38_code, 5, (some .int), 9, 1, 0, 5, rxt_139)
def rxt_140 : rx_Tb := [(24, [(0, .iconst 1, 1), (1, .istore_n 2, 1), (2, .iconst 0, 1), (3, .istore_n 3, 1), (4, .iload_n 3, 1), (5, .bipush 22, 2), (7, .if_icmp .ge 40, 3), (10, .iload_n 2, 1), (11, .ifCond .eq 36, 3), (14, .aload_n 0, 1), (15, .getfield 72, 3), (18, .bipush 22, 2), (20, .iload_n 1, 1), (21, .imul, 1), (22, .iload_n 3, 1), (23, .iadd, 1)]), (49, [(24, .laload, 1), (25, .aload_n 0, 1), (26, .getfield 54, 3), (29, .iload_n 3, 1), (30, .laload, 1), (31, .lcmp, 1), (32, .ifCond .ne 7, 3), (35, .iconst 1, 1), (36, .goto 4, 3), (39, .iconst 0, 1), (40, .istore_n 2, 1), (41, .iinc 3 1, 3), (44, .goto (-40), 3), (47, .iload_n 2, 1), (48, .ireturn, 1)])]
def rxm_140 : rx_M := ((⟨"AngleChainsModel", "isFound", "(I)Z"⟩ : MethodName), prog_7_method_37_code, 4, (some .boolean), 9, 1, 1, 5, rxt_140)
def rxt_141 : rx_Tb := [(24, [(0, .iconst 0, 1), (1, .istore_n 1, 1), (2, .iload_n 1, 1), (3, .aload_n 0, 1), (4, .getfield 114, 3), (7, .if_icmp .ge 96, 3), (10, .iconst 0, 1), (11, .istore_n 2, 1), (12, .iload_n 2, 1), (13, .aload_n 0, 1), (14, .getfield 114, 3), (17, .if_icmp .ge 80, 3), (20, .iload_n 2, 1), (21, .iconst 1, 1), (22, .iadd, 1), (23, .istore_n 3, 1)]), (50, [(24, .iload_n 3, 1), (25, .aload_n 0, 1), (26, .getfield 114, 3), (29, .if_icmp .ge 62, 3), (32, .iload_n 1, 1), (33, .iload_n 2, 1), (34, .if_icmp .eq 51, 3), (37, .iload_n 1, 1), (38, .iload_n 3, 1), (39, .if_icmp .eq 46, 3), (42, .aload_n 0, 1), (43, .iload_n 1, 1), (44, .iload_n 2, 1), (45, .invokevirtual 135, 3), (48, .aload_n 0, 1), (49, .iload_n 1, 1)]), (76, [(50, .iload_n 3, 1), (51, .invokevirtual 135, 3), (54, .if_icmp .eq 31, 3), (57, .aload_n 0, 1), (58, .iload_n 1, 1), (59, .iload_n 2, 1), (60, .iload_n 1, 1), (61, .iload_n 3, 1), (62, .invokevirtual 212, 3), (65, .ifCond .ne 20, 3), (68, .aload_n 0, 1), (69, .aload_n 0, 1), (70, .iload_n 1, 1), (71, .iload_n 2, 1), (72, .invokevirtual 135, 3), (75, .aload_n 0, 1)]), (104, [(76, .iload_n 1, 1), (77, .iload_n 3, 1), (78, .invokevirtual 135, 3), (81, .ior, 1), (82, .invokevirtual 216, 3), (85, .iinc 3 1, 3), (88, .goto (-64), 3), (91, .iinc 2 1, 3), (94, .goto (-82), 3), (97, .iinc 1 1, 3), (100, .goto (-98), 3), (103, .return_, 1)])]
def rxm_141 : rx_M := ((⟨"AngleChainsModel", "ruleOne", "()V"⟩ : MethodName), prog_7_method_42_code, 4, none, 9, 1, 0, 5, rxt_141)
def rxt_142 : rx_Tb := [(23, [(0, .aload_n 0, 1), (1, .getfield 75, 3), (4, .bipush 21, 2), (6, .aload_n 0, 1), (7, .iload_n 1, 1), (8, .iload_n 2, 1), (9, .invokevirtual 168, 3), (12, .imul, 1), (13, .aload_n 0, 1), (14, .iload_n 3, 1), (15, .iload 4, 2), (17, .invokevirtual 168, 3), (20, .iadd, 1), (21, .iaload, 1), (22, .ireturn, 1)])]
def rxm_142 : rx_M := ((⟨"AngleChainsModel", "turnOf", "(IIII)I"⟩ : MethodName), prog_7_method_40_code, 5, (some .int), 9, 1, 4, 5, rxt_142)
def rxt_143 : rx_Tb := [(24, [(0, .iconst 0, 1), (1, .istore_n 1, 1), (2, .iload_n 1, 1), (3, .aload_n 0, 1), (4, .getfield 114, 3), (7, .if_icmp .ge 155, 3), (10, .iconst 0, 1), (11, .istore_n 2, 1), (12, .iload_n 2, 1), (13, .aload_n 0, 1), (14, .getfield 114, 3), (17, .if_icmp .ge 139, 3), (20, .iconst 0, 1), (21, .istore_n 3, 1), (22, .iload_n 3, 1), (23, .aload_n 0, 1)]), (50, [(24, .getfield 114, 3), (27, .if_icmp .ge 123, 3), (30, .iload_n 1, 1), (31, .iload_n 2, 1), (32, .if_icmp .eq 118, 3), (35, .iload_n 3, 1), (36, .iload_n 1, 1), (37, .if_icmp .eq 107, 3), (40, .iload_n 3, 1), (41, .iload_n 2, 1), (42, .if_icmp .eq 102, 3), (45, .aload_n 0, 1), (46, .iload_n 1, 1), (47, .iload_n 2, 1), (48, .iload_n 3, 1), (49, .invokevirtual 89, 3)]), (76, [(52, .ifCond .eq 92, 3), (55, .aload_n 0, 1), (56, .iload_n 1, 1), (57, .iload_n 2, 1), (58, .iload_n 2, 1), (59, .iload_n 3, 1), (60, .invokevirtual 212, 3), (63, .aload_n 0, 1), (64, .iload_n 2, 1), (65, .iload_n 3, 1), (66, .iload_n 1, 1), (67, .iload_n 3, 1), (68, .invokevirtual 212, 3), (71, .if_icmp .ne 7, 3), (74, .iconst 1, 1), (75, .goto 4, 3)]), (104, [(78, .iconst 0, 1), (79, .istore 4, 2), (81, .aload_n 0, 1), (82, .iload_n 1, 1), (83, .iload_n 2, 1), (84, .iload_n 1, 1), (85, .iload_n 3, 1), (86, .invokevirtual 229, 3), (89, .ifCond .eq 42, 3), (92, .iload 4, 2), (94, .ifCond .ne 37, 3), (97, .aload_n 0, 1), (98, .invokevirtual 186, 3), (101, .aload_n 0, 1), (102, .iload_n 1, 1), (103, .iload_n 2, 1)]), (132, [(104, .lconst 1, 1), (105, .invokevirtual 208, 3), (108, .aload_n 0, 1), (109, .iload_n 1, 1), (110, .iload_n 3, 1), (111, .lconst 1, 1), (112, .invokevirtual 208, 3), (115, .aload_n 0, 1), (116, .iload_n 2, 1), (117, .iload_n 3, 1), (118, .ldc2_w 254, 3), (121, .invokevirtual 208, 3), (124, .aload_n 0, 1), (125, .invokevirtual 219, 3), (128, .goto 16, 3), (131, .iload 4, 2)]), (163, [(133, .ifCond .eq 11, 3), (136, .aload_n 0, 1), (137, .iload_n 1, 1), (138, .iload_n 2, 1), (139, .iload_n 1, 1), (140, .iload_n 3, 1), (141, .invokevirtual 225, 3), (144, .iinc 3 1, 3), (147, .goto (-125), 3), (150, .iinc 2 1, 3), (153, .goto (-141), 3), (156, .iinc 1 1, 3), (159, .goto (-157), 3), (162, .return_, 1)])]
def rxm_143 : rx_M := ((⟨"AngleChainsModel", "threes", "()V"⟩ : MethodName), prog_7_method_50_code, 5, none, 9, 1, 0, 5, rxt_143)
def rxt_144 : rx_Tb := [(22, [(0, .aload_n 0, 1), (1, .iload_n 1, 1), (2, .iload_n 2, 1), (3, .invokevirtual 149, 3), (6, .aload_n 0, 1), (7, .iload_n 3, 1), (8, .iload 4, 2), (10, .invokevirtual 149, 3), (13, .if_icmp .ne 7, 3), (16, .iconst 1, 1), (17, .goto 4, 3), (20, .iconst 0, 1), (21, .ireturn, 1)])]
def rxm_144 : rx_M := ((⟨"AngleChainsModel", "isEqual", "(IIII)Z"⟩ : MethodName), prog_7_method_23_code, 5, (some .boolean), 9, 1, 4, 5, rxt_144)
def rxt_145 : rx_Tb := [(24, [(0, .iconst 0, 1), (1, .istore_n 1, 1), (2, .iload_n 1, 1), (3, .aload_n 0, 1), (4, .getfield 114, 3), (7, .if_icmp .ge 146, 3), (10, .iconst 0, 1), (11, .istore_n 2, 1), (12, .iload_n 2, 1), (13, .aload_n 0, 1), (14, .getfield 114, 3), (17, .if_icmp .ge 130, 3), (20, .iconst 0, 1), (21, .istore_n 3, 1), (22, .iload_n 3, 1), (23, .aload_n 0, 1)]), (54, [(24, .getfield 114, 3), (27, .if_icmp .ge 114, 3), (30, .iload_n 1, 1), (31, .iload_n 2, 1), (32, .if_icmp .eq 109, 3), (35, .iconst 0, 1), (36, .istore 4, 2), (38, .iload 4, 2), (40, .aload_n 0, 1), (41, .getfield 114, 3), (44, .if_icmp .ge 91, 3), (47, .iload_n 3, 1), (48, .iload_n 1, 1), (49, .if_icmp .eq 86, 3), (52, .iload_n 3, 1), (53, .iload_n 2, 1)]), (82, [(54, .if_icmp .eq 81, 3), (57, .iload 4, 2), (59, .iload_n 1, 1), (60, .if_icmp .eq 69, 3), (63, .iload 4, 2), (65, .iload_n 2, 1), (66, .if_icmp .eq 63, 3), (69, .iload 4, 2), (71, .iload_n 3, 1), (72, .if_icmp .eq 57, 3), (75, .aload_n 0, 1), (76, .iload_n 1, 1), (77, .iload_n 2, 1), (78, .iload_n 3, 1), (79, .iload 4, 2), (81, .invokevirtual 236, 3)]), (106, [(84, .aload_n 0, 1), (85, .iload_n 1, 1), (86, .iload_n 2, 1), (87, .iload_n 3, 1), (88, .iload 4, 2), (90, .invokevirtual 239, 3), (93, .aload_n 0, 1), (94, .iload_n 1, 1), (95, .iload_n 2, 1), (96, .iload_n 3, 1), (97, .iload 4, 2), (99, .invokevirtual 242, 3), (102, .aload_n 0, 1), (103, .iload_n 1, 1), (104, .iload_n 2, 1), (105, .iload_n 3, 1)]), (133, [(106, .iload 4, 2), (108, .invokevirtual 245, 3), (111, .aload_n 0, 1), (112, .iload_n 1, 1), (113, .iload_n 2, 1), (114, .iload_n 3, 1), (115, .iload 4, 2), (117, .invokevirtual 248, 3), (120, .aload_n 0, 1), (121, .iload_n 1, 1), (122, .iload_n 2, 1), (123, .iload_n 3, 1), (124, .iload 4, 2), (126, .invokevirtual 251, 3), (129, .iinc 4 1, 3), (132, .goto (-94), 3)]), (154, [(135, .iinc 3 1, 3), (138, .goto (-116), 3), (141, .iinc 2 1, 3), (144, .goto (-132), 3), (147, .iinc 1 1, 3), (150, .goto (-148), 3), (153, .return_, 1)])]
def rxm_145 : rx_M := ((⟨"AngleChainsModel", "fours", "()V"⟩ : MethodName), prog_7_method_49_code, 5, none, 9, 1, 0, 5, rxt_145)
def rxt_146 : rx_Tb := [(27, [(0, .aload_n 0, 1), (1, .iload_n 1, 1), (2, .iload_n 2, 1), (3, .iload_n 3, 1), (4, .invokevirtual 145, 3), (7, .iload 4, 2), (9, .invokestatic 131, 3), (12, .ifCond .eq 79, 3), (15, .aload_n 0, 1), (16, .iload_n 1, 1), (17, .iload_n 2, 1), (18, .iload_n 3, 1), (19, .invokevirtual 89, 3), (22, .ifCond .eq 69, 3), (25, .aload_n 0, 1), (26, .iload_n 1, 1)]), (53, [(27, .iload_n 3, 1), (28, .iload_n 2, 1), (29, .iload_n 3, 1), (30, .invokevirtual 212, 3), (33, .aload_n 0, 1), (34, .iload_n 1, 1), (35, .iload 4, 2), (37, .iload_n 2, 1), (38, .iload 4, 2), (40, .invokevirtual 212, 3), (43, .if_icmp .eq 110, 3), (46, .aload_n 0, 1), (47, .invokevirtual 186, 3), (50, .aload_n 0, 1), (51, .iload_n 1, 1), (52, .iload_n 3, 1)]), (81, [(53, .lconst 1, 1), (54, .invokevirtual 208, 3), (57, .aload_n 0, 1), (58, .iload_n 2, 1), (59, .iload_n 3, 1), (60, .ldc2_w 166, 3), (63, .invokevirtual 208, 3), (66, .aload_n 0, 1), (67, .iload_n 1, 1), (68, .iload 4, 2), (70, .ldc2_w 166, 3), (73, .invokevirtual 208, 3), (76, .aload_n 0, 1), (77, .iload_n 2, 1), (78, .iload 4, 2), (80, .lconst 1, 1)]), (110, [(81, .invokevirtual 208, 3), (84, .aload_n 0, 1), (85, .invokevirtual 219, 3), (88, .goto 65, 3), (91, .aload_n 0, 1), (92, .iload_n 1, 1), (93, .iload_n 2, 1), (94, .iload_n 3, 1), (95, .invokevirtual 89, 3), (98, .ifCond .eq 55, 3), (101, .aload_n 0, 1), (102, .iload_n 1, 1), (103, .iload_n 2, 1), (104, .iload 4, 2), (106, .invokevirtual 89, 3), (109, .ifCond .eq 44, 3)]), (136, [(112, .aload_n 0, 1), (113, .iload_n 1, 1), (114, .iload_n 3, 1), (115, .iload_n 2, 1), (116, .iload_n 3, 1), (117, .invokevirtual 212, 3), (120, .aload_n 0, 1), (121, .iload_n 1, 1), (122, .iload 4, 2), (124, .iload_n 2, 1), (125, .iload 4, 2), (127, .invokevirtual 212, 3), (130, .if_icmp .ne 23, 3), (133, .aload_n 0, 1), (134, .iconst 1, 1), (135, .iload_n 1, 1)]), (154, [(136, .ishl, 1), (137, .iconst 1, 1), (138, .iload_n 2, 1), (139, .ishl, 1), (140, .ior, 1), (141, .iconst 1, 1), (142, .iload_n 3, 1), (143, .ishl, 1), (144, .ior, 1), (145, .iconst 1, 1), (146, .iload 4, 2), (148, .ishl, 1), (149, .ior, 1), (150, .invokevirtual 222, 3), (153, .return_, 1)])]
def rxm_146 : rx_M := ((⟨"AngleChainsModel", "angles", "(IIII)V"⟩ : MethodName), prog_7_method_43_code, 5, none, 9, 1, 4, 5, rxt_146)
def rxt_147 : rx_Tb := [(25, [(0, .aload_n 0, 1), (1, .iload_n 1, 1), (2, .iload_n 2, 1), (3, .iload_n 3, 1), (4, .invokevirtual 89, 3), (7, .ifCond .eq 45, 3), (10, .aload_n 0, 1), (11, .iload_n 1, 1), (12, .iload_n 2, 1), (13, .iload_n 3, 1), (14, .iload 4, 2), (16, .invokevirtual 212, 3), (19, .ifCond .ne 33, 3), (22, .aload_n 0, 1), (23, .iload_n 1, 1), (24, .iload_n 3, 1)]), (50, [(25, .iload_n 2, 1), (26, .iload 4, 2), (28, .invokevirtual 212, 3), (31, .ifCond .ne 21, 3), (34, .aload_n 0, 1), (35, .iload_n 1, 1), (36, .iload_n 2, 1), (37, .iload_n 3, 1), (38, .iload 4, 2), (40, .invokevirtual 225, 3), (43, .aload_n 0, 1), (44, .iload_n 1, 1), (45, .iload_n 3, 1), (46, .iload_n 2, 1), (47, .iload 4, 2), (49, .invokevirtual 225, 3)]), (53, [(52, .return_, 1)])]
def rxm_147 : rx_M := ((⟨"AngleChainsModel", "parallels", "(IIII)V"⟩ : MethodName), prog_7_method_44_code, 5, none, 9, 1, 4, 5, rxt_147)
def rxt_148 : rx_Tb := [(26, [(0, .aload_n 0, 1), (1, .iload_n 1, 1), (2, .iload_n 3, 1), (3, .iload_n 1, 1), (4, .iload 4, 2), (6, .invokevirtual 229, 3), (9, .ifCond .eq 70, 3), (12, .aload_n 0, 1), (13, .iload_n 2, 1), (14, .iload_n 3, 1), (15, .iload_n 2, 1), (16, .iload 4, 2), (18, .invokevirtual 229, 3), (21, .ifCond .eq 33, 3), (24, .aload_n 0, 1), (25, .iload_n 1, 1)]), (52, [(26, .iload_n 2, 1), (27, .iload_n 3, 1), (28, .iload 4, 2), (30, .invokevirtual 212, 3), (33, .aload_n 0, 1), (34, .getfield 205, 3), (37, .if_icmp .eq 17, 3), (40, .aload_n 0, 1), (41, .iload_n 1, 1), (42, .iload_n 2, 1), (43, .iload_n 3, 1), (44, .iload 4, 2), (46, .lconst 1, 1), (47, .invokevirtual 232, 3), (50, .aload_n 0, 1), (51, .invokevirtual 219, 3)]), (80, [(54, .aload_n 0, 1), (55, .iload_n 1, 1), (56, .iload_n 2, 1), (57, .iload_n 3, 1), (58, .iload 4, 2), (60, .invokevirtual 212, 3), (63, .aload_n 0, 1), (64, .getfield 205, 3), (67, .if_icmp .ne 12, 3), (70, .aload_n 0, 1), (71, .iload_n 2, 1), (72, .iload_n 3, 1), (73, .iload_n 2, 1), (74, .iload 4, 2), (76, .invokevirtual 225, 3), (79, .return_, 1)])]
def rxm_148 : rx_M := ((⟨"AngleChainsModel", "perpendiculars", "(IIII)V"⟩ : MethodName), prog_7_method_45_code, 5, none, 9, 1, 4, 5, rxt_148)
def rxt_149 : rx_Tb := [(26, [(0, .aload_n 0, 1), (1, .iload_n 2, 1), (2, .iload_n 3, 1), (3, .invokevirtual 135, 3), (6, .iload_n 1, 1), (7, .invokestatic 131, 3), (10, .ifCond .eq 95, 3), (13, .aload_n 0, 1), (14, .iload_n 1, 1), (15, .iload_n 2, 1), (16, .iload_n 1, 1), (17, .iload_n 3, 1), (18, .invokevirtual 229, 3), (21, .ifCond .eq 84, 3), (24, .aload_n 0, 1), (25, .iload_n 2, 1)]), (53, [(26, .iload_n 3, 1), (27, .iload 4, 2), (29, .invokevirtual 89, 3), (32, .ifCond .eq 73, 3), (35, .aload_n 0, 1), (36, .iload_n 1, 1), (37, .iload_n 2, 1), (38, .iload_n 1, 1), (39, .iload 4, 2), (41, .invokevirtual 229, 3), (44, .ifCond .eq 35, 3), (47, .aload_n 0, 1), (48, .iload_n 2, 1), (49, .iload 4, 2), (51, .iload_n 3, 1), (52, .iload 4, 2)]), (82, [(54, .invokevirtual 212, 3), (57, .aload_n 0, 1), (58, .getfield 205, 3), (61, .if_icmp .eq 18, 3), (64, .aload_n 0, 1), (65, .iload_n 2, 1), (66, .iload 4, 2), (68, .iload_n 3, 1), (69, .iload 4, 2), (71, .lconst 1, 1), (72, .invokevirtual 232, 3), (75, .aload_n 0, 1), (76, .invokevirtual 219, 3), (79, .aload_n 0, 1), (80, .iload_n 2, 1), (81, .iload 4, 2)]), (106, [(83, .iload_n 3, 1), (84, .iload 4, 2), (86, .invokevirtual 212, 3), (89, .aload_n 0, 1), (90, .getfield 205, 3), (93, .if_icmp .ne 12, 3), (96, .aload_n 0, 1), (97, .iload_n 1, 1), (98, .iload_n 2, 1), (99, .iload_n 1, 1), (100, .iload 4, 2), (102, .invokevirtual 225, 3), (105, .return_, 1)])]
def rxm_149 : rx_M := ((⟨"AngleChainsModel", "halves", "(IIII)V"⟩ : MethodName), prog_7_method_46_code, 5, none, 9, 1, 4, 5, rxt_149)
def rxt_150 : rx_Tb := [(26, [(0, .aload_n 0, 1), (1, .iload_n 2, 1), (2, .iload_n 3, 1), (3, .invokevirtual 135, 3), (6, .iload_n 1, 1), (7, .invokestatic 131, 3), (10, .ifCond .eq 25, 3), (13, .aload_n 0, 1), (14, .iload_n 1, 1), (15, .iload_n 2, 1), (16, .iload_n 1, 1), (17, .iload_n 3, 1), (18, .invokevirtual 229, 3), (21, .ifCond .eq 14, 3), (24, .aload_n 0, 1), (25, .iload_n 2, 1)]), (57, [(26, .iload_n 3, 1), (27, .iload 4, 2), (29, .invokevirtual 89, 3), (32, .ifCond .ne 4, 3), (35, .return_, 1), (36, .iconst 0, 1), (37, .istore 5, 2), (39, .iload 5, 2), (41, .aload_n 0, 1), (42, .getfield 114, 3), (45, .if_icmp .ge 91, 3), (48, .iload 5, 2), (50, .iload_n 1, 1), (51, .if_icmp .eq 79, 3), (54, .iload 5, 2), (56, .iload_n 2, 1)]), (90, [(57, .if_icmp .eq 73, 3), (60, .iload 5, 2), (62, .iload_n 3, 1), (63, .if_icmp .eq 67, 3), (66, .iload 5, 2), (68, .iload 4, 2), (70, .if_icmp .eq 60, 3), (73, .aload_n 0, 1), (74, .iload_n 2, 1), (75, .iload 4, 2), (77, .invokevirtual 135, 3), (80, .iload 5, 2), (82, .invokestatic 131, 3), (85, .ifCond .eq 45, 3), (88, .aload_n 0, 1), (89, .iload 5, 2)]), (120, [(91, .iload_n 2, 1), (92, .iload 5, 2), (94, .iload 4, 2), (96, .invokevirtual 229, 3), (99, .ifCond .eq 31, 3), (102, .aload_n 0, 1), (103, .iload_n 1, 1), (104, .iload 5, 2), (106, .iload_n 3, 1), (107, .iload 4, 2), (109, .invokevirtual 212, 3), (112, .ifCond .eq 18, 3), (115, .aload_n 0, 1), (116, .iload_n 1, 1), (117, .iload 5, 2), (119, .iload_n 3, 1)]), (137, [(120, .iload 4, 2), (122, .lconst 0, 1), (123, .invokevirtual 232, 3), (126, .aload_n 0, 1), (127, .invokevirtual 219, 3), (130, .iinc 5 1, 3), (133, .goto (-94), 3), (136, .return_, 1)])]
def rxm_150 : rx_M := ((⟨"AngleChainsModel", "middles", "(IIII)V"⟩ : MethodName), prog_7_method_47_code, 6, none, 9, 1, 4, 5, rxt_150)
def rxt_151 : rx_Tb := [(25, [(0, .aload_n 0, 1), (1, .iload_n 1, 1), (2, .iload_n 2, 1), (3, .iload_n 1, 1), (4, .iload_n 3, 1), (5, .invokevirtual 229, 3), (8, .ifCond .eq 26, 3), (11, .aload_n 0, 1), (12, .iload_n 1, 1), (13, .iload_n 2, 1), (14, .iload_n 1, 1), (15, .iload 4, 2), (17, .invokevirtual 229, 3), (20, .ifCond .eq 14, 3), (23, .aload_n 0, 1), (24, .iload_n 2, 1)]), (56, [(25, .iload_n 3, 1), (26, .iload 4, 2), (28, .invokevirtual 89, 3), (31, .ifCond .ne 4, 3), (34, .return_, 1), (35, .iconst 0, 1), (36, .istore 5, 2), (38, .iload 5, 2), (40, .aload_n 0, 1), (41, .getfield 114, 3), (44, .if_icmp .ge 83, 3), (47, .iload 5, 2), (49, .iload_n 1, 1), (50, .if_icmp .eq 71, 3), (53, .iload 5, 2), (55, .iload_n 2, 1)]), (86, [(56, .if_icmp .eq 65, 3), (59, .iload 5, 2), (61, .iload_n 3, 1), (62, .if_icmp .eq 59, 3), (65, .iload 5, 2), (67, .iload 4, 2), (69, .if_icmp .eq 52, 3), (72, .aload_n 0, 1), (73, .iload_n 1, 1), (74, .iload_n 2, 1), (75, .iload_n 1, 1), (76, .iload 5, 2), (78, .invokevirtual 229, 3), (81, .ifCond .eq 40, 3), (84, .aload_n 0, 1), (85, .iload_n 2, 1)]), (110, [(86, .iload_n 3, 1), (87, .iload 4, 2), (89, .invokevirtual 145, 3), (92, .iload 5, 2), (94, .invokestatic 131, 3), (97, .ifCond .ne 24, 3), (100, .aload_n 0, 1), (101, .iconst 1, 1), (102, .iload_n 2, 1), (103, .ishl, 1), (104, .iconst 1, 1), (105, .iload_n 3, 1), (106, .ishl, 1), (107, .ior, 1), (108, .iconst 1, 1), (109, .iload 4, 2)]), (128, [(111, .ishl, 1), (112, .ior, 1), (113, .iconst 1, 1), (114, .iload 5, 2), (116, .ishl, 1), (117, .ior, 1), (118, .invokevirtual 222, 3), (121, .iinc 5 1, 3), (124, .goto (-86), 3), (127, .return_, 1)])]
def rxm_151 : rx_M := ((⟨"AngleChainsModel", "wheels", "(IIII)V"⟩ : MethodName), prog_7_method_48_code, 6, none, 9, 1, 4, 5, rxt_151)
def rxt_152 : rx_Tb := [(64, [(0, .iload_n 1, 1), (1, .tableswitch 173 0 5 #[39, 173, 173, 62, 90, 115], 39), (40, .aload_n 0, 1), (41, .aload_n 0, 1), (42, .iconst 0, 1), (43, .invokevirtual 96, 3), (46, .aload_n 0, 1), (47, .iconst 1, 1), (48, .invokevirtual 96, 3), (51, .invokevirtual 135, 3), (54, .aload_n 0, 1), (55, .iconst 2, 1), (56, .invokevirtual 96, 3), (59, .invokestatic 131, 3), (62, .ireturn, 1), (63, .aload_n 0, 1)]), (92, [(64, .aload_n 0, 1), (65, .iconst 0, 1), (66, .invokevirtual 96, 3), (69, .aload_n 0, 1), (70, .iconst 1, 1), (71, .invokevirtual 96, 3), (74, .aload_n 0, 1), (75, .iconst 2, 1), (76, .invokevirtual 96, 3), (79, .invokevirtual 145, 3), (82, .aload_n 0, 1), (83, .iconst 3, 1), (84, .invokevirtual 96, 3), (87, .invokestatic 131, 3), (90, .ireturn, 1), (91, .aload_n 0, 1)]), (118, [(92, .aload_n 0, 1), (93, .iconst 0, 1), (94, .invokevirtual 96, 3), (97, .aload_n 0, 1), (98, .iconst 1, 1), (99, .invokevirtual 96, 3), (102, .aload_n 0, 1), (103, .iconst 2, 1), (104, .invokevirtual 96, 3), (107, .aload_n 0, 1), (108, .iconst 3, 1), (109, .invokevirtual 96, 3), (112, .invokevirtual 229, 3), (115, .ireturn, 1), (116, .aload_n 0, 1), (117, .aload_n 0, 1)]), (148, [(118, .iconst 0, 1), (119, .invokevirtual 96, 3), (122, .aload_n 0, 1), (123, .iconst 1, 1), (124, .invokevirtual 96, 3), (127, .invokevirtual 135, 3), (130, .aload_n 0, 1), (131, .iconst 2, 1), (132, .invokevirtual 96, 3), (135, .invokestatic 131, 3), (138, .ifCond .eq 34, 3), (141, .aload_n 0, 1), (142, .aload_n 0, 1), (143, .iconst 0, 1), (144, .invokevirtual 96, 3), (147, .aload_n 0, 1)]), (176, [(148, .iconst 1, 1), (149, .invokevirtual 96, 3), (152, .aload_n 0, 1), (153, .iconst 0, 1), (154, .invokevirtual 96, 3), (157, .aload_n 0, 1), (158, .iconst 2, 1), (159, .invokevirtual 96, 3), (162, .invokevirtual 229, 3), (165, .ifCond .eq 7, 3), (168, .iconst 1, 1), (169, .goto 4, 3), (172, .iconst 0, 1), (173, .ireturn, 1), (174, .aload_n 0, 1), (175, .aload_n 0, 1)]), (202, [(176, .iconst 0, 1), (177, .invokevirtual 96, 3), (180, .aload_n 0, 1), (181, .iconst 1, 1), (182, .invokevirtual 96, 3), (185, .aload_n 0, 1), (186, .iconst 2, 1), (187, .invokevirtual 96, 3), (190, .aload_n 0, 1), (191, .iconst 3, 1), (192, .invokevirtual 96, 3), (195, .iload_n 1, 1), (196, .iconst 2, 1), (197, .if_icmp .ne 7, 3), (200, .lconst 1, 1), (201, .goto 4, 3)]), (233, [(204, .lconst 0, 1), (205, .invokevirtual 232, 3), (208, .iload_n 1, 1), (209, .bipush 6, 2), (211, .if_icmp .ne 37, 3), (214, .aload_n 0, 1), (215, .aload_n 0, 1), (216, .iconst 4, 1), (217, .invokevirtual 96, 3), (220, .aload_n 0, 1), (221, .iconst 5, 1), (222, .invokevirtual 96, 3), (225, .ldc2_w 166, 3), (228, .invokevirtual 208, 3), (231, .aload_n 0, 1), (232, .aload_n 0, 1)]), (253, [(233, .bipush 6, 2), (235, .invokevirtual 96, 3), (238, .aload_n 0, 1), (239, .bipush 7, 2), (241, .invokevirtual 96, 3), (244, .lconst 1, 1), (245, .invokevirtual 208, 3), (248, .aload_n 0, 1), (249, .invokevirtual 286, 3), (252, .ireturn, 1)])]
def rxm_152 : rx_M := ((⟨"AngleChainsModel", "follow", "(I)Z"⟩ : MethodName), prog_7_method_58_code, 2, (some .boolean), 9, 1, 1, 5, rxt_152)
def rxt_153 : rx_Tb := [(23, [(0, .aload_n 0, 1), (1, .iconst 0, 1), (2, .invokevirtual 156, 3), (5, .iconst 1, 1), (6, .istore_n 1, 1), (7, .iconst 0, 1), (8, .istore_n 2, 1), (9, .iload_n 2, 1), (10, .bipush 22, 2), (12, .if_icmp .ge 28, 3), (15, .iload_n 1, 1), (16, .aload_n 0, 1), (17, .getfield 54, 3), (20, .iload_n 2, 1), (21, .laload, 1), (22, .lconst 0, 1)]), (42, [(23, .lcmp, 1), (24, .ifCond .ne 7, 3), (27, .iconst 1, 1), (28, .goto 4, 3), (31, .iconst 0, 1), (32, .iand, 1), (33, .istore_n 1, 1), (34, .iinc 2 1, 3), (37, .goto (-28), 3), (40, .iload_n 1, 1), (41, .ireturn, 1)])]
def rxm_153 : rx_M := ((⟨"AngleChainsModel", "rowFollows", "()Z"⟩ : MethodName), prog_7_method_57_code, 3, (some .boolean), 9, 1, 0, 5, rxt_153)
def rxt_154 : rx_Tb := [(28, [(0, .aload_n 0, 1), (1, .iconst 0, 1), (2, .putfield 81, 3), (5, .aload_n 0, 1), (6, .iload_n 1, 1), (7, .invokevirtual 124, 3), (10, .istore_n 2, 1), (11, .iload_n 2, 1), (12, .ifCond .eq 15, 3), (15, .aload_n 0, 1), (16, .iload_n 1, 1), (17, .invokevirtual 128, 3), (20, .ifCond .eq 7, 3), (23, .iconst 1, 1), (24, .goto 4, 3), (27, .iconst 0, 1)]), (55, [(28, .istore_n 3, 1), (29, .iload_n 3, 1), (30, .ifCond .ne 19, 3), (33, .aload_n 0, 1), (34, .iconst 0, 1), (35, .putfield 108, 3), (38, .iload_n 2, 1), (39, .ifCond .eq 8, 3), (42, .bipush (-2), 2), (44, .goto 4, 3), (47, .iconst (-1), 1), (48, .ireturn, 1), (49, .aload_n 0, 1), (50, .invokevirtual 289, 3), (53, .aload_n 0, 1), (54, .iconst 0, 1)]), (87, [(55, .putfield 295, 3), (58, .aload_n 0, 1), (59, .iload_n 1, 1), (60, .invokevirtual 292, 3), (63, .istore 4, 2), (65, .iload 4, 2), (67, .ifCond .eq 150, 3), (70, .iconst 0, 1), (71, .istore 5, 2), (73, .iload 5, 2), (75, .aload_n 0, 1), (76, .getfield 117, 3), (79, .if_icmp .ge 23, 3), (82, .aload_n 0, 1), (83, .getfield 29, 3), (86, .iload 5, 2)]), (117, [(88, .aload_n 0, 1), (89, .getfield 25, 3), (92, .iload 5, 2), (94, .baload, 1), (95, .bastore, 1), (96, .iinc 5 1, 3), (99, .goto (-26), 3), (102, .aload_n 0, 1), (103, .getfield 117, 3), (106, .iconst 1, 1), (107, .isub, 1), (108, .istore 5, 2), (110, .iload 5, 2), (112, .ifCond .lt 51, 3), (115, .aload_n 0, 1), (116, .getfield 29, 3)]), (146, [(119, .iload 5, 2), (121, .baload, 1), (122, .ifCond .eq 35, 3), (125, .aload_n 0, 1), (126, .getfield 29, 3), (129, .iload 5, 2), (131, .iconst 0, 1), (132, .bastore, 1), (133, .aload_n 0, 1), (134, .invokevirtual 283, 3), (137, .aload_n 0, 1), (138, .getfield 29, 3), (141, .iload 5, 2), (143, .aload_n 0, 1), (144, .iload_n 1, 1), (145, .invokevirtual 292, 3)]), (180, [(148, .ifCond .ne 7, 3), (151, .iconst 1, 1), (152, .goto 4, 3), (155, .iconst 0, 1), (156, .bastore, 1), (157, .iinc 5 (-1), 3), (160, .goto (-50), 3), (163, .iconst 0, 1), (164, .istore 5, 2), (166, .iload 5, 2), (168, .aload_n 0, 1), (169, .getfield 117, 3), (172, .if_icmp .ge 40, 3), (175, .aload_n 0, 1), (176, .getfield 29, 3), (179, .iload 5, 2)]), (210, [(181, .baload, 1), (182, .ifCond .eq 24, 3), (185, .aload_n 0, 1), (186, .getfield 32, 3), (189, .aload_n 0, 1), (190, .getfield 295, 3), (193, .iload 5, 2), (195, .iastore, 1), (196, .aload_n 0, 1), (197, .dup, 1), (198, .getfield 295, 3), (201, .iconst 1, 1), (202, .iadd, 1), (203, .putfield 295, 3), (206, .iinc 5 1, 3), (209, .goto (-43), 3)]), (227, [(212, .aload_n 0, 1), (213, .iconst 0, 1), (214, .putfield 120, 3), (217, .aload_n 0, 1), (218, .iconst 0, 1), (219, .putfield 108, 3), (222, .aload_n 0, 1), (223, .getfield 295, 3), (226, .ireturn, 1)])]
def rxm_154 : rx_M := ((⟨"AngleChainsModel", "needs", "(I)I"⟩ : MethodName), prog_7_method_60_code, 6, (some .int), 9, 1, 1, 5, rxt_154)
def rxt_155 : rx_Tb := [(28, [(0, .aload_n 0, 1), (1, .iconst 0, 1), (2, .putfield 81, 3), (5, .iload_n 1, 1), (6, .ifCond .lt 11, 3), (9, .iload_n 1, 1), (10, .aload_n 0, 1), (11, .getfield 295, 3), (14, .if_icmp .lt 7, 3), (17, .iconst (-1), 1), (18, .goto 9, 3), (21, .aload_n 0, 1), (22, .getfield 32, 3), (25, .iload_n 1, 1), (26, .iaload, 1), (27, .ireturn, 1)])]
def rxm_155 : rx_M := ((⟨"AngleChainsModel", "need", "(I)I"⟩ : MethodName), prog_7_method_61_code, 2, (some .int), 9, 1, 1, 5, rxt_155)
def rxt_156 : rx_Tb := [(28, [(0, .aload_n 0, 1), (1, .iconst 0, 1), (2, .putfield 81, 3), (5, .aload_n 0, 1), (6, .iload_n 1, 1), (7, .invokevirtual 298, 3), (10, .ifCond .ne 16, 3), (13, .aload_n 0, 1), (14, .iload_n 2, 1), (15, .invokevirtual 298, 3), (18, .ifCond .ne 8, 3), (21, .iload_n 1, 1), (22, .iload_n 2, 1), (23, .if_icmp .ne 5, 3), (26, .iconst 0, 1), (27, .ireturn, 1)]), (39, [(28, .aload_n 0, 1), (29, .invokevirtual 289, 3), (32, .aload_n 0, 1), (33, .iload_n 1, 1), (34, .iload_n 2, 1), (35, .invokevirtual 135, 3), (38, .ireturn, 1)])]
def rxm_156 : rx_M := ((⟨"AngleChainsModel", "line", "(II)I"⟩ : MethodName), prog_7_method_63_code, 3, (some .int), 9, 1, 2, 5, rxt_156)
def rxt_157 : rx_Tb := [(18, [(0, .iload_n 1, 1), (1, .ifCond .lt 11, 3), (4, .iload_n 1, 1), (5, .aload_n 0, 1), (6, .getfield 114, 3), (9, .if_icmp .lt 7, 3), (12, .iconst 1, 1), (13, .goto 4, 3), (16, .iconst 0, 1), (17, .ireturn, 1)])]
def rxm_157 : rx_M := ((⟨"AngleChainsModel", "noPoint", "(I)Z"⟩ : MethodName), prog_7_method_62_code, 2, (some .boolean), 9, 1, 1, 5, rxt_157)
def rxt_158 : rx_Tb := [(30, [(0, .aload_n 0, 1), (1, .iconst 0, 1), (2, .putfield 81, 3), (5, .aload_n 0, 1), (6, .iload_n 1, 1), (7, .invokevirtual 298, 3), (10, .ifCond .ne 19, 3), (13, .aload_n 0, 1), (14, .iload_n 2, 1), (15, .invokevirtual 298, 3), (18, .ifCond .ne 11, 3), (21, .aload_n 0, 1), (22, .iload_n 3, 1), (23, .invokevirtual 298, 3), (26, .ifCond .eq 5, 3), (29, .iconst 0, 1)]), (43, [(30, .ireturn, 1), (31, .aload_n 0, 1), (32, .invokevirtual 289, 3), (35, .aload_n 0, 1), (36, .iload_n 1, 1), (37, .iload_n 2, 1), (38, .iload_n 3, 1), (39, .invokevirtual 145, 3), (42, .ireturn, 1)])]
def rxm_158 : rx_M := ((⟨"AngleChainsModel", "circle", "(III)I"⟩ : MethodName), prog_7_method_64_code, 4, (some .int), 9, 1, 3, 5, rxt_158)
def rxt_159 : rx_Tb := [(28, [(0, .aload_n 0, 1), (1, .iconst 0, 1), (2, .putfield 81, 3), (5, .aload_n 0, 1), (6, .iload_n 1, 1), (7, .invokevirtual 298, 3), (10, .ifCond .ne 16, 3), (13, .aload_n 0, 1), (14, .iload_n 2, 1), (15, .invokevirtual 298, 3), (18, .ifCond .ne 8, 3), (21, .iload_n 1, 1), (22, .iload_n 2, 1), (23, .if_icmp .ne 5, 3), (26, .iconst (-1), 1), (27, .ireturn, 1)]), (39, [(28, .aload_n 0, 1), (29, .invokevirtual 289, 3), (32, .aload_n 0, 1), (33, .iload_n 1, 1), (34, .iload_n 2, 1), (35, .invokevirtual 149, 3), (38, .ireturn, 1)])]
def rxm_159 : rx_M := ((⟨"AngleChainsModel", "length", "(II)I"⟩ : MethodName), prog_7_method_65_code, 3, (some .int), 9, 1, 2, 5, rxt_159)
def rxt_160 : rx_Tb := [(25, [(0, .aload_n 0, 1), (1, .iconst 0, 1), (2, .putfield 81, 3), (5, .iconst 0, 1), (6, .istore_n 2, 1), (7, .iconst 0, 1), (8, .istore_n 3, 1), (9, .iload_n 1, 1), (10, .iconst 3, 1), (11, .if_icmp .le 13, 3), (14, .iload_n 1, 1), (15, .bipush 8, 2), (17, .if_icmp .ge 7, 3), (20, .aload_n 0, 1), (21, .invokevirtual 289, 3), (24, .iconst 0, 1)]), (54, [(25, .istore 4, 2), (27, .iload 4, 2), (29, .aload_n 0, 1), (30, .getfield 117, 3), (33, .if_icmp .ge 27, 3), (36, .iload_n 2, 1), (37, .aload_n 0, 1), (38, .getfield 25, 3), (41, .iload 4, 2), (43, .baload, 1), (44, .ifCond .eq 7, 3), (47, .iconst 1, 1), (48, .goto 4, 3), (51, .iconst 0, 1), (52, .iadd, 1), (53, .istore_n 2, 1)]), (86, [(54, .iinc 4 1, 3), (57, .goto (-30), 3), (60, .iconst 0, 1), (61, .istore 4, 2), (63, .iload 4, 2), (65, .bipush 21, 2), (67, .if_icmp .ge 27, 3), (70, .iload_n 3, 1), (71, .aload_n 0, 1), (72, .getfield 51, 3), (75, .iload 4, 2), (77, .baload, 1), (78, .ifCond .eq 7, 3), (81, .iconst 1, 1), (82, .goto 4, 3), (85, .iconst 0, 1)]), (154, [(86, .iadd, 1), (87, .istore_n 3, 1), (88, .iinc 4 1, 3), (91, .goto (-28), 3), (94, .iload_n 1, 1), (95, .tableswitch 79 0 7 #[45, 50, 55, 57, 62, 67, 72, 77], 45), (140, .aload_n 0, 1), (141, .getfield 114, 3), (144, .ireturn, 1), (145, .aload_n 0, 1), (146, .getfield 117, 3), (149, .ireturn, 1), (150, .iload_n 2, 1), (151, .ireturn, 1), (152, .aload_n 0, 1), (153, .getfield 108, 3)]), (176, [(156, .ireturn, 1), (157, .aload_n 0, 1), (158, .getfield 175, 3), (161, .ireturn, 1), (162, .aload_n 0, 1), (163, .invokevirtual 304, 3), (166, .ireturn, 1), (167, .aload_n 0, 1), (168, .invokevirtual 307, 3), (171, .ireturn, 1), (172, .iload_n 3, 1), (173, .ireturn, 1), (174, .iconst (-1), 1), (175, .ireturn, 1)])]
def rxm_160 : rx_M := ((⟨"AngleChainsModel", "told", "(I)I"⟩ : MethodName), prog_7_method_69_code, 5, (some .int), 9, 1, 1, 5, rxt_160)
def rxt_161 : rx_Tb := [(22, [(0, .iconst 0, 1), (1, .istore_n 1, 1), (2, .iconst 0, 1), (3, .istore_n 2, 1), (4, .iload_n 2, 1), (5, .aload_n 0, 1), (6, .getfield 114, 3), (9, .if_icmp .ge 169, 3), (12, .iload_n 2, 1), (13, .iconst 1, 1), (14, .iadd, 1), (15, .istore_n 3, 1), (16, .iload_n 3, 1), (17, .aload_n 0, 1), (18, .getfield 114, 3), (21, .if_icmp .ge 151, 3)]), (51, [(24, .iload_n 3, 1), (25, .iconst 1, 1), (26, .iadd, 1), (27, .istore 4, 2), (29, .iload 4, 2), (31, .aload_n 0, 1), (32, .getfield 114, 3), (35, .if_icmp .ge 131, 3), (38, .aload_n 0, 1), (39, .iload_n 2, 1), (40, .iload_n 3, 1), (41, .iload 4, 2), (43, .invokevirtual 145, 3), (46, .istore 5, 2), (48, .iload 5, 2), (50, .invokestatic 301, 3)]), (83, [(53, .iconst 3, 1), (54, .if_icmp .le 7, 3), (57, .iconst 1, 1), (58, .goto 4, 3), (61, .iconst 0, 1), (62, .istore 6, 2), (64, .iconst 0, 1), (65, .istore 7, 2), (67, .iload 7, 2), (69, .iload_n 2, 1), (70, .if_icmp .ge 31, 3), (73, .iload 6, 2), (75, .ifCond .eq 26, 3), (78, .iload 5, 2), (80, .iload 7, 2), (82, .invokestatic 131, 3)]), (116, [(85, .ifCond .ne 7, 3), (88, .iconst 1, 1), (89, .goto 4, 3), (92, .iconst 0, 1), (93, .istore 6, 2), (95, .iinc 7 1, 3), (98, .goto (-31), 3), (101, .iload_n 2, 1), (102, .iconst 1, 1), (103, .iadd, 1), (104, .istore 7, 2), (106, .iload 7, 2), (108, .iload 4, 2), (110, .if_icmp .ge 37, 3), (113, .iload 6, 2), (115, .ifCond .eq 32, 3)]), (151, [(118, .iload 7, 2), (120, .iload_n 3, 1), (121, .if_icmp .eq 13, 3), (124, .iload 5, 2), (126, .iload 7, 2), (128, .invokestatic 131, 3), (131, .ifCond .ne 7, 3), (134, .iconst 1, 1), (135, .goto 4, 3), (138, .iconst 0, 1), (139, .istore 6, 2), (141, .iinc 7 1, 3), (144, .goto (-38), 3), (147, .iload_n 1, 1), (148, .iload 6, 2), (150, .ifCond .eq 7, 3)]), (180, [(153, .iconst 1, 1), (154, .goto 4, 3), (157, .iconst 0, 1), (158, .iadd, 1), (159, .istore_n 1, 1), (160, .iinc 4 1, 3), (163, .goto (-134), 3), (166, .iinc 3 1, 3), (169, .goto (-153), 3), (172, .iinc 2 1, 3), (175, .goto (-171), 3), (178, .iload_n 1, 1), (179, .ireturn, 1)])]
def rxm_161 : rx_M := ((⟨"AngleChainsModel", "circles", "()I"⟩ : MethodName), prog_7_method_67_code, 8, (some .int), 9, 1, 0, 5, rxt_161)
def rxt_162 : rx_Tb := [(18, [(0, .iconst 0, 1), (1, .istore_n 1, 1), (2, .iload_n 0, 1), (3, .istore_n 2, 1), (4, .iload_n 2, 1), (5, .ifCond .le 16, 3), (8, .iload_n 1, 1), (9, .iload_n 2, 1), (10, .iconst 1, 1), (11, .iand, 1), (12, .iadd, 1), (13, .istore_n 1, 1), (14, .iload_n 2, 1), (15, .iconst 1, 1), (16, .ishr, 1), (17, .istore_n 2, 1)]), (23, [(18, .goto (-14), 3), (21, .iload_n 1, 1), (22, .ireturn, 1)])]
def rxm_162 : rx_M := ((⟨"AngleChainsModel", "many", "(I)I"⟩ : MethodName), prog_7_method_66_code, 3, (some .int), 9, 0, 1, 5, rxt_162)
def rxt_163 : rx_Tb := [(22, [(0, .iconst 0, 1), (1, .istore_n 1, 1), (2, .iconst 0, 1), (3, .istore_n 2, 1), (4, .iload_n 2, 1), (5, .aload_n 0, 1), (6, .getfield 114, 3), (9, .if_icmp .ge 50, 3), (12, .iload_n 2, 1), (13, .iconst 1, 1), (14, .iadd, 1), (15, .istore_n 3, 1), (16, .iload_n 3, 1), (17, .aload_n 0, 1), (18, .getfield 114, 3), (21, .if_icmp .ge 32, 3)]), (47, [(24, .iload_n 1, 1), (25, .aload_n 0, 1), (26, .iload_n 2, 1), (27, .iload_n 3, 1), (28, .invokevirtual 149, 3), (31, .bipush 12, 2), (33, .iload_n 2, 1), (34, .imul, 1), (35, .iload_n 3, 1), (36, .iadd, 1), (37, .if_icmp .ne 7, 3), (40, .iconst 1, 1), (41, .goto 4, 3), (44, .iconst 0, 1), (45, .iadd, 1), (46, .istore_n 1, 1)]), (61, [(47, .iinc 3 1, 3), (50, .goto (-34), 3), (53, .iinc 2 1, 3), (56, .goto (-52), 3), (59, .iload_n 1, 1), (60, .ireturn, 1)])]
def rxm_163 : rx_M := ((⟨"AngleChainsModel", "lengths", "()I"⟩ : MethodName), prog_7_method_68_code, 4, (some .int), 9, 1, 0, 5, rxt_163)
def rx_ms : List rx_M := [rxm_0, rxm_1, rxm_2, rxm_3, rxm_4, rxm_5, rxm_6, rxm_7, rxm_8, rxm_9, rxm_10, rxm_11, rxm_12, rxm_13, rxm_14, rxm_15, rxm_16, rxm_17, rxm_18, rxm_19, rxm_20, rxm_21, rxm_22, rxm_23, rxm_24, rxm_25, rxm_26, rxm_27, rxm_28, rxm_29, rxm_30, rxm_31, rxm_32, rxm_33, rxm_34, rxm_35, rxm_36, rxm_37, rxm_38, rxm_39, rxm_40, rxm_41, rxm_42, rxm_43, rxm_44, rxm_45, rxm_46, rxm_47, rxm_48, rxm_49, rxm_50, rxm_51, rxm_52, rxm_53, rxm_54, rxm_55, rxm_56, rxm_57, rxm_58, rxm_59, rxm_60, rxm_61, rxm_62, rxm_63, rxm_64, rxm_65, rxm_66, rxm_67, rxm_68, rxm_69, rxm_70, rxm_71, rxm_72, rxm_73, rxm_74, rxm_75, rxm_76, rxm_77, rxm_78, rxm_79, rxm_80, rxm_81, rxm_82, rxm_83, rxm_84, rxm_85, rxm_86, rxm_87, rxm_88, rxm_89, rxm_90, rxm_91, rxm_92, rxm_93, rxm_94, rxm_95, rxm_96, rxm_97, rxm_98, rxm_99, rxm_100, rxm_101, rxm_102, rxm_103, rxm_104, rxm_105, rxm_106, rxm_107, rxm_108, rxm_109, rxm_110, rxm_111, rxm_112, rxm_113, rxm_114, rxm_115, rxm_116, rxm_117, rxm_118, rxm_119, rxm_120, rxm_121, rxm_122, rxm_123, rxm_124, rxm_125, rxm_126, rxm_127, rxm_128, rxm_129, rxm_130, rxm_131, rxm_132, rxm_133, rxm_134, rxm_135, rxm_136, rxm_137, rxm_138, rxm_139, rxm_140, rxm_141, rxm_142, rxm_143, rxm_144, rxm_145, rxm_146, rxm_147, rxm_148, rxm_149, rxm_150, rxm_151, rxm_152, rxm_153, rxm_154, rxm_155, rxm_156, rxm_157, rxm_158, rxm_159, rxm_160, rxm_161, rxm_162, rxm_163]
def rx_owns : List String := ["AngleChainsLaw", "AngleChains", "AngleChains$Figure", "AngleChains$Deduction", "AngleChains$Rows", "AngleChains$Cases", "java/lang/Integer", "java/util/Arrays", "java/lang/Math", "AngleChainsModel"]
def rx_own (k : Nat) : String := rx_owns.getD k ""
def rx_lkF : List ((Nat × Nat) × Nat × Nat × FieldType × Nat) := [((2, 9), 1, 0, .array (.int), 1), ((2, 15), 1, 1, .array (.int), 1), ((2, 18), 1, 2, .int, 0), ((3, 54), 1, 2, .int, 0), ((5, 23), 1, 2, .int, 0), ((1, 90), 1, 2, .int, 0), ((4, 11), 3, 0, .array (.array (.long)), 1), ((4, 16), 3, 1, .array (.long), 1), ((4, 20), 3, 2, .int, 0), ((3, 237), 3, 2, .int, 0), ((3, 76), 3, 3, .boolean, 0), ((4, 42), 3, 3, .boolean, 0), ((5, 15), 4, 0, .object "AngleChains$Figure", 1), ((5, 11), 4, 1, .array (.int), 1), ((3, 101), 4, 1, .array (.int), 2), ((5, 19), 4, 2, .int, 0), ((3, 98), 4, 2, .int, 0), ((3, 40), 2, 0, .object "AngleChains$Figure", 1), ((3, 44), 2, 1, .array (.int), 1), ((3, 50), 2, 2, .object "AngleChains$Cases", 1), ((3, 12), 2, 3, .object "AngleChains$Rows", 1), ((3, 18), 2, 4, .array (.int), 1), ((3, 22), 2, 5, .array (.int), 1), ((3, 25), 2, 6, .array (.int), 1), ((3, 28), 2, 7, .array (.int), 1), ((3, 33), 2, 8, .array (.int), 1), ((3, 79), 2, 9, .int, 0), ((3, 72), 2, 10, .boolean, 0), ((3, 36), 2, 11, .int, 0), ((3, 65), 2, 12, .int, 0), ((1, 10), 0, 0, .object "AngleChains$Figure", 1), ((1, 16), 0, 1, .array (.int), 1), ((1, 25), 0, 2, .object "AngleChains$Deduction", 1), ((1, 29), 0, 3, .int, 0), ((1, 58), 0, 4, .int, 0), ((1, 68), 0, 5, .int, 0), ((1, 48), 0, 6, .int, 0), ((1, 45), 0, 7, .int, 0), ((9, 81), 5, 0, .int, 0), ((9, 114), 5, 1, .int, 0), ((9, 7), 5, 2, .array (.int), 1), ((9, 13), 5, 3, .array (.int), 1), ((9, 16), 5, 4, .array (.int), 1), ((9, 108), 5, 5, .int, 0), ((9, 117), 5, 6, .int, 0), ((9, 19), 5, 7, .array (.int), 1), ((9, 22), 5, 8, .array (.int), 1), ((9, 25), 5, 9, .array (.boolean), 1), ((9, 29), 5, 10, .array (.boolean), 1), ((9, 32), 5, 11, .array (.int), 1), ((9, 295), 5, 12, .int, 0), ((9, 120), 5, 13, .boolean, 0), ((9, 35), 5, 14, .array (.int), 1), ((9, 38), 5, 15, .array (.int), 1), ((9, 41), 5, 16, .array (.int), 1), ((9, 142), 5, 17, .boolean, 0), ((9, 44), 5, 18, .array (.int), 1), ((9, 175), 5, 19, .int, 0), ((9, 139), 5, 20, .boolean, 0), ((9, 47), 5, 21, .array (.long), 1), ((9, 51), 5, 22, .array (.boolean), 1), ((9, 54), 5, 23, .array (.long), 1), ((9, 57), 5, 24, .array (.long), 1), ((9, 60), 5, 25, .array (.long), 1), ((9, 63), 5, 26, .array (.boolean), 1), ((9, 66), 5, 27, .array (.int), 1), ((9, 69), 5, 28, .array (.int), 1), ((9, 72), 5, 29, .array (.long), 1), ((9, 75), 5, 30, .array (.int), 1), ((9, 78), 5, 31, .array (.int), 1), ((9, 198), 5, 32, .int, 0), ((9, 205), 5, 33, .int, 0)]
def rx_lkS : List ((Nat × Nat) × Nat) := [((1, 106), 1), ((3, 89), 2), ((3, 92), 3), ((1, 118), 4)]
def rx_lkM : List ((Nat × Nat) × Nat × Nat) := [((0, 9), 1, 0), ((1, 1), 1000, 0), ((1, 9), 2, 1), ((2, 3), 1000, 0), ((1, 22), 3, 0), ((3, 3), 1000, 0), ((3, 11), 4, 1), ((4, 3), 1000, 0), ((3, 47), 5, 0), ((5, 3), 1000, 0), ((0, 13), 6, 0), ((1, 33), 7, 0), ((2, 22), 8, 0), ((1, 37), 9, 0), ((0, 18), 10, 0), ((1, 41), 11, 0), ((0, 23), 12, 0), ((1, 51), 13, 0), ((1, 109), 14, 0), ((1, 115), 15, 0), ((1, 71), 16, 0), ((1, 112), 17, 0), ((1, 55), 18, 0), ((2, 40), 15, 1), ((2, 44), 19, 1), ((2, 37), 20, 0), ((2, 26), 21, 0), ((2, 30), 22, 0), ((2, 48), 23, 0), ((2, 52), 24, 0), ((2, 33), 25, 0), ((2, 55), 26, 0), ((0, 27), 27, 0), ((0, 31), 28, 0), ((0, 36), 29, 0), ((1, 61), 30, 0), ((3, 59), 31, 0), ((5, 28), 32, 0), ((5, 51), 24, 0), ((5, 44), 33, 0), ((5, 32), 34, 0), ((5, 40), 20, 0), ((5, 48), 35, 0), ((5, 55), 36, 0), ((5, 36), 37, 0), ((5, 59), 23, 0), ((5, 62), 38, 0), ((5, 65), 39, 0), ((5, 68), 40, 0), ((3, 62), 41, 0), ((3, 86), 42, 0), ((4, 24), 43, 0), ((3, 95), 44, 0), ((3, 110), 45, 0), ((3, 116), 46, 0), ((3, 119), 11, 0), ((3, 122), 20, 0), ((3, 104), 1001, 0), ((3, 68), 47, 0), ((3, 126), 19, 1), ((3, 129), 14, 1), ((3, 133), 48, 0), ((3, 186), 16, 0), ((3, 181), 49, 0), ((3, 150), 50, 0), ((4, 30), 51, 0), ((4, 34), 52, 0), ((4, 48), 53, 0), ((4, 38), 54, 0), ((3, 136), 55, 0), ((3, 139), 56, 1), ((1, 121), 57, 0), ((3, 143), 58, 0), ((3, 189), 1005, 0), ((3, 194), 1004, 0), ((3, 147), 59, 0), ((3, 173), 60, 0), ((3, 177), 61, 0), ((3, 182), 62, 0), ((3, 82), 63, 0), ((3, 197), 64, 0), ((3, 153), 65, 0), ((3, 163), 15, 1), ((3, 221), 66, 0), ((3, 169), 67, 0), ((3, 200), 68, 0), ((3, 156), 69, 0), ((3, 224), 70, 0), ((3, 203), 71, 0), ((3, 228), 72, 0), ((3, 159), 73, 0), ((3, 206), 74, 0), ((3, 166), 75, 0), ((3, 183), 57, 1), ((3, 209), 76, 0), ((3, 212), 77, 0), ((3, 215), 78, 0), ((3, 218), 79, 0), ((1, 65), 80, 0), ((0, 40), 81, 0), ((0, 44), 82, 0), ((0, 48), 83, 0), ((1, 76), 84, 0), ((0, 52), 85, 0), ((1, 79), 20, 0), ((1, 83), 86, 0), ((0, 57), 87, 0), ((1, 87), 88, 0), ((0, 61), 89, 0), ((1, 93), 90, 0), ((3, 231), 91, 0), ((1, 97), 92, 0), ((3, 234), 93, 0), ((1, 100), 94, 0), ((1, 103), 95, 0), ((0, 12), 96, 0), ((9, 1), 1000, 0), ((0, 17), 97, 0), ((0, 22), 98, 0), ((0, 26), 99, 0), ((9, 124), 100, 0), ((9, 111), 101, 0), ((9, 128), 102, 0), ((9, 96), 103, 0), ((9, 89), 104, 0), ((9, 85), 105, 0), ((9, 93), 106, 0), ((9, 100), 107, 0), ((9, 104), 108, 0), ((0, 30), 109, 0), ((0, 35), 110, 0), ((0, 39), 111, 0), ((9, 289), 112, 0), ((9, 283), 113, 0), ((9, 259), 114, 0), ((9, 180), 115, 0), ((9, 135), 116, 0), ((9, 183), 117, 0), ((9, 262), 118, 0), ((9, 256), 119, 0), ((9, 216), 120, 0), ((9, 131), 121, 0), ((9, 222), 122, 0), ((9, 145), 123, 0), ((9, 225), 124, 0), ((9, 149), 125, 0), ((9, 265), 126, 0), ((9, 168), 127, 0), ((9, 186), 128, 0), ((9, 171), 129, 0), ((9, 156), 130, 0), ((9, 152), 131, 0), ((9, 160), 132, 0), ((9, 163), 133, 0), ((9, 268), 134, 0), ((9, 232), 135, 0), ((9, 208), 136, 0), ((9, 219), 137, 0), ((9, 271), 138, 0), ((9, 201), 139, 0), ((9, 195), 140, 0), ((9, 274), 141, 0), ((9, 212), 142, 0), ((9, 277), 143, 0), ((9, 229), 144, 0), ((9, 280), 145, 0), ((9, 236), 146, 0), ((9, 239), 147, 0), ((9, 242), 148, 0), ((9, 245), 149, 0), ((9, 248), 150, 0), ((9, 251), 151, 0), ((9, 292), 152, 0), ((9, 286), 153, 0), ((0, 43), 154, 0), ((0, 47), 155, 0), ((0, 51), 156, 0), ((9, 298), 157, 0), ((0, 56), 158, 0), ((0, 60), 159, 0), ((0, 64), 160, 0), ((9, 304), 161, 0), ((9, 301), 162, 0), ((9, 307), 163, 0)]
def rx_lkC : List ((Nat × Nat) × Nat) := [((0, 7), 0), ((1, 7), 1), ((1, 20), 2), ((3, 9), 3), ((4, 9), 1003), ((3, 31), 4), ((0, 10), 5)]
def rx_lkI : List ((Nat × Nat) × Int32) := [((6, 265), 1431655765), ((6, 266), 858993459), ((6, 267), 252645135), ((6, 264), 65536)]
def rx_lkL : List ((Nat × Nat) × Int64) := [((4, 46), (-1)), ((9, 178), 2), ((9, 166), (-1)), ((9, 189), 17), ((9, 191), 6364136223846793005), ((9, 193), 1442695040888963407), ((9, 254), (-2))]
def rx_lk0 : rx_Lk := (rx_lkF, rx_lkS, rx_lkM, rx_lkC, rx_lkI, rx_lkL)
end
section
set_option maxRecDepth 100000 in
theorem rxd_0 : rx_chk rxm_0 = true := by decide +kernel
set_option maxRecDepth 100000 in
theorem rxd_1 : rx_chk rxm_1 = true := by decide +kernel
set_option maxRecDepth 100000 in
theorem rxd_2 : rx_chk rxm_2 = true := by decide +kernel
set_option maxRecDepth 100000 in
theorem rxd_3 : rx_chk rxm_3 = true := by decide +kernel
set_option maxRecDepth 100000 in
theorem rxd_4 : rx_chk rxm_4 = true := by decide +kernel
set_option maxRecDepth 100000 in
theorem rxd_5 : rx_chk rxm_5 = true := by decide +kernel
set_option maxRecDepth 100000 in
theorem rxd_6 : rx_chk rxm_6 = true := by decide +kernel
set_option maxRecDepth 100000 in
theorem rxd_7 : rx_chk rxm_7 = true := by decide +kernel
set_option maxRecDepth 100000 in
theorem rxd_8 : rx_chk rxm_8 = true := by decide +kernel
set_option maxRecDepth 100000 in
theorem rxd_9 : rx_chk rxm_9 = true := by decide +kernel
set_option maxRecDepth 100000 in
theorem rxd_10 : rx_chk rxm_10 = true := by decide +kernel
set_option maxRecDepth 100000 in
theorem rxd_11 : rx_chk rxm_11 = true := by decide +kernel
set_option maxRecDepth 100000 in
theorem rxd_12 : rx_chk rxm_12 = true := by decide +kernel
set_option maxRecDepth 100000 in
theorem rxd_13 : rx_chk rxm_13 = true := by decide +kernel
set_option maxRecDepth 100000 in
theorem rxd_14 : rx_chk rxm_14 = true := by decide +kernel
set_option maxRecDepth 100000 in
theorem rxd_15 : rx_chk rxm_15 = true := by decide +kernel
set_option maxRecDepth 100000 in
theorem rxd_16 : rx_chk rxm_16 = true := by decide +kernel
set_option maxRecDepth 100000 in
theorem rxd_17 : rx_chk rxm_17 = true := by decide +kernel
set_option maxRecDepth 100000 in
theorem rxd_18 : rx_chk rxm_18 = true := by decide +kernel
set_option maxRecDepth 100000 in
theorem rxd_19 : rx_chk rxm_19 = true := by decide +kernel
set_option maxRecDepth 100000 in
theorem rxd_20 : rx_chk rxm_20 = true := by decide +kernel
set_option maxRecDepth 100000 in
theorem rxd_21 : rx_chk rxm_21 = true := by decide +kernel
set_option maxRecDepth 100000 in
theorem rxd_22 : rx_chk rxm_22 = true := by decide +kernel
set_option maxRecDepth 100000 in
theorem rxd_23 : rx_chk rxm_23 = true := by decide +kernel
set_option maxRecDepth 100000 in
theorem rxd_24 : rx_chk rxm_24 = true := by decide +kernel
set_option maxRecDepth 100000 in
theorem rxd_25 : rx_chk rxm_25 = true := by decide +kernel
set_option maxRecDepth 100000 in
theorem rxd_26 : rx_chk rxm_26 = true := by decide +kernel
set_option maxRecDepth 100000 in
theorem rxd_27 : rx_chk rxm_27 = true := by decide +kernel
set_option maxRecDepth 100000 in
theorem rxd_28 : rx_chk rxm_28 = true := by decide +kernel
set_option maxRecDepth 100000 in
theorem rxd_29 : rx_chk rxm_29 = true := by decide +kernel
set_option maxRecDepth 100000 in
theorem rxd_30 : rx_chk rxm_30 = true := by decide +kernel
set_option maxRecDepth 100000 in
theorem rxd_31 : rx_chk rxm_31 = true := by decide +kernel
set_option maxRecDepth 100000 in
theorem rxd_32 : rx_chk rxm_32 = true := by decide +kernel
set_option maxRecDepth 100000 in
theorem rxd_33 : rx_chk rxm_33 = true := by decide +kernel
set_option maxRecDepth 100000 in
theorem rxd_34 : rx_chk rxm_34 = true := by decide +kernel
set_option maxRecDepth 100000 in
theorem rxd_35 : rx_chk rxm_35 = true := by decide +kernel
set_option maxRecDepth 100000 in
theorem rxd_36 : rx_chk rxm_36 = true := by decide +kernel
set_option maxRecDepth 100000 in
theorem rxd_37 : rx_chk rxm_37 = true := by decide +kernel
set_option maxRecDepth 100000 in
theorem rxd_38 : rx_chk rxm_38 = true := by decide +kernel
set_option maxRecDepth 100000 in
theorem rxd_39 : rx_chk rxm_39 = true := by decide +kernel
set_option maxRecDepth 100000 in
theorem rxd_40 : rx_chk rxm_40 = true := by decide +kernel
set_option maxRecDepth 100000 in
theorem rxd_41 : rx_chk rxm_41 = true := by decide +kernel
set_option maxRecDepth 100000 in
theorem rxd_42 : rx_chk rxm_42 = true := by decide +kernel
set_option maxRecDepth 100000 in
theorem rxd_43 : rx_chk rxm_43 = true := by decide +kernel
set_option maxRecDepth 100000 in
theorem rxd_44 : rx_chk rxm_44 = true := by decide +kernel
set_option maxRecDepth 100000 in
theorem rxd_45 : rx_chk rxm_45 = true := by decide +kernel
set_option maxRecDepth 100000 in
theorem rxd_46 : rx_chk rxm_46 = true := by decide +kernel
set_option maxRecDepth 100000 in
theorem rxd_47 : rx_chk rxm_47 = true := by decide +kernel
set_option maxRecDepth 100000 in
theorem rxd_48 : rx_chk rxm_48 = true := by decide +kernel
set_option maxRecDepth 100000 in
theorem rxd_49 : rx_chk rxm_49 = true := by decide +kernel
set_option maxRecDepth 100000 in
theorem rxd_50 : rx_chk rxm_50 = true := by decide +kernel
set_option maxRecDepth 100000 in
theorem rxd_51 : rx_chk rxm_51 = true := by decide +kernel
set_option maxRecDepth 100000 in
theorem rxd_52 : rx_chk rxm_52 = true := by decide +kernel
set_option maxRecDepth 100000 in
theorem rxd_53 : rx_chk rxm_53 = true := by decide +kernel
set_option maxRecDepth 100000 in
theorem rxd_54 : rx_chk rxm_54 = true := by decide +kernel
end
section
set_option maxRecDepth 100000 in
theorem rxd_55 : rx_chk rxm_55 = true := by decide +kernel
set_option maxRecDepth 100000 in
theorem rxd_56 : rx_chk rxm_56 = true := by decide +kernel
set_option maxRecDepth 100000 in
theorem rxd_57 : rx_chk rxm_57 = true := by decide +kernel
set_option maxRecDepth 100000 in
theorem rxd_58 : rx_chk rxm_58 = true := by decide +kernel
set_option maxRecDepth 100000 in
theorem rxd_59 : rx_chk rxm_59 = true := by decide +kernel
set_option maxRecDepth 100000 in
theorem rxd_60 : rx_chk rxm_60 = true := by decide +kernel
set_option maxRecDepth 100000 in
theorem rxd_61 : rx_chk rxm_61 = true := by decide +kernel
set_option maxRecDepth 100000 in
theorem rxd_62 : rx_chk rxm_62 = true := by decide +kernel
set_option maxRecDepth 100000 in
theorem rxd_63 : rx_chk rxm_63 = true := by decide +kernel
set_option maxRecDepth 100000 in
theorem rxd_64 : rx_chk rxm_64 = true := by decide +kernel
set_option maxRecDepth 100000 in
theorem rxd_65 : rx_chk rxm_65 = true := by decide +kernel
set_option maxRecDepth 100000 in
theorem rxd_66 : rx_chk rxm_66 = true := by decide +kernel
set_option maxRecDepth 100000 in
theorem rxd_67 : rx_chk rxm_67 = true := by decide +kernel
set_option maxRecDepth 100000 in
theorem rxd_68 : rx_chk rxm_68 = true := by decide +kernel
set_option maxRecDepth 100000 in
theorem rxd_69 : rx_chk rxm_69 = true := by decide +kernel
set_option maxRecDepth 100000 in
theorem rxd_70 : rx_chk rxm_70 = true := by decide +kernel
set_option maxRecDepth 100000 in
theorem rxd_71 : rx_chk rxm_71 = true := by decide +kernel
set_option maxRecDepth 100000 in
theorem rxd_72 : rx_chk rxm_72 = true := by decide +kernel
set_option maxRecDepth 100000 in
theorem rxd_73 : rx_chk rxm_73 = true := by decide +kernel
set_option maxRecDepth 100000 in
theorem rxd_74 : rx_chk rxm_74 = true := by decide +kernel
set_option maxRecDepth 100000 in
theorem rxd_75 : rx_chk rxm_75 = true := by decide +kernel
set_option maxRecDepth 100000 in
theorem rxd_76 : rx_chk rxm_76 = true := by decide +kernel
set_option maxRecDepth 100000 in
theorem rxd_77 : rx_chk rxm_77 = true := by decide +kernel
set_option maxRecDepth 100000 in
theorem rxd_78 : rx_chk rxm_78 = true := by decide +kernel
set_option maxRecDepth 100000 in
theorem rxd_79 : rx_chk rxm_79 = true := by decide +kernel
set_option maxRecDepth 100000 in
theorem rxd_80 : rx_chk rxm_80 = true := by decide +kernel
set_option maxRecDepth 100000 in
theorem rxd_81 : rx_chk rxm_81 = true := by decide +kernel
set_option maxRecDepth 100000 in
theorem rxd_82 : rx_chk rxm_82 = true := by decide +kernel
set_option maxRecDepth 100000 in
theorem rxd_83 : rx_chk rxm_83 = true := by decide +kernel
set_option maxRecDepth 100000 in
theorem rxd_84 : rx_chk rxm_84 = true := by decide +kernel
set_option maxRecDepth 100000 in
theorem rxd_85 : rx_chk rxm_85 = true := by decide +kernel
set_option maxRecDepth 100000 in
theorem rxd_86 : rx_chk rxm_86 = true := by decide +kernel
set_option maxRecDepth 100000 in
theorem rxd_87 : rx_chk rxm_87 = true := by decide +kernel
set_option maxRecDepth 100000 in
theorem rxd_88 : rx_chk rxm_88 = true := by decide +kernel
set_option maxRecDepth 100000 in
theorem rxd_89 : rx_chk rxm_89 = true := by decide +kernel
set_option maxRecDepth 100000 in
theorem rxd_90 : rx_chk rxm_90 = true := by decide +kernel
set_option maxRecDepth 100000 in
theorem rxd_91 : rx_chk rxm_91 = true := by decide +kernel
set_option maxRecDepth 100000 in
theorem rxd_92 : rx_chk rxm_92 = true := by decide +kernel
set_option maxRecDepth 100000 in
theorem rxd_93 : rx_chk rxm_93 = true := by decide +kernel
set_option maxRecDepth 100000 in
theorem rxd_94 : rx_chk rxm_94 = true := by decide +kernel
set_option maxRecDepth 100000 in
theorem rxd_95 : rx_chk rxm_95 = true := by decide +kernel
set_option maxRecDepth 100000 in
theorem rxd_96 : rx_chk rxm_96 = true := by decide +kernel
set_option maxRecDepth 100000 in
theorem rxd_97 : rx_chk rxm_97 = true := by decide +kernel
set_option maxRecDepth 100000 in
theorem rxd_98 : rx_chk rxm_98 = true := by decide +kernel
set_option maxRecDepth 100000 in
theorem rxd_99 : rx_chk rxm_99 = true := by decide +kernel
set_option maxRecDepth 100000 in
theorem rxd_100 : rx_chk rxm_100 = true := by decide +kernel
set_option maxRecDepth 100000 in
theorem rxd_101 : rx_chk rxm_101 = true := by decide +kernel
set_option maxRecDepth 100000 in
theorem rxd_102 : rx_chk rxm_102 = true := by decide +kernel
set_option maxRecDepth 100000 in
theorem rxd_103 : rx_chk rxm_103 = true := by decide +kernel
set_option maxRecDepth 100000 in
theorem rxd_104 : rx_chk rxm_104 = true := by decide +kernel
set_option maxRecDepth 100000 in
theorem rxd_105 : rx_chk rxm_105 = true := by decide +kernel
set_option maxRecDepth 100000 in
theorem rxd_106 : rx_chk rxm_106 = true := by decide +kernel
set_option maxRecDepth 100000 in
theorem rxd_107 : rx_chk rxm_107 = true := by decide +kernel
set_option maxRecDepth 100000 in
theorem rxd_108 : rx_chk rxm_108 = true := by decide +kernel
set_option maxRecDepth 100000 in
theorem rxd_109 : rx_chk rxm_109 = true := by decide +kernel
end
section
set_option maxRecDepth 100000 in
theorem rxd_110 : rx_chk rxm_110 = true := by decide +kernel
set_option maxRecDepth 100000 in
theorem rxd_111 : rx_chk rxm_111 = true := by decide +kernel
set_option maxRecDepth 100000 in
theorem rxd_112 : rx_chk rxm_112 = true := by decide +kernel
set_option maxRecDepth 100000 in
theorem rxd_113 : rx_chk rxm_113 = true := by decide +kernel
set_option maxRecDepth 100000 in
theorem rxd_114 : rx_chk rxm_114 = true := by decide +kernel
set_option maxRecDepth 100000 in
theorem rxd_115 : rx_chk rxm_115 = true := by decide +kernel
set_option maxRecDepth 100000 in
theorem rxd_116 : rx_chk rxm_116 = true := by decide +kernel
set_option maxRecDepth 100000 in
theorem rxd_117 : rx_chk rxm_117 = true := by decide +kernel
set_option maxRecDepth 100000 in
theorem rxd_118 : rx_chk rxm_118 = true := by decide +kernel
set_option maxRecDepth 100000 in
theorem rxd_119 : rx_chk rxm_119 = true := by decide +kernel
set_option maxRecDepth 100000 in
theorem rxd_120 : rx_chk rxm_120 = true := by decide +kernel
set_option maxRecDepth 100000 in
theorem rxd_121 : rx_chk rxm_121 = true := by decide +kernel
set_option maxRecDepth 100000 in
theorem rxd_122 : rx_chk rxm_122 = true := by decide +kernel
set_option maxRecDepth 100000 in
theorem rxd_123 : rx_chk rxm_123 = true := by decide +kernel
set_option maxRecDepth 100000 in
theorem rxd_124 : rx_chk rxm_124 = true := by decide +kernel
set_option maxRecDepth 100000 in
theorem rxd_125 : rx_chk rxm_125 = true := by decide +kernel
set_option maxRecDepth 100000 in
theorem rxd_126 : rx_chk rxm_126 = true := by decide +kernel
set_option maxRecDepth 100000 in
theorem rxd_127 : rx_chk rxm_127 = true := by decide +kernel
set_option maxRecDepth 100000 in
theorem rxd_128 : rx_chk rxm_128 = true := by decide +kernel
set_option maxRecDepth 100000 in
theorem rxd_129 : rx_chk rxm_129 = true := by decide +kernel
set_option maxRecDepth 100000 in
theorem rxd_130 : rx_chk rxm_130 = true := by decide +kernel
set_option maxRecDepth 100000 in
theorem rxd_131 : rx_chk rxm_131 = true := by decide +kernel
set_option maxRecDepth 100000 in
theorem rxd_132 : rx_chk rxm_132 = true := by decide +kernel
set_option maxRecDepth 100000 in
theorem rxd_133 : rx_chk rxm_133 = true := by decide +kernel
set_option maxRecDepth 100000 in
theorem rxd_134 : rx_chk rxm_134 = true := by decide +kernel
set_option maxRecDepth 100000 in
theorem rxd_135 : rx_chk rxm_135 = true := by decide +kernel
set_option maxRecDepth 100000 in
theorem rxd_136 : rx_chk rxm_136 = true := by decide +kernel
set_option maxRecDepth 100000 in
theorem rxd_137 : rx_chk rxm_137 = true := by decide +kernel
set_option maxRecDepth 100000 in
theorem rxd_138 : rx_chk rxm_138 = true := by decide +kernel
set_option maxRecDepth 100000 in
theorem rxd_139 : rx_chk rxm_139 = true := by decide +kernel
set_option maxRecDepth 100000 in
theorem rxd_140 : rx_chk rxm_140 = true := by decide +kernel
set_option maxRecDepth 100000 in
theorem rxd_141 : rx_chk rxm_141 = true := by decide +kernel
set_option maxRecDepth 100000 in
theorem rxd_142 : rx_chk rxm_142 = true := by decide +kernel
set_option maxRecDepth 100000 in
theorem rxd_143 : rx_chk rxm_143 = true := by decide +kernel
set_option maxRecDepth 100000 in
theorem rxd_144 : rx_chk rxm_144 = true := by decide +kernel
set_option maxRecDepth 100000 in
theorem rxd_145 : rx_chk rxm_145 = true := by decide +kernel
set_option maxRecDepth 100000 in
theorem rxd_146 : rx_chk rxm_146 = true := by decide +kernel
set_option maxRecDepth 100000 in
theorem rxd_147 : rx_chk rxm_147 = true := by decide +kernel
set_option maxRecDepth 100000 in
theorem rxd_148 : rx_chk rxm_148 = true := by decide +kernel
set_option maxRecDepth 100000 in
theorem rxd_149 : rx_chk rxm_149 = true := by decide +kernel
set_option maxRecDepth 100000 in
theorem rxd_150 : rx_chk rxm_150 = true := by decide +kernel
set_option maxRecDepth 100000 in
theorem rxd_151 : rx_chk rxm_151 = true := by decide +kernel
set_option maxRecDepth 100000 in
theorem rxd_152 : rx_chk rxm_152 = true := by decide +kernel
set_option maxRecDepth 100000 in
theorem rxd_153 : rx_chk rxm_153 = true := by decide +kernel
set_option maxRecDepth 100000 in
theorem rxd_154 : rx_chk rxm_154 = true := by decide +kernel
set_option maxRecDepth 100000 in
theorem rxd_155 : rx_chk rxm_155 = true := by decide +kernel
set_option maxRecDepth 100000 in
theorem rxd_156 : rx_chk rxm_156 = true := by decide +kernel
set_option maxRecDepth 100000 in
theorem rxd_157 : rx_chk rxm_157 = true := by decide +kernel
set_option maxRecDepth 100000 in
theorem rxd_158 : rx_chk rxm_158 = true := by decide +kernel
set_option maxRecDepth 100000 in
theorem rxd_159 : rx_chk rxm_159 = true := by decide +kernel
set_option maxRecDepth 100000 in
theorem rxd_160 : rx_chk rxm_160 = true := by decide +kernel
set_option maxRecDepth 100000 in
theorem rxd_161 : rx_chk rxm_161 = true := by decide +kernel
set_option maxRecDepth 100000 in
theorem rxd_162 : rx_chk rxm_162 = true := by decide +kernel
set_option maxRecDepth 100000 in
theorem rxd_163 : rx_chk rxm_163 = true := by decide +kernel
end
section
set_option maxRecDepth 100000 in
theorem rxw_135 : (Jvm.Cond.laysFinal "AngleChains" "AngleChains" "figure" "LAngleChains$Figure;") ∈ rx_all := rx_inT (i := 135) rfl rfl
set_option maxRecDepth 100000 in
theorem rxw_137 : (Jvm.Cond.laysFinal "AngleChains" "AngleChains" "hypotheses" "[I") ∈ rx_all := rx_inT (i := 137) rfl rfl
set_option maxRecDepth 100000 in
theorem rxw_139 : (Jvm.Cond.laysFinal "AngleChains" "AngleChains" "deduction" "LAngleChains$Deduction;") ∈ rx_all := rx_inT (i := 139) rfl rfl
set_option maxRecDepth 100000 in
theorem rxw_141 : (Jvm.Cond.lays "AngleChains" "AngleChains" "hypothesisCount" "I") ∈ rx_all := rx_inT (i := 141) rfl rfl
set_option maxRecDepth 100000 in
theorem rxw_143 : (Jvm.Cond.lays "AngleChains" "AngleChains" "onBits" "I") ∈ rx_all := rx_inT (i := 143) rfl rfl
set_option maxRecDepth 100000 in
theorem rxw_145 : (Jvm.Cond.lays "AngleChains" "AngleChains" "leftBits" "I") ∈ rx_all := rx_inT (i := 145) rfl rfl
set_option maxRecDepth 100000 in
theorem rxw_147 : (Jvm.Cond.lays "AngleChains" "AngleChains" "draft" "I") ∈ rx_all := rx_inT (i := 147) rfl rfl
set_option maxRecDepth 100000 in
theorem rxw_149 : (Jvm.Cond.lays "AngleChains" "AngleChains" "draftCount" "I") ∈ rx_all := rx_inT (i := 149) rfl rfl
set_option maxRecDepth 100000 in
theorem rxw_12 : (Jvm.Cond.instantiable "AngleChains" (8 : Nat)) ∈ rx_all := rx_inT (i := 12) rfl rfl
set_option maxRecDepth 100000 in
theorem rxw_1 : (Jvm.Cond.initialized "AngleChains") ∈ rx_all := rx_inT (i := 1) rfl rfl
set_option maxRecDepth 100000 in
theorem rxw_31 : (Jvm.Cond.laysFinal "AngleChains$Figure" "AngleChains$Figure" "xs" "[I") ∈ rx_all := rx_inT (i := 31) rfl rfl
set_option maxRecDepth 100000 in
theorem rxw_33 : (Jvm.Cond.laysFinal "AngleChains$Figure" "AngleChains$Figure" "ys" "[I") ∈ rx_all := rx_inT (i := 33) rfl rfl
set_option maxRecDepth 100000 in
theorem rxw_35 : (Jvm.Cond.lays "AngleChains$Figure" "AngleChains$Figure" "size" "I") ∈ rx_all := rx_inT (i := 35) rfl rfl
set_option maxRecDepth 100000 in
theorem rxw_20 : (Jvm.Cond.instantiable "AngleChains$Figure" (3 : Nat)) ∈ rx_all := rx_inT (i := 20) rfl rfl
set_option maxRecDepth 100000 in
theorem rxw_2 : (Jvm.Cond.initialized "AngleChains$Figure") ∈ rx_all := rx_inT (i := 2) rfl rfl
set_option maxRecDepth 100000 in
theorem rxw_100 : (Jvm.Cond.laysFinal "AngleChains$Deduction" "AngleChains$Deduction" "figure" "LAngleChains$Figure;") ∈ rx_all := rx_inT (i := 100) rfl rfl
set_option maxRecDepth 100000 in
theorem rxw_102 : (Jvm.Cond.laysFinal "AngleChains$Deduction" "AngleChains$Deduction" "hypotheses" "[I") ∈ rx_all := rx_inT (i := 102) rfl rfl
set_option maxRecDepth 100000 in
theorem rxw_104 : (Jvm.Cond.laysFinal "AngleChains$Deduction" "AngleChains$Deduction" "cases" "LAngleChains$Cases;") ∈ rx_all := rx_inT (i := 104) rfl rfl
set_option maxRecDepth 100000 in
theorem rxw_106 : (Jvm.Cond.laysFinal "AngleChains$Deduction" "AngleChains$Deduction" "rows" "LAngleChains$Rows;") ∈ rx_all := rx_inT (i := 106) rfl rfl
set_option maxRecDepth 100000 in
theorem rxw_108 : (Jvm.Cond.laysFinal "AngleChains$Deduction" "AngleChains$Deduction" "lineOf" "[I") ∈ rx_all := rx_inT (i := 108) rfl rfl
set_option maxRecDepth 100000 in
theorem rxw_110 : (Jvm.Cond.laysFinal "AngleChains$Deduction" "AngleChains$Deduction" "columnOf" "[I") ∈ rx_all := rx_inT (i := 110) rfl rfl
set_option maxRecDepth 100000 in
theorem rxw_112 : (Jvm.Cond.laysFinal "AngleChains$Deduction" "AngleChains$Deduction" "lengthOf" "[I") ∈ rx_all := rx_inT (i := 112) rfl rfl
set_option maxRecDepth 100000 in
theorem rxw_114 : (Jvm.Cond.laysFinal "AngleChains$Deduction" "AngleChains$Deduction" "circleOf" "[I") ∈ rx_all := rx_inT (i := 114) rfl rfl
set_option maxRecDepth 100000 in
theorem rxw_116 : (Jvm.Cond.laysFinal "AngleChains$Deduction" "AngleChains$Deduction" "open" "[I") ∈ rx_all := rx_inT (i := 116) rfl rfl
set_option maxRecDepth 100000 in
theorem rxw_118 : (Jvm.Cond.lays "AngleChains$Deduction" "AngleChains$Deduction" "openCount" "I") ∈ rx_all := rx_inT (i := 118) rfl rfl
set_option maxRecDepth 100000 in
theorem rxw_120 : (Jvm.Cond.lays "AngleChains$Deduction" "AngleChains$Deduction" "hasJoined" "Z") ∈ rx_all := rx_inT (i := 120) rfl rfl
set_option maxRecDepth 100000 in
theorem rxw_122 : (Jvm.Cond.lays "AngleChains$Deduction" "AngleChains$Deduction" "closedSize" "I") ∈ rx_all := rx_inT (i := 122) rfl rfl
set_option maxRecDepth 100000 in
theorem rxw_124 : (Jvm.Cond.lays "AngleChains$Deduction" "AngleChains$Deduction" "closedBits" "I") ∈ rx_all := rx_inT (i := 124) rfl rfl
set_option maxRecDepth 100000 in
theorem rxw_40 : (Jvm.Cond.instantiable "AngleChains$Deduction" (13 : Nat)) ∈ rx_all := rx_inT (i := 40) rfl rfl
set_option maxRecDepth 100000 in
theorem rxw_3 : (Jvm.Cond.initialized "AngleChains$Deduction") ∈ rx_all := rx_inT (i := 3) rfl rfl
set_option maxRecDepth 100000 in
theorem rxw_59 : (Jvm.Cond.laysFinal "AngleChains$Rows" "AngleChains$Rows" "basis" "[[J") ∈ rx_all := rx_inT (i := 59) rfl rfl
set_option maxRecDepth 100000 in
theorem rxw_61 : (Jvm.Cond.laysFinal "AngleChains$Rows" "AngleChains$Rows" "row" "[J") ∈ rx_all := rx_inT (i := 61) rfl rfl
set_option maxRecDepth 100000 in
theorem rxw_63 : (Jvm.Cond.lays "AngleChains$Rows" "AngleChains$Rows" "rank" "I") ∈ rx_all := rx_inT (i := 63) rfl rfl
set_option maxRecDepth 100000 in
theorem rxw_65 : (Jvm.Cond.lays "AngleChains$Rows" "AngleChains$Rows" "hasGrown" "Z") ∈ rx_all := rx_inT (i := 65) rfl rfl
set_option maxRecDepth 100000 in
theorem rxw_46 : (Jvm.Cond.instantiable "AngleChains$Rows" (4 : Nat)) ∈ rx_all := rx_inT (i := 46) rfl rfl
set_option maxRecDepth 100000 in
theorem rxw_4 : (Jvm.Cond.initialized "AngleChains$Rows") ∈ rx_all := rx_inT (i := 4) rfl rfl
set_option maxRecDepth 100000 in
theorem rxw_80 : (Jvm.Cond.laysFinal "AngleChains$Cases" "AngleChains$Cases" "figure" "LAngleChains$Figure;") ∈ rx_all := rx_inT (i := 80) rfl rfl
set_option maxRecDepth 100000 in
theorem rxw_82 : (Jvm.Cond.laysFinal "AngleChains$Cases" "AngleChains$Cases" "packed" "[I") ∈ rx_all := rx_inT (i := 82) rfl rfl
set_option maxRecDepth 100000 in
theorem rxw_84 : (Jvm.Cond.lays "AngleChains$Cases" "AngleChains$Cases" "count" "I") ∈ rx_all := rx_inT (i := 84) rfl rfl
set_option maxRecDepth 100000 in
theorem rxw_70 : (Jvm.Cond.instantiable "AngleChains$Cases" (3 : Nat)) ∈ rx_all := rx_inT (i := 70) rfl rfl
set_option maxRecDepth 100000 in
theorem rxw_5 : (Jvm.Cond.initialized "AngleChains$Cases") ∈ rx_all := rx_inT (i := 5) rfl rfl
set_option maxRecDepth 100000 in
theorem rxw_573 : (Jvm.Cond.lays "AngleChainsModel" "AngleChainsModel" "thrown" "I") ∈ rx_all := rx_inT (i := 573) rfl rfl
set_option maxRecDepth 100000 in
theorem rxw_575 : (Jvm.Cond.lays "AngleChainsModel" "AngleChainsModel" "n" "I") ∈ rx_all := rx_inT (i := 575) rfl rfl
set_option maxRecDepth 100000 in
theorem rxw_577 : (Jvm.Cond.laysFinal "AngleChainsModel" "AngleChainsModel" "px" "[I") ∈ rx_all := rx_inT (i := 577) rfl rfl
set_option maxRecDepth 100000 in
theorem rxw_579 : (Jvm.Cond.laysFinal "AngleChainsModel" "AngleChainsModel" "py" "[I") ∈ rx_all := rx_inT (i := 579) rfl rfl
set_option maxRecDepth 100000 in
theorem rxw_581 : (Jvm.Cond.laysFinal "AngleChainsModel" "AngleChainsModel" "draft" "[I") ∈ rx_all := rx_inT (i := 581) rfl rfl
set_option maxRecDepth 100000 in
theorem rxw_583 : (Jvm.Cond.lays "AngleChainsModel" "AngleChainsModel" "drafted" "I") ∈ rx_all := rx_inT (i := 583) rfl rfl
set_option maxRecDepth 100000 in
theorem rxw_585 : (Jvm.Cond.lays "AngleChainsModel" "AngleChainsModel" "facts" "I") ∈ rx_all := rx_inT (i := 585) rfl rfl
set_option maxRecDepth 100000 in
theorem rxw_587 : (Jvm.Cond.laysFinal "AngleChainsModel" "AngleChainsModel" "factKind" "[I") ∈ rx_all := rx_inT (i := 587) rfl rfl
set_option maxRecDepth 100000 in
theorem rxw_589 : (Jvm.Cond.laysFinal "AngleChainsModel" "AngleChainsModel" "factPoint" "[I") ∈ rx_all := rx_inT (i := 589) rfl rfl
set_option maxRecDepth 100000 in
theorem rxw_591 : (Jvm.Cond.laysFinal "AngleChainsModel" "AngleChainsModel" "isOn" "[Z") ∈ rx_all := rx_inT (i := 591) rfl rfl
set_option maxRecDepth 100000 in
theorem rxw_593 : (Jvm.Cond.laysFinal "AngleChainsModel" "AngleChainsModel" "plays" "[Z") ∈ rx_all := rx_inT (i := 593) rfl rfl
set_option maxRecDepth 100000 in
theorem rxw_595 : (Jvm.Cond.laysFinal "AngleChainsModel" "AngleChainsModel" "needed" "[I") ∈ rx_all := rx_inT (i := 595) rfl rfl
set_option maxRecDepth 100000 in
theorem rxw_597 : (Jvm.Cond.lays "AngleChainsModel" "AngleChainsModel" "needs" "I") ∈ rx_all := rx_inT (i := 597) rfl rfl
set_option maxRecDepth 100000 in
theorem rxw_599 : (Jvm.Cond.lays "AngleChainsModel" "AngleChainsModel" "fresh" "Z") ∈ rx_all := rx_inT (i := 599) rfl rfl
set_option maxRecDepth 100000 in
theorem rxw_601 : (Jvm.Cond.laysFinal "AngleChainsModel" "AngleChainsModel" "line" "[I") ∈ rx_all := rx_inT (i := 601) rfl rfl
set_option maxRecDepth 100000 in
theorem rxw_603 : (Jvm.Cond.laysFinal "AngleChainsModel" "AngleChainsModel" "circle" "[I") ∈ rx_all := rx_inT (i := 603) rfl rfl
set_option maxRecDepth 100000 in
theorem rxw_605 : (Jvm.Cond.laysFinal "AngleChainsModel" "AngleChainsModel" "same" "[I") ∈ rx_all := rx_inT (i := 605) rfl rfl
set_option maxRecDepth 100000 in
theorem rxw_607 : (Jvm.Cond.lays "AngleChainsModel" "AngleChainsModel" "news" "Z") ∈ rx_all := rx_inT (i := 607) rfl rfl
set_option maxRecDepth 100000 in
theorem rxw_609 : (Jvm.Cond.laysFinal "AngleChainsModel" "AngleChainsModel" "column" "[I") ∈ rx_all := rx_inT (i := 609) rfl rfl
set_option maxRecDepth 100000 in
theorem rxw_611 : (Jvm.Cond.lays "AngleChainsModel" "AngleChainsModel" "columns" "I") ∈ rx_all := rx_inT (i := 611) rfl rfl
set_option maxRecDepth 100000 in
theorem rxw_613 : (Jvm.Cond.lays "AngleChainsModel" "AngleChainsModel" "moved" "Z") ∈ rx_all := rx_inT (i := 613) rfl rfl
set_option maxRecDepth 100000 in
theorem rxw_615 : (Jvm.Cond.laysFinal "AngleChainsModel" "AngleChainsModel" "steps" "[J") ∈ rx_all := rx_inT (i := 615) rfl rfl
set_option maxRecDepth 100000 in
theorem rxw_617 : (Jvm.Cond.laysFinal "AngleChainsModel" "AngleChainsModel" "hasStep" "[Z") ∈ rx_all := rx_inT (i := 617) rfl rfl
set_option maxRecDepth 100000 in
theorem rxw_619 : (Jvm.Cond.laysFinal "AngleChainsModel" "AngleChainsModel" "row" "[J") ∈ rx_all := rx_inT (i := 619) rfl rfl
set_option maxRecDepth 100000 in
theorem rxw_621 : (Jvm.Cond.laysFinal "AngleChainsModel" "AngleChainsModel" "other" "[J") ∈ rx_all := rx_inT (i := 621) rfl rfl
set_option maxRecDepth 100000 in
theorem rxw_623 : (Jvm.Cond.laysFinal "AngleChainsModel" "AngleChainsModel" "oldSteps" "[J") ∈ rx_all := rx_inT (i := 623) rfl rfl
set_option maxRecDepth 100000 in
theorem rxw_625 : (Jvm.Cond.laysFinal "AngleChainsModel" "AngleChainsModel" "hadStep" "[Z") ∈ rx_all := rx_inT (i := 625) rfl rfl
set_option maxRecDepth 100000 in
theorem rxw_627 : (Jvm.Cond.laysFinal "AngleChainsModel" "AngleChainsModel" "oldColumn" "[I") ∈ rx_all := rx_inT (i := 627) rfl rfl
set_option maxRecDepth 100000 in
theorem rxw_629 : (Jvm.Cond.laysFinal "AngleChainsModel" "AngleChainsModel" "toColumn" "[I") ∈ rx_all := rx_inT (i := 629) rfl rfl
set_option maxRecDepth 100000 in
theorem rxw_631 : (Jvm.Cond.laysFinal "AngleChainsModel" "AngleChainsModel" "reduced" "[J") ∈ rx_all := rx_inT (i := 631) rfl rfl
set_option maxRecDepth 100000 in
theorem rxw_633 : (Jvm.Cond.laysFinal "AngleChainsModel" "AngleChainsModel" "numberOf" "[I") ∈ rx_all := rx_inT (i := 633) rfl rfl
set_option maxRecDepth 100000 in
theorem rxw_635 : (Jvm.Cond.laysFinal "AngleChainsModel" "AngleChainsModel" "table" "[I") ∈ rx_all := rx_inT (i := 635) rfl rfl
set_option maxRecDepth 100000 in
theorem rxw_637 : (Jvm.Cond.lays "AngleChainsModel" "AngleChainsModel" "numbers" "I") ∈ rx_all := rx_inT (i := 637) rfl rfl
set_option maxRecDepth 100000 in
theorem rxw_639 : (Jvm.Cond.lays "AngleChainsModel" "AngleChainsModel" "quarter" "I") ∈ rx_all := rx_inT (i := 639) rfl rfl
set_option maxRecDepth 100000 in
theorem rxw_534 : (Jvm.Cond.instantiable "AngleChainsModel" (34 : Nat)) ∈ rx_all := rx_inT (i := 534) rfl rfl
set_option maxRecDepth 100000 in
theorem rxw_6 : (Jvm.Cond.initialized "AngleChainsModel") ∈ rx_all := rx_inT (i := 6) rfl rfl
set_option maxRecDepth 100000 in
theorem rxw_14 : (Jvm.Cond.instanceMethod ({ cls := "AngleChains", name := "<init>", desc := "()V" } : Jvm.MethodName)) ∈ rx_all := rx_inT (i := 14) rfl rfl
set_option maxRecDepth 100000 in
theorem rxw_15 : (Jvm.Cond.code ({ cls := "AngleChains", name := "<init>", desc := "()V" } : Jvm.MethodName) prog_1_method_1_code (1 : Nat) (Option.none : Option Jvm.ClassFile.FieldType)) ∈ rx_all := rx_inT (i := 15) rfl rfl
set_option maxRecDepth 100000 in
theorem rxw_22 : (Jvm.Cond.instanceMethod ({ cls := "AngleChains$Figure", name := "<init>", desc := "()V" } : Jvm.MethodName)) ∈ rx_all := rx_inT (i := 22) rfl rfl
set_option maxRecDepth 100000 in
theorem rxw_23 : (Jvm.Cond.code ({ cls := "AngleChains$Figure", name := "<init>", desc := "()V" } : Jvm.MethodName) prog_4_method_1_code (1 : Nat) (Option.none : Option Jvm.ClassFile.FieldType)) ∈ rx_all := rx_inT (i := 23) rfl rfl
set_option maxRecDepth 100000 in
theorem rxw_42 : (Jvm.Cond.instanceMethod ({ cls := "AngleChains$Deduction", name := "<init>", desc := "(LAngleChains$Figure;[I)V" } : Jvm.MethodName)) ∈ rx_all := rx_inT (i := 42) rfl rfl
set_option maxRecDepth 100000 in
theorem rxw_43 : (Jvm.Cond.code ({ cls := "AngleChains$Deduction", name := "<init>", desc := "(LAngleChains$Figure;[I)V" } : Jvm.MethodName) prog_3_method_1_code (3 : Nat) (Option.none : Option Jvm.ClassFile.FieldType)) ∈ rx_all := rx_inT (i := 43) rfl rfl
set_option maxRecDepth 100000 in
theorem rxw_48 : (Jvm.Cond.instanceMethod ({ cls := "AngleChains$Rows", name := "<init>", desc := "()V" } : Jvm.MethodName)) ∈ rx_all := rx_inT (i := 48) rfl rfl
set_option maxRecDepth 100000 in
theorem rxw_49 : (Jvm.Cond.code ({ cls := "AngleChains$Rows", name := "<init>", desc := "()V" } : Jvm.MethodName) prog_5_method_1_code (1 : Nat) (Option.none : Option Jvm.ClassFile.FieldType)) ∈ rx_all := rx_inT (i := 49) rfl rfl
set_option maxRecDepth 100000 in
theorem rxw_72 : (Jvm.Cond.instanceMethod ({ cls := "AngleChains$Cases", name := "<init>", desc := "(LAngleChains$Figure;)V" } : Jvm.MethodName)) ∈ rx_all := rx_inT (i := 72) rfl rfl
set_option maxRecDepth 100000 in
theorem rxw_73 : (Jvm.Cond.code ({ cls := "AngleChains$Cases", name := "<init>", desc := "(LAngleChains$Figure;)V" } : Jvm.MethodName) prog_2_method_1_code (2 : Nat) (Option.none : Option Jvm.ClassFile.FieldType)) ∈ rx_all := rx_inT (i := 73) rfl rfl
set_option maxRecDepth 100000 in
theorem rxw_154 : (Jvm.Cond.selects "AngleChains" ({ cls := "AngleChains", name := "point", desc := "(II)I" } : Jvm.MethodName) ({ cls := "AngleChains", name := "point", desc := "(II)I" } : Jvm.MethodName)) ∈ rx_all := rx_inT (i := 154) rfl rfl
set_option maxRecDepth 100000 in
theorem rxw_153 : (Jvm.Cond.instanceMethod ({ cls := "AngleChains", name := "point", desc := "(II)I" } : Jvm.MethodName)) ∈ rx_all := rx_inT (i := 153) rfl rfl
set_option maxRecDepth 100000 in
theorem rxw_155 : (Jvm.Cond.code ({ cls := "AngleChains", name := "point", desc := "(II)I" } : Jvm.MethodName) prog_1_method_2_code (3 : Nat) (Option.some Jvm.ClassFile.FieldType.int)) ∈ rx_all := rx_inT (i := 155) rfl rfl
set_option maxRecDepth 100000 in
theorem rxw_158 : (Jvm.Cond.selects "AngleChains$Figure" ({ cls := "AngleChains$Figure", name := "hasRoomAt", desc := "(II)Z" } : Jvm.MethodName) ({ cls := "AngleChains$Figure", name := "hasRoomAt", desc := "(II)Z" } : Jvm.MethodName)) ∈ rx_all := rx_inT (i := 158) rfl rfl
set_option maxRecDepth 100000 in
theorem rxw_157 : (Jvm.Cond.instanceMethod ({ cls := "AngleChains$Figure", name := "hasRoomAt", desc := "(II)Z" } : Jvm.MethodName)) ∈ rx_all := rx_inT (i := 157) rfl rfl
set_option maxRecDepth 100000 in
theorem rxw_159 : (Jvm.Cond.code ({ cls := "AngleChains$Figure", name := "hasRoomAt", desc := "(II)Z" } : Jvm.MethodName) prog_4_method_3_code (4 : Nat) (Option.some Jvm.ClassFile.FieldType.boolean)) ∈ rx_all := rx_inT (i := 159) rfl rfl
set_option maxRecDepth 100000 in
theorem rxw_161 : (Jvm.Cond.static ({ cls := "AngleChains$Figure", name := "isCoordinate", desc := "(I)Z" } : Jvm.MethodName)) ∈ rx_all := rx_inT (i := 161) rfl rfl
set_option maxRecDepth 100000 in
theorem rxw_162 : (Jvm.Cond.code ({ cls := "AngleChains$Figure", name := "isCoordinate", desc := "(I)Z" } : Jvm.MethodName) prog_4_method_4_code (1 : Nat) (Option.some Jvm.ClassFile.FieldType.boolean)) ∈ rx_all := rx_inT (i := 162) rfl rfl
set_option maxRecDepth 100000 in
theorem rxw_165 : (Jvm.Cond.selects "AngleChains$Figure" ({ cls := "AngleChains$Figure", name := "place", desc := "(II)I" } : Jvm.MethodName) ({ cls := "AngleChains$Figure", name := "place", desc := "(II)I" } : Jvm.MethodName)) ∈ rx_all := rx_inT (i := 165) rfl rfl
set_option maxRecDepth 100000 in
theorem rxw_164 : (Jvm.Cond.instanceMethod ({ cls := "AngleChains$Figure", name := "place", desc := "(II)I" } : Jvm.MethodName)) ∈ rx_all := rx_inT (i := 164) rfl rfl
set_option maxRecDepth 100000 in
theorem rxw_166 : (Jvm.Cond.code ({ cls := "AngleChains$Figure", name := "place", desc := "(II)I" } : Jvm.MethodName) prog_4_method_5_code (4 : Nat) (Option.some Jvm.ClassFile.FieldType.int)) ∈ rx_all := rx_inT (i := 166) rfl rfl
set_option maxRecDepth 100000 in
theorem rxw_169 : (Jvm.Cond.selects "AngleChains" ({ cls := "AngleChains", name := "of", desc := "(I)I" } : Jvm.MethodName) ({ cls := "AngleChains", name := "of", desc := "(I)I" } : Jvm.MethodName)) ∈ rx_all := rx_inT (i := 169) rfl rfl
set_option maxRecDepth 100000 in
theorem rxw_168 : (Jvm.Cond.instanceMethod ({ cls := "AngleChains", name := "of", desc := "(I)I" } : Jvm.MethodName)) ∈ rx_all := rx_inT (i := 168) rfl rfl
set_option maxRecDepth 100000 in
theorem rxw_170 : (Jvm.Cond.code ({ cls := "AngleChains", name := "of", desc := "(I)I" } : Jvm.MethodName) prog_1_method_3_code (2 : Nat) (Option.some Jvm.ClassFile.FieldType.int)) ∈ rx_all := rx_inT (i := 170) rfl rfl
set_option maxRecDepth 100000 in
theorem rxw_173 : (Jvm.Cond.selects "AngleChains$Figure" ({ cls := "AngleChains$Figure", name := "has", desc := "(I)Z" } : Jvm.MethodName) ({ cls := "AngleChains$Figure", name := "has", desc := "(I)Z" } : Jvm.MethodName)) ∈ rx_all := rx_inT (i := 173) rfl rfl
set_option maxRecDepth 100000 in
theorem rxw_172 : (Jvm.Cond.instanceMethod ({ cls := "AngleChains$Figure", name := "has", desc := "(I)Z" } : Jvm.MethodName)) ∈ rx_all := rx_inT (i := 172) rfl rfl
set_option maxRecDepth 100000 in
theorem rxw_174 : (Jvm.Cond.code ({ cls := "AngleChains$Figure", name := "has", desc := "(I)Z" } : Jvm.MethodName) prog_4_method_2_code (2 : Nat) (Option.some Jvm.ClassFile.FieldType.boolean)) ∈ rx_all := rx_inT (i := 174) rfl rfl
set_option maxRecDepth 100000 in
theorem rxw_177 : (Jvm.Cond.selects "AngleChains" ({ cls := "AngleChains", name := "isTrue", desc := "(I)I" } : Jvm.MethodName) ({ cls := "AngleChains", name := "isTrue", desc := "(I)I" } : Jvm.MethodName)) ∈ rx_all := rx_inT (i := 177) rfl rfl
set_option maxRecDepth 100000 in
theorem rxw_176 : (Jvm.Cond.instanceMethod ({ cls := "AngleChains", name := "isTrue", desc := "(I)I" } : Jvm.MethodName)) ∈ rx_all := rx_inT (i := 176) rfl rfl
set_option maxRecDepth 100000 in
theorem rxw_178 : (Jvm.Cond.code ({ cls := "AngleChains", name := "isTrue", desc := "(I)I" } : Jvm.MethodName) prog_1_method_4_code (3 : Nat) (Option.some Jvm.ClassFile.FieldType.int)) ∈ rx_all := rx_inT (i := 178) rfl rfl
theorem rxs_0 : Cond.selects "AngleChains" (⟨"AngleChains", "takeDraft", "(I)I"⟩ : MethodName) (⟨"AngleChains", "takeDraft", "(I)I"⟩ : MethodName) ∈ rx_all := rx_inS (i := 0) (q := ((⟨"AngleChains", "takeDraft", "(I)I"⟩ : MethodName), 8)) (by decide +kernel)
set_option maxRecDepth 100000 in
theorem rxw_181 : (Jvm.Cond.instanceMethod ({ cls := "AngleChains", name := "takeDraft", desc := "(I)I" } : Jvm.MethodName)) ∈ rx_all := rx_inT (i := 181) rfl rfl
set_option maxRecDepth 100000 in
theorem rxw_182 : (Jvm.Cond.code ({ cls := "AngleChains", name := "takeDraft", desc := "(I)I" } : Jvm.MethodName) prog_1_method_14_code (6 : Nat) (Option.some Jvm.ClassFile.FieldType.int)) ∈ rx_all := rx_inT (i := 182) rfl rfl
set_option maxRecDepth 100000 in
theorem rxw_186 : (Jvm.Cond.static ({ cls := "AngleChains", name := "bitsOf", desc := "(II)I" } : Jvm.MethodName)) ∈ rx_all := rx_inT (i := 186) rfl rfl
set_option maxRecDepth 100000 in
theorem rxw_187 : (Jvm.Cond.code ({ cls := "AngleChains", name := "bitsOf", desc := "(II)I" } : Jvm.MethodName) prog_1_method_18_code (4 : Nat) (Option.some Jvm.ClassFile.FieldType.int)) ∈ rx_all := rx_inT (i := 187) rfl rfl
set_option maxRecDepth 100000 in
theorem rxw_189 : (Jvm.Cond.static ({ cls := "AngleChains", name := "at", desc := "(II)I" } : Jvm.MethodName)) ∈ rx_all := rx_inT (i := 189) rfl rfl
set_option maxRecDepth 100000 in
theorem rxw_190 : (Jvm.Cond.code ({ cls := "AngleChains", name := "at", desc := "(II)I" } : Jvm.MethodName) prog_1_method_16_code (2 : Nat) (Option.some Jvm.ClassFile.FieldType.int)) ∈ rx_all := rx_inT (i := 190) rfl rfl
set_option maxRecDepth 100000 in
theorem rxw_192 : (Jvm.Cond.static ({ cls := "java/lang/Integer", name := "bitCount", desc := "(I)I" } : Jvm.MethodName)) ∈ rx_all := rx_inT (i := 192) rfl rfl
set_option maxRecDepth 100000 in
theorem rxw_193 : (Jvm.Cond.code ({ cls := "java/lang/Integer", name := "bitCount", desc := "(I)I" } : Jvm.MethodName) prog_8_method_49_code (1 : Nat) (Option.some Jvm.ClassFile.FieldType.int)) ∈ rx_all := rx_inT (i := 193) rfl rfl
set_option maxRecDepth 100000 in
theorem rxw_7 : (Jvm.Cond.initialized "java/lang/Integer") ∈ rx_all := rx_inT (i := 7) rfl rfl
set_option maxRecDepth 100000 in
theorem rxw_198 : (Jvm.Cond.static ({ cls := "AngleChains", name := "hasPairsOfTwo", desc := "(II)Z" } : Jvm.MethodName)) ∈ rx_all := rx_inT (i := 198) rfl rfl
set_option maxRecDepth 100000 in
theorem rxw_199 : (Jvm.Cond.code ({ cls := "AngleChains", name := "hasPairsOfTwo", desc := "(II)Z" } : Jvm.MethodName) prog_1_method_15_code (3 : Nat) (Option.some Jvm.ClassFile.FieldType.boolean)) ∈ rx_all := rx_inT (i := 199) rfl rfl
set_option maxRecDepth 100000 in
theorem rxw_202 : (Jvm.Cond.selects "AngleChains$Figure" ({ cls := "AngleChains$Figure", name := "holds", desc := "(I)Z" } : Jvm.MethodName) ({ cls := "AngleChains$Figure", name := "holds", desc := "(I)Z" } : Jvm.MethodName)) ∈ rx_all := rx_inT (i := 202) rfl rfl
set_option maxRecDepth 100000 in
theorem rxw_201 : (Jvm.Cond.instanceMethod ({ cls := "AngleChains$Figure", name := "holds", desc := "(I)Z" } : Jvm.MethodName)) ∈ rx_all := rx_inT (i := 201) rfl rfl
set_option maxRecDepth 100000 in
theorem rxw_203 : (Jvm.Cond.code ({ cls := "AngleChains$Figure", name := "holds", desc := "(I)Z" } : Jvm.MethodName) prog_4_method_15_code (6 : Nat) (Option.some Jvm.ClassFile.FieldType.boolean)) ∈ rx_all := rx_inT (i := 203) rfl rfl
set_option maxRecDepth 100000 in
theorem rxw_206 : (Jvm.Cond.static ({ cls := "AngleChains", name := "kindOf", desc := "(I)I" } : Jvm.MethodName)) ∈ rx_all := rx_inT (i := 206) rfl rfl
set_option maxRecDepth 100000 in
theorem rxw_207 : (Jvm.Cond.code ({ cls := "AngleChains", name := "kindOf", desc := "(I)I" } : Jvm.MethodName) prog_1_method_17_code (1 : Nat) (Option.some Jvm.ClassFile.FieldType.int)) ∈ rx_all := rx_inT (i := 207) rfl rfl
set_option maxRecDepth 100000 in
theorem rxw_210 : (Jvm.Cond.selects "AngleChains$Figure" ({ cls := "AngleChains$Figure", name := "areCollinear", desc := "(III)Z" } : Jvm.MethodName) ({ cls := "AngleChains$Figure", name := "areCollinear", desc := "(III)Z" } : Jvm.MethodName)) ∈ rx_all := rx_inT (i := 210) rfl rfl
set_option maxRecDepth 100000 in
theorem rxw_209 : (Jvm.Cond.instanceMethod ({ cls := "AngleChains$Figure", name := "areCollinear", desc := "(III)Z" } : Jvm.MethodName)) ∈ rx_all := rx_inT (i := 209) rfl rfl
set_option maxRecDepth 100000 in
theorem rxw_211 : (Jvm.Cond.code ({ cls := "AngleChains$Figure", name := "areCollinear", desc := "(III)Z" } : Jvm.MethodName) prog_4_method_8_code (4 : Nat) (Option.some Jvm.ClassFile.FieldType.boolean)) ∈ rx_all := rx_inT (i := 211) rfl rfl
set_option maxRecDepth 100000 in
theorem rxw_214 : (Jvm.Cond.selects "AngleChains$Figure" ({ cls := "AngleChains$Figure", name := "cross", desc := "(IIII)J" } : Jvm.MethodName) ({ cls := "AngleChains$Figure", name := "cross", desc := "(IIII)J" } : Jvm.MethodName)) ∈ rx_all := rx_inT (i := 214) rfl rfl
set_option maxRecDepth 100000 in
theorem rxw_213 : (Jvm.Cond.instanceMethod ({ cls := "AngleChains$Figure", name := "cross", desc := "(IIII)J" } : Jvm.MethodName)) ∈ rx_all := rx_inT (i := 213) rfl rfl
set_option maxRecDepth 100000 in
theorem rxw_215 : (Jvm.Cond.code ({ cls := "AngleChains$Figure", name := "cross", desc := "(IIII)J" } : Jvm.MethodName) prog_4_method_6_code (5 : Nat) (Option.some Jvm.ClassFile.FieldType.long)) ∈ rx_all := rx_inT (i := 215) rfl rfl
set_option maxRecDepth 100000 in
theorem rxw_218 : (Jvm.Cond.selects "AngleChains$Figure" ({ cls := "AngleChains$Figure", name := "dot", desc := "(IIII)J" } : Jvm.MethodName) ({ cls := "AngleChains$Figure", name := "dot", desc := "(IIII)J" } : Jvm.MethodName)) ∈ rx_all := rx_inT (i := 218) rfl rfl
set_option maxRecDepth 100000 in
theorem rxw_217 : (Jvm.Cond.instanceMethod ({ cls := "AngleChains$Figure", name := "dot", desc := "(IIII)J" } : Jvm.MethodName)) ∈ rx_all := rx_inT (i := 217) rfl rfl
set_option maxRecDepth 100000 in
theorem rxw_219 : (Jvm.Cond.code ({ cls := "AngleChains$Figure", name := "dot", desc := "(IIII)J" } : Jvm.MethodName) prog_4_method_7_code (5 : Nat) (Option.some Jvm.ClassFile.FieldType.long)) ∈ rx_all := rx_inT (i := 219) rfl rfl
set_option maxRecDepth 100000 in
theorem rxw_222 : (Jvm.Cond.selects "AngleChains$Figure" ({ cls := "AngleChains$Figure", name := "areOnCircle", desc := "(IIII)Z" } : Jvm.MethodName) ({ cls := "AngleChains$Figure", name := "areOnCircle", desc := "(IIII)Z" } : Jvm.MethodName)) ∈ rx_all := rx_inT (i := 222) rfl rfl
set_option maxRecDepth 100000 in
theorem rxw_221 : (Jvm.Cond.instanceMethod ({ cls := "AngleChains$Figure", name := "areOnCircle", desc := "(IIII)Z" } : Jvm.MethodName)) ∈ rx_all := rx_inT (i := 221) rfl rfl
set_option maxRecDepth 100000 in
theorem rxw_223 : (Jvm.Cond.code ({ cls := "AngleChains$Figure", name := "areOnCircle", desc := "(IIII)Z" } : Jvm.MethodName) prog_4_method_12_code (7 : Nat) (Option.some Jvm.ClassFile.FieldType.boolean)) ∈ rx_all := rx_inT (i := 223) rfl rfl
set_option maxRecDepth 100000 in
theorem rxw_226 : (Jvm.Cond.selects "AngleChains$Figure" ({ cls := "AngleChains$Figure", name := "areEqual", desc := "(IIII)Z" } : Jvm.MethodName) ({ cls := "AngleChains$Figure", name := "areEqual", desc := "(IIII)Z" } : Jvm.MethodName)) ∈ rx_all := rx_inT (i := 226) rfl rfl
set_option maxRecDepth 100000 in
theorem rxw_225 : (Jvm.Cond.instanceMethod ({ cls := "AngleChains$Figure", name := "areEqual", desc := "(IIII)Z" } : Jvm.MethodName)) ∈ rx_all := rx_inT (i := 225) rfl rfl
set_option maxRecDepth 100000 in
theorem rxw_227 : (Jvm.Cond.code ({ cls := "AngleChains$Figure", name := "areEqual", desc := "(IIII)Z" } : Jvm.MethodName) prog_4_method_9_code (5 : Nat) (Option.some Jvm.ClassFile.FieldType.boolean)) ∈ rx_all := rx_inT (i := 227) rfl rfl
set_option maxRecDepth 100000 in
theorem rxw_230 : (Jvm.Cond.selects "AngleChains$Figure" ({ cls := "AngleChains$Figure", name := "isMiddle", desc := "(III)Z" } : Jvm.MethodName) ({ cls := "AngleChains$Figure", name := "isMiddle", desc := "(III)Z" } : Jvm.MethodName)) ∈ rx_all := rx_inT (i := 230) rfl rfl
set_option maxRecDepth 100000 in
theorem rxw_229 : (Jvm.Cond.instanceMethod ({ cls := "AngleChains$Figure", name := "isMiddle", desc := "(III)Z" } : Jvm.MethodName)) ∈ rx_all := rx_inT (i := 229) rfl rfl
set_option maxRecDepth 100000 in
theorem rxw_231 : (Jvm.Cond.code ({ cls := "AngleChains$Figure", name := "isMiddle", desc := "(III)Z" } : Jvm.MethodName) prog_4_method_10_code (4 : Nat) (Option.some Jvm.ClassFile.FieldType.boolean)) ∈ rx_all := rx_inT (i := 231) rfl rfl
theorem rxs_1 : Cond.selects "AngleChains$Figure" (⟨"AngleChains$Figure", "hasLikeTurns", "(I)Z"⟩ : MethodName) (⟨"AngleChains$Figure", "hasLikeTurns", "(I)Z"⟩ : MethodName) ∈ rx_all := rx_inS (i := 1) (q := ((⟨"AngleChains$Figure", "hasLikeTurns", "(I)Z"⟩ : MethodName), 3)) (by decide +kernel)
set_option maxRecDepth 100000 in
theorem rxw_234 : (Jvm.Cond.instanceMethod ({ cls := "AngleChains$Figure", name := "hasLikeTurns", desc := "(I)Z" } : Jvm.MethodName)) ∈ rx_all := rx_inT (i := 234) rfl rfl
set_option maxRecDepth 100000 in
theorem rxw_235 : (Jvm.Cond.code ({ cls := "AngleChains$Figure", name := "hasLikeTurns", desc := "(I)Z" } : Jvm.MethodName) prog_4_method_14_code (10 : Nat) (Option.some Jvm.ClassFile.FieldType.boolean)) ∈ rx_all := rx_inT (i := 235) rfl rfl
set_option maxRecDepth 100000 in
theorem rxw_238 : (Jvm.Cond.selects "AngleChains" ({ cls := "AngleChains", name := "fact", desc := "(I)I" } : Jvm.MethodName) ({ cls := "AngleChains", name := "fact", desc := "(I)I" } : Jvm.MethodName)) ∈ rx_all := rx_inT (i := 238) rfl rfl
set_option maxRecDepth 100000 in
theorem rxw_237 : (Jvm.Cond.instanceMethod ({ cls := "AngleChains", name := "fact", desc := "(I)I" } : Jvm.MethodName)) ∈ rx_all := rx_inT (i := 237) rfl rfl
set_option maxRecDepth 100000 in
theorem rxw_239 : (Jvm.Cond.code ({ cls := "AngleChains", name := "fact", desc := "(I)I" } : Jvm.MethodName) prog_1_method_5_code (4 : Nat) (Option.some Jvm.ClassFile.FieldType.int)) ∈ rx_all := rx_inT (i := 239) rfl rfl
set_option maxRecDepth 100000 in
theorem rxw_242 : (Jvm.Cond.selects "AngleChains" ({ cls := "AngleChains", name := "turn", desc := "(IZ)Z" } : Jvm.MethodName) ({ cls := "AngleChains", name := "turn", desc := "(IZ)Z" } : Jvm.MethodName)) ∈ rx_all := rx_inT (i := 242) rfl rfl
set_option maxRecDepth 100000 in
theorem rxw_241 : (Jvm.Cond.instanceMethod ({ cls := "AngleChains", name := "turn", desc := "(IZ)Z" } : Jvm.MethodName)) ∈ rx_all := rx_inT (i := 241) rfl rfl
set_option maxRecDepth 100000 in
theorem rxw_243 : (Jvm.Cond.code ({ cls := "AngleChains", name := "turn", desc := "(IZ)Z" } : Jvm.MethodName) prog_1_method_6_code (4 : Nat) (Option.some Jvm.ClassFile.FieldType.boolean)) ∈ rx_all := rx_inT (i := 243) rfl rfl
set_option maxRecDepth 100000 in
theorem rxw_246 : (Jvm.Cond.selects "AngleChains" ({ cls := "AngleChains", name := "follows", desc := "(I)I" } : Jvm.MethodName) ({ cls := "AngleChains", name := "follows", desc := "(I)I" } : Jvm.MethodName)) ∈ rx_all := rx_inT (i := 246) rfl rfl
set_option maxRecDepth 100000 in
theorem rxw_245 : (Jvm.Cond.instanceMethod ({ cls := "AngleChains", name := "follows", desc := "(I)I" } : Jvm.MethodName)) ∈ rx_all := rx_inT (i := 245) rfl rfl
set_option maxRecDepth 100000 in
theorem rxw_247 : (Jvm.Cond.code ({ cls := "AngleChains", name := "follows", desc := "(I)I" } : Jvm.MethodName) prog_1_method_7_code (3 : Nat) (Option.some Jvm.ClassFile.FieldType.int)) ∈ rx_all := rx_inT (i := 247) rfl rfl
set_option maxRecDepth 100000 in
theorem rxw_250 : (Jvm.Cond.selects "AngleChains$Deduction" ({ cls := "AngleChains$Deduction", name := "close", desc := "(I)V" } : Jvm.MethodName) ({ cls := "AngleChains$Deduction", name := "close", desc := "(I)V" } : Jvm.MethodName)) ∈ rx_all := rx_inT (i := 250) rfl rfl
set_option maxRecDepth 100000 in
theorem rxw_249 : (Jvm.Cond.instanceMethod ({ cls := "AngleChains$Deduction", name := "close", desc := "(I)V" } : Jvm.MethodName)) ∈ rx_all := rx_inT (i := 249) rfl rfl
set_option maxRecDepth 100000 in
theorem rxw_251 : (Jvm.Cond.code ({ cls := "AngleChains$Deduction", name := "close", desc := "(I)V" } : Jvm.MethodName) prog_3_method_2_code (5 : Nat) (Option.none : Option Jvm.ClassFile.FieldType)) ∈ rx_all := rx_inT (i := 251) rfl rfl
set_option maxRecDepth 100000 in
theorem rxw_254 : (Jvm.Cond.selects "AngleChains$Cases" ({ cls := "AngleChains$Cases", name := "find", desc := "()V" } : Jvm.MethodName) ({ cls := "AngleChains$Cases", name := "find", desc := "()V" } : Jvm.MethodName)) ∈ rx_all := rx_inT (i := 254) rfl rfl
set_option maxRecDepth 100000 in
theorem rxw_253 : (Jvm.Cond.instanceMethod ({ cls := "AngleChains$Cases", name := "find", desc := "()V" } : Jvm.MethodName)) ∈ rx_all := rx_inT (i := 253) rfl rfl
set_option maxRecDepth 100000 in
theorem rxw_255 : (Jvm.Cond.code ({ cls := "AngleChains$Cases", name := "find", desc := "()V" } : Jvm.MethodName) prog_2_method_2_code (6 : Nat) (Option.none : Option Jvm.ClassFile.FieldType)) ∈ rx_all := rx_inT (i := 255) rfl rfl
theorem rxs_2 : Cond.selects "AngleChains$Cases" (⟨"AngleChains$Cases", "findBisectors", "(II)V"⟩ : MethodName) (⟨"AngleChains$Cases", "findBisectors", "(II)V"⟩ : MethodName) ∈ rx_all := rx_inS (i := 2) (q := ((⟨"AngleChains$Cases", "findBisectors", "(II)V"⟩ : MethodName), 3)) (by decide +kernel)
set_option maxRecDepth 100000 in
theorem rxw_258 : (Jvm.Cond.instanceMethod ({ cls := "AngleChains$Cases", name := "findBisectors", desc := "(II)V" } : Jvm.MethodName)) ∈ rx_all := rx_inT (i := 258) rfl rfl
set_option maxRecDepth 100000 in
theorem rxw_259 : (Jvm.Cond.code ({ cls := "AngleChains$Cases", name := "findBisectors", desc := "(II)V" } : Jvm.MethodName) prog_2_method_9_code (5 : Nat) (Option.none : Option Jvm.ClassFile.FieldType)) ∈ rx_all := rx_inT (i := 259) rfl rfl
theorem rxs_3 : Cond.selects "AngleChains$Cases" (⟨"AngleChains$Cases", "add", "(IIIIII)V"⟩ : MethodName) (⟨"AngleChains$Cases", "add", "(IIIIII)V"⟩ : MethodName) ∈ rx_all := rx_inS (i := 3) (q := ((⟨"AngleChains$Cases", "add", "(IIIIII)V"⟩ : MethodName), 3)) (by decide +kernel)
set_option maxRecDepth 100000 in
theorem rxw_263 : (Jvm.Cond.instanceMethod ({ cls := "AngleChains$Cases", name := "add", desc := "(IIIIII)V" } : Jvm.MethodName)) ∈ rx_all := rx_inT (i := 263) rfl rfl
set_option maxRecDepth 100000 in
theorem rxw_264 : (Jvm.Cond.code ({ cls := "AngleChains$Cases", name := "add", desc := "(IIIIII)V" } : Jvm.MethodName) prog_2_method_3_code (7 : Nat) (Option.none : Option Jvm.ClassFile.FieldType)) ∈ rx_all := rx_inT (i := 264) rfl rfl
theorem rxs_4 : Cond.selects "AngleChains$Cases" (⟨"AngleChains$Cases", "findOfThree", "(III)V"⟩ : MethodName) (⟨"AngleChains$Cases", "findOfThree", "(III)V"⟩ : MethodName) ∈ rx_all := rx_inS (i := 4) (q := ((⟨"AngleChains$Cases", "findOfThree", "(III)V"⟩ : MethodName), 3)) (by decide +kernel)
set_option maxRecDepth 100000 in
theorem rxw_267 : (Jvm.Cond.instanceMethod ({ cls := "AngleChains$Cases", name := "findOfThree", desc := "(III)V" } : Jvm.MethodName)) ∈ rx_all := rx_inT (i := 267) rfl rfl
set_option maxRecDepth 100000 in
theorem rxw_268 : (Jvm.Cond.code ({ cls := "AngleChains$Cases", name := "findOfThree", desc := "(III)V" } : Jvm.MethodName) prog_2_method_4_code (4 : Nat) (Option.none : Option Jvm.ClassFile.FieldType)) ∈ rx_all := rx_inT (i := 268) rfl rfl
theorem rxs_5 : Cond.selects "AngleChains$Cases" (⟨"AngleChains$Cases", "findAtCorner", "(III)V"⟩ : MethodName) (⟨"AngleChains$Cases", "findAtCorner", "(III)V"⟩ : MethodName) ∈ rx_all := rx_inS (i := 5) (q := ((⟨"AngleChains$Cases", "findAtCorner", "(III)V"⟩ : MethodName), 3)) (by decide +kernel)
set_option maxRecDepth 100000 in
theorem rxw_272 : (Jvm.Cond.instanceMethod ({ cls := "AngleChains$Cases", name := "findAtCorner", desc := "(III)V" } : Jvm.MethodName)) ∈ rx_all := rx_inT (i := 272) rfl rfl
set_option maxRecDepth 100000 in
theorem rxw_273 : (Jvm.Cond.code ({ cls := "AngleChains$Cases", name := "findAtCorner", desc := "(III)V" } : Jvm.MethodName) prog_2_method_5_code (7 : Nat) (Option.none : Option Jvm.ClassFile.FieldType)) ∈ rx_all := rx_inT (i := 273) rfl rfl
set_option maxRecDepth 100000 in
theorem rxw_276 : (Jvm.Cond.selects "AngleChains$Figure" ({ cls := "AngleChains$Figure", name := "middleOf", desc := "(II)I" } : Jvm.MethodName) ({ cls := "AngleChains$Figure", name := "middleOf", desc := "(II)I" } : Jvm.MethodName)) ∈ rx_all := rx_inT (i := 276) rfl rfl
set_option maxRecDepth 100000 in
theorem rxw_275 : (Jvm.Cond.instanceMethod ({ cls := "AngleChains$Figure", name := "middleOf", desc := "(II)I" } : Jvm.MethodName)) ∈ rx_all := rx_inT (i := 275) rfl rfl
set_option maxRecDepth 100000 in
theorem rxw_277 : (Jvm.Cond.code ({ cls := "AngleChains$Figure", name := "middleOf", desc := "(II)I" } : Jvm.MethodName) prog_4_method_11_code (4 : Nat) (Option.some Jvm.ClassFile.FieldType.int)) ∈ rx_all := rx_inT (i := 277) rfl rfl
theorem rxs_6 : Cond.selects "AngleChains$Cases" (⟨"AngleChains$Cases", "findOfFour", "(IIII)V"⟩ : MethodName) (⟨"AngleChains$Cases", "findOfFour", "(IIII)V"⟩ : MethodName) ∈ rx_all := rx_inS (i := 6) (q := ((⟨"AngleChains$Cases", "findOfFour", "(IIII)V"⟩ : MethodName), 3)) (by decide +kernel)
set_option maxRecDepth 100000 in
theorem rxw_280 : (Jvm.Cond.instanceMethod ({ cls := "AngleChains$Cases", name := "findOfFour", desc := "(IIII)V" } : Jvm.MethodName)) ∈ rx_all := rx_inT (i := 280) rfl rfl
set_option maxRecDepth 100000 in
theorem rxw_281 : (Jvm.Cond.code ({ cls := "AngleChains$Cases", name := "findOfFour", desc := "(IIII)V" } : Jvm.MethodName) prog_2_method_6_code (5 : Nat) (Option.none : Option Jvm.ClassFile.FieldType)) ∈ rx_all := rx_inT (i := 281) rfl rfl
theorem rxs_7 : Cond.selects "AngleChains$Cases" (⟨"AngleChains$Cases", "findCentre", "(IIII)V"⟩ : MethodName) (⟨"AngleChains$Cases", "findCentre", "(IIII)V"⟩ : MethodName) ∈ rx_all := rx_inS (i := 7) (q := ((⟨"AngleChains$Cases", "findCentre", "(IIII)V"⟩ : MethodName), 3)) (by decide +kernel)
set_option maxRecDepth 100000 in
theorem rxw_285 : (Jvm.Cond.instanceMethod ({ cls := "AngleChains$Cases", name := "findCentre", desc := "(IIII)V" } : Jvm.MethodName)) ∈ rx_all := rx_inT (i := 285) rfl rfl
set_option maxRecDepth 100000 in
theorem rxw_286 : (Jvm.Cond.code ({ cls := "AngleChains$Cases", name := "findCentre", desc := "(IIII)V" } : Jvm.MethodName) prog_2_method_7_code (6 : Nat) (Option.none : Option Jvm.ClassFile.FieldType)) ∈ rx_all := rx_inT (i := 286) rfl rfl
theorem rxs_8 : Cond.selects "AngleChains$Cases" (⟨"AngleChains$Cases", "findParallelogram", "(IIII)V"⟩ : MethodName) (⟨"AngleChains$Cases", "findParallelogram", "(IIII)V"⟩ : MethodName) ∈ rx_all := rx_inS (i := 8) (q := ((⟨"AngleChains$Cases", "findParallelogram", "(IIII)V"⟩ : MethodName), 3)) (by decide +kernel)
set_option maxRecDepth 100000 in
theorem rxw_289 : (Jvm.Cond.instanceMethod ({ cls := "AngleChains$Cases", name := "findParallelogram", desc := "(IIII)V" } : Jvm.MethodName)) ∈ rx_all := rx_inT (i := 289) rfl rfl
set_option maxRecDepth 100000 in
theorem rxw_290 : (Jvm.Cond.code ({ cls := "AngleChains$Cases", name := "findParallelogram", desc := "(IIII)V" } : Jvm.MethodName) prog_2_method_8_code (5 : Nat) (Option.none : Option Jvm.ClassFile.FieldType)) ∈ rx_all := rx_inT (i := 290) rfl rfl
set_option maxRecDepth 100000 in
theorem rxw_293 : (Jvm.Cond.selects "AngleChains$Figure" ({ cls := "AngleChains$Figure", name := "isParallelogram", desc := "(IIII)Z" } : Jvm.MethodName) ({ cls := "AngleChains$Figure", name := "isParallelogram", desc := "(IIII)Z" } : Jvm.MethodName)) ∈ rx_all := rx_inT (i := 293) rfl rfl
set_option maxRecDepth 100000 in
theorem rxw_292 : (Jvm.Cond.instanceMethod ({ cls := "AngleChains$Figure", name := "isParallelogram", desc := "(IIII)Z" } : Jvm.MethodName)) ∈ rx_all := rx_inT (i := 292) rfl rfl
set_option maxRecDepth 100000 in
theorem rxw_294 : (Jvm.Cond.code ({ cls := "AngleChains$Figure", name := "isParallelogram", desc := "(IIII)Z" } : Jvm.MethodName) prog_4_method_13_code (5 : Nat) (Option.some Jvm.ClassFile.FieldType.boolean)) ∈ rx_all := rx_inT (i := 294) rfl rfl
theorem rxs_9 : Cond.selects "AngleChains$Deduction" (⟨"AngleChains$Deduction", "start", "()V"⟩ : MethodName) (⟨"AngleChains$Deduction", "start", "()V"⟩ : MethodName) ∈ rx_all := rx_inS (i := 9) (q := ((⟨"AngleChains$Deduction", "start", "()V"⟩ : MethodName), 13)) (by decide +kernel)
set_option maxRecDepth 100000 in
theorem rxw_297 : (Jvm.Cond.instanceMethod ({ cls := "AngleChains$Deduction", name := "start", desc := "()V" } : Jvm.MethodName)) ∈ rx_all := rx_inT (i := 297) rfl rfl
set_option maxRecDepth 100000 in
theorem rxw_298 : (Jvm.Cond.code ({ cls := "AngleChains$Deduction", name := "start", desc := "()V" } : Jvm.MethodName) prog_3_method_3_code (3 : Nat) (Option.none : Option Jvm.ClassFile.FieldType)) ∈ rx_all := rx_inT (i := 298) rfl rfl
set_option maxRecDepth 100000 in
theorem rxw_301 : (Jvm.Cond.selects "AngleChains$Rows" ({ cls := "AngleChains$Rows", name := "clear", desc := "()V" } : Jvm.MethodName) ({ cls := "AngleChains$Rows", name := "clear", desc := "()V" } : Jvm.MethodName)) ∈ rx_all := rx_inT (i := 301) rfl rfl
set_option maxRecDepth 100000 in
theorem rxw_300 : (Jvm.Cond.instanceMethod ({ cls := "AngleChains$Rows", name := "clear", desc := "()V" } : Jvm.MethodName)) ∈ rx_all := rx_inT (i := 300) rfl rfl
set_option maxRecDepth 100000 in
theorem rxw_302 : (Jvm.Cond.code ({ cls := "AngleChains$Rows", name := "clear", desc := "()V" } : Jvm.MethodName) prog_5_method_2_code (2 : Nat) (Option.none : Option Jvm.ClassFile.FieldType)) ∈ rx_all := rx_inT (i := 302) rfl rfl
set_option maxRecDepth 100000 in
theorem rxw_304 : (Jvm.Cond.static ({ cls := "java/util/Arrays", name := "fill", desc := "([JJ)V" } : Jvm.MethodName)) ∈ rx_all := rx_inT (i := 304) rfl rfl
set_option maxRecDepth 100000 in
theorem rxw_305 : (Jvm.Cond.code ({ cls := "java/util/Arrays", name := "fill", desc := "([JJ)V" } : Jvm.MethodName) prog_11_method_101_code (5 : Nat) (Option.none : Option Jvm.ClassFile.FieldType)) ∈ rx_all := rx_inT (i := 305) rfl rfl
set_option maxRecDepth 100000 in
theorem rxw_8 : (Jvm.Cond.initialized "java/util/Arrays") ∈ rx_all := rx_inT (i := 8) rfl rfl
theorem rxs_10 : Cond.selects "AngleChains$Deduction" (⟨"AngleChains$Deduction", "isProper", "(I)Z"⟩ : MethodName) (⟨"AngleChains$Deduction", "isProper", "(I)Z"⟩ : MethodName) ∈ rx_all := rx_inS (i := 10) (q := ((⟨"AngleChains$Deduction", "isProper", "(I)Z"⟩ : MethodName), 13)) (by decide +kernel)
set_option maxRecDepth 100000 in
theorem rxw_312 : (Jvm.Cond.instanceMethod ({ cls := "AngleChains$Deduction", name := "isProper", desc := "(I)Z" } : Jvm.MethodName)) ∈ rx_all := rx_inT (i := 312) rfl rfl
set_option maxRecDepth 100000 in
theorem rxw_313 : (Jvm.Cond.code ({ cls := "AngleChains$Deduction", name := "isProper", desc := "(I)Z" } : Jvm.MethodName) prog_3_method_4_code (5 : Nat) (Option.some Jvm.ClassFile.FieldType.boolean)) ∈ rx_all := rx_inT (i := 313) rfl rfl
set_option maxRecDepth 100000 in
theorem rxw_315 : (Jvm.Cond.static ({ cls := "java/lang/Integer", name := "numberOfTrailingZeros", desc := "(I)I" } : Jvm.MethodName)) ∈ rx_all := rx_inT (i := 315) rfl rfl
set_option maxRecDepth 100000 in
theorem rxw_316 : (Jvm.Cond.code ({ cls := "java/lang/Integer", name := "numberOfTrailingZeros", desc := "(I)I" } : Jvm.MethodName) prog_8_method_48_code (2 : Nat) (Option.some Jvm.ClassFile.FieldType.int)) ∈ rx_all := rx_inT (i := 316) rfl rfl
set_option maxRecDepth 100000 in
theorem rxw_319 : (Jvm.Cond.static ({ cls := "java/lang/Integer", name := "numberOfLeadingZeros", desc := "(I)I" } : Jvm.MethodName)) ∈ rx_all := rx_inT (i := 319) rfl rfl
set_option maxRecDepth 100000 in
theorem rxw_320 : (Jvm.Cond.code ({ cls := "java/lang/Integer", name := "numberOfLeadingZeros", desc := "(I)I" } : Jvm.MethodName) prog_8_method_47_code (2 : Nat) (Option.some Jvm.ClassFile.FieldType.int)) ∈ rx_all := rx_inT (i := 320) rfl rfl
theorem rxs_11 : Cond.selects "AngleChains$Deduction" (⟨"AngleChains$Deduction", "assume", "(I)V"⟩ : MethodName) (⟨"AngleChains$Deduction", "assume", "(I)V"⟩ : MethodName) ∈ rx_all := rx_inS (i := 11) (q := ((⟨"AngleChains$Deduction", "assume", "(I)V"⟩ : MethodName), 13)) (by decide +kernel)
set_option maxRecDepth 100000 in
theorem rxw_328 : (Jvm.Cond.instanceMethod ({ cls := "AngleChains$Deduction", name := "assume", desc := "(I)V" } : Jvm.MethodName)) ∈ rx_all := rx_inT (i := 328) rfl rfl
set_option maxRecDepth 100000 in
theorem rxw_329 : (Jvm.Cond.code ({ cls := "AngleChains$Deduction", name := "assume", desc := "(I)V" } : Jvm.MethodName) prog_3_method_5_code (2 : Nat) (Option.none : Option Jvm.ClassFile.FieldType)) ∈ rx_all := rx_inT (i := 329) rfl rfl
theorem rxs_12 : Cond.selects "AngleChains$Deduction" (⟨"AngleChains$Deduction", "joinLine", "(I)V"⟩ : MethodName) (⟨"AngleChains$Deduction", "joinLine", "(I)V"⟩ : MethodName) ∈ rx_all := rx_inS (i := 12) (q := ((⟨"AngleChains$Deduction", "joinLine", "(I)V"⟩ : MethodName), 13)) (by decide +kernel)
set_option maxRecDepth 100000 in
theorem rxw_334 : (Jvm.Cond.instanceMethod ({ cls := "AngleChains$Deduction", name := "joinLine", desc := "(I)V" } : Jvm.MethodName)) ∈ rx_all := rx_inT (i := 334) rfl rfl
set_option maxRecDepth 100000 in
theorem rxw_335 : (Jvm.Cond.code ({ cls := "AngleChains$Deduction", name := "joinLine", desc := "(I)V" } : Jvm.MethodName) prog_3_method_16_code (6 : Nat) (Option.none : Option Jvm.ClassFile.FieldType)) ∈ rx_all := rx_inT (i := 335) rfl rfl
set_option maxRecDepth 100000 in
theorem rxw_339 : (Jvm.Cond.selects "AngleChains$Rows" ({ cls := "AngleChains$Rows", name := "writeDifference", desc := "(III)V" } : Jvm.MethodName) ({ cls := "AngleChains$Rows", name := "writeDifference", desc := "(III)V" } : Jvm.MethodName)) ∈ rx_all := rx_inT (i := 339) rfl rfl
set_option maxRecDepth 100000 in
theorem rxw_338 : (Jvm.Cond.instanceMethod ({ cls := "AngleChains$Rows", name := "writeDifference", desc := "(III)V" } : Jvm.MethodName)) ∈ rx_all := rx_inT (i := 338) rfl rfl
set_option maxRecDepth 100000 in
theorem rxw_340 : (Jvm.Cond.code ({ cls := "AngleChains$Rows", name := "writeDifference", desc := "(III)V" } : Jvm.MethodName) prog_5_method_3_code (4 : Nat) (Option.none : Option Jvm.ClassFile.FieldType)) ∈ rx_all := rx_inT (i := 340) rfl rfl
set_option maxRecDepth 100000 in
theorem rxw_343 : (Jvm.Cond.selects "AngleChains$Rows" ({ cls := "AngleChains$Rows", name := "takeWritten", desc := "()V" } : Jvm.MethodName) ({ cls := "AngleChains$Rows", name := "takeWritten", desc := "()V" } : Jvm.MethodName)) ∈ rx_all := rx_inT (i := 343) rfl rfl
set_option maxRecDepth 100000 in
theorem rxw_342 : (Jvm.Cond.instanceMethod ({ cls := "AngleChains$Rows", name := "takeWritten", desc := "()V" } : Jvm.MethodName)) ∈ rx_all := rx_inT (i := 342) rfl rfl
set_option maxRecDepth 100000 in
theorem rxw_344 : (Jvm.Cond.code ({ cls := "AngleChains$Rows", name := "takeWritten", desc := "()V" } : Jvm.MethodName) prog_5_method_6_code (6 : Nat) (Option.none : Option Jvm.ClassFile.FieldType)) ∈ rx_all := rx_inT (i := 344) rfl rfl
theorem rxs_13 : Cond.selects "AngleChains$Rows" (⟨"AngleChains$Rows", "subtract", "([JJI)V"⟩ : MethodName) (⟨"AngleChains$Rows", "subtract", "([JJI)V"⟩ : MethodName) ∈ rx_all := rx_inS (i := 13) (q := ((⟨"AngleChains$Rows", "subtract", "([JJI)V"⟩ : MethodName), 4)) (by decide +kernel)
set_option maxRecDepth 100000 in
theorem rxw_347 : (Jvm.Cond.instanceMethod ({ cls := "AngleChains$Rows", name := "subtract", desc := "([JJI)V" } : Jvm.MethodName)) ∈ rx_all := rx_inT (i := 347) rfl rfl
set_option maxRecDepth 100000 in
theorem rxw_348 : (Jvm.Cond.code ({ cls := "AngleChains$Rows", name := "subtract", desc := "([JJI)V" } : Jvm.MethodName) prog_5_method_9_code (7 : Nat) (Option.none : Option Jvm.ClassFile.FieldType)) ∈ rx_all := rx_inT (i := 348) rfl rfl
theorem rxs_14 : Cond.selects "AngleChains$Rows" (⟨"AngleChains$Rows", "settle", "([JI)V"⟩ : MethodName) (⟨"AngleChains$Rows", "settle", "([JI)V"⟩ : MethodName) ∈ rx_all := rx_inS (i := 14) (q := ((⟨"AngleChains$Rows", "settle", "([JI)V"⟩ : MethodName), 4)) (by decide +kernel)
set_option maxRecDepth 100000 in
theorem rxw_351 : (Jvm.Cond.instanceMethod ({ cls := "AngleChains$Rows", name := "settle", desc := "([JI)V" } : Jvm.MethodName)) ∈ rx_all := rx_inT (i := 351) rfl rfl
set_option maxRecDepth 100000 in
theorem rxw_352 : (Jvm.Cond.code ({ cls := "AngleChains$Rows", name := "settle", desc := "([JI)V" } : Jvm.MethodName) prog_5_method_8_code (6 : Nat) (Option.none : Option Jvm.ClassFile.FieldType)) ∈ rx_all := rx_inT (i := 352) rfl rfl
set_option maxRecDepth 100000 in
theorem rxw_354 : (Jvm.Cond.static ({ cls := "java/lang/Math", name := "floorDiv", desc := "(JJ)J" } : Jvm.MethodName)) ∈ rx_all := rx_inT (i := 354) rfl rfl
set_option maxRecDepth 100000 in
theorem rxw_355 : (Jvm.Cond.code ({ cls := "java/lang/Math", name := "floorDiv", desc := "(JJ)J" } : Jvm.MethodName) prog_9_method_49_code (6 : Nat) (Option.some Jvm.ClassFile.FieldType.long)) ∈ rx_all := rx_inT (i := 355) rfl rfl
set_option maxRecDepth 100000 in
theorem rxw_10 : (Jvm.Cond.initialized "java/lang/Math") ∈ rx_all := rx_inT (i := 10) rfl rfl
theorem rxs_15 : Cond.selects "AngleChains$Rows" (⟨"AngleChains$Rows", "swapWithBasis", "(I)V"⟩ : MethodName) (⟨"AngleChains$Rows", "swapWithBasis", "(I)V"⟩ : MethodName) ∈ rx_all := rx_inS (i := 15) (q := ((⟨"AngleChains$Rows", "swapWithBasis", "(I)V"⟩ : MethodName), 4)) (by decide +kernel)
set_option maxRecDepth 100000 in
theorem rxw_358 : (Jvm.Cond.instanceMethod ({ cls := "AngleChains$Rows", name := "swapWithBasis", desc := "(I)V" } : Jvm.MethodName)) ∈ rx_all := rx_inT (i := 358) rfl rfl
set_option maxRecDepth 100000 in
theorem rxw_359 : (Jvm.Cond.code ({ cls := "AngleChains$Rows", name := "swapWithBasis", desc := "(I)V" } : Jvm.MethodName) prog_5_method_7_code (8 : Nat) (Option.none : Option Jvm.ClassFile.FieldType)) ∈ rx_all := rx_inT (i := 359) rfl rfl
theorem rxs_16 : Cond.selects "AngleChains$Deduction" (⟨"AngleChains$Deduction", "joinCircle", "(I)V"⟩ : MethodName) (⟨"AngleChains$Deduction", "joinCircle", "(I)V"⟩ : MethodName) ∈ rx_all := rx_inS (i := 16) (q := ((⟨"AngleChains$Deduction", "joinCircle", "(I)V"⟩ : MethodName), 13)) (by decide +kernel)
set_option maxRecDepth 100000 in
theorem rxw_363 : (Jvm.Cond.instanceMethod ({ cls := "AngleChains$Deduction", name := "joinCircle", desc := "(I)V" } : Jvm.MethodName)) ∈ rx_all := rx_inT (i := 363) rfl rfl
set_option maxRecDepth 100000 in
theorem rxw_364 : (Jvm.Cond.code ({ cls := "AngleChains$Deduction", name := "joinCircle", desc := "(I)V" } : Jvm.MethodName) prog_3_method_17_code (7 : Nat) (Option.none : Option Jvm.ClassFile.FieldType)) ∈ rx_all := rx_inT (i := 364) rfl rfl
set_option maxRecDepth 100000 in
theorem rxw_366 : (Jvm.Cond.static ({ cls := "AngleChains", name := "pairAt", desc := "(III)I" } : Jvm.MethodName)) ∈ rx_all := rx_inT (i := 366) rfl rfl
set_option maxRecDepth 100000 in
theorem rxw_367 : (Jvm.Cond.code ({ cls := "AngleChains", name := "pairAt", desc := "(III)I" } : Jvm.MethodName) prog_1_method_20_code (3 : Nat) (Option.some Jvm.ClassFile.FieldType.int)) ∈ rx_all := rx_inT (i := 367) rfl rfl
set_option maxRecDepth 100000 in
theorem rxw_369 : (Jvm.Cond.static ({ cls := "AngleChains", name := "pairOf", desc := "(II)I" } : Jvm.MethodName)) ∈ rx_all := rx_inT (i := 369) rfl rfl
set_option maxRecDepth 100000 in
theorem rxw_370 : (Jvm.Cond.code ({ cls := "AngleChains", name := "pairOf", desc := "(II)I" } : Jvm.MethodName) prog_1_method_19_code (2 : Nat) (Option.some Jvm.ClassFile.FieldType.int)) ∈ rx_all := rx_inT (i := 370) rfl rfl
theorem rxs_17 : Cond.selects "AngleChains$Deduction" (⟨"AngleChains$Deduction", "joinLengths", "(II)V"⟩ : MethodName) (⟨"AngleChains$Deduction", "joinLengths", "(II)V"⟩ : MethodName) ∈ rx_all := rx_inS (i := 17) (q := ((⟨"AngleChains$Deduction", "joinLengths", "(II)V"⟩ : MethodName), 13)) (by decide +kernel)
set_option maxRecDepth 100000 in
theorem rxw_375 : (Jvm.Cond.instanceMethod ({ cls := "AngleChains$Deduction", name := "joinLengths", desc := "(II)V" } : Jvm.MethodName)) ∈ rx_all := rx_inT (i := 375) rfl rfl
set_option maxRecDepth 100000 in
theorem rxw_376 : (Jvm.Cond.code ({ cls := "AngleChains$Deduction", name := "joinLengths", desc := "(II)V" } : Jvm.MethodName) prog_3_method_18_code (6 : Nat) (Option.none : Option Jvm.ClassFile.FieldType)) ∈ rx_all := rx_inT (i := 376) rfl rfl
theorem rxs_18 : Cond.selects "AngleChains$Deduction" (⟨"AngleChains$Deduction", "writeRowOf", "(I)V"⟩ : MethodName) (⟨"AngleChains$Deduction", "writeRowOf", "(I)V"⟩ : MethodName) ∈ rx_all := rx_inS (i := 18) (q := ((⟨"AngleChains$Deduction", "writeRowOf", "(I)V"⟩ : MethodName), 13)) (by decide +kernel)
set_option maxRecDepth 100000 in
theorem rxw_385 : (Jvm.Cond.instanceMethod ({ cls := "AngleChains$Deduction", name := "writeRowOf", desc := "(I)V" } : Jvm.MethodName)) ∈ rx_all := rx_inT (i := 385) rfl rfl
set_option maxRecDepth 100000 in
theorem rxw_386 : (Jvm.Cond.code ({ cls := "AngleChains$Deduction", name := "writeRowOf", desc := "(I)V" } : Jvm.MethodName) prog_3_method_7_code (4 : Nat) (Option.none : Option Jvm.ClassFile.FieldType)) ∈ rx_all := rx_inT (i := 386) rfl rfl
theorem rxs_19 : Cond.selects "AngleChains$Deduction" (⟨"AngleChains$Deduction", "writeDifference", "(III)V"⟩ : MethodName) (⟨"AngleChains$Deduction", "writeDifference", "(III)V"⟩ : MethodName) ∈ rx_all := rx_inS (i := 19) (q := ((⟨"AngleChains$Deduction", "writeDifference", "(III)V"⟩ : MethodName), 13)) (by decide +kernel)
set_option maxRecDepth 100000 in
theorem rxw_389 : (Jvm.Cond.instanceMethod ({ cls := "AngleChains$Deduction", name := "writeDifference", desc := "(III)V" } : Jvm.MethodName)) ∈ rx_all := rx_inT (i := 389) rfl rfl
set_option maxRecDepth 100000 in
theorem rxw_390 : (Jvm.Cond.code ({ cls := "AngleChains$Deduction", name := "writeDifference", desc := "(III)V" } : Jvm.MethodName) prog_3_method_8_code (4 : Nat) (Option.none : Option Jvm.ClassFile.FieldType)) ∈ rx_all := rx_inT (i := 390) rfl rfl
theorem rxs_20 : Cond.selects "AngleChains$Deduction" (⟨"AngleChains$Deduction", "writeTurns", "(IIII)V"⟩ : MethodName) (⟨"AngleChains$Deduction", "writeTurns", "(IIII)V"⟩ : MethodName) ∈ rx_all := rx_inS (i := 20) (q := ((⟨"AngleChains$Deduction", "writeTurns", "(IIII)V"⟩ : MethodName), 13)) (by decide +kernel)
set_option maxRecDepth 100000 in
theorem rxw_393 : (Jvm.Cond.instanceMethod ({ cls := "AngleChains$Deduction", name := "writeTurns", desc := "(IIII)V" } : Jvm.MethodName)) ∈ rx_all := rx_inT (i := 393) rfl rfl
set_option maxRecDepth 100000 in
theorem rxw_394 : (Jvm.Cond.code ({ cls := "AngleChains$Deduction", name := "writeTurns", desc := "(IIII)V" } : Jvm.MethodName) prog_3_method_9_code (5 : Nat) (Option.none : Option Jvm.ClassFile.FieldType)) ∈ rx_all := rx_inT (i := 394) rfl rfl
set_option maxRecDepth 100000 in
theorem rxw_397 : (Jvm.Cond.selects "AngleChains$Rows" ({ cls := "AngleChains$Rows", name := "writeTurns", desc := "(IIII)V" } : Jvm.MethodName) ({ cls := "AngleChains$Rows", name := "writeTurns", desc := "(IIII)V" } : Jvm.MethodName)) ∈ rx_all := rx_inT (i := 397) rfl rfl
set_option maxRecDepth 100000 in
theorem rxw_396 : (Jvm.Cond.instanceMethod ({ cls := "AngleChains$Rows", name := "writeTurns", desc := "(IIII)V" } : Jvm.MethodName)) ∈ rx_all := rx_inT (i := 396) rfl rfl
set_option maxRecDepth 100000 in
theorem rxw_398 : (Jvm.Cond.code ({ cls := "AngleChains$Rows", name := "writeTurns", desc := "(IIII)V" } : Jvm.MethodName) prog_5_method_4_code (5 : Nat) (Option.none : Option Jvm.ClassFile.FieldType)) ∈ rx_all := rx_inT (i := 398) rfl rfl
theorem rxs_21 : Cond.selects "AngleChains$Deduction" (⟨"AngleChains$Deduction", "usesUp", "(I)Z"⟩ : MethodName) (⟨"AngleChains$Deduction", "usesUp", "(I)Z"⟩ : MethodName) ∈ rx_all := rx_inS (i := 21) (q := ((⟨"AngleChains$Deduction", "usesUp", "(I)Z"⟩ : MethodName), 13)) (by decide +kernel)
set_option maxRecDepth 100000 in
theorem rxw_401 : (Jvm.Cond.instanceMethod ({ cls := "AngleChains$Deduction", name := "usesUp", desc := "(I)Z" } : Jvm.MethodName)) ∈ rx_all := rx_inT (i := 401) rfl rfl
set_option maxRecDepth 100000 in
theorem rxw_402 : (Jvm.Cond.code ({ cls := "AngleChains$Deduction", name := "usesUp", desc := "(I)Z" } : Jvm.MethodName) prog_3_method_19_code (2 : Nat) (Option.some Jvm.ClassFile.FieldType.boolean)) ∈ rx_all := rx_inT (i := 402) rfl rfl
theorem rxs_22 : Cond.selects "AngleChains$Deduction" (⟨"AngleChains$Deduction", "triesLine", "(I)Z"⟩ : MethodName) (⟨"AngleChains$Deduction", "triesLine", "(I)Z"⟩ : MethodName) ∈ rx_all := rx_inS (i := 22) (q := ((⟨"AngleChains$Deduction", "triesLine", "(I)Z"⟩ : MethodName), 13)) (by decide +kernel)
set_option maxRecDepth 100000 in
theorem rxw_405 : (Jvm.Cond.instanceMethod ({ cls := "AngleChains$Deduction", name := "triesLine", desc := "(I)Z" } : Jvm.MethodName)) ∈ rx_all := rx_inT (i := 405) rfl rfl
set_option maxRecDepth 100000 in
theorem rxw_406 : (Jvm.Cond.code ({ cls := "AngleChains$Deduction", name := "triesLine", desc := "(I)Z" } : Jvm.MethodName) prog_3_method_20_code (5 : Nat) (Option.some Jvm.ClassFile.FieldType.boolean)) ∈ rx_all := rx_inT (i := 406) rfl rfl
theorem rxs_23 : Cond.selects "AngleChains$Deduction" (⟨"AngleChains$Deduction", "areOnLine", "(I)Z"⟩ : MethodName) (⟨"AngleChains$Deduction", "areOnLine", "(I)Z"⟩ : MethodName) ∈ rx_all := rx_inS (i := 23) (q := ((⟨"AngleChains$Deduction", "areOnLine", "(I)Z"⟩ : MethodName), 13)) (by decide +kernel)
set_option maxRecDepth 100000 in
theorem rxw_409 : (Jvm.Cond.instanceMethod ({ cls := "AngleChains$Deduction", name := "areOnLine", desc := "(I)Z" } : Jvm.MethodName)) ∈ rx_all := rx_inT (i := 409) rfl rfl
set_option maxRecDepth 100000 in
theorem rxw_410 : (Jvm.Cond.code ({ cls := "AngleChains$Deduction", name := "areOnLine", desc := "(I)Z" } : Jvm.MethodName) prog_3_method_13_code (2 : Nat) (Option.some Jvm.ClassFile.FieldType.boolean)) ∈ rx_all := rx_inT (i := 410) rfl rfl
theorem rxs_24 : Cond.selects "AngleChains$Deduction" (⟨"AngleChains$Deduction", "haveDifference", "(III)Z"⟩ : MethodName) (⟨"AngleChains$Deduction", "haveDifference", "(III)Z"⟩ : MethodName) ∈ rx_all := rx_inS (i := 24) (q := ((⟨"AngleChains$Deduction", "haveDifference", "(III)Z"⟩ : MethodName), 13)) (by decide +kernel)
set_option maxRecDepth 100000 in
theorem rxw_414 : (Jvm.Cond.instanceMethod ({ cls := "AngleChains$Deduction", name := "haveDifference", desc := "(III)Z" } : Jvm.MethodName)) ∈ rx_all := rx_inT (i := 414) rfl rfl
set_option maxRecDepth 100000 in
theorem rxw_415 : (Jvm.Cond.code ({ cls := "AngleChains$Deduction", name := "haveDifference", desc := "(III)Z" } : Jvm.MethodName) prog_3_method_10_code (4 : Nat) (Option.some Jvm.ClassFile.FieldType.boolean)) ∈ rx_all := rx_inT (i := 415) rfl rfl
set_option maxRecDepth 100000 in
theorem rxw_418 : (Jvm.Cond.selects "AngleChains$Rows" ({ cls := "AngleChains$Rows", name := "haveWritten", desc := "()Z" } : Jvm.MethodName) ({ cls := "AngleChains$Rows", name := "haveWritten", desc := "()Z" } : Jvm.MethodName)) ∈ rx_all := rx_inT (i := 418) rfl rfl
set_option maxRecDepth 100000 in
theorem rxw_417 : (Jvm.Cond.instanceMethod ({ cls := "AngleChains$Rows", name := "haveWritten", desc := "()Z" } : Jvm.MethodName)) ∈ rx_all := rx_inT (i := 417) rfl rfl
set_option maxRecDepth 100000 in
theorem rxw_419 : (Jvm.Cond.code ({ cls := "AngleChains$Rows", name := "haveWritten", desc := "()Z" } : Jvm.MethodName) prog_5_method_5_code (4 : Nat) (Option.some Jvm.ClassFile.FieldType.boolean)) ∈ rx_all := rx_inT (i := 419) rfl rfl
theorem rxs_25 : Cond.selects "AngleChains$Deduction" (⟨"AngleChains$Deduction", "triesCircle", "(I)Z"⟩ : MethodName) (⟨"AngleChains$Deduction", "triesCircle", "(I)Z"⟩ : MethodName) ∈ rx_all := rx_inS (i := 25) (q := ((⟨"AngleChains$Deduction", "triesCircle", "(I)Z"⟩ : MethodName), 13)) (by decide +kernel)
set_option maxRecDepth 100000 in
theorem rxw_422 : (Jvm.Cond.instanceMethod ({ cls := "AngleChains$Deduction", name := "triesCircle", desc := "(I)Z" } : Jvm.MethodName)) ∈ rx_all := rx_inT (i := 422) rfl rfl
set_option maxRecDepth 100000 in
theorem rxw_423 : (Jvm.Cond.code ({ cls := "AngleChains$Deduction", name := "triesCircle", desc := "(I)Z" } : Jvm.MethodName) prog_3_method_21_code (9 : Nat) (Option.some Jvm.ClassFile.FieldType.boolean)) ∈ rx_all := rx_inT (i := 423) rfl rfl
theorem rxs_26 : Cond.selects "AngleChains$Deduction" (⟨"AngleChains$Deduction", "areOnCircle", "(I)Z"⟩ : MethodName) (⟨"AngleChains$Deduction", "areOnCircle", "(I)Z"⟩ : MethodName) ∈ rx_all := rx_inS (i := 26) (q := ((⟨"AngleChains$Deduction", "areOnCircle", "(I)Z"⟩ : MethodName), 13)) (by decide +kernel)
set_option maxRecDepth 100000 in
theorem rxw_426 : (Jvm.Cond.instanceMethod ({ cls := "AngleChains$Deduction", name := "areOnCircle", desc := "(I)Z" } : Jvm.MethodName)) ∈ rx_all := rx_inT (i := 426) rfl rfl
set_option maxRecDepth 100000 in
theorem rxw_427 : (Jvm.Cond.code ({ cls := "AngleChains$Deduction", name := "areOnCircle", desc := "(I)Z" } : Jvm.MethodName) prog_3_method_15_code (3 : Nat) (Option.some Jvm.ClassFile.FieldType.boolean)) ∈ rx_all := rx_inT (i := 427) rfl rfl
theorem rxs_27 : Cond.selects "AngleChains$Deduction" (⟨"AngleChains$Deduction", "haveTurns", "(IIII)Z"⟩ : MethodName) (⟨"AngleChains$Deduction", "haveTurns", "(IIII)Z"⟩ : MethodName) ∈ rx_all := rx_inS (i := 27) (q := ((⟨"AngleChains$Deduction", "haveTurns", "(IIII)Z"⟩ : MethodName), 13)) (by decide +kernel)
set_option maxRecDepth 100000 in
theorem rxw_430 : (Jvm.Cond.instanceMethod ({ cls := "AngleChains$Deduction", name := "haveTurns", desc := "(IIII)Z" } : Jvm.MethodName)) ∈ rx_all := rx_inT (i := 430) rfl rfl
set_option maxRecDepth 100000 in
theorem rxw_431 : (Jvm.Cond.code ({ cls := "AngleChains$Deduction", name := "haveTurns", desc := "(IIII)Z" } : Jvm.MethodName) prog_3_method_11_code (5 : Nat) (Option.some Jvm.ClassFile.FieldType.boolean)) ∈ rx_all := rx_inT (i := 431) rfl rfl
theorem rxs_28 : Cond.selects "AngleChains$Deduction" (⟨"AngleChains$Deduction", "triesIsosceles", "(I)Z"⟩ : MethodName) (⟨"AngleChains$Deduction", "triesIsosceles", "(I)Z"⟩ : MethodName) ∈ rx_all := rx_inS (i := 28) (q := ((⟨"AngleChains$Deduction", "triesIsosceles", "(I)Z"⟩ : MethodName), 13)) (by decide +kernel)
set_option maxRecDepth 100000 in
theorem rxw_434 : (Jvm.Cond.instanceMethod ({ cls := "AngleChains$Deduction", name := "triesIsosceles", desc := "(I)Z" } : Jvm.MethodName)) ∈ rx_all := rx_inT (i := 434) rfl rfl
set_option maxRecDepth 100000 in
theorem rxw_435 : (Jvm.Cond.code ({ cls := "AngleChains$Deduction", name := "triesIsosceles", desc := "(I)Z" } : Jvm.MethodName) prog_3_method_23_code (5 : Nat) (Option.some Jvm.ClassFile.FieldType.boolean)) ∈ rx_all := rx_inT (i := 435) rfl rfl
theorem rxs_29 : Cond.selects "AngleChains$Deduction" (⟨"AngleChains$Deduction", "linksRowTo", "(II)Z"⟩ : MethodName) (⟨"AngleChains$Deduction", "linksRowTo", "(II)Z"⟩ : MethodName) ∈ rx_all := rx_inS (i := 29) (q := ((⟨"AngleChains$Deduction", "linksRowTo", "(II)Z"⟩ : MethodName), 13)) (by decide +kernel)
set_option maxRecDepth 100000 in
theorem rxw_438 : (Jvm.Cond.instanceMethod ({ cls := "AngleChains$Deduction", name := "linksRowTo", desc := "(II)Z" } : Jvm.MethodName)) ∈ rx_all := rx_inT (i := 438) rfl rfl
set_option maxRecDepth 100000 in
theorem rxw_439 : (Jvm.Cond.code ({ cls := "AngleChains$Deduction", name := "linksRowTo", desc := "(II)Z" } : Jvm.MethodName) prog_3_method_22_code (3 : Nat) (Option.some Jvm.ClassFile.FieldType.boolean)) ∈ rx_all := rx_inT (i := 439) rfl rfl
theorem rxs_30 : Cond.selects "AngleChains$Deduction" (⟨"AngleChains$Deduction", "areSame", "(II)Z"⟩ : MethodName) (⟨"AngleChains$Deduction", "areSame", "(II)Z"⟩ : MethodName) ∈ rx_all := rx_inS (i := 30) (q := ((⟨"AngleChains$Deduction", "areSame", "(II)Z"⟩ : MethodName), 13)) (by decide +kernel)
set_option maxRecDepth 100000 in
theorem rxw_442 : (Jvm.Cond.instanceMethod ({ cls := "AngleChains$Deduction", name := "areSame", desc := "(II)Z" } : Jvm.MethodName)) ∈ rx_all := rx_inT (i := 442) rfl rfl
set_option maxRecDepth 100000 in
theorem rxw_443 : (Jvm.Cond.code ({ cls := "AngleChains$Deduction", name := "areSame", desc := "(II)Z" } : Jvm.MethodName) prog_3_method_12_code (3 : Nat) (Option.some Jvm.ClassFile.FieldType.boolean)) ∈ rx_all := rx_inT (i := 443) rfl rfl
theorem rxs_31 : Cond.selects "AngleChains$Deduction" (⟨"AngleChains$Deduction", "triesDiameter", "(I)Z"⟩ : MethodName) (⟨"AngleChains$Deduction", "triesDiameter", "(I)Z"⟩ : MethodName) ∈ rx_all := rx_inS (i := 31) (q := ((⟨"AngleChains$Deduction", "triesDiameter", "(I)Z"⟩ : MethodName), 13)) (by decide +kernel)
set_option maxRecDepth 100000 in
theorem rxw_446 : (Jvm.Cond.instanceMethod ({ cls := "AngleChains$Deduction", name := "triesDiameter", desc := "(I)Z" } : Jvm.MethodName)) ∈ rx_all := rx_inT (i := 446) rfl rfl
set_option maxRecDepth 100000 in
theorem rxw_447 : (Jvm.Cond.code ({ cls := "AngleChains$Deduction", name := "triesDiameter", desc := "(I)Z" } : Jvm.MethodName) prog_3_method_24_code (6 : Nat) (Option.some Jvm.ClassFile.FieldType.boolean)) ∈ rx_all := rx_inT (i := 447) rfl rfl
theorem rxs_32 : Cond.selects "AngleChains$Deduction" (⟨"AngleChains$Deduction", "isMiddle", "(III)Z"⟩ : MethodName) (⟨"AngleChains$Deduction", "isMiddle", "(III)Z"⟩ : MethodName) ∈ rx_all := rx_inS (i := 32) (q := ((⟨"AngleChains$Deduction", "isMiddle", "(III)Z"⟩ : MethodName), 13)) (by decide +kernel)
set_option maxRecDepth 100000 in
theorem rxw_450 : (Jvm.Cond.instanceMethod ({ cls := "AngleChains$Deduction", name := "isMiddle", desc := "(III)Z" } : Jvm.MethodName)) ∈ rx_all := rx_inT (i := 450) rfl rfl
set_option maxRecDepth 100000 in
theorem rxw_451 : (Jvm.Cond.code ({ cls := "AngleChains$Deduction", name := "isMiddle", desc := "(III)Z" } : Jvm.MethodName) prog_3_method_14_code (4 : Nat) (Option.some Jvm.ClassFile.FieldType.boolean)) ∈ rx_all := rx_inT (i := 451) rfl rfl
theorem rxs_33 : Cond.selects "AngleChains$Deduction" (⟨"AngleChains$Deduction", "triesCentre", "(I)Z"⟩ : MethodName) (⟨"AngleChains$Deduction", "triesCentre", "(I)Z"⟩ : MethodName) ∈ rx_all := rx_inS (i := 33) (q := ((⟨"AngleChains$Deduction", "triesCentre", "(I)Z"⟩ : MethodName), 13)) (by decide +kernel)
set_option maxRecDepth 100000 in
theorem rxw_455 : (Jvm.Cond.instanceMethod ({ cls := "AngleChains$Deduction", name := "triesCentre", desc := "(I)Z" } : Jvm.MethodName)) ∈ rx_all := rx_inT (i := 455) rfl rfl
set_option maxRecDepth 100000 in
theorem rxw_456 : (Jvm.Cond.code ({ cls := "AngleChains$Deduction", name := "triesCentre", desc := "(I)Z" } : Jvm.MethodName) prog_3_method_25_code (4 : Nat) (Option.some Jvm.ClassFile.FieldType.boolean)) ∈ rx_all := rx_inT (i := 456) rfl rfl
theorem rxs_34 : Cond.selects "AngleChains$Deduction" (⟨"AngleChains$Deduction", "triesBisector", "(I)Z"⟩ : MethodName) (⟨"AngleChains$Deduction", "triesBisector", "(I)Z"⟩ : MethodName) ∈ rx_all := rx_inS (i := 34) (q := ((⟨"AngleChains$Deduction", "triesBisector", "(I)Z"⟩ : MethodName), 13)) (by decide +kernel)
set_option maxRecDepth 100000 in
theorem rxw_459 : (Jvm.Cond.instanceMethod ({ cls := "AngleChains$Deduction", name := "triesBisector", desc := "(I)Z" } : Jvm.MethodName)) ∈ rx_all := rx_inT (i := 459) rfl rfl
set_option maxRecDepth 100000 in
theorem rxw_460 : (Jvm.Cond.code ({ cls := "AngleChains$Deduction", name := "triesBisector", desc := "(I)Z" } : Jvm.MethodName) prog_3_method_26_code (7 : Nat) (Option.some Jvm.ClassFile.FieldType.boolean)) ∈ rx_all := rx_inT (i := 460) rfl rfl
theorem rxs_35 : Cond.selects "AngleChains$Deduction" (⟨"AngleChains$Deduction", "triesMidline", "(I)Z"⟩ : MethodName) (⟨"AngleChains$Deduction", "triesMidline", "(I)Z"⟩ : MethodName) ∈ rx_all := rx_inS (i := 35) (q := ((⟨"AngleChains$Deduction", "triesMidline", "(I)Z"⟩ : MethodName), 13)) (by decide +kernel)
set_option maxRecDepth 100000 in
theorem rxw_463 : (Jvm.Cond.instanceMethod ({ cls := "AngleChains$Deduction", name := "triesMidline", desc := "(I)Z" } : Jvm.MethodName)) ∈ rx_all := rx_inT (i := 463) rfl rfl
set_option maxRecDepth 100000 in
theorem rxw_464 : (Jvm.Cond.code ({ cls := "AngleChains$Deduction", name := "triesMidline", desc := "(I)Z" } : Jvm.MethodName) prog_3_method_27_code (7 : Nat) (Option.some Jvm.ClassFile.FieldType.boolean)) ∈ rx_all := rx_inT (i := 464) rfl rfl
theorem rxs_36 : Cond.selects "AngleChains$Deduction" (⟨"AngleChains$Deduction", "triesParallelogram", "(I)Z"⟩ : MethodName) (⟨"AngleChains$Deduction", "triesParallelogram", "(I)Z"⟩ : MethodName) ∈ rx_all := rx_inS (i := 36) (q := ((⟨"AngleChains$Deduction", "triesParallelogram", "(I)Z"⟩ : MethodName), 13)) (by decide +kernel)
set_option maxRecDepth 100000 in
theorem rxw_467 : (Jvm.Cond.instanceMethod ({ cls := "AngleChains$Deduction", name := "triesParallelogram", desc := "(I)Z" } : Jvm.MethodName)) ∈ rx_all := rx_inT (i := 467) rfl rfl
set_option maxRecDepth 100000 in
theorem rxw_468 : (Jvm.Cond.code ({ cls := "AngleChains$Deduction", name := "triesParallelogram", desc := "(I)Z" } : Jvm.MethodName) prog_3_method_28_code (6 : Nat) (Option.some Jvm.ClassFile.FieldType.boolean)) ∈ rx_all := rx_inT (i := 468) rfl rfl
set_option maxRecDepth 100000 in
theorem rxw_471 : (Jvm.Cond.selects "AngleChains$Deduction" ({ cls := "AngleChains$Deduction", name := "shows", desc := "(I)Z" } : Jvm.MethodName) ({ cls := "AngleChains$Deduction", name := "shows", desc := "(I)Z" } : Jvm.MethodName)) ∈ rx_all := rx_inT (i := 471) rfl rfl
set_option maxRecDepth 100000 in
theorem rxw_470 : (Jvm.Cond.instanceMethod ({ cls := "AngleChains$Deduction", name := "shows", desc := "(I)Z" } : Jvm.MethodName)) ∈ rx_all := rx_inT (i := 470) rfl rfl
set_option maxRecDepth 100000 in
theorem rxw_472 : (Jvm.Cond.code ({ cls := "AngleChains$Deduction", name := "shows", desc := "(I)Z" } : Jvm.MethodName) prog_3_method_6_code (2 : Nat) (Option.some Jvm.ClassFile.FieldType.boolean)) ∈ rx_all := rx_inT (i := 472) rfl rfl
set_option maxRecDepth 100000 in
theorem rxw_475 : (Jvm.Cond.selects "AngleChains" ({ cls := "AngleChains", name := "needs", desc := "(I)I" } : Jvm.MethodName) ({ cls := "AngleChains", name := "needs", desc := "(I)I" } : Jvm.MethodName)) ∈ rx_all := rx_inT (i := 475) rfl rfl
set_option maxRecDepth 100000 in
theorem rxw_474 : (Jvm.Cond.instanceMethod ({ cls := "AngleChains", name := "needs", desc := "(I)I" } : Jvm.MethodName)) ∈ rx_all := rx_inT (i := 474) rfl rfl
set_option maxRecDepth 100000 in
theorem rxw_476 : (Jvm.Cond.code ({ cls := "AngleChains", name := "needs", desc := "(I)I" } : Jvm.MethodName) prog_1_method_8_code (8 : Nat) (Option.some Jvm.ClassFile.FieldType.int)) ∈ rx_all := rx_inT (i := 476) rfl rfl
set_option maxRecDepth 100000 in
theorem rxw_479 : (Jvm.Cond.selects "AngleChains" ({ cls := "AngleChains", name := "need", desc := "(I)I" } : Jvm.MethodName) ({ cls := "AngleChains", name := "need", desc := "(I)I" } : Jvm.MethodName)) ∈ rx_all := rx_inT (i := 479) rfl rfl
set_option maxRecDepth 100000 in
theorem rxw_478 : (Jvm.Cond.instanceMethod ({ cls := "AngleChains", name := "need", desc := "(I)I" } : Jvm.MethodName)) ∈ rx_all := rx_inT (i := 478) rfl rfl
set_option maxRecDepth 100000 in
theorem rxw_480 : (Jvm.Cond.code ({ cls := "AngleChains", name := "need", desc := "(I)I" } : Jvm.MethodName) prog_1_method_9_code (4 : Nat) (Option.some Jvm.ClassFile.FieldType.int)) ∈ rx_all := rx_inT (i := 480) rfl rfl
set_option maxRecDepth 100000 in
theorem rxw_483 : (Jvm.Cond.selects "AngleChains" ({ cls := "AngleChains", name := "line", desc := "(II)I" } : Jvm.MethodName) ({ cls := "AngleChains", name := "line", desc := "(II)I" } : Jvm.MethodName)) ∈ rx_all := rx_inT (i := 483) rfl rfl
set_option maxRecDepth 100000 in
theorem rxw_482 : (Jvm.Cond.instanceMethod ({ cls := "AngleChains", name := "line", desc := "(II)I" } : Jvm.MethodName)) ∈ rx_all := rx_inT (i := 482) rfl rfl
set_option maxRecDepth 100000 in
theorem rxw_484 : (Jvm.Cond.code ({ cls := "AngleChains", name := "line", desc := "(II)I" } : Jvm.MethodName) prog_1_method_10_code (3 : Nat) (Option.some Jvm.ClassFile.FieldType.int)) ∈ rx_all := rx_inT (i := 484) rfl rfl
set_option maxRecDepth 100000 in
theorem rxw_487 : (Jvm.Cond.selects "AngleChains$Deduction" ({ cls := "AngleChains$Deduction", name := "lineBits", desc := "(II)I" } : Jvm.MethodName) ({ cls := "AngleChains$Deduction", name := "lineBits", desc := "(II)I" } : Jvm.MethodName)) ∈ rx_all := rx_inT (i := 487) rfl rfl
set_option maxRecDepth 100000 in
theorem rxw_486 : (Jvm.Cond.instanceMethod ({ cls := "AngleChains$Deduction", name := "lineBits", desc := "(II)I" } : Jvm.MethodName)) ∈ rx_all := rx_inT (i := 486) rfl rfl
set_option maxRecDepth 100000 in
theorem rxw_488 : (Jvm.Cond.code ({ cls := "AngleChains$Deduction", name := "lineBits", desc := "(II)I" } : Jvm.MethodName) prog_3_method_29_code (3 : Nat) (Option.some Jvm.ClassFile.FieldType.int)) ∈ rx_all := rx_inT (i := 488) rfl rfl
set_option maxRecDepth 100000 in
theorem rxw_491 : (Jvm.Cond.selects "AngleChains" ({ cls := "AngleChains", name := "circle", desc := "(III)I" } : Jvm.MethodName) ({ cls := "AngleChains", name := "circle", desc := "(III)I" } : Jvm.MethodName)) ∈ rx_all := rx_inT (i := 491) rfl rfl
set_option maxRecDepth 100000 in
theorem rxw_490 : (Jvm.Cond.instanceMethod ({ cls := "AngleChains", name := "circle", desc := "(III)I" } : Jvm.MethodName)) ∈ rx_all := rx_inT (i := 490) rfl rfl
set_option maxRecDepth 100000 in
theorem rxw_492 : (Jvm.Cond.code ({ cls := "AngleChains", name := "circle", desc := "(III)I" } : Jvm.MethodName) prog_1_method_11_code (4 : Nat) (Option.some Jvm.ClassFile.FieldType.int)) ∈ rx_all := rx_inT (i := 492) rfl rfl
set_option maxRecDepth 100000 in
theorem rxw_496 : (Jvm.Cond.selects "AngleChains$Deduction" ({ cls := "AngleChains$Deduction", name := "circleBits", desc := "(III)I" } : Jvm.MethodName) ({ cls := "AngleChains$Deduction", name := "circleBits", desc := "(III)I" } : Jvm.MethodName)) ∈ rx_all := rx_inT (i := 496) rfl rfl
set_option maxRecDepth 100000 in
theorem rxw_495 : (Jvm.Cond.instanceMethod ({ cls := "AngleChains$Deduction", name := "circleBits", desc := "(III)I" } : Jvm.MethodName)) ∈ rx_all := rx_inT (i := 495) rfl rfl
set_option maxRecDepth 100000 in
theorem rxw_497 : (Jvm.Cond.code ({ cls := "AngleChains$Deduction", name := "circleBits", desc := "(III)I" } : Jvm.MethodName) prog_3_method_30_code (4 : Nat) (Option.some Jvm.ClassFile.FieldType.int)) ∈ rx_all := rx_inT (i := 497) rfl rfl
set_option maxRecDepth 100000 in
theorem rxw_500 : (Jvm.Cond.selects "AngleChains" ({ cls := "AngleChains", name := "length", desc := "(II)I" } : Jvm.MethodName) ({ cls := "AngleChains", name := "length", desc := "(II)I" } : Jvm.MethodName)) ∈ rx_all := rx_inT (i := 500) rfl rfl
set_option maxRecDepth 100000 in
theorem rxw_499 : (Jvm.Cond.instanceMethod ({ cls := "AngleChains", name := "length", desc := "(II)I" } : Jvm.MethodName)) ∈ rx_all := rx_inT (i := 499) rfl rfl
set_option maxRecDepth 100000 in
theorem rxw_501 : (Jvm.Cond.code ({ cls := "AngleChains", name := "length", desc := "(II)I" } : Jvm.MethodName) prog_1_method_12_code (3 : Nat) (Option.some Jvm.ClassFile.FieldType.int)) ∈ rx_all := rx_inT (i := 501) rfl rfl
set_option maxRecDepth 100000 in
theorem rxw_504 : (Jvm.Cond.selects "AngleChains$Deduction" ({ cls := "AngleChains$Deduction", name := "leastPair", desc := "(II)I" } : Jvm.MethodName) ({ cls := "AngleChains$Deduction", name := "leastPair", desc := "(II)I" } : Jvm.MethodName)) ∈ rx_all := rx_inT (i := 504) rfl rfl
set_option maxRecDepth 100000 in
theorem rxw_503 : (Jvm.Cond.instanceMethod ({ cls := "AngleChains$Deduction", name := "leastPair", desc := "(II)I" } : Jvm.MethodName)) ∈ rx_all := rx_inT (i := 503) rfl rfl
set_option maxRecDepth 100000 in
theorem rxw_505 : (Jvm.Cond.code ({ cls := "AngleChains$Deduction", name := "leastPair", desc := "(II)I" } : Jvm.MethodName) prog_3_method_31_code (6 : Nat) (Option.some Jvm.ClassFile.FieldType.int)) ∈ rx_all := rx_inT (i := 505) rfl rfl
set_option maxRecDepth 100000 in
theorem rxw_508 : (Jvm.Cond.selects "AngleChains" ({ cls := "AngleChains", name := "told", desc := "(I)I" } : Jvm.MethodName) ({ cls := "AngleChains", name := "told", desc := "(I)I" } : Jvm.MethodName)) ∈ rx_all := rx_inT (i := 508) rfl rfl
set_option maxRecDepth 100000 in
theorem rxw_507 : (Jvm.Cond.instanceMethod ({ cls := "AngleChains", name := "told", desc := "(I)I" } : Jvm.MethodName)) ∈ rx_all := rx_inT (i := 507) rfl rfl
set_option maxRecDepth 100000 in
theorem rxw_509 : (Jvm.Cond.code ({ cls := "AngleChains", name := "told", desc := "(I)I" } : Jvm.MethodName) prog_1_method_13_code (2 : Nat) (Option.some Jvm.ClassFile.FieldType.int)) ∈ rx_all := rx_inT (i := 509) rfl rfl
set_option maxRecDepth 100000 in
theorem rxw_512 : (Jvm.Cond.selects "AngleChains$Deduction" ({ cls := "AngleChains$Deduction", name := "countLines", desc := "()I" } : Jvm.MethodName) ({ cls := "AngleChains$Deduction", name := "countLines", desc := "()I" } : Jvm.MethodName)) ∈ rx_all := rx_inT (i := 512) rfl rfl
set_option maxRecDepth 100000 in
theorem rxw_511 : (Jvm.Cond.instanceMethod ({ cls := "AngleChains$Deduction", name := "countLines", desc := "()I" } : Jvm.MethodName)) ∈ rx_all := rx_inT (i := 511) rfl rfl
set_option maxRecDepth 100000 in
theorem rxw_513 : (Jvm.Cond.code ({ cls := "AngleChains$Deduction", name := "countLines", desc := "()I" } : Jvm.MethodName) prog_3_method_33_code (3 : Nat) (Option.some Jvm.ClassFile.FieldType.int)) ∈ rx_all := rx_inT (i := 513) rfl rfl
theorem rxs_37 : Cond.selects "AngleChains$Deduction" (⟨"AngleChains$Deduction", "isThere", "(I)Z"⟩ : MethodName) (⟨"AngleChains$Deduction", "isThere", "(I)Z"⟩ : MethodName) ∈ rx_all := rx_inS (i := 37) (q := ((⟨"AngleChains$Deduction", "isThere", "(I)Z"⟩ : MethodName), 13)) (by decide +kernel)
set_option maxRecDepth 100000 in
theorem rxw_516 : (Jvm.Cond.instanceMethod ({ cls := "AngleChains$Deduction", name := "isThere", desc := "(I)Z" } : Jvm.MethodName)) ∈ rx_all := rx_inT (i := 516) rfl rfl
set_option maxRecDepth 100000 in
theorem rxw_517 : (Jvm.Cond.code ({ cls := "AngleChains$Deduction", name := "isThere", desc := "(I)Z" } : Jvm.MethodName) prog_3_method_32_code (2 : Nat) (Option.some Jvm.ClassFile.FieldType.boolean)) ∈ rx_all := rx_inT (i := 517) rfl rfl
set_option maxRecDepth 100000 in
theorem rxw_520 : (Jvm.Cond.selects "AngleChains$Deduction" ({ cls := "AngleChains$Deduction", name := "countWideCircles", desc := "()I" } : Jvm.MethodName) ({ cls := "AngleChains$Deduction", name := "countWideCircles", desc := "()I" } : Jvm.MethodName)) ∈ rx_all := rx_inT (i := 520) rfl rfl
set_option maxRecDepth 100000 in
theorem rxw_519 : (Jvm.Cond.instanceMethod ({ cls := "AngleChains$Deduction", name := "countWideCircles", desc := "()I" } : Jvm.MethodName)) ∈ rx_all := rx_inT (i := 519) rfl rfl
set_option maxRecDepth 100000 in
theorem rxw_521 : (Jvm.Cond.code ({ cls := "AngleChains$Deduction", name := "countWideCircles", desc := "()I" } : Jvm.MethodName) prog_3_method_35_code (4 : Nat) (Option.some Jvm.ClassFile.FieldType.int)) ∈ rx_all := rx_inT (i := 521) rfl rfl
set_option maxRecDepth 100000 in
theorem rxw_523 : (Jvm.Cond.static ({ cls := "java/lang/Integer", name := "lowestOneBit", desc := "(I)I" } : Jvm.MethodName)) ∈ rx_all := rx_inT (i := 523) rfl rfl
set_option maxRecDepth 100000 in
theorem rxw_524 : (Jvm.Cond.code ({ cls := "java/lang/Integer", name := "lowestOneBit", desc := "(I)I" } : Jvm.MethodName) prog_8_method_46_code (1 : Nat) (Option.some Jvm.ClassFile.FieldType.int)) ∈ rx_all := rx_inT (i := 524) rfl rfl
set_option maxRecDepth 100000 in
theorem rxw_527 : (Jvm.Cond.selects "AngleChains$Deduction" ({ cls := "AngleChains$Deduction", name := "countLengths", desc := "()I" } : Jvm.MethodName) ({ cls := "AngleChains$Deduction", name := "countLengths", desc := "()I" } : Jvm.MethodName)) ∈ rx_all := rx_inT (i := 527) rfl rfl
set_option maxRecDepth 100000 in
theorem rxw_526 : (Jvm.Cond.instanceMethod ({ cls := "AngleChains$Deduction", name := "countLengths", desc := "()I" } : Jvm.MethodName)) ∈ rx_all := rx_inT (i := 526) rfl rfl
set_option maxRecDepth 100000 in
theorem rxw_528 : (Jvm.Cond.code ({ cls := "AngleChains$Deduction", name := "countLengths", desc := "()I" } : Jvm.MethodName) prog_3_method_34_code (3 : Nat) (Option.some Jvm.ClassFile.FieldType.int)) ∈ rx_all := rx_inT (i := 528) rfl rfl
set_option maxRecDepth 100000 in
theorem rxw_531 : (Jvm.Cond.selects "AngleChains$Deduction" ({ cls := "AngleChains$Deduction", name := "countRows", desc := "()I" } : Jvm.MethodName) ({ cls := "AngleChains$Deduction", name := "countRows", desc := "()I" } : Jvm.MethodName)) ∈ rx_all := rx_inT (i := 531) rfl rfl
set_option maxRecDepth 100000 in
theorem rxw_530 : (Jvm.Cond.instanceMethod ({ cls := "AngleChains$Deduction", name := "countRows", desc := "()I" } : Jvm.MethodName)) ∈ rx_all := rx_inT (i := 530) rfl rfl
set_option maxRecDepth 100000 in
theorem rxw_532 : (Jvm.Cond.code ({ cls := "AngleChains$Deduction", name := "countRows", desc := "()I" } : Jvm.MethodName) prog_3_method_36_code (3 : Nat) (Option.some Jvm.ClassFile.FieldType.int)) ∈ rx_all := rx_inT (i := 532) rfl rfl
set_option maxRecDepth 100000 in
theorem rxw_536 : (Jvm.Cond.instanceMethod ({ cls := "AngleChainsModel", name := "<init>", desc := "()V" } : Jvm.MethodName)) ∈ rx_all := rx_inT (i := 536) rfl rfl
set_option maxRecDepth 100000 in
theorem rxw_537 : (Jvm.Cond.code ({ cls := "AngleChainsModel", name := "<init>", desc := "()V" } : Jvm.MethodName) prog_7_method_1_code (1 : Nat) (Option.none : Option Jvm.ClassFile.FieldType)) ∈ rx_all := rx_inT (i := 537) rfl rfl
set_option maxRecDepth 100000 in
theorem rxw_645 : (Jvm.Cond.selects "AngleChainsModel" ({ cls := "AngleChainsModel", name := "point", desc := "(II)I" } : Jvm.MethodName) ({ cls := "AngleChainsModel", name := "point", desc := "(II)I" } : Jvm.MethodName)) ∈ rx_all := rx_inT (i := 645) rfl rfl
set_option maxRecDepth 100000 in
theorem rxw_644 : (Jvm.Cond.instanceMethod ({ cls := "AngleChainsModel", name := "point", desc := "(II)I" } : Jvm.MethodName)) ∈ rx_all := rx_inT (i := 644) rfl rfl
set_option maxRecDepth 100000 in
theorem rxw_646 : (Jvm.Cond.code ({ cls := "AngleChainsModel", name := "point", desc := "(II)I" } : Jvm.MethodName) prog_7_method_12_code (4 : Nat) (Option.some Jvm.ClassFile.FieldType.int)) ∈ rx_all := rx_inT (i := 646) rfl rfl
set_option maxRecDepth 100000 in
theorem rxw_649 : (Jvm.Cond.selects "AngleChainsModel" ({ cls := "AngleChainsModel", name := "of", desc := "(I)I" } : Jvm.MethodName) ({ cls := "AngleChainsModel", name := "of", desc := "(I)I" } : Jvm.MethodName)) ∈ rx_all := rx_inT (i := 649) rfl rfl
set_option maxRecDepth 100000 in
theorem rxw_648 : (Jvm.Cond.instanceMethod ({ cls := "AngleChainsModel", name := "of", desc := "(I)I" } : Jvm.MethodName)) ∈ rx_all := rx_inT (i := 648) rfl rfl
set_option maxRecDepth 100000 in
theorem rxw_650 : (Jvm.Cond.code ({ cls := "AngleChainsModel", name := "of", desc := "(I)I" } : Jvm.MethodName) prog_7_method_13_code (2 : Nat) (Option.some Jvm.ClassFile.FieldType.int)) ∈ rx_all := rx_inT (i := 650) rfl rfl
set_option maxRecDepth 100000 in
theorem rxw_653 : (Jvm.Cond.selects "AngleChainsModel" ({ cls := "AngleChainsModel", name := "isTrue", desc := "(I)I" } : Jvm.MethodName) ({ cls := "AngleChainsModel", name := "isTrue", desc := "(I)I" } : Jvm.MethodName)) ∈ rx_all := rx_inT (i := 653) rfl rfl
set_option maxRecDepth 100000 in
theorem rxw_652 : (Jvm.Cond.instanceMethod ({ cls := "AngleChainsModel", name := "isTrue", desc := "(I)I" } : Jvm.MethodName)) ∈ rx_all := rx_inT (i := 652) rfl rfl
set_option maxRecDepth 100000 in
theorem rxw_654 : (Jvm.Cond.code ({ cls := "AngleChainsModel", name := "isTrue", desc := "(I)I" } : Jvm.MethodName) prog_7_method_14_code (4 : Nat) (Option.some Jvm.ClassFile.FieldType.int)) ∈ rx_all := rx_inT (i := 654) rfl rfl
theorem rxs_38 : Cond.selects "AngleChainsModel" (⟨"AngleChainsModel", "isFact", "(I)Z"⟩ : MethodName) (⟨"AngleChainsModel", "isFact", "(I)Z"⟩ : MethodName) ∈ rx_all := rx_inS (i := 38) (q := ((⟨"AngleChainsModel", "isFact", "(I)Z"⟩ : MethodName), 34)) (by decide +kernel)
set_option maxRecDepth 100000 in
theorem rxw_657 : (Jvm.Cond.instanceMethod ({ cls := "AngleChainsModel", name := "isFact", desc := "(I)Z" } : Jvm.MethodName)) ∈ rx_all := rx_inT (i := 657) rfl rfl
set_option maxRecDepth 100000 in
theorem rxw_658 : (Jvm.Cond.code ({ cls := "AngleChainsModel", name := "isFact", desc := "(I)Z" } : Jvm.MethodName) prog_7_method_11_code (6 : Nat) (Option.some Jvm.ClassFile.FieldType.boolean)) ∈ rx_all := rx_inT (i := 658) rfl rfl
set_option maxRecDepth 100000 in
theorem rxw_660 : (Jvm.Cond.static ({ cls := "AngleChainsModel", name := "pointsOf", desc := "(I)I" } : Jvm.MethodName)) ∈ rx_all := rx_inT (i := 660) rfl rfl
set_option maxRecDepth 100000 in
theorem rxw_661 : (Jvm.Cond.code ({ cls := "AngleChainsModel", name := "pointsOf", desc := "(I)I" } : Jvm.MethodName) prog_7_method_10_code (1 : Nat) (Option.some Jvm.ClassFile.FieldType.int)) ∈ rx_all := rx_inT (i := 661) rfl rfl
theorem rxs_39 : Cond.selects "AngleChainsModel" (⟨"AngleChainsModel", "holds", "(I)Z"⟩ : MethodName) (⟨"AngleChainsModel", "holds", "(I)Z"⟩ : MethodName) ∈ rx_all := rx_inS (i := 39) (q := ((⟨"AngleChainsModel", "holds", "(I)Z"⟩ : MethodName), 34)) (by decide +kernel)
set_option maxRecDepth 100000 in
theorem rxw_664 : (Jvm.Cond.instanceMethod ({ cls := "AngleChainsModel", name := "holds", desc := "(I)Z" } : Jvm.MethodName)) ∈ rx_all := rx_inT (i := 664) rfl rfl
set_option maxRecDepth 100000 in
theorem rxw_665 : (Jvm.Cond.code ({ cls := "AngleChainsModel", name := "holds", desc := "(I)Z" } : Jvm.MethodName) prog_7_method_9_code (2 : Nat) (Option.some Jvm.ClassFile.FieldType.boolean)) ∈ rx_all := rx_inT (i := 665) rfl rfl
theorem rxs_40 : Cond.selects "AngleChainsModel" (⟨"AngleChainsModel", "p", "(I)I"⟩ : MethodName) (⟨"AngleChainsModel", "p", "(I)I"⟩ : MethodName) ∈ rx_all := rx_inS (i := 40) (q := ((⟨"AngleChainsModel", "p", "(I)I"⟩ : MethodName), 34)) (by decide +kernel)
set_option maxRecDepth 100000 in
theorem rxw_668 : (Jvm.Cond.instanceMethod ({ cls := "AngleChainsModel", name := "p", desc := "(I)I" } : Jvm.MethodName)) ∈ rx_all := rx_inT (i := 668) rfl rfl
set_option maxRecDepth 100000 in
theorem rxw_669 : (Jvm.Cond.code ({ cls := "AngleChainsModel", name := "p", desc := "(I)I" } : Jvm.MethodName) prog_7_method_8_code (2 : Nat) (Option.some Jvm.ClassFile.FieldType.int)) ∈ rx_all := rx_inT (i := 669) rfl rfl
theorem rxs_41 : Cond.selects "AngleChainsModel" (⟨"AngleChainsModel", "isProper", "(III)Z"⟩ : MethodName) (⟨"AngleChainsModel", "isProper", "(III)Z"⟩ : MethodName) ∈ rx_all := rx_inS (i := 41) (q := ((⟨"AngleChainsModel", "isProper", "(III)Z"⟩ : MethodName), 34)) (by decide +kernel)
set_option maxRecDepth 100000 in
theorem rxw_672 : (Jvm.Cond.instanceMethod ({ cls := "AngleChainsModel", name := "isProper", desc := "(III)Z" } : Jvm.MethodName)) ∈ rx_all := rx_inT (i := 672) rfl rfl
set_option maxRecDepth 100000 in
theorem rxw_673 : (Jvm.Cond.code ({ cls := "AngleChainsModel", name := "isProper", desc := "(III)Z" } : Jvm.MethodName) prog_7_method_5_code (4 : Nat) (Option.some Jvm.ClassFile.FieldType.boolean)) ∈ rx_all := rx_inT (i := 673) rfl rfl
theorem rxs_42 : Cond.selects "AngleChainsModel" (⟨"AngleChainsModel", "cross", "(IIII)J"⟩ : MethodName) (⟨"AngleChainsModel", "cross", "(IIII)J"⟩ : MethodName) ∈ rx_all := rx_inS (i := 42) (q := ((⟨"AngleChainsModel", "cross", "(IIII)J"⟩ : MethodName), 34)) (by decide +kernel)
set_option maxRecDepth 100000 in
theorem rxw_676 : (Jvm.Cond.instanceMethod ({ cls := "AngleChainsModel", name := "cross", desc := "(IIII)J" } : Jvm.MethodName)) ∈ rx_all := rx_inT (i := 676) rfl rfl
set_option maxRecDepth 100000 in
theorem rxw_677 : (Jvm.Cond.code ({ cls := "AngleChainsModel", name := "cross", desc := "(IIII)J" } : Jvm.MethodName) prog_7_method_3_code (5 : Nat) (Option.some Jvm.ClassFile.FieldType.long)) ∈ rx_all := rx_inT (i := 677) rfl rfl
theorem rxs_43 : Cond.selects "AngleChainsModel" (⟨"AngleChainsModel", "dot", "(IIII)J"⟩ : MethodName) (⟨"AngleChainsModel", "dot", "(IIII)J"⟩ : MethodName) ∈ rx_all := rx_inS (i := 43) (q := ((⟨"AngleChainsModel", "dot", "(IIII)J"⟩ : MethodName), 34)) (by decide +kernel)
set_option maxRecDepth 100000 in
theorem rxw_680 : (Jvm.Cond.instanceMethod ({ cls := "AngleChainsModel", name := "dot", desc := "(IIII)J" } : Jvm.MethodName)) ∈ rx_all := rx_inT (i := 680) rfl rfl
set_option maxRecDepth 100000 in
theorem rxw_681 : (Jvm.Cond.code ({ cls := "AngleChainsModel", name := "dot", desc := "(IIII)J" } : Jvm.MethodName) prog_7_method_4_code (5 : Nat) (Option.some Jvm.ClassFile.FieldType.long)) ∈ rx_all := rx_inT (i := 681) rfl rfl
theorem rxs_44 : Cond.selects "AngleChainsModel" (⟨"AngleChainsModel", "isCircle", "(IIII)Z"⟩ : MethodName) (⟨"AngleChainsModel", "isCircle", "(IIII)Z"⟩ : MethodName) ∈ rx_all := rx_inS (i := 44) (q := ((⟨"AngleChainsModel", "isCircle", "(IIII)Z"⟩ : MethodName), 34)) (by decide +kernel)
set_option maxRecDepth 100000 in
theorem rxw_684 : (Jvm.Cond.instanceMethod ({ cls := "AngleChainsModel", name := "isCircle", desc := "(IIII)Z" } : Jvm.MethodName)) ∈ rx_all := rx_inT (i := 684) rfl rfl
set_option maxRecDepth 100000 in
theorem rxw_685 : (Jvm.Cond.code ({ cls := "AngleChainsModel", name := "isCircle", desc := "(IIII)Z" } : Jvm.MethodName) prog_7_method_6_code (11 : Nat) (Option.some Jvm.ClassFile.FieldType.boolean)) ∈ rx_all := rx_inT (i := 685) rfl rfl
theorem rxs_45 : Cond.selects "AngleChainsModel" (⟨"AngleChainsModel", "isTurn", "(IIIIIIII)Z"⟩ : MethodName) (⟨"AngleChainsModel", "isTurn", "(IIIIIIII)Z"⟩ : MethodName) ∈ rx_all := rx_inS (i := 45) (q := ((⟨"AngleChainsModel", "isTurn", "(IIIIIIII)Z"⟩ : MethodName), 34)) (by decide +kernel)
set_option maxRecDepth 100000 in
theorem rxw_688 : (Jvm.Cond.instanceMethod ({ cls := "AngleChainsModel", name := "isTurn", desc := "(IIIIIIII)Z" } : Jvm.MethodName)) ∈ rx_all := rx_inT (i := 688) rfl rfl
set_option maxRecDepth 100000 in
theorem rxw_689 : (Jvm.Cond.code ({ cls := "AngleChainsModel", name := "isTurn", desc := "(IIIIIIII)Z" } : Jvm.MethodName) prog_7_method_7_code (17 : Nat) (Option.some Jvm.ClassFile.FieldType.boolean)) ∈ rx_all := rx_inT (i := 689) rfl rfl
set_option maxRecDepth 100000 in
theorem rxw_692 : (Jvm.Cond.selects "AngleChainsModel" ({ cls := "AngleChainsModel", name := "fact", desc := "(I)I" } : Jvm.MethodName) ({ cls := "AngleChainsModel", name := "fact", desc := "(I)I" } : Jvm.MethodName)) ∈ rx_all := rx_inT (i := 692) rfl rfl
set_option maxRecDepth 100000 in
theorem rxw_691 : (Jvm.Cond.instanceMethod ({ cls := "AngleChainsModel", name := "fact", desc := "(I)I" } : Jvm.MethodName)) ∈ rx_all := rx_inT (i := 691) rfl rfl
set_option maxRecDepth 100000 in
theorem rxw_693 : (Jvm.Cond.code ({ cls := "AngleChainsModel", name := "fact", desc := "(I)I" } : Jvm.MethodName) prog_7_method_15_code (6 : Nat) (Option.some Jvm.ClassFile.FieldType.int)) ∈ rx_all := rx_inT (i := 693) rfl rfl
set_option maxRecDepth 100000 in
theorem rxw_696 : (Jvm.Cond.selects "AngleChainsModel" ({ cls := "AngleChainsModel", name := "turn", desc := "(IZ)Z" } : Jvm.MethodName) ({ cls := "AngleChainsModel", name := "turn", desc := "(IZ)Z" } : Jvm.MethodName)) ∈ rx_all := rx_inT (i := 696) rfl rfl
set_option maxRecDepth 100000 in
theorem rxw_695 : (Jvm.Cond.instanceMethod ({ cls := "AngleChainsModel", name := "turn", desc := "(IZ)Z" } : Jvm.MethodName)) ∈ rx_all := rx_inT (i := 695) rfl rfl
set_option maxRecDepth 100000 in
theorem rxw_697 : (Jvm.Cond.code ({ cls := "AngleChainsModel", name := "turn", desc := "(IZ)Z" } : Jvm.MethodName) prog_7_method_16_code (3 : Nat) (Option.some Jvm.ClassFile.FieldType.boolean)) ∈ rx_all := rx_inT (i := 697) rfl rfl
set_option maxRecDepth 100000 in
theorem rxw_700 : (Jvm.Cond.selects "AngleChainsModel" ({ cls := "AngleChainsModel", name := "follows", desc := "(I)I" } : Jvm.MethodName) ({ cls := "AngleChainsModel", name := "follows", desc := "(I)I" } : Jvm.MethodName)) ∈ rx_all := rx_inT (i := 700) rfl rfl
set_option maxRecDepth 100000 in
theorem rxw_699 : (Jvm.Cond.instanceMethod ({ cls := "AngleChainsModel", name := "follows", desc := "(I)I" } : Jvm.MethodName)) ∈ rx_all := rx_inT (i := 699) rfl rfl
set_option maxRecDepth 100000 in
theorem rxw_701 : (Jvm.Cond.code ({ cls := "AngleChainsModel", name := "follows", desc := "(I)I" } : Jvm.MethodName) prog_7_method_59_code (5 : Nat) (Option.some Jvm.ClassFile.FieldType.int)) ∈ rx_all := rx_inT (i := 701) rfl rfl
theorem rxs_46 : Cond.selects "AngleChainsModel" (⟨"AngleChainsModel", "refresh", "()V"⟩ : MethodName) (⟨"AngleChainsModel", "refresh", "()V"⟩ : MethodName) ∈ rx_all := rx_inS (i := 46) (q := ((⟨"AngleChainsModel", "refresh", "()V"⟩ : MethodName), 34)) (by decide +kernel)
set_option maxRecDepth 100000 in
theorem rxw_704 : (Jvm.Cond.instanceMethod ({ cls := "AngleChainsModel", name := "refresh", desc := "()V" } : Jvm.MethodName)) ∈ rx_all := rx_inT (i := 704) rfl rfl
set_option maxRecDepth 100000 in
theorem rxw_705 : (Jvm.Cond.code ({ cls := "AngleChainsModel", name := "refresh", desc := "()V" } : Jvm.MethodName) prog_7_method_56_code (2 : Nat) (Option.none : Option Jvm.ClassFile.FieldType)) ∈ rx_all := rx_inT (i := 705) rfl rfl
theorem rxs_47 : Cond.selects "AngleChainsModel" (⟨"AngleChainsModel", "work", "()V"⟩ : MethodName) (⟨"AngleChainsModel", "work", "()V"⟩ : MethodName) ∈ rx_all := rx_inS (i := 47) (q := ((⟨"AngleChainsModel", "work", "()V"⟩ : MethodName), 34)) (by decide +kernel)
set_option maxRecDepth 100000 in
theorem rxw_708 : (Jvm.Cond.instanceMethod ({ cls := "AngleChainsModel", name := "work", desc := "()V" } : Jvm.MethodName)) ∈ rx_all := rx_inT (i := 708) rfl rfl
set_option maxRecDepth 100000 in
theorem rxw_709 : (Jvm.Cond.code ({ cls := "AngleChainsModel", name := "work", desc := "()V" } : Jvm.MethodName) prog_7_method_55_code (1 : Nat) (Option.none : Option Jvm.ClassFile.FieldType)) ∈ rx_all := rx_inT (i := 709) rfl rfl
theorem rxs_48 : Cond.selects "AngleChainsModel" (⟨"AngleChainsModel", "begin", "()V"⟩ : MethodName) (⟨"AngleChainsModel", "begin", "()V"⟩ : MethodName) ∈ rx_all := rx_inS (i := 48) (q := ((⟨"AngleChainsModel", "begin", "()V"⟩ : MethodName), 34)) (by decide +kernel)
set_option maxRecDepth 100000 in
theorem rxw_712 : (Jvm.Cond.instanceMethod ({ cls := "AngleChainsModel", name := "begin", desc := "()V" } : Jvm.MethodName)) ∈ rx_all := rx_inT (i := 712) rfl rfl
set_option maxRecDepth 100000 in
theorem rxw_713 : (Jvm.Cond.code ({ cls := "AngleChainsModel", name := "begin", desc := "()V" } : Jvm.MethodName) prog_7_method_51_code (5 : Nat) (Option.none : Option Jvm.ClassFile.FieldType)) ∈ rx_all := rx_inT (i := 713) rfl rfl
theorem rxs_49 : Cond.selects "AngleChainsModel" (⟨"AngleChainsModel", "numberLines", "()V"⟩ : MethodName) (⟨"AngleChainsModel", "numberLines", "()V"⟩ : MethodName) ∈ rx_all := rx_inS (i := 49) (q := ((⟨"AngleChainsModel", "numberLines", "()V"⟩ : MethodName), 34)) (by decide +kernel)
set_option maxRecDepth 100000 in
theorem rxw_716 : (Jvm.Cond.instanceMethod ({ cls := "AngleChainsModel", name := "numberLines", desc := "()V" } : Jvm.MethodName)) ∈ rx_all := rx_inT (i := 716) rfl rfl
set_option maxRecDepth 100000 in
theorem rxw_717 : (Jvm.Cond.code ({ cls := "AngleChainsModel", name := "numberLines", desc := "()V" } : Jvm.MethodName) prog_7_method_34_code (7 : Nat) (Option.none : Option Jvm.ClassFile.FieldType)) ∈ rx_all := rx_inT (i := 717) rfl rfl
theorem rxs_50 : Cond.selects "AngleChainsModel" (⟨"AngleChainsModel", "lineOf", "(II)I"⟩ : MethodName) (⟨"AngleChainsModel", "lineOf", "(II)I"⟩ : MethodName) ∈ rx_all := rx_inS (i := 50) (q := ((⟨"AngleChainsModel", "lineOf", "(II)I"⟩ : MethodName), 34)) (by decide +kernel)
set_option maxRecDepth 100000 in
theorem rxw_720 : (Jvm.Cond.instanceMethod ({ cls := "AngleChainsModel", name := "lineOf", desc := "(II)I" } : Jvm.MethodName)) ∈ rx_all := rx_inT (i := 720) rfl rfl
set_option maxRecDepth 100000 in
theorem rxw_721 : (Jvm.Cond.code ({ cls := "AngleChainsModel", name := "lineOf", desc := "(II)I" } : Jvm.MethodName) prog_7_method_17_code (3 : Nat) (Option.some Jvm.ClassFile.FieldType.int)) ∈ rx_all := rx_inT (i := 721) rfl rfl
theorem rxs_51 : Cond.selects "AngleChainsModel" (⟨"AngleChainsModel", "startLattice", "()V"⟩ : MethodName) (⟨"AngleChainsModel", "startLattice", "()V"⟩ : MethodName) ∈ rx_all := rx_inS (i := 51) (q := ((⟨"AngleChainsModel", "startLattice", "()V"⟩ : MethodName), 34)) (by decide +kernel)
set_option maxRecDepth 100000 in
theorem rxw_724 : (Jvm.Cond.instanceMethod ({ cls := "AngleChainsModel", name := "startLattice", desc := "()V" } : Jvm.MethodName)) ∈ rx_all := rx_inT (i := 724) rfl rfl
set_option maxRecDepth 100000 in
theorem rxw_725 : (Jvm.Cond.code ({ cls := "AngleChainsModel", name := "startLattice", desc := "()V" } : Jvm.MethodName) prog_7_method_35_code (3 : Nat) (Option.none : Option Jvm.ClassFile.FieldType)) ∈ rx_all := rx_inT (i := 725) rfl rfl
theorem rxs_52 : Cond.selects "AngleChainsModel" (⟨"AngleChainsModel", "lineFacts", "()V"⟩ : MethodName) (⟨"AngleChainsModel", "lineFacts", "()V"⟩ : MethodName) ∈ rx_all := rx_inS (i := 52) (q := ((⟨"AngleChainsModel", "lineFacts", "()V"⟩ : MethodName), 34)) (by decide +kernel)
set_option maxRecDepth 100000 in
theorem rxw_729 : (Jvm.Cond.instanceMethod ({ cls := "AngleChainsModel", name := "lineFacts", desc := "()V" } : Jvm.MethodName)) ∈ rx_all := rx_inT (i := 729) rfl rfl
set_option maxRecDepth 100000 in
theorem rxw_730 : (Jvm.Cond.code ({ cls := "AngleChainsModel", name := "lineFacts", desc := "()V" } : Jvm.MethodName) prog_7_method_53_code (3 : Nat) (Option.none : Option Jvm.ClassFile.FieldType)) ∈ rx_all := rx_inT (i := 730) rfl rfl
theorem rxs_53 : Cond.selects "AngleChainsModel" (⟨"AngleChainsModel", "f", "(II)I"⟩ : MethodName) (⟨"AngleChainsModel", "f", "(II)I"⟩ : MethodName) ∈ rx_all := rx_inS (i := 53) (q := ((⟨"AngleChainsModel", "f", "(II)I"⟩ : MethodName), 34)) (by decide +kernel)
set_option maxRecDepth 100000 in
theorem rxw_733 : (Jvm.Cond.instanceMethod ({ cls := "AngleChainsModel", name := "f", desc := "(II)I" } : Jvm.MethodName)) ∈ rx_all := rx_inT (i := 733) rfl rfl
set_option maxRecDepth 100000 in
theorem rxw_734 : (Jvm.Cond.code ({ cls := "AngleChainsModel", name := "f", desc := "(II)I" } : Jvm.MethodName) prog_7_method_52_code (3 : Nat) (Option.some Jvm.ClassFile.FieldType.int)) ∈ rx_all := rx_inT (i := 734) rfl rfl
theorem rxs_54 : Cond.selects "AngleChainsModel" (⟨"AngleChainsModel", "join", "(I)V"⟩ : MethodName) (⟨"AngleChainsModel", "join", "(I)V"⟩ : MethodName) ∈ rx_all := rx_inS (i := 54) (q := ((⟨"AngleChainsModel", "join", "(I)V"⟩ : MethodName), 34)) (by decide +kernel)
set_option maxRecDepth 100000 in
theorem rxw_737 : (Jvm.Cond.instanceMethod ({ cls := "AngleChainsModel", name := "join", desc := "(I)V" } : Jvm.MethodName)) ∈ rx_all := rx_inT (i := 737) rfl rfl
set_option maxRecDepth 100000 in
theorem rxw_738 : (Jvm.Cond.code ({ cls := "AngleChainsModel", name := "join", desc := "(I)V" } : Jvm.MethodName) prog_7_method_19_code (6 : Nat) (Option.none : Option Jvm.ClassFile.FieldType)) ∈ rx_all := rx_inT (i := 738) rfl rfl
set_option maxRecDepth 100000 in
theorem rxw_740 : (Jvm.Cond.static ({ cls := "AngleChainsModel", name := "has", desc := "(II)Z" } : Jvm.MethodName)) ∈ rx_all := rx_inT (i := 740) rfl rfl
set_option maxRecDepth 100000 in
theorem rxw_741 : (Jvm.Cond.code ({ cls := "AngleChainsModel", name := "has", desc := "(II)Z" } : Jvm.MethodName) prog_7_method_18_code (2 : Nat) (Option.some Jvm.ClassFile.FieldType.boolean)) ∈ rx_all := rx_inT (i := 741) rfl rfl
theorem rxs_55 : Cond.selects "AngleChainsModel" (⟨"AngleChainsModel", "round", "(I)V"⟩ : MethodName) (⟨"AngleChainsModel", "round", "(I)V"⟩ : MethodName) ∈ rx_all := rx_inS (i := 55) (q := ((⟨"AngleChainsModel", "round", "(I)V"⟩ : MethodName), 34)) (by decide +kernel)
set_option maxRecDepth 100000 in
theorem rxw_744 : (Jvm.Cond.instanceMethod ({ cls := "AngleChainsModel", name := "round", desc := "(I)V" } : Jvm.MethodName)) ∈ rx_all := rx_inT (i := 744) rfl rfl
set_option maxRecDepth 100000 in
theorem rxw_745 : (Jvm.Cond.code ({ cls := "AngleChainsModel", name := "round", desc := "(I)V" } : Jvm.MethodName) prog_7_method_21_code (7 : Nat) (Option.none : Option Jvm.ClassFile.FieldType)) ∈ rx_all := rx_inT (i := 745) rfl rfl
theorem rxs_56 : Cond.selects "AngleChainsModel" (⟨"AngleChainsModel", "circleOf", "(III)I"⟩ : MethodName) (⟨"AngleChainsModel", "circleOf", "(III)I"⟩ : MethodName) ∈ rx_all := rx_inS (i := 56) (q := ((⟨"AngleChainsModel", "circleOf", "(III)I"⟩ : MethodName), 34)) (by decide +kernel)
set_option maxRecDepth 100000 in
theorem rxw_748 : (Jvm.Cond.instanceMethod ({ cls := "AngleChainsModel", name := "circleOf", desc := "(III)I" } : Jvm.MethodName)) ∈ rx_all := rx_inT (i := 748) rfl rfl
set_option maxRecDepth 100000 in
theorem rxw_749 : (Jvm.Cond.code ({ cls := "AngleChainsModel", name := "circleOf", desc := "(III)I" } : Jvm.MethodName) prog_7_method_20_code (4 : Nat) (Option.some Jvm.ClassFile.FieldType.int)) ∈ rx_all := rx_inT (i := 749) rfl rfl
theorem rxs_57 : Cond.selects "AngleChainsModel" (⟨"AngleChainsModel", "equal", "(IIII)V"⟩ : MethodName) (⟨"AngleChainsModel", "equal", "(IIII)V"⟩ : MethodName) ∈ rx_all := rx_inS (i := 57) (q := ((⟨"AngleChainsModel", "equal", "(IIII)V"⟩ : MethodName), 34)) (by decide +kernel)
set_option maxRecDepth 100000 in
theorem rxw_752 : (Jvm.Cond.instanceMethod ({ cls := "AngleChainsModel", name := "equal", desc := "(IIII)V" } : Jvm.MethodName)) ∈ rx_all := rx_inT (i := 752) rfl rfl
set_option maxRecDepth 100000 in
theorem rxw_753 : (Jvm.Cond.code ({ cls := "AngleChainsModel", name := "equal", desc := "(IIII)V" } : Jvm.MethodName) prog_7_method_24_code (9 : Nat) (Option.none : Option Jvm.ClassFile.FieldType)) ∈ rx_all := rx_inT (i := 753) rfl rfl
theorem rxs_58 : Cond.selects "AngleChainsModel" (⟨"AngleChainsModel", "lengthOf", "(II)I"⟩ : MethodName) (⟨"AngleChainsModel", "lengthOf", "(II)I"⟩ : MethodName) ∈ rx_all := rx_inS (i := 58) (q := ((⟨"AngleChainsModel", "lengthOf", "(II)I"⟩ : MethodName), 34)) (by decide +kernel)
set_option maxRecDepth 100000 in
theorem rxw_756 : (Jvm.Cond.instanceMethod ({ cls := "AngleChainsModel", name := "lengthOf", desc := "(II)I" } : Jvm.MethodName)) ∈ rx_all := rx_inT (i := 756) rfl rfl
set_option maxRecDepth 100000 in
theorem rxw_757 : (Jvm.Cond.code ({ cls := "AngleChainsModel", name := "lengthOf", desc := "(II)I" } : Jvm.MethodName) prog_7_method_22_code (3 : Nat) (Option.some Jvm.ClassFile.FieldType.int)) ∈ rx_all := rx_inT (i := 757) rfl rfl
theorem rxs_59 : Cond.selects "AngleChainsModel" (⟨"AngleChainsModel", "moveColumns", "()V"⟩ : MethodName) (⟨"AngleChainsModel", "moveColumns", "()V"⟩ : MethodName) ∈ rx_all := rx_inS (i := 59) (q := ((⟨"AngleChainsModel", "moveColumns", "()V"⟩ : MethodName), 34)) (by decide +kernel)
set_option maxRecDepth 100000 in
theorem rxw_760 : (Jvm.Cond.instanceMethod ({ cls := "AngleChainsModel", name := "moveColumns", desc := "()V" } : Jvm.MethodName)) ∈ rx_all := rx_inT (i := 760) rfl rfl
set_option maxRecDepth 100000 in
theorem rxw_761 : (Jvm.Cond.code ({ cls := "AngleChainsModel", name := "moveColumns", desc := "()V" } : Jvm.MethodName) prog_7_method_36_code (3 : Nat) (Option.none : Option Jvm.ClassFile.FieldType)) ∈ rx_all := rx_inT (i := 761) rfl rfl
theorem rxs_60 : Cond.selects "AngleChainsModel" (⟨"AngleChainsModel", "columnOf", "(II)I"⟩ : MethodName) (⟨"AngleChainsModel", "columnOf", "(II)I"⟩ : MethodName) ∈ rx_all := rx_inS (i := 60) (q := ((⟨"AngleChainsModel", "columnOf", "(II)I"⟩ : MethodName), 34)) (by decide +kernel)
set_option maxRecDepth 100000 in
theorem rxw_764 : (Jvm.Cond.instanceMethod ({ cls := "AngleChainsModel", name := "columnOf", desc := "(II)I" } : Jvm.MethodName)) ∈ rx_all := rx_inT (i := 764) rfl rfl
set_option maxRecDepth 100000 in
theorem rxw_765 : (Jvm.Cond.code ({ cls := "AngleChainsModel", name := "columnOf", desc := "(II)I" } : Jvm.MethodName) prog_7_method_31_code (3 : Nat) (Option.some Jvm.ClassFile.FieldType.int)) ∈ rx_all := rx_inT (i := 765) rfl rfl
theorem rxs_61 : Cond.selects "AngleChainsModel" (⟨"AngleChainsModel", "clearRow", "()V"⟩ : MethodName) (⟨"AngleChainsModel", "clearRow", "()V"⟩ : MethodName) ∈ rx_all := rx_inS (i := 61) (q := ((⟨"AngleChainsModel", "clearRow", "()V"⟩ : MethodName), 34)) (by decide +kernel)
set_option maxRecDepth 100000 in
theorem rxw_768 : (Jvm.Cond.instanceMethod ({ cls := "AngleChainsModel", name := "clearRow", desc := "()V" } : Jvm.MethodName)) ∈ rx_all := rx_inT (i := 768) rfl rfl
set_option maxRecDepth 100000 in
theorem rxw_769 : (Jvm.Cond.code ({ cls := "AngleChainsModel", name := "clearRow", desc := "()V" } : Jvm.MethodName) prog_7_method_25_code (2 : Nat) (Option.none : Option Jvm.ClassFile.FieldType)) ∈ rx_all := rx_inT (i := 769) rfl rfl
theorem rxs_62 : Cond.selects "AngleChainsModel" (⟨"AngleChainsModel", "comes", "()Z"⟩ : MethodName) (⟨"AngleChainsModel", "comes", "()Z"⟩ : MethodName) ∈ rx_all := rx_inS (i := 62) (q := ((⟨"AngleChainsModel", "comes", "()Z"⟩ : MethodName), 34)) (by decide +kernel)
set_option maxRecDepth 100000 in
theorem rxw_772 : (Jvm.Cond.instanceMethod ({ cls := "AngleChainsModel", name := "comes", desc := "()Z" } : Jvm.MethodName)) ∈ rx_all := rx_inT (i := 772) rfl rfl
set_option maxRecDepth 100000 in
theorem rxw_773 : (Jvm.Cond.code ({ cls := "AngleChainsModel", name := "comes", desc := "()Z" } : Jvm.MethodName) prog_7_method_28_code (3 : Nat) (Option.some Jvm.ClassFile.FieldType.boolean)) ∈ rx_all := rx_inT (i := 773) rfl rfl
theorem rxs_63 : Cond.selects "AngleChainsModel" (⟨"AngleChainsModel", "reduce", "(I)V"⟩ : MethodName) (⟨"AngleChainsModel", "reduce", "(I)V"⟩ : MethodName) ∈ rx_all := rx_inS (i := 63) (q := ((⟨"AngleChainsModel", "reduce", "(I)V"⟩ : MethodName), 34)) (by decide +kernel)
set_option maxRecDepth 100000 in
theorem rxw_776 : (Jvm.Cond.instanceMethod ({ cls := "AngleChainsModel", name := "reduce", desc := "(I)V" } : Jvm.MethodName)) ∈ rx_all := rx_inT (i := 776) rfl rfl
set_option maxRecDepth 100000 in
theorem rxw_777 : (Jvm.Cond.code ({ cls := "AngleChainsModel", name := "reduce", desc := "(I)V" } : Jvm.MethodName) prog_7_method_27_code (6 : Nat) (Option.none : Option Jvm.ClassFile.FieldType)) ∈ rx_all := rx_inT (i := 777) rfl rfl
set_option maxRecDepth 100000 in
theorem rxw_779 : (Jvm.Cond.static ({ cls := "AngleChainsModel", name := "down", desc := "(JJ)J" } : Jvm.MethodName)) ∈ rx_all := rx_inT (i := 779) rfl rfl
set_option maxRecDepth 100000 in
theorem rxw_780 : (Jvm.Cond.code ({ cls := "AngleChainsModel", name := "down", desc := "(JJ)J" } : Jvm.MethodName) prog_7_method_26_code (6 : Nat) (Option.some Jvm.ClassFile.FieldType.long)) ∈ rx_all := rx_inT (i := 780) rfl rfl
theorem rxs_64 : Cond.selects "AngleChainsModel" (⟨"AngleChainsModel", "layStep", "(I)V"⟩ : MethodName) (⟨"AngleChainsModel", "layStep", "(I)V"⟩ : MethodName) ∈ rx_all := rx_inS (i := 64) (q := ((⟨"AngleChainsModel", "layStep", "(I)V"⟩ : MethodName), 34)) (by decide +kernel)
set_option maxRecDepth 100000 in
theorem rxw_783 : (Jvm.Cond.instanceMethod ({ cls := "AngleChainsModel", name := "layStep", desc := "(I)V" } : Jvm.MethodName)) ∈ rx_all := rx_inT (i := 783) rfl rfl
set_option maxRecDepth 100000 in
theorem rxw_784 : (Jvm.Cond.code ({ cls := "AngleChainsModel", name := "layStep", desc := "(I)V" } : Jvm.MethodName) prog_7_method_29_code (5 : Nat) (Option.none : Option Jvm.ClassFile.FieldType)) ∈ rx_all := rx_inT (i := 784) rfl rfl
theorem rxs_65 : Cond.selects "AngleChainsModel" (⟨"AngleChainsModel", "meet", "(I)V"⟩ : MethodName) (⟨"AngleChainsModel", "meet", "(I)V"⟩ : MethodName) ∈ rx_all := rx_inS (i := 65) (q := ((⟨"AngleChainsModel", "meet", "(I)V"⟩ : MethodName), 34)) (by decide +kernel)
set_option maxRecDepth 100000 in
theorem rxw_788 : (Jvm.Cond.instanceMethod ({ cls := "AngleChainsModel", name := "meet", desc := "(I)V" } : Jvm.MethodName)) ∈ rx_all := rx_inT (i := 788) rfl rfl
set_option maxRecDepth 100000 in
theorem rxw_789 : (Jvm.Cond.code ({ cls := "AngleChainsModel", name := "meet", desc := "(I)V" } : Jvm.MethodName) prog_7_method_30_code (7 : Nat) (Option.none : Option Jvm.ClassFile.FieldType)) ∈ rx_all := rx_inT (i := 789) rfl rfl
theorem rxs_66 : Cond.selects "AngleChainsModel" (⟨"AngleChainsModel", "rowFacts", "()V"⟩ : MethodName) (⟨"AngleChainsModel", "rowFacts", "()V"⟩ : MethodName) ∈ rx_all := rx_inS (i := 66) (q := ((⟨"AngleChainsModel", "rowFacts", "()V"⟩ : MethodName), 34)) (by decide +kernel)
set_option maxRecDepth 100000 in
theorem rxw_792 : (Jvm.Cond.instanceMethod ({ cls := "AngleChainsModel", name := "rowFacts", desc := "()V" } : Jvm.MethodName)) ∈ rx_all := rx_inT (i := 792) rfl rfl
set_option maxRecDepth 100000 in
theorem rxw_793 : (Jvm.Cond.code ({ cls := "AngleChainsModel", name := "rowFacts", desc := "()V" } : Jvm.MethodName) prog_7_method_54_code (3 : Nat) (Option.none : Option Jvm.ClassFile.FieldType)) ∈ rx_all := rx_inT (i := 793) rfl rfl
theorem rxs_67 : Cond.selects "AngleChainsModel" (⟨"AngleChainsModel", "rowOf", "(IIIIJ)V"⟩ : MethodName) (⟨"AngleChainsModel", "rowOf", "(IIIIJ)V"⟩ : MethodName) ∈ rx_all := rx_inS (i := 67) (q := ((⟨"AngleChainsModel", "rowOf", "(IIIIJ)V"⟩ : MethodName), 34)) (by decide +kernel)
set_option maxRecDepth 100000 in
theorem rxw_796 : (Jvm.Cond.instanceMethod ({ cls := "AngleChainsModel", name := "rowOf", desc := "(IIIIJ)V" } : Jvm.MethodName)) ∈ rx_all := rx_inT (i := 796) rfl rfl
set_option maxRecDepth 100000 in
theorem rxw_797 : (Jvm.Cond.code ({ cls := "AngleChainsModel", name := "rowOf", desc := "(IIIIJ)V" } : Jvm.MethodName) prog_7_method_41_code (7 : Nat) (Option.none : Option Jvm.ClassFile.FieldType)) ∈ rx_all := rx_inT (i := 797) rfl rfl
theorem rxs_68 : Cond.selects "AngleChainsModel" (⟨"AngleChainsModel", "put", "(IIJ)V"⟩ : MethodName) (⟨"AngleChainsModel", "put", "(IIJ)V"⟩ : MethodName) ∈ rx_all := rx_inS (i := 68) (q := ((⟨"AngleChainsModel", "put", "(IIJ)V"⟩ : MethodName), 34)) (by decide +kernel)
set_option maxRecDepth 100000 in
theorem rxw_800 : (Jvm.Cond.instanceMethod ({ cls := "AngleChainsModel", name := "put", desc := "(IIJ)V" } : Jvm.MethodName)) ∈ rx_all := rx_inT (i := 800) rfl rfl
set_option maxRecDepth 100000 in
theorem rxw_801 : (Jvm.Cond.code ({ cls := "AngleChainsModel", name := "put", desc := "(IIJ)V" } : Jvm.MethodName) prog_7_method_32_code (5 : Nat) (Option.none : Option Jvm.ClassFile.FieldType)) ∈ rx_all := rx_inT (i := 801) rfl rfl
theorem rxs_69 : Cond.selects "AngleChainsModel" (⟨"AngleChainsModel", "rowComes", "()V"⟩ : MethodName) (⟨"AngleChainsModel", "rowComes", "()V"⟩ : MethodName) ∈ rx_all := rx_inS (i := 69) (q := ((⟨"AngleChainsModel", "rowComes", "()V"⟩ : MethodName), 34)) (by decide +kernel)
set_option maxRecDepth 100000 in
theorem rxw_804 : (Jvm.Cond.instanceMethod ({ cls := "AngleChainsModel", name := "rowComes", desc := "()V" } : Jvm.MethodName)) ∈ rx_all := rx_inT (i := 804) rfl rfl
set_option maxRecDepth 100000 in
theorem rxw_805 : (Jvm.Cond.code ({ cls := "AngleChainsModel", name := "rowComes", desc := "()V" } : Jvm.MethodName) prog_7_method_33_code (1 : Nat) (Option.none : Option Jvm.ClassFile.FieldType)) ∈ rx_all := rx_inT (i := 805) rfl rfl
theorem rxs_70 : Cond.selects "AngleChainsModel" (⟨"AngleChainsModel", "numberAll", "()V"⟩ : MethodName) (⟨"AngleChainsModel", "numberAll", "()V"⟩ : MethodName) ∈ rx_all := rx_inS (i := 70) (q := ((⟨"AngleChainsModel", "numberAll", "()V"⟩ : MethodName), 34)) (by decide +kernel)
set_option maxRecDepth 100000 in
theorem rxw_808 : (Jvm.Cond.instanceMethod ({ cls := "AngleChainsModel", name := "numberAll", desc := "()V" } : Jvm.MethodName)) ∈ rx_all := rx_inT (i := 808) rfl rfl
set_option maxRecDepth 100000 in
theorem rxw_809 : (Jvm.Cond.code ({ cls := "AngleChainsModel", name := "numberAll", desc := "()V" } : Jvm.MethodName) prog_7_method_39_code (4 : Nat) (Option.none : Option Jvm.ClassFile.FieldType)) ∈ rx_all := rx_inT (i := 809) rfl rfl
theorem rxs_71 : Cond.selects "AngleChainsModel" (⟨"AngleChainsModel", "number", "()I"⟩ : MethodName) (⟨"AngleChainsModel", "number", "()I"⟩ : MethodName) ∈ rx_all := rx_inS (i := 71) (q := ((⟨"AngleChainsModel", "number", "()I"⟩ : MethodName), 34)) (by decide +kernel)
set_option maxRecDepth 100000 in
theorem rxw_812 : (Jvm.Cond.instanceMethod ({ cls := "AngleChainsModel", name := "number", desc := "()I" } : Jvm.MethodName)) ∈ rx_all := rx_inT (i := 812) rfl rfl
set_option maxRecDepth 100000 in
theorem rxw_813 : (Jvm.Cond.code ({ cls := "AngleChainsModel", name := "number", desc := "()I" } : Jvm.MethodName) prog_7_method_38_code (5 : Nat) (Option.some Jvm.ClassFile.FieldType.int)) ∈ rx_all := rx_inT (i := 813) rfl rfl
theorem rxs_72 : Cond.selects "AngleChainsModel" (⟨"AngleChainsModel", "isFound", "(I)Z"⟩ : MethodName) (⟨"AngleChainsModel", "isFound", "(I)Z"⟩ : MethodName) ∈ rx_all := rx_inS (i := 72) (q := ((⟨"AngleChainsModel", "isFound", "(I)Z"⟩ : MethodName), 34)) (by decide +kernel)
set_option maxRecDepth 100000 in
theorem rxw_819 : (Jvm.Cond.instanceMethod ({ cls := "AngleChainsModel", name := "isFound", desc := "(I)Z" } : Jvm.MethodName)) ∈ rx_all := rx_inT (i := 819) rfl rfl
set_option maxRecDepth 100000 in
theorem rxw_820 : (Jvm.Cond.code ({ cls := "AngleChainsModel", name := "isFound", desc := "(I)Z" } : Jvm.MethodName) prog_7_method_37_code (4 : Nat) (Option.some Jvm.ClassFile.FieldType.boolean)) ∈ rx_all := rx_inT (i := 820) rfl rfl
theorem rxs_73 : Cond.selects "AngleChainsModel" (⟨"AngleChainsModel", "ruleOne", "()V"⟩ : MethodName) (⟨"AngleChainsModel", "ruleOne", "()V"⟩ : MethodName) ∈ rx_all := rx_inS (i := 73) (q := ((⟨"AngleChainsModel", "ruleOne", "()V"⟩ : MethodName), 34)) (by decide +kernel)
set_option maxRecDepth 100000 in
theorem rxw_823 : (Jvm.Cond.instanceMethod ({ cls := "AngleChainsModel", name := "ruleOne", desc := "()V" } : Jvm.MethodName)) ∈ rx_all := rx_inT (i := 823) rfl rfl
set_option maxRecDepth 100000 in
theorem rxw_824 : (Jvm.Cond.code ({ cls := "AngleChainsModel", name := "ruleOne", desc := "()V" } : Jvm.MethodName) prog_7_method_42_code (4 : Nat) (Option.none : Option Jvm.ClassFile.FieldType)) ∈ rx_all := rx_inT (i := 824) rfl rfl
theorem rxs_74 : Cond.selects "AngleChainsModel" (⟨"AngleChainsModel", "turnOf", "(IIII)I"⟩ : MethodName) (⟨"AngleChainsModel", "turnOf", "(IIII)I"⟩ : MethodName) ∈ rx_all := rx_inS (i := 74) (q := ((⟨"AngleChainsModel", "turnOf", "(IIII)I"⟩ : MethodName), 34)) (by decide +kernel)
set_option maxRecDepth 100000 in
theorem rxw_827 : (Jvm.Cond.instanceMethod ({ cls := "AngleChainsModel", name := "turnOf", desc := "(IIII)I" } : Jvm.MethodName)) ∈ rx_all := rx_inT (i := 827) rfl rfl
set_option maxRecDepth 100000 in
theorem rxw_828 : (Jvm.Cond.code ({ cls := "AngleChainsModel", name := "turnOf", desc := "(IIII)I" } : Jvm.MethodName) prog_7_method_40_code (5 : Nat) (Option.some Jvm.ClassFile.FieldType.int)) ∈ rx_all := rx_inT (i := 828) rfl rfl
theorem rxs_75 : Cond.selects "AngleChainsModel" (⟨"AngleChainsModel", "threes", "()V"⟩ : MethodName) (⟨"AngleChainsModel", "threes", "()V"⟩ : MethodName) ∈ rx_all := rx_inS (i := 75) (q := ((⟨"AngleChainsModel", "threes", "()V"⟩ : MethodName), 34)) (by decide +kernel)
set_option maxRecDepth 100000 in
theorem rxw_831 : (Jvm.Cond.instanceMethod ({ cls := "AngleChainsModel", name := "threes", desc := "()V" } : Jvm.MethodName)) ∈ rx_all := rx_inT (i := 831) rfl rfl
set_option maxRecDepth 100000 in
theorem rxw_832 : (Jvm.Cond.code ({ cls := "AngleChainsModel", name := "threes", desc := "()V" } : Jvm.MethodName) prog_7_method_50_code (5 : Nat) (Option.none : Option Jvm.ClassFile.FieldType)) ∈ rx_all := rx_inT (i := 832) rfl rfl
theorem rxs_76 : Cond.selects "AngleChainsModel" (⟨"AngleChainsModel", "isEqual", "(IIII)Z"⟩ : MethodName) (⟨"AngleChainsModel", "isEqual", "(IIII)Z"⟩ : MethodName) ∈ rx_all := rx_inS (i := 76) (q := ((⟨"AngleChainsModel", "isEqual", "(IIII)Z"⟩ : MethodName), 34)) (by decide +kernel)
set_option maxRecDepth 100000 in
theorem rxw_835 : (Jvm.Cond.instanceMethod ({ cls := "AngleChainsModel", name := "isEqual", desc := "(IIII)Z" } : Jvm.MethodName)) ∈ rx_all := rx_inT (i := 835) rfl rfl
set_option maxRecDepth 100000 in
theorem rxw_836 : (Jvm.Cond.code ({ cls := "AngleChainsModel", name := "isEqual", desc := "(IIII)Z" } : Jvm.MethodName) prog_7_method_23_code (5 : Nat) (Option.some Jvm.ClassFile.FieldType.boolean)) ∈ rx_all := rx_inT (i := 836) rfl rfl
theorem rxs_77 : Cond.selects "AngleChainsModel" (⟨"AngleChainsModel", "fours", "()V"⟩ : MethodName) (⟨"AngleChainsModel", "fours", "()V"⟩ : MethodName) ∈ rx_all := rx_inS (i := 77) (q := ((⟨"AngleChainsModel", "fours", "()V"⟩ : MethodName), 34)) (by decide +kernel)
set_option maxRecDepth 100000 in
theorem rxw_840 : (Jvm.Cond.instanceMethod ({ cls := "AngleChainsModel", name := "fours", desc := "()V" } : Jvm.MethodName)) ∈ rx_all := rx_inT (i := 840) rfl rfl
set_option maxRecDepth 100000 in
theorem rxw_841 : (Jvm.Cond.code ({ cls := "AngleChainsModel", name := "fours", desc := "()V" } : Jvm.MethodName) prog_7_method_49_code (5 : Nat) (Option.none : Option Jvm.ClassFile.FieldType)) ∈ rx_all := rx_inT (i := 841) rfl rfl
theorem rxs_78 : Cond.selects "AngleChainsModel" (⟨"AngleChainsModel", "angles", "(IIII)V"⟩ : MethodName) (⟨"AngleChainsModel", "angles", "(IIII)V"⟩ : MethodName) ∈ rx_all := rx_inS (i := 78) (q := ((⟨"AngleChainsModel", "angles", "(IIII)V"⟩ : MethodName), 34)) (by decide +kernel)
set_option maxRecDepth 100000 in
theorem rxw_844 : (Jvm.Cond.instanceMethod ({ cls := "AngleChainsModel", name := "angles", desc := "(IIII)V" } : Jvm.MethodName)) ∈ rx_all := rx_inT (i := 844) rfl rfl
set_option maxRecDepth 100000 in
theorem rxw_845 : (Jvm.Cond.code ({ cls := "AngleChainsModel", name := "angles", desc := "(IIII)V" } : Jvm.MethodName) prog_7_method_43_code (5 : Nat) (Option.none : Option Jvm.ClassFile.FieldType)) ∈ rx_all := rx_inT (i := 845) rfl rfl
theorem rxs_79 : Cond.selects "AngleChainsModel" (⟨"AngleChainsModel", "parallels", "(IIII)V"⟩ : MethodName) (⟨"AngleChainsModel", "parallels", "(IIII)V"⟩ : MethodName) ∈ rx_all := rx_inS (i := 79) (q := ((⟨"AngleChainsModel", "parallels", "(IIII)V"⟩ : MethodName), 34)) (by decide +kernel)
set_option maxRecDepth 100000 in
theorem rxw_848 : (Jvm.Cond.instanceMethod ({ cls := "AngleChainsModel", name := "parallels", desc := "(IIII)V" } : Jvm.MethodName)) ∈ rx_all := rx_inT (i := 848) rfl rfl
set_option maxRecDepth 100000 in
theorem rxw_849 : (Jvm.Cond.code ({ cls := "AngleChainsModel", name := "parallels", desc := "(IIII)V" } : Jvm.MethodName) prog_7_method_44_code (5 : Nat) (Option.none : Option Jvm.ClassFile.FieldType)) ∈ rx_all := rx_inT (i := 849) rfl rfl
theorem rxs_80 : Cond.selects "AngleChainsModel" (⟨"AngleChainsModel", "perpendiculars", "(IIII)V"⟩ : MethodName) (⟨"AngleChainsModel", "perpendiculars", "(IIII)V"⟩ : MethodName) ∈ rx_all := rx_inS (i := 80) (q := ((⟨"AngleChainsModel", "perpendiculars", "(IIII)V"⟩ : MethodName), 34)) (by decide +kernel)
set_option maxRecDepth 100000 in
theorem rxw_852 : (Jvm.Cond.instanceMethod ({ cls := "AngleChainsModel", name := "perpendiculars", desc := "(IIII)V" } : Jvm.MethodName)) ∈ rx_all := rx_inT (i := 852) rfl rfl
set_option maxRecDepth 100000 in
theorem rxw_853 : (Jvm.Cond.code ({ cls := "AngleChainsModel", name := "perpendiculars", desc := "(IIII)V" } : Jvm.MethodName) prog_7_method_45_code (5 : Nat) (Option.none : Option Jvm.ClassFile.FieldType)) ∈ rx_all := rx_inT (i := 853) rfl rfl
theorem rxs_81 : Cond.selects "AngleChainsModel" (⟨"AngleChainsModel", "halves", "(IIII)V"⟩ : MethodName) (⟨"AngleChainsModel", "halves", "(IIII)V"⟩ : MethodName) ∈ rx_all := rx_inS (i := 81) (q := ((⟨"AngleChainsModel", "halves", "(IIII)V"⟩ : MethodName), 34)) (by decide +kernel)
set_option maxRecDepth 100000 in
theorem rxw_856 : (Jvm.Cond.instanceMethod ({ cls := "AngleChainsModel", name := "halves", desc := "(IIII)V" } : Jvm.MethodName)) ∈ rx_all := rx_inT (i := 856) rfl rfl
set_option maxRecDepth 100000 in
theorem rxw_857 : (Jvm.Cond.code ({ cls := "AngleChainsModel", name := "halves", desc := "(IIII)V" } : Jvm.MethodName) prog_7_method_46_code (5 : Nat) (Option.none : Option Jvm.ClassFile.FieldType)) ∈ rx_all := rx_inT (i := 857) rfl rfl
theorem rxs_82 : Cond.selects "AngleChainsModel" (⟨"AngleChainsModel", "middles", "(IIII)V"⟩ : MethodName) (⟨"AngleChainsModel", "middles", "(IIII)V"⟩ : MethodName) ∈ rx_all := rx_inS (i := 82) (q := ((⟨"AngleChainsModel", "middles", "(IIII)V"⟩ : MethodName), 34)) (by decide +kernel)
set_option maxRecDepth 100000 in
theorem rxw_860 : (Jvm.Cond.instanceMethod ({ cls := "AngleChainsModel", name := "middles", desc := "(IIII)V" } : Jvm.MethodName)) ∈ rx_all := rx_inT (i := 860) rfl rfl
set_option maxRecDepth 100000 in
theorem rxw_861 : (Jvm.Cond.code ({ cls := "AngleChainsModel", name := "middles", desc := "(IIII)V" } : Jvm.MethodName) prog_7_method_47_code (6 : Nat) (Option.none : Option Jvm.ClassFile.FieldType)) ∈ rx_all := rx_inT (i := 861) rfl rfl
theorem rxs_83 : Cond.selects "AngleChainsModel" (⟨"AngleChainsModel", "wheels", "(IIII)V"⟩ : MethodName) (⟨"AngleChainsModel", "wheels", "(IIII)V"⟩ : MethodName) ∈ rx_all := rx_inS (i := 83) (q := ((⟨"AngleChainsModel", "wheels", "(IIII)V"⟩ : MethodName), 34)) (by decide +kernel)
set_option maxRecDepth 100000 in
theorem rxw_864 : (Jvm.Cond.instanceMethod ({ cls := "AngleChainsModel", name := "wheels", desc := "(IIII)V" } : Jvm.MethodName)) ∈ rx_all := rx_inT (i := 864) rfl rfl
set_option maxRecDepth 100000 in
theorem rxw_865 : (Jvm.Cond.code ({ cls := "AngleChainsModel", name := "wheels", desc := "(IIII)V" } : Jvm.MethodName) prog_7_method_48_code (6 : Nat) (Option.none : Option Jvm.ClassFile.FieldType)) ∈ rx_all := rx_inT (i := 865) rfl rfl
theorem rxs_84 : Cond.selects "AngleChainsModel" (⟨"AngleChainsModel", "follow", "(I)Z"⟩ : MethodName) (⟨"AngleChainsModel", "follow", "(I)Z"⟩ : MethodName) ∈ rx_all := rx_inS (i := 84) (q := ((⟨"AngleChainsModel", "follow", "(I)Z"⟩ : MethodName), 34)) (by decide +kernel)
set_option maxRecDepth 100000 in
theorem rxw_868 : (Jvm.Cond.instanceMethod ({ cls := "AngleChainsModel", name := "follow", desc := "(I)Z" } : Jvm.MethodName)) ∈ rx_all := rx_inT (i := 868) rfl rfl
set_option maxRecDepth 100000 in
theorem rxw_869 : (Jvm.Cond.code ({ cls := "AngleChainsModel", name := "follow", desc := "(I)Z" } : Jvm.MethodName) prog_7_method_58_code (2 : Nat) (Option.some Jvm.ClassFile.FieldType.boolean)) ∈ rx_all := rx_inT (i := 869) rfl rfl
theorem rxs_85 : Cond.selects "AngleChainsModel" (⟨"AngleChainsModel", "rowFollows", "()Z"⟩ : MethodName) (⟨"AngleChainsModel", "rowFollows", "()Z"⟩ : MethodName) ∈ rx_all := rx_inS (i := 85) (q := ((⟨"AngleChainsModel", "rowFollows", "()Z"⟩ : MethodName), 34)) (by decide +kernel)
set_option maxRecDepth 100000 in
theorem rxw_872 : (Jvm.Cond.instanceMethod ({ cls := "AngleChainsModel", name := "rowFollows", desc := "()Z" } : Jvm.MethodName)) ∈ rx_all := rx_inT (i := 872) rfl rfl
set_option maxRecDepth 100000 in
theorem rxw_873 : (Jvm.Cond.code ({ cls := "AngleChainsModel", name := "rowFollows", desc := "()Z" } : Jvm.MethodName) prog_7_method_57_code (3 : Nat) (Option.some Jvm.ClassFile.FieldType.boolean)) ∈ rx_all := rx_inT (i := 873) rfl rfl
set_option maxRecDepth 100000 in
theorem rxw_876 : (Jvm.Cond.selects "AngleChainsModel" ({ cls := "AngleChainsModel", name := "needs", desc := "(I)I" } : Jvm.MethodName) ({ cls := "AngleChainsModel", name := "needs", desc := "(I)I" } : Jvm.MethodName)) ∈ rx_all := rx_inT (i := 876) rfl rfl
set_option maxRecDepth 100000 in
theorem rxw_875 : (Jvm.Cond.instanceMethod ({ cls := "AngleChainsModel", name := "needs", desc := "(I)I" } : Jvm.MethodName)) ∈ rx_all := rx_inT (i := 875) rfl rfl
set_option maxRecDepth 100000 in
theorem rxw_877 : (Jvm.Cond.code ({ cls := "AngleChainsModel", name := "needs", desc := "(I)I" } : Jvm.MethodName) prog_7_method_60_code (6 : Nat) (Option.some Jvm.ClassFile.FieldType.int)) ∈ rx_all := rx_inT (i := 877) rfl rfl
set_option maxRecDepth 100000 in
theorem rxw_880 : (Jvm.Cond.selects "AngleChainsModel" ({ cls := "AngleChainsModel", name := "need", desc := "(I)I" } : Jvm.MethodName) ({ cls := "AngleChainsModel", name := "need", desc := "(I)I" } : Jvm.MethodName)) ∈ rx_all := rx_inT (i := 880) rfl rfl
set_option maxRecDepth 100000 in
theorem rxw_879 : (Jvm.Cond.instanceMethod ({ cls := "AngleChainsModel", name := "need", desc := "(I)I" } : Jvm.MethodName)) ∈ rx_all := rx_inT (i := 879) rfl rfl
set_option maxRecDepth 100000 in
theorem rxw_881 : (Jvm.Cond.code ({ cls := "AngleChainsModel", name := "need", desc := "(I)I" } : Jvm.MethodName) prog_7_method_61_code (2 : Nat) (Option.some Jvm.ClassFile.FieldType.int)) ∈ rx_all := rx_inT (i := 881) rfl rfl
set_option maxRecDepth 100000 in
theorem rxw_884 : (Jvm.Cond.selects "AngleChainsModel" ({ cls := "AngleChainsModel", name := "line", desc := "(II)I" } : Jvm.MethodName) ({ cls := "AngleChainsModel", name := "line", desc := "(II)I" } : Jvm.MethodName)) ∈ rx_all := rx_inT (i := 884) rfl rfl
set_option maxRecDepth 100000 in
theorem rxw_883 : (Jvm.Cond.instanceMethod ({ cls := "AngleChainsModel", name := "line", desc := "(II)I" } : Jvm.MethodName)) ∈ rx_all := rx_inT (i := 883) rfl rfl
set_option maxRecDepth 100000 in
theorem rxw_885 : (Jvm.Cond.code ({ cls := "AngleChainsModel", name := "line", desc := "(II)I" } : Jvm.MethodName) prog_7_method_63_code (3 : Nat) (Option.some Jvm.ClassFile.FieldType.int)) ∈ rx_all := rx_inT (i := 885) rfl rfl
theorem rxs_86 : Cond.selects "AngleChainsModel" (⟨"AngleChainsModel", "noPoint", "(I)Z"⟩ : MethodName) (⟨"AngleChainsModel", "noPoint", "(I)Z"⟩ : MethodName) ∈ rx_all := rx_inS (i := 86) (q := ((⟨"AngleChainsModel", "noPoint", "(I)Z"⟩ : MethodName), 34)) (by decide +kernel)
set_option maxRecDepth 100000 in
theorem rxw_888 : (Jvm.Cond.instanceMethod ({ cls := "AngleChainsModel", name := "noPoint", desc := "(I)Z" } : Jvm.MethodName)) ∈ rx_all := rx_inT (i := 888) rfl rfl
set_option maxRecDepth 100000 in
theorem rxw_889 : (Jvm.Cond.code ({ cls := "AngleChainsModel", name := "noPoint", desc := "(I)Z" } : Jvm.MethodName) prog_7_method_62_code (2 : Nat) (Option.some Jvm.ClassFile.FieldType.boolean)) ∈ rx_all := rx_inT (i := 889) rfl rfl
set_option maxRecDepth 100000 in
theorem rxw_892 : (Jvm.Cond.selects "AngleChainsModel" ({ cls := "AngleChainsModel", name := "circle", desc := "(III)I" } : Jvm.MethodName) ({ cls := "AngleChainsModel", name := "circle", desc := "(III)I" } : Jvm.MethodName)) ∈ rx_all := rx_inT (i := 892) rfl rfl
set_option maxRecDepth 100000 in
theorem rxw_891 : (Jvm.Cond.instanceMethod ({ cls := "AngleChainsModel", name := "circle", desc := "(III)I" } : Jvm.MethodName)) ∈ rx_all := rx_inT (i := 891) rfl rfl
set_option maxRecDepth 100000 in
theorem rxw_893 : (Jvm.Cond.code ({ cls := "AngleChainsModel", name := "circle", desc := "(III)I" } : Jvm.MethodName) prog_7_method_64_code (4 : Nat) (Option.some Jvm.ClassFile.FieldType.int)) ∈ rx_all := rx_inT (i := 893) rfl rfl
set_option maxRecDepth 100000 in
theorem rxw_896 : (Jvm.Cond.selects "AngleChainsModel" ({ cls := "AngleChainsModel", name := "length", desc := "(II)I" } : Jvm.MethodName) ({ cls := "AngleChainsModel", name := "length", desc := "(II)I" } : Jvm.MethodName)) ∈ rx_all := rx_inT (i := 896) rfl rfl
set_option maxRecDepth 100000 in
theorem rxw_895 : (Jvm.Cond.instanceMethod ({ cls := "AngleChainsModel", name := "length", desc := "(II)I" } : Jvm.MethodName)) ∈ rx_all := rx_inT (i := 895) rfl rfl
set_option maxRecDepth 100000 in
theorem rxw_897 : (Jvm.Cond.code ({ cls := "AngleChainsModel", name := "length", desc := "(II)I" } : Jvm.MethodName) prog_7_method_65_code (3 : Nat) (Option.some Jvm.ClassFile.FieldType.int)) ∈ rx_all := rx_inT (i := 897) rfl rfl
set_option maxRecDepth 100000 in
theorem rxw_900 : (Jvm.Cond.selects "AngleChainsModel" ({ cls := "AngleChainsModel", name := "told", desc := "(I)I" } : Jvm.MethodName) ({ cls := "AngleChainsModel", name := "told", desc := "(I)I" } : Jvm.MethodName)) ∈ rx_all := rx_inT (i := 900) rfl rfl
set_option maxRecDepth 100000 in
theorem rxw_899 : (Jvm.Cond.instanceMethod ({ cls := "AngleChainsModel", name := "told", desc := "(I)I" } : Jvm.MethodName)) ∈ rx_all := rx_inT (i := 899) rfl rfl
set_option maxRecDepth 100000 in
theorem rxw_901 : (Jvm.Cond.code ({ cls := "AngleChainsModel", name := "told", desc := "(I)I" } : Jvm.MethodName) prog_7_method_69_code (5 : Nat) (Option.some Jvm.ClassFile.FieldType.int)) ∈ rx_all := rx_inT (i := 901) rfl rfl
theorem rxs_87 : Cond.selects "AngleChainsModel" (⟨"AngleChainsModel", "circles", "()I"⟩ : MethodName) (⟨"AngleChainsModel", "circles", "()I"⟩ : MethodName) ∈ rx_all := rx_inS (i := 87) (q := ((⟨"AngleChainsModel", "circles", "()I"⟩ : MethodName), 34)) (by decide +kernel)
set_option maxRecDepth 100000 in
theorem rxw_904 : (Jvm.Cond.instanceMethod ({ cls := "AngleChainsModel", name := "circles", desc := "()I" } : Jvm.MethodName)) ∈ rx_all := rx_inT (i := 904) rfl rfl
set_option maxRecDepth 100000 in
theorem rxw_905 : (Jvm.Cond.code ({ cls := "AngleChainsModel", name := "circles", desc := "()I" } : Jvm.MethodName) prog_7_method_67_code (8 : Nat) (Option.some Jvm.ClassFile.FieldType.int)) ∈ rx_all := rx_inT (i := 905) rfl rfl
set_option maxRecDepth 100000 in
theorem rxw_907 : (Jvm.Cond.static ({ cls := "AngleChainsModel", name := "many", desc := "(I)I" } : Jvm.MethodName)) ∈ rx_all := rx_inT (i := 907) rfl rfl
set_option maxRecDepth 100000 in
theorem rxw_908 : (Jvm.Cond.code ({ cls := "AngleChainsModel", name := "many", desc := "(I)I" } : Jvm.MethodName) prog_7_method_66_code (3 : Nat) (Option.some Jvm.ClassFile.FieldType.int)) ∈ rx_all := rx_inT (i := 908) rfl rfl
theorem rxs_88 : Cond.selects "AngleChainsModel" (⟨"AngleChainsModel", "lengths", "()I"⟩ : MethodName) (⟨"AngleChainsModel", "lengths", "()I"⟩ : MethodName) ∈ rx_all := rx_inS (i := 88) (q := ((⟨"AngleChainsModel", "lengths", "()I"⟩ : MethodName), 34)) (by decide +kernel)
set_option maxRecDepth 100000 in
theorem rxw_911 : (Jvm.Cond.instanceMethod ({ cls := "AngleChainsModel", name := "lengths", desc := "()I" } : Jvm.MethodName)) ∈ rx_all := rx_inT (i := 911) rfl rfl
set_option maxRecDepth 100000 in
theorem rxw_912 : (Jvm.Cond.code ({ cls := "AngleChainsModel", name := "lengths", desc := "()I" } : Jvm.MethodName) prog_7_method_68_code (4 : Nat) (Option.some Jvm.ClassFile.FieldType.int)) ∈ rx_all := rx_inT (i := 912) rfl rfl
set_option maxRecDepth 100000 in
theorem rxw_11 : (Jvm.Cond.classLink "AngleChainsLaw" (7 : Nat) "AngleChains") ∈ rx_all := rx_inT (i := 11) rfl rfl
set_option maxRecDepth 100000 in
theorem rxw_13 : (Jvm.Cond.methodLink "AngleChainsLaw" (9 : Nat) ({ cls := "AngleChains", name := "<init>", desc := "()V" } : Jvm.MethodName)) ∈ rx_all := rx_inT (i := 13) rfl rfl
set_option maxRecDepth 100000 in
theorem rxw_19 : (Jvm.Cond.classLink "AngleChains" (7 : Nat) "AngleChains$Figure") ∈ rx_all := rx_inT (i := 19) rfl rfl
set_option maxRecDepth 100000 in
theorem rxn_21 : (Jvm.Cond.methodLinkNest "AngleChains" (9 : Nat) ({ cls := "AngleChains$Figure", name := "<init>", desc := "()V" } : Jvm.MethodName) "AngleChains") ∈ rx_nst := rx_inN (i := 21) rfl rfl
set_option maxRecDepth 100000 in
theorem rxw_25 : (Jvm.Cond.fieldLink "AngleChains$Figure" (9 : Nat) "AngleChains$Figure" "xs" "[I") ∈ rx_all := rx_inT (i := 25) rfl rfl
set_option maxRecDepth 100000 in
theorem rxw_26 : (Jvm.Cond.fieldLink "AngleChains$Figure" (15 : Nat) "AngleChains$Figure" "ys" "[I") ∈ rx_all := rx_inT (i := 26) rfl rfl
set_option maxRecDepth 100000 in
theorem rxw_27 : (Jvm.Cond.fieldLink "AngleChains$Figure" (18 : Nat) "AngleChains$Figure" "size" "I") ∈ rx_all := rx_inT (i := 27) rfl rfl
set_option maxRecDepth 100000 in
theorem rxn_28 : (Jvm.Cond.fieldLinkNest "AngleChains$Deduction" (54 : Nat) "AngleChains$Figure" "size" "I" "AngleChains") ∈ rx_nst := rx_inN (i := 28) rfl rfl
set_option maxRecDepth 100000 in
theorem rxn_29 : (Jvm.Cond.fieldLinkNest "AngleChains$Cases" (23 : Nat) "AngleChains$Figure" "size" "I" "AngleChains") ∈ rx_nst := rx_inN (i := 29) rfl rfl
set_option maxRecDepth 100000 in
theorem rxn_30 : (Jvm.Cond.fieldLinkNest "AngleChains" (90 : Nat) "AngleChains$Figure" "size" "I" "AngleChains") ∈ rx_nst := rx_inN (i := 30) rfl rfl
set_option maxRecDepth 100000 in
theorem rxw_39 : (Jvm.Cond.classLink "AngleChains" (20 : Nat) "AngleChains$Deduction") ∈ rx_all := rx_inT (i := 39) rfl rfl
set_option maxRecDepth 100000 in
theorem rxw_41 : (Jvm.Cond.methodLink "AngleChains" (22 : Nat) ({ cls := "AngleChains$Deduction", name := "<init>", desc := "(LAngleChains$Figure;[I)V" } : Jvm.MethodName)) ∈ rx_all := rx_inT (i := 41) rfl rfl
set_option maxRecDepth 100000 in
theorem rxw_45 : (Jvm.Cond.classLink "AngleChains$Deduction" (9 : Nat) "AngleChains$Rows") ∈ rx_all := rx_inT (i := 45) rfl rfl
set_option maxRecDepth 100000 in
theorem rxn_47 : (Jvm.Cond.methodLinkNest "AngleChains$Deduction" (11 : Nat) ({ cls := "AngleChains$Rows", name := "<init>", desc := "()V" } : Jvm.MethodName) "AngleChains") ∈ rx_nst := rx_inN (i := 47) rfl rfl
set_option maxRecDepth 100000 in
theorem rxw_53 : (Jvm.Cond.fieldLink "AngleChains$Rows" (11 : Nat) "AngleChains$Rows" "basis" "[[J") ∈ rx_all := rx_inT (i := 53) rfl rfl
set_option maxRecDepth 100000 in
theorem rxw_54 : (Jvm.Cond.fieldLink "AngleChains$Rows" (16 : Nat) "AngleChains$Rows" "row" "[J") ∈ rx_all := rx_inT (i := 54) rfl rfl
set_option maxRecDepth 100000 in
theorem rxw_55 : (Jvm.Cond.fieldLink "AngleChains$Rows" (20 : Nat) "AngleChains$Rows" "rank" "I") ∈ rx_all := rx_inT (i := 55) rfl rfl
set_option maxRecDepth 100000 in
theorem rxn_56 : (Jvm.Cond.fieldLinkNest "AngleChains$Deduction" (237 : Nat) "AngleChains$Rows" "rank" "I" "AngleChains") ∈ rx_nst := rx_inN (i := 56) rfl rfl
set_option maxRecDepth 100000 in
theorem rxn_57 : (Jvm.Cond.fieldLinkNest "AngleChains$Deduction" (76 : Nat) "AngleChains$Rows" "hasGrown" "Z" "AngleChains") ∈ rx_nst := rx_inN (i := 57) rfl rfl
set_option maxRecDepth 100000 in
theorem rxw_58 : (Jvm.Cond.fieldLink "AngleChains$Rows" (42 : Nat) "AngleChains$Rows" "hasGrown" "Z") ∈ rx_all := rx_inT (i := 58) rfl rfl
set_option maxRecDepth 100000 in
theorem rxw_69 : (Jvm.Cond.classLink "AngleChains$Deduction" (31 : Nat) "AngleChains$Cases") ∈ rx_all := rx_inT (i := 69) rfl rfl
set_option maxRecDepth 100000 in
theorem rxw_71 : (Jvm.Cond.methodLink "AngleChains$Deduction" (47 : Nat) ({ cls := "AngleChains$Cases", name := "<init>", desc := "(LAngleChains$Figure;)V" } : Jvm.MethodName)) ∈ rx_all := rx_inT (i := 71) rfl rfl
set_option maxRecDepth 100000 in
theorem rxw_75 : (Jvm.Cond.fieldLink "AngleChains$Cases" (15 : Nat) "AngleChains$Cases" "figure" "LAngleChains$Figure;") ∈ rx_all := rx_inT (i := 75) rfl rfl
set_option maxRecDepth 100000 in
theorem rxw_76 : (Jvm.Cond.fieldLink "AngleChains$Cases" (11 : Nat) "AngleChains$Cases" "packed" "[I") ∈ rx_all := rx_inT (i := 76) rfl rfl
set_option maxRecDepth 100000 in
theorem rxn_77 : (Jvm.Cond.fieldLinkNest "AngleChains$Deduction" (101 : Nat) "AngleChains$Cases" "packed" "[I" "AngleChains") ∈ rx_nst := rx_inN (i := 77) rfl rfl
set_option maxRecDepth 100000 in
theorem rxw_78 : (Jvm.Cond.fieldLink "AngleChains$Cases" (19 : Nat) "AngleChains$Cases" "count" "I") ∈ rx_all := rx_inT (i := 78) rfl rfl
set_option maxRecDepth 100000 in
theorem rxn_79 : (Jvm.Cond.fieldLinkNest "AngleChains$Deduction" (98 : Nat) "AngleChains$Cases" "count" "I" "AngleChains") ∈ rx_nst := rx_inN (i := 79) rfl rfl
set_option maxRecDepth 100000 in
theorem rxw_87 : (Jvm.Cond.fieldLink "AngleChains$Deduction" (40 : Nat) "AngleChains$Deduction" "figure" "LAngleChains$Figure;") ∈ rx_all := rx_inT (i := 87) rfl rfl
set_option maxRecDepth 100000 in
theorem rxw_88 : (Jvm.Cond.fieldLink "AngleChains$Deduction" (44 : Nat) "AngleChains$Deduction" "hypotheses" "[I") ∈ rx_all := rx_inT (i := 88) rfl rfl
set_option maxRecDepth 100000 in
theorem rxw_89 : (Jvm.Cond.fieldLink "AngleChains$Deduction" (50 : Nat) "AngleChains$Deduction" "cases" "LAngleChains$Cases;") ∈ rx_all := rx_inT (i := 89) rfl rfl
set_option maxRecDepth 100000 in
theorem rxw_90 : (Jvm.Cond.fieldLink "AngleChains$Deduction" (12 : Nat) "AngleChains$Deduction" "rows" "LAngleChains$Rows;") ∈ rx_all := rx_inT (i := 90) rfl rfl
set_option maxRecDepth 100000 in
theorem rxw_91 : (Jvm.Cond.fieldLink "AngleChains$Deduction" (18 : Nat) "AngleChains$Deduction" "lineOf" "[I") ∈ rx_all := rx_inT (i := 91) rfl rfl
set_option maxRecDepth 100000 in
theorem rxw_92 : (Jvm.Cond.fieldLink "AngleChains$Deduction" (22 : Nat) "AngleChains$Deduction" "columnOf" "[I") ∈ rx_all := rx_inT (i := 92) rfl rfl
set_option maxRecDepth 100000 in
theorem rxw_93 : (Jvm.Cond.fieldLink "AngleChains$Deduction" (25 : Nat) "AngleChains$Deduction" "lengthOf" "[I") ∈ rx_all := rx_inT (i := 93) rfl rfl
set_option maxRecDepth 100000 in
theorem rxw_94 : (Jvm.Cond.fieldLink "AngleChains$Deduction" (28 : Nat) "AngleChains$Deduction" "circleOf" "[I") ∈ rx_all := rx_inT (i := 94) rfl rfl
set_option maxRecDepth 100000 in
theorem rxw_95 : (Jvm.Cond.fieldLink "AngleChains$Deduction" (33 : Nat) "AngleChains$Deduction" "open" "[I") ∈ rx_all := rx_inT (i := 95) rfl rfl
set_option maxRecDepth 100000 in
theorem rxw_96 : (Jvm.Cond.fieldLink "AngleChains$Deduction" (79 : Nat) "AngleChains$Deduction" "openCount" "I") ∈ rx_all := rx_inT (i := 96) rfl rfl
set_option maxRecDepth 100000 in
theorem rxw_97 : (Jvm.Cond.fieldLink "AngleChains$Deduction" (72 : Nat) "AngleChains$Deduction" "hasJoined" "Z") ∈ rx_all := rx_inT (i := 97) rfl rfl
set_option maxRecDepth 100000 in
theorem rxw_98 : (Jvm.Cond.fieldLink "AngleChains$Deduction" (36 : Nat) "AngleChains$Deduction" "closedSize" "I") ∈ rx_all := rx_inT (i := 98) rfl rfl
set_option maxRecDepth 100000 in
theorem rxw_99 : (Jvm.Cond.fieldLink "AngleChains$Deduction" (65 : Nat) "AngleChains$Deduction" "closedBits" "I") ∈ rx_all := rx_inT (i := 99) rfl rfl
set_option maxRecDepth 100000 in
theorem rxw_127 : (Jvm.Cond.fieldLink "AngleChains" (10 : Nat) "AngleChains" "figure" "LAngleChains$Figure;") ∈ rx_all := rx_inT (i := 127) rfl rfl
set_option maxRecDepth 100000 in
theorem rxw_128 : (Jvm.Cond.fieldLink "AngleChains" (16 : Nat) "AngleChains" "hypotheses" "[I") ∈ rx_all := rx_inT (i := 128) rfl rfl
set_option maxRecDepth 100000 in
theorem rxw_129 : (Jvm.Cond.fieldLink "AngleChains" (25 : Nat) "AngleChains" "deduction" "LAngleChains$Deduction;") ∈ rx_all := rx_inT (i := 129) rfl rfl
set_option maxRecDepth 100000 in
theorem rxw_130 : (Jvm.Cond.fieldLink "AngleChains" (29 : Nat) "AngleChains" "hypothesisCount" "I") ∈ rx_all := rx_inT (i := 130) rfl rfl
set_option maxRecDepth 100000 in
theorem rxw_131 : (Jvm.Cond.fieldLink "AngleChains" (58 : Nat) "AngleChains" "onBits" "I") ∈ rx_all := rx_inT (i := 131) rfl rfl
set_option maxRecDepth 100000 in
theorem rxw_132 : (Jvm.Cond.fieldLink "AngleChains" (68 : Nat) "AngleChains" "leftBits" "I") ∈ rx_all := rx_inT (i := 132) rfl rfl
set_option maxRecDepth 100000 in
theorem rxw_133 : (Jvm.Cond.fieldLink "AngleChains" (48 : Nat) "AngleChains" "draft" "I") ∈ rx_all := rx_inT (i := 133) rfl rfl
set_option maxRecDepth 100000 in
theorem rxw_134 : (Jvm.Cond.fieldLink "AngleChains" (45 : Nat) "AngleChains" "draftCount" "I") ∈ rx_all := rx_inT (i := 134) rfl rfl
set_option maxRecDepth 100000 in
theorem rxw_152 : (Jvm.Cond.methodLink "AngleChainsLaw" (13 : Nat) ({ cls := "AngleChains", name := "point", desc := "(II)I" } : Jvm.MethodName)) ∈ rx_all := rx_inT (i := 152) rfl rfl
set_option maxRecDepth 100000 in
theorem rxw_156 : (Jvm.Cond.methodLink "AngleChains" (33 : Nat) ({ cls := "AngleChains$Figure", name := "hasRoomAt", desc := "(II)Z" } : Jvm.MethodName)) ∈ rx_all := rx_inT (i := 156) rfl rfl
set_option maxRecDepth 100000 in
theorem rxw_160 : (Jvm.Cond.methodLink "AngleChains$Figure" (22 : Nat) ({ cls := "AngleChains$Figure", name := "isCoordinate", desc := "(I)Z" } : Jvm.MethodName)) ∈ rx_all := rx_inT (i := 160) rfl rfl
set_option maxRecDepth 100000 in
theorem rxw_163 : (Jvm.Cond.methodLink "AngleChains" (37 : Nat) ({ cls := "AngleChains$Figure", name := "place", desc := "(II)I" } : Jvm.MethodName)) ∈ rx_all := rx_inT (i := 163) rfl rfl
set_option maxRecDepth 100000 in
theorem rxw_167 : (Jvm.Cond.methodLink "AngleChainsLaw" (18 : Nat) ({ cls := "AngleChains", name := "of", desc := "(I)I" } : Jvm.MethodName)) ∈ rx_all := rx_inT (i := 167) rfl rfl
set_option maxRecDepth 100000 in
theorem rxw_171 : (Jvm.Cond.methodLink "AngleChains" (41 : Nat) ({ cls := "AngleChains$Figure", name := "has", desc := "(I)Z" } : Jvm.MethodName)) ∈ rx_all := rx_inT (i := 171) rfl rfl
set_option maxRecDepth 100000 in
theorem rxw_175 : (Jvm.Cond.methodLink "AngleChainsLaw" (23 : Nat) ({ cls := "AngleChains", name := "isTrue", desc := "(I)I" } : Jvm.MethodName)) ∈ rx_all := rx_inT (i := 175) rfl rfl
set_option maxRecDepth 100000 in
theorem rxw_179 : (Jvm.Cond.methodLink "AngleChains" (51 : Nat) ({ cls := "AngleChains", name := "takeDraft", desc := "(I)I" } : Jvm.MethodName)) ∈ rx_all := rx_inT (i := 179) rfl rfl
set_option maxRecDepth 100000 in
theorem rxw_183 : (Jvm.Cond.fieldLink "AngleChains" (106 : Nat) "AngleChains" "POINTS_OF_KIND" "[I") ∈ rx_all := rx_inT (i := 183) rfl rfl
set_option maxRecDepth 100000 in
theorem rxw_185 : (Jvm.Cond.methodLink "AngleChains" (109 : Nat) ({ cls := "AngleChains", name := "bitsOf", desc := "(II)I" } : Jvm.MethodName)) ∈ rx_all := rx_inT (i := 185) rfl rfl
set_option maxRecDepth 100000 in
theorem rxw_188 : (Jvm.Cond.methodLink "AngleChains" (115 : Nat) ({ cls := "AngleChains", name := "at", desc := "(II)I" } : Jvm.MethodName)) ∈ rx_all := rx_inT (i := 188) rfl rfl
set_option maxRecDepth 100000 in
theorem rxw_191 : (Jvm.Cond.methodLink "AngleChains" (71 : Nat) ({ cls := "java/lang/Integer", name := "bitCount", desc := "(I)I" } : Jvm.MethodName)) ∈ rx_all := rx_inT (i := 191) rfl rfl
set_option maxRecDepth 100000 in
theorem rxw_194 : (Jvm.Cond.constant "java/lang/Integer" (265 : Nat) (1431655765 : Int32)) ∈ rx_all := rx_inT (i := 194) rfl rfl
set_option maxRecDepth 100000 in
theorem rxw_195 : (Jvm.Cond.constant "java/lang/Integer" (266 : Nat) (858993459 : Int32)) ∈ rx_all := rx_inT (i := 195) rfl rfl
set_option maxRecDepth 100000 in
theorem rxw_196 : (Jvm.Cond.constant "java/lang/Integer" (267 : Nat) (252645135 : Int32)) ∈ rx_all := rx_inT (i := 196) rfl rfl
set_option maxRecDepth 100000 in
theorem rxw_197 : (Jvm.Cond.methodLink "AngleChains" (112 : Nat) ({ cls := "AngleChains", name := "hasPairsOfTwo", desc := "(II)Z" } : Jvm.MethodName)) ∈ rx_all := rx_inT (i := 197) rfl rfl
set_option maxRecDepth 100000 in
theorem rxw_200 : (Jvm.Cond.methodLink "AngleChains" (55 : Nat) ({ cls := "AngleChains$Figure", name := "holds", desc := "(I)Z" } : Jvm.MethodName)) ∈ rx_all := rx_inT (i := 200) rfl rfl
set_option maxRecDepth 100000 in
theorem rxn_204 : (Jvm.Cond.methodLinkNest "AngleChains$Figure" (40 : Nat) ({ cls := "AngleChains", name := "at", desc := "(II)I" } : Jvm.MethodName) "AngleChains") ∈ rx_nst := rx_inN (i := 204) rfl rfl
set_option maxRecDepth 100000 in
theorem rxn_205 : (Jvm.Cond.methodLinkNest "AngleChains$Figure" (44 : Nat) ({ cls := "AngleChains", name := "kindOf", desc := "(I)I" } : Jvm.MethodName) "AngleChains") ∈ rx_nst := rx_inN (i := 205) rfl rfl
set_option maxRecDepth 100000 in
theorem rxw_208 : (Jvm.Cond.methodLink "AngleChains$Figure" (37 : Nat) ({ cls := "AngleChains$Figure", name := "areCollinear", desc := "(III)Z" } : Jvm.MethodName)) ∈ rx_all := rx_inT (i := 208) rfl rfl
set_option maxRecDepth 100000 in
theorem rxw_212 : (Jvm.Cond.methodLink "AngleChains$Figure" (26 : Nat) ({ cls := "AngleChains$Figure", name := "cross", desc := "(IIII)J" } : Jvm.MethodName)) ∈ rx_all := rx_inT (i := 212) rfl rfl
set_option maxRecDepth 100000 in
theorem rxw_216 : (Jvm.Cond.methodLink "AngleChains$Figure" (30 : Nat) ({ cls := "AngleChains$Figure", name := "dot", desc := "(IIII)J" } : Jvm.MethodName)) ∈ rx_all := rx_inT (i := 216) rfl rfl
set_option maxRecDepth 100000 in
theorem rxw_220 : (Jvm.Cond.methodLink "AngleChains$Figure" (48 : Nat) ({ cls := "AngleChains$Figure", name := "areOnCircle", desc := "(IIII)Z" } : Jvm.MethodName)) ∈ rx_all := rx_inT (i := 220) rfl rfl
set_option maxRecDepth 100000 in
theorem rxw_224 : (Jvm.Cond.methodLink "AngleChains$Figure" (52 : Nat) ({ cls := "AngleChains$Figure", name := "areEqual", desc := "(IIII)Z" } : Jvm.MethodName)) ∈ rx_all := rx_inT (i := 224) rfl rfl
set_option maxRecDepth 100000 in
theorem rxw_228 : (Jvm.Cond.methodLink "AngleChains$Figure" (33 : Nat) ({ cls := "AngleChains$Figure", name := "isMiddle", desc := "(III)Z" } : Jvm.MethodName)) ∈ rx_all := rx_inT (i := 228) rfl rfl
set_option maxRecDepth 100000 in
theorem rxw_232 : (Jvm.Cond.methodLink "AngleChains$Figure" (55 : Nat) ({ cls := "AngleChains$Figure", name := "hasLikeTurns", desc := "(I)Z" } : Jvm.MethodName)) ∈ rx_all := rx_inT (i := 232) rfl rfl
set_option maxRecDepth 100000 in
theorem rxw_236 : (Jvm.Cond.methodLink "AngleChainsLaw" (27 : Nat) ({ cls := "AngleChains", name := "fact", desc := "(I)I" } : Jvm.MethodName)) ∈ rx_all := rx_inT (i := 236) rfl rfl
set_option maxRecDepth 100000 in
theorem rxw_240 : (Jvm.Cond.methodLink "AngleChainsLaw" (31 : Nat) ({ cls := "AngleChains", name := "turn", desc := "(IZ)Z" } : Jvm.MethodName)) ∈ rx_all := rx_inT (i := 240) rfl rfl
set_option maxRecDepth 100000 in
theorem rxw_244 : (Jvm.Cond.methodLink "AngleChainsLaw" (36 : Nat) ({ cls := "AngleChains", name := "follows", desc := "(I)I" } : Jvm.MethodName)) ∈ rx_all := rx_inT (i := 244) rfl rfl
set_option maxRecDepth 100000 in
theorem rxw_248 : (Jvm.Cond.methodLink "AngleChains" (61 : Nat) ({ cls := "AngleChains$Deduction", name := "close", desc := "(I)V" } : Jvm.MethodName)) ∈ rx_all := rx_inT (i := 248) rfl rfl
set_option maxRecDepth 100000 in
theorem rxw_252 : (Jvm.Cond.methodLink "AngleChains$Deduction" (59 : Nat) ({ cls := "AngleChains$Cases", name := "find", desc := "()V" } : Jvm.MethodName)) ∈ rx_all := rx_inT (i := 252) rfl rfl
set_option maxRecDepth 100000 in
theorem rxw_256 : (Jvm.Cond.methodLink "AngleChains$Cases" (28 : Nat) ({ cls := "AngleChains$Cases", name := "findBisectors", desc := "(II)V" } : Jvm.MethodName)) ∈ rx_all := rx_inT (i := 256) rfl rfl
set_option maxRecDepth 100000 in
theorem rxw_260 : (Jvm.Cond.methodLink "AngleChains$Cases" (51 : Nat) ({ cls := "AngleChains$Figure", name := "areEqual", desc := "(IIII)Z" } : Jvm.MethodName)) ∈ rx_all := rx_inT (i := 260) rfl rfl
set_option maxRecDepth 100000 in
theorem rxw_261 : (Jvm.Cond.methodLink "AngleChains$Cases" (44 : Nat) ({ cls := "AngleChains$Cases", name := "add", desc := "(IIIIII)V" } : Jvm.MethodName)) ∈ rx_all := rx_inT (i := 261) rfl rfl
set_option maxRecDepth 100000 in
theorem rxw_265 : (Jvm.Cond.methodLink "AngleChains$Cases" (32 : Nat) ({ cls := "AngleChains$Cases", name := "findOfThree", desc := "(III)V" } : Jvm.MethodName)) ∈ rx_all := rx_inT (i := 265) rfl rfl
set_option maxRecDepth 100000 in
theorem rxw_269 : (Jvm.Cond.methodLink "AngleChains$Cases" (40 : Nat) ({ cls := "AngleChains$Figure", name := "areCollinear", desc := "(III)Z" } : Jvm.MethodName)) ∈ rx_all := rx_inT (i := 269) rfl rfl
set_option maxRecDepth 100000 in
theorem rxw_270 : (Jvm.Cond.methodLink "AngleChains$Cases" (48 : Nat) ({ cls := "AngleChains$Cases", name := "findAtCorner", desc := "(III)V" } : Jvm.MethodName)) ∈ rx_all := rx_inT (i := 270) rfl rfl
set_option maxRecDepth 100000 in
theorem rxw_274 : (Jvm.Cond.methodLink "AngleChains$Cases" (55 : Nat) ({ cls := "AngleChains$Figure", name := "middleOf", desc := "(II)I" } : Jvm.MethodName)) ∈ rx_all := rx_inT (i := 274) rfl rfl
set_option maxRecDepth 100000 in
theorem rxw_278 : (Jvm.Cond.methodLink "AngleChains$Cases" (36 : Nat) ({ cls := "AngleChains$Cases", name := "findOfFour", desc := "(IIII)V" } : Jvm.MethodName)) ∈ rx_all := rx_inT (i := 278) rfl rfl
set_option maxRecDepth 100000 in
theorem rxw_282 : (Jvm.Cond.methodLink "AngleChains$Cases" (59 : Nat) ({ cls := "AngleChains$Figure", name := "areOnCircle", desc := "(IIII)Z" } : Jvm.MethodName)) ∈ rx_all := rx_inT (i := 282) rfl rfl
set_option maxRecDepth 100000 in
theorem rxw_283 : (Jvm.Cond.methodLink "AngleChains$Cases" (62 : Nat) ({ cls := "AngleChains$Cases", name := "findCentre", desc := "(IIII)V" } : Jvm.MethodName)) ∈ rx_all := rx_inT (i := 283) rfl rfl
set_option maxRecDepth 100000 in
theorem rxw_287 : (Jvm.Cond.methodLink "AngleChains$Cases" (65 : Nat) ({ cls := "AngleChains$Cases", name := "findParallelogram", desc := "(IIII)V" } : Jvm.MethodName)) ∈ rx_all := rx_inT (i := 287) rfl rfl
set_option maxRecDepth 100000 in
theorem rxw_291 : (Jvm.Cond.methodLink "AngleChains$Cases" (68 : Nat) ({ cls := "AngleChains$Figure", name := "isParallelogram", desc := "(IIII)Z" } : Jvm.MethodName)) ∈ rx_all := rx_inT (i := 291) rfl rfl
set_option maxRecDepth 100000 in
theorem rxw_295 : (Jvm.Cond.methodLink "AngleChains$Deduction" (62 : Nat) ({ cls := "AngleChains$Deduction", name := "start", desc := "()V" } : Jvm.MethodName)) ∈ rx_all := rx_inT (i := 295) rfl rfl
set_option maxRecDepth 100000 in
theorem rxw_299 : (Jvm.Cond.methodLink "AngleChains$Deduction" (86 : Nat) ({ cls := "AngleChains$Rows", name := "clear", desc := "()V" } : Jvm.MethodName)) ∈ rx_all := rx_inT (i := 299) rfl rfl
set_option maxRecDepth 100000 in
theorem rxw_303 : (Jvm.Cond.methodLink "AngleChains$Rows" (24 : Nat) ({ cls := "java/util/Arrays", name := "fill", desc := "([JJ)V" } : Jvm.MethodName)) ∈ rx_all := rx_inT (i := 303) rfl rfl
set_option maxRecDepth 100000 in
theorem rxn_306 : (Jvm.Cond.fieldLinkNest "AngleChains$Deduction" (89 : Nat) "AngleChains" "PAIR_BITS" "[I" "AngleChains") ∈ rx_nst := rx_inN (i := 306) rfl rfl
set_option maxRecDepth 100000 in
theorem rxn_308 : (Jvm.Cond.fieldLinkNest "AngleChains$Deduction" (92 : Nat) "AngleChains" "TRIPLES" "[I" "AngleChains") ∈ rx_nst := rx_inN (i := 308) rfl rfl
set_option maxRecDepth 100000 in
theorem rxw_310 : (Jvm.Cond.methodLink "AngleChains$Deduction" (95 : Nat) ({ cls := "AngleChains$Deduction", name := "isProper", desc := "(I)Z" } : Jvm.MethodName)) ∈ rx_all := rx_inT (i := 310) rfl rfl
set_option maxRecDepth 100000 in
theorem rxw_314 : (Jvm.Cond.methodLink "AngleChains$Deduction" (110 : Nat) ({ cls := "java/lang/Integer", name := "numberOfTrailingZeros", desc := "(I)I" } : Jvm.MethodName)) ∈ rx_all := rx_inT (i := 314) rfl rfl
set_option maxRecDepth 100000 in
theorem rxw_317 : (Jvm.Cond.constant "java/lang/Integer" (264 : Nat) (65536 : Int32)) ∈ rx_all := rx_inT (i := 317) rfl rfl
set_option maxRecDepth 100000 in
theorem rxw_318 : (Jvm.Cond.methodLink "AngleChains$Deduction" (116 : Nat) ({ cls := "java/lang/Integer", name := "numberOfLeadingZeros", desc := "(I)I" } : Jvm.MethodName)) ∈ rx_all := rx_inT (i := 318) rfl rfl
set_option maxRecDepth 100000 in
theorem rxw_321 : (Jvm.Cond.methodLink "AngleChains$Deduction" (119 : Nat) ({ cls := "AngleChains$Figure", name := "has", desc := "(I)Z" } : Jvm.MethodName)) ∈ rx_all := rx_inT (i := 321) rfl rfl
set_option maxRecDepth 100000 in
theorem rxw_322 : (Jvm.Cond.methodLink "AngleChains$Deduction" (122 : Nat) ({ cls := "AngleChains$Figure", name := "areCollinear", desc := "(III)Z" } : Jvm.MethodName)) ∈ rx_all := rx_inT (i := 322) rfl rfl
set_option maxRecDepth 100000 in
theorem rxw_326 : (Jvm.Cond.methodLink "AngleChains$Deduction" (68 : Nat) ({ cls := "AngleChains$Deduction", name := "assume", desc := "(I)V" } : Jvm.MethodName)) ∈ rx_all := rx_inT (i := 326) rfl rfl
set_option maxRecDepth 100000 in
theorem rxn_330 : (Jvm.Cond.methodLinkNest "AngleChains$Deduction" (126 : Nat) ({ cls := "AngleChains", name := "kindOf", desc := "(I)I" } : Jvm.MethodName) "AngleChains") ∈ rx_nst := rx_inN (i := 330) rfl rfl
set_option maxRecDepth 100000 in
theorem rxn_331 : (Jvm.Cond.methodLinkNest "AngleChains$Deduction" (129 : Nat) ({ cls := "AngleChains", name := "bitsOf", desc := "(II)I" } : Jvm.MethodName) "AngleChains") ∈ rx_nst := rx_inN (i := 331) rfl rfl
set_option maxRecDepth 100000 in
theorem rxw_332 : (Jvm.Cond.methodLink "AngleChains$Deduction" (133 : Nat) ({ cls := "AngleChains$Deduction", name := "joinLine", desc := "(I)V" } : Jvm.MethodName)) ∈ rx_all := rx_inT (i := 332) rfl rfl
set_option maxRecDepth 100000 in
theorem rxw_336 : (Jvm.Cond.methodLink "AngleChains$Deduction" (186 : Nat) ({ cls := "java/lang/Integer", name := "bitCount", desc := "(I)I" } : Jvm.MethodName)) ∈ rx_all := rx_inT (i := 336) rfl rfl
set_option maxRecDepth 100000 in
theorem rxw_337 : (Jvm.Cond.methodLink "AngleChains$Deduction" (181 : Nat) ({ cls := "AngleChains$Rows", name := "writeDifference", desc := "(III)V" } : Jvm.MethodName)) ∈ rx_all := rx_inT (i := 337) rfl rfl
set_option maxRecDepth 100000 in
theorem rxw_341 : (Jvm.Cond.methodLink "AngleChains$Deduction" (150 : Nat) ({ cls := "AngleChains$Rows", name := "takeWritten", desc := "()V" } : Jvm.MethodName)) ∈ rx_all := rx_inT (i := 341) rfl rfl
set_option maxRecDepth 100000 in
theorem rxw_345 : (Jvm.Cond.methodLink "AngleChains$Rows" (30 : Nat) ({ cls := "AngleChains$Rows", name := "subtract", desc := "([JJI)V" } : Jvm.MethodName)) ∈ rx_all := rx_inT (i := 345) rfl rfl
set_option maxRecDepth 100000 in
theorem rxw_349 : (Jvm.Cond.methodLink "AngleChains$Rows" (34 : Nat) ({ cls := "AngleChains$Rows", name := "settle", desc := "([JI)V" } : Jvm.MethodName)) ∈ rx_all := rx_inT (i := 349) rfl rfl
set_option maxRecDepth 100000 in
theorem rxw_353 : (Jvm.Cond.methodLink "AngleChains$Rows" (48 : Nat) ({ cls := "java/lang/Math", name := "floorDiv", desc := "(JJ)J" } : Jvm.MethodName)) ∈ rx_all := rx_inT (i := 353) rfl rfl
set_option maxRecDepth 100000 in
theorem rxw_356 : (Jvm.Cond.methodLink "AngleChains$Rows" (38 : Nat) ({ cls := "AngleChains$Rows", name := "swapWithBasis", desc := "(I)V" } : Jvm.MethodName)) ∈ rx_all := rx_inT (i := 356) rfl rfl
set_option maxRecDepth 100000 in
theorem rxw_360 : (Jvm.Cond.constantLong "AngleChains$Rows" (46 : Nat) (-1 : Int64)) ∈ rx_all := rx_inT (i := 360) rfl rfl
set_option maxRecDepth 100000 in
theorem rxw_361 : (Jvm.Cond.methodLink "AngleChains$Deduction" (136 : Nat) ({ cls := "AngleChains$Deduction", name := "joinCircle", desc := "(I)V" } : Jvm.MethodName)) ∈ rx_all := rx_inT (i := 361) rfl rfl
set_option maxRecDepth 100000 in
theorem rxn_365 : (Jvm.Cond.methodLinkNest "AngleChains$Deduction" (139 : Nat) ({ cls := "AngleChains", name := "pairAt", desc := "(III)I" } : Jvm.MethodName) "AngleChains") ∈ rx_nst := rx_inN (i := 365) rfl rfl
set_option maxRecDepth 100000 in
theorem rxw_368 : (Jvm.Cond.methodLink "AngleChains" (121 : Nat) ({ cls := "AngleChains", name := "pairOf", desc := "(II)I" } : Jvm.MethodName)) ∈ rx_all := rx_inT (i := 368) rfl rfl
set_option maxRecDepth 100000 in
theorem rxw_371 : (Jvm.Cond.fieldLink "AngleChains" (118 : Nat) "AngleChains" "PAIR_NUMBERS" "[I") ∈ rx_all := rx_inT (i := 371) rfl rfl
set_option maxRecDepth 100000 in
theorem rxw_373 : (Jvm.Cond.methodLink "AngleChains$Deduction" (143 : Nat) ({ cls := "AngleChains$Deduction", name := "joinLengths", desc := "(II)V" } : Jvm.MethodName)) ∈ rx_all := rx_inT (i := 373) rfl rfl
set_option maxRecDepth 100000 in
theorem rxw_383 : (Jvm.Cond.methodLink "AngleChains$Deduction" (147 : Nat) ({ cls := "AngleChains$Deduction", name := "writeRowOf", desc := "(I)V" } : Jvm.MethodName)) ∈ rx_all := rx_inT (i := 383) rfl rfl
set_option maxRecDepth 100000 in
theorem rxw_387 : (Jvm.Cond.methodLink "AngleChains$Deduction" (173 : Nat) ({ cls := "AngleChains$Deduction", name := "writeDifference", desc := "(III)V" } : Jvm.MethodName)) ∈ rx_all := rx_inT (i := 387) rfl rfl
set_option maxRecDepth 100000 in
theorem rxw_391 : (Jvm.Cond.methodLink "AngleChains$Deduction" (177 : Nat) ({ cls := "AngleChains$Deduction", name := "writeTurns", desc := "(IIII)V" } : Jvm.MethodName)) ∈ rx_all := rx_inT (i := 391) rfl rfl
set_option maxRecDepth 100000 in
theorem rxw_395 : (Jvm.Cond.methodLink "AngleChains$Deduction" (182 : Nat) ({ cls := "AngleChains$Rows", name := "writeTurns", desc := "(IIII)V" } : Jvm.MethodName)) ∈ rx_all := rx_inT (i := 395) rfl rfl
set_option maxRecDepth 100000 in
theorem rxw_399 : (Jvm.Cond.methodLink "AngleChains$Deduction" (82 : Nat) ({ cls := "AngleChains$Deduction", name := "usesUp", desc := "(I)Z" } : Jvm.MethodName)) ∈ rx_all := rx_inT (i := 399) rfl rfl
set_option maxRecDepth 100000 in
theorem rxw_403 : (Jvm.Cond.methodLink "AngleChains$Deduction" (197 : Nat) ({ cls := "AngleChains$Deduction", name := "triesLine", desc := "(I)Z" } : Jvm.MethodName)) ∈ rx_all := rx_inT (i := 403) rfl rfl
set_option maxRecDepth 100000 in
theorem rxw_407 : (Jvm.Cond.methodLink "AngleChains$Deduction" (153 : Nat) ({ cls := "AngleChains$Deduction", name := "areOnLine", desc := "(I)Z" } : Jvm.MethodName)) ∈ rx_all := rx_inT (i := 407) rfl rfl
set_option maxRecDepth 100000 in
theorem rxn_411 : (Jvm.Cond.methodLinkNest "AngleChains$Deduction" (163 : Nat) ({ cls := "AngleChains", name := "at", desc := "(II)I" } : Jvm.MethodName) "AngleChains") ∈ rx_nst := rx_inN (i := 411) rfl rfl
set_option maxRecDepth 100000 in
theorem rxw_412 : (Jvm.Cond.methodLink "AngleChains$Deduction" (221 : Nat) ({ cls := "AngleChains$Deduction", name := "haveDifference", desc := "(III)Z" } : Jvm.MethodName)) ∈ rx_all := rx_inT (i := 412) rfl rfl
set_option maxRecDepth 100000 in
theorem rxw_416 : (Jvm.Cond.methodLink "AngleChains$Deduction" (169 : Nat) ({ cls := "AngleChains$Rows", name := "haveWritten", desc := "()Z" } : Jvm.MethodName)) ∈ rx_all := rx_inT (i := 416) rfl rfl
set_option maxRecDepth 100000 in
theorem rxw_420 : (Jvm.Cond.methodLink "AngleChains$Deduction" (200 : Nat) ({ cls := "AngleChains$Deduction", name := "triesCircle", desc := "(I)Z" } : Jvm.MethodName)) ∈ rx_all := rx_inT (i := 420) rfl rfl
set_option maxRecDepth 100000 in
theorem rxw_424 : (Jvm.Cond.methodLink "AngleChains$Deduction" (156 : Nat) ({ cls := "AngleChains$Deduction", name := "areOnCircle", desc := "(I)Z" } : Jvm.MethodName)) ∈ rx_all := rx_inT (i := 424) rfl rfl
set_option maxRecDepth 100000 in
theorem rxw_428 : (Jvm.Cond.methodLink "AngleChains$Deduction" (224 : Nat) ({ cls := "AngleChains$Deduction", name := "haveTurns", desc := "(IIII)Z" } : Jvm.MethodName)) ∈ rx_all := rx_inT (i := 428) rfl rfl
set_option maxRecDepth 100000 in
theorem rxw_432 : (Jvm.Cond.methodLink "AngleChains$Deduction" (203 : Nat) ({ cls := "AngleChains$Deduction", name := "triesIsosceles", desc := "(I)Z" } : Jvm.MethodName)) ∈ rx_all := rx_inT (i := 432) rfl rfl
set_option maxRecDepth 100000 in
theorem rxw_436 : (Jvm.Cond.methodLink "AngleChains$Deduction" (228 : Nat) ({ cls := "AngleChains$Deduction", name := "linksRowTo", desc := "(II)Z" } : Jvm.MethodName)) ∈ rx_all := rx_inT (i := 436) rfl rfl
set_option maxRecDepth 100000 in
theorem rxw_440 : (Jvm.Cond.methodLink "AngleChains$Deduction" (159 : Nat) ({ cls := "AngleChains$Deduction", name := "areSame", desc := "(II)Z" } : Jvm.MethodName)) ∈ rx_all := rx_inT (i := 440) rfl rfl
set_option maxRecDepth 100000 in
theorem rxw_444 : (Jvm.Cond.methodLink "AngleChains$Deduction" (206 : Nat) ({ cls := "AngleChains$Deduction", name := "triesDiameter", desc := "(I)Z" } : Jvm.MethodName)) ∈ rx_all := rx_inT (i := 444) rfl rfl
set_option maxRecDepth 100000 in
theorem rxw_448 : (Jvm.Cond.methodLink "AngleChains$Deduction" (166 : Nat) ({ cls := "AngleChains$Deduction", name := "isMiddle", desc := "(III)Z" } : Jvm.MethodName)) ∈ rx_all := rx_inT (i := 448) rfl rfl
set_option maxRecDepth 100000 in
theorem rxn_452 : (Jvm.Cond.methodLinkNest "AngleChains$Deduction" (183 : Nat) ({ cls := "AngleChains", name := "pairOf", desc := "(II)I" } : Jvm.MethodName) "AngleChains") ∈ rx_nst := rx_inN (i := 452) rfl rfl
set_option maxRecDepth 100000 in
theorem rxw_453 : (Jvm.Cond.methodLink "AngleChains$Deduction" (209 : Nat) ({ cls := "AngleChains$Deduction", name := "triesCentre", desc := "(I)Z" } : Jvm.MethodName)) ∈ rx_all := rx_inT (i := 453) rfl rfl
set_option maxRecDepth 100000 in
theorem rxw_457 : (Jvm.Cond.methodLink "AngleChains$Deduction" (212 : Nat) ({ cls := "AngleChains$Deduction", name := "triesBisector", desc := "(I)Z" } : Jvm.MethodName)) ∈ rx_all := rx_inT (i := 457) rfl rfl
set_option maxRecDepth 100000 in
theorem rxw_461 : (Jvm.Cond.methodLink "AngleChains$Deduction" (215 : Nat) ({ cls := "AngleChains$Deduction", name := "triesMidline", desc := "(I)Z" } : Jvm.MethodName)) ∈ rx_all := rx_inT (i := 461) rfl rfl
set_option maxRecDepth 100000 in
theorem rxw_465 : (Jvm.Cond.methodLink "AngleChains$Deduction" (218 : Nat) ({ cls := "AngleChains$Deduction", name := "triesParallelogram", desc := "(I)Z" } : Jvm.MethodName)) ∈ rx_all := rx_inT (i := 465) rfl rfl
set_option maxRecDepth 100000 in
theorem rxw_469 : (Jvm.Cond.methodLink "AngleChains" (65 : Nat) ({ cls := "AngleChains$Deduction", name := "shows", desc := "(I)Z" } : Jvm.MethodName)) ∈ rx_all := rx_inT (i := 469) rfl rfl
set_option maxRecDepth 100000 in
theorem rxw_473 : (Jvm.Cond.methodLink "AngleChainsLaw" (40 : Nat) ({ cls := "AngleChains", name := "needs", desc := "(I)I" } : Jvm.MethodName)) ∈ rx_all := rx_inT (i := 473) rfl rfl
set_option maxRecDepth 100000 in
theorem rxw_477 : (Jvm.Cond.methodLink "AngleChainsLaw" (44 : Nat) ({ cls := "AngleChains", name := "need", desc := "(I)I" } : Jvm.MethodName)) ∈ rx_all := rx_inT (i := 477) rfl rfl
set_option maxRecDepth 100000 in
theorem rxw_481 : (Jvm.Cond.methodLink "AngleChainsLaw" (48 : Nat) ({ cls := "AngleChains", name := "line", desc := "(II)I" } : Jvm.MethodName)) ∈ rx_all := rx_inT (i := 481) rfl rfl
set_option maxRecDepth 100000 in
theorem rxw_485 : (Jvm.Cond.methodLink "AngleChains" (76 : Nat) ({ cls := "AngleChains$Deduction", name := "lineBits", desc := "(II)I" } : Jvm.MethodName)) ∈ rx_all := rx_inT (i := 485) rfl rfl
set_option maxRecDepth 100000 in
theorem rxw_489 : (Jvm.Cond.methodLink "AngleChainsLaw" (52 : Nat) ({ cls := "AngleChains", name := "circle", desc := "(III)I" } : Jvm.MethodName)) ∈ rx_all := rx_inT (i := 489) rfl rfl
set_option maxRecDepth 100000 in
theorem rxw_493 : (Jvm.Cond.methodLink "AngleChains" (79 : Nat) ({ cls := "AngleChains$Figure", name := "areCollinear", desc := "(III)Z" } : Jvm.MethodName)) ∈ rx_all := rx_inT (i := 493) rfl rfl
set_option maxRecDepth 100000 in
theorem rxw_494 : (Jvm.Cond.methodLink "AngleChains" (83 : Nat) ({ cls := "AngleChains$Deduction", name := "circleBits", desc := "(III)I" } : Jvm.MethodName)) ∈ rx_all := rx_inT (i := 494) rfl rfl
set_option maxRecDepth 100000 in
theorem rxw_498 : (Jvm.Cond.methodLink "AngleChainsLaw" (57 : Nat) ({ cls := "AngleChains", name := "length", desc := "(II)I" } : Jvm.MethodName)) ∈ rx_all := rx_inT (i := 498) rfl rfl
set_option maxRecDepth 100000 in
theorem rxw_502 : (Jvm.Cond.methodLink "AngleChains" (87 : Nat) ({ cls := "AngleChains$Deduction", name := "leastPair", desc := "(II)I" } : Jvm.MethodName)) ∈ rx_all := rx_inT (i := 502) rfl rfl
set_option maxRecDepth 100000 in
theorem rxw_506 : (Jvm.Cond.methodLink "AngleChainsLaw" (61 : Nat) ({ cls := "AngleChains", name := "told", desc := "(I)I" } : Jvm.MethodName)) ∈ rx_all := rx_inT (i := 506) rfl rfl
set_option maxRecDepth 100000 in
theorem rxw_510 : (Jvm.Cond.methodLink "AngleChains" (93 : Nat) ({ cls := "AngleChains$Deduction", name := "countLines", desc := "()I" } : Jvm.MethodName)) ∈ rx_all := rx_inT (i := 510) rfl rfl
set_option maxRecDepth 100000 in
theorem rxw_514 : (Jvm.Cond.methodLink "AngleChains$Deduction" (231 : Nat) ({ cls := "AngleChains$Deduction", name := "isThere", desc := "(I)Z" } : Jvm.MethodName)) ∈ rx_all := rx_inT (i := 514) rfl rfl
set_option maxRecDepth 100000 in
theorem rxw_518 : (Jvm.Cond.methodLink "AngleChains" (97 : Nat) ({ cls := "AngleChains$Deduction", name := "countWideCircles", desc := "()I" } : Jvm.MethodName)) ∈ rx_all := rx_inT (i := 518) rfl rfl
set_option maxRecDepth 100000 in
theorem rxw_522 : (Jvm.Cond.methodLink "AngleChains$Deduction" (234 : Nat) ({ cls := "java/lang/Integer", name := "lowestOneBit", desc := "(I)I" } : Jvm.MethodName)) ∈ rx_all := rx_inT (i := 522) rfl rfl
set_option maxRecDepth 100000 in
theorem rxw_525 : (Jvm.Cond.methodLink "AngleChains" (100 : Nat) ({ cls := "AngleChains$Deduction", name := "countLengths", desc := "()I" } : Jvm.MethodName)) ∈ rx_all := rx_inT (i := 525) rfl rfl
set_option maxRecDepth 100000 in
theorem rxw_529 : (Jvm.Cond.methodLink "AngleChains" (103 : Nat) ({ cls := "AngleChains$Deduction", name := "countRows", desc := "()I" } : Jvm.MethodName)) ∈ rx_all := rx_inT (i := 529) rfl rfl
set_option maxRecDepth 100000 in
theorem rxw_533 : (Jvm.Cond.classLink "AngleChainsLaw" (10 : Nat) "AngleChainsModel") ∈ rx_all := rx_inT (i := 533) rfl rfl
set_option maxRecDepth 100000 in
theorem rxw_535 : (Jvm.Cond.methodLink "AngleChainsLaw" (12 : Nat) ({ cls := "AngleChainsModel", name := "<init>", desc := "()V" } : Jvm.MethodName)) ∈ rx_all := rx_inT (i := 535) rfl rfl
set_option maxRecDepth 100000 in
theorem rxw_539 : (Jvm.Cond.fieldLink "AngleChainsModel" (81 : Nat) "AngleChainsModel" "thrown" "I") ∈ rx_all := rx_inT (i := 539) rfl rfl
set_option maxRecDepth 100000 in
theorem rxw_540 : (Jvm.Cond.fieldLink "AngleChainsModel" (114 : Nat) "AngleChainsModel" "n" "I") ∈ rx_all := rx_inT (i := 540) rfl rfl
set_option maxRecDepth 100000 in
theorem rxw_541 : (Jvm.Cond.fieldLink "AngleChainsModel" (7 : Nat) "AngleChainsModel" "px" "[I") ∈ rx_all := rx_inT (i := 541) rfl rfl
set_option maxRecDepth 100000 in
theorem rxw_542 : (Jvm.Cond.fieldLink "AngleChainsModel" (13 : Nat) "AngleChainsModel" "py" "[I") ∈ rx_all := rx_inT (i := 542) rfl rfl
set_option maxRecDepth 100000 in
theorem rxw_543 : (Jvm.Cond.fieldLink "AngleChainsModel" (16 : Nat) "AngleChainsModel" "draft" "[I") ∈ rx_all := rx_inT (i := 543) rfl rfl
set_option maxRecDepth 100000 in
theorem rxw_544 : (Jvm.Cond.fieldLink "AngleChainsModel" (108 : Nat) "AngleChainsModel" "drafted" "I") ∈ rx_all := rx_inT (i := 544) rfl rfl
set_option maxRecDepth 100000 in
theorem rxw_545 : (Jvm.Cond.fieldLink "AngleChainsModel" (117 : Nat) "AngleChainsModel" "facts" "I") ∈ rx_all := rx_inT (i := 545) rfl rfl
set_option maxRecDepth 100000 in
theorem rxw_546 : (Jvm.Cond.fieldLink "AngleChainsModel" (19 : Nat) "AngleChainsModel" "factKind" "[I") ∈ rx_all := rx_inT (i := 546) rfl rfl
set_option maxRecDepth 100000 in
theorem rxw_547 : (Jvm.Cond.fieldLink "AngleChainsModel" (22 : Nat) "AngleChainsModel" "factPoint" "[I") ∈ rx_all := rx_inT (i := 547) rfl rfl
set_option maxRecDepth 100000 in
theorem rxw_548 : (Jvm.Cond.fieldLink "AngleChainsModel" (25 : Nat) "AngleChainsModel" "isOn" "[Z") ∈ rx_all := rx_inT (i := 548) rfl rfl
set_option maxRecDepth 100000 in
theorem rxw_549 : (Jvm.Cond.fieldLink "AngleChainsModel" (29 : Nat) "AngleChainsModel" "plays" "[Z") ∈ rx_all := rx_inT (i := 549) rfl rfl
set_option maxRecDepth 100000 in
theorem rxw_550 : (Jvm.Cond.fieldLink "AngleChainsModel" (32 : Nat) "AngleChainsModel" "needed" "[I") ∈ rx_all := rx_inT (i := 550) rfl rfl
set_option maxRecDepth 100000 in
theorem rxw_551 : (Jvm.Cond.fieldLink "AngleChainsModel" (295 : Nat) "AngleChainsModel" "needs" "I") ∈ rx_all := rx_inT (i := 551) rfl rfl
set_option maxRecDepth 100000 in
theorem rxw_552 : (Jvm.Cond.fieldLink "AngleChainsModel" (120 : Nat) "AngleChainsModel" "fresh" "Z") ∈ rx_all := rx_inT (i := 552) rfl rfl
set_option maxRecDepth 100000 in
theorem rxw_553 : (Jvm.Cond.fieldLink "AngleChainsModel" (35 : Nat) "AngleChainsModel" "line" "[I") ∈ rx_all := rx_inT (i := 553) rfl rfl
set_option maxRecDepth 100000 in
theorem rxw_554 : (Jvm.Cond.fieldLink "AngleChainsModel" (38 : Nat) "AngleChainsModel" "circle" "[I") ∈ rx_all := rx_inT (i := 554) rfl rfl
set_option maxRecDepth 100000 in
theorem rxw_555 : (Jvm.Cond.fieldLink "AngleChainsModel" (41 : Nat) "AngleChainsModel" "same" "[I") ∈ rx_all := rx_inT (i := 555) rfl rfl
set_option maxRecDepth 100000 in
theorem rxw_556 : (Jvm.Cond.fieldLink "AngleChainsModel" (142 : Nat) "AngleChainsModel" "news" "Z") ∈ rx_all := rx_inT (i := 556) rfl rfl
set_option maxRecDepth 100000 in
theorem rxw_557 : (Jvm.Cond.fieldLink "AngleChainsModel" (44 : Nat) "AngleChainsModel" "column" "[I") ∈ rx_all := rx_inT (i := 557) rfl rfl
set_option maxRecDepth 100000 in
theorem rxw_558 : (Jvm.Cond.fieldLink "AngleChainsModel" (175 : Nat) "AngleChainsModel" "columns" "I") ∈ rx_all := rx_inT (i := 558) rfl rfl
set_option maxRecDepth 100000 in
theorem rxw_559 : (Jvm.Cond.fieldLink "AngleChainsModel" (139 : Nat) "AngleChainsModel" "moved" "Z") ∈ rx_all := rx_inT (i := 559) rfl rfl
set_option maxRecDepth 100000 in
theorem rxw_560 : (Jvm.Cond.fieldLink "AngleChainsModel" (47 : Nat) "AngleChainsModel" "steps" "[J") ∈ rx_all := rx_inT (i := 560) rfl rfl
set_option maxRecDepth 100000 in
theorem rxw_561 : (Jvm.Cond.fieldLink "AngleChainsModel" (51 : Nat) "AngleChainsModel" "hasStep" "[Z") ∈ rx_all := rx_inT (i := 561) rfl rfl
set_option maxRecDepth 100000 in
theorem rxw_562 : (Jvm.Cond.fieldLink "AngleChainsModel" (54 : Nat) "AngleChainsModel" "row" "[J") ∈ rx_all := rx_inT (i := 562) rfl rfl
set_option maxRecDepth 100000 in
theorem rxw_563 : (Jvm.Cond.fieldLink "AngleChainsModel" (57 : Nat) "AngleChainsModel" "other" "[J") ∈ rx_all := rx_inT (i := 563) rfl rfl
set_option maxRecDepth 100000 in
theorem rxw_564 : (Jvm.Cond.fieldLink "AngleChainsModel" (60 : Nat) "AngleChainsModel" "oldSteps" "[J") ∈ rx_all := rx_inT (i := 564) rfl rfl
set_option maxRecDepth 100000 in
theorem rxw_565 : (Jvm.Cond.fieldLink "AngleChainsModel" (63 : Nat) "AngleChainsModel" "hadStep" "[Z") ∈ rx_all := rx_inT (i := 565) rfl rfl
set_option maxRecDepth 100000 in
theorem rxw_566 : (Jvm.Cond.fieldLink "AngleChainsModel" (66 : Nat) "AngleChainsModel" "oldColumn" "[I") ∈ rx_all := rx_inT (i := 566) rfl rfl
set_option maxRecDepth 100000 in
theorem rxw_567 : (Jvm.Cond.fieldLink "AngleChainsModel" (69 : Nat) "AngleChainsModel" "toColumn" "[I") ∈ rx_all := rx_inT (i := 567) rfl rfl
set_option maxRecDepth 100000 in
theorem rxw_568 : (Jvm.Cond.fieldLink "AngleChainsModel" (72 : Nat) "AngleChainsModel" "reduced" "[J") ∈ rx_all := rx_inT (i := 568) rfl rfl
set_option maxRecDepth 100000 in
theorem rxw_569 : (Jvm.Cond.fieldLink "AngleChainsModel" (75 : Nat) "AngleChainsModel" "numberOf" "[I") ∈ rx_all := rx_inT (i := 569) rfl rfl
set_option maxRecDepth 100000 in
theorem rxw_570 : (Jvm.Cond.fieldLink "AngleChainsModel" (78 : Nat) "AngleChainsModel" "table" "[I") ∈ rx_all := rx_inT (i := 570) rfl rfl
set_option maxRecDepth 100000 in
theorem rxw_571 : (Jvm.Cond.fieldLink "AngleChainsModel" (198 : Nat) "AngleChainsModel" "numbers" "I") ∈ rx_all := rx_inT (i := 571) rfl rfl
set_option maxRecDepth 100000 in
theorem rxw_572 : (Jvm.Cond.fieldLink "AngleChainsModel" (205 : Nat) "AngleChainsModel" "quarter" "I") ∈ rx_all := rx_inT (i := 572) rfl rfl
set_option maxRecDepth 100000 in
theorem rxw_643 : (Jvm.Cond.methodLink "AngleChainsLaw" (17 : Nat) ({ cls := "AngleChainsModel", name := "point", desc := "(II)I" } : Jvm.MethodName)) ∈ rx_all := rx_inT (i := 643) rfl rfl
set_option maxRecDepth 100000 in
theorem rxw_647 : (Jvm.Cond.methodLink "AngleChainsLaw" (22 : Nat) ({ cls := "AngleChainsModel", name := "of", desc := "(I)I" } : Jvm.MethodName)) ∈ rx_all := rx_inT (i := 647) rfl rfl
set_option maxRecDepth 100000 in
theorem rxw_651 : (Jvm.Cond.methodLink "AngleChainsLaw" (26 : Nat) ({ cls := "AngleChainsModel", name := "isTrue", desc := "(I)I" } : Jvm.MethodName)) ∈ rx_all := rx_inT (i := 651) rfl rfl
set_option maxRecDepth 100000 in
theorem rxw_655 : (Jvm.Cond.methodLink "AngleChainsModel" (124 : Nat) ({ cls := "AngleChainsModel", name := "isFact", desc := "(I)Z" } : Jvm.MethodName)) ∈ rx_all := rx_inT (i := 655) rfl rfl
set_option maxRecDepth 100000 in
theorem rxw_659 : (Jvm.Cond.methodLink "AngleChainsModel" (111 : Nat) ({ cls := "AngleChainsModel", name := "pointsOf", desc := "(I)I" } : Jvm.MethodName)) ∈ rx_all := rx_inT (i := 659) rfl rfl
set_option maxRecDepth 100000 in
theorem rxw_662 : (Jvm.Cond.methodLink "AngleChainsModel" (128 : Nat) ({ cls := "AngleChainsModel", name := "holds", desc := "(I)Z" } : Jvm.MethodName)) ∈ rx_all := rx_inT (i := 662) rfl rfl
set_option maxRecDepth 100000 in
theorem rxw_666 : (Jvm.Cond.methodLink "AngleChainsModel" (96 : Nat) ({ cls := "AngleChainsModel", name := "p", desc := "(I)I" } : Jvm.MethodName)) ∈ rx_all := rx_inT (i := 666) rfl rfl
set_option maxRecDepth 100000 in
theorem rxw_670 : (Jvm.Cond.methodLink "AngleChainsModel" (89 : Nat) ({ cls := "AngleChainsModel", name := "isProper", desc := "(III)Z" } : Jvm.MethodName)) ∈ rx_all := rx_inT (i := 670) rfl rfl
set_option maxRecDepth 100000 in
theorem rxw_674 : (Jvm.Cond.methodLink "AngleChainsModel" (85 : Nat) ({ cls := "AngleChainsModel", name := "cross", desc := "(IIII)J" } : Jvm.MethodName)) ∈ rx_all := rx_inT (i := 674) rfl rfl
set_option maxRecDepth 100000 in
theorem rxw_678 : (Jvm.Cond.methodLink "AngleChainsModel" (93 : Nat) ({ cls := "AngleChainsModel", name := "dot", desc := "(IIII)J" } : Jvm.MethodName)) ∈ rx_all := rx_inT (i := 678) rfl rfl
set_option maxRecDepth 100000 in
theorem rxw_682 : (Jvm.Cond.methodLink "AngleChainsModel" (100 : Nat) ({ cls := "AngleChainsModel", name := "isCircle", desc := "(IIII)Z" } : Jvm.MethodName)) ∈ rx_all := rx_inT (i := 682) rfl rfl
set_option maxRecDepth 100000 in
theorem rxw_686 : (Jvm.Cond.methodLink "AngleChainsModel" (104 : Nat) ({ cls := "AngleChainsModel", name := "isTurn", desc := "(IIIIIIII)Z" } : Jvm.MethodName)) ∈ rx_all := rx_inT (i := 686) rfl rfl
set_option maxRecDepth 100000 in
theorem rxw_690 : (Jvm.Cond.methodLink "AngleChainsLaw" (30 : Nat) ({ cls := "AngleChainsModel", name := "fact", desc := "(I)I" } : Jvm.MethodName)) ∈ rx_all := rx_inT (i := 690) rfl rfl
set_option maxRecDepth 100000 in
theorem rxw_694 : (Jvm.Cond.methodLink "AngleChainsLaw" (35 : Nat) ({ cls := "AngleChainsModel", name := "turn", desc := "(IZ)Z" } : Jvm.MethodName)) ∈ rx_all := rx_inT (i := 694) rfl rfl
set_option maxRecDepth 100000 in
theorem rxw_698 : (Jvm.Cond.methodLink "AngleChainsLaw" (39 : Nat) ({ cls := "AngleChainsModel", name := "follows", desc := "(I)I" } : Jvm.MethodName)) ∈ rx_all := rx_inT (i := 698) rfl rfl
set_option maxRecDepth 100000 in
theorem rxw_702 : (Jvm.Cond.methodLink "AngleChainsModel" (289 : Nat) ({ cls := "AngleChainsModel", name := "refresh", desc := "()V" } : Jvm.MethodName)) ∈ rx_all := rx_inT (i := 702) rfl rfl
set_option maxRecDepth 100000 in
theorem rxw_706 : (Jvm.Cond.methodLink "AngleChainsModel" (283 : Nat) ({ cls := "AngleChainsModel", name := "work", desc := "()V" } : Jvm.MethodName)) ∈ rx_all := rx_inT (i := 706) rfl rfl
set_option maxRecDepth 100000 in
theorem rxw_710 : (Jvm.Cond.methodLink "AngleChainsModel" (259 : Nat) ({ cls := "AngleChainsModel", name := "begin", desc := "()V" } : Jvm.MethodName)) ∈ rx_all := rx_inT (i := 710) rfl rfl
set_option maxRecDepth 100000 in
theorem rxw_714 : (Jvm.Cond.methodLink "AngleChainsModel" (180 : Nat) ({ cls := "AngleChainsModel", name := "numberLines", desc := "()V" } : Jvm.MethodName)) ∈ rx_all := rx_inT (i := 714) rfl rfl
set_option maxRecDepth 100000 in
theorem rxw_718 : (Jvm.Cond.methodLink "AngleChainsModel" (135 : Nat) ({ cls := "AngleChainsModel", name := "lineOf", desc := "(II)I" } : Jvm.MethodName)) ∈ rx_all := rx_inT (i := 718) rfl rfl
set_option maxRecDepth 100000 in
theorem rxw_722 : (Jvm.Cond.methodLink "AngleChainsModel" (183 : Nat) ({ cls := "AngleChainsModel", name := "startLattice", desc := "()V" } : Jvm.MethodName)) ∈ rx_all := rx_inT (i := 722) rfl rfl
set_option maxRecDepth 100000 in
theorem rxw_726 : (Jvm.Cond.constantLong "AngleChainsModel" (178 : Nat) (2 : Int64)) ∈ rx_all := rx_inT (i := 726) rfl rfl
set_option maxRecDepth 100000 in
theorem rxw_727 : (Jvm.Cond.methodLink "AngleChainsModel" (262 : Nat) ({ cls := "AngleChainsModel", name := "lineFacts", desc := "()V" } : Jvm.MethodName)) ∈ rx_all := rx_inT (i := 727) rfl rfl
set_option maxRecDepth 100000 in
theorem rxw_731 : (Jvm.Cond.methodLink "AngleChainsModel" (256 : Nat) ({ cls := "AngleChainsModel", name := "f", desc := "(II)I" } : Jvm.MethodName)) ∈ rx_all := rx_inT (i := 731) rfl rfl
set_option maxRecDepth 100000 in
theorem rxw_735 : (Jvm.Cond.methodLink "AngleChainsModel" (216 : Nat) ({ cls := "AngleChainsModel", name := "join", desc := "(I)V" } : Jvm.MethodName)) ∈ rx_all := rx_inT (i := 735) rfl rfl
set_option maxRecDepth 100000 in
theorem rxw_739 : (Jvm.Cond.methodLink "AngleChainsModel" (131 : Nat) ({ cls := "AngleChainsModel", name := "has", desc := "(II)Z" } : Jvm.MethodName)) ∈ rx_all := rx_inT (i := 739) rfl rfl
set_option maxRecDepth 100000 in
theorem rxw_742 : (Jvm.Cond.methodLink "AngleChainsModel" (222 : Nat) ({ cls := "AngleChainsModel", name := "round", desc := "(I)V" } : Jvm.MethodName)) ∈ rx_all := rx_inT (i := 742) rfl rfl
set_option maxRecDepth 100000 in
theorem rxw_746 : (Jvm.Cond.methodLink "AngleChainsModel" (145 : Nat) ({ cls := "AngleChainsModel", name := "circleOf", desc := "(III)I" } : Jvm.MethodName)) ∈ rx_all := rx_inT (i := 746) rfl rfl
set_option maxRecDepth 100000 in
theorem rxw_750 : (Jvm.Cond.methodLink "AngleChainsModel" (225 : Nat) ({ cls := "AngleChainsModel", name := "equal", desc := "(IIII)V" } : Jvm.MethodName)) ∈ rx_all := rx_inT (i := 750) rfl rfl
set_option maxRecDepth 100000 in
theorem rxw_754 : (Jvm.Cond.methodLink "AngleChainsModel" (149 : Nat) ({ cls := "AngleChainsModel", name := "lengthOf", desc := "(II)I" } : Jvm.MethodName)) ∈ rx_all := rx_inT (i := 754) rfl rfl
set_option maxRecDepth 100000 in
theorem rxw_758 : (Jvm.Cond.methodLink "AngleChainsModel" (265 : Nat) ({ cls := "AngleChainsModel", name := "moveColumns", desc := "()V" } : Jvm.MethodName)) ∈ rx_all := rx_inT (i := 758) rfl rfl
set_option maxRecDepth 100000 in
theorem rxw_762 : (Jvm.Cond.methodLink "AngleChainsModel" (168 : Nat) ({ cls := "AngleChainsModel", name := "columnOf", desc := "(II)I" } : Jvm.MethodName)) ∈ rx_all := rx_inT (i := 762) rfl rfl
set_option maxRecDepth 100000 in
theorem rxw_766 : (Jvm.Cond.methodLink "AngleChainsModel" (186 : Nat) ({ cls := "AngleChainsModel", name := "clearRow", desc := "()V" } : Jvm.MethodName)) ∈ rx_all := rx_inT (i := 766) rfl rfl
set_option maxRecDepth 100000 in
theorem rxw_770 : (Jvm.Cond.methodLink "AngleChainsModel" (171 : Nat) ({ cls := "AngleChainsModel", name := "comes", desc := "()Z" } : Jvm.MethodName)) ∈ rx_all := rx_inT (i := 770) rfl rfl
set_option maxRecDepth 100000 in
theorem rxw_774 : (Jvm.Cond.methodLink "AngleChainsModel" (156 : Nat) ({ cls := "AngleChainsModel", name := "reduce", desc := "(I)V" } : Jvm.MethodName)) ∈ rx_all := rx_inT (i := 774) rfl rfl
set_option maxRecDepth 100000 in
theorem rxw_778 : (Jvm.Cond.methodLink "AngleChainsModel" (152 : Nat) ({ cls := "AngleChainsModel", name := "down", desc := "(JJ)J" } : Jvm.MethodName)) ∈ rx_all := rx_inT (i := 778) rfl rfl
set_option maxRecDepth 100000 in
theorem rxw_781 : (Jvm.Cond.methodLink "AngleChainsModel" (160 : Nat) ({ cls := "AngleChainsModel", name := "layStep", desc := "(I)V" } : Jvm.MethodName)) ∈ rx_all := rx_inT (i := 781) rfl rfl
set_option maxRecDepth 100000 in
theorem rxw_785 : (Jvm.Cond.constantLong "AngleChainsModel" (166 : Nat) (-1 : Int64)) ∈ rx_all := rx_inT (i := 785) rfl rfl
set_option maxRecDepth 100000 in
theorem rxw_786 : (Jvm.Cond.methodLink "AngleChainsModel" (163 : Nat) ({ cls := "AngleChainsModel", name := "meet", desc := "(I)V" } : Jvm.MethodName)) ∈ rx_all := rx_inT (i := 786) rfl rfl
set_option maxRecDepth 100000 in
theorem rxw_790 : (Jvm.Cond.methodLink "AngleChainsModel" (268 : Nat) ({ cls := "AngleChainsModel", name := "rowFacts", desc := "()V" } : Jvm.MethodName)) ∈ rx_all := rx_inT (i := 790) rfl rfl
set_option maxRecDepth 100000 in
theorem rxw_794 : (Jvm.Cond.methodLink "AngleChainsModel" (232 : Nat) ({ cls := "AngleChainsModel", name := "rowOf", desc := "(IIIIJ)V" } : Jvm.MethodName)) ∈ rx_all := rx_inT (i := 794) rfl rfl
set_option maxRecDepth 100000 in
theorem rxw_798 : (Jvm.Cond.methodLink "AngleChainsModel" (208 : Nat) ({ cls := "AngleChainsModel", name := "put", desc := "(IIJ)V" } : Jvm.MethodName)) ∈ rx_all := rx_inT (i := 798) rfl rfl
set_option maxRecDepth 100000 in
theorem rxw_802 : (Jvm.Cond.methodLink "AngleChainsModel" (219 : Nat) ({ cls := "AngleChainsModel", name := "rowComes", desc := "()V" } : Jvm.MethodName)) ∈ rx_all := rx_inT (i := 802) rfl rfl
set_option maxRecDepth 100000 in
theorem rxw_806 : (Jvm.Cond.methodLink "AngleChainsModel" (271 : Nat) ({ cls := "AngleChainsModel", name := "numberAll", desc := "()V" } : Jvm.MethodName)) ∈ rx_all := rx_inT (i := 806) rfl rfl
set_option maxRecDepth 100000 in
theorem rxw_810 : (Jvm.Cond.methodLink "AngleChainsModel" (201 : Nat) ({ cls := "AngleChainsModel", name := "number", desc := "()I" } : Jvm.MethodName)) ∈ rx_all := rx_inT (i := 810) rfl rfl
set_option maxRecDepth 100000 in
theorem rxw_814 : (Jvm.Cond.constantLong "AngleChainsModel" (189 : Nat) (17 : Int64)) ∈ rx_all := rx_inT (i := 814) rfl rfl
set_option maxRecDepth 100000 in
theorem rxw_815 : (Jvm.Cond.constantLong "AngleChainsModel" (191 : Nat) (6364136223846793005 : Int64)) ∈ rx_all := rx_inT (i := 815) rfl rfl
set_option maxRecDepth 100000 in
theorem rxw_816 : (Jvm.Cond.constantLong "AngleChainsModel" (193 : Nat) (1442695040888963407 : Int64)) ∈ rx_all := rx_inT (i := 816) rfl rfl
set_option maxRecDepth 100000 in
theorem rxw_817 : (Jvm.Cond.methodLink "AngleChainsModel" (195 : Nat) ({ cls := "AngleChainsModel", name := "isFound", desc := "(I)Z" } : Jvm.MethodName)) ∈ rx_all := rx_inT (i := 817) rfl rfl
set_option maxRecDepth 100000 in
theorem rxw_821 : (Jvm.Cond.methodLink "AngleChainsModel" (274 : Nat) ({ cls := "AngleChainsModel", name := "ruleOne", desc := "()V" } : Jvm.MethodName)) ∈ rx_all := rx_inT (i := 821) rfl rfl
set_option maxRecDepth 100000 in
theorem rxw_825 : (Jvm.Cond.methodLink "AngleChainsModel" (212 : Nat) ({ cls := "AngleChainsModel", name := "turnOf", desc := "(IIII)I" } : Jvm.MethodName)) ∈ rx_all := rx_inT (i := 825) rfl rfl
set_option maxRecDepth 100000 in
theorem rxw_829 : (Jvm.Cond.methodLink "AngleChainsModel" (277 : Nat) ({ cls := "AngleChainsModel", name := "threes", desc := "()V" } : Jvm.MethodName)) ∈ rx_all := rx_inT (i := 829) rfl rfl
set_option maxRecDepth 100000 in
theorem rxw_833 : (Jvm.Cond.methodLink "AngleChainsModel" (229 : Nat) ({ cls := "AngleChainsModel", name := "isEqual", desc := "(IIII)Z" } : Jvm.MethodName)) ∈ rx_all := rx_inT (i := 833) rfl rfl
set_option maxRecDepth 100000 in
theorem rxw_837 : (Jvm.Cond.constantLong "AngleChainsModel" (254 : Nat) (-2 : Int64)) ∈ rx_all := rx_inT (i := 837) rfl rfl
set_option maxRecDepth 100000 in
theorem rxw_838 : (Jvm.Cond.methodLink "AngleChainsModel" (280 : Nat) ({ cls := "AngleChainsModel", name := "fours", desc := "()V" } : Jvm.MethodName)) ∈ rx_all := rx_inT (i := 838) rfl rfl
set_option maxRecDepth 100000 in
theorem rxw_842 : (Jvm.Cond.methodLink "AngleChainsModel" (236 : Nat) ({ cls := "AngleChainsModel", name := "angles", desc := "(IIII)V" } : Jvm.MethodName)) ∈ rx_all := rx_inT (i := 842) rfl rfl
set_option maxRecDepth 100000 in
theorem rxw_846 : (Jvm.Cond.methodLink "AngleChainsModel" (239 : Nat) ({ cls := "AngleChainsModel", name := "parallels", desc := "(IIII)V" } : Jvm.MethodName)) ∈ rx_all := rx_inT (i := 846) rfl rfl
set_option maxRecDepth 100000 in
theorem rxw_850 : (Jvm.Cond.methodLink "AngleChainsModel" (242 : Nat) ({ cls := "AngleChainsModel", name := "perpendiculars", desc := "(IIII)V" } : Jvm.MethodName)) ∈ rx_all := rx_inT (i := 850) rfl rfl
set_option maxRecDepth 100000 in
theorem rxw_854 : (Jvm.Cond.methodLink "AngleChainsModel" (245 : Nat) ({ cls := "AngleChainsModel", name := "halves", desc := "(IIII)V" } : Jvm.MethodName)) ∈ rx_all := rx_inT (i := 854) rfl rfl
set_option maxRecDepth 100000 in
theorem rxw_858 : (Jvm.Cond.methodLink "AngleChainsModel" (248 : Nat) ({ cls := "AngleChainsModel", name := "middles", desc := "(IIII)V" } : Jvm.MethodName)) ∈ rx_all := rx_inT (i := 858) rfl rfl
set_option maxRecDepth 100000 in
theorem rxw_862 : (Jvm.Cond.methodLink "AngleChainsModel" (251 : Nat) ({ cls := "AngleChainsModel", name := "wheels", desc := "(IIII)V" } : Jvm.MethodName)) ∈ rx_all := rx_inT (i := 862) rfl rfl
set_option maxRecDepth 100000 in
theorem rxw_866 : (Jvm.Cond.methodLink "AngleChainsModel" (292 : Nat) ({ cls := "AngleChainsModel", name := "follow", desc := "(I)Z" } : Jvm.MethodName)) ∈ rx_all := rx_inT (i := 866) rfl rfl
set_option maxRecDepth 100000 in
theorem rxw_870 : (Jvm.Cond.methodLink "AngleChainsModel" (286 : Nat) ({ cls := "AngleChainsModel", name := "rowFollows", desc := "()Z" } : Jvm.MethodName)) ∈ rx_all := rx_inT (i := 870) rfl rfl
set_option maxRecDepth 100000 in
theorem rxw_874 : (Jvm.Cond.methodLink "AngleChainsLaw" (43 : Nat) ({ cls := "AngleChainsModel", name := "needs", desc := "(I)I" } : Jvm.MethodName)) ∈ rx_all := rx_inT (i := 874) rfl rfl
set_option maxRecDepth 100000 in
theorem rxw_878 : (Jvm.Cond.methodLink "AngleChainsLaw" (47 : Nat) ({ cls := "AngleChainsModel", name := "need", desc := "(I)I" } : Jvm.MethodName)) ∈ rx_all := rx_inT (i := 878) rfl rfl
set_option maxRecDepth 100000 in
theorem rxw_882 : (Jvm.Cond.methodLink "AngleChainsLaw" (51 : Nat) ({ cls := "AngleChainsModel", name := "line", desc := "(II)I" } : Jvm.MethodName)) ∈ rx_all := rx_inT (i := 882) rfl rfl
set_option maxRecDepth 100000 in
theorem rxw_886 : (Jvm.Cond.methodLink "AngleChainsModel" (298 : Nat) ({ cls := "AngleChainsModel", name := "noPoint", desc := "(I)Z" } : Jvm.MethodName)) ∈ rx_all := rx_inT (i := 886) rfl rfl
set_option maxRecDepth 100000 in
theorem rxw_890 : (Jvm.Cond.methodLink "AngleChainsLaw" (56 : Nat) ({ cls := "AngleChainsModel", name := "circle", desc := "(III)I" } : Jvm.MethodName)) ∈ rx_all := rx_inT (i := 890) rfl rfl
set_option maxRecDepth 100000 in
theorem rxw_894 : (Jvm.Cond.methodLink "AngleChainsLaw" (60 : Nat) ({ cls := "AngleChainsModel", name := "length", desc := "(II)I" } : Jvm.MethodName)) ∈ rx_all := rx_inT (i := 894) rfl rfl
set_option maxRecDepth 100000 in
theorem rxw_898 : (Jvm.Cond.methodLink "AngleChainsLaw" (64 : Nat) ({ cls := "AngleChainsModel", name := "told", desc := "(I)I" } : Jvm.MethodName)) ∈ rx_all := rx_inT (i := 898) rfl rfl
set_option maxRecDepth 100000 in
theorem rxw_902 : (Jvm.Cond.methodLink "AngleChainsModel" (304 : Nat) ({ cls := "AngleChainsModel", name := "circles", desc := "()I" } : Jvm.MethodName)) ∈ rx_all := rx_inT (i := 902) rfl rfl
set_option maxRecDepth 100000 in
theorem rxw_906 : (Jvm.Cond.methodLink "AngleChainsModel" (301 : Nat) ({ cls := "AngleChainsModel", name := "many", desc := "(I)I" } : Jvm.MethodName)) ∈ rx_all := rx_inT (i := 906) rfl rfl
set_option maxRecDepth 100000 in
theorem rxw_909 : (Jvm.Cond.methodLink "AngleChainsModel" (307 : Nat) ({ cls := "AngleChainsModel", name := "lengths", desc := "()I" } : Jvm.MethodName)) ∈ rx_all := rx_inT (i := 909) rfl rfl
set_option maxRecDepth 100000 in
theorem rxw_17 : (Jvm.Cond.instanceMethod ({ cls := "java/lang/Object", name := "<init>", desc := "()V" } : Jvm.MethodName)) ∈ rx_all := rx_inT (i := 17) rfl rfl
set_option maxRecDepth 100000 in
theorem rxw_18 : (Jvm.Cond.code ({ cls := "java/lang/Object", name := "<init>", desc := "()V" } : Jvm.MethodName) object_method_1_code (1 : Nat) (Option.none : Option Jvm.ClassFile.FieldType)) ∈ rx_all := rx_inT (i := 18) rfl rfl
set_option maxRecDepth 100000 in
theorem rxw_325 : (Jvm.Cond.native ({ cls := "java/lang/System", name := "arraycopy", desc := "(Ljava/lang/Object;ILjava/lang/Object;II)V" } : Jvm.MethodName)) ∈ rx_all := rx_inT (i := 325) rfl rfl
set_option maxRecDepth 100000 in
theorem rxw_324 : (Jvm.Cond.static ({ cls := "java/lang/System", name := "arraycopy", desc := "(Ljava/lang/Object;ILjava/lang/Object;II)V" } : Jvm.MethodName)) ∈ rx_all := rx_inT (i := 324) rfl rfl
set_option maxRecDepth 100000 in
theorem rxw_9 : (Jvm.Cond.initialized "java/lang/System") ∈ rx_all := rx_inT (i := 9) rfl rfl
set_option maxRecDepth 100000 in
theorem rxw_16 : (Jvm.Cond.methodLink "AngleChains" (1 : Nat) ({ cls := "java/lang/Object", name := "<init>", desc := "()V" } : Jvm.MethodName)) ∈ rx_all := rx_inT (i := 16) rfl rfl
set_option maxRecDepth 100000 in
theorem rxw_24 : (Jvm.Cond.methodLink "AngleChains$Figure" (3 : Nat) ({ cls := "java/lang/Object", name := "<init>", desc := "()V" } : Jvm.MethodName)) ∈ rx_all := rx_inT (i := 24) rfl rfl
set_option maxRecDepth 100000 in
theorem rxw_44 : (Jvm.Cond.methodLink "AngleChains$Deduction" (3 : Nat) ({ cls := "java/lang/Object", name := "<init>", desc := "()V" } : Jvm.MethodName)) ∈ rx_all := rx_inT (i := 44) rfl rfl
set_option maxRecDepth 100000 in
theorem rxw_50 : (Jvm.Cond.methodLink "AngleChains$Rows" (3 : Nat) ({ cls := "java/lang/Object", name := "<init>", desc := "()V" } : Jvm.MethodName)) ∈ rx_all := rx_inT (i := 50) rfl rfl
set_option maxRecDepth 100000 in
theorem rxw_74 : (Jvm.Cond.methodLink "AngleChains$Cases" (3 : Nat) ({ cls := "java/lang/Object", name := "<init>", desc := "()V" } : Jvm.MethodName)) ∈ rx_all := rx_inT (i := 74) rfl rfl
set_option maxRecDepth 100000 in
theorem rxw_538 : (Jvm.Cond.methodLink "AngleChainsModel" (1 : Nat) ({ cls := "java/lang/Object", name := "<init>", desc := "()V" } : Jvm.MethodName)) ∈ rx_all := rx_inT (i := 538) rfl rfl
set_option maxRecDepth 100000 in
theorem rxw_323 : (Jvm.Cond.methodLink "AngleChains$Deduction" (104 : Nat) ({ cls := "java/lang/System", name := "arraycopy", desc := "(Ljava/lang/Object;ILjava/lang/Object;II)V" } : Jvm.MethodName)) ∈ rx_all := rx_inT (i := 323) rfl rfl
set_option maxRecDepth 100000 in
theorem rxw_381 : (Jvm.Cond.static ({ cls := "java/lang/Math", name := "max", desc := "(II)I" } : Jvm.MethodName)) ∈ rx_all := rx_inT (i := 381) rfl rfl
set_option maxRecDepth 100000 in
theorem rxw_382 : (Jvm.Cond.code ({ cls := "java/lang/Math", name := "max", desc := "(II)I" } : Jvm.MethodName) prog_9_method_65_code (2 : Nat) (Option.some Jvm.ClassFile.FieldType.int)) ∈ rx_all := rx_inT (i := 382) rfl rfl
set_option maxRecDepth 100000 in
theorem rxw_380 : (Jvm.Cond.methodLink "AngleChains$Deduction" (194 : Nat) ({ cls := "java/lang/Math", name := "max", desc := "(II)I" } : Jvm.MethodName)) ∈ rx_all := rx_inT (i := 380) rfl rfl
set_option maxRecDepth 100000 in
theorem rxw_378 : (Jvm.Cond.static ({ cls := "java/lang/Math", name := "min", desc := "(II)I" } : Jvm.MethodName)) ∈ rx_all := rx_inT (i := 378) rfl rfl
set_option maxRecDepth 100000 in
theorem rxw_379 : (Jvm.Cond.code ({ cls := "java/lang/Math", name := "min", desc := "(II)I" } : Jvm.MethodName) prog_9_method_69_code (2 : Nat) (Option.some Jvm.ClassFile.FieldType.int)) ∈ rx_all := rx_inT (i := 379) rfl rfl
set_option maxRecDepth 100000 in
theorem rxw_377 : (Jvm.Cond.methodLink "AngleChains$Deduction" (189 : Nat) ({ cls := "java/lang/Math", name := "min", desc := "(II)I" } : Jvm.MethodName)) ∈ rx_all := rx_inT (i := 377) rfl rfl
set_option maxRecDepth 100000 in
theorem rxw_51 : (Jvm.Cond.classLink "AngleChains$Rows" (9 : Nat) "[[J") ∈ rx_all := rx_inT (i := 51) rfl rfl
set_option maxRecDepth 100000 in
theorem rxn_52 : (Jvm.Cond.arrayOver (Jvm.ClassFile.FieldType.array Jvm.ClassFile.FieldType.long)) ∈ rx_nst := rx_inN (i := 52) rfl rfl
set_option maxRecDepth 100000 in
theorem rxw_68 : (Jvm.Cond.arrayClass Jvm.ClassFile.FieldType.long) ∈ rx_all := rx_inT (i := 68) rfl rfl
set_option maxRecDepth 100000 in
theorem rxw_38 : (Jvm.Cond.arrayClass Jvm.ClassFile.FieldType.int) ∈ rx_all := rx_inT (i := 38) rfl rfl
set_option maxRecDepth 100000 in
theorem rxw_642 : (Jvm.Cond.arrayClass Jvm.ClassFile.FieldType.boolean) ∈ rx_all := rx_inT (i := 642) rfl rfl
end
section
section RXX
variable {all nst : List Cond} {cl : List vw_C} {own C : String} {T : u_T} {N ix ci k : Nat} {ty : FieldType}
theorem rx_gf0 (hc : cl[ci]? = some (C, T, N)) (hk : k < N) (hp : parseFieldDescriptor (T k).2.2.1 = some ty) (hf : (T k).2.2.2 = false) (hl : Cond.fieldLink own ix (T k).1 (T k).2.1 (T k).2.2.1 ∈ all ∨ ∃ host : String, Cond.fieldLinkNest own ix (T k).1 (T k).2.1 (T k).2.2.1 host ∈ nst) : rx_GF all nst cl own ix ci k ty 0 := ⟨C, T, N, hc, hk, hp, fun _ => hf, fun h => absurd h (by decide), hl⟩
theorem rx_gf1 (hc : cl[ci]? = some (C, T, N)) (hk : k < N) (hp : parseFieldDescriptor (T k).2.2.1 = some ty) (hf : (T k).2.2.2 = true) (ho : (T k).1 = own) (hl : Cond.fieldLink own ix (T k).1 (T k).2.1 (T k).2.2.1 ∈ all) : rx_GF all nst cl own ix ci k ty 1 := ⟨C, T, N, hc, hk, hp, fun h => absurd h (by decide), fun _ => ⟨hf, ho, hl⟩, Or.inl hl⟩
theorem rx_gf2 (hc : cl[ci]? = some (C, T, N)) (hk : k < N) (hp : parseFieldDescriptor (T k).2.2.1 = some ty) (hl : Cond.fieldLink own ix (T k).1 (T k).2.1 (T k).2.2.1 ∈ all ∨ ∃ host : String, Cond.fieldLinkNest own ix (T k).1 (T k).2.1 (T k).2.2.1 host ∈ nst) : rx_GF all nst cl own ix ci k ty 2 := ⟨C, T, N, hc, hk, hp, fun h => absurd h (by decide), fun h => absurd h (by decide), hl⟩
theorem rx_gk {ms : List rx_M} {j : Nat} {M0 : rx_M} (h0 : ms[j]? = some M0) (g : rx_GM all cl M0) (gl : rx_GL all nst own ix (rx_My M0)) : ∀ M, ms[j]? = some M → rx_GM all cl M ∧ rx_GL all nst own ix (rx_My M) := by
  intro M hM
  cases h0.symm.trans hM
  exact ⟨g, gl⟩
theorem rx_gk0 {ms : List rx_M} {j : Nat} (h0 : ms[j]? = none) : ∀ M, ms[j]? = some M → rx_GM all cl M ∧ rx_GL all nst own ix (rx_My M) := by
  intro M hM
  cases h0.symm.trans hM
end RXX
theorem rx_u0 : ∀ k, k < 8 → u_lay "AngleChains" rx_T0 k ∈ rx_all := lt_s (lt_s (lt_s (lt_s (lt_s (lt_s (lt_s (lt_s (lt_0) rxw_135) rxw_137) rxw_139) rxw_141) rxw_143) rxw_145) rxw_147) rxw_149
theorem rx_p0 : ∀ k, k < 8 → parseFieldDescriptor (rx_T0 k).2.2.1 = some (rx_y0 k) := by decide +kernel
theorem rx_g0 : rx_GC rx_all ("AngleChains", rx_T0, 8) := ⟨fun w hw => by obtain ⟨k, hk, rfl⟩ := List.mem_map.mp hw; exact rx_u0 k (List.mem_range.mp hk), ⟨rx_y0, rx_p0⟩, (by decide +kernel : ∀ a, a < 8 → ∀ b, b < 8 → a ≠ b → (rx_T0 a).2.1 ≠ (rx_T0 b).2.1), rxw_12, rxw_1⟩
theorem rx_u1 : ∀ k, k < 3 → u_lay "AngleChains$Figure" rx_T1 k ∈ rx_all := lt_s (lt_s (lt_s (lt_0) rxw_31) rxw_33) rxw_35
theorem rx_p1 : ∀ k, k < 3 → parseFieldDescriptor (rx_T1 k).2.2.1 = some (rx_y1 k) := by decide +kernel
theorem rx_g1 : rx_GC rx_all ("AngleChains$Figure", rx_T1, 3) := ⟨fun w hw => by obtain ⟨k, hk, rfl⟩ := List.mem_map.mp hw; exact rx_u1 k (List.mem_range.mp hk), ⟨rx_y1, rx_p1⟩, (by decide +kernel : ∀ a, a < 3 → ∀ b, b < 3 → a ≠ b → (rx_T1 a).2.1 ≠ (rx_T1 b).2.1), rxw_20, rxw_2⟩
theorem rx_u2 : ∀ k, k < 13 → u_lay "AngleChains$Deduction" rx_T2 k ∈ rx_all := lt_s (lt_s (lt_s (lt_s (lt_s (lt_s (lt_s (lt_s (lt_s (lt_s (lt_s (lt_s (lt_s (lt_0) rxw_100) rxw_102) rxw_104) rxw_106) rxw_108) rxw_110) rxw_112) rxw_114) rxw_116) rxw_118) rxw_120) rxw_122) rxw_124
theorem rx_p2 : ∀ k, k < 13 → parseFieldDescriptor (rx_T2 k).2.2.1 = some (rx_y2 k) := by decide +kernel
theorem rx_g2 : rx_GC rx_all ("AngleChains$Deduction", rx_T2, 13) := ⟨fun w hw => by obtain ⟨k, hk, rfl⟩ := List.mem_map.mp hw; exact rx_u2 k (List.mem_range.mp hk), ⟨rx_y2, rx_p2⟩, (by decide +kernel : ∀ a, a < 13 → ∀ b, b < 13 → a ≠ b → (rx_T2 a).2.1 ≠ (rx_T2 b).2.1), rxw_40, rxw_3⟩
theorem rx_u3 : ∀ k, k < 4 → u_lay "AngleChains$Rows" rx_T3 k ∈ rx_all := lt_s (lt_s (lt_s (lt_s (lt_0) rxw_59) rxw_61) rxw_63) rxw_65
theorem rx_p3 : ∀ k, k < 4 → parseFieldDescriptor (rx_T3 k).2.2.1 = some (rx_y3 k) := by decide +kernel
theorem rx_g3 : rx_GC rx_all ("AngleChains$Rows", rx_T3, 4) := ⟨fun w hw => by obtain ⟨k, hk, rfl⟩ := List.mem_map.mp hw; exact rx_u3 k (List.mem_range.mp hk), ⟨rx_y3, rx_p3⟩, (by decide +kernel : ∀ a, a < 4 → ∀ b, b < 4 → a ≠ b → (rx_T3 a).2.1 ≠ (rx_T3 b).2.1), rxw_46, rxw_4⟩
theorem rx_u4 : ∀ k, k < 3 → u_lay "AngleChains$Cases" rx_T4 k ∈ rx_all := lt_s (lt_s (lt_s (lt_0) rxw_80) rxw_82) rxw_84
theorem rx_p4 : ∀ k, k < 3 → parseFieldDescriptor (rx_T4 k).2.2.1 = some (rx_y4 k) := by decide +kernel
theorem rx_g4 : rx_GC rx_all ("AngleChains$Cases", rx_T4, 3) := ⟨fun w hw => by obtain ⟨k, hk, rfl⟩ := List.mem_map.mp hw; exact rx_u4 k (List.mem_range.mp hk), ⟨rx_y4, rx_p4⟩, (by decide +kernel : ∀ a, a < 3 → ∀ b, b < 3 → a ≠ b → (rx_T4 a).2.1 ≠ (rx_T4 b).2.1), rxw_70, rxw_5⟩
theorem rx_u5 : ∀ k, k < 34 → u_lay "AngleChainsModel" rx_T5 k ∈ rx_all := lt_s (lt_s (lt_s (lt_s (lt_s (lt_s (lt_s (lt_s (lt_s (lt_s (lt_s (lt_s (lt_s (lt_s (lt_s (lt_s (lt_s (lt_s (lt_s (lt_s (lt_s (lt_s (lt_s (lt_s (lt_s (lt_s (lt_s (lt_s (lt_s (lt_s (lt_s (lt_s (lt_s (lt_s (lt_0) rxw_573) rxw_575) rxw_577) rxw_579) rxw_581) rxw_583) rxw_585) rxw_587) rxw_589) rxw_591) rxw_593) rxw_595) rxw_597) rxw_599) rxw_601) rxw_603) rxw_605) rxw_607) rxw_609) rxw_611) rxw_613) rxw_615) rxw_617) rxw_619) rxw_621) rxw_623) rxw_625) rxw_627) rxw_629) rxw_631) rxw_633) rxw_635) rxw_637) rxw_639
theorem rx_p5 : ∀ k, k < 34 → parseFieldDescriptor (rx_T5 k).2.2.1 = some (rx_y5 k) := by decide +kernel
theorem rx_g5 : rx_GC rx_all ("AngleChainsModel", rx_T5, 34) := ⟨fun w hw => by obtain ⟨k, hk, rfl⟩ := List.mem_map.mp hw; exact rx_u5 k (List.mem_range.mp hk), ⟨rx_y5, rx_p5⟩, (by decide +kernel : ∀ a, a < 34 → ∀ b, b < 34 → a ≠ b → (rx_T5 a).2.1 ≠ (rx_T5 b).2.1), rxw_534, rxw_6⟩
theorem rx_GC0 : ∀ (ci : Nat) (q : vw_C), rx_cl[ci]? = some q → rx_GC rx_all q := fun _ q h => (rx_fc rx_g0 (rx_fc rx_g1 (rx_fc rx_g2 (rx_fc rx_g3 (rx_fc rx_g4 (rx_fc rx_g5 (rx_fn)))))) : ∀ q ∈ rx_cl, rx_GC rx_all q) q (List.mem_of_getElem? h)
theorem rx_gm1 : rx_GM rx_all rx_cl rxm_1 := ⟨rxw_15, rxw_1, ⟨by decide +kernel, by decide +kernel⟩, by decide +kernel, by decide +kernel, (fun h => absurd h (by decide)), (fun h => absurd h (by decide)), (fun _ => ⟨rxw_14, rfl, rfl⟩)⟩
theorem rx_gm2 : rx_GM rx_all rx_cl rxm_2 := ⟨rxw_23, rxw_2, ⟨by decide +kernel, by decide +kernel⟩, by decide +kernel, by decide +kernel, (fun h => absurd h (by decide)), (fun h => absurd h (by decide)), (fun _ => ⟨rxw_22, rfl, rfl⟩)⟩
theorem rx_gm3 : rx_GM rx_all rx_cl rxm_3 := ⟨rxw_43, rxw_3, ⟨by decide +kernel, by decide +kernel⟩, by decide +kernel, by decide +kernel, (fun h => absurd h (by decide)), (fun h => absurd h (by decide)), (fun _ => ⟨rxw_42, rfl, rfl⟩)⟩
theorem rx_gm4 : rx_GM rx_all rx_cl rxm_4 := ⟨rxw_49, rxw_4, ⟨by decide +kernel, by decide +kernel⟩, by decide +kernel, by decide +kernel, (fun h => absurd h (by decide)), (fun h => absurd h (by decide)), (fun _ => ⟨rxw_48, rfl, rfl⟩)⟩
theorem rx_gm5 : rx_GM rx_all rx_cl rxm_5 := ⟨rxw_73, rxw_5, ⟨by decide +kernel, by decide +kernel⟩, by decide +kernel, by decide +kernel, (fun h => absurd h (by decide)), (fun h => absurd h (by decide)), (fun _ => ⟨rxw_72, rfl, rfl⟩)⟩
theorem rx_gm6 : rx_GM rx_all rx_cl rxm_6 := ⟨rxw_155, rxw_1, ⟨by decide +kernel, by decide +kernel⟩, by decide +kernel, by decide +kernel, (fun h => absurd h (by decide)), (fun _ => ⟨rxw_153, _, rfl, rxw_154⟩), (fun h => absurd h (by decide))⟩
theorem rx_gm7 : rx_GM rx_all rx_cl rxm_7 := ⟨rxw_159, rxw_2, ⟨by decide +kernel, by decide +kernel⟩, by decide +kernel, by decide +kernel, (fun h => absurd h (by decide)), (fun _ => ⟨rxw_157, _, rfl, rxw_158⟩), (fun h => absurd h (by decide))⟩
theorem rx_gm8 : rx_GM rx_all rx_cl rxm_8 := ⟨rxw_162, rxw_2, ⟨by decide +kernel, by decide +kernel⟩, by decide +kernel, by decide +kernel, fun _ => rxw_161, (fun h => absurd h (by decide)), (fun h => absurd h (by decide))⟩
theorem rx_gm9 : rx_GM rx_all rx_cl rxm_9 := ⟨rxw_166, rxw_2, ⟨by decide +kernel, by decide +kernel⟩, by decide +kernel, by decide +kernel, (fun h => absurd h (by decide)), (fun _ => ⟨rxw_164, _, rfl, rxw_165⟩), (fun h => absurd h (by decide))⟩
theorem rx_gm10 : rx_GM rx_all rx_cl rxm_10 := ⟨rxw_170, rxw_1, ⟨by decide +kernel, by decide +kernel⟩, by decide +kernel, by decide +kernel, (fun h => absurd h (by decide)), (fun _ => ⟨rxw_168, _, rfl, rxw_169⟩), (fun h => absurd h (by decide))⟩
theorem rx_gm11 : rx_GM rx_all rx_cl rxm_11 := ⟨rxw_174, rxw_2, ⟨by decide +kernel, by decide +kernel⟩, by decide +kernel, by decide +kernel, (fun h => absurd h (by decide)), (fun _ => ⟨rxw_172, _, rfl, rxw_173⟩), (fun h => absurd h (by decide))⟩
theorem rx_gm12 : rx_GM rx_all rx_cl rxm_12 := ⟨rxw_178, rxw_1, ⟨by decide +kernel, by decide +kernel⟩, by decide +kernel, by decide +kernel, (fun h => absurd h (by decide)), (fun _ => ⟨rxw_176, _, rfl, rxw_177⟩), (fun h => absurd h (by decide))⟩
theorem rx_gm13 : rx_GM rx_all rx_cl rxm_13 := ⟨rxw_182, rxw_1, ⟨by decide +kernel, by decide +kernel⟩, by decide +kernel, by decide +kernel, (fun h => absurd h (by decide)), (fun _ => ⟨rxw_181, _, rfl, rxs_0⟩), (fun h => absurd h (by decide))⟩
theorem rx_gm14 : rx_GM rx_all rx_cl rxm_14 := ⟨rxw_187, rxw_1, ⟨by decide +kernel, by decide +kernel⟩, by decide +kernel, by decide +kernel, fun _ => rxw_186, (fun h => absurd h (by decide)), (fun h => absurd h (by decide))⟩
theorem rx_gm15 : rx_GM rx_all rx_cl rxm_15 := ⟨rxw_190, rxw_1, ⟨by decide +kernel, by decide +kernel⟩, by decide +kernel, by decide +kernel, fun _ => rxw_189, (fun h => absurd h (by decide)), (fun h => absurd h (by decide))⟩
theorem rx_gm16 : rx_GM rx_all rx_cl rxm_16 := ⟨rxw_193, rxw_7, ⟨by decide +kernel, by decide +kernel⟩, by decide +kernel, by decide +kernel, fun _ => rxw_192, (fun h => absurd h (by decide)), (fun h => absurd h (by decide))⟩
theorem rx_gm17 : rx_GM rx_all rx_cl rxm_17 := ⟨rxw_199, rxw_1, ⟨by decide +kernel, by decide +kernel⟩, by decide +kernel, by decide +kernel, fun _ => rxw_198, (fun h => absurd h (by decide)), (fun h => absurd h (by decide))⟩
theorem rx_gm18 : rx_GM rx_all rx_cl rxm_18 := ⟨rxw_203, rxw_2, ⟨by decide +kernel, by decide +kernel⟩, by decide +kernel, by decide +kernel, (fun h => absurd h (by decide)), (fun _ => ⟨rxw_201, _, rfl, rxw_202⟩), (fun h => absurd h (by decide))⟩
theorem rx_gm19 : rx_GM rx_all rx_cl rxm_19 := ⟨rxw_207, rxw_1, ⟨by decide +kernel, by decide +kernel⟩, by decide +kernel, by decide +kernel, fun _ => rxw_206, (fun h => absurd h (by decide)), (fun h => absurd h (by decide))⟩
theorem rx_gm20 : rx_GM rx_all rx_cl rxm_20 := ⟨rxw_211, rxw_2, ⟨by decide +kernel, by decide +kernel⟩, by decide +kernel, by decide +kernel, (fun h => absurd h (by decide)), (fun _ => ⟨rxw_209, _, rfl, rxw_210⟩), (fun h => absurd h (by decide))⟩
theorem rx_gm21 : rx_GM rx_all rx_cl rxm_21 := ⟨rxw_215, rxw_2, ⟨by decide +kernel, by decide +kernel⟩, by decide +kernel, by decide +kernel, (fun h => absurd h (by decide)), (fun _ => ⟨rxw_213, _, rfl, rxw_214⟩), (fun h => absurd h (by decide))⟩
theorem rx_gm22 : rx_GM rx_all rx_cl rxm_22 := ⟨rxw_219, rxw_2, ⟨by decide +kernel, by decide +kernel⟩, by decide +kernel, by decide +kernel, (fun h => absurd h (by decide)), (fun _ => ⟨rxw_217, _, rfl, rxw_218⟩), (fun h => absurd h (by decide))⟩
theorem rx_gm23 : rx_GM rx_all rx_cl rxm_23 := ⟨rxw_223, rxw_2, ⟨by decide +kernel, by decide +kernel⟩, by decide +kernel, by decide +kernel, (fun h => absurd h (by decide)), (fun _ => ⟨rxw_221, _, rfl, rxw_222⟩), (fun h => absurd h (by decide))⟩
theorem rx_gm24 : rx_GM rx_all rx_cl rxm_24 := ⟨rxw_227, rxw_2, ⟨by decide +kernel, by decide +kernel⟩, by decide +kernel, by decide +kernel, (fun h => absurd h (by decide)), (fun _ => ⟨rxw_225, _, rfl, rxw_226⟩), (fun h => absurd h (by decide))⟩
theorem rx_gm25 : rx_GM rx_all rx_cl rxm_25 := ⟨rxw_231, rxw_2, ⟨by decide +kernel, by decide +kernel⟩, by decide +kernel, by decide +kernel, (fun h => absurd h (by decide)), (fun _ => ⟨rxw_229, _, rfl, rxw_230⟩), (fun h => absurd h (by decide))⟩
theorem rx_gm26 : rx_GM rx_all rx_cl rxm_26 := ⟨rxw_235, rxw_2, ⟨by decide +kernel, by decide +kernel⟩, by decide +kernel, by decide +kernel, (fun h => absurd h (by decide)), (fun _ => ⟨rxw_234, _, rfl, rxs_1⟩), (fun h => absurd h (by decide))⟩
theorem rx_gm27 : rx_GM rx_all rx_cl rxm_27 := ⟨rxw_239, rxw_1, ⟨by decide +kernel, by decide +kernel⟩, by decide +kernel, by decide +kernel, (fun h => absurd h (by decide)), (fun _ => ⟨rxw_237, _, rfl, rxw_238⟩), (fun h => absurd h (by decide))⟩
theorem rx_gm28 : rx_GM rx_all rx_cl rxm_28 := ⟨rxw_243, rxw_1, ⟨by decide +kernel, by decide +kernel⟩, by decide +kernel, by decide +kernel, (fun h => absurd h (by decide)), (fun _ => ⟨rxw_241, _, rfl, rxw_242⟩), (fun h => absurd h (by decide))⟩
theorem rx_gm29 : rx_GM rx_all rx_cl rxm_29 := ⟨rxw_247, rxw_1, ⟨by decide +kernel, by decide +kernel⟩, by decide +kernel, by decide +kernel, (fun h => absurd h (by decide)), (fun _ => ⟨rxw_245, _, rfl, rxw_246⟩), (fun h => absurd h (by decide))⟩
theorem rx_gm30 : rx_GM rx_all rx_cl rxm_30 := ⟨rxw_251, rxw_3, ⟨by decide +kernel, by decide +kernel⟩, by decide +kernel, by decide +kernel, (fun h => absurd h (by decide)), (fun _ => ⟨rxw_249, _, rfl, rxw_250⟩), (fun h => absurd h (by decide))⟩
theorem rx_gm31 : rx_GM rx_all rx_cl rxm_31 := ⟨rxw_255, rxw_5, ⟨by decide +kernel, by decide +kernel⟩, by decide +kernel, by decide +kernel, (fun h => absurd h (by decide)), (fun _ => ⟨rxw_253, _, rfl, rxw_254⟩), (fun h => absurd h (by decide))⟩
theorem rx_gm32 : rx_GM rx_all rx_cl rxm_32 := ⟨rxw_259, rxw_5, ⟨by decide +kernel, by decide +kernel⟩, by decide +kernel, by decide +kernel, (fun h => absurd h (by decide)), (fun _ => ⟨rxw_258, _, rfl, rxs_2⟩), (fun h => absurd h (by decide))⟩
theorem rx_gm33 : rx_GM rx_all rx_cl rxm_33 := ⟨rxw_264, rxw_5, ⟨by decide +kernel, by decide +kernel⟩, by decide +kernel, by decide +kernel, (fun h => absurd h (by decide)), (fun _ => ⟨rxw_263, _, rfl, rxs_3⟩), (fun h => absurd h (by decide))⟩
theorem rx_gm34 : rx_GM rx_all rx_cl rxm_34 := ⟨rxw_268, rxw_5, ⟨by decide +kernel, by decide +kernel⟩, by decide +kernel, by decide +kernel, (fun h => absurd h (by decide)), (fun _ => ⟨rxw_267, _, rfl, rxs_4⟩), (fun h => absurd h (by decide))⟩
theorem rx_gm35 : rx_GM rx_all rx_cl rxm_35 := ⟨rxw_273, rxw_5, ⟨by decide +kernel, by decide +kernel⟩, by decide +kernel, by decide +kernel, (fun h => absurd h (by decide)), (fun _ => ⟨rxw_272, _, rfl, rxs_5⟩), (fun h => absurd h (by decide))⟩
theorem rx_gm36 : rx_GM rx_all rx_cl rxm_36 := ⟨rxw_277, rxw_2, ⟨by decide +kernel, by decide +kernel⟩, by decide +kernel, by decide +kernel, (fun h => absurd h (by decide)), (fun _ => ⟨rxw_275, _, rfl, rxw_276⟩), (fun h => absurd h (by decide))⟩
theorem rx_gm37 : rx_GM rx_all rx_cl rxm_37 := ⟨rxw_281, rxw_5, ⟨by decide +kernel, by decide +kernel⟩, by decide +kernel, by decide +kernel, (fun h => absurd h (by decide)), (fun _ => ⟨rxw_280, _, rfl, rxs_6⟩), (fun h => absurd h (by decide))⟩
theorem rx_gm38 : rx_GM rx_all rx_cl rxm_38 := ⟨rxw_286, rxw_5, ⟨by decide +kernel, by decide +kernel⟩, by decide +kernel, by decide +kernel, (fun h => absurd h (by decide)), (fun _ => ⟨rxw_285, _, rfl, rxs_7⟩), (fun h => absurd h (by decide))⟩
theorem rx_gm39 : rx_GM rx_all rx_cl rxm_39 := ⟨rxw_290, rxw_5, ⟨by decide +kernel, by decide +kernel⟩, by decide +kernel, by decide +kernel, (fun h => absurd h (by decide)), (fun _ => ⟨rxw_289, _, rfl, rxs_8⟩), (fun h => absurd h (by decide))⟩
theorem rx_gm40 : rx_GM rx_all rx_cl rxm_40 := ⟨rxw_294, rxw_2, ⟨by decide +kernel, by decide +kernel⟩, by decide +kernel, by decide +kernel, (fun h => absurd h (by decide)), (fun _ => ⟨rxw_292, _, rfl, rxw_293⟩), (fun h => absurd h (by decide))⟩
theorem rx_gm41 : rx_GM rx_all rx_cl rxm_41 := ⟨rxw_298, rxw_3, ⟨by decide +kernel, by decide +kernel⟩, by decide +kernel, by decide +kernel, (fun h => absurd h (by decide)), (fun _ => ⟨rxw_297, _, rfl, rxs_9⟩), (fun h => absurd h (by decide))⟩
theorem rx_gm42 : rx_GM rx_all rx_cl rxm_42 := ⟨rxw_302, rxw_4, ⟨by decide +kernel, by decide +kernel⟩, by decide +kernel, by decide +kernel, (fun h => absurd h (by decide)), (fun _ => ⟨rxw_300, _, rfl, rxw_301⟩), (fun h => absurd h (by decide))⟩
theorem rx_gm43 : rx_GM rx_all rx_cl rxm_43 := ⟨rxw_305, rxw_8, ⟨by decide +kernel, by decide +kernel⟩, by decide +kernel, by decide +kernel, fun _ => rxw_304, (fun h => absurd h (by decide)), (fun h => absurd h (by decide))⟩
theorem rx_gm44 : rx_GM rx_all rx_cl rxm_44 := ⟨rxw_313, rxw_3, ⟨by decide +kernel, by decide +kernel⟩, by decide +kernel, by decide +kernel, (fun h => absurd h (by decide)), (fun _ => ⟨rxw_312, _, rfl, rxs_10⟩), (fun h => absurd h (by decide))⟩
theorem rx_gm45 : rx_GM rx_all rx_cl rxm_45 := ⟨rxw_316, rxw_7, ⟨by decide +kernel, by decide +kernel⟩, by decide +kernel, by decide +kernel, fun _ => rxw_315, (fun h => absurd h (by decide)), (fun h => absurd h (by decide))⟩
theorem rx_gm46 : rx_GM rx_all rx_cl rxm_46 := ⟨rxw_320, rxw_7, ⟨by decide +kernel, by decide +kernel⟩, by decide +kernel, by decide +kernel, fun _ => rxw_319, (fun h => absurd h (by decide)), (fun h => absurd h (by decide))⟩
theorem rx_gm47 : rx_GM rx_all rx_cl rxm_47 := ⟨rxw_329, rxw_3, ⟨by decide +kernel, by decide +kernel⟩, by decide +kernel, by decide +kernel, (fun h => absurd h (by decide)), (fun _ => ⟨rxw_328, _, rfl, rxs_11⟩), (fun h => absurd h (by decide))⟩
theorem rx_gm48 : rx_GM rx_all rx_cl rxm_48 := ⟨rxw_335, rxw_3, ⟨by decide +kernel, by decide +kernel⟩, by decide +kernel, by decide +kernel, (fun h => absurd h (by decide)), (fun _ => ⟨rxw_334, _, rfl, rxs_12⟩), (fun h => absurd h (by decide))⟩
theorem rx_gm49 : rx_GM rx_all rx_cl rxm_49 := ⟨rxw_340, rxw_4, ⟨by decide +kernel, by decide +kernel⟩, by decide +kernel, by decide +kernel, (fun h => absurd h (by decide)), (fun _ => ⟨rxw_338, _, rfl, rxw_339⟩), (fun h => absurd h (by decide))⟩
theorem rx_gm50 : rx_GM rx_all rx_cl rxm_50 := ⟨rxw_344, rxw_4, ⟨by decide +kernel, by decide +kernel⟩, by decide +kernel, by decide +kernel, (fun h => absurd h (by decide)), (fun _ => ⟨rxw_342, _, rfl, rxw_343⟩), (fun h => absurd h (by decide))⟩
theorem rx_gm51 : rx_GM rx_all rx_cl rxm_51 := ⟨rxw_348, rxw_4, ⟨by decide +kernel, by decide +kernel⟩, by decide +kernel, by decide +kernel, (fun h => absurd h (by decide)), (fun _ => ⟨rxw_347, _, rfl, rxs_13⟩), (fun h => absurd h (by decide))⟩
theorem rx_gm52 : rx_GM rx_all rx_cl rxm_52 := ⟨rxw_352, rxw_4, ⟨by decide +kernel, by decide +kernel⟩, by decide +kernel, by decide +kernel, (fun h => absurd h (by decide)), (fun _ => ⟨rxw_351, _, rfl, rxs_14⟩), (fun h => absurd h (by decide))⟩
theorem rx_gm53 : rx_GM rx_all rx_cl rxm_53 := ⟨rxw_355, rxw_10, ⟨by decide +kernel, by decide +kernel⟩, by decide +kernel, by decide +kernel, fun _ => rxw_354, (fun h => absurd h (by decide)), (fun h => absurd h (by decide))⟩
theorem rx_gm54 : rx_GM rx_all rx_cl rxm_54 := ⟨rxw_359, rxw_4, ⟨by decide +kernel, by decide +kernel⟩, by decide +kernel, by decide +kernel, (fun h => absurd h (by decide)), (fun _ => ⟨rxw_358, _, rfl, rxs_15⟩), (fun h => absurd h (by decide))⟩
theorem rx_gm55 : rx_GM rx_all rx_cl rxm_55 := ⟨rxw_364, rxw_3, ⟨by decide +kernel, by decide +kernel⟩, by decide +kernel, by decide +kernel, (fun h => absurd h (by decide)), (fun _ => ⟨rxw_363, _, rfl, rxs_16⟩), (fun h => absurd h (by decide))⟩
theorem rx_gm56 : rx_GM rx_all rx_cl rxm_56 := ⟨rxw_367, rxw_1, ⟨by decide +kernel, by decide +kernel⟩, by decide +kernel, by decide +kernel, fun _ => rxw_366, (fun h => absurd h (by decide)), (fun h => absurd h (by decide))⟩
theorem rx_gm57 : rx_GM rx_all rx_cl rxm_57 := ⟨rxw_370, rxw_1, ⟨by decide +kernel, by decide +kernel⟩, by decide +kernel, by decide +kernel, fun _ => rxw_369, (fun h => absurd h (by decide)), (fun h => absurd h (by decide))⟩
theorem rx_gm58 : rx_GM rx_all rx_cl rxm_58 := ⟨rxw_376, rxw_3, ⟨by decide +kernel, by decide +kernel⟩, by decide +kernel, by decide +kernel, (fun h => absurd h (by decide)), (fun _ => ⟨rxw_375, _, rfl, rxs_17⟩), (fun h => absurd h (by decide))⟩
theorem rx_gm59 : rx_GM rx_all rx_cl rxm_59 := ⟨rxw_386, rxw_3, ⟨by decide +kernel, by decide +kernel⟩, by decide +kernel, by decide +kernel, (fun h => absurd h (by decide)), (fun _ => ⟨rxw_385, _, rfl, rxs_18⟩), (fun h => absurd h (by decide))⟩
theorem rx_gm60 : rx_GM rx_all rx_cl rxm_60 := ⟨rxw_390, rxw_3, ⟨by decide +kernel, by decide +kernel⟩, by decide +kernel, by decide +kernel, (fun h => absurd h (by decide)), (fun _ => ⟨rxw_389, _, rfl, rxs_19⟩), (fun h => absurd h (by decide))⟩
theorem rx_gm61 : rx_GM rx_all rx_cl rxm_61 := ⟨rxw_394, rxw_3, ⟨by decide +kernel, by decide +kernel⟩, by decide +kernel, by decide +kernel, (fun h => absurd h (by decide)), (fun _ => ⟨rxw_393, _, rfl, rxs_20⟩), (fun h => absurd h (by decide))⟩
theorem rx_gm62 : rx_GM rx_all rx_cl rxm_62 := ⟨rxw_398, rxw_4, ⟨by decide +kernel, by decide +kernel⟩, by decide +kernel, by decide +kernel, (fun h => absurd h (by decide)), (fun _ => ⟨rxw_396, _, rfl, rxw_397⟩), (fun h => absurd h (by decide))⟩
theorem rx_gm63 : rx_GM rx_all rx_cl rxm_63 := ⟨rxw_402, rxw_3, ⟨by decide +kernel, by decide +kernel⟩, by decide +kernel, by decide +kernel, (fun h => absurd h (by decide)), (fun _ => ⟨rxw_401, _, rfl, rxs_21⟩), (fun h => absurd h (by decide))⟩
theorem rx_gm64 : rx_GM rx_all rx_cl rxm_64 := ⟨rxw_406, rxw_3, ⟨by decide +kernel, by decide +kernel⟩, by decide +kernel, by decide +kernel, (fun h => absurd h (by decide)), (fun _ => ⟨rxw_405, _, rfl, rxs_22⟩), (fun h => absurd h (by decide))⟩
theorem rx_gm65 : rx_GM rx_all rx_cl rxm_65 := ⟨rxw_410, rxw_3, ⟨by decide +kernel, by decide +kernel⟩, by decide +kernel, by decide +kernel, (fun h => absurd h (by decide)), (fun _ => ⟨rxw_409, _, rfl, rxs_23⟩), (fun h => absurd h (by decide))⟩
theorem rx_gm66 : rx_GM rx_all rx_cl rxm_66 := ⟨rxw_415, rxw_3, ⟨by decide +kernel, by decide +kernel⟩, by decide +kernel, by decide +kernel, (fun h => absurd h (by decide)), (fun _ => ⟨rxw_414, _, rfl, rxs_24⟩), (fun h => absurd h (by decide))⟩
theorem rx_gm67 : rx_GM rx_all rx_cl rxm_67 := ⟨rxw_419, rxw_4, ⟨by decide +kernel, by decide +kernel⟩, by decide +kernel, by decide +kernel, (fun h => absurd h (by decide)), (fun _ => ⟨rxw_417, _, rfl, rxw_418⟩), (fun h => absurd h (by decide))⟩
theorem rx_gm68 : rx_GM rx_all rx_cl rxm_68 := ⟨rxw_423, rxw_3, ⟨by decide +kernel, by decide +kernel⟩, by decide +kernel, by decide +kernel, (fun h => absurd h (by decide)), (fun _ => ⟨rxw_422, _, rfl, rxs_25⟩), (fun h => absurd h (by decide))⟩
theorem rx_gm69 : rx_GM rx_all rx_cl rxm_69 := ⟨rxw_427, rxw_3, ⟨by decide +kernel, by decide +kernel⟩, by decide +kernel, by decide +kernel, (fun h => absurd h (by decide)), (fun _ => ⟨rxw_426, _, rfl, rxs_26⟩), (fun h => absurd h (by decide))⟩
theorem rx_gm70 : rx_GM rx_all rx_cl rxm_70 := ⟨rxw_431, rxw_3, ⟨by decide +kernel, by decide +kernel⟩, by decide +kernel, by decide +kernel, (fun h => absurd h (by decide)), (fun _ => ⟨rxw_430, _, rfl, rxs_27⟩), (fun h => absurd h (by decide))⟩
theorem rx_gm71 : rx_GM rx_all rx_cl rxm_71 := ⟨rxw_435, rxw_3, ⟨by decide +kernel, by decide +kernel⟩, by decide +kernel, by decide +kernel, (fun h => absurd h (by decide)), (fun _ => ⟨rxw_434, _, rfl, rxs_28⟩), (fun h => absurd h (by decide))⟩
theorem rx_gm72 : rx_GM rx_all rx_cl rxm_72 := ⟨rxw_439, rxw_3, ⟨by decide +kernel, by decide +kernel⟩, by decide +kernel, by decide +kernel, (fun h => absurd h (by decide)), (fun _ => ⟨rxw_438, _, rfl, rxs_29⟩), (fun h => absurd h (by decide))⟩
theorem rx_gm73 : rx_GM rx_all rx_cl rxm_73 := ⟨rxw_443, rxw_3, ⟨by decide +kernel, by decide +kernel⟩, by decide +kernel, by decide +kernel, (fun h => absurd h (by decide)), (fun _ => ⟨rxw_442, _, rfl, rxs_30⟩), (fun h => absurd h (by decide))⟩
theorem rx_gm74 : rx_GM rx_all rx_cl rxm_74 := ⟨rxw_447, rxw_3, ⟨by decide +kernel, by decide +kernel⟩, by decide +kernel, by decide +kernel, (fun h => absurd h (by decide)), (fun _ => ⟨rxw_446, _, rfl, rxs_31⟩), (fun h => absurd h (by decide))⟩
theorem rx_gm75 : rx_GM rx_all rx_cl rxm_75 := ⟨rxw_451, rxw_3, ⟨by decide +kernel, by decide +kernel⟩, by decide +kernel, by decide +kernel, (fun h => absurd h (by decide)), (fun _ => ⟨rxw_450, _, rfl, rxs_32⟩), (fun h => absurd h (by decide))⟩
theorem rx_gm76 : rx_GM rx_all rx_cl rxm_76 := ⟨rxw_456, rxw_3, ⟨by decide +kernel, by decide +kernel⟩, by decide +kernel, by decide +kernel, (fun h => absurd h (by decide)), (fun _ => ⟨rxw_455, _, rfl, rxs_33⟩), (fun h => absurd h (by decide))⟩
theorem rx_gm77 : rx_GM rx_all rx_cl rxm_77 := ⟨rxw_460, rxw_3, ⟨by decide +kernel, by decide +kernel⟩, by decide +kernel, by decide +kernel, (fun h => absurd h (by decide)), (fun _ => ⟨rxw_459, _, rfl, rxs_34⟩), (fun h => absurd h (by decide))⟩
theorem rx_gm78 : rx_GM rx_all rx_cl rxm_78 := ⟨rxw_464, rxw_3, ⟨by decide +kernel, by decide +kernel⟩, by decide +kernel, by decide +kernel, (fun h => absurd h (by decide)), (fun _ => ⟨rxw_463, _, rfl, rxs_35⟩), (fun h => absurd h (by decide))⟩
theorem rx_gm79 : rx_GM rx_all rx_cl rxm_79 := ⟨rxw_468, rxw_3, ⟨by decide +kernel, by decide +kernel⟩, by decide +kernel, by decide +kernel, (fun h => absurd h (by decide)), (fun _ => ⟨rxw_467, _, rfl, rxs_36⟩), (fun h => absurd h (by decide))⟩
theorem rx_gm80 : rx_GM rx_all rx_cl rxm_80 := ⟨rxw_472, rxw_3, ⟨by decide +kernel, by decide +kernel⟩, by decide +kernel, by decide +kernel, (fun h => absurd h (by decide)), (fun _ => ⟨rxw_470, _, rfl, rxw_471⟩), (fun h => absurd h (by decide))⟩
theorem rx_gm81 : rx_GM rx_all rx_cl rxm_81 := ⟨rxw_476, rxw_1, ⟨by decide +kernel, by decide +kernel⟩, by decide +kernel, by decide +kernel, (fun h => absurd h (by decide)), (fun _ => ⟨rxw_474, _, rfl, rxw_475⟩), (fun h => absurd h (by decide))⟩
theorem rx_gm82 : rx_GM rx_all rx_cl rxm_82 := ⟨rxw_480, rxw_1, ⟨by decide +kernel, by decide +kernel⟩, by decide +kernel, by decide +kernel, (fun h => absurd h (by decide)), (fun _ => ⟨rxw_478, _, rfl, rxw_479⟩), (fun h => absurd h (by decide))⟩
theorem rx_gm83 : rx_GM rx_all rx_cl rxm_83 := ⟨rxw_484, rxw_1, ⟨by decide +kernel, by decide +kernel⟩, by decide +kernel, by decide +kernel, (fun h => absurd h (by decide)), (fun _ => ⟨rxw_482, _, rfl, rxw_483⟩), (fun h => absurd h (by decide))⟩
theorem rx_gm84 : rx_GM rx_all rx_cl rxm_84 := ⟨rxw_488, rxw_3, ⟨by decide +kernel, by decide +kernel⟩, by decide +kernel, by decide +kernel, (fun h => absurd h (by decide)), (fun _ => ⟨rxw_486, _, rfl, rxw_487⟩), (fun h => absurd h (by decide))⟩
theorem rx_gm85 : rx_GM rx_all rx_cl rxm_85 := ⟨rxw_492, rxw_1, ⟨by decide +kernel, by decide +kernel⟩, by decide +kernel, by decide +kernel, (fun h => absurd h (by decide)), (fun _ => ⟨rxw_490, _, rfl, rxw_491⟩), (fun h => absurd h (by decide))⟩
theorem rx_gm86 : rx_GM rx_all rx_cl rxm_86 := ⟨rxw_497, rxw_3, ⟨by decide +kernel, by decide +kernel⟩, by decide +kernel, by decide +kernel, (fun h => absurd h (by decide)), (fun _ => ⟨rxw_495, _, rfl, rxw_496⟩), (fun h => absurd h (by decide))⟩
theorem rx_gm87 : rx_GM rx_all rx_cl rxm_87 := ⟨rxw_501, rxw_1, ⟨by decide +kernel, by decide +kernel⟩, by decide +kernel, by decide +kernel, (fun h => absurd h (by decide)), (fun _ => ⟨rxw_499, _, rfl, rxw_500⟩), (fun h => absurd h (by decide))⟩
theorem rx_gm88 : rx_GM rx_all rx_cl rxm_88 := ⟨rxw_505, rxw_3, ⟨by decide +kernel, by decide +kernel⟩, by decide +kernel, by decide +kernel, (fun h => absurd h (by decide)), (fun _ => ⟨rxw_503, _, rfl, rxw_504⟩), (fun h => absurd h (by decide))⟩
theorem rx_gm89 : rx_GM rx_all rx_cl rxm_89 := ⟨rxw_509, rxw_1, ⟨by decide +kernel, by decide +kernel⟩, by decide +kernel, by decide +kernel, (fun h => absurd h (by decide)), (fun _ => ⟨rxw_507, _, rfl, rxw_508⟩), (fun h => absurd h (by decide))⟩
theorem rx_gm90 : rx_GM rx_all rx_cl rxm_90 := ⟨rxw_513, rxw_3, ⟨by decide +kernel, by decide +kernel⟩, by decide +kernel, by decide +kernel, (fun h => absurd h (by decide)), (fun _ => ⟨rxw_511, _, rfl, rxw_512⟩), (fun h => absurd h (by decide))⟩
theorem rx_gm91 : rx_GM rx_all rx_cl rxm_91 := ⟨rxw_517, rxw_3, ⟨by decide +kernel, by decide +kernel⟩, by decide +kernel, by decide +kernel, (fun h => absurd h (by decide)), (fun _ => ⟨rxw_516, _, rfl, rxs_37⟩), (fun h => absurd h (by decide))⟩
theorem rx_gm92 : rx_GM rx_all rx_cl rxm_92 := ⟨rxw_521, rxw_3, ⟨by decide +kernel, by decide +kernel⟩, by decide +kernel, by decide +kernel, (fun h => absurd h (by decide)), (fun _ => ⟨rxw_519, _, rfl, rxw_520⟩), (fun h => absurd h (by decide))⟩
theorem rx_gm93 : rx_GM rx_all rx_cl rxm_93 := ⟨rxw_524, rxw_7, ⟨by decide +kernel, by decide +kernel⟩, by decide +kernel, by decide +kernel, fun _ => rxw_523, (fun h => absurd h (by decide)), (fun h => absurd h (by decide))⟩
theorem rx_gm94 : rx_GM rx_all rx_cl rxm_94 := ⟨rxw_528, rxw_3, ⟨by decide +kernel, by decide +kernel⟩, by decide +kernel, by decide +kernel, (fun h => absurd h (by decide)), (fun _ => ⟨rxw_526, _, rfl, rxw_527⟩), (fun h => absurd h (by decide))⟩
theorem rx_gm95 : rx_GM rx_all rx_cl rxm_95 := ⟨rxw_532, rxw_3, ⟨by decide +kernel, by decide +kernel⟩, by decide +kernel, by decide +kernel, (fun h => absurd h (by decide)), (fun _ => ⟨rxw_530, _, rfl, rxw_531⟩), (fun h => absurd h (by decide))⟩
theorem rx_gm96 : rx_GM rx_all rx_cl rxm_96 := ⟨rxw_537, rxw_6, ⟨by decide +kernel, by decide +kernel⟩, by decide +kernel, by decide +kernel, (fun h => absurd h (by decide)), (fun h => absurd h (by decide)), (fun _ => ⟨rxw_536, rfl, rfl⟩)⟩
theorem rx_gm97 : rx_GM rx_all rx_cl rxm_97 := ⟨rxw_646, rxw_6, ⟨by decide +kernel, by decide +kernel⟩, by decide +kernel, by decide +kernel, (fun h => absurd h (by decide)), (fun _ => ⟨rxw_644, _, rfl, rxw_645⟩), (fun h => absurd h (by decide))⟩
theorem rx_gm98 : rx_GM rx_all rx_cl rxm_98 := ⟨rxw_650, rxw_6, ⟨by decide +kernel, by decide +kernel⟩, by decide +kernel, by decide +kernel, (fun h => absurd h (by decide)), (fun _ => ⟨rxw_648, _, rfl, rxw_649⟩), (fun h => absurd h (by decide))⟩
theorem rx_gm99 : rx_GM rx_all rx_cl rxm_99 := ⟨rxw_654, rxw_6, ⟨by decide +kernel, by decide +kernel⟩, by decide +kernel, by decide +kernel, (fun h => absurd h (by decide)), (fun _ => ⟨rxw_652, _, rfl, rxw_653⟩), (fun h => absurd h (by decide))⟩
theorem rx_gm100 : rx_GM rx_all rx_cl rxm_100 := ⟨rxw_658, rxw_6, ⟨by decide +kernel, by decide +kernel⟩, by decide +kernel, by decide +kernel, (fun h => absurd h (by decide)), (fun _ => ⟨rxw_657, _, rfl, rxs_38⟩), (fun h => absurd h (by decide))⟩
theorem rx_gm101 : rx_GM rx_all rx_cl rxm_101 := ⟨rxw_661, rxw_6, ⟨by decide +kernel, by decide +kernel⟩, by decide +kernel, by decide +kernel, fun _ => rxw_660, (fun h => absurd h (by decide)), (fun h => absurd h (by decide))⟩
theorem rx_gm102 : rx_GM rx_all rx_cl rxm_102 := ⟨rxw_665, rxw_6, ⟨by decide +kernel, by decide +kernel⟩, by decide +kernel, by decide +kernel, (fun h => absurd h (by decide)), (fun _ => ⟨rxw_664, _, rfl, rxs_39⟩), (fun h => absurd h (by decide))⟩
theorem rx_gm103 : rx_GM rx_all rx_cl rxm_103 := ⟨rxw_669, rxw_6, ⟨by decide +kernel, by decide +kernel⟩, by decide +kernel, by decide +kernel, (fun h => absurd h (by decide)), (fun _ => ⟨rxw_668, _, rfl, rxs_40⟩), (fun h => absurd h (by decide))⟩
theorem rx_gm104 : rx_GM rx_all rx_cl rxm_104 := ⟨rxw_673, rxw_6, ⟨by decide +kernel, by decide +kernel⟩, by decide +kernel, by decide +kernel, (fun h => absurd h (by decide)), (fun _ => ⟨rxw_672, _, rfl, rxs_41⟩), (fun h => absurd h (by decide))⟩
theorem rx_gm105 : rx_GM rx_all rx_cl rxm_105 := ⟨rxw_677, rxw_6, ⟨by decide +kernel, by decide +kernel⟩, by decide +kernel, by decide +kernel, (fun h => absurd h (by decide)), (fun _ => ⟨rxw_676, _, rfl, rxs_42⟩), (fun h => absurd h (by decide))⟩
theorem rx_gm106 : rx_GM rx_all rx_cl rxm_106 := ⟨rxw_681, rxw_6, ⟨by decide +kernel, by decide +kernel⟩, by decide +kernel, by decide +kernel, (fun h => absurd h (by decide)), (fun _ => ⟨rxw_680, _, rfl, rxs_43⟩), (fun h => absurd h (by decide))⟩
theorem rx_gm107 : rx_GM rx_all rx_cl rxm_107 := ⟨rxw_685, rxw_6, ⟨by decide +kernel, by decide +kernel⟩, by decide +kernel, by decide +kernel, (fun h => absurd h (by decide)), (fun _ => ⟨rxw_684, _, rfl, rxs_44⟩), (fun h => absurd h (by decide))⟩
theorem rx_gm108 : rx_GM rx_all rx_cl rxm_108 := ⟨rxw_689, rxw_6, ⟨by decide +kernel, by decide +kernel⟩, by decide +kernel, by decide +kernel, (fun h => absurd h (by decide)), (fun _ => ⟨rxw_688, _, rfl, rxs_45⟩), (fun h => absurd h (by decide))⟩
theorem rx_gm109 : rx_GM rx_all rx_cl rxm_109 := ⟨rxw_693, rxw_6, ⟨by decide +kernel, by decide +kernel⟩, by decide +kernel, by decide +kernel, (fun h => absurd h (by decide)), (fun _ => ⟨rxw_691, _, rfl, rxw_692⟩), (fun h => absurd h (by decide))⟩
theorem rx_gm110 : rx_GM rx_all rx_cl rxm_110 := ⟨rxw_697, rxw_6, ⟨by decide +kernel, by decide +kernel⟩, by decide +kernel, by decide +kernel, (fun h => absurd h (by decide)), (fun _ => ⟨rxw_695, _, rfl, rxw_696⟩), (fun h => absurd h (by decide))⟩
theorem rx_gm111 : rx_GM rx_all rx_cl rxm_111 := ⟨rxw_701, rxw_6, ⟨by decide +kernel, by decide +kernel⟩, by decide +kernel, by decide +kernel, (fun h => absurd h (by decide)), (fun _ => ⟨rxw_699, _, rfl, rxw_700⟩), (fun h => absurd h (by decide))⟩
theorem rx_gm112 : rx_GM rx_all rx_cl rxm_112 := ⟨rxw_705, rxw_6, ⟨by decide +kernel, by decide +kernel⟩, by decide +kernel, by decide +kernel, (fun h => absurd h (by decide)), (fun _ => ⟨rxw_704, _, rfl, rxs_46⟩), (fun h => absurd h (by decide))⟩
theorem rx_gm113 : rx_GM rx_all rx_cl rxm_113 := ⟨rxw_709, rxw_6, ⟨by decide +kernel, by decide +kernel⟩, by decide +kernel, by decide +kernel, (fun h => absurd h (by decide)), (fun _ => ⟨rxw_708, _, rfl, rxs_47⟩), (fun h => absurd h (by decide))⟩
theorem rx_gm114 : rx_GM rx_all rx_cl rxm_114 := ⟨rxw_713, rxw_6, ⟨by decide +kernel, by decide +kernel⟩, by decide +kernel, by decide +kernel, (fun h => absurd h (by decide)), (fun _ => ⟨rxw_712, _, rfl, rxs_48⟩), (fun h => absurd h (by decide))⟩
theorem rx_gm115 : rx_GM rx_all rx_cl rxm_115 := ⟨rxw_717, rxw_6, ⟨by decide +kernel, by decide +kernel⟩, by decide +kernel, by decide +kernel, (fun h => absurd h (by decide)), (fun _ => ⟨rxw_716, _, rfl, rxs_49⟩), (fun h => absurd h (by decide))⟩
theorem rx_gm116 : rx_GM rx_all rx_cl rxm_116 := ⟨rxw_721, rxw_6, ⟨by decide +kernel, by decide +kernel⟩, by decide +kernel, by decide +kernel, (fun h => absurd h (by decide)), (fun _ => ⟨rxw_720, _, rfl, rxs_50⟩), (fun h => absurd h (by decide))⟩
theorem rx_gm117 : rx_GM rx_all rx_cl rxm_117 := ⟨rxw_725, rxw_6, ⟨by decide +kernel, by decide +kernel⟩, by decide +kernel, by decide +kernel, (fun h => absurd h (by decide)), (fun _ => ⟨rxw_724, _, rfl, rxs_51⟩), (fun h => absurd h (by decide))⟩
theorem rx_gm118 : rx_GM rx_all rx_cl rxm_118 := ⟨rxw_730, rxw_6, ⟨by decide +kernel, by decide +kernel⟩, by decide +kernel, by decide +kernel, (fun h => absurd h (by decide)), (fun _ => ⟨rxw_729, _, rfl, rxs_52⟩), (fun h => absurd h (by decide))⟩
theorem rx_gm119 : rx_GM rx_all rx_cl rxm_119 := ⟨rxw_734, rxw_6, ⟨by decide +kernel, by decide +kernel⟩, by decide +kernel, by decide +kernel, (fun h => absurd h (by decide)), (fun _ => ⟨rxw_733, _, rfl, rxs_53⟩), (fun h => absurd h (by decide))⟩
theorem rx_gm120 : rx_GM rx_all rx_cl rxm_120 := ⟨rxw_738, rxw_6, ⟨by decide +kernel, by decide +kernel⟩, by decide +kernel, by decide +kernel, (fun h => absurd h (by decide)), (fun _ => ⟨rxw_737, _, rfl, rxs_54⟩), (fun h => absurd h (by decide))⟩
theorem rx_gm121 : rx_GM rx_all rx_cl rxm_121 := ⟨rxw_741, rxw_6, ⟨by decide +kernel, by decide +kernel⟩, by decide +kernel, by decide +kernel, fun _ => rxw_740, (fun h => absurd h (by decide)), (fun h => absurd h (by decide))⟩
theorem rx_gm122 : rx_GM rx_all rx_cl rxm_122 := ⟨rxw_745, rxw_6, ⟨by decide +kernel, by decide +kernel⟩, by decide +kernel, by decide +kernel, (fun h => absurd h (by decide)), (fun _ => ⟨rxw_744, _, rfl, rxs_55⟩), (fun h => absurd h (by decide))⟩
theorem rx_gm123 : rx_GM rx_all rx_cl rxm_123 := ⟨rxw_749, rxw_6, ⟨by decide +kernel, by decide +kernel⟩, by decide +kernel, by decide +kernel, (fun h => absurd h (by decide)), (fun _ => ⟨rxw_748, _, rfl, rxs_56⟩), (fun h => absurd h (by decide))⟩
theorem rx_gm124 : rx_GM rx_all rx_cl rxm_124 := ⟨rxw_753, rxw_6, ⟨by decide +kernel, by decide +kernel⟩, by decide +kernel, by decide +kernel, (fun h => absurd h (by decide)), (fun _ => ⟨rxw_752, _, rfl, rxs_57⟩), (fun h => absurd h (by decide))⟩
theorem rx_gm125 : rx_GM rx_all rx_cl rxm_125 := ⟨rxw_757, rxw_6, ⟨by decide +kernel, by decide +kernel⟩, by decide +kernel, by decide +kernel, (fun h => absurd h (by decide)), (fun _ => ⟨rxw_756, _, rfl, rxs_58⟩), (fun h => absurd h (by decide))⟩
theorem rx_gm126 : rx_GM rx_all rx_cl rxm_126 := ⟨rxw_761, rxw_6, ⟨by decide +kernel, by decide +kernel⟩, by decide +kernel, by decide +kernel, (fun h => absurd h (by decide)), (fun _ => ⟨rxw_760, _, rfl, rxs_59⟩), (fun h => absurd h (by decide))⟩
theorem rx_gm127 : rx_GM rx_all rx_cl rxm_127 := ⟨rxw_765, rxw_6, ⟨by decide +kernel, by decide +kernel⟩, by decide +kernel, by decide +kernel, (fun h => absurd h (by decide)), (fun _ => ⟨rxw_764, _, rfl, rxs_60⟩), (fun h => absurd h (by decide))⟩
theorem rx_gm128 : rx_GM rx_all rx_cl rxm_128 := ⟨rxw_769, rxw_6, ⟨by decide +kernel, by decide +kernel⟩, by decide +kernel, by decide +kernel, (fun h => absurd h (by decide)), (fun _ => ⟨rxw_768, _, rfl, rxs_61⟩), (fun h => absurd h (by decide))⟩
theorem rx_gm129 : rx_GM rx_all rx_cl rxm_129 := ⟨rxw_773, rxw_6, ⟨by decide +kernel, by decide +kernel⟩, by decide +kernel, by decide +kernel, (fun h => absurd h (by decide)), (fun _ => ⟨rxw_772, _, rfl, rxs_62⟩), (fun h => absurd h (by decide))⟩
theorem rx_gm130 : rx_GM rx_all rx_cl rxm_130 := ⟨rxw_777, rxw_6, ⟨by decide +kernel, by decide +kernel⟩, by decide +kernel, by decide +kernel, (fun h => absurd h (by decide)), (fun _ => ⟨rxw_776, _, rfl, rxs_63⟩), (fun h => absurd h (by decide))⟩
theorem rx_gm131 : rx_GM rx_all rx_cl rxm_131 := ⟨rxw_780, rxw_6, ⟨by decide +kernel, by decide +kernel⟩, by decide +kernel, by decide +kernel, fun _ => rxw_779, (fun h => absurd h (by decide)), (fun h => absurd h (by decide))⟩
theorem rx_gm132 : rx_GM rx_all rx_cl rxm_132 := ⟨rxw_784, rxw_6, ⟨by decide +kernel, by decide +kernel⟩, by decide +kernel, by decide +kernel, (fun h => absurd h (by decide)), (fun _ => ⟨rxw_783, _, rfl, rxs_64⟩), (fun h => absurd h (by decide))⟩
theorem rx_gm133 : rx_GM rx_all rx_cl rxm_133 := ⟨rxw_789, rxw_6, ⟨by decide +kernel, by decide +kernel⟩, by decide +kernel, by decide +kernel, (fun h => absurd h (by decide)), (fun _ => ⟨rxw_788, _, rfl, rxs_65⟩), (fun h => absurd h (by decide))⟩
theorem rx_gm134 : rx_GM rx_all rx_cl rxm_134 := ⟨rxw_793, rxw_6, ⟨by decide +kernel, by decide +kernel⟩, by decide +kernel, by decide +kernel, (fun h => absurd h (by decide)), (fun _ => ⟨rxw_792, _, rfl, rxs_66⟩), (fun h => absurd h (by decide))⟩
theorem rx_gm135 : rx_GM rx_all rx_cl rxm_135 := ⟨rxw_797, rxw_6, ⟨by decide +kernel, by decide +kernel⟩, by decide +kernel, by decide +kernel, (fun h => absurd h (by decide)), (fun _ => ⟨rxw_796, _, rfl, rxs_67⟩), (fun h => absurd h (by decide))⟩
theorem rx_gm136 : rx_GM rx_all rx_cl rxm_136 := ⟨rxw_801, rxw_6, ⟨by decide +kernel, by decide +kernel⟩, by decide +kernel, by decide +kernel, (fun h => absurd h (by decide)), (fun _ => ⟨rxw_800, _, rfl, rxs_68⟩), (fun h => absurd h (by decide))⟩
theorem rx_gm137 : rx_GM rx_all rx_cl rxm_137 := ⟨rxw_805, rxw_6, ⟨by decide +kernel, by decide +kernel⟩, by decide +kernel, by decide +kernel, (fun h => absurd h (by decide)), (fun _ => ⟨rxw_804, _, rfl, rxs_69⟩), (fun h => absurd h (by decide))⟩
theorem rx_gm138 : rx_GM rx_all rx_cl rxm_138 := ⟨rxw_809, rxw_6, ⟨by decide +kernel, by decide +kernel⟩, by decide +kernel, by decide +kernel, (fun h => absurd h (by decide)), (fun _ => ⟨rxw_808, _, rfl, rxs_70⟩), (fun h => absurd h (by decide))⟩
theorem rx_gm139 : rx_GM rx_all rx_cl rxm_139 := ⟨rxw_813, rxw_6, ⟨by decide +kernel, by decide +kernel⟩, by decide +kernel, by decide +kernel, (fun h => absurd h (by decide)), (fun _ => ⟨rxw_812, _, rfl, rxs_71⟩), (fun h => absurd h (by decide))⟩
theorem rx_gm140 : rx_GM rx_all rx_cl rxm_140 := ⟨rxw_820, rxw_6, ⟨by decide +kernel, by decide +kernel⟩, by decide +kernel, by decide +kernel, (fun h => absurd h (by decide)), (fun _ => ⟨rxw_819, _, rfl, rxs_72⟩), (fun h => absurd h (by decide))⟩
theorem rx_gm141 : rx_GM rx_all rx_cl rxm_141 := ⟨rxw_824, rxw_6, ⟨by decide +kernel, by decide +kernel⟩, by decide +kernel, by decide +kernel, (fun h => absurd h (by decide)), (fun _ => ⟨rxw_823, _, rfl, rxs_73⟩), (fun h => absurd h (by decide))⟩
theorem rx_gm142 : rx_GM rx_all rx_cl rxm_142 := ⟨rxw_828, rxw_6, ⟨by decide +kernel, by decide +kernel⟩, by decide +kernel, by decide +kernel, (fun h => absurd h (by decide)), (fun _ => ⟨rxw_827, _, rfl, rxs_74⟩), (fun h => absurd h (by decide))⟩
theorem rx_gm143 : rx_GM rx_all rx_cl rxm_143 := ⟨rxw_832, rxw_6, ⟨by decide +kernel, by decide +kernel⟩, by decide +kernel, by decide +kernel, (fun h => absurd h (by decide)), (fun _ => ⟨rxw_831, _, rfl, rxs_75⟩), (fun h => absurd h (by decide))⟩
theorem rx_gm144 : rx_GM rx_all rx_cl rxm_144 := ⟨rxw_836, rxw_6, ⟨by decide +kernel, by decide +kernel⟩, by decide +kernel, by decide +kernel, (fun h => absurd h (by decide)), (fun _ => ⟨rxw_835, _, rfl, rxs_76⟩), (fun h => absurd h (by decide))⟩
theorem rx_gm145 : rx_GM rx_all rx_cl rxm_145 := ⟨rxw_841, rxw_6, ⟨by decide +kernel, by decide +kernel⟩, by decide +kernel, by decide +kernel, (fun h => absurd h (by decide)), (fun _ => ⟨rxw_840, _, rfl, rxs_77⟩), (fun h => absurd h (by decide))⟩
theorem rx_gm146 : rx_GM rx_all rx_cl rxm_146 := ⟨rxw_845, rxw_6, ⟨by decide +kernel, by decide +kernel⟩, by decide +kernel, by decide +kernel, (fun h => absurd h (by decide)), (fun _ => ⟨rxw_844, _, rfl, rxs_78⟩), (fun h => absurd h (by decide))⟩
theorem rx_gm147 : rx_GM rx_all rx_cl rxm_147 := ⟨rxw_849, rxw_6, ⟨by decide +kernel, by decide +kernel⟩, by decide +kernel, by decide +kernel, (fun h => absurd h (by decide)), (fun _ => ⟨rxw_848, _, rfl, rxs_79⟩), (fun h => absurd h (by decide))⟩
theorem rx_gm148 : rx_GM rx_all rx_cl rxm_148 := ⟨rxw_853, rxw_6, ⟨by decide +kernel, by decide +kernel⟩, by decide +kernel, by decide +kernel, (fun h => absurd h (by decide)), (fun _ => ⟨rxw_852, _, rfl, rxs_80⟩), (fun h => absurd h (by decide))⟩
theorem rx_gm149 : rx_GM rx_all rx_cl rxm_149 := ⟨rxw_857, rxw_6, ⟨by decide +kernel, by decide +kernel⟩, by decide +kernel, by decide +kernel, (fun h => absurd h (by decide)), (fun _ => ⟨rxw_856, _, rfl, rxs_81⟩), (fun h => absurd h (by decide))⟩
theorem rx_gm150 : rx_GM rx_all rx_cl rxm_150 := ⟨rxw_861, rxw_6, ⟨by decide +kernel, by decide +kernel⟩, by decide +kernel, by decide +kernel, (fun h => absurd h (by decide)), (fun _ => ⟨rxw_860, _, rfl, rxs_82⟩), (fun h => absurd h (by decide))⟩
theorem rx_gm151 : rx_GM rx_all rx_cl rxm_151 := ⟨rxw_865, rxw_6, ⟨by decide +kernel, by decide +kernel⟩, by decide +kernel, by decide +kernel, (fun h => absurd h (by decide)), (fun _ => ⟨rxw_864, _, rfl, rxs_83⟩), (fun h => absurd h (by decide))⟩
theorem rx_gm152 : rx_GM rx_all rx_cl rxm_152 := ⟨rxw_869, rxw_6, ⟨by decide +kernel, by decide +kernel⟩, by decide +kernel, by decide +kernel, (fun h => absurd h (by decide)), (fun _ => ⟨rxw_868, _, rfl, rxs_84⟩), (fun h => absurd h (by decide))⟩
theorem rx_gm153 : rx_GM rx_all rx_cl rxm_153 := ⟨rxw_873, rxw_6, ⟨by decide +kernel, by decide +kernel⟩, by decide +kernel, by decide +kernel, (fun h => absurd h (by decide)), (fun _ => ⟨rxw_872, _, rfl, rxs_85⟩), (fun h => absurd h (by decide))⟩
theorem rx_gm154 : rx_GM rx_all rx_cl rxm_154 := ⟨rxw_877, rxw_6, ⟨by decide +kernel, by decide +kernel⟩, by decide +kernel, by decide +kernel, (fun h => absurd h (by decide)), (fun _ => ⟨rxw_875, _, rfl, rxw_876⟩), (fun h => absurd h (by decide))⟩
theorem rx_gm155 : rx_GM rx_all rx_cl rxm_155 := ⟨rxw_881, rxw_6, ⟨by decide +kernel, by decide +kernel⟩, by decide +kernel, by decide +kernel, (fun h => absurd h (by decide)), (fun _ => ⟨rxw_879, _, rfl, rxw_880⟩), (fun h => absurd h (by decide))⟩
theorem rx_gm156 : rx_GM rx_all rx_cl rxm_156 := ⟨rxw_885, rxw_6, ⟨by decide +kernel, by decide +kernel⟩, by decide +kernel, by decide +kernel, (fun h => absurd h (by decide)), (fun _ => ⟨rxw_883, _, rfl, rxw_884⟩), (fun h => absurd h (by decide))⟩
theorem rx_gm157 : rx_GM rx_all rx_cl rxm_157 := ⟨rxw_889, rxw_6, ⟨by decide +kernel, by decide +kernel⟩, by decide +kernel, by decide +kernel, (fun h => absurd h (by decide)), (fun _ => ⟨rxw_888, _, rfl, rxs_86⟩), (fun h => absurd h (by decide))⟩
theorem rx_gm158 : rx_GM rx_all rx_cl rxm_158 := ⟨rxw_893, rxw_6, ⟨by decide +kernel, by decide +kernel⟩, by decide +kernel, by decide +kernel, (fun h => absurd h (by decide)), (fun _ => ⟨rxw_891, _, rfl, rxw_892⟩), (fun h => absurd h (by decide))⟩
theorem rx_gm159 : rx_GM rx_all rx_cl rxm_159 := ⟨rxw_897, rxw_6, ⟨by decide +kernel, by decide +kernel⟩, by decide +kernel, by decide +kernel, (fun h => absurd h (by decide)), (fun _ => ⟨rxw_895, _, rfl, rxw_896⟩), (fun h => absurd h (by decide))⟩
theorem rx_gm160 : rx_GM rx_all rx_cl rxm_160 := ⟨rxw_901, rxw_6, ⟨by decide +kernel, by decide +kernel⟩, by decide +kernel, by decide +kernel, (fun h => absurd h (by decide)), (fun _ => ⟨rxw_899, _, rfl, rxw_900⟩), (fun h => absurd h (by decide))⟩
theorem rx_gm161 : rx_GM rx_all rx_cl rxm_161 := ⟨rxw_905, rxw_6, ⟨by decide +kernel, by decide +kernel⟩, by decide +kernel, by decide +kernel, (fun h => absurd h (by decide)), (fun _ => ⟨rxw_904, _, rfl, rxs_87⟩), (fun h => absurd h (by decide))⟩
theorem rx_gm162 : rx_GM rx_all rx_cl rxm_162 := ⟨rxw_908, rxw_6, ⟨by decide +kernel, by decide +kernel⟩, by decide +kernel, by decide +kernel, fun _ => rxw_907, (fun h => absurd h (by decide)), (fun h => absurd h (by decide))⟩
theorem rx_gm163 : rx_GM rx_all rx_cl rxm_163 := ⟨rxw_912, rxw_6, ⟨by decide +kernel, by decide +kernel⟩, by decide +kernel, by decide +kernel, (fun h => absurd h (by decide)), (fun _ => ⟨rxw_911, _, rfl, rxs_88⟩), (fun h => absurd h (by decide))⟩
end
section
set_option maxRecDepth 100000 in
theorem rx_Gf : ∀ e ∈ rx_lkF, rx_GF rx_all rx_nst rx_cl (rx_own e.1.1) e.1.2 e.2.1 e.2.2.1 e.2.2.2.1 e.2.2.2.2 := rx_fc (rx_gf1 rfl (by decide) (by decide +kernel) rfl rfl rxw_25) (rx_fc (rx_gf1 rfl (by decide) (by decide +kernel) rfl rfl rxw_26) (rx_fc (rx_gf0 rfl (by decide) (by decide +kernel) rfl (Or.inl rxw_27)) (rx_fc (rx_gf0 rfl (by decide) (by decide +kernel) rfl (Or.inr ⟨_, rxn_28⟩)) (rx_fc (rx_gf0 rfl (by decide) (by decide +kernel) rfl (Or.inr ⟨_, rxn_29⟩)) (rx_fc (rx_gf0 rfl (by decide) (by decide +kernel) rfl (Or.inr ⟨_, rxn_30⟩)) (rx_fc (rx_gf1 rfl (by decide) (by decide +kernel) rfl rfl rxw_53) (rx_fc (rx_gf1 rfl (by decide) (by decide +kernel) rfl rfl rxw_54) (rx_fc (rx_gf0 rfl (by decide) (by decide +kernel) rfl (Or.inl rxw_55)) (rx_fc (rx_gf0 rfl (by decide) (by decide +kernel) rfl (Or.inr ⟨_, rxn_56⟩)) (rx_fc (rx_gf0 rfl (by decide) (by decide +kernel) rfl (Or.inr ⟨_, rxn_57⟩)) (rx_fc (rx_gf0 rfl (by decide) (by decide +kernel) rfl (Or.inl rxw_58)) (rx_fc (rx_gf1 rfl (by decide) (by decide +kernel) rfl rfl rxw_75) (rx_fc (rx_gf1 rfl (by decide) (by decide +kernel) rfl rfl rxw_76) (rx_fc (rx_gf2 rfl (by decide) (by decide +kernel) (Or.inr ⟨_, rxn_77⟩)) (rx_fc (rx_gf0 rfl (by decide) (by decide +kernel) rfl (Or.inl rxw_78)) (rx_fc (rx_gf0 rfl (by decide) (by decide +kernel) rfl (Or.inr ⟨_, rxn_79⟩)) (rx_fc (rx_gf1 rfl (by decide) (by decide +kernel) rfl rfl rxw_87) (rx_fc (rx_gf1 rfl (by decide) (by decide +kernel) rfl rfl rxw_88) (rx_fc (rx_gf1 rfl (by decide) (by decide +kernel) rfl rfl rxw_89) (rx_fc (rx_gf1 rfl (by decide) (by decide +kernel) rfl rfl rxw_90) (rx_fc (rx_gf1 rfl (by decide) (by decide +kernel) rfl rfl rxw_91) (rx_fc (rx_gf1 rfl (by decide) (by decide +kernel) rfl rfl rxw_92) (rx_fc (rx_gf1 rfl (by decide) (by decide +kernel) rfl rfl rxw_93) (rx_fc (rx_gf1 rfl (by decide) (by decide +kernel) rfl rfl rxw_94) (rx_fc (rx_gf1 rfl (by decide) (by decide +kernel) rfl rfl rxw_95) (rx_fc (rx_gf0 rfl (by decide) (by decide +kernel) rfl (Or.inl rxw_96)) (rx_fc (rx_gf0 rfl (by decide) (by decide +kernel) rfl (Or.inl rxw_97)) (rx_fc (rx_gf0 rfl (by decide) (by decide +kernel) rfl (Or.inl rxw_98)) (rx_fc (rx_gf0 rfl (by decide) (by decide +kernel) rfl (Or.inl rxw_99)) (rx_fc (rx_gf1 rfl (by decide) (by decide +kernel) rfl rfl rxw_127) (rx_fc (rx_gf1 rfl (by decide) (by decide +kernel) rfl rfl rxw_128) (rx_fc (rx_gf1 rfl (by decide) (by decide +kernel) rfl rfl rxw_129) (rx_fc (rx_gf0 rfl (by decide) (by decide +kernel) rfl (Or.inl rxw_130)) (rx_fc (rx_gf0 rfl (by decide) (by decide +kernel) rfl (Or.inl rxw_131)) (rx_fc (rx_gf0 rfl (by decide) (by decide +kernel) rfl (Or.inl rxw_132)) (rx_fc (rx_gf0 rfl (by decide) (by decide +kernel) rfl (Or.inl rxw_133)) (rx_fc (rx_gf0 rfl (by decide) (by decide +kernel) rfl (Or.inl rxw_134)) (rx_fc (rx_gf0 rfl (by decide) (by decide +kernel) rfl (Or.inl rxw_539)) (rx_fc (rx_gf0 rfl (by decide) (by decide +kernel) rfl (Or.inl rxw_540)) (rx_fc (rx_gf1 rfl (by decide) (by decide +kernel) rfl rfl rxw_541) (rx_fc (rx_gf1 rfl (by decide) (by decide +kernel) rfl rfl rxw_542) (rx_fc (rx_gf1 rfl (by decide) (by decide +kernel) rfl rfl rxw_543) (rx_fc (rx_gf0 rfl (by decide) (by decide +kernel) rfl (Or.inl rxw_544)) (rx_fc (rx_gf0 rfl (by decide) (by decide +kernel) rfl (Or.inl rxw_545)) (rx_fc (rx_gf1 rfl (by decide) (by decide +kernel) rfl rfl rxw_546) (rx_fc (rx_gf1 rfl (by decide) (by decide +kernel) rfl rfl rxw_547) (rx_fc (rx_gf1 rfl (by decide) (by decide +kernel) rfl rfl rxw_548) (rx_fc (rx_gf1 rfl (by decide) (by decide +kernel) rfl rfl rxw_549) (rx_fc (rx_gf1 rfl (by decide) (by decide +kernel) rfl rfl rxw_550) (rx_fc (rx_gf0 rfl (by decide) (by decide +kernel) rfl (Or.inl rxw_551)) (rx_fc (rx_gf0 rfl (by decide) (by decide +kernel) rfl (Or.inl rxw_552)) (rx_fc (rx_gf1 rfl (by decide) (by decide +kernel) rfl rfl rxw_553) (rx_fc (rx_gf1 rfl (by decide) (by decide +kernel) rfl rfl rxw_554) (rx_fc (rx_gf1 rfl (by decide) (by decide +kernel) rfl rfl rxw_555) (rx_fc (rx_gf0 rfl (by decide) (by decide +kernel) rfl (Or.inl rxw_556)) (rx_fc (rx_gf1 rfl (by decide) (by decide +kernel) rfl rfl rxw_557) (rx_fc (rx_gf0 rfl (by decide) (by decide +kernel) rfl (Or.inl rxw_558)) (rx_fc (rx_gf0 rfl (by decide) (by decide +kernel) rfl (Or.inl rxw_559)) (rx_fc (rx_gf1 rfl (by decide) (by decide +kernel) rfl rfl rxw_560) (rx_fc (rx_gf1 rfl (by decide) (by decide +kernel) rfl rfl rxw_561) (rx_fc (rx_gf1 rfl (by decide) (by decide +kernel) rfl rfl rxw_562) (rx_fc (rx_gf1 rfl (by decide) (by decide +kernel) rfl rfl rxw_563) (rx_fc (rx_gf1 rfl (by decide) (by decide +kernel) rfl rfl rxw_564) (rx_fc (rx_gf1 rfl (by decide) (by decide +kernel) rfl rfl rxw_565) (rx_fc (rx_gf1 rfl (by decide) (by decide +kernel) rfl rfl rxw_566) (rx_fc (rx_gf1 rfl (by decide) (by decide +kernel) rfl rfl rxw_567) (rx_fc (rx_gf1 rfl (by decide) (by decide +kernel) rfl rfl rxw_568) (rx_fc (rx_gf1 rfl (by decide) (by decide +kernel) rfl rfl rxw_569) (rx_fc (rx_gf1 rfl (by decide) (by decide +kernel) rfl rfl rxw_570) (rx_fc (rx_gf0 rfl (by decide) (by decide +kernel) rfl (Or.inl rxw_571)) (rx_fc (rx_gf0 rfl (by decide) (by decide +kernel) rfl (Or.inl rxw_572)) (rx_fn))))))))))))))))))))))))))))))))))))))))))))))))))))))))))))))))))))))))
theorem rx_Gs : ∀ e ∈ rx_lkS, ∃ C n d, (C, n, d, e.2) ∈ rx_sts ∧ (Cond.fieldLink (rx_own e.1.1) e.1.2 C n d ∈ rx_all ∨ ∃ host, Cond.fieldLinkNest (rx_own e.1.1) e.1.2 C n d host ∈ rx_nst) := rx_fc (⟨_, _, _, List.mem_of_getElem? (i := 0) rfl, Or.inl rxw_183⟩) (rx_fc (⟨_, _, _, List.mem_of_getElem? (i := 1) rfl, Or.inr ⟨_, rxn_306⟩⟩) (rx_fc (⟨_, _, _, List.mem_of_getElem? (i := 2) rfl, Or.inr ⟨_, rxn_308⟩⟩) (rx_fc (⟨_, _, _, List.mem_of_getElem? (i := 3) rfl, Or.inl rxw_371⟩) (rx_fn))))
set_option maxRecDepth 100000 in
theorem rx_Gk : ∀ e ∈ rx_lkM, ∀ M, rx_ms[e.2.1]? = some M → rx_GM rx_all rx_cl M ∧ rx_GL rx_all rx_nst (rx_own e.1.1) e.1.2 (rx_My M) := rx_fc (rx_gk (M0 := rxm_1) rfl rx_gm1 (Or.inl rxw_13)) (rx_fc (rx_gk0 rfl) (rx_fc (rx_gk (M0 := rxm_2) rfl rx_gm2 (Or.inr ⟨_, rxn_21⟩)) (rx_fc (rx_gk0 rfl) (rx_fc (rx_gk (M0 := rxm_3) rfl rx_gm3 (Or.inl rxw_41)) (rx_fc (rx_gk0 rfl) (rx_fc (rx_gk (M0 := rxm_4) rfl rx_gm4 (Or.inr ⟨_, rxn_47⟩)) (rx_fc (rx_gk0 rfl) (rx_fc (rx_gk (M0 := rxm_5) rfl rx_gm5 (Or.inl rxw_71)) (rx_fc (rx_gk0 rfl) (rx_fc (rx_gk (M0 := rxm_6) rfl rx_gm6 (Or.inl rxw_152)) (rx_fc (rx_gk (M0 := rxm_7) rfl rx_gm7 (Or.inl rxw_156)) (rx_fc (rx_gk (M0 := rxm_8) rfl rx_gm8 (Or.inl rxw_160)) (rx_fc (rx_gk (M0 := rxm_9) rfl rx_gm9 (Or.inl rxw_163)) (rx_fc (rx_gk (M0 := rxm_10) rfl rx_gm10 (Or.inl rxw_167)) (rx_fc (rx_gk (M0 := rxm_11) rfl rx_gm11 (Or.inl rxw_171)) (rx_fc (rx_gk (M0 := rxm_12) rfl rx_gm12 (Or.inl rxw_175)) (rx_fc (rx_gk (M0 := rxm_13) rfl rx_gm13 (Or.inl rxw_179)) (rx_fc (rx_gk (M0 := rxm_14) rfl rx_gm14 (Or.inl rxw_185)) (rx_fc (rx_gk (M0 := rxm_15) rfl rx_gm15 (Or.inl rxw_188)) (rx_fc (rx_gk (M0 := rxm_16) rfl rx_gm16 (Or.inl rxw_191)) (rx_fc (rx_gk (M0 := rxm_17) rfl rx_gm17 (Or.inl rxw_197)) (rx_fc (rx_gk (M0 := rxm_18) rfl rx_gm18 (Or.inl rxw_200)) (rx_fc (rx_gk (M0 := rxm_15) rfl rx_gm15 (Or.inr ⟨_, rxn_204⟩)) (rx_fc (rx_gk (M0 := rxm_19) rfl rx_gm19 (Or.inr ⟨_, rxn_205⟩)) (rx_fc (rx_gk (M0 := rxm_20) rfl rx_gm20 (Or.inl rxw_208)) (rx_fc (rx_gk (M0 := rxm_21) rfl rx_gm21 (Or.inl rxw_212)) (rx_fc (rx_gk (M0 := rxm_22) rfl rx_gm22 (Or.inl rxw_216)) (rx_fc (rx_gk (M0 := rxm_23) rfl rx_gm23 (Or.inl rxw_220)) (rx_fc (rx_gk (M0 := rxm_24) rfl rx_gm24 (Or.inl rxw_224)) (rx_fc (rx_gk (M0 := rxm_25) rfl rx_gm25 (Or.inl rxw_228)) (rx_fc (rx_gk (M0 := rxm_26) rfl rx_gm26 (Or.inl rxw_232)) (rx_fc (rx_gk (M0 := rxm_27) rfl rx_gm27 (Or.inl rxw_236)) (rx_fc (rx_gk (M0 := rxm_28) rfl rx_gm28 (Or.inl rxw_240)) (rx_fc (rx_gk (M0 := rxm_29) rfl rx_gm29 (Or.inl rxw_244)) (rx_fc (rx_gk (M0 := rxm_30) rfl rx_gm30 (Or.inl rxw_248)) (rx_fc (rx_gk (M0 := rxm_31) rfl rx_gm31 (Or.inl rxw_252)) (rx_fc (rx_gk (M0 := rxm_32) rfl rx_gm32 (Or.inl rxw_256)) (rx_fc (rx_gk (M0 := rxm_24) rfl rx_gm24 (Or.inl rxw_260)) (rx_fc (rx_gk (M0 := rxm_33) rfl rx_gm33 (Or.inl rxw_261)) (rx_fc (rx_gk (M0 := rxm_34) rfl rx_gm34 (Or.inl rxw_265)) (rx_fc (rx_gk (M0 := rxm_20) rfl rx_gm20 (Or.inl rxw_269)) (rx_fc (rx_gk (M0 := rxm_35) rfl rx_gm35 (Or.inl rxw_270)) (rx_fc (rx_gk (M0 := rxm_36) rfl rx_gm36 (Or.inl rxw_274)) (rx_fc (rx_gk (M0 := rxm_37) rfl rx_gm37 (Or.inl rxw_278)) (rx_fc (rx_gk (M0 := rxm_23) rfl rx_gm23 (Or.inl rxw_282)) (rx_fc (rx_gk (M0 := rxm_38) rfl rx_gm38 (Or.inl rxw_283)) (rx_fc (rx_gk (M0 := rxm_39) rfl rx_gm39 (Or.inl rxw_287)) (rx_fc (rx_gk (M0 := rxm_40) rfl rx_gm40 (Or.inl rxw_291)) (rx_fc (rx_gk (M0 := rxm_41) rfl rx_gm41 (Or.inl rxw_295)) (rx_fc (rx_gk (M0 := rxm_42) rfl rx_gm42 (Or.inl rxw_299)) (rx_fc (rx_gk (M0 := rxm_43) rfl rx_gm43 (Or.inl rxw_303)) (rx_fc (rx_gk (M0 := rxm_44) rfl rx_gm44 (Or.inl rxw_310)) (rx_fc (rx_gk (M0 := rxm_45) rfl rx_gm45 (Or.inl rxw_314)) (rx_fc (rx_gk (M0 := rxm_46) rfl rx_gm46 (Or.inl rxw_318)) (rx_fc (rx_gk (M0 := rxm_11) rfl rx_gm11 (Or.inl rxw_321)) (rx_fc (rx_gk (M0 := rxm_20) rfl rx_gm20 (Or.inl rxw_322)) (rx_fc (rx_gk0 rfl) (rx_fc (rx_gk (M0 := rxm_47) rfl rx_gm47 (Or.inl rxw_326)) (rx_fc (rx_gk (M0 := rxm_19) rfl rx_gm19 (Or.inr ⟨_, rxn_330⟩)) (rx_fc (rx_gk (M0 := rxm_14) rfl rx_gm14 (Or.inr ⟨_, rxn_331⟩)) (rx_fc (rx_gk (M0 := rxm_48) rfl rx_gm48 (Or.inl rxw_332)) (rx_fc (rx_gk (M0 := rxm_16) rfl rx_gm16 (Or.inl rxw_336)) (rx_fc (rx_gk (M0 := rxm_49) rfl rx_gm49 (Or.inl rxw_337)) (rx_fc (rx_gk (M0 := rxm_50) rfl rx_gm50 (Or.inl rxw_341)) (rx_fc (rx_gk (M0 := rxm_51) rfl rx_gm51 (Or.inl rxw_345)) (rx_fc (rx_gk (M0 := rxm_52) rfl rx_gm52 (Or.inl rxw_349)) (rx_fc (rx_gk (M0 := rxm_53) rfl rx_gm53 (Or.inl rxw_353)) (rx_fc (rx_gk (M0 := rxm_54) rfl rx_gm54 (Or.inl rxw_356)) (rx_fc (rx_gk (M0 := rxm_55) rfl rx_gm55 (Or.inl rxw_361)) (rx_fc (rx_gk (M0 := rxm_56) rfl rx_gm56 (Or.inr ⟨_, rxn_365⟩)) (rx_fc (rx_gk (M0 := rxm_57) rfl rx_gm57 (Or.inl rxw_368)) (rx_fc (rx_gk (M0 := rxm_58) rfl rx_gm58 (Or.inl rxw_373)) (rx_fc (rx_gk0 rfl) (rx_fc (rx_gk0 rfl) (rx_fc (rx_gk (M0 := rxm_59) rfl rx_gm59 (Or.inl rxw_383)) (rx_fc (rx_gk (M0 := rxm_60) rfl rx_gm60 (Or.inl rxw_387)) (rx_fc (rx_gk (M0 := rxm_61) rfl rx_gm61 (Or.inl rxw_391)) (rx_fc (rx_gk (M0 := rxm_62) rfl rx_gm62 (Or.inl rxw_395)) (rx_fc (rx_gk (M0 := rxm_63) rfl rx_gm63 (Or.inl rxw_399)) (rx_fc (rx_gk (M0 := rxm_64) rfl rx_gm64 (Or.inl rxw_403)) (rx_fc (rx_gk (M0 := rxm_65) rfl rx_gm65 (Or.inl rxw_407)) (rx_fc (rx_gk (M0 := rxm_15) rfl rx_gm15 (Or.inr ⟨_, rxn_411⟩)) (rx_fc (rx_gk (M0 := rxm_66) rfl rx_gm66 (Or.inl rxw_412)) (rx_fc (rx_gk (M0 := rxm_67) rfl rx_gm67 (Or.inl rxw_416)) (rx_fc (rx_gk (M0 := rxm_68) rfl rx_gm68 (Or.inl rxw_420)) (rx_fc (rx_gk (M0 := rxm_69) rfl rx_gm69 (Or.inl rxw_424)) (rx_fc (rx_gk (M0 := rxm_70) rfl rx_gm70 (Or.inl rxw_428)) (rx_fc (rx_gk (M0 := rxm_71) rfl rx_gm71 (Or.inl rxw_432)) (rx_fc (rx_gk (M0 := rxm_72) rfl rx_gm72 (Or.inl rxw_436)) (rx_fc (rx_gk (M0 := rxm_73) rfl rx_gm73 (Or.inl rxw_440)) (rx_fc (rx_gk (M0 := rxm_74) rfl rx_gm74 (Or.inl rxw_444)) (rx_fc (rx_gk (M0 := rxm_75) rfl rx_gm75 (Or.inl rxw_448)) (rx_fc (rx_gk (M0 := rxm_57) rfl rx_gm57 (Or.inr ⟨_, rxn_452⟩)) (rx_fc (rx_gk (M0 := rxm_76) rfl rx_gm76 (Or.inl rxw_453)) (rx_fc (rx_gk (M0 := rxm_77) rfl rx_gm77 (Or.inl rxw_457)) (rx_fc (rx_gk (M0 := rxm_78) rfl rx_gm78 (Or.inl rxw_461)) (rx_fc (rx_gk (M0 := rxm_79) rfl rx_gm79 (Or.inl rxw_465)) (rx_fc (rx_gk (M0 := rxm_80) rfl rx_gm80 (Or.inl rxw_469)) (rx_fc (rx_gk (M0 := rxm_81) rfl rx_gm81 (Or.inl rxw_473)) (rx_fc (rx_gk (M0 := rxm_82) rfl rx_gm82 (Or.inl rxw_477)) (rx_fc (rx_gk (M0 := rxm_83) rfl rx_gm83 (Or.inl rxw_481)) (rx_fc (rx_gk (M0 := rxm_84) rfl rx_gm84 (Or.inl rxw_485)) (rx_fc (rx_gk (M0 := rxm_85) rfl rx_gm85 (Or.inl rxw_489)) (rx_fc (rx_gk (M0 := rxm_20) rfl rx_gm20 (Or.inl rxw_493)) (rx_fc (rx_gk (M0 := rxm_86) rfl rx_gm86 (Or.inl rxw_494)) (rx_fc (rx_gk (M0 := rxm_87) rfl rx_gm87 (Or.inl rxw_498)) (rx_fc (rx_gk (M0 := rxm_88) rfl rx_gm88 (Or.inl rxw_502)) (rx_fc (rx_gk (M0 := rxm_89) rfl rx_gm89 (Or.inl rxw_506)) (rx_fc (rx_gk (M0 := rxm_90) rfl rx_gm90 (Or.inl rxw_510)) (rx_fc (rx_gk (M0 := rxm_91) rfl rx_gm91 (Or.inl rxw_514)) (rx_fc (rx_gk (M0 := rxm_92) rfl rx_gm92 (Or.inl rxw_518)) (rx_fc (rx_gk (M0 := rxm_93) rfl rx_gm93 (Or.inl rxw_522)) (rx_fc (rx_gk (M0 := rxm_94) rfl rx_gm94 (Or.inl rxw_525)) (rx_fc (rx_gk (M0 := rxm_95) rfl rx_gm95 (Or.inl rxw_529)) (rx_fc (rx_gk (M0 := rxm_96) rfl rx_gm96 (Or.inl rxw_535)) (rx_fc (rx_gk0 rfl) (rx_fc (rx_gk (M0 := rxm_97) rfl rx_gm97 (Or.inl rxw_643)) (rx_fc (rx_gk (M0 := rxm_98) rfl rx_gm98 (Or.inl rxw_647)) (rx_fc (rx_gk (M0 := rxm_99) rfl rx_gm99 (Or.inl rxw_651)) (rx_fc (rx_gk (M0 := rxm_100) rfl rx_gm100 (Or.inl rxw_655)) (rx_fc (rx_gk (M0 := rxm_101) rfl rx_gm101 (Or.inl rxw_659)) (rx_fc (rx_gk (M0 := rxm_102) rfl rx_gm102 (Or.inl rxw_662)) (rx_fc (rx_gk (M0 := rxm_103) rfl rx_gm103 (Or.inl rxw_666)) (rx_fc (rx_gk (M0 := rxm_104) rfl rx_gm104 (Or.inl rxw_670)) (rx_fc (rx_gk (M0 := rxm_105) rfl rx_gm105 (Or.inl rxw_674)) (rx_fc (rx_gk (M0 := rxm_106) rfl rx_gm106 (Or.inl rxw_678)) (rx_fc (rx_gk (M0 := rxm_107) rfl rx_gm107 (Or.inl rxw_682)) (rx_fc (rx_gk (M0 := rxm_108) rfl rx_gm108 (Or.inl rxw_686)) (rx_fc (rx_gk (M0 := rxm_109) rfl rx_gm109 (Or.inl rxw_690)) (rx_fc (rx_gk (M0 := rxm_110) rfl rx_gm110 (Or.inl rxw_694)) (rx_fc (rx_gk (M0 := rxm_111) rfl rx_gm111 (Or.inl rxw_698)) (rx_fc (rx_gk (M0 := rxm_112) rfl rx_gm112 (Or.inl rxw_702)) (rx_fc (rx_gk (M0 := rxm_113) rfl rx_gm113 (Or.inl rxw_706)) (rx_fc (rx_gk (M0 := rxm_114) rfl rx_gm114 (Or.inl rxw_710)) (rx_fc (rx_gk (M0 := rxm_115) rfl rx_gm115 (Or.inl rxw_714)) (rx_fc (rx_gk (M0 := rxm_116) rfl rx_gm116 (Or.inl rxw_718)) (rx_fc (rx_gk (M0 := rxm_117) rfl rx_gm117 (Or.inl rxw_722)) (rx_fc (rx_gk (M0 := rxm_118) rfl rx_gm118 (Or.inl rxw_727)) (rx_fc (rx_gk (M0 := rxm_119) rfl rx_gm119 (Or.inl rxw_731)) (rx_fc (rx_gk (M0 := rxm_120) rfl rx_gm120 (Or.inl rxw_735)) (rx_fc (rx_gk (M0 := rxm_121) rfl rx_gm121 (Or.inl rxw_739)) (rx_fc (rx_gk (M0 := rxm_122) rfl rx_gm122 (Or.inl rxw_742)) (rx_fc (rx_gk (M0 := rxm_123) rfl rx_gm123 (Or.inl rxw_746)) (rx_fc (rx_gk (M0 := rxm_124) rfl rx_gm124 (Or.inl rxw_750)) (rx_fc (rx_gk (M0 := rxm_125) rfl rx_gm125 (Or.inl rxw_754)) (rx_fc (rx_gk (M0 := rxm_126) rfl rx_gm126 (Or.inl rxw_758)) (rx_fc (rx_gk (M0 := rxm_127) rfl rx_gm127 (Or.inl rxw_762)) (rx_fc (rx_gk (M0 := rxm_128) rfl rx_gm128 (Or.inl rxw_766)) (rx_fc (rx_gk (M0 := rxm_129) rfl rx_gm129 (Or.inl rxw_770)) (rx_fc (rx_gk (M0 := rxm_130) rfl rx_gm130 (Or.inl rxw_774)) (rx_fc (rx_gk (M0 := rxm_131) rfl rx_gm131 (Or.inl rxw_778)) (rx_fc (rx_gk (M0 := rxm_132) rfl rx_gm132 (Or.inl rxw_781)) (rx_fc (rx_gk (M0 := rxm_133) rfl rx_gm133 (Or.inl rxw_786)) (rx_fc (rx_gk (M0 := rxm_134) rfl rx_gm134 (Or.inl rxw_790)) (rx_fc (rx_gk (M0 := rxm_135) rfl rx_gm135 (Or.inl rxw_794)) (rx_fc (rx_gk (M0 := rxm_136) rfl rx_gm136 (Or.inl rxw_798)) (rx_fc (rx_gk (M0 := rxm_137) rfl rx_gm137 (Or.inl rxw_802)) (rx_fc (rx_gk (M0 := rxm_138) rfl rx_gm138 (Or.inl rxw_806)) (rx_fc (rx_gk (M0 := rxm_139) rfl rx_gm139 (Or.inl rxw_810)) (rx_fc (rx_gk (M0 := rxm_140) rfl rx_gm140 (Or.inl rxw_817)) (rx_fc (rx_gk (M0 := rxm_141) rfl rx_gm141 (Or.inl rxw_821)) (rx_fc (rx_gk (M0 := rxm_142) rfl rx_gm142 (Or.inl rxw_825)) (rx_fc (rx_gk (M0 := rxm_143) rfl rx_gm143 (Or.inl rxw_829)) (rx_fc (rx_gk (M0 := rxm_144) rfl rx_gm144 (Or.inl rxw_833)) (rx_fc (rx_gk (M0 := rxm_145) rfl rx_gm145 (Or.inl rxw_838)) (rx_fc (rx_gk (M0 := rxm_146) rfl rx_gm146 (Or.inl rxw_842)) (rx_fc (rx_gk (M0 := rxm_147) rfl rx_gm147 (Or.inl rxw_846)) (rx_fc (rx_gk (M0 := rxm_148) rfl rx_gm148 (Or.inl rxw_850)) (rx_fc (rx_gk (M0 := rxm_149) rfl rx_gm149 (Or.inl rxw_854)) (rx_fc (rx_gk (M0 := rxm_150) rfl rx_gm150 (Or.inl rxw_858)) (rx_fc (rx_gk (M0 := rxm_151) rfl rx_gm151 (Or.inl rxw_862)) (rx_fc (rx_gk (M0 := rxm_152) rfl rx_gm152 (Or.inl rxw_866)) (rx_fc (rx_gk (M0 := rxm_153) rfl rx_gm153 (Or.inl rxw_870)) (rx_fc (rx_gk (M0 := rxm_154) rfl rx_gm154 (Or.inl rxw_874)) (rx_fc (rx_gk (M0 := rxm_155) rfl rx_gm155 (Or.inl rxw_878)) (rx_fc (rx_gk (M0 := rxm_156) rfl rx_gm156 (Or.inl rxw_882)) (rx_fc (rx_gk (M0 := rxm_157) rfl rx_gm157 (Or.inl rxw_886)) (rx_fc (rx_gk (M0 := rxm_158) rfl rx_gm158 (Or.inl rxw_890)) (rx_fc (rx_gk (M0 := rxm_159) rfl rx_gm159 (Or.inl rxw_894)) (rx_fc (rx_gk (M0 := rxm_160) rfl rx_gm160 (Or.inl rxw_898)) (rx_fc (rx_gk (M0 := rxm_161) rfl rx_gm161 (Or.inl rxw_902)) (rx_fc (rx_gk (M0 := rxm_162) rfl rx_gm162 (Or.inl rxw_906)) (rx_fc (rx_gk (M0 := rxm_163) rfl rx_gm163 (Or.inl rxw_909)) (rx_fn))))))))))))))))))))))))))))))))))))))))))))))))))))))))))))))))))))))))))))))))))))))))))))))))))))))))))))))))))))))))))))))))))))))))))))))))))))))))))))))))))))))))))))))))))))))))
set_option maxRecDepth 100000 in
theorem rx_Go : ∀ e ∈ rx_lkM, e.2.1 = 1000 → Cond.methodLink (rx_own e.1.1) e.1.2 Lib.objectInit ∈ rx_all ∧ Cond.instanceMethod Lib.objectInit ∈ rx_all ∧ Cond.code Lib.objectInit ⟨#[0xb1]⟩ 1 none ∈ rx_all := rx_fc (fun h => absurd h (by decide)) (rx_fc (fun _ => ⟨rxw_16, rxw_17, rxw_18⟩) (rx_fc (fun h => absurd h (by decide)) (rx_fc (fun _ => ⟨rxw_24, rxw_17, rxw_18⟩) (rx_fc (fun h => absurd h (by decide)) (rx_fc (fun _ => ⟨rxw_44, rxw_17, rxw_18⟩) (rx_fc (fun h => absurd h (by decide)) (rx_fc (fun _ => ⟨rxw_50, rxw_17, rxw_18⟩) (rx_fc (fun h => absurd h (by decide)) (rx_fc (fun _ => ⟨rxw_74, rxw_17, rxw_18⟩) (rx_fc (fun h => absurd h (by decide)) (rx_fc (fun h => absurd h (by decide)) (rx_fc (fun h => absurd h (by decide)) (rx_fc (fun h => absurd h (by decide)) (rx_fc (fun h => absurd h (by decide)) (rx_fc (fun h => absurd h (by decide)) (rx_fc (fun h => absurd h (by decide)) (rx_fc (fun h => absurd h (by decide)) (rx_fc (fun h => absurd h (by decide)) (rx_fc (fun h => absurd h (by decide)) (rx_fc (fun h => absurd h (by decide)) (rx_fc (fun h => absurd h (by decide)) (rx_fc (fun h => absurd h (by decide)) (rx_fc (fun h => absurd h (by decide)) (rx_fc (fun h => absurd h (by decide)) (rx_fc (fun h => absurd h (by decide)) (rx_fc (fun h => absurd h (by decide)) (rx_fc (fun h => absurd h (by decide)) (rx_fc (fun h => absurd h (by decide)) (rx_fc (fun h => absurd h (by decide)) (rx_fc (fun h => absurd h (by decide)) (rx_fc (fun h => absurd h (by decide)) (rx_fc (fun h => absurd h (by decide)) (rx_fc (fun h => absurd h (by decide)) (rx_fc (fun h => absurd h (by decide)) (rx_fc (fun h => absurd h (by decide)) (rx_fc (fun h => absurd h (by decide)) (rx_fc (fun h => absurd h (by decide)) (rx_fc (fun h => absurd h (by decide)) (rx_fc (fun h => absurd h (by decide)) (rx_fc (fun h => absurd h (by decide)) (rx_fc (fun h => absurd h (by decide)) (rx_fc (fun h => absurd h (by decide)) (rx_fc (fun h => absurd h (by decide)) (rx_fc (fun h => absurd h (by decide)) (rx_fc (fun h => absurd h (by decide)) (rx_fc (fun h => absurd h (by decide)) (rx_fc (fun h => absurd h (by decide)) (rx_fc (fun h => absurd h (by decide)) (rx_fc (fun h => absurd h (by decide)) (rx_fc (fun h => absurd h (by decide)) (rx_fc (fun h => absurd h (by decide)) (rx_fc (fun h => absurd h (by decide)) (rx_fc (fun h => absurd h (by decide)) (rx_fc (fun h => absurd h (by decide)) (rx_fc (fun h => absurd h (by decide)) (rx_fc (fun h => absurd h (by decide)) (rx_fc (fun h => absurd h (by decide)) (rx_fc (fun h => absurd h (by decide)) (rx_fc (fun h => absurd h (by decide)) (rx_fc (fun h => absurd h (by decide)) (rx_fc (fun h => absurd h (by decide)) (rx_fc (fun h => absurd h (by decide)) (rx_fc (fun h => absurd h (by decide)) (rx_fc (fun h => absurd h (by decide)) (rx_fc (fun h => absurd h (by decide)) (rx_fc (fun h => absurd h (by decide)) (rx_fc (fun h => absurd h (by decide)) (rx_fc (fun h => absurd h (by decide)) (rx_fc (fun h => absurd h (by decide)) (rx_fc (fun h => absurd h (by decide)) (rx_fc (fun h => absurd h (by decide)) (rx_fc (fun h => absurd h (by decide)) (rx_fc (fun h => absurd h (by decide)) (rx_fc (fun h => absurd h (by decide)) (rx_fc (fun h => absurd h (by decide)) (rx_fc (fun h => absurd h (by decide)) (rx_fc (fun h => absurd h (by decide)) (rx_fc (fun h => absurd h (by decide)) (rx_fc (fun h => absurd h (by decide)) (rx_fc (fun h => absurd h (by decide)) (rx_fc (fun h => absurd h (by decide)) (rx_fc (fun h => absurd h (by decide)) (rx_fc (fun h => absurd h (by decide)) (rx_fc (fun h => absurd h (by decide)) (rx_fc (fun h => absurd h (by decide)) (rx_fc (fun h => absurd h (by decide)) (rx_fc (fun h => absurd h (by decide)) (rx_fc (fun h => absurd h (by decide)) (rx_fc (fun h => absurd h (by decide)) (rx_fc (fun h => absurd h (by decide)) (rx_fc (fun h => absurd h (by decide)) (rx_fc (fun h => absurd h (by decide)) (rx_fc (fun h => absurd h (by decide)) (rx_fc (fun h => absurd h (by decide)) (rx_fc (fun h => absurd h (by decide)) (rx_fc (fun h => absurd h (by decide)) (rx_fc (fun h => absurd h (by decide)) (rx_fc (fun h => absurd h (by decide)) (rx_fc (fun h => absurd h (by decide)) (rx_fc (fun h => absurd h (by decide)) (rx_fc (fun h => absurd h (by decide)) (rx_fc (fun h => absurd h (by decide)) (rx_fc (fun h => absurd h (by decide)) (rx_fc (fun h => absurd h (by decide)) (rx_fc (fun h => absurd h (by decide)) (rx_fc (fun h => absurd h (by decide)) (rx_fc (fun h => absurd h (by decide)) (rx_fc (fun h => absurd h (by decide)) (rx_fc (fun h => absurd h (by decide)) (rx_fc (fun h => absurd h (by decide)) (rx_fc (fun h => absurd h (by decide)) (rx_fc (fun h => absurd h (by decide)) (rx_fc (fun h => absurd h (by decide)) (rx_fc (fun h => absurd h (by decide)) (rx_fc (fun h => absurd h (by decide)) (rx_fc (fun _ => ⟨rxw_538, rxw_17, rxw_18⟩) (rx_fc (fun h => absurd h (by decide)) (rx_fc (fun h => absurd h (by decide)) (rx_fc (fun h => absurd h (by decide)) (rx_fc (fun h => absurd h (by decide)) (rx_fc (fun h => absurd h (by decide)) (rx_fc (fun h => absurd h (by decide)) (rx_fc (fun h => absurd h (by decide)) (rx_fc (fun h => absurd h (by decide)) (rx_fc (fun h => absurd h (by decide)) (rx_fc (fun h => absurd h (by decide)) (rx_fc (fun h => absurd h (by decide)) (rx_fc (fun h => absurd h (by decide)) (rx_fc (fun h => absurd h (by decide)) (rx_fc (fun h => absurd h (by decide)) (rx_fc (fun h => absurd h (by decide)) (rx_fc (fun h => absurd h (by decide)) (rx_fc (fun h => absurd h (by decide)) (rx_fc (fun h => absurd h (by decide)) (rx_fc (fun h => absurd h (by decide)) (rx_fc (fun h => absurd h (by decide)) (rx_fc (fun h => absurd h (by decide)) (rx_fc (fun h => absurd h (by decide)) (rx_fc (fun h => absurd h (by decide)) (rx_fc (fun h => absurd h (by decide)) (rx_fc (fun h => absurd h (by decide)) (rx_fc (fun h => absurd h (by decide)) (rx_fc (fun h => absurd h (by decide)) (rx_fc (fun h => absurd h (by decide)) (rx_fc (fun h => absurd h (by decide)) (rx_fc (fun h => absurd h (by decide)) (rx_fc (fun h => absurd h (by decide)) (rx_fc (fun h => absurd h (by decide)) (rx_fc (fun h => absurd h (by decide)) (rx_fc (fun h => absurd h (by decide)) (rx_fc (fun h => absurd h (by decide)) (rx_fc (fun h => absurd h (by decide)) (rx_fc (fun h => absurd h (by decide)) (rx_fc (fun h => absurd h (by decide)) (rx_fc (fun h => absurd h (by decide)) (rx_fc (fun h => absurd h (by decide)) (rx_fc (fun h => absurd h (by decide)) (rx_fc (fun h => absurd h (by decide)) (rx_fc (fun h => absurd h (by decide)) (rx_fc (fun h => absurd h (by decide)) (rx_fc (fun h => absurd h (by decide)) (rx_fc (fun h => absurd h (by decide)) (rx_fc (fun h => absurd h (by decide)) (rx_fc (fun h => absurd h (by decide)) (rx_fc (fun h => absurd h (by decide)) (rx_fc (fun h => absurd h (by decide)) (rx_fc (fun h => absurd h (by decide)) (rx_fc (fun h => absurd h (by decide)) (rx_fc (fun h => absurd h (by decide)) (rx_fc (fun h => absurd h (by decide)) (rx_fc (fun h => absurd h (by decide)) (rx_fc (fun h => absurd h (by decide)) (rx_fc (fun h => absurd h (by decide)) (rx_fc (fun h => absurd h (by decide)) (rx_fc (fun h => absurd h (by decide)) (rx_fc (fun h => absurd h (by decide)) (rx_fc (fun h => absurd h (by decide)) (rx_fc (fun h => absurd h (by decide)) (rx_fc (fun h => absurd h (by decide)) (rx_fc (fun h => absurd h (by decide)) (rx_fc (fun h => absurd h (by decide)) (rx_fc (fun h => absurd h (by decide)) (rx_fc (fun h => absurd h (by decide)) (rx_fn))))))))))))))))))))))))))))))))))))))))))))))))))))))))))))))))))))))))))))))))))))))))))))))))))))))))))))))))))))))))))))))))))))))))))))))))))))))))))))))))))))))))))))))))))))))))
set_option maxRecDepth 100000 in
theorem rx_Gy : ∀ e ∈ rx_lkM, e.2.1 = 1001 → Cond.methodLink (rx_own e.1.1) e.1.2 arraycopyName ∈ rx_all ∧ Cond.native arraycopyName ∈ rx_all ∧ Cond.static arraycopyName ∈ rx_all ∧ Cond.initialized "java/lang/System" ∈ rx_all := rx_fc (fun h => absurd h (by decide)) (rx_fc (fun h => absurd h (by decide)) (rx_fc (fun h => absurd h (by decide)) (rx_fc (fun h => absurd h (by decide)) (rx_fc (fun h => absurd h (by decide)) (rx_fc (fun h => absurd h (by decide)) (rx_fc (fun h => absurd h (by decide)) (rx_fc (fun h => absurd h (by decide)) (rx_fc (fun h => absurd h (by decide)) (rx_fc (fun h => absurd h (by decide)) (rx_fc (fun h => absurd h (by decide)) (rx_fc (fun h => absurd h (by decide)) (rx_fc (fun h => absurd h (by decide)) (rx_fc (fun h => absurd h (by decide)) (rx_fc (fun h => absurd h (by decide)) (rx_fc (fun h => absurd h (by decide)) (rx_fc (fun h => absurd h (by decide)) (rx_fc (fun h => absurd h (by decide)) (rx_fc (fun h => absurd h (by decide)) (rx_fc (fun h => absurd h (by decide)) (rx_fc (fun h => absurd h (by decide)) (rx_fc (fun h => absurd h (by decide)) (rx_fc (fun h => absurd h (by decide)) (rx_fc (fun h => absurd h (by decide)) (rx_fc (fun h => absurd h (by decide)) (rx_fc (fun h => absurd h (by decide)) (rx_fc (fun h => absurd h (by decide)) (rx_fc (fun h => absurd h (by decide)) (rx_fc (fun h => absurd h (by decide)) (rx_fc (fun h => absurd h (by decide)) (rx_fc (fun h => absurd h (by decide)) (rx_fc (fun h => absurd h (by decide)) (rx_fc (fun h => absurd h (by decide)) (rx_fc (fun h => absurd h (by decide)) (rx_fc (fun h => absurd h (by decide)) (rx_fc (fun h => absurd h (by decide)) (rx_fc (fun h => absurd h (by decide)) (rx_fc (fun h => absurd h (by decide)) (rx_fc (fun h => absurd h (by decide)) (rx_fc (fun h => absurd h (by decide)) (rx_fc (fun h => absurd h (by decide)) (rx_fc (fun h => absurd h (by decide)) (rx_fc (fun h => absurd h (by decide)) (rx_fc (fun h => absurd h (by decide)) (rx_fc (fun h => absurd h (by decide)) (rx_fc (fun h => absurd h (by decide)) (rx_fc (fun h => absurd h (by decide)) (rx_fc (fun h => absurd h (by decide)) (rx_fc (fun h => absurd h (by decide)) (rx_fc (fun h => absurd h (by decide)) (rx_fc (fun h => absurd h (by decide)) (rx_fc (fun h => absurd h (by decide)) (rx_fc (fun h => absurd h (by decide)) (rx_fc (fun h => absurd h (by decide)) (rx_fc (fun h => absurd h (by decide)) (rx_fc (fun h => absurd h (by decide)) (rx_fc (fun h => absurd h (by decide)) (rx_fc (fun _ => ⟨rxw_323, rxw_325, rxw_324, rxw_9⟩) (rx_fc (fun h => absurd h (by decide)) (rx_fc (fun h => absurd h (by decide)) (rx_fc (fun h => absurd h (by decide)) (rx_fc (fun h => absurd h (by decide)) (rx_fc (fun h => absurd h (by decide)) (rx_fc (fun h => absurd h (by decide)) (rx_fc (fun h => absurd h (by decide)) (rx_fc (fun h => absurd h (by decide)) (rx_fc (fun h => absurd h (by decide)) (rx_fc (fun h => absurd h (by decide)) (rx_fc (fun h => absurd h (by decide)) (rx_fc (fun h => absurd h (by decide)) (rx_fc (fun h => absurd h (by decide)) (rx_fc (fun h => absurd h (by decide)) (rx_fc (fun h => absurd h (by decide)) (rx_fc (fun h => absurd h (by decide)) (rx_fc (fun h => absurd h (by decide)) (rx_fc (fun h => absurd h (by decide)) (rx_fc (fun h => absurd h (by decide)) (rx_fc (fun h => absurd h (by decide)) (rx_fc (fun h => absurd h (by decide)) (rx_fc (fun h => absurd h (by decide)) (rx_fc (fun h => absurd h (by decide)) (rx_fc (fun h => absurd h (by decide)) (rx_fc (fun h => absurd h (by decide)) (rx_fc (fun h => absurd h (by decide)) (rx_fc (fun h => absurd h (by decide)) (rx_fc (fun h => absurd h (by decide)) (rx_fc (fun h => absurd h (by decide)) (rx_fc (fun h => absurd h (by decide)) (rx_fc (fun h => absurd h (by decide)) (rx_fc (fun h => absurd h (by decide)) (rx_fc (fun h => absurd h (by decide)) (rx_fc (fun h => absurd h (by decide)) (rx_fc (fun h => absurd h (by decide)) (rx_fc (fun h => absurd h (by decide)) (rx_fc (fun h => absurd h (by decide)) (rx_fc (fun h => absurd h (by decide)) (rx_fc (fun h => absurd h (by decide)) (rx_fc (fun h => absurd h (by decide)) (rx_fc (fun h => absurd h (by decide)) (rx_fc (fun h => absurd h (by decide)) (rx_fc (fun h => absurd h (by decide)) (rx_fc (fun h => absurd h (by decide)) (rx_fc (fun h => absurd h (by decide)) (rx_fc (fun h => absurd h (by decide)) (rx_fc (fun h => absurd h (by decide)) (rx_fc (fun h => absurd h (by decide)) (rx_fc (fun h => absurd h (by decide)) (rx_fc (fun h => absurd h (by decide)) (rx_fc (fun h => absurd h (by decide)) (rx_fc (fun h => absurd h (by decide)) (rx_fc (fun h => absurd h (by decide)) (rx_fc (fun h => absurd h (by decide)) (rx_fc (fun h => absurd h (by decide)) (rx_fc (fun h => absurd h (by decide)) (rx_fc (fun h => absurd h (by decide)) (rx_fc (fun h => absurd h (by decide)) (rx_fc (fun h => absurd h (by decide)) (rx_fc (fun h => absurd h (by decide)) (rx_fc (fun h => absurd h (by decide)) (rx_fc (fun h => absurd h (by decide)) (rx_fc (fun h => absurd h (by decide)) (rx_fc (fun h => absurd h (by decide)) (rx_fc (fun h => absurd h (by decide)) (rx_fc (fun h => absurd h (by decide)) (rx_fc (fun h => absurd h (by decide)) (rx_fc (fun h => absurd h (by decide)) (rx_fc (fun h => absurd h (by decide)) (rx_fc (fun h => absurd h (by decide)) (rx_fc (fun h => absurd h (by decide)) (rx_fc (fun h => absurd h (by decide)) (rx_fc (fun h => absurd h (by decide)) (rx_fc (fun h => absurd h (by decide)) (rx_fc (fun h => absurd h (by decide)) (rx_fc (fun h => absurd h (by decide)) (rx_fc (fun h => absurd h (by decide)) (rx_fc (fun h => absurd h (by decide)) (rx_fc (fun h => absurd h (by decide)) (rx_fc (fun h => absurd h (by decide)) (rx_fc (fun h => absurd h (by decide)) (rx_fc (fun h => absurd h (by decide)) (rx_fc (fun h => absurd h (by decide)) (rx_fc (fun h => absurd h (by decide)) (rx_fc (fun h => absurd h (by decide)) (rx_fc (fun h => absurd h (by decide)) (rx_fc (fun h => absurd h (by decide)) (rx_fc (fun h => absurd h (by decide)) (rx_fc (fun h => absurd h (by decide)) (rx_fc (fun h => absurd h (by decide)) (rx_fc (fun h => absurd h (by decide)) (rx_fc (fun h => absurd h (by decide)) (rx_fc (fun h => absurd h (by decide)) (rx_fc (fun h => absurd h (by decide)) (rx_fc (fun h => absurd h (by decide)) (rx_fc (fun h => absurd h (by decide)) (rx_fc (fun h => absurd h (by decide)) (rx_fc (fun h => absurd h (by decide)) (rx_fc (fun h => absurd h (by decide)) (rx_fc (fun h => absurd h (by decide)) (rx_fc (fun h => absurd h (by decide)) (rx_fc (fun h => absurd h (by decide)) (rx_fc (fun h => absurd h (by decide)) (rx_fc (fun h => absurd h (by decide)) (rx_fc (fun h => absurd h (by decide)) (rx_fc (fun h => absurd h (by decide)) (rx_fc (fun h => absurd h (by decide)) (rx_fc (fun h => absurd h (by decide)) (rx_fc (fun h => absurd h (by decide)) (rx_fc (fun h => absurd h (by decide)) (rx_fc (fun h => absurd h (by decide)) (rx_fc (fun h => absurd h (by decide)) (rx_fc (fun h => absurd h (by decide)) (rx_fc (fun h => absurd h (by decide)) (rx_fc (fun h => absurd h (by decide)) (rx_fc (fun h => absurd h (by decide)) (rx_fc (fun h => absurd h (by decide)) (rx_fc (fun h => absurd h (by decide)) (rx_fc (fun h => absurd h (by decide)) (rx_fc (fun h => absurd h (by decide)) (rx_fc (fun h => absurd h (by decide)) (rx_fc (fun h => absurd h (by decide)) (rx_fc (fun h => absurd h (by decide)) (rx_fc (fun h => absurd h (by decide)) (rx_fc (fun h => absurd h (by decide)) (rx_fc (fun h => absurd h (by decide)) (rx_fn))))))))))))))))))))))))))))))))))))))))))))))))))))))))))))))))))))))))))))))))))))))))))))))))))))))))))))))))))))))))))))))))))))))))))))))))))))))))))))))))))))))))))))))))))))))))
set_option maxRecDepth 100000 in
theorem rx_Gx4 : ∀ e ∈ rx_lkM, e.2.1 = 1004 → Cond.methodLink (rx_own e.1.1) e.1.2 Lib.Math.max.name ∈ rx_all ∧ Cond.static Lib.Math.max.name ∈ rx_all ∧ Cond.initialized "java/lang/Math" ∈ rx_all ∧ Cond.code Lib.Math.max.name Lib.Math.max.code 2 (some .int) ∈ rx_all := rx_fc (fun h => absurd h (by decide)) (rx_fc (fun h => absurd h (by decide)) (rx_fc (fun h => absurd h (by decide)) (rx_fc (fun h => absurd h (by decide)) (rx_fc (fun h => absurd h (by decide)) (rx_fc (fun h => absurd h (by decide)) (rx_fc (fun h => absurd h (by decide)) (rx_fc (fun h => absurd h (by decide)) (rx_fc (fun h => absurd h (by decide)) (rx_fc (fun h => absurd h (by decide)) (rx_fc (fun h => absurd h (by decide)) (rx_fc (fun h => absurd h (by decide)) (rx_fc (fun h => absurd h (by decide)) (rx_fc (fun h => absurd h (by decide)) (rx_fc (fun h => absurd h (by decide)) (rx_fc (fun h => absurd h (by decide)) (rx_fc (fun h => absurd h (by decide)) (rx_fc (fun h => absurd h (by decide)) (rx_fc (fun h => absurd h (by decide)) (rx_fc (fun h => absurd h (by decide)) (rx_fc (fun h => absurd h (by decide)) (rx_fc (fun h => absurd h (by decide)) (rx_fc (fun h => absurd h (by decide)) (rx_fc (fun h => absurd h (by decide)) (rx_fc (fun h => absurd h (by decide)) (rx_fc (fun h => absurd h (by decide)) (rx_fc (fun h => absurd h (by decide)) (rx_fc (fun h => absurd h (by decide)) (rx_fc (fun h => absurd h (by decide)) (rx_fc (fun h => absurd h (by decide)) (rx_fc (fun h => absurd h (by decide)) (rx_fc (fun h => absurd h (by decide)) (rx_fc (fun h => absurd h (by decide)) (rx_fc (fun h => absurd h (by decide)) (rx_fc (fun h => absurd h (by decide)) (rx_fc (fun h => absurd h (by decide)) (rx_fc (fun h => absurd h (by decide)) (rx_fc (fun h => absurd h (by decide)) (rx_fc (fun h => absurd h (by decide)) (rx_fc (fun h => absurd h (by decide)) (rx_fc (fun h => absurd h (by decide)) (rx_fc (fun h => absurd h (by decide)) (rx_fc (fun h => absurd h (by decide)) (rx_fc (fun h => absurd h (by decide)) (rx_fc (fun h => absurd h (by decide)) (rx_fc (fun h => absurd h (by decide)) (rx_fc (fun h => absurd h (by decide)) (rx_fc (fun h => absurd h (by decide)) (rx_fc (fun h => absurd h (by decide)) (rx_fc (fun h => absurd h (by decide)) (rx_fc (fun h => absurd h (by decide)) (rx_fc (fun h => absurd h (by decide)) (rx_fc (fun h => absurd h (by decide)) (rx_fc (fun h => absurd h (by decide)) (rx_fc (fun h => absurd h (by decide)) (rx_fc (fun h => absurd h (by decide)) (rx_fc (fun h => absurd h (by decide)) (rx_fc (fun h => absurd h (by decide)) (rx_fc (fun h => absurd h (by decide)) (rx_fc (fun h => absurd h (by decide)) (rx_fc (fun h => absurd h (by decide)) (rx_fc (fun h => absurd h (by decide)) (rx_fc (fun h => absurd h (by decide)) (rx_fc (fun h => absurd h (by decide)) (rx_fc (fun h => absurd h (by decide)) (rx_fc (fun h => absurd h (by decide)) (rx_fc (fun h => absurd h (by decide)) (rx_fc (fun h => absurd h (by decide)) (rx_fc (fun h => absurd h (by decide)) (rx_fc (fun h => absurd h (by decide)) (rx_fc (fun h => absurd h (by decide)) (rx_fc (fun h => absurd h (by decide)) (rx_fc (fun h => absurd h (by decide)) (rx_fc (fun h => absurd h (by decide)) (rx_fc (fun _ => ⟨rxw_380, rxw_381, rxw_10, rxw_382⟩) (rx_fc (fun h => absurd h (by decide)) (rx_fc (fun h => absurd h (by decide)) (rx_fc (fun h => absurd h (by decide)) (rx_fc (fun h => absurd h (by decide)) (rx_fc (fun h => absurd h (by decide)) (rx_fc (fun h => absurd h (by decide)) (rx_fc (fun h => absurd h (by decide)) (rx_fc (fun h => absurd h (by decide)) (rx_fc (fun h => absurd h (by decide)) (rx_fc (fun h => absurd h (by decide)) (rx_fc (fun h => absurd h (by decide)) (rx_fc (fun h => absurd h (by decide)) (rx_fc (fun h => absurd h (by decide)) (rx_fc (fun h => absurd h (by decide)) (rx_fc (fun h => absurd h (by decide)) (rx_fc (fun h => absurd h (by decide)) (rx_fc (fun h => absurd h (by decide)) (rx_fc (fun h => absurd h (by decide)) (rx_fc (fun h => absurd h (by decide)) (rx_fc (fun h => absurd h (by decide)) (rx_fc (fun h => absurd h (by decide)) (rx_fc (fun h => absurd h (by decide)) (rx_fc (fun h => absurd h (by decide)) (rx_fc (fun h => absurd h (by decide)) (rx_fc (fun h => absurd h (by decide)) (rx_fc (fun h => absurd h (by decide)) (rx_fc (fun h => absurd h (by decide)) (rx_fc (fun h => absurd h (by decide)) (rx_fc (fun h => absurd h (by decide)) (rx_fc (fun h => absurd h (by decide)) (rx_fc (fun h => absurd h (by decide)) (rx_fc (fun h => absurd h (by decide)) (rx_fc (fun h => absurd h (by decide)) (rx_fc (fun h => absurd h (by decide)) (rx_fc (fun h => absurd h (by decide)) (rx_fc (fun h => absurd h (by decide)) (rx_fc (fun h => absurd h (by decide)) (rx_fc (fun h => absurd h (by decide)) (rx_fc (fun h => absurd h (by decide)) (rx_fc (fun h => absurd h (by decide)) (rx_fc (fun h => absurd h (by decide)) (rx_fc (fun h => absurd h (by decide)) (rx_fc (fun h => absurd h (by decide)) (rx_fc (fun h => absurd h (by decide)) (rx_fc (fun h => absurd h (by decide)) (rx_fc (fun h => absurd h (by decide)) (rx_fc (fun h => absurd h (by decide)) (rx_fc (fun h => absurd h (by decide)) (rx_fc (fun h => absurd h (by decide)) (rx_fc (fun h => absurd h (by decide)) (rx_fc (fun h => absurd h (by decide)) (rx_fc (fun h => absurd h (by decide)) (rx_fc (fun h => absurd h (by decide)) (rx_fc (fun h => absurd h (by decide)) (rx_fc (fun h => absurd h (by decide)) (rx_fc (fun h => absurd h (by decide)) (rx_fc (fun h => absurd h (by decide)) (rx_fc (fun h => absurd h (by decide)) (rx_fc (fun h => absurd h (by decide)) (rx_fc (fun h => absurd h (by decide)) (rx_fc (fun h => absurd h (by decide)) (rx_fc (fun h => absurd h (by decide)) (rx_fc (fun h => absurd h (by decide)) (rx_fc (fun h => absurd h (by decide)) (rx_fc (fun h => absurd h (by decide)) (rx_fc (fun h => absurd h (by decide)) (rx_fc (fun h => absurd h (by decide)) (rx_fc (fun h => absurd h (by decide)) (rx_fc (fun h => absurd h (by decide)) (rx_fc (fun h => absurd h (by decide)) (rx_fc (fun h => absurd h (by decide)) (rx_fc (fun h => absurd h (by decide)) (rx_fc (fun h => absurd h (by decide)) (rx_fc (fun h => absurd h (by decide)) (rx_fc (fun h => absurd h (by decide)) (rx_fc (fun h => absurd h (by decide)) (rx_fc (fun h => absurd h (by decide)) (rx_fc (fun h => absurd h (by decide)) (rx_fc (fun h => absurd h (by decide)) (rx_fc (fun h => absurd h (by decide)) (rx_fc (fun h => absurd h (by decide)) (rx_fc (fun h => absurd h (by decide)) (rx_fc (fun h => absurd h (by decide)) (rx_fc (fun h => absurd h (by decide)) (rx_fc (fun h => absurd h (by decide)) (rx_fc (fun h => absurd h (by decide)) (rx_fc (fun h => absurd h (by decide)) (rx_fc (fun h => absurd h (by decide)) (rx_fc (fun h => absurd h (by decide)) (rx_fc (fun h => absurd h (by decide)) (rx_fc (fun h => absurd h (by decide)) (rx_fc (fun h => absurd h (by decide)) (rx_fc (fun h => absurd h (by decide)) (rx_fc (fun h => absurd h (by decide)) (rx_fc (fun h => absurd h (by decide)) (rx_fc (fun h => absurd h (by decide)) (rx_fc (fun h => absurd h (by decide)) (rx_fc (fun h => absurd h (by decide)) (rx_fc (fun h => absurd h (by decide)) (rx_fc (fun h => absurd h (by decide)) (rx_fc (fun h => absurd h (by decide)) (rx_fc (fun h => absurd h (by decide)) (rx_fc (fun h => absurd h (by decide)) (rx_fc (fun h => absurd h (by decide)) (rx_fc (fun h => absurd h (by decide)) (rx_fc (fun h => absurd h (by decide)) (rx_fc (fun h => absurd h (by decide)) (rx_fc (fun h => absurd h (by decide)) (rx_fc (fun h => absurd h (by decide)) (rx_fn))))))))))))))))))))))))))))))))))))))))))))))))))))))))))))))))))))))))))))))))))))))))))))))))))))))))))))))))))))))))))))))))))))))))))))))))))))))))))))))))))))))))))))))))))))))))
set_option maxRecDepth 100000 in
theorem rx_Gx5 : ∀ e ∈ rx_lkM, e.2.1 = 1005 → Cond.methodLink (rx_own e.1.1) e.1.2 Lib.Math.min.name ∈ rx_all ∧ Cond.static Lib.Math.min.name ∈ rx_all ∧ Cond.initialized "java/lang/Math" ∈ rx_all ∧ Cond.code Lib.Math.min.name Lib.Math.min.code 2 (some .int) ∈ rx_all := rx_fc (fun h => absurd h (by decide)) (rx_fc (fun h => absurd h (by decide)) (rx_fc (fun h => absurd h (by decide)) (rx_fc (fun h => absurd h (by decide)) (rx_fc (fun h => absurd h (by decide)) (rx_fc (fun h => absurd h (by decide)) (rx_fc (fun h => absurd h (by decide)) (rx_fc (fun h => absurd h (by decide)) (rx_fc (fun h => absurd h (by decide)) (rx_fc (fun h => absurd h (by decide)) (rx_fc (fun h => absurd h (by decide)) (rx_fc (fun h => absurd h (by decide)) (rx_fc (fun h => absurd h (by decide)) (rx_fc (fun h => absurd h (by decide)) (rx_fc (fun h => absurd h (by decide)) (rx_fc (fun h => absurd h (by decide)) (rx_fc (fun h => absurd h (by decide)) (rx_fc (fun h => absurd h (by decide)) (rx_fc (fun h => absurd h (by decide)) (rx_fc (fun h => absurd h (by decide)) (rx_fc (fun h => absurd h (by decide)) (rx_fc (fun h => absurd h (by decide)) (rx_fc (fun h => absurd h (by decide)) (rx_fc (fun h => absurd h (by decide)) (rx_fc (fun h => absurd h (by decide)) (rx_fc (fun h => absurd h (by decide)) (rx_fc (fun h => absurd h (by decide)) (rx_fc (fun h => absurd h (by decide)) (rx_fc (fun h => absurd h (by decide)) (rx_fc (fun h => absurd h (by decide)) (rx_fc (fun h => absurd h (by decide)) (rx_fc (fun h => absurd h (by decide)) (rx_fc (fun h => absurd h (by decide)) (rx_fc (fun h => absurd h (by decide)) (rx_fc (fun h => absurd h (by decide)) (rx_fc (fun h => absurd h (by decide)) (rx_fc (fun h => absurd h (by decide)) (rx_fc (fun h => absurd h (by decide)) (rx_fc (fun h => absurd h (by decide)) (rx_fc (fun h => absurd h (by decide)) (rx_fc (fun h => absurd h (by decide)) (rx_fc (fun h => absurd h (by decide)) (rx_fc (fun h => absurd h (by decide)) (rx_fc (fun h => absurd h (by decide)) (rx_fc (fun h => absurd h (by decide)) (rx_fc (fun h => absurd h (by decide)) (rx_fc (fun h => absurd h (by decide)) (rx_fc (fun h => absurd h (by decide)) (rx_fc (fun h => absurd h (by decide)) (rx_fc (fun h => absurd h (by decide)) (rx_fc (fun h => absurd h (by decide)) (rx_fc (fun h => absurd h (by decide)) (rx_fc (fun h => absurd h (by decide)) (rx_fc (fun h => absurd h (by decide)) (rx_fc (fun h => absurd h (by decide)) (rx_fc (fun h => absurd h (by decide)) (rx_fc (fun h => absurd h (by decide)) (rx_fc (fun h => absurd h (by decide)) (rx_fc (fun h => absurd h (by decide)) (rx_fc (fun h => absurd h (by decide)) (rx_fc (fun h => absurd h (by decide)) (rx_fc (fun h => absurd h (by decide)) (rx_fc (fun h => absurd h (by decide)) (rx_fc (fun h => absurd h (by decide)) (rx_fc (fun h => absurd h (by decide)) (rx_fc (fun h => absurd h (by decide)) (rx_fc (fun h => absurd h (by decide)) (rx_fc (fun h => absurd h (by decide)) (rx_fc (fun h => absurd h (by decide)) (rx_fc (fun h => absurd h (by decide)) (rx_fc (fun h => absurd h (by decide)) (rx_fc (fun h => absurd h (by decide)) (rx_fc (fun h => absurd h (by decide)) (rx_fc (fun _ => ⟨rxw_377, rxw_378, rxw_10, rxw_379⟩) (rx_fc (fun h => absurd h (by decide)) (rx_fc (fun h => absurd h (by decide)) (rx_fc (fun h => absurd h (by decide)) (rx_fc (fun h => absurd h (by decide)) (rx_fc (fun h => absurd h (by decide)) (rx_fc (fun h => absurd h (by decide)) (rx_fc (fun h => absurd h (by decide)) (rx_fc (fun h => absurd h (by decide)) (rx_fc (fun h => absurd h (by decide)) (rx_fc (fun h => absurd h (by decide)) (rx_fc (fun h => absurd h (by decide)) (rx_fc (fun h => absurd h (by decide)) (rx_fc (fun h => absurd h (by decide)) (rx_fc (fun h => absurd h (by decide)) (rx_fc (fun h => absurd h (by decide)) (rx_fc (fun h => absurd h (by decide)) (rx_fc (fun h => absurd h (by decide)) (rx_fc (fun h => absurd h (by decide)) (rx_fc (fun h => absurd h (by decide)) (rx_fc (fun h => absurd h (by decide)) (rx_fc (fun h => absurd h (by decide)) (rx_fc (fun h => absurd h (by decide)) (rx_fc (fun h => absurd h (by decide)) (rx_fc (fun h => absurd h (by decide)) (rx_fc (fun h => absurd h (by decide)) (rx_fc (fun h => absurd h (by decide)) (rx_fc (fun h => absurd h (by decide)) (rx_fc (fun h => absurd h (by decide)) (rx_fc (fun h => absurd h (by decide)) (rx_fc (fun h => absurd h (by decide)) (rx_fc (fun h => absurd h (by decide)) (rx_fc (fun h => absurd h (by decide)) (rx_fc (fun h => absurd h (by decide)) (rx_fc (fun h => absurd h (by decide)) (rx_fc (fun h => absurd h (by decide)) (rx_fc (fun h => absurd h (by decide)) (rx_fc (fun h => absurd h (by decide)) (rx_fc (fun h => absurd h (by decide)) (rx_fc (fun h => absurd h (by decide)) (rx_fc (fun h => absurd h (by decide)) (rx_fc (fun h => absurd h (by decide)) (rx_fc (fun h => absurd h (by decide)) (rx_fc (fun h => absurd h (by decide)) (rx_fc (fun h => absurd h (by decide)) (rx_fc (fun h => absurd h (by decide)) (rx_fc (fun h => absurd h (by decide)) (rx_fc (fun h => absurd h (by decide)) (rx_fc (fun h => absurd h (by decide)) (rx_fc (fun h => absurd h (by decide)) (rx_fc (fun h => absurd h (by decide)) (rx_fc (fun h => absurd h (by decide)) (rx_fc (fun h => absurd h (by decide)) (rx_fc (fun h => absurd h (by decide)) (rx_fc (fun h => absurd h (by decide)) (rx_fc (fun h => absurd h (by decide)) (rx_fc (fun h => absurd h (by decide)) (rx_fc (fun h => absurd h (by decide)) (rx_fc (fun h => absurd h (by decide)) (rx_fc (fun h => absurd h (by decide)) (rx_fc (fun h => absurd h (by decide)) (rx_fc (fun h => absurd h (by decide)) (rx_fc (fun h => absurd h (by decide)) (rx_fc (fun h => absurd h (by decide)) (rx_fc (fun h => absurd h (by decide)) (rx_fc (fun h => absurd h (by decide)) (rx_fc (fun h => absurd h (by decide)) (rx_fc (fun h => absurd h (by decide)) (rx_fc (fun h => absurd h (by decide)) (rx_fc (fun h => absurd h (by decide)) (rx_fc (fun h => absurd h (by decide)) (rx_fc (fun h => absurd h (by decide)) (rx_fc (fun h => absurd h (by decide)) (rx_fc (fun h => absurd h (by decide)) (rx_fc (fun h => absurd h (by decide)) (rx_fc (fun h => absurd h (by decide)) (rx_fc (fun h => absurd h (by decide)) (rx_fc (fun h => absurd h (by decide)) (rx_fc (fun h => absurd h (by decide)) (rx_fc (fun h => absurd h (by decide)) (rx_fc (fun h => absurd h (by decide)) (rx_fc (fun h => absurd h (by decide)) (rx_fc (fun h => absurd h (by decide)) (rx_fc (fun h => absurd h (by decide)) (rx_fc (fun h => absurd h (by decide)) (rx_fc (fun h => absurd h (by decide)) (rx_fc (fun h => absurd h (by decide)) (rx_fc (fun h => absurd h (by decide)) (rx_fc (fun h => absurd h (by decide)) (rx_fc (fun h => absurd h (by decide)) (rx_fc (fun h => absurd h (by decide)) (rx_fc (fun h => absurd h (by decide)) (rx_fc (fun h => absurd h (by decide)) (rx_fc (fun h => absurd h (by decide)) (rx_fc (fun h => absurd h (by decide)) (rx_fc (fun h => absurd h (by decide)) (rx_fc (fun h => absurd h (by decide)) (rx_fc (fun h => absurd h (by decide)) (rx_fc (fun h => absurd h (by decide)) (rx_fc (fun h => absurd h (by decide)) (rx_fc (fun h => absurd h (by decide)) (rx_fc (fun h => absurd h (by decide)) (rx_fc (fun h => absurd h (by decide)) (rx_fc (fun h => absurd h (by decide)) (rx_fc (fun h => absurd h (by decide)) (rx_fc (fun h => absurd h (by decide)) (rx_fc (fun h => absurd h (by decide)) (rx_fc (fun h => absurd h (by decide)) (rx_fc (fun h => absurd h (by decide)) (rx_fc (fun h => absurd h (by decide)) (rx_fc (fun h => absurd h (by decide)) (rx_fn))))))))))))))))))))))))))))))))))))))))))))))))))))))))))))))))))))))))))))))))))))))))))))))))))))))))))))))))))))))))))))))))))))))))))))))))))))))))))))))))))))))))))))))))))))))))
theorem rx_Gn : ∀ e ∈ rx_lkC, ∀ fs, rx_cds[e.2]? = some fs → rx_GN rx_all rx_cl rx_cds (rx_own e.1.1) e.1.2 e.2 := rx_fc (fun _ _ => ⟨_, _, _, rx_y0, _, rfl, rfl, rfl, by decide +kernel, rxw_11, rx_p0, by decide +kernel⟩) (rx_fc (fun _ _ => ⟨_, _, _, rx_y1, _, rfl, rfl, rfl, by decide +kernel, rxw_19, rx_p1, by decide +kernel⟩) (rx_fc (fun _ _ => ⟨_, _, _, rx_y2, _, rfl, rfl, rfl, by decide +kernel, rxw_39, rx_p2, by decide +kernel⟩) (rx_fc (fun _ _ => ⟨_, _, _, rx_y3, _, rfl, rfl, rfl, by decide +kernel, rxw_45, rx_p3, by decide +kernel⟩) (rx_fc (fun fs h => by cases h) (rx_fc (fun _ _ => ⟨_, _, _, rx_y4, _, rfl, rfl, rfl, by decide +kernel, rxw_69, rx_p4, by decide +kernel⟩) (rx_fc (fun _ _ => ⟨_, _, _, rx_y5, _, rfl, rfl, rfl, by decide +kernel, rxw_533, rx_p5, by decide +kernel⟩) (rx_fn)))))))
theorem rx_Gm : ∀ e ∈ rx_lkC, e.2 = 1003 → Cond.classLink (rx_own e.1.1) e.1.2 "[[J" ∈ rx_all ∧ Cond.arrayOver (.array .long) ∈ rx_nst ∧ Cond.arrayClass .long ∈ rx_all := rx_fc (fun h => absurd h (by decide)) (rx_fc (fun h => absurd h (by decide)) (rx_fc (fun h => absurd h (by decide)) (rx_fc (fun h => absurd h (by decide)) (rx_fc (fun _ => ⟨rxw_51, rxn_52, rxw_68⟩) (rx_fc (fun h => absurd h (by decide)) (rx_fc (fun h => absurd h (by decide)) (rx_fn)))))))
theorem rx_Gc : ∀ e ∈ rx_lkI, Cond.constant (rx_own e.1.1) e.1.2 e.2 ∈ rx_all := rx_fc (rxw_194) (rx_fc (rxw_195) (rx_fc (rxw_196) (rx_fc (rxw_317) (rx_fn))))
theorem rx_Gl : ∀ e ∈ rx_lkL, Cond.constantLong (rx_own e.1.1) e.1.2 e.2 ∈ rx_all := rx_fc (rxw_360) (rx_fc (rxw_726) (rx_fc (rxw_785) (rx_fc (rxw_814) (rx_fc (rxw_815) (rx_fc (rxw_816) (rx_fc (rxw_837) (rx_fn)))))))
theorem rx_Ga : ∀ (a : ArrayType) (q : Nat × FieldType), rx_aty a = some q → Cond.arrayClass q.2 ∈ rx_all := fun a q h => by cases a <;> first | (cases h; exact rxw_38) | (cases h; exact rxw_68) | (cases h; exact rxw_642) | (cases h)
theorem rx_G0 : rx_G rx_all rx_nst rx_cl rx_cds rx_tys rx_sts rx_own rx_lk0 := ⟨⟨rfl, rfl, rfl, rfl, by decide⟩, rx_GC0, fun _ _ _ h => rx_Gf _ h, fun _ _ _ h => rx_Gs _ h, fun _ _ _ h => rx_Go _ h, fun _ _ _ h => rx_Gy _ h, fun _ _ _ h => rx_Gx4 _ h, fun _ _ _ h => rx_Gx5 _ h, fun _ _ _ fs h h2 => rx_Gn _ h fs h2, fun _ _ h => rx_Gm _ h rfl, fun _ _ _ h => rx_Gc _ h, fun _ _ _ h => rx_Gl _ h, rx_Ga⟩
theorem rx_GK0 : rx_GK rx_all rx_nst rx_cl rx_own rx_ms rx_lk0 := fun _ _ _ h => rx_Gk _ h
set_option maxRecDepth 100000 in
theorem rx_GDl : ∀ M ∈ rx_ms, rx_own (rx_Mo M) = (rx_My M).cls ∧ rx_chk M = true := rx_fc (⟨by decide +kernel, rxd_0⟩) (rx_fc (⟨by decide +kernel, rxd_1⟩) (rx_fc (⟨by decide +kernel, rxd_2⟩) (rx_fc (⟨by decide +kernel, rxd_3⟩) (rx_fc (⟨by decide +kernel, rxd_4⟩) (rx_fc (⟨by decide +kernel, rxd_5⟩) (rx_fc (⟨by decide +kernel, rxd_6⟩) (rx_fc (⟨by decide +kernel, rxd_7⟩) (rx_fc (⟨by decide +kernel, rxd_8⟩) (rx_fc (⟨by decide +kernel, rxd_9⟩) (rx_fc (⟨by decide +kernel, rxd_10⟩) (rx_fc (⟨by decide +kernel, rxd_11⟩) (rx_fc (⟨by decide +kernel, rxd_12⟩) (rx_fc (⟨by decide +kernel, rxd_13⟩) (rx_fc (⟨by decide +kernel, rxd_14⟩) (rx_fc (⟨by decide +kernel, rxd_15⟩) (rx_fc (⟨by decide +kernel, rxd_16⟩) (rx_fc (⟨by decide +kernel, rxd_17⟩) (rx_fc (⟨by decide +kernel, rxd_18⟩) (rx_fc (⟨by decide +kernel, rxd_19⟩) (rx_fc (⟨by decide +kernel, rxd_20⟩) (rx_fc (⟨by decide +kernel, rxd_21⟩) (rx_fc (⟨by decide +kernel, rxd_22⟩) (rx_fc (⟨by decide +kernel, rxd_23⟩) (rx_fc (⟨by decide +kernel, rxd_24⟩) (rx_fc (⟨by decide +kernel, rxd_25⟩) (rx_fc (⟨by decide +kernel, rxd_26⟩) (rx_fc (⟨by decide +kernel, rxd_27⟩) (rx_fc (⟨by decide +kernel, rxd_28⟩) (rx_fc (⟨by decide +kernel, rxd_29⟩) (rx_fc (⟨by decide +kernel, rxd_30⟩) (rx_fc (⟨by decide +kernel, rxd_31⟩) (rx_fc (⟨by decide +kernel, rxd_32⟩) (rx_fc (⟨by decide +kernel, rxd_33⟩) (rx_fc (⟨by decide +kernel, rxd_34⟩) (rx_fc (⟨by decide +kernel, rxd_35⟩) (rx_fc (⟨by decide +kernel, rxd_36⟩) (rx_fc (⟨by decide +kernel, rxd_37⟩) (rx_fc (⟨by decide +kernel, rxd_38⟩) (rx_fc (⟨by decide +kernel, rxd_39⟩) (rx_fc (⟨by decide +kernel, rxd_40⟩) (rx_fc (⟨by decide +kernel, rxd_41⟩) (rx_fc (⟨by decide +kernel, rxd_42⟩) (rx_fc (⟨by decide +kernel, rxd_43⟩) (rx_fc (⟨by decide +kernel, rxd_44⟩) (rx_fc (⟨by decide +kernel, rxd_45⟩) (rx_fc (⟨by decide +kernel, rxd_46⟩) (rx_fc (⟨by decide +kernel, rxd_47⟩) (rx_fc (⟨by decide +kernel, rxd_48⟩) (rx_fc (⟨by decide +kernel, rxd_49⟩) (rx_fc (⟨by decide +kernel, rxd_50⟩) (rx_fc (⟨by decide +kernel, rxd_51⟩) (rx_fc (⟨by decide +kernel, rxd_52⟩) (rx_fc (⟨by decide +kernel, rxd_53⟩) (rx_fc (⟨by decide +kernel, rxd_54⟩) (rx_fc (⟨by decide +kernel, rxd_55⟩) (rx_fc (⟨by decide +kernel, rxd_56⟩) (rx_fc (⟨by decide +kernel, rxd_57⟩) (rx_fc (⟨by decide +kernel, rxd_58⟩) (rx_fc (⟨by decide +kernel, rxd_59⟩) (rx_fc (⟨by decide +kernel, rxd_60⟩) (rx_fc (⟨by decide +kernel, rxd_61⟩) (rx_fc (⟨by decide +kernel, rxd_62⟩) (rx_fc (⟨by decide +kernel, rxd_63⟩) (rx_fc (⟨by decide +kernel, rxd_64⟩) (rx_fc (⟨by decide +kernel, rxd_65⟩) (rx_fc (⟨by decide +kernel, rxd_66⟩) (rx_fc (⟨by decide +kernel, rxd_67⟩) (rx_fc (⟨by decide +kernel, rxd_68⟩) (rx_fc (⟨by decide +kernel, rxd_69⟩) (rx_fc (⟨by decide +kernel, rxd_70⟩) (rx_fc (⟨by decide +kernel, rxd_71⟩) (rx_fc (⟨by decide +kernel, rxd_72⟩) (rx_fc (⟨by decide +kernel, rxd_73⟩) (rx_fc (⟨by decide +kernel, rxd_74⟩) (rx_fc (⟨by decide +kernel, rxd_75⟩) (rx_fc (⟨by decide +kernel, rxd_76⟩) (rx_fc (⟨by decide +kernel, rxd_77⟩) (rx_fc (⟨by decide +kernel, rxd_78⟩) (rx_fc (⟨by decide +kernel, rxd_79⟩) (rx_fc (⟨by decide +kernel, rxd_80⟩) (rx_fc (⟨by decide +kernel, rxd_81⟩) (rx_fc (⟨by decide +kernel, rxd_82⟩) (rx_fc (⟨by decide +kernel, rxd_83⟩) (rx_fc (⟨by decide +kernel, rxd_84⟩) (rx_fc (⟨by decide +kernel, rxd_85⟩) (rx_fc (⟨by decide +kernel, rxd_86⟩) (rx_fc (⟨by decide +kernel, rxd_87⟩) (rx_fc (⟨by decide +kernel, rxd_88⟩) (rx_fc (⟨by decide +kernel, rxd_89⟩) (rx_fc (⟨by decide +kernel, rxd_90⟩) (rx_fc (⟨by decide +kernel, rxd_91⟩) (rx_fc (⟨by decide +kernel, rxd_92⟩) (rx_fc (⟨by decide +kernel, rxd_93⟩) (rx_fc (⟨by decide +kernel, rxd_94⟩) (rx_fc (⟨by decide +kernel, rxd_95⟩) (rx_fc (⟨by decide +kernel, rxd_96⟩) (rx_fc (⟨by decide +kernel, rxd_97⟩) (rx_fc (⟨by decide +kernel, rxd_98⟩) (rx_fc (⟨by decide +kernel, rxd_99⟩) (rx_fc (⟨by decide +kernel, rxd_100⟩) (rx_fc (⟨by decide +kernel, rxd_101⟩) (rx_fc (⟨by decide +kernel, rxd_102⟩) (rx_fc (⟨by decide +kernel, rxd_103⟩) (rx_fc (⟨by decide +kernel, rxd_104⟩) (rx_fc (⟨by decide +kernel, rxd_105⟩) (rx_fc (⟨by decide +kernel, rxd_106⟩) (rx_fc (⟨by decide +kernel, rxd_107⟩) (rx_fc (⟨by decide +kernel, rxd_108⟩) (rx_fc (⟨by decide +kernel, rxd_109⟩) (rx_fc (⟨by decide +kernel, rxd_110⟩) (rx_fc (⟨by decide +kernel, rxd_111⟩) (rx_fc (⟨by decide +kernel, rxd_112⟩) (rx_fc (⟨by decide +kernel, rxd_113⟩) (rx_fc (⟨by decide +kernel, rxd_114⟩) (rx_fc (⟨by decide +kernel, rxd_115⟩) (rx_fc (⟨by decide +kernel, rxd_116⟩) (rx_fc (⟨by decide +kernel, rxd_117⟩) (rx_fc (⟨by decide +kernel, rxd_118⟩) (rx_fc (⟨by decide +kernel, rxd_119⟩) (rx_fc (⟨by decide +kernel, rxd_120⟩) (rx_fc (⟨by decide +kernel, rxd_121⟩) (rx_fc (⟨by decide +kernel, rxd_122⟩) (rx_fc (⟨by decide +kernel, rxd_123⟩) (rx_fc (⟨by decide +kernel, rxd_124⟩) (rx_fc (⟨by decide +kernel, rxd_125⟩) (rx_fc (⟨by decide +kernel, rxd_126⟩) (rx_fc (⟨by decide +kernel, rxd_127⟩) (rx_fc (⟨by decide +kernel, rxd_128⟩) (rx_fc (⟨by decide +kernel, rxd_129⟩) (rx_fc (⟨by decide +kernel, rxd_130⟩) (rx_fc (⟨by decide +kernel, rxd_131⟩) (rx_fc (⟨by decide +kernel, rxd_132⟩) (rx_fc (⟨by decide +kernel, rxd_133⟩) (rx_fc (⟨by decide +kernel, rxd_134⟩) (rx_fc (⟨by decide +kernel, rxd_135⟩) (rx_fc (⟨by decide +kernel, rxd_136⟩) (rx_fc (⟨by decide +kernel, rxd_137⟩) (rx_fc (⟨by decide +kernel, rxd_138⟩) (rx_fc (⟨by decide +kernel, rxd_139⟩) (rx_fc (⟨by decide +kernel, rxd_140⟩) (rx_fc (⟨by decide +kernel, rxd_141⟩) (rx_fc (⟨by decide +kernel, rxd_142⟩) (rx_fc (⟨by decide +kernel, rxd_143⟩) (rx_fc (⟨by decide +kernel, rxd_144⟩) (rx_fc (⟨by decide +kernel, rxd_145⟩) (rx_fc (⟨by decide +kernel, rxd_146⟩) (rx_fc (⟨by decide +kernel, rxd_147⟩) (rx_fc (⟨by decide +kernel, rxd_148⟩) (rx_fc (⟨by decide +kernel, rxd_149⟩) (rx_fc (⟨by decide +kernel, rxd_150⟩) (rx_fc (⟨by decide +kernel, rxd_151⟩) (rx_fc (⟨by decide +kernel, rxd_152⟩) (rx_fc (⟨by decide +kernel, rxd_153⟩) (rx_fc (⟨by decide +kernel, rxd_154⟩) (rx_fc (⟨by decide +kernel, rxd_155⟩) (rx_fc (⟨by decide +kernel, rxd_156⟩) (rx_fc (⟨by decide +kernel, rxd_157⟩) (rx_fc (⟨by decide +kernel, rxd_158⟩) (rx_fc (⟨by decide +kernel, rxd_159⟩) (rx_fc (⟨by decide +kernel, rxd_160⟩) (rx_fc (⟨by decide +kernel, rxd_161⟩) (rx_fc (⟨by decide +kernel, rxd_162⟩) (rx_fc (⟨by decide +kernel, rxd_163⟩) (rx_fn))))))))))))))))))))))))))))))))))))))))))))))))))))))))))))))))))))))))))))))))))))))))))))))))))))))))))))))))))))))))))))))))))))))))))))))))))))))))))))))))))))
theorem rx_GD0 : rx_GD rx_own rx_ms := fun j M h => by
  obtain ⟨h1, h2⟩ := rx_GDl M (List.mem_of_getElem? h)
  refine ⟨h1, fun c hc q hq => ?_⟩
  have h3 := List.all_eq_true.mp (List.all_eq_true.mp h2 c hc) q hq
  simp only [Bool.and_eq_true, decide_eq_true_eq] at h3
  exact h3
end
section
/-! THE CLAIM OUT OF ONE WALK OF THE LAW'S BODY. Your part is whole_start (and what it stands on); all else here is the same for every law, but numbers. -/
def R_law : String := "AngleChainsLaw"
def lw_P (b : Addr) (xs : List Int32) (args : Array Value) (s : State) : Prop := args = #[.ref b] ∧ s.IntsAt b xs ∧ xs.length ≤ 4 ∧ (Jvm.Cond.and given_1 narrow_1).before args s = true
def lw_Q (_ : Array Value) (s : State) (o : Outcome) (t : State) : Prop := o = .returned (some (.int 1)) ∧ Framed s o t [] 600000 7302250
def lw_Z (below : List Frame) (a : Array Value) (s : State) : State → Prop := fun t => ∃ o, t.status = .running ∧ Ended t below o ∧ lw_Q a s o t
/-- the law's own end, with 1 on the stack, nothing written that was there before, its room as the claim has it -/
theorem lw_ret {p : Program} {l : Launch} {e : Env} {s : State} {m : MethodId} {below : List Frame} {meth : Method} {c : Code} {b : Nat} (hx : p.tables.exec = Jvm.exec) (hb : c.code = code) (hr : meth.sig.returnType = ret) (hlocks : meth.locks = false) {pc : Nat} {H : Heap} {ls : Array Slot} (hdg : decode code pc = .ok (.ireturn, 1)) : W p l e room_1 s m #[Value.ref b] below meth c H [] 600000 7302250 (lw_Z below #[Value.ref b] s) (F0 m pc ls [.int 1]) := by
  intro T hT X
  obtain ⟨fs, hret, hrun, hended, hW, hframe⟩ := X.leave (v := some (.int 1)) (hlocks := hlocks) (fun h => by rw [hr] at h; cases h)
  have hmeth' : T.vm.method? m = some meth := X.method'
  refine ⟨T.setFrames fs, ?_, .returned (some (.int 1)), hrun, hended, rfl, ⟨_, rfl⟩, hW, hframe⟩
  jvm_step X.here [X.here.top, hx, hb, hdg, hmeth', hr, ret, narrow_b1]
  (try refine ⟨rfl, ?_⟩); (try refine ⟨rfl, ?_⟩)
  first | (intro acts; rw [hret _ acts rfl rfl rfl]) | rw [hret _ _ rfl rfl rfl]
  exact Steps.refl _
/-- what holds at the law's entry: the machine, the code, the tables' words (any of lw_tbl by 'hts w (by decide +kernel)'), the script of L ints xs at the cell b, what the Statement gives of the start (any of its parts by flat_of_before) -/
def lw_At (p : Program) (s : State) (m : MethodId) (meth : Method) (c : Code) (b L : Nat) (xs : Nat → Int32) : Prop :=
  p.tables.exec = Jvm.exec ∧ c.code = code ∧ meth.sig.returnType = ret ∧ c.maxLocals = 4 ∧ s.vm.findClass R_law = some m.cls ∧ (∀ w ∈ lw_tbl, w.before #[Value.ref b] s = true) ∧ va_X b L xs s s.heap ∧ b < s.heap.size ∧ meth.locks = false ∧ (Jvm.Cond.and given_1 narrow_1).before #[Value.ref b] s = true
end
section
def rx_s1v : List Int32 := [3, 4, 4, 4, 4, 3, 8]
def rx_s2v : List Int32 := [3, 5, 9, 17, 33, 65, 6, 10, 18, 34, 66, 12, 20, 36, 68, 24, 40, 72, 48, 80, 96]
def rx_s3v : List Int32 := [7, 11, 13, 14, 19, 21, 22, 25, 26, 28, 35, 37, 38, 41, 42, 44, 49, 50, 52, 56, 67, 69, 70, 73, 74, 76, 81, 82, 84, 88, 97, 98, 100, 104, 112]
def rx_s4v : List Int32 := [0, 0, 1, 2, 3, 4, 5, 0, 0, 0, 6, 7, 8, 9, 10, 0, 1, 6, 0, 11, 12, 13, 14, 0, 2, 7, 11, 0, 15, 16, 17, 0, 3, 8, 12, 15, 0, 18, 19, 0, 4, 9, 13, 16, 18, 0, 20, 0, 5, 10, 14, 17, 19, 20, 0, 0, 0, 0, 0, 0, 0, 0, 0, 0]
/-- the read-only arrays: the script, the static tables -/
def rx_rt (L : Nat) (xs : Nat → Int32) : rx_R := fun id => match id with
  | 0 => some (L, xs)
  | 1 => some (7, fun j => rx_s1v.getD j 0)
  | 2 => some (21, fun j => rx_s2v.getD j 0)
  | 3 => some (35, fun j => rx_s3v.getD j 0)
  | 4 => some (64, fun j => rx_s4v.getD j 0)
  | _ => none
set_option maxRecDepth 100000 in
theorem rx_s1t {s : State} {args : Array Value} (hs : ∀ c ∈ flatC (Jvm.Cond.and given_1 narrow_1), c.before args s = true) (hts : ∀ w ∈ lw_tbl, w.before args s = true) : ∃ t : Nat, va_T .int t 7 (fun j => .int (rx_s1v.getD j 0)) (fun q => s.heap.size ≤ q) s s.heap ∧ va_Z "AngleChains" "POINTS_OF_KIND" "[I" (.ref t) (fun q => s.heap.size ≤ q) s s.heap := by
  have hel : ∀ j : Nat, j < 7 → (Term.elem (Jvm.Term.static "AngleChains" "POINTS_OF_KIND" "[I") (.int (Int32.ofNat j))).eval args s none [] s = some (Value.int (rx_s1v.getD j 0)) := lt_s (lt_s (lt_s (lt_s (lt_s (lt_s (lt_s (lt_0) (va_eqt (hs (Cond.eq (Term.elem (Jvm.Term.static "AngleChains" "POINTS_OF_KIND" "[I") (.int (0 : Int32))) (.int (3 : Int32))) (by decide +kernel)))) (va_eqt (hs (Cond.eq (Term.elem (Jvm.Term.static "AngleChains" "POINTS_OF_KIND" "[I") (.int (1 : Int32))) (.int (4 : Int32))) (by decide +kernel)))) (va_eqt (hs (Cond.eq (Term.elem (Jvm.Term.static "AngleChains" "POINTS_OF_KIND" "[I") (.int (2 : Int32))) (.int (4 : Int32))) (by decide +kernel)))) (va_eqt (hs (Cond.eq (Term.elem (Jvm.Term.static "AngleChains" "POINTS_OF_KIND" "[I") (.int (3 : Int32))) (.int (4 : Int32))) (by decide +kernel)))) (va_eqt (hs (Cond.eq (Term.elem (Jvm.Term.static "AngleChains" "POINTS_OF_KIND" "[I") (.int (4 : Int32))) (.int (4 : Int32))) (by decide +kernel)))) (va_eqt (hs (Cond.eq (Term.elem (Jvm.Term.static "AngleChains" "POINTS_OF_KIND" "[I") (.int (5 : Int32))) (.int (3 : Int32))) (by decide +kernel)))) (va_eqt (hs (Cond.eq (Term.elem (Jvm.Term.static "AngleChains" "POINTS_OF_KIND" "[I") (.int (6 : Int32))) (.int (8 : Int32))) (by decide +kernel)))
  obtain ⟨t, h1, h2⟩ := va_Tof (A := fun q => s.heap.size ≤ q) (N := 7) (f := fun j => Value.int (rx_s1v.getD j 0)) (by decide) (hs (Cond.arrayOf (Jvm.Term.static "AngleChains" "POINTS_OF_KIND" "[I") .int) (by decide +kernel)) (va_eqt (hs (Cond.eq (Term.length (Jvm.Term.static "AngleChains" "POINTS_OF_KIND" "[I")) (.int (7 : Int32))) (by decide +kernel))) hel (fun a h => Nat.not_le.mpr h)
  exact ⟨t, h2, va_Zof (hts (.laysStatic "AngleChains" "POINTS_OF_KIND" "[I") (by decide +kernel)) (hts (.initialized "AngleChains") (by decide +kernel)) h1 (fun a h => Nat.not_le.mpr h)⟩
set_option maxRecDepth 100000 in
theorem rx_s2t {s : State} {args : Array Value} (hs : ∀ c ∈ flatC (Jvm.Cond.and given_1 narrow_1), c.before args s = true) (hts : ∀ w ∈ lw_tbl, w.before args s = true) : ∃ t : Nat, va_T .int t 21 (fun j => .int (rx_s2v.getD j 0)) (fun q => s.heap.size ≤ q) s s.heap ∧ va_Z "AngleChains" "PAIR_BITS" "[I" (.ref t) (fun q => s.heap.size ≤ q) s s.heap := by
  have hel : ∀ j : Nat, j < 21 → (Term.elem (Jvm.Term.static "AngleChains" "PAIR_BITS" "[I") (.int (Int32.ofNat j))).eval args s none [] s = some (Value.int (rx_s2v.getD j 0)) := lt_s (lt_s (lt_s (lt_s (lt_s (lt_s (lt_s (lt_s (lt_s (lt_s (lt_s (lt_s (lt_s (lt_s (lt_s (lt_s (lt_s (lt_s (lt_s (lt_s (lt_s (lt_0) (va_eqt (hs (Cond.eq (Term.elem (Jvm.Term.static "AngleChains" "PAIR_BITS" "[I") (.int (0 : Int32))) (.int (3 : Int32))) (by decide +kernel)))) (va_eqt (hs (Cond.eq (Term.elem (Jvm.Term.static "AngleChains" "PAIR_BITS" "[I") (.int (1 : Int32))) (.int (5 : Int32))) (by decide +kernel)))) (va_eqt (hs (Cond.eq (Term.elem (Jvm.Term.static "AngleChains" "PAIR_BITS" "[I") (.int (2 : Int32))) (.int (9 : Int32))) (by decide +kernel)))) (va_eqt (hs (Cond.eq (Term.elem (Jvm.Term.static "AngleChains" "PAIR_BITS" "[I") (.int (3 : Int32))) (.int (17 : Int32))) (by decide +kernel)))) (va_eqt (hs (Cond.eq (Term.elem (Jvm.Term.static "AngleChains" "PAIR_BITS" "[I") (.int (4 : Int32))) (.int (33 : Int32))) (by decide +kernel)))) (va_eqt (hs (Cond.eq (Term.elem (Jvm.Term.static "AngleChains" "PAIR_BITS" "[I") (.int (5 : Int32))) (.int (65 : Int32))) (by decide +kernel)))) (va_eqt (hs (Cond.eq (Term.elem (Jvm.Term.static "AngleChains" "PAIR_BITS" "[I") (.int (6 : Int32))) (.int (6 : Int32))) (by decide +kernel)))) (va_eqt (hs (Cond.eq (Term.elem (Jvm.Term.static "AngleChains" "PAIR_BITS" "[I") (.int (7 : Int32))) (.int (10 : Int32))) (by decide +kernel)))) (va_eqt (hs (Cond.eq (Term.elem (Jvm.Term.static "AngleChains" "PAIR_BITS" "[I") (.int (8 : Int32))) (.int (18 : Int32))) (by decide +kernel)))) (va_eqt (hs (Cond.eq (Term.elem (Jvm.Term.static "AngleChains" "PAIR_BITS" "[I") (.int (9 : Int32))) (.int (34 : Int32))) (by decide +kernel)))) (va_eqt (hs (Cond.eq (Term.elem (Jvm.Term.static "AngleChains" "PAIR_BITS" "[I") (.int (10 : Int32))) (.int (66 : Int32))) (by decide +kernel)))) (va_eqt (hs (Cond.eq (Term.elem (Jvm.Term.static "AngleChains" "PAIR_BITS" "[I") (.int (11 : Int32))) (.int (12 : Int32))) (by decide +kernel)))) (va_eqt (hs (Cond.eq (Term.elem (Jvm.Term.static "AngleChains" "PAIR_BITS" "[I") (.int (12 : Int32))) (.int (20 : Int32))) (by decide +kernel)))) (va_eqt (hs (Cond.eq (Term.elem (Jvm.Term.static "AngleChains" "PAIR_BITS" "[I") (.int (13 : Int32))) (.int (36 : Int32))) (by decide +kernel)))) (va_eqt (hs (Cond.eq (Term.elem (Jvm.Term.static "AngleChains" "PAIR_BITS" "[I") (.int (14 : Int32))) (.int (68 : Int32))) (by decide +kernel)))) (va_eqt (hs (Cond.eq (Term.elem (Jvm.Term.static "AngleChains" "PAIR_BITS" "[I") (.int (15 : Int32))) (.int (24 : Int32))) (by decide +kernel)))) (va_eqt (hs (Cond.eq (Term.elem (Jvm.Term.static "AngleChains" "PAIR_BITS" "[I") (.int (16 : Int32))) (.int (40 : Int32))) (by decide +kernel)))) (va_eqt (hs (Cond.eq (Term.elem (Jvm.Term.static "AngleChains" "PAIR_BITS" "[I") (.int (17 : Int32))) (.int (72 : Int32))) (by decide +kernel)))) (va_eqt (hs (Cond.eq (Term.elem (Jvm.Term.static "AngleChains" "PAIR_BITS" "[I") (.int (18 : Int32))) (.int (48 : Int32))) (by decide +kernel)))) (va_eqt (hs (Cond.eq (Term.elem (Jvm.Term.static "AngleChains" "PAIR_BITS" "[I") (.int (19 : Int32))) (.int (80 : Int32))) (by decide +kernel)))) (va_eqt (hs (Cond.eq (Term.elem (Jvm.Term.static "AngleChains" "PAIR_BITS" "[I") (.int (20 : Int32))) (.int (96 : Int32))) (by decide +kernel)))
  obtain ⟨t, h1, h2⟩ := va_Tof (A := fun q => s.heap.size ≤ q) (N := 21) (f := fun j => Value.int (rx_s2v.getD j 0)) (by decide) (hs (Cond.arrayOf (Jvm.Term.static "AngleChains" "PAIR_BITS" "[I") .int) (by decide +kernel)) (va_eqt (hs (Cond.eq (Term.length (Jvm.Term.static "AngleChains" "PAIR_BITS" "[I")) (.int (21 : Int32))) (by decide +kernel))) hel (fun a h => Nat.not_le.mpr h)
  exact ⟨t, h2, va_Zof (hts (.laysStatic "AngleChains" "PAIR_BITS" "[I") (by decide +kernel)) (hts (.initialized "AngleChains") (by decide +kernel)) h1 (fun a h => Nat.not_le.mpr h)⟩
set_option maxRecDepth 100000 in
theorem rx_s3t {s : State} {args : Array Value} (hs : ∀ c ∈ flatC (Jvm.Cond.and given_1 narrow_1), c.before args s = true) (hts : ∀ w ∈ lw_tbl, w.before args s = true) : ∃ t : Nat, va_T .int t 35 (fun j => .int (rx_s3v.getD j 0)) (fun q => s.heap.size ≤ q) s s.heap ∧ va_Z "AngleChains" "TRIPLES" "[I" (.ref t) (fun q => s.heap.size ≤ q) s s.heap := by
  have hel : ∀ j : Nat, j < 35 → (Term.elem (Jvm.Term.static "AngleChains" "TRIPLES" "[I") (.int (Int32.ofNat j))).eval args s none [] s = some (Value.int (rx_s3v.getD j 0)) := lt_s (lt_s (lt_s (lt_s (lt_s (lt_s (lt_s (lt_s (lt_s (lt_s (lt_s (lt_s (lt_s (lt_s (lt_s (lt_s (lt_s (lt_s (lt_s (lt_s (lt_s (lt_s (lt_s (lt_s (lt_s (lt_s (lt_s (lt_s (lt_s (lt_s (lt_s (lt_s (lt_s (lt_s (lt_s (lt_0) (va_eqt (hs (Cond.eq (Term.elem (Jvm.Term.static "AngleChains" "TRIPLES" "[I") (.int (0 : Int32))) (.int (7 : Int32))) (by decide +kernel)))) (va_eqt (hs (Cond.eq (Term.elem (Jvm.Term.static "AngleChains" "TRIPLES" "[I") (.int (1 : Int32))) (.int (11 : Int32))) (by decide +kernel)))) (va_eqt (hs (Cond.eq (Term.elem (Jvm.Term.static "AngleChains" "TRIPLES" "[I") (.int (2 : Int32))) (.int (13 : Int32))) (by decide +kernel)))) (va_eqt (hs (Cond.eq (Term.elem (Jvm.Term.static "AngleChains" "TRIPLES" "[I") (.int (3 : Int32))) (.int (14 : Int32))) (by decide +kernel)))) (va_eqt (hs (Cond.eq (Term.elem (Jvm.Term.static "AngleChains" "TRIPLES" "[I") (.int (4 : Int32))) (.int (19 : Int32))) (by decide +kernel)))) (va_eqt (hs (Cond.eq (Term.elem (Jvm.Term.static "AngleChains" "TRIPLES" "[I") (.int (5 : Int32))) (.int (21 : Int32))) (by decide +kernel)))) (va_eqt (hs (Cond.eq (Term.elem (Jvm.Term.static "AngleChains" "TRIPLES" "[I") (.int (6 : Int32))) (.int (22 : Int32))) (by decide +kernel)))) (va_eqt (hs (Cond.eq (Term.elem (Jvm.Term.static "AngleChains" "TRIPLES" "[I") (.int (7 : Int32))) (.int (25 : Int32))) (by decide +kernel)))) (va_eqt (hs (Cond.eq (Term.elem (Jvm.Term.static "AngleChains" "TRIPLES" "[I") (.int (8 : Int32))) (.int (26 : Int32))) (by decide +kernel)))) (va_eqt (hs (Cond.eq (Term.elem (Jvm.Term.static "AngleChains" "TRIPLES" "[I") (.int (9 : Int32))) (.int (28 : Int32))) (by decide +kernel)))) (va_eqt (hs (Cond.eq (Term.elem (Jvm.Term.static "AngleChains" "TRIPLES" "[I") (.int (10 : Int32))) (.int (35 : Int32))) (by decide +kernel)))) (va_eqt (hs (Cond.eq (Term.elem (Jvm.Term.static "AngleChains" "TRIPLES" "[I") (.int (11 : Int32))) (.int (37 : Int32))) (by decide +kernel)))) (va_eqt (hs (Cond.eq (Term.elem (Jvm.Term.static "AngleChains" "TRIPLES" "[I") (.int (12 : Int32))) (.int (38 : Int32))) (by decide +kernel)))) (va_eqt (hs (Cond.eq (Term.elem (Jvm.Term.static "AngleChains" "TRIPLES" "[I") (.int (13 : Int32))) (.int (41 : Int32))) (by decide +kernel)))) (va_eqt (hs (Cond.eq (Term.elem (Jvm.Term.static "AngleChains" "TRIPLES" "[I") (.int (14 : Int32))) (.int (42 : Int32))) (by decide +kernel)))) (va_eqt (hs (Cond.eq (Term.elem (Jvm.Term.static "AngleChains" "TRIPLES" "[I") (.int (15 : Int32))) (.int (44 : Int32))) (by decide +kernel)))) (va_eqt (hs (Cond.eq (Term.elem (Jvm.Term.static "AngleChains" "TRIPLES" "[I") (.int (16 : Int32))) (.int (49 : Int32))) (by decide +kernel)))) (va_eqt (hs (Cond.eq (Term.elem (Jvm.Term.static "AngleChains" "TRIPLES" "[I") (.int (17 : Int32))) (.int (50 : Int32))) (by decide +kernel)))) (va_eqt (hs (Cond.eq (Term.elem (Jvm.Term.static "AngleChains" "TRIPLES" "[I") (.int (18 : Int32))) (.int (52 : Int32))) (by decide +kernel)))) (va_eqt (hs (Cond.eq (Term.elem (Jvm.Term.static "AngleChains" "TRIPLES" "[I") (.int (19 : Int32))) (.int (56 : Int32))) (by decide +kernel)))) (va_eqt (hs (Cond.eq (Term.elem (Jvm.Term.static "AngleChains" "TRIPLES" "[I") (.int (20 : Int32))) (.int (67 : Int32))) (by decide +kernel)))) (va_eqt (hs (Cond.eq (Term.elem (Jvm.Term.static "AngleChains" "TRIPLES" "[I") (.int (21 : Int32))) (.int (69 : Int32))) (by decide +kernel)))) (va_eqt (hs (Cond.eq (Term.elem (Jvm.Term.static "AngleChains" "TRIPLES" "[I") (.int (22 : Int32))) (.int (70 : Int32))) (by decide +kernel)))) (va_eqt (hs (Cond.eq (Term.elem (Jvm.Term.static "AngleChains" "TRIPLES" "[I") (.int (23 : Int32))) (.int (73 : Int32))) (by decide +kernel)))) (va_eqt (hs (Cond.eq (Term.elem (Jvm.Term.static "AngleChains" "TRIPLES" "[I") (.int (24 : Int32))) (.int (74 : Int32))) (by decide +kernel)))) (va_eqt (hs (Cond.eq (Term.elem (Jvm.Term.static "AngleChains" "TRIPLES" "[I") (.int (25 : Int32))) (.int (76 : Int32))) (by decide +kernel)))) (va_eqt (hs (Cond.eq (Term.elem (Jvm.Term.static "AngleChains" "TRIPLES" "[I") (.int (26 : Int32))) (.int (81 : Int32))) (by decide +kernel)))) (va_eqt (hs (Cond.eq (Term.elem (Jvm.Term.static "AngleChains" "TRIPLES" "[I") (.int (27 : Int32))) (.int (82 : Int32))) (by decide +kernel)))) (va_eqt (hs (Cond.eq (Term.elem (Jvm.Term.static "AngleChains" "TRIPLES" "[I") (.int (28 : Int32))) (.int (84 : Int32))) (by decide +kernel)))) (va_eqt (hs (Cond.eq (Term.elem (Jvm.Term.static "AngleChains" "TRIPLES" "[I") (.int (29 : Int32))) (.int (88 : Int32))) (by decide +kernel)))) (va_eqt (hs (Cond.eq (Term.elem (Jvm.Term.static "AngleChains" "TRIPLES" "[I") (.int (30 : Int32))) (.int (97 : Int32))) (by decide +kernel)))) (va_eqt (hs (Cond.eq (Term.elem (Jvm.Term.static "AngleChains" "TRIPLES" "[I") (.int (31 : Int32))) (.int (98 : Int32))) (by decide +kernel)))) (va_eqt (hs (Cond.eq (Term.elem (Jvm.Term.static "AngleChains" "TRIPLES" "[I") (.int (32 : Int32))) (.int (100 : Int32))) (by decide +kernel)))) (va_eqt (hs (Cond.eq (Term.elem (Jvm.Term.static "AngleChains" "TRIPLES" "[I") (.int (33 : Int32))) (.int (104 : Int32))) (by decide +kernel)))) (va_eqt (hs (Cond.eq (Term.elem (Jvm.Term.static "AngleChains" "TRIPLES" "[I") (.int (34 : Int32))) (.int (112 : Int32))) (by decide +kernel)))
  obtain ⟨t, h1, h2⟩ := va_Tof (A := fun q => s.heap.size ≤ q) (N := 35) (f := fun j => Value.int (rx_s3v.getD j 0)) (by decide) (hs (Cond.arrayOf (Jvm.Term.static "AngleChains" "TRIPLES" "[I") .int) (by decide +kernel)) (va_eqt (hs (Cond.eq (Term.length (Jvm.Term.static "AngleChains" "TRIPLES" "[I")) (.int (35 : Int32))) (by decide +kernel))) hel (fun a h => Nat.not_le.mpr h)
  exact ⟨t, h2, va_Zof (hts (.laysStatic "AngleChains" "TRIPLES" "[I") (by decide +kernel)) (hts (.initialized "AngleChains") (by decide +kernel)) h1 (fun a h => Nat.not_le.mpr h)⟩
set_option maxRecDepth 100000 in
theorem rx_s4t {s : State} {args : Array Value} (hs : ∀ c ∈ flatC (Jvm.Cond.and given_1 narrow_1), c.before args s = true) (hts : ∀ w ∈ lw_tbl, w.before args s = true) : ∃ t : Nat, va_T .int t 64 (fun j => .int (rx_s4v.getD j 0)) (fun q => s.heap.size ≤ q) s s.heap ∧ va_Z "AngleChains" "PAIR_NUMBERS" "[I" (.ref t) (fun q => s.heap.size ≤ q) s s.heap := by
  have hel : ∀ j : Nat, j < 64 → (Term.elem (Jvm.Term.static "AngleChains" "PAIR_NUMBERS" "[I") (.int (Int32.ofNat j))).eval args s none [] s = some (Value.int (rx_s4v.getD j 0)) := lt_s (lt_s (lt_s (lt_s (lt_s (lt_s (lt_s (lt_s (lt_s (lt_s (lt_s (lt_s (lt_s (lt_s (lt_s (lt_s (lt_s (lt_s (lt_s (lt_s (lt_s (lt_s (lt_s (lt_s (lt_s (lt_s (lt_s (lt_s (lt_s (lt_s (lt_s (lt_s (lt_s (lt_s (lt_s (lt_s (lt_s (lt_s (lt_s (lt_s (lt_s (lt_s (lt_s (lt_s (lt_s (lt_s (lt_s (lt_s (lt_s (lt_s (lt_s (lt_s (lt_s (lt_s (lt_s (lt_s (lt_s (lt_s (lt_s (lt_s (lt_s (lt_s (lt_s (lt_s (lt_0) (va_eqt (hs (Cond.eq (Term.elem (Jvm.Term.static "AngleChains" "PAIR_NUMBERS" "[I") (.int (0 : Int32))) (.int (0 : Int32))) (by decide +kernel)))) (va_eqt (hs (Cond.eq (Term.elem (Jvm.Term.static "AngleChains" "PAIR_NUMBERS" "[I") (.int (1 : Int32))) (.int (0 : Int32))) (by decide +kernel)))) (va_eqt (hs (Cond.eq (Term.elem (Jvm.Term.static "AngleChains" "PAIR_NUMBERS" "[I") (.int (2 : Int32))) (.int (1 : Int32))) (by decide +kernel)))) (va_eqt (hs (Cond.eq (Term.elem (Jvm.Term.static "AngleChains" "PAIR_NUMBERS" "[I") (.int (3 : Int32))) (.int (2 : Int32))) (by decide +kernel)))) (va_eqt (hs (Cond.eq (Term.elem (Jvm.Term.static "AngleChains" "PAIR_NUMBERS" "[I") (.int (4 : Int32))) (.int (3 : Int32))) (by decide +kernel)))) (va_eqt (hs (Cond.eq (Term.elem (Jvm.Term.static "AngleChains" "PAIR_NUMBERS" "[I") (.int (5 : Int32))) (.int (4 : Int32))) (by decide +kernel)))) (va_eqt (hs (Cond.eq (Term.elem (Jvm.Term.static "AngleChains" "PAIR_NUMBERS" "[I") (.int (6 : Int32))) (.int (5 : Int32))) (by decide +kernel)))) (va_eqt (hs (Cond.eq (Term.elem (Jvm.Term.static "AngleChains" "PAIR_NUMBERS" "[I") (.int (7 : Int32))) (.int (0 : Int32))) (by decide +kernel)))) (va_eqt (hs (Cond.eq (Term.elem (Jvm.Term.static "AngleChains" "PAIR_NUMBERS" "[I") (.int (8 : Int32))) (.int (0 : Int32))) (by decide +kernel)))) (va_eqt (hs (Cond.eq (Term.elem (Jvm.Term.static "AngleChains" "PAIR_NUMBERS" "[I") (.int (9 : Int32))) (.int (0 : Int32))) (by decide +kernel)))) (va_eqt (hs (Cond.eq (Term.elem (Jvm.Term.static "AngleChains" "PAIR_NUMBERS" "[I") (.int (10 : Int32))) (.int (6 : Int32))) (by decide +kernel)))) (va_eqt (hs (Cond.eq (Term.elem (Jvm.Term.static "AngleChains" "PAIR_NUMBERS" "[I") (.int (11 : Int32))) (.int (7 : Int32))) (by decide +kernel)))) (va_eqt (hs (Cond.eq (Term.elem (Jvm.Term.static "AngleChains" "PAIR_NUMBERS" "[I") (.int (12 : Int32))) (.int (8 : Int32))) (by decide +kernel)))) (va_eqt (hs (Cond.eq (Term.elem (Jvm.Term.static "AngleChains" "PAIR_NUMBERS" "[I") (.int (13 : Int32))) (.int (9 : Int32))) (by decide +kernel)))) (va_eqt (hs (Cond.eq (Term.elem (Jvm.Term.static "AngleChains" "PAIR_NUMBERS" "[I") (.int (14 : Int32))) (.int (10 : Int32))) (by decide +kernel)))) (va_eqt (hs (Cond.eq (Term.elem (Jvm.Term.static "AngleChains" "PAIR_NUMBERS" "[I") (.int (15 : Int32))) (.int (0 : Int32))) (by decide +kernel)))) (va_eqt (hs (Cond.eq (Term.elem (Jvm.Term.static "AngleChains" "PAIR_NUMBERS" "[I") (.int (16 : Int32))) (.int (1 : Int32))) (by decide +kernel)))) (va_eqt (hs (Cond.eq (Term.elem (Jvm.Term.static "AngleChains" "PAIR_NUMBERS" "[I") (.int (17 : Int32))) (.int (6 : Int32))) (by decide +kernel)))) (va_eqt (hs (Cond.eq (Term.elem (Jvm.Term.static "AngleChains" "PAIR_NUMBERS" "[I") (.int (18 : Int32))) (.int (0 : Int32))) (by decide +kernel)))) (va_eqt (hs (Cond.eq (Term.elem (Jvm.Term.static "AngleChains" "PAIR_NUMBERS" "[I") (.int (19 : Int32))) (.int (11 : Int32))) (by decide +kernel)))) (va_eqt (hs (Cond.eq (Term.elem (Jvm.Term.static "AngleChains" "PAIR_NUMBERS" "[I") (.int (20 : Int32))) (.int (12 : Int32))) (by decide +kernel)))) (va_eqt (hs (Cond.eq (Term.elem (Jvm.Term.static "AngleChains" "PAIR_NUMBERS" "[I") (.int (21 : Int32))) (.int (13 : Int32))) (by decide +kernel)))) (va_eqt (hs (Cond.eq (Term.elem (Jvm.Term.static "AngleChains" "PAIR_NUMBERS" "[I") (.int (22 : Int32))) (.int (14 : Int32))) (by decide +kernel)))) (va_eqt (hs (Cond.eq (Term.elem (Jvm.Term.static "AngleChains" "PAIR_NUMBERS" "[I") (.int (23 : Int32))) (.int (0 : Int32))) (by decide +kernel)))) (va_eqt (hs (Cond.eq (Term.elem (Jvm.Term.static "AngleChains" "PAIR_NUMBERS" "[I") (.int (24 : Int32))) (.int (2 : Int32))) (by decide +kernel)))) (va_eqt (hs (Cond.eq (Term.elem (Jvm.Term.static "AngleChains" "PAIR_NUMBERS" "[I") (.int (25 : Int32))) (.int (7 : Int32))) (by decide +kernel)))) (va_eqt (hs (Cond.eq (Term.elem (Jvm.Term.static "AngleChains" "PAIR_NUMBERS" "[I") (.int (26 : Int32))) (.int (11 : Int32))) (by decide +kernel)))) (va_eqt (hs (Cond.eq (Term.elem (Jvm.Term.static "AngleChains" "PAIR_NUMBERS" "[I") (.int (27 : Int32))) (.int (0 : Int32))) (by decide +kernel)))) (va_eqt (hs (Cond.eq (Term.elem (Jvm.Term.static "AngleChains" "PAIR_NUMBERS" "[I") (.int (28 : Int32))) (.int (15 : Int32))) (by decide +kernel)))) (va_eqt (hs (Cond.eq (Term.elem (Jvm.Term.static "AngleChains" "PAIR_NUMBERS" "[I") (.int (29 : Int32))) (.int (16 : Int32))) (by decide +kernel)))) (va_eqt (hs (Cond.eq (Term.elem (Jvm.Term.static "AngleChains" "PAIR_NUMBERS" "[I") (.int (30 : Int32))) (.int (17 : Int32))) (by decide +kernel)))) (va_eqt (hs (Cond.eq (Term.elem (Jvm.Term.static "AngleChains" "PAIR_NUMBERS" "[I") (.int (31 : Int32))) (.int (0 : Int32))) (by decide +kernel)))) (va_eqt (hs (Cond.eq (Term.elem (Jvm.Term.static "AngleChains" "PAIR_NUMBERS" "[I") (.int (32 : Int32))) (.int (3 : Int32))) (by decide +kernel)))) (va_eqt (hs (Cond.eq (Term.elem (Jvm.Term.static "AngleChains" "PAIR_NUMBERS" "[I") (.int (33 : Int32))) (.int (8 : Int32))) (by decide +kernel)))) (va_eqt (hs (Cond.eq (Term.elem (Jvm.Term.static "AngleChains" "PAIR_NUMBERS" "[I") (.int (34 : Int32))) (.int (12 : Int32))) (by decide +kernel)))) (va_eqt (hs (Cond.eq (Term.elem (Jvm.Term.static "AngleChains" "PAIR_NUMBERS" "[I") (.int (35 : Int32))) (.int (15 : Int32))) (by decide +kernel)))) (va_eqt (hs (Cond.eq (Term.elem (Jvm.Term.static "AngleChains" "PAIR_NUMBERS" "[I") (.int (36 : Int32))) (.int (0 : Int32))) (by decide +kernel)))) (va_eqt (hs (Cond.eq (Term.elem (Jvm.Term.static "AngleChains" "PAIR_NUMBERS" "[I") (.int (37 : Int32))) (.int (18 : Int32))) (by decide +kernel)))) (va_eqt (hs (Cond.eq (Term.elem (Jvm.Term.static "AngleChains" "PAIR_NUMBERS" "[I") (.int (38 : Int32))) (.int (19 : Int32))) (by decide +kernel)))) (va_eqt (hs (Cond.eq (Term.elem (Jvm.Term.static "AngleChains" "PAIR_NUMBERS" "[I") (.int (39 : Int32))) (.int (0 : Int32))) (by decide +kernel)))) (va_eqt (hs (Cond.eq (Term.elem (Jvm.Term.static "AngleChains" "PAIR_NUMBERS" "[I") (.int (40 : Int32))) (.int (4 : Int32))) (by decide +kernel)))) (va_eqt (hs (Cond.eq (Term.elem (Jvm.Term.static "AngleChains" "PAIR_NUMBERS" "[I") (.int (41 : Int32))) (.int (9 : Int32))) (by decide +kernel)))) (va_eqt (hs (Cond.eq (Term.elem (Jvm.Term.static "AngleChains" "PAIR_NUMBERS" "[I") (.int (42 : Int32))) (.int (13 : Int32))) (by decide +kernel)))) (va_eqt (hs (Cond.eq (Term.elem (Jvm.Term.static "AngleChains" "PAIR_NUMBERS" "[I") (.int (43 : Int32))) (.int (16 : Int32))) (by decide +kernel)))) (va_eqt (hs (Cond.eq (Term.elem (Jvm.Term.static "AngleChains" "PAIR_NUMBERS" "[I") (.int (44 : Int32))) (.int (18 : Int32))) (by decide +kernel)))) (va_eqt (hs (Cond.eq (Term.elem (Jvm.Term.static "AngleChains" "PAIR_NUMBERS" "[I") (.int (45 : Int32))) (.int (0 : Int32))) (by decide +kernel)))) (va_eqt (hs (Cond.eq (Term.elem (Jvm.Term.static "AngleChains" "PAIR_NUMBERS" "[I") (.int (46 : Int32))) (.int (20 : Int32))) (by decide +kernel)))) (va_eqt (hs (Cond.eq (Term.elem (Jvm.Term.static "AngleChains" "PAIR_NUMBERS" "[I") (.int (47 : Int32))) (.int (0 : Int32))) (by decide +kernel)))) (va_eqt (hs (Cond.eq (Term.elem (Jvm.Term.static "AngleChains" "PAIR_NUMBERS" "[I") (.int (48 : Int32))) (.int (5 : Int32))) (by decide +kernel)))) (va_eqt (hs (Cond.eq (Term.elem (Jvm.Term.static "AngleChains" "PAIR_NUMBERS" "[I") (.int (49 : Int32))) (.int (10 : Int32))) (by decide +kernel)))) (va_eqt (hs (Cond.eq (Term.elem (Jvm.Term.static "AngleChains" "PAIR_NUMBERS" "[I") (.int (50 : Int32))) (.int (14 : Int32))) (by decide +kernel)))) (va_eqt (hs (Cond.eq (Term.elem (Jvm.Term.static "AngleChains" "PAIR_NUMBERS" "[I") (.int (51 : Int32))) (.int (17 : Int32))) (by decide +kernel)))) (va_eqt (hs (Cond.eq (Term.elem (Jvm.Term.static "AngleChains" "PAIR_NUMBERS" "[I") (.int (52 : Int32))) (.int (19 : Int32))) (by decide +kernel)))) (va_eqt (hs (Cond.eq (Term.elem (Jvm.Term.static "AngleChains" "PAIR_NUMBERS" "[I") (.int (53 : Int32))) (.int (20 : Int32))) (by decide +kernel)))) (va_eqt (hs (Cond.eq (Term.elem (Jvm.Term.static "AngleChains" "PAIR_NUMBERS" "[I") (.int (54 : Int32))) (.int (0 : Int32))) (by decide +kernel)))) (va_eqt (hs (Cond.eq (Term.elem (Jvm.Term.static "AngleChains" "PAIR_NUMBERS" "[I") (.int (55 : Int32))) (.int (0 : Int32))) (by decide +kernel)))) (va_eqt (hs (Cond.eq (Term.elem (Jvm.Term.static "AngleChains" "PAIR_NUMBERS" "[I") (.int (56 : Int32))) (.int (0 : Int32))) (by decide +kernel)))) (va_eqt (hs (Cond.eq (Term.elem (Jvm.Term.static "AngleChains" "PAIR_NUMBERS" "[I") (.int (57 : Int32))) (.int (0 : Int32))) (by decide +kernel)))) (va_eqt (hs (Cond.eq (Term.elem (Jvm.Term.static "AngleChains" "PAIR_NUMBERS" "[I") (.int (58 : Int32))) (.int (0 : Int32))) (by decide +kernel)))) (va_eqt (hs (Cond.eq (Term.elem (Jvm.Term.static "AngleChains" "PAIR_NUMBERS" "[I") (.int (59 : Int32))) (.int (0 : Int32))) (by decide +kernel)))) (va_eqt (hs (Cond.eq (Term.elem (Jvm.Term.static "AngleChains" "PAIR_NUMBERS" "[I") (.int (60 : Int32))) (.int (0 : Int32))) (by decide +kernel)))) (va_eqt (hs (Cond.eq (Term.elem (Jvm.Term.static "AngleChains" "PAIR_NUMBERS" "[I") (.int (61 : Int32))) (.int (0 : Int32))) (by decide +kernel)))) (va_eqt (hs (Cond.eq (Term.elem (Jvm.Term.static "AngleChains" "PAIR_NUMBERS" "[I") (.int (62 : Int32))) (.int (0 : Int32))) (by decide +kernel)))) (va_eqt (hs (Cond.eq (Term.elem (Jvm.Term.static "AngleChains" "PAIR_NUMBERS" "[I") (.int (63 : Int32))) (.int (0 : Int32))) (by decide +kernel)))
  obtain ⟨t, h1, h2⟩ := va_Tof (A := fun q => s.heap.size ≤ q) (N := 64) (f := fun j => Value.int (rx_s4v.getD j 0)) (by decide) (hs (Cond.arrayOf (Jvm.Term.static "AngleChains" "PAIR_NUMBERS" "[I") .int) (by decide +kernel)) (va_eqt (hs (Cond.eq (Term.length (Jvm.Term.static "AngleChains" "PAIR_NUMBERS" "[I")) (.int (64 : Int32))) (by decide +kernel))) hel (fun a h => Nat.not_le.mpr h)
  exact ⟨t, h2, va_Zof (hts (.laysStatic "AngleChains" "PAIR_NUMBERS" "[I") (by decide +kernel)) (hts (.initialized "AngleChains") (by decide +kernel)) h1 (fun a h => Nat.not_le.mpr h)⟩
/-- an array class of a number's type -/
theorem rx_arr {ty : FieldType} {args : Array Value} {s : State} (h : (Cond.arrayClass ty).before args s = true) (ho : ∀ C, ty ≠ .object C) : ∃ c : ClassId, ArrOfT s c ty ∧ va_RA s c ty := by
  obtain ⟨c, k, comp, h1, h2, h3⟩ := Cond.arrayClass_spec h
  refine ⟨c, fun n z => ⟨fun k h => (by cases h), k, h2, comp, h3⟩, ?_⟩
  cases ty <;> first | exact h1 | exact absurd rfl (ho _)
theorem rx_arr2 {t : FieldType} {args : Array Value} {s : State} (h : (Cond.arrayOver (.array t)).before args s = true) : ∃ c : ClassId, ArrOfT s c (.array t) ∧ va_RA s c (.array t) := by
  obtain ⟨comp, c, k, h1, h2, h3, h4, h5⟩ := rx_ao_spec h
  exact ⟨c, fun n z => ⟨fun k h => (by cases h), k, h3, comp, h4⟩, h5⟩
set_option maxHeartbeats 4000000 in
set_option maxRecDepth 100000 in
/-- THE CLAIM OUT OF A RUN OF THE ABSTRACT MACHINE -/
theorem rx_start (hall : ∀ (L : Nat) (xs : Nat → Int32), L ≤ 4 → ∃ (f : Nat) (h' : rx_H), rx_run rx_cds rx_ms rx_lk0 (rx_rt L xs) f 12 468 0 0 [(0, .ref 0)] [] [] = some (some (.int 1), h') ∧ h'.length ≤ 600000 ∧ rx_sz h' ≤ 7302250)
    {p : Program} {e : Env} {s : State} {m : MethodId} {below : List Frame} {meth : Method} {c : Code} (l : Launch) {b L : Nat} {xs : Nat → Int32} (hL : L ≤ 4) (C0 : lw_At p s m meth c b L xs) : W p l e room_1 s m #[Value.ref b] below meth c s.heap [] 0 0 (lw_Z below #[Value.ref b] s) (entryFrame m ([Value.ref b] : List Value).toArray 4) := by
  obtain ⟨hx, hb, hr, hml, hown, hts, hX, hbl, hlocks, hgv⟩ := id C0
  have hs := flat_of_before _ hgv
  have hta : ∀ w ∈ rx_all, w.before #[Value.ref b] s = true := fun w h => hts w (List.mem_filter.mp h).1
  have htn : ∀ w ∈ rx_nst, va_Nw w s := fun w h => by
    have h1 := hts w (List.mem_append_right _ (List.mem_filter.mp h).1)
    rcases rx_isN_cases (List.mem_filter.mp h).2 with ⟨a, b, c, d, e, f, rfl⟩ | ⟨a, b, c, d, rfl⟩ | ⟨t, rfl⟩
    · exact va_Nw.of rfl h1
    · exact va_Nw.of rfl h1
    · exact h1
  have hKn : ∀ ci : Nat, ∃ (cC : ClassId) (iS : Nat → Nat), ∀ q : vw_C, rx_cl[ci]? = some q → u_Kn s q.1 q.2.1 q.2.2 cC iS := by
    intro ci
    cases hq : rx_cl[ci]? with
    | none => exact ⟨0, fun _ => 0, fun q h => by cases h⟩
    | some q =>
      obtain ⟨g1, g2, g3, g4, g5⟩ := rx_GC0 ci q hq
      obtain ⟨cC, iS, h⟩ := u_known hta g1 (hta _ g4)
      exact ⟨cC, iS, fun q' h' => by cases h'; exact h⟩
  have hD : ∃ D : va_G, ∀ (ci : Nat) (q : vw_C), rx_cl[ci]? = some q → u_Kn s q.1 q.2.1 q.2.2 (D.1 ci) (D.2 ci) :=
    ⟨(fun ci => Classical.choose (hKn ci), fun ci => Classical.choose (Classical.choose_spec (hKn ci))), fun ci q h => Classical.choose_spec (Classical.choose_spec (hKn ci)) q h⟩
  obtain ⟨D, hD⟩ := hD
  obtain ⟨c0, a0⟩ := rx_arr (hta _ (rx_Ga .int _ rfl)) (fun C h => by cases h)
  obtain ⟨c1, a1⟩ := rx_arr (hta _ (rx_Ga .long _ rfl)) (fun C h => by cases h)
  obtain ⟨c2, a2⟩ := rx_arr (hta _ (rx_Ga .boolean _ rfl)) (fun C h => by cases h)
  obtain ⟨c3, a3⟩ := rx_arr2 (hts (Cond.arrayOver (.array .long)) (by decide +kernel))
  obtain ⟨t1, hT1, hZ1⟩ := rx_s1t hs hts
  obtain ⟨t2, hT2, hZ2⟩ := rx_s2t hs hts
  obtain ⟨t3, hT3, hZ3⟩ := rx_s3t hs hts
  obtain ⟨t4, hT4, hZ4⟩ := rx_s4t hs hts
  have hTb : va_T .int b L (fun j => .int (xs j)) (fun q => s.heap.size ≤ q) s s.heap := by
    obtain ⟨scr, h1, h2, h3, h4, h5⟩ := hX
    exact ⟨scr, h1, h2, h3, by rw [h4]; exact Nat.le_refl _, by rw [h4] <;> rfl, h5, Nat.not_le.mpr hbl⟩
  have hK : rx_Kx rx_cl rx_tys rx_sts rx_nst D (fun t => match t with | 0 => c0 | 1 => c1 | 2 => c2 | _ => c3) (fun id => match id with | 0 => b | 1 => t1 | 2 => t2 | 3 => t3 | 4 => t4 | _ => 0) (rx_rt L xs) s.heap.size s s.heap := by
    refine ⟨hD, fun t ty ht => ?_, fun id n f hid hrt => ?_, rx_fc ⟨by decide, hZ1⟩ (rx_fc ⟨by decide, hZ2⟩ (rx_fc ⟨by decide, hZ3⟩ (rx_fc ⟨by decide, hZ4⟩ (rx_fn)))), htn⟩
    · match t, ht with
      | 0, ht => cases ht; exact a0
      | 1, ht => cases ht; exact a1
      | 2, ht => cases ht; exact a2
      | 3, ht => cases ht; exact a3
      | t + 4, ht => simp [rx_tys] at ht
    · match id, hrt with
      | 0, hrt => cases hrt; exact hTb
      | 1, hrt => cases hrt; exact hT1
      | 2, hrt => cases hrt; exact hT2
      | 3, hrt => cases hrt; exact hT3
      | 4, hrt => cases hrt; exact hT4
      | id + 5, hrt => cases hrt
  obtain ⟨f, h', hrun, hlen, hsz⟩ := hall L xs hL
  have key := rx_sound (l := l) (D := D) (dT := fun t => match t with | 0 => c0 | 1 => c1 | 2 => c2 | _ => c3) (ro := fun id => match id with | 0 => b | 1 => t1 | 2 => t2 | 3 => t3 | 4 => t4 | _ => 0) (rt := rx_rt L xs) (base := s.heap.size) rx_G0 rx_GD0 rx_GK0 rx_GW0 f _ _ _ _ _ _ _ _ _ hrun rxm_0 rfl p e room_1 s m #[Value.ref b] below meth c (lw_Z below #[Value.ref b] s) 0 0 hx hb hml hta hown hK (fun h => absurd h (by decide)) ⟨Nat.le_refl _, Nat.le_refl _⟩ rfl
    (by show h'.length ≤ 0 + 600000; omega) (by show rx_sz h' ≤ 0 + 7302250; omega) ?_
  · have hl := lv_entry ([.ref b]) (n := 4) (Nat.le_of_ble_eq_true rfl)
    rw [lg_entry_eq]
    generalize (lg_sl ([.ref b]) ++ List.replicate (4 - (lg_sl ([.ref b])).length) Slot.unset).toArray = ls at hl ⊢
    exact key s.heap [] ls (Nat.zero_le _) (Nat.zero_le _) ⟨rfl, fun k c h => by simp at h⟩ va_S.rf hl
  · intro pc9 ins9 lv9 st9 hdg hret H locs ls9 hn hz hW9 hS9 hl9
    rcases rx_ret_e hret with ⟨x9, rfl, e1, rfl, e2⟩ | ⟨x9, rfl, e1, rfl, hx01, e2⟩ | ⟨x9, rfl, e1, rfl, e2⟩ | ⟨rfl, e1, rfl, e2⟩
    · cases e1
    · cases e2
      refine va_forget hS9.2.2 ?_
      exact W.widen (k := 600000) (n := 7302250) (by omega) (by omega) (lw_ret hx hb hr hlocks (rx_dec_n hdg rfl))
    · cases e2
    · cases e2
end
section
/-! RUNS WITHOUT FUEL: rx_T .. P: the run from here ends, with P -/
theorem rx_cold_i {h : rx_H} {k t : Nat} {x : vp_A} (e : h[k]? = some (.inl (t, x))) : rx_cold h (k + 16) t = some x := by
  unfold rx_cold rx_cell
  rw [if_neg (by omega), Nat.add_sub_cancel, e]
  exact if_pos rfl
theorem rx_ro_i {h : rx_H} {k : Nat} {x : Nat × List Value} (e : h[k]? = some (.inr x)) : rx_ro h (k + 16) = some x := by
  unfold rx_ro rx_cell
  rw [if_neg (by omega), Nat.add_sub_cancel, e]
section RXP
variable {cds : List (List Value)} {ms : List rx_M} {lk : rx_Lk} {rt : rx_R}
theorem rx_run_ret {f d w mi pc : Nat} {lv : rx_L} {st : List Value} {h : rx_H} {v : Option Value} {M : rx_M} {ins : Instr} (hM : ms[mi]? = some M) (hf : rx_f2 (rx_Mt M) pc = some ins) (hr : rx_ret M ins st = some v) : rx_run cds ms lk rt (f + 1) d w mi pc lv st h = some (v, h) := by
  rw [rx_run]
  simp only [hM, hf, hr]
theorem rx_run_call {f d w mi pc : Nat} {lv : rx_L} {st : List Value} {h : rx_H} {M N : rx_M} {ins : Instr} {j : Nat} {as rest : List Value} {v1 : Option Value} {h1 : rx_H} (hM : ms[mi]? = some M) (hf : rx_f2 (rx_Mt M) pc = some ins) (hr : rx_ret M ins st = none) (hc : rx_call ms lk M ins st h = some (j, as, rest)) (hN : ms[j]? = some N) (hw : 19 + rx_Ml N ≤ w) (e1 : rx_run cds ms lk rt f d (w - (19 + rx_Ml N)) j 0 (lv_args 0 as) [] h = some (v1, h1)) :
    rx_run cds ms lk rt (f + 1) (d + 1) w mi pc lv st h = rx_run cds ms lk rt f (d + 1) w mi (pc + 3) lv (v1.toList ++ rest) h1 := by
  rw [rx_run]
  simp only [hM, hf, hr, hc, hN, hw, e1, if_true]
theorem rx_run_op {f d w mi pc pc' : Nat} {lv lv' : rx_L} {st st' : List Value} {h h' : rx_H} {M : rx_M} {ins : Instr} (hM : ms[mi]? = some M) (hf : rx_f2 (rx_Mt M) pc = some ins) (hr : rx_ret M ins st = none) (hc : rx_call ms lk M ins st h = none) (ho : rx_opI cds lk rt d w M ins pc lv st h = some (pc', lv', st', h')) :
    rx_run cds ms lk rt (f + 1) d w mi pc lv st h = rx_run cds ms lk rt f d w mi pc' lv' st' h' := by
  rw [rx_run]
  simp only [hM, hf, hr, hc, ho]
theorem rx_run_e2 {f d w mi pc : Nat} {lv : rx_L} {st : List Value} {h : rx_H} {v : Option Value} {h' : rx_H} (e : rx_run cds ms lk rt (f + 1) d w mi pc lv st h = some (v, h')) :
    ∃ M ins, ms[mi]? = some M ∧ rx_f2 (rx_Mt M) pc = some ins ∧ ((rx_ret M ins st = some v ∧ h' = h) ∨
      (∃ j as rest N d' v1 h1, d = d' + 1 ∧ rx_ret M ins st = none ∧ rx_call ms lk M ins st h = some (j, as, rest) ∧ ms[j]? = some N ∧ 19 + rx_Ml N ≤ w ∧ rx_run cds ms lk rt f d' (w - (19 + rx_Ml N)) j 0 (lv_args 0 as) [] h = some (v1, h1) ∧ rx_run cds ms lk rt f d w mi (pc + 3) lv (v1.toList ++ rest) h1 = some (v, h')) ∨
      (∃ pc' lv' st' h1, rx_ret M ins st = none ∧ rx_call ms lk M ins st h = none ∧ rx_opI cds lk rt d w M ins pc lv st h = some (pc', lv', st', h1) ∧ rx_run cds ms lk rt f d w mi pc' lv' st' h1 = some (v, h'))) := by
  rw [rx_run] at e
  split at e
  · cases e
  · next M hM =>
    split at e
    · cases e
    · next ins hi =>
      refine ⟨M, ins, hM, hi, ?_⟩
      split at e
      · next v0 hr =>
        cases e
        exact Or.inl ⟨hr, rfl⟩
      · next hr =>
        split at e
        · next q hq =>
          obtain ⟨j, as, rest⟩ := q
          split at e
          · cases e
          · next d' =>
            split at e
            · cases e
            · next N hN =>
              split at e
              · next hw =>
                split at e
                · cases e
                · next z hz =>
                  obtain ⟨v1, h1⟩ := z
                  exact Or.inr (Or.inl ⟨j, as, rest, N, d', v1, h1, rfl, hr, hq, hN, hw, hz, e⟩)
              · cases e
        · next hq =>
          split at e
          · cases e
          · next q hq2 =>
            obtain ⟨pc', lv', st', h1⟩ := q
            exact Or.inr (Or.inr ⟨pc', lv', st', h1, hr, hq, hq2, e⟩)
/-- more fuel does no harm -/
theorem rx_fuel : ∀ (f k d w mi pc : Nat) (lv : rx_L) (st : List Value) (h : rx_H) (r : Option Value × rx_H), rx_run cds ms lk rt f d w mi pc lv st h = some r → rx_run cds ms lk rt (f + k) d w mi pc lv st h = some r
  | 0, _, _, _, _, _, _, _, _, _, e => by rw [rx_run] at e; cases e
  | f + 1, k, d, w, mi, pc, lv, st, h, (v, h'), e => by
    rw [show f + 1 + k = f + k + 1 by omega]
    obtain ⟨M, ins, hM, hf, ⟨hr, rfl⟩ | ⟨j, as, rest, N, d', v1, h1, rfl, hr, hc, hN, hw, e1, e2⟩ | ⟨pc', lv', st', h1, hr, hc, e1, e2⟩⟩ := rx_run_e2 e
    · exact rx_run_ret hM hf hr
    · rw [rx_run_call hM hf hr hc hN hw (rx_fuel f k _ _ _ _ _ _ _ _ e1)]
      exact rx_fuel f k _ _ _ _ _ _ _ _ e2
    · rw [rx_run_op hM hf hr hc e1]
      exact rx_fuel f k _ _ _ _ _ _ _ _ e2
def rx_T (cds : List (List Value)) (ms : List rx_M) (lk : rx_Lk) (rt : rx_R) (d w mi pc : Nat) (lv : rx_L) (st : List Value) (h : rx_H) (P : Option Value → rx_H → Prop) : Prop := ∃ (f : Nat) (v : Option Value) (h' : rx_H), rx_run cds ms lk rt f d w mi pc lv st h = some (v, h') ∧ P v h'
variable {d w mi pc : Nat} {lv : rx_L} {st : List Value} {h : rx_H} {P : Option Value → rx_H → Prop} {M : rx_M} {ins : Instr}
theorem rx_T.ret {v : Option Value} (hM : ms[mi]? = some M) (hf : rx_f2 (rx_Mt M) pc = some ins) (hr : rx_ret M ins st = some v) (hP : P v h) : rx_T cds ms lk rt d w mi pc lv st h P := ⟨1, v, h, rx_run_ret hM hf hr, hP⟩
theorem rx_T.op {pc' : Nat} {lv' : rx_L} {st' : List Value} {h' : rx_H} (hM : ms[mi]? = some M) (hf : rx_f2 (rx_Mt M) pc = some ins) (hr : rx_ret M ins st = none) (hc : rx_call ms lk M ins st h = none) (ho : rx_opI cds lk rt d w M ins pc lv st h = some (pc', lv', st', h')) (k : rx_T cds ms lk rt d w mi pc' lv' st' h' P) : rx_T cds ms lk rt d w mi pc lv st h P := by
  obtain ⟨f, v, h2, e, hp⟩ := k
  exact ⟨f + 1, v, h2, by rw [rx_run_op hM hf hr hc ho]; exact e, hp⟩
theorem rx_T.call {N : rx_M} {j : Nat} {as rest : List Value} {P1 : Option Value → rx_H → Prop} (hM : ms[mi]? = some M) (hf : rx_f2 (rx_Mt M) pc = some ins) (hr : rx_ret M ins st = none) (hc : rx_call ms lk M ins st h = some (j, as, rest)) (hN : ms[j]? = some N) (hw : 19 + rx_Ml N ≤ w)
    (k1 : rx_T cds ms lk rt d (w - (19 + rx_Ml N)) j 0 (lv_args 0 as) [] h P1) (k : ∀ (v1 : Option Value) (h1 : rx_H), P1 v1 h1 → rx_T cds ms lk rt (d + 1) w mi (pc + 3) lv (v1.toList ++ rest) h1 P) : rx_T cds ms lk rt (d + 1) w mi pc lv st h P := by
  obtain ⟨f1, v1, h1, e1, hp1⟩ := k1
  obtain ⟨f2, v2, h2, e2, hp2⟩ := k v1 h1 hp1
  refine ⟨f1 + f2 + 1, v2, h2, ?_, hp2⟩
  rw [rx_run_call hM hf hr hc hN hw (rx_fuel f1 f2 _ _ _ _ _ _ _ _ e1), Nat.add_comm f1 f2]
  exact rx_fuel f2 f1 _ _ _ _ _ _ _ _ e2
theorem rx_T.mono {P' : Option Value → rx_H → Prop} (k : rx_T cds ms lk rt d w mi pc lv st h P) (hp : ∀ v h', P v h' → P' v h') : rx_T cds ms lk rt d w mi pc lv st h P' := by
  obtain ⟨f, v, h2, e, hq⟩ := k
  exact ⟨f, v, h2, e, hp v h2 hq⟩
/-- a run that the kernel has done -/
theorem rx_T.of {f : Nat} {v : Option Value} {h' : rx_H} (e : rx_run cds ms lk rt f d w mi pc lv st h = some (v, h')) (hp : P v h') : rx_T cds ms lk rt d w mi pc lv st h P := ⟨f, v, h', e, hp⟩
/-- more frames, more words do no harm; more read-only arrays neither -/
theorem rx_opI_more {rt' : rx_R} (hrt : ∀ id q, rt id = some q → rt' id = some q) {d' w' : Nat} (hd : d ≤ d') (hw : w ≤ w') {r : rx_N} (e : rx_opI cds lk rt d w M ins pc lv st h = some r) : rx_opI cds lk rt' d' w' M ins pc lv st h = some r := by
  have hri : ∀ (a : Nat) (q : Nat × (Nat → Int32)), rx_ri rt h a = some q → rx_ri rt' h a = some q := fun a q hq => by
    unfold rx_ri at hq ⊢
    split at hq
    · next h1 => rw [if_pos h1]; exact hrt a q hq
    · next h1 => rw [if_neg h1]; exact hq
  have hln : ∀ (a n : Nat), rx_aln rt h a = some n → rx_aln rt' h a = some n := fun a n hq => by
    unfold rx_aln at hq ⊢
    split at hq
    · next h1 =>
      rw [if_pos h1]
      obtain ⟨q, hq1, hq2⟩ := Option.map_eq_some_iff.mp hq
      rw [hrt a q hq1]
      exact congrArg some hq2
    · next h1 => rw [if_neg h1]; exact hq
  cases ins
  case iaload =>
    obtain ⟨i, a, t, q, rfl, h1, h2, e9⟩ := rx_ial_e e
    have h3 := hri a q h1
    show rx_ial rt' pc lv (.int i :: .ref a :: t) h = some r
    have e : rx_ial rt pc lv (.int i :: .ref a :: t) h = some r := e
    unfold rx_ial at e ⊢
    simp only [h1] at e
    simp only [h3]
    exact e
  case arraylength =>
    obtain ⟨a, t, n, rfl, h1, e9⟩ := rx_al_e e
    have h3 := hln a n h1
    show rx_al rt' pc lv (.ref a :: t) h = some r
    have e : rx_al rt pc lv (.ref a :: t) h = some r := e
    unfold rx_al at e ⊢
    simp only [h1] at e
    simp only [h3]
    exact e
  case invokespecial ix =>
    obtain ⟨q, h1, h2, h3⟩ := rx_is_e e
    obtain ⟨a, t, rfl, h4, h5, e9⟩ := rx_oi_e h3
    show rx_is d' w' (rx_luv lk.2.2.1 (rx_Mo M) ix) pc lv (.ref a :: t) h = some r
    rw [h1, e9]
    unfold rx_is rx_oi
    simp only [h2, if_true]
    rw [if_pos ⟨⟨by omega, by omega⟩, h5⟩]
    rfl
  case invokestatic ix =>
    obtain ⟨q, h1, ⟨h2, h3⟩ | ⟨h2, h3⟩ | ⟨h2, h3⟩⟩ := rx_it_e e
    · obtain ⟨n, dp, sp, ka, kb, m0, m1, f, g, t, rfl, w1, w2, w3, w4, w5, w6, w7, w8, w9, w10, e9⟩ := rx_ac_e h3
      show rx_it d' w' (rx_luv lk.2.2.1 (rx_Mo M) ix) pc lv _ h = some r
      rw [h1, e9]
      unfold rx_it
      simp only [h2, if_true]
      unfold rx_ac
      simp only [rx_cold_i w1, rx_cold_i w2]
      rw [if_pos ⟨⟨by omega, by omega⟩, w5, w6, w7, w8, w9, w10⟩]
      rfl
    · obtain ⟨x, y, t, rfl, w1, w2, e9⟩ := rx_m4_e h3
      show rx_it d' w' (rx_luv lk.2.2.1 (rx_Mo M) ix) pc lv _ h = some r
      rw [h1, e9]
      unfold rx_it rx_m4
      simp only [h2]
      rw [if_neg (by decide), if_pos trivial, if_pos ⟨⟨by omega, by omega⟩, w2⟩]
      rfl
    · obtain ⟨x, y, t, rfl, w1, w2, e9⟩ := rx_m5_e h3
      show rx_it d' w' (rx_luv lk.2.2.1 (rx_Mo M) ix) pc lv _ h = some r
      rw [h1, e9]
      unfold rx_it rx_m5
      simp only [h2]
      rw [if_neg (by decide), if_neg (by decide), if_pos trivial, if_pos ⟨⟨by omega, by omega⟩, w2⟩]
      rfl
  all_goals exact e
theorem rx_run_more {rt' : rx_R} (hrt : ∀ id q, rt id = some q → rt' id = some q) : ∀ (f d w mi pc : Nat) (lv : rx_L) (st : List Value) (h : rx_H) (r : Option Value × rx_H), rx_run cds ms lk rt f d w mi pc lv st h = some r → ∀ d' w' : Nat, d ≤ d' → w ≤ w' → rx_run cds ms lk rt' f d' w' mi pc lv st h = some r
  | 0, _, _, _, _, _, _, _, _, e => by rw [rx_run] at e; cases e
  | f + 1, d, w, mi, pc, lv, st, h, (v, h'), e => by
    intro d' w' hd hw'
    obtain ⟨M, ins, hM, hf, ⟨hr, rfl⟩ | ⟨j, as, rest, N, d1, v1, h1, rfl, hr, hc, hN, hw, e1, e2⟩ | ⟨pc', lv', st', h1, hr, hc, e1, e2⟩⟩ := rx_run_e2 e
    · exact rx_run_ret hM hf hr
    · obtain ⟨d2, rfl⟩ : ∃ d2, d' = d2 + 1 := ⟨d' - 1, by omega⟩
      rw [rx_run_call hM hf hr hc hN (by omega) (rx_run_more hrt f _ _ _ _ _ _ _ _ e1 d2 (w' - (19 + rx_Ml N)) (by omega) (by omega))]
      exact rx_run_more hrt f _ _ _ _ _ _ _ _ e2 _ _ hd hw'
    · rw [rx_run_op hM hf hr hc (rx_opI_more hrt hd hw' e1)]
      exact rx_run_more hrt f _ _ _ _ _ _ _ _ e2 _ _ hd hw'
end RXP
end
section
/-! ops, forwards: what a step gives (the hypotheses 'ho' of rx_T.op) -/
section RXI
variable {pc i : Nat} {lv : rx_L} {st r : List Value} {h : rx_H} {off : Int} {rt : rx_R}
theorem rx_bi_t {P : Bool} {g : Nat} (hP : P = true) (hg : (pc : Int) + off = (g : Int)) : rx_bi P pc off lv r h = some (g, lv, r, h) := by
  unfold rx_bi rx_nx
  rw [if_pos (by omega), if_pos hP, hg]
  rfl
theorem rx_bi_f {P : Bool} (hP : P = false) (hg : 0 ≤ (pc : Int) + off) : rx_bi P pc off lv r h = some (pc + 3, lv, r, h) := by
  unfold rx_bi rx_nx
  rw [if_pos hg, if_neg (by rw [hP]; decide)]
theorem rx_b2_t {c : ClassFile.Cond} {x y : Int32} (g : Nat) (hc : rx_c2 c x y = true) (hg : (pc : Int) + off = (g : Int)) : rx_b2 c off pc lv (.int y :: .int x :: r) h = some (g, lv, r, h) := rx_bi_t hc hg
theorem rx_b2_f {c : ClassFile.Cond} {x y : Int32} (hc : rx_c2 c x y = false) (hg : 0 ≤ (pc : Int) + off) : rx_b2 c off pc lv (.int y :: .int x :: r) h = some (pc + 3, lv, r, h) := rx_bi_f hc hg
theorem rx_b1_t {c : ClassFile.Cond} {x : Int32} (g : Nat) (hc : rx_c1 c x = true) (hg : (pc : Int) + off = (g : Int)) : rx_b1 c off pc lv (.int x :: r) h = some (g, lv, r, h) := rx_bi_t hc hg
theorem rx_b1_f {c : ClassFile.Cond} {x : Int32} (hc : rx_c1 c x = false) (hg : 0 ≤ (pc : Int) + off) : rx_b1 c off pc lv (.int x :: r) h = some (pc + 3, lv, r, h) := rx_bi_f hc hg
theorem rx_ok_i {j : Int32} {n : Nat} (hj : vp_in j n) : rx_ok j n = true := by
  unfold rx_ok
  simp only [Bool.not_eq_true', Bool.or_eq_false_iff, decide_eq_false_iff_not]
  refine ⟨fun q => hj (Or.inl q), ?_⟩
  cases hb : Nat.ble n j.toNatClampNeg with
  | false => rfl
  | true => exact absurd (Or.inr (Nat.le_of_ble_eq_true hb)) hj
theorem rx_ri_i {k n : Nat} {f : Nat → Int32} (hk : h[k]? = some (.inl (0, n, .inl f))) : rx_ri rt h (k + 16) = some (n, f) := by
  unfold rx_ri
  rw [if_neg (by omega), rx_cold_i hk]
theorem rx_rl_i {k n : Nat} {f : Nat → Int64} (hk : h[k]? = some (.inl (1, n, .inr (.inl f)))) : rx_rl h (k + 16) = some (n, f) := by
  unfold rx_rl
  rw [rx_cold_i hk]
theorem rx_rz_i {k n : Nat} {f : Nat → Int32} (hk : h[k]? = some (.inl (2, n, .inl f))) : rx_rz h (k + 16) = some (n, f) := by
  unfold rx_rz
  rw [rx_cold_i hk]
theorem rx_ial_i {j : Int32} {a n : Nat} {f : Nat → Int32} (ha : rx_ri rt h a = some (n, f)) (hj : vp_in j n) : rx_ial rt pc lv (.int j :: .ref a :: r) h = some (pc + 1, lv, .int (f j.toNatClampNeg) :: r, h) := by
  unfold rx_ial
  simp only [ha, rx_ok_i hj, if_true]
  rfl
theorem rx_lal_i {j : Int32} {a n : Nat} {f : Nat → Int64} (ha : rx_rl h a = some (n, f)) (hj : vp_in j n) : rx_lal pc lv (.int j :: .ref a :: r) h = some (pc + 1, lv, .long (f j.toNatClampNeg) :: r, h) := by
  unfold rx_lal
  simp only [ha, rx_ok_i hj, if_true]
  rfl
theorem rx_zal_i {j : Int32} {a n : Nat} {f : Nat → Int32} (ha : rx_rz h a = some (n, f)) (hj : vp_in j n) : rx_zal pc lv (.int j :: .ref a :: r) h = some (pc + 1, lv, .int (f j.toNatClampNeg) :: r, h) := by
  unfold rx_zal
  simp only [ha, rx_ok_i hj, if_true]
  rfl
theorem rx_ias_i {x j : Int32} {k n : Nat} {f : Nat → Int32} (hk : h[k]? = some (.inl (0, n, .inl f))) (hj : vp_in j n) : rx_ias pc lv (.int x :: .int j :: .ref (k + 16) :: r) h = some (pc + 1, lv, r, h.set k (.inl (0, n, .inl (upd f j.toNatClampNeg x)))) := by
  unfold rx_ias
  simp only [rx_ri_i hk, rx_ok_i hj, if_true]
  exact if_neg (show ¬ k + 16 < 16 by omega)
theorem rx_las_i {x : Int64} {j : Int32} {k n : Nat} {f : Nat → Int64} (hk : h[k]? = some (.inl (1, n, .inr (.inl f)))) (hj : vp_in j n) : rx_las pc lv (.long x :: .int j :: .ref (k + 16) :: r) h = some (pc + 1, lv, r, h.set k (.inl (1, n, .inr (.inl (vp_updL f j.toNatClampNeg x))))) := by
  unfold rx_las
  simp only [rx_rl_i hk, rx_ok_i hj, if_true]
  rfl
theorem rx_zas_i {x j : Int32} {k n : Nat} {f : Nat → Int32} (hk : h[k]? = some (.inl (2, n, .inl f))) (hj : vp_in j n) : rx_zas pc lv (.int x :: .int j :: .ref (k + 16) :: r) h = some (pc + 1, lv, r, h.set k (.inl (2, n, .inl (upd f j.toNatClampNeg (vp_nar .boolean x))))) := by
  unfold rx_zas
  simp only [rx_rz_i hk, rx_ok_i hj, if_true]
  rfl
theorem rx_gf_i {o : Option (Nat × Nat × FieldType × Nat)} {ci k fl a : Nat} {ty : FieldType} {fs : List Value} {v : Value} (hl : o = some (ci, k, ty, fl)) (ho : h[a]? = some (.inr (ci, fs))) (hv : fs[k]? = some v) : rx_gf o pc lv (.ref (a + 16) :: r) h = some (pc + 3, lv, v :: r, h) := by
  subst hl
  unfold rx_gf
  simp only [rx_ro_i ho, hv, if_true]
  rfl
theorem rx_pf_i {ini : Bool} {o : Option (Nat × Nat × FieldType × Nat)} {ci k fl a : Nat} {ty : FieldType} {fs : List Value} {v : Value} (hl : o = some (ci, k, ty, fl)) (ho : h[a]? = some (.inr (ci, fs))) (hk : k < fs.length) (hf : rx_fit ty v = true) (hfl : fl = 0 ∨ (fl = 1 ∧ ini = true)) : rx_pf ini o pc lv (v :: .ref (a + 16) :: r) h = some (pc + 3, lv, r, h.set a (.inr (ci, fs.set k v))) := by
  subst hl
  unfold rx_pf
  simp only [rx_ro_i ho]
  rw [if_pos ⟨trivial, hk, hf, hfl⟩]
  rfl
end RXI
end
section
/-! n steps of one frame (a call is a step, run to its end with fuel F): for the kernel, which runs a stretch; the heap behind it is named by its projection -/
def rx_one1 (cds : List (List Value)) (ms : List rx_M) (lk : rx_Lk) (rt : rx_R) (F d w mi : Nat) (q : rx_N) : Option rx_N := match ms[mi]? with
  | none => none
  | some M => match rx_f2 (rx_Mt M) q.1 with
    | none => none
    | some ins => match rx_ret M ins q.2.2.1 with
      | some _ => none
      | none => match rx_call ms lk M ins q.2.2.1 q.2.2.2 with
        | some c => match d with
          | 0 => none
          | d' + 1 => match ms[c.1]? with
            | none => none
            | some N => if 19 + rx_Ml N ≤ w then match rx_run cds ms lk rt F d' (w - (19 + rx_Ml N)) c.1 0 (lv_args 0 c.2.1) [] q.2.2.2 with
                | none => none
                | some z => some (q.1 + 3, q.2.1, z.1.toList ++ c.2.2, z.2)
              else none
        | none => rx_opI cds lk rt d w M ins q.1 q.2.1 q.2.2.1 q.2.2.2
def rx_steps (cds : List (List Value)) (ms : List rx_M) (lk : rx_Lk) (rt : rx_R) (F d w mi : Nat) : Nat → rx_N → Option rx_N
  | 0, q => some q
  | n + 1, q => match rx_one1 cds ms lk rt F d w mi q with
    | none => none
    | some q' => rx_steps cds ms lk rt F d w mi n q'
section RXQ
variable {cds : List (List Value)} {ms : List rx_M} {lk : rx_Lk} {rt : rx_R} {F d w mi : Nat} {P : Option Value → rx_H → Prop}
theorem rx_one1_T {q q' : rx_N} (e : rx_one1 cds ms lk rt F d w mi q = some q') (k : rx_T cds ms lk rt d w mi q'.1 q'.2.1 q'.2.2.1 q'.2.2.2 P) : rx_T cds ms lk rt d w mi q.1 q.2.1 q.2.2.1 q.2.2.2 P := by
  unfold rx_one1 at e
  split at e
  · cases e
  · next M hM =>
    split at e
    · cases e
    · next ins hf =>
      split at e
      · cases e
      · next hr =>
        split at e
        · next c hc =>
          obtain ⟨j, as, rest⟩ := c
          split at e
          · cases e
          · next d' =>
            split at e
            · cases e
            · next N hN =>
              split at e
              · next hw =>
                split at e
                · cases e
                · next z hz =>
                  obtain ⟨v1, h1⟩ := z
                  cases e
                  exact rx_T.call hM hf hr hc hN hw (P1 := fun v h => v = v1 ∧ h = h1) ⟨F, v1, h1, hz, rfl, rfl⟩ (fun v2 h2 hp => by obtain ⟨rfl, rfl⟩ := hp; exact k)
              · cases e
        · next hc => exact rx_T.op hM hf hr hc e k
theorem rx_steps_T : ∀ (n : Nat) (q q' : rx_N), rx_steps cds ms lk rt F d w mi n q = some q' → rx_T cds ms lk rt d w mi q'.1 q'.2.1 q'.2.2.1 q'.2.2.2 P → rx_T cds ms lk rt d w mi q.1 q.2.1 q.2.2.1 q.2.2.2 P
  | 0, q, q', e, k => by
    unfold rx_steps at e
    cases e
    exact k
  | n + 1, q, q', e, k => by
    unfold rx_steps at e
    split at e
    · cases e
    · next q1 h1 => exact rx_one1_T h1 (rx_steps_T n q1 q' e k)
/-- the heap behind a stretch -/
def rx_hp (o : Option rx_N) : rx_H := match o with
  | some q => q.2.2.2
  | none => []
/-- a stretch that the kernel has run: where it stands is decided, its heap is named -/
theorem rx_T.stretch {n pc pc' : Nat} {lv lv' : rx_L} {st st' : List Value} {h : rx_H} (e : (rx_steps cds ms lk rt F d w mi n (pc, lv, st, h)).map (fun q => (q.1, q.2.1, q.2.2.1)) = some (pc', lv', st')) (k : rx_T cds ms lk rt d w mi pc' lv' st' (rx_hp (rx_steps cds ms lk rt F d w mi n (pc, lv, st, h))) P) : rx_T cds ms lk rt d w mi pc lv st h P := by
  obtain ⟨q, h1, h2⟩ := Option.map_eq_some_iff.mp e
  obtain ⟨a, b, c, g⟩ := q
  cases h2
  rw [h1] at k
  exact rx_steps_T n (pc, lv, st, h) _ h1 k
end RXQ
end
section
section RXO
variable {cds : List (List Value)} {ms : List rx_M} {lk : rx_Lk} {rt rt' : rx_R} {F d w mi : Nat} {P : Option Value → rx_H → Prop}
theorem rx_one1_more (hrt : ∀ id q, rt id = some q → rt' id = some q) {q q' : rx_N} (e : rx_one1 cds ms lk rt F d w mi q = some q') : rx_one1 cds ms lk rt' F d w mi q = some q' := by
  unfold rx_one1 at e
  split at e
  · cases e
  · next M hM =>
    split at e
    · cases e
    · next ins hf =>
      split at e
      · cases e
      · next hr =>
        split at e
        · next c hc =>
          obtain ⟨j, as, rest⟩ := c
          split at e
          · cases e
          · next d' =>
            split at e
            · cases e
            · next N hN =>
              split at e
              · next hw =>
                split at e
                · cases e
                · next z hz =>
                  have h1 := rx_run_more hrt _ _ _ _ _ _ _ _ _ hz _ _ (Nat.le_refl _) (Nat.le_refl _)
                  unfold rx_one1
                  simp only [hM, hf, hr, hc, hN, hw, h1, if_true]
                  exact e
              · cases e
        · next hc =>
          have h1 := rx_opI_more hrt (Nat.le_refl d) (Nat.le_refl w) e
          unfold rx_one1
          simp only [hM, hf, hr, hc]
          exact h1
theorem rx_steps_more (hrt : ∀ id q, rt id = some q → rt' id = some q) : ∀ (n : Nat) (q q' : rx_N), rx_steps cds ms lk rt F d w mi n q = some q' → rx_steps cds ms lk rt' F d w mi n q = some q'
  | 0, q, q', e => by unfold rx_steps at e ⊢; exact e
  | n + 1, q, q', e => by
    unfold rx_steps at e
    split at e
    · cases e
    · next q1 h1 =>
      unfold rx_steps
      rw [rx_one1_more hrt h1]
      exact rx_steps_more hrt n q1 q' e
/-- a stretch that the kernel has run without the script -/
theorem rx_T.stretch0 (hrt : ∀ id q, rt id = some q → rt' id = some q) {n pc pc' : Nat} {lv lv' : rx_L} {st st' : List Value} {h : rx_H} (e : (rx_steps cds ms lk rt F d w mi n (pc, lv, st, h)).map (fun q => (q.1, q.2.1, q.2.2.1)) = some (pc', lv', st')) (k : rx_T cds ms lk rt' d w mi pc' lv' st' (rx_hp (rx_steps cds ms lk rt F d w mi n (pc, lv, st, h))) P) : rx_T cds ms lk rt' d w mi pc lv st h P := by
  obtain ⟨q, h1, h2⟩ := Option.map_eq_some_iff.mp e
  obtain ⟨a, b, c, g⟩ := q
  cases h2
  rw [h1] at k
  exact rx_steps_T n (pc, lv, st, h) _ (rx_steps_more hrt n _ _ h1) k
end RXO
end
section
section RXB
variable {cds : List (List Value)} {ms : List rx_M} {lk : rx_Lk} {rt : rx_R} {d w mi pc : Nat} {lv : rx_L} {r : List Value} {h : rx_H} {P : Option Value → rx_H → Prop} {M : rx_M} {c : ClassFile.Cond} {off : Int} {x y : Int32}
theorem rx_T.br1 (g : Nat) (hM : ms[mi]? = some M) (hf : rx_f2 (rx_Mt M) pc = some (.ifCond c off)) (hg : (pc : Int) + off = (g : Int)) (k1 : rx_c1 c x = true → rx_T cds ms lk rt d w mi g lv r h P) (k2 : rx_c1 c x = false → rx_T cds ms lk rt d w mi (pc + 3) lv r h P) : rx_T cds ms lk rt d w mi pc lv (.int x :: r) h P := by
  cases hc : rx_c1 c x with
  | true => exact rx_T.op hM hf rfl rfl (rx_b1_t g hc hg) (k1 hc)
  | false => exact rx_T.op hM hf rfl rfl (rx_b1_f hc (by omega)) (k2 hc)
theorem rx_T.br2 (g : Nat) (hM : ms[mi]? = some M) (hf : rx_f2 (rx_Mt M) pc = some (.if_icmp c off)) (hg : (pc : Int) + off = (g : Int)) (k1 : rx_c2 c x y = true → rx_T cds ms lk rt d w mi g lv r h P) (k2 : rx_c2 c x y = false → rx_T cds ms lk rt d w mi (pc + 3) lv r h P) : rx_T cds ms lk rt d w mi pc lv (.int y :: .int x :: r) h P := by
  cases hc : rx_c2 c x y with
  | true => exact rx_T.op hM hf rfl rfl (rx_b2_t g hc hg) (k1 hc)
  | false => exact rx_T.op hM hf rfl rfl (rx_b2_f hc (by omega)) (k2 hc)
end RXB
/-- n steps, by rfl, to a point that is written out -/
theorem rx_T.to {cds : List (List Value)} {ms : List rx_M} {lk : rx_Lk} {rt : rx_R} {d w mi pc : Nat} {lv : rx_L} {st : List Value} {h : rx_H} {P : Option Value → rx_H → Prop} (n pc' : Nat) (lv' : rx_L) (st' : List Value) (h' : rx_H) (e : rx_steps cds ms lk rt 0 d w mi n (pc, lv, st, h) = some (pc', lv', st', h')) (k : rx_T cds ms lk rt d w mi pc' lv' st' h' P) : rx_T cds ms lk rt d w mi pc lv st h P := rx_steps_T n (pc, lv, st, h) _ e k
section RXW
variable {cds : List (List Value)} {ms : List rx_M} {lk : rx_Lk} {rt : rx_R} {d w mi pc : Nat} {lv : rx_L} {r : List Value} {h : rx_H} {P : Option Value → rx_H → Prop} {M : rx_M}
theorem rx_ts_i {dflt lo hi off : Int} {offs : Array Int} {g : Nat} {x : Int32} (h1 : ¬ (x.toInt < lo ∨ hi < x.toInt)) (ho : offs[(x.toInt - lo).toNat]? = some off) (hg : (pc : Int) + off = (g : Int)) : rx_ts dflt lo hi offs pc lv (.int x :: r) h = some (g, lv, r, h) := by
  unfold rx_ts
  simp only [if_neg h1, ho]
  unfold rx_jp rx_nx
  rw [if_pos (by omega), hg]
  rfl
theorem rx_T.tsw {dflt lo hi : Int} {offs : Array Int} {x : Int32} (off : Int) (g : Nat) (hM : ms[mi]? = some M) (hf : rx_f2 (rx_Mt M) pc = some (.tableswitch dflt lo hi offs)) (h1 : ¬ (x.toInt < lo ∨ hi < x.toInt)) (ho : offs[(x.toInt - lo).toNat]? = some off) (hg : (pc : Int) + off = (g : Int)) (k : rx_T cds ms lk rt d w mi g lv r h P) : rx_T cds ms lk rt d w mi pc lv (.int x :: r) h P := rx_T.op hM hf rfl rfl (rx_ts_i h1 ho hg) k
theorem rx_T.iald {j : Int32} {a n : Nat} {f : Nat → Int32} (hM : ms[mi]? = some M) (hf : rx_f2 (rx_Mt M) pc = some .iaload) (ha : rx_ri rt h a = some (n, f)) (hj : vp_in j n) (k : rx_T cds ms lk rt d w mi (pc + 1) lv (.int (f j.toNatClampNeg) :: r) h P) : rx_T cds ms lk rt d w mi pc lv (.int j :: .ref a :: r) h P := rx_T.op hM hf rfl rfl (rx_ial_i ha hj) k
theorem rx_T.lald {j : Int32} {a n : Nat} {f : Nat → Int64} (hM : ms[mi]? = some M) (hf : rx_f2 (rx_Mt M) pc = some .laload) (ha : rx_rl h a = some (n, f)) (hj : vp_in j n) (k : rx_T cds ms lk rt d w mi (pc + 1) lv (.long (f j.toNatClampNeg) :: r) h P) : rx_T cds ms lk rt d w mi pc lv (.int j :: .ref a :: r) h P := rx_T.op hM hf rfl rfl (rx_lal_i ha hj) k
theorem rx_T.zald {j : Int32} {a n : Nat} {f : Nat → Int32} (hM : ms[mi]? = some M) (hf : rx_f2 (rx_Mt M) pc = some .baload) (ha : rx_rz h a = some (n, f)) (hj : vp_in j n) (k : rx_T cds ms lk rt d w mi (pc + 1) lv (.int (f j.toNatClampNeg) :: r) h P) : rx_T cds ms lk rt d w mi pc lv (.int j :: .ref a :: r) h P := rx_T.op hM hf rfl rfl (rx_zal_i ha hj) k
theorem rx_T.iast {x j : Int32} {a n : Nat} {f : Nat → Int32} (hM : ms[mi]? = some M) (hf : rx_f2 (rx_Mt M) pc = some .iastore) (ha : h[a]? = some (.inl (0, n, .inl f))) (hj : vp_in j n) (k : rx_T cds ms lk rt d w mi (pc + 1) lv r (h.set a (.inl (0, n, .inl (upd f j.toNatClampNeg x)))) P) : rx_T cds ms lk rt d w mi pc lv (.int x :: .int j :: .ref (a + 16) :: r) h P := rx_T.op hM hf rfl rfl (rx_ias_i ha hj) k
theorem rx_T.last {x : Int64} {j : Int32} {a n : Nat} {f : Nat → Int64} (hM : ms[mi]? = some M) (hf : rx_f2 (rx_Mt M) pc = some .lastore) (ha : h[a]? = some (.inl (1, n, .inr (.inl f)))) (hj : vp_in j n) (k : rx_T cds ms lk rt d w mi (pc + 1) lv r (h.set a (.inl (1, n, .inr (.inl (vp_updL f j.toNatClampNeg x))))) P) : rx_T cds ms lk rt d w mi pc lv (.long x :: .int j :: .ref (a + 16) :: r) h P := rx_T.op hM hf rfl rfl (rx_las_i ha hj) k
theorem rx_T.zast {x j : Int32} {a n : Nat} {f : Nat → Int32} (hM : ms[mi]? = some M) (hf : rx_f2 (rx_Mt M) pc = some .bastore) (ha : h[a]? = some (.inl (2, n, .inl f))) (hj : vp_in j n) (k : rx_T cds ms lk rt d w mi (pc + 1) lv r (h.set a (.inl (2, n, .inl (upd f j.toNatClampNeg (vp_nar .boolean x))))) P) : rx_T cds ms lk rt d w mi pc lv (.int x :: .int j :: .ref (a + 16) :: r) h P := rx_T.op hM hf rfl rfl (rx_zas_i ha hj) k
end RXW
end
section
/-! CELLS THAT ARE NEVER LOOKED AT: a run over a heap in which some cells are rx_psn (nothing can be read there) does the same over every heap that has other cells at these places, and leaves them -/
def rx_psn : rx_C := .inl (9, 0, .inl (fun _ => 0))
def rx_le (h g : rx_H) : Prop := h.length = g.length ∧ ∀ (k : Nat) (c : rx_C), h[k]? = some c → c = rx_psn ∨ g[k]? = some c
def rx_kp (h g h' g' : rx_H) : Prop := rx_le h' g' ∧ ∀ k : Nat, h[k]? = some rx_psn → h'[k]? = some rx_psn ∧ g'[k]? = g[k]?
theorem rx_npo {q : Nat × List Value} : (.inr q : rx_C) ≠ rx_psn := fun e => by unfold rx_psn at e; cases e
theorem rx_npa {t : Nat} {x : vp_A} (ht : t ≠ 9) : (.inl (t, x) : rx_C) ≠ rx_psn := fun e => by
  unfold rx_psn at e
  have h1 := Sum.inl.inj e
  exact ht (congrArg Prod.fst h1)
theorem rx_le.get {h g : rx_H} {k : Nat} {c : rx_C} (hl : rx_le h g) (e : h[k]? = some c) (hc : c ≠ rx_psn) : g[k]? = some c := (hl.2 k c e).resolve_left hc
theorem rx_kp.refl {h g : rx_H} (hl : rx_le h g) : rx_kp h g h g := ⟨hl, fun _ e => ⟨e, rfl⟩⟩
theorem rx_kp.trans {h g h1 g1 h2 g2 : rx_H} (a : rx_kp h g h1 g1) (b : rx_kp h1 g1 h2 g2) : rx_kp h g h2 g2 := ⟨b.1, fun k e => ⟨(b.2 k (a.2 k e).1).1, (b.2 k (a.2 k e).1).2.trans (a.2 k e).2⟩⟩
theorem rx_kp.set {h g : rx_H} {k : Nat} {c c' : rx_C} (hl : rx_le h g) (e : h[k]? = some c) (hc : c ≠ rx_psn) : rx_kp h g (h.set k c') (g.set k c') := by
  have hk : k < h.length := (List.getElem?_eq_some_iff.mp e).1
  have hk2 : k < g.length := by rw [← hl.1]; exact hk
  refine ⟨⟨by rw [List.length_set, List.length_set]; exact hl.1, fun j c2 e2 => ?_⟩, fun j e2 => ?_⟩
  · by_cases ej : j = k
    · subst ej
      rw [List.getElem?_set_self hk] at e2
      cases e2
      exact Or.inr (List.getElem?_set_self hk2)
    · rw [List.getElem?_set_ne (Ne.symm ej)] at e2 ⊢
      exact hl.2 j c2 e2
  · have ej : j ≠ k := fun q => by
      subst q
      rw [e] at e2
      exact hc (Option.some.inj e2)
    rw [List.getElem?_set_ne (Ne.symm ej), List.getElem?_set_ne (Ne.symm ej)]
    exact ⟨e2, rfl⟩
theorem rx_kp.app {h g : rx_H} (hl : rx_le h g) (l : rx_H) : rx_kp h g (h ++ l) (g ++ l) := by
  refine ⟨⟨by rw [List.length_append, List.length_append, hl.1], fun j c2 e2 => ?_⟩, fun j e2 => ?_⟩
  · by_cases ej : j < h.length
    · rw [List.getElem?_append_left ej] at e2
      rw [List.getElem?_append_left (by rw [← hl.1]; exact ej)]
      exact hl.2 j c2 e2
    · rw [List.getElem?_append_right (by omega)] at e2
      rw [List.getElem?_append_right (by rw [← hl.1]; omega), ← hl.1]
      exact Or.inr e2
  · have ej : j < h.length := (List.getElem?_eq_some_iff.mp e2).1
    rw [List.getElem?_append_left ej, List.getElem?_append_left (by rw [← hl.1]; exact ej)]
    exact ⟨e2, rfl⟩
theorem rx_ri_psn {rt : rx_R} {h g : rx_H} {a : Nat} {q : Nat × (Nat → Int32)} (hl : rx_le h g) (e : rx_ri rt h a = some q) : rx_ri rt g a = some q := by
  rcases rx_ri_e e with ⟨h1, h2⟩ | ⟨k, rfl, h1, h2⟩
  · unfold rx_ri
    rw [if_pos h1]
    exact h2
  · exact rx_ri_i (hl.get h1 (rx_npa (by decide)))
theorem rx_rl_psn {h g : rx_H} {a : Nat} {q : Nat × (Nat → Int64)} (hl : rx_le h g) (e : rx_rl h a = some q) : rx_rl g a = some q := by
  obtain ⟨k, rfl, h1, h2⟩ := rx_rl_e e
  exact rx_rl_i (hl.get h1 (rx_npa (by decide)))
theorem rx_rz_psn {h g : rx_H} {a : Nat} {q : Nat × (Nat → Int32)} (hl : rx_le h g) (e : rx_rz h a = some q) : rx_rz g a = some q := by
  obtain ⟨k, rfl, h1, h2⟩ := rx_rz_e e
  exact rx_rz_i (hl.get h1 (rx_npa (by decide)))
theorem rx_rq_psn {h g : rx_H} {a : Nat} {q : Nat × (Nat → Option Nat)} (hl : rx_le h g) (e : rx_rq h a = some q) : rx_rq g a = some q := by
  obtain ⟨k, rfl, h1, h2⟩ := rx_rq_e e
  unfold rx_rq
  rw [rx_cold_i (hl.get h1 (rx_npa (by decide)))]
theorem rx_aln_psn {rt : rx_R} {h g : rx_H} {a n : Nat} (hl : rx_le h g) (e : rx_aln rt h a = some n) : rx_aln rt g a = some n := by
  unfold rx_aln at e ⊢
  split at e
  · next h1 => rw [if_pos h1]; exact e
  · next h1 =>
    rw [if_neg h1]
    split at e
    · next q w =>
      split at e
      · next h2 =>
        obtain ⟨k, rfl, h3, h4⟩ := rx_cell_e w
        obtain ⟨t, x⟩ := q
        have h5 := hl.get h3 (rx_npa (fun z => by subst z; exact absurd (show (9 : Nat) < 4 from h2) (by decide)))
        unfold rx_cell
        rw [if_neg (by omega), Nat.add_sub_cancel, h5]
        simp only
        rw [if_pos h2]
        exact e
      · cases e
    · cases e
theorem rx_jp_i {pc : Nat} {off : Int} {lv : rx_L} {st : List Value} {h : rx_H} {q : Nat} (hg : (pc : Int) + off = (q : Int)) : rx_jp pc off lv st h = some (q, lv, st, h) := by
  unfold rx_jp rx_nx
  rw [if_pos (by omega), hg]
  rfl
theorem rx_tsd_i {pc : Nat} {lv : rx_L} {r : List Value} {h : rx_H} {dflt lo hi : Int} {offs : Array Int} {g : Nat} {x : Int32} (h1 : x.toInt < lo ∨ hi < x.toInt) (hg : (pc : Int) + dflt = (g : Int)) : rx_ts dflt lo hi offs pc lv (.int x :: r) h = some (g, lv, r, h) := by
  unfold rx_ts
  simp only [if_pos h1]
  exact rx_jp_i hg
set_option maxHeartbeats 4000000 in
set_option maxRecDepth 100000 in
theorem rx_op_psn {cds : List (List Value)} {lk : rx_Lk} {rt : rx_R} {d w : Nat} {M : rx_M} {ins : Instr} {pc pc' : Nat} {lv lv' : rx_L} {st st' : List Value} {h h' g : rx_H} (hl : rx_le h g) (hop : rx_opI cds lk rt d w M ins pc lv st h = some (pc', lv', st', h')) : ∃ g' : rx_H, rx_opI cds lk rt d w M ins pc lv st g = some (pc', lv', st', g') ∧ rx_kp h g h' g' := by
  cases ins
  case iconst n =>
    cases rx_nx_e hop
    refine ⟨g, ?_, rx_kp.refl hl⟩
    rfl
  case bipush n =>
    cases rx_nx_e hop
    refine ⟨g, ?_, rx_kp.refl hl⟩
    rfl
  case sipush n =>
    cases rx_nx_e hop
    refine ⟨g, ?_, rx_kp.refl hl⟩
    rfl
  case lconst n =>
    cases rx_nx_e hop
    refine ⟨g, ?_, rx_kp.refl hl⟩
    rfl
  case ldc ix =>
    obtain ⟨v, ho, e⟩ := rx_kc_e hop
    cases e
    refine ⟨g, ?_, rx_kp.refl hl⟩
    show rx_kc _ _ pc lv st g = _
    rw [ho]
    rfl
  case ldc_w ix =>
    obtain ⟨v, ho, e⟩ := rx_kc_e hop
    cases e
    refine ⟨g, ?_, rx_kp.refl hl⟩
    show rx_kc _ _ pc lv st g = _
    rw [ho]
    rfl
  case ldc2_w ix =>
    obtain ⟨v, ho, e⟩ := rx_kc_e hop
    cases e
    refine ⟨g, ?_, rx_kp.refl hl⟩
    show rx_kc _ _ pc lv st g = _
    rw [ho]
    rfl
  case getstatic ix =>
    obtain ⟨v, ho, e⟩ := rx_kc_e hop
    cases e
    refine ⟨g, ?_, rx_kp.refl hl⟩
    show rx_kc _ _ pc lv st g = _
    rw [ho]
    rfl
  case iload_n k =>
    obtain ⟨x, hk, e⟩ := rx_li_e hop
    cases e
    refine ⟨g, ?_, rx_kp.refl hl⟩
    show rx_li lv _ _ st g = _
    unfold rx_li
    rw [hk]
    rfl
  case iload i =>
    obtain ⟨x, hk, e⟩ := rx_li_e hop
    cases e
    refine ⟨g, ?_, rx_kp.refl hl⟩
    show rx_li lv _ _ st g = _
    unfold rx_li
    rw [hk]
    rfl
  case lload_n k =>
    obtain ⟨x, hk, e⟩ := rx_ll_e hop
    cases e
    refine ⟨g, ?_, rx_kp.refl hl⟩
    show rx_ll lv _ _ st g = _
    unfold rx_ll
    rw [hk]
    rfl
  case lload i =>
    obtain ⟨x, hk, e⟩ := rx_ll_e hop
    cases e
    refine ⟨g, ?_, rx_kp.refl hl⟩
    show rx_ll lv _ _ st g = _
    unfold rx_ll
    rw [hk]
    rfl
  case aload_n k =>
    obtain ⟨x, hk, e⟩ := rx_la_e hop
    cases e
    refine ⟨g, ?_, rx_kp.refl hl⟩
    show rx_la lv _ _ st g = _
    unfold rx_la
    rw [hk]
    rfl
  case aload i =>
    obtain ⟨x, hk, e⟩ := rx_la_e hop
    cases e
    refine ⟨g, ?_, rx_kp.refl hl⟩
    show rx_la lv _ _ st g = _
    unfold rx_la
    rw [hk]
    rfl
  case istore_n k =>
    obtain ⟨x, t, rfl, hi, e⟩ := rx_si_e hop
    cases e
    refine ⟨g, ?_, rx_kp.refl hl⟩
    exact if_pos hi
  case istore i =>
    obtain ⟨x, t, rfl, hi, e⟩ := rx_si_e hop
    cases e
    refine ⟨g, ?_, rx_kp.refl hl⟩
    exact if_pos hi
  case lstore_n k =>
    obtain ⟨x, t, rfl, hi, e⟩ := rx_sl_e hop
    cases e
    refine ⟨g, ?_, rx_kp.refl hl⟩
    exact if_pos hi
  case lstore i =>
    obtain ⟨x, t, rfl, hi, e⟩ := rx_sl_e hop
    cases e
    refine ⟨g, ?_, rx_kp.refl hl⟩
    exact if_pos hi
  case astore_n k =>
    obtain ⟨x, t, rfl, hi, e⟩ := rx_sa_e hop
    cases e
    refine ⟨g, ?_, rx_kp.refl hl⟩
    exact if_pos hi
  case astore i =>
    obtain ⟨x, t, rfl, hi, e⟩ := rx_sa_e hop
    cases e
    refine ⟨g, ?_, rx_kp.refl hl⟩
    exact if_pos hi
  case iinc i n =>
    obtain ⟨x, hk, hi, e⟩ := rx_in_e hop
    cases e
    refine ⟨g, ?_, rx_kp.refl hl⟩
    show rx_in _ i n pc lv st g = _
    unfold rx_in
    rw [hk]
    exact if_pos hi
  case iadd =>
    obtain ⟨x, y, t, rfl, e⟩ := rx_2i_e hop
    cases e
    refine ⟨g, ?_, rx_kp.refl hl⟩
    rfl
  case isub =>
    obtain ⟨x, y, t, rfl, e⟩ := rx_2i_e hop
    cases e
    refine ⟨g, ?_, rx_kp.refl hl⟩
    rfl
  case imul =>
    obtain ⟨x, y, t, rfl, e⟩ := rx_2i_e hop
    cases e
    refine ⟨g, ?_, rx_kp.refl hl⟩
    rfl
  case iand =>
    obtain ⟨x, y, t, rfl, e⟩ := rx_2i_e hop
    cases e
    refine ⟨g, ?_, rx_kp.refl hl⟩
    rfl
  case ior =>
    obtain ⟨x, y, t, rfl, e⟩ := rx_2i_e hop
    cases e
    refine ⟨g, ?_, rx_kp.refl hl⟩
    rfl
  case ixor =>
    obtain ⟨x, y, t, rfl, e⟩ := rx_2i_e hop
    cases e
    refine ⟨g, ?_, rx_kp.refl hl⟩
    rfl
  case ishl =>
    obtain ⟨x, y, t, rfl, e⟩ := rx_2i_e hop
    cases e
    refine ⟨g, ?_, rx_kp.refl hl⟩
    rfl
  case ishr =>
    obtain ⟨x, y, t, rfl, e⟩ := rx_2i_e hop
    cases e
    refine ⟨g, ?_, rx_kp.refl hl⟩
    rfl
  case iushr =>
    obtain ⟨x, y, t, rfl, e⟩ := rx_2i_e hop
    cases e
    refine ⟨g, ?_, rx_kp.refl hl⟩
    rfl
  case ladd =>
    obtain ⟨x, y, t, rfl, e⟩ := rx_2l_e hop
    cases e
    refine ⟨g, ?_, rx_kp.refl hl⟩
    rfl
  case lsub =>
    obtain ⟨x, y, t, rfl, e⟩ := rx_2l_e hop
    cases e
    refine ⟨g, ?_, rx_kp.refl hl⟩
    rfl
  case lmul =>
    obtain ⟨x, y, t, rfl, e⟩ := rx_2l_e hop
    cases e
    refine ⟨g, ?_, rx_kp.refl hl⟩
    rfl
  case land =>
    obtain ⟨x, y, t, rfl, e⟩ := rx_2l_e hop
    cases e
    refine ⟨g, ?_, rx_kp.refl hl⟩
    rfl
  case lor =>
    obtain ⟨x, y, t, rfl, e⟩ := rx_2l_e hop
    cases e
    refine ⟨g, ?_, rx_kp.refl hl⟩
    rfl
  case lxor =>
    obtain ⟨x, y, t, rfl, e⟩ := rx_2l_e hop
    cases e
    refine ⟨g, ?_, rx_kp.refl hl⟩
    rfl
  case idiv =>
    obtain ⟨x, y, t, rfl, h0, e⟩ := rx_dv_e hop
    cases e
    refine ⟨g, ?_, rx_kp.refl hl⟩
    exact if_neg h0
  case irem =>
    obtain ⟨x, y, t, rfl, h0, e⟩ := rx_dv_e hop
    cases e
    refine ⟨g, ?_, rx_kp.refl hl⟩
    exact if_neg h0
  case ldiv =>
    obtain ⟨x, y, t, rfl, h0, e⟩ := rx_dl_e hop
    cases e
    refine ⟨g, ?_, rx_kp.refl hl⟩
    exact if_neg h0
  case lrem =>
    obtain ⟨x, y, t, rfl, h0, e⟩ := rx_dl_e hop
    cases e
    refine ⟨g, ?_, rx_kp.refl hl⟩
    exact if_neg h0
  case ineg =>
    obtain ⟨x, t, rfl, e⟩ := rx_1i_e hop
    cases e
    refine ⟨g, ?_, rx_kp.refl hl⟩
    rfl
  case i2l =>
    obtain ⟨x, t, rfl, e⟩ := rx_1i_e hop
    cases e
    refine ⟨g, ?_, rx_kp.refl hl⟩
    rfl
  case lneg =>
    obtain ⟨x, t, rfl, e⟩ := rx_1l_e hop
    cases e
    refine ⟨g, ?_, rx_kp.refl hl⟩
    rfl
  case l2i =>
    obtain ⟨x, t, rfl, e⟩ := rx_1l_e hop
    cases e
    refine ⟨g, ?_, rx_kp.refl hl⟩
    rfl
  case lushr =>
    obtain ⟨x, y, t, rfl, e⟩ := rx_us_e hop
    cases e
    refine ⟨g, ?_, rx_kp.refl hl⟩
    rfl
  case lcmp =>
    obtain ⟨x, y, t, rfl, e⟩ := rx_cm_e hop
    cases e
    refine ⟨g, ?_, rx_kp.refl hl⟩
    rfl
  case dup =>
    obtain ⟨a, t, rfl, h1, e⟩ := rx_d0_e hop
    cases e
    refine ⟨g, ?_, rx_kp.refl hl⟩
    exact if_pos h1
  case pop =>
    obtain ⟨a, t, rfl, h1, e⟩ := rx_pp_e hop
    cases e
    refine ⟨g, ?_, rx_kp.refl hl⟩
    exact if_pos h1
  case dup_x1 =>
    obtain ⟨a, b, t, rfl, h1, h2, e⟩ := rx_d1_e hop
    cases e
    refine ⟨g, ?_, rx_kp.refl hl⟩
    exact if_pos ⟨h1, h2⟩
  case dup_x2 =>
    obtain ⟨a, b, d9, t, rfl, h1, h2, h3, e⟩ := rx_d2_e hop
    cases e
    refine ⟨g, ?_, rx_kp.refl hl⟩
    exact if_pos ⟨h1, h2, h3⟩
  case dup2 =>
    obtain ⟨a, b, t, rfl, h1, h2, e⟩ := rx_dd_e hop
    cases e
    refine ⟨g, ?_, rx_kp.refl hl⟩
    exact if_pos ⟨h1, h2⟩
  case ifCond cond off =>
    obtain ⟨x, t, rfl, q, hg, ⟨hc, e⟩ | ⟨hc, e⟩⟩ := rx_b1_e hop
    · cases e; exact ⟨g, rx_b1_t _ hc hg, rx_kp.refl hl⟩
    · cases e; exact ⟨g, rx_b1_f hc (by omega), rx_kp.refl hl⟩
  case if_icmp cond off =>
    obtain ⟨x, y, t, rfl, q, hg, ⟨hc, e⟩ | ⟨hc, e⟩⟩ := rx_b2_e hop
    · cases e; exact ⟨g, rx_b2_t _ hc hg, rx_kp.refl hl⟩
    · cases e; exact ⟨g, rx_b2_f hc (by omega), rx_kp.refl hl⟩
  case goto off =>
    obtain ⟨q, hg, e⟩ := rx_jp_e hop
    cases e
    exact ⟨g, rx_jp_i hg, rx_kp.refl hl⟩
  case tableswitch dflt lo hi offs =>
    obtain ⟨x, t, rfl, ⟨h1, q, hg, e⟩ | ⟨h1, h2, off, q, h3, hg, e⟩⟩ := rx_ts_e hop
    · cases e; exact ⟨g, rx_tsd_i h1 hg, rx_kp.refl hl⟩
    · cases e; exact ⟨g, rx_ts_i (fun z => z.elim h1 h2) h3 hg, rx_kp.refl hl⟩
  case lookupswitch dflt ps =>
    obtain ⟨x, t, rfl, h1, q, hg, e⟩ := rx_ls_e hop
    cases e
    refine ⟨g, ?_, rx_kp.refl hl⟩
    show rx_ls dflt ps pc lv (.int x :: st') g = _
    unfold rx_ls
    simp only [h1, if_true]
    exact rx_jp_i hg
  case iaload =>
    obtain ⟨i, a, t, q, rfl, h1, h2, e⟩ := rx_ial_e hop
    cases e
    exact ⟨g, rx_ial_i (rx_ri_psn hl h1) h2, rx_kp.refl hl⟩
  case laload =>
    obtain ⟨i, a, t, q, rfl, h1, h2, e⟩ := rx_lal_e hop
    cases e
    exact ⟨g, rx_lal_i (rx_rl_psn hl h1) h2, rx_kp.refl hl⟩
  case baload =>
    obtain ⟨i, a, t, q, rfl, h1, h2, e⟩ := rx_zal_e hop
    cases e
    exact ⟨g, rx_zal_i (rx_rz_psn hl h1) h2, rx_kp.refl hl⟩
  case aaload =>
    obtain ⟨i, a, t, q, k, rfl, h1, h2, h3, e⟩ := rx_qal_e hop
    cases e
    refine ⟨g, ?_, rx_kp.refl hl⟩
    show rx_qal pc lv (.int i :: .ref a :: t) g = _
    unfold rx_qal
    simp only [rx_rq_psn hl h1, rx_ok_i h2, if_true, h3]
    rfl
  case iastore =>
    obtain ⟨x, i, k, t, n, f, rfl, h1, h2, h3, e⟩ := rx_ias_e hop
    cases e
    exact ⟨_, rx_ias_i (hl.get h1 (rx_npa (by decide))) h3, rx_kp.set hl h1 (rx_npa (by decide))⟩
  case lastore =>
    obtain ⟨x, i, k, t, n, f, rfl, h1, h2, h3, e⟩ := rx_las_e hop
    cases e
    exact ⟨_, rx_las_i (hl.get h1 (rx_npa (by decide))) h3, rx_kp.set hl h1 (rx_npa (by decide))⟩
  case bastore =>
    obtain ⟨x, i, k, t, n, f, rfl, h1, h2, h3, e⟩ := rx_zas_e hop
    cases e
    exact ⟨_, rx_zas_i (hl.get h1 (rx_npa (by decide))) h3, rx_kp.set hl h1 (rx_npa (by decide))⟩
  case arraylength =>
    obtain ⟨a, t, n, rfl, h1, e⟩ := rx_al_e hop
    cases e
    refine ⟨g, ?_, rx_kp.refl hl⟩
    show rx_al rt pc lv (.ref a :: t) g = _
    unfold rx_al
    simp only [rx_aln_psn hl h1]
    rfl
  case getfield ix =>
    obtain ⟨k, t, q, fs, v, rfl, h1, h2, h3, e⟩ := rx_gf_e hop
    cases e
    obtain ⟨ci, k2, ty, fl⟩ := q
    exact ⟨g, rx_gf_i h1 (hl.get h2 rx_npo) h3, rx_kp.refl hl⟩
  case putfield ix =>
    obtain ⟨v, k, t, q, fs, rfl, h1, h2, h3, h4, h5, h6, e⟩ := rx_pf_e hop
    cases e
    obtain ⟨ci, k2, ty, fl⟩ := q
    exact ⟨_, rx_pf_i h1 (hl.get h2 rx_npo) h4 h5 h6, rx_kp.set hl h2 rx_npo⟩
  case new ix =>
    obtain ⟨ci, fs, h1, h2, e⟩ := rx_nw_e hop
    cases e
    refine ⟨g ++ [.inr (ci, fs)], ?_, rx_kp.app hl _⟩
    show rx_nw _ cds pc lv st g = _
    unfold rx_nw
    simp only [h1, h2]
    rw [hl.1]
    rfl
  case newarray a =>
    obtain ⟨q, n, t, h1, rfl, h2, h3, e⟩ := rx_na_e hop
    cases e
    refine ⟨g ++ [.inl (q.1, rx_zer q.1 n.toNatClampNeg)], ?_, rx_kp.app hl _⟩
    show rx_na _ pc lv (.int n :: t) g = _
    unfold rx_na
    simp only [h1]
    rw [if_neg (fun z => z.elim h2 (fun y => Nat.not_lt.mpr h3 y)), hl.1]
    rfl
  case multianewarray ix n =>
    obtain ⟨k, n, t, ho, rfl, rfl, hn0, hk0, hn1, hk1, e⟩ := rx_mn_e hop
    cases e
    rw [hl.1]
    refine ⟨g ++ (.inl (3, n.toNatClampNeg, .inr (.inr (.inr (.inr (fun i => if i < n.toNatClampNeg then some (g.length + 17 + i) else none))))) :: List.replicate n.toNatClampNeg (.inl (1, k.toNatClampNeg, .inr (.inl (fun _ => 0))))), ?_, rx_kp.app hl _⟩
    show rx_mn _ 2 pc lv (.int k :: .int n :: t) g = _
    unfold rx_mn
    simp only [ho]
    rw [if_pos ⟨trivial, hn0, hk0, hn1, hk1⟩]
    rfl
  case invokespecial ix =>
    obtain ⟨q, h1, h2, h3⟩ := rx_is_e hop
    obtain ⟨a, t, rfl, h4, h5, e⟩ := rx_oi_e h3
    cases e
    refine ⟨g, ?_, rx_kp.refl hl⟩
    show rx_is d w _ pc lv _ g = _
    rw [h1]
    unfold rx_is rx_oi
    simp only [h2, if_true]
    rw [if_pos ⟨h4, h5⟩]
    rfl
  case invokestatic ix =>
    obtain ⟨q, h1, ⟨h2, h3⟩ | ⟨h2, h3⟩ | ⟨h2, h3⟩⟩ := rx_it_e hop
    · obtain ⟨n, dp, sp, ka, kb, m0, m1, f, f2, t, rfl, w1, w2, w3, w4, w5, w6, w7, w8, w9, w10, e⟩ := rx_ac_e h3
      cases e
      refine ⟨_, ?_, rx_kp.set hl w2 (rx_npa (by decide))⟩
      show rx_it d w _ pc lv _ g = _
      rw [h1]
      unfold rx_it
      simp only [h2, if_true]
      unfold rx_ac
      simp only [rx_cold_i (hl.get w1 (rx_npa (by decide))), rx_cold_i (hl.get w2 (rx_npa (by decide)))]
      rw [if_pos ⟨w4, w5, w6, w7, w8, w9, w10⟩]
      rfl
    · obtain ⟨x, y, t, rfl, w1, w2, e⟩ := rx_m4_e h3
      cases e
      refine ⟨g, ?_, rx_kp.refl hl⟩
      show rx_it d w _ pc lv _ g = _
      rw [h1]
      unfold rx_it rx_m4
      simp only [h2]
      rw [if_neg (by decide), if_pos trivial, if_pos ⟨w1, w2⟩]
      rfl
    · obtain ⟨x, y, t, rfl, w1, w2, e⟩ := rx_m5_e h3
      cases e
      refine ⟨g, ?_, rx_kp.refl hl⟩
      show rx_it d w _ pc lv _ g = _
      rw [h1]
      unfold rx_it rx_m5
      simp only [h2]
      rw [if_neg (by decide), if_neg (by decide), if_pos trivial, if_pos ⟨w1, w2⟩]
      rfl
  all_goals exact absurd hop (fun z => by cases z)
theorem rx_rcv_psn {h g : rx_H} (hl : rx_le h g) {k ci : Nat} {as : List Value} (e : rx_rcv h k ci as = true) : rx_rcv g k ci as = true := by
  unfold rx_rcv at e ⊢
  split at e
  · rfl
  · next a t =>
    split at e
    · next q w =>
      obtain ⟨j, rfl, h1, h2⟩ := rx_ro_e w
      simp only [rx_ro_i (hl.get h1 rx_npo)]
      exact e
    · cases e
  · rfl
  · cases e
theorem rx_call_psn {ms : List rx_M} {lk : rx_Lk} {M : rx_M} {ins : Instr} {st : List Value} {h g : rx_H} (hl : rx_le h g) {r : Nat × List Value × List Value} (e : rx_call ms lk M ins st h = some r) : rx_call ms lk M ins st g = some r := by
  obtain ⟨ix, k, h1, h2⟩ := rx_call_e e
  have h3 : rx_iv ms (rx_luv lk.2.2.1 (rx_Mo M) ix) k st g = some r := by
    unfold rx_iv at h1 ⊢
    split at h1
    · next q =>
      split at h1
      · next N w =>
        split at h1
        · next z =>
          obtain ⟨z1, z2, z3, z4, z5⟩ := z
          try simp only [w]
          rw [if_pos ⟨z1, z2, z3, z4, rx_rcv_psn hl z5⟩]
          exact h1
        · cases h1
      · cases h1
    · cases h1
  rcases h2 with ⟨rfl, rfl⟩ | ⟨rfl, rfl⟩ | ⟨rfl, rfl⟩ <;> exact h3
theorem rx_call_psn0 {cds : List (List Value)} {ms : List rx_M} {lk : rx_Lk} {rt : rx_R} {d w pc : Nat} {lv : rx_L} {M : rx_M} {ins : Instr} {st : List Value} {h g : rx_H} {r : rx_N} (hop : rx_opI cds lk rt d w M ins pc lv st h = some r) (e : rx_call ms lk M ins st h = none) : rx_call ms lk M ins st g = none := by
  cases ins
  case invokevirtual ix => cases hop
  case invokestatic ix => exact e
  case invokespecial ix =>
    show rx_iv ms (rx_luv lk.2.2.1 (rx_Mo M) ix) 2 st g = none
    have e : rx_iv ms (rx_luv lk.2.2.1 (rx_Mo M) ix) 2 st h = none := e
    unfold rx_iv at e ⊢
    split at e
    · next q =>
      split at e
      · next N w =>
        try simp only [w]
        split at e
        · cases e
        · next z =>
          rw [if_neg]
          intro y
          apply z
          obtain ⟨y1, y2, y3, y4, y5⟩ := y
          refine ⟨y1, y2, y3, y4, ?_⟩
          generalize (List.take (rx_an N 2) st).reverse = as at y5 ⊢
          cases as with
          | nil => cases y5
          | cons v t => cases v <;> first | rfl | cases y5
      · next w => first | rfl | simp only [w]
    · rfl
  all_goals rfl
theorem rx_run_psn {cds : List (List Value)} {ms : List rx_M} {lk : rx_Lk} {rt : rx_R} : ∀ (f d w mi pc : Nat) (lv : rx_L) (st : List Value) (h : rx_H) (v : Option Value) (h' : rx_H), rx_run cds ms lk rt f d w mi pc lv st h = some (v, h') → ∀ g : rx_H, rx_le h g → ∃ g' : rx_H, rx_run cds ms lk rt f d w mi pc lv st g = some (v, g') ∧ rx_kp h g h' g'
  | 0, _, _, _, _, _, _, _, _, _, e => by rw [rx_run] at e; cases e
  | f + 1, d, w, mi, pc, lv, st, h, v, h', e => by
    intro g hl
    obtain ⟨M, ins, hM, hf, ⟨hr, rfl⟩ | ⟨j, as, rest, N, d1, v1, h1, rfl, hr, hc, hN, hw, e1, e2⟩ | ⟨pc', lv', st', h1, hr, hc, e1, e2⟩⟩ := rx_run_e2 e
    · exact ⟨g, rx_run_ret hM hf hr, rx_kp.refl hl⟩
    · obtain ⟨g1, a1, a2⟩ := rx_run_psn f _ _ _ _ _ _ _ _ _ e1 g hl
      obtain ⟨g2, b1, b2⟩ := rx_run_psn f _ _ _ _ _ _ _ _ _ e2 g1 a2.1
      exact ⟨g2, by rw [rx_run_call hM hf hr (rx_call_psn hl hc) hN hw a1]; exact b1, a2.trans b2⟩
    · obtain ⟨g1, a1, a2⟩ := rx_op_psn hl e1
      obtain ⟨g2, b1, b2⟩ := rx_run_psn f _ _ _ _ _ _ _ _ _ e2 g1 a2.1
      exact ⟨g2, by rw [rx_run_op hM hf hr (rx_call_psn0 e1 hc) a1]; exact b1, a2.trans b2⟩
/-- a run over cells that it looks at alone -/
theorem rx_T.psn {cds : List (List Value)} {ms : List rx_M} {lk : rx_Lk} {rt : rx_R} {d w mi pc : Nat} {lv : rx_L} {st : List Value} {h g : rx_H} {P : Option Value → rx_H → Prop} (hl : rx_le h g) (k : rx_T cds ms lk rt d w mi pc lv st h P) : rx_T cds ms lk rt d w mi pc lv st g (fun v g' => ∃ h', P v h' ∧ rx_kp h g h' g') := by
  obtain ⟨f, v, h', e, hp⟩ := k
  obtain ⟨g', e2, hk⟩ := rx_run_psn f _ _ _ _ _ _ _ _ _ e g hl
  exact ⟨f, v, g', e2, h', hp, hk⟩
end
section
set_option maxHeartbeats 4000000 in
set_option maxRecDepth 100000 in
/-- no cell more: the same room -/
theorem rx_op_len {cds : List (List Value)} {lk : rx_Lk} {rt : rx_R} {d w : Nat} {M : rx_M} {ins : Instr} {pc pc' : Nat} {lv lv' : rx_L} {st st' : List Value} {h h' : rx_H} (hop : rx_opI cds lk rt d w M ins pc lv st h = some (pc', lv', st', h')) : h.length ≤ h'.length ∧ (h'.length = h.length → rx_sz h' = rx_sz h) := by
  cases ins
  case iconst n =>
    cases rx_nx_e hop
    exact ⟨Nat.le_refl _, fun _ => rfl⟩
  case bipush n =>
    cases rx_nx_e hop
    exact ⟨Nat.le_refl _, fun _ => rfl⟩
  case sipush n =>
    cases rx_nx_e hop
    exact ⟨Nat.le_refl _, fun _ => rfl⟩
  case lconst n =>
    cases rx_nx_e hop
    exact ⟨Nat.le_refl _, fun _ => rfl⟩
  case ldc ix =>
    obtain ⟨v, ho, e⟩ := rx_kc_e hop
    cases e
    exact ⟨Nat.le_refl _, fun _ => rfl⟩
  case ldc_w ix =>
    obtain ⟨v, ho, e⟩ := rx_kc_e hop
    cases e
    exact ⟨Nat.le_refl _, fun _ => rfl⟩
  case ldc2_w ix =>
    obtain ⟨v, ho, e⟩ := rx_kc_e hop
    cases e
    exact ⟨Nat.le_refl _, fun _ => rfl⟩
  case getstatic ix =>
    obtain ⟨v, ho, e⟩ := rx_kc_e hop
    cases e
    exact ⟨Nat.le_refl _, fun _ => rfl⟩
  case iload_n k =>
    obtain ⟨x, hk, e⟩ := rx_li_e hop
    cases e
    exact ⟨Nat.le_refl _, fun _ => rfl⟩
  case iload i =>
    obtain ⟨x, hk, e⟩ := rx_li_e hop
    cases e
    exact ⟨Nat.le_refl _, fun _ => rfl⟩
  case lload_n k =>
    obtain ⟨x, hk, e⟩ := rx_ll_e hop
    cases e
    exact ⟨Nat.le_refl _, fun _ => rfl⟩
  case lload i =>
    obtain ⟨x, hk, e⟩ := rx_ll_e hop
    cases e
    exact ⟨Nat.le_refl _, fun _ => rfl⟩
  case aload_n k =>
    obtain ⟨x, hk, e⟩ := rx_la_e hop
    cases e
    exact ⟨Nat.le_refl _, fun _ => rfl⟩
  case aload i =>
    obtain ⟨x, hk, e⟩ := rx_la_e hop
    cases e
    exact ⟨Nat.le_refl _, fun _ => rfl⟩
  case istore_n k =>
    obtain ⟨x, t, rfl, hi, e⟩ := rx_si_e hop
    cases e
    exact ⟨Nat.le_refl _, fun _ => rfl⟩
  case istore i =>
    obtain ⟨x, t, rfl, hi, e⟩ := rx_si_e hop
    cases e
    exact ⟨Nat.le_refl _, fun _ => rfl⟩
  case lstore_n k =>
    obtain ⟨x, t, rfl, hi, e⟩ := rx_sl_e hop
    cases e
    exact ⟨Nat.le_refl _, fun _ => rfl⟩
  case lstore i =>
    obtain ⟨x, t, rfl, hi, e⟩ := rx_sl_e hop
    cases e
    exact ⟨Nat.le_refl _, fun _ => rfl⟩
  case astore_n k =>
    obtain ⟨x, t, rfl, hi, e⟩ := rx_sa_e hop
    cases e
    exact ⟨Nat.le_refl _, fun _ => rfl⟩
  case astore i =>
    obtain ⟨x, t, rfl, hi, e⟩ := rx_sa_e hop
    cases e
    exact ⟨Nat.le_refl _, fun _ => rfl⟩
  case iinc i n =>
    obtain ⟨x, hk, hi, e⟩ := rx_in_e hop
    cases e
    exact ⟨Nat.le_refl _, fun _ => rfl⟩
  case iadd =>
    obtain ⟨x, y, t, rfl, e⟩ := rx_2i_e hop
    cases e
    exact ⟨Nat.le_refl _, fun _ => rfl⟩
  case isub =>
    obtain ⟨x, y, t, rfl, e⟩ := rx_2i_e hop
    cases e
    exact ⟨Nat.le_refl _, fun _ => rfl⟩
  case imul =>
    obtain ⟨x, y, t, rfl, e⟩ := rx_2i_e hop
    cases e
    exact ⟨Nat.le_refl _, fun _ => rfl⟩
  case iand =>
    obtain ⟨x, y, t, rfl, e⟩ := rx_2i_e hop
    cases e
    exact ⟨Nat.le_refl _, fun _ => rfl⟩
  case ior =>
    obtain ⟨x, y, t, rfl, e⟩ := rx_2i_e hop
    cases e
    exact ⟨Nat.le_refl _, fun _ => rfl⟩
  case ixor =>
    obtain ⟨x, y, t, rfl, e⟩ := rx_2i_e hop
    cases e
    exact ⟨Nat.le_refl _, fun _ => rfl⟩
  case ishl =>
    obtain ⟨x, y, t, rfl, e⟩ := rx_2i_e hop
    cases e
    exact ⟨Nat.le_refl _, fun _ => rfl⟩
  case ishr =>
    obtain ⟨x, y, t, rfl, e⟩ := rx_2i_e hop
    cases e
    exact ⟨Nat.le_refl _, fun _ => rfl⟩
  case iushr =>
    obtain ⟨x, y, t, rfl, e⟩ := rx_2i_e hop
    cases e
    exact ⟨Nat.le_refl _, fun _ => rfl⟩
  case ladd =>
    obtain ⟨x, y, t, rfl, e⟩ := rx_2l_e hop
    cases e
    exact ⟨Nat.le_refl _, fun _ => rfl⟩
  case lsub =>
    obtain ⟨x, y, t, rfl, e⟩ := rx_2l_e hop
    cases e
    exact ⟨Nat.le_refl _, fun _ => rfl⟩
  case lmul =>
    obtain ⟨x, y, t, rfl, e⟩ := rx_2l_e hop
    cases e
    exact ⟨Nat.le_refl _, fun _ => rfl⟩
  case land =>
    obtain ⟨x, y, t, rfl, e⟩ := rx_2l_e hop
    cases e
    exact ⟨Nat.le_refl _, fun _ => rfl⟩
  case lor =>
    obtain ⟨x, y, t, rfl, e⟩ := rx_2l_e hop
    cases e
    exact ⟨Nat.le_refl _, fun _ => rfl⟩
  case lxor =>
    obtain ⟨x, y, t, rfl, e⟩ := rx_2l_e hop
    cases e
    exact ⟨Nat.le_refl _, fun _ => rfl⟩
  case idiv =>
    obtain ⟨x, y, t, rfl, h0, e⟩ := rx_dv_e hop
    cases e
    exact ⟨Nat.le_refl _, fun _ => rfl⟩
  case irem =>
    obtain ⟨x, y, t, rfl, h0, e⟩ := rx_dv_e hop
    cases e
    exact ⟨Nat.le_refl _, fun _ => rfl⟩
  case ldiv =>
    obtain ⟨x, y, t, rfl, h0, e⟩ := rx_dl_e hop
    cases e
    exact ⟨Nat.le_refl _, fun _ => rfl⟩
  case lrem =>
    obtain ⟨x, y, t, rfl, h0, e⟩ := rx_dl_e hop
    cases e
    exact ⟨Nat.le_refl _, fun _ => rfl⟩
  case ineg =>
    obtain ⟨x, t, rfl, e⟩ := rx_1i_e hop
    cases e
    exact ⟨Nat.le_refl _, fun _ => rfl⟩
  case i2l =>
    obtain ⟨x, t, rfl, e⟩ := rx_1i_e hop
    cases e
    exact ⟨Nat.le_refl _, fun _ => rfl⟩
  case lneg =>
    obtain ⟨x, t, rfl, e⟩ := rx_1l_e hop
    cases e
    exact ⟨Nat.le_refl _, fun _ => rfl⟩
  case l2i =>
    obtain ⟨x, t, rfl, e⟩ := rx_1l_e hop
    cases e
    exact ⟨Nat.le_refl _, fun _ => rfl⟩
  case lushr =>
    obtain ⟨x, y, t, rfl, e⟩ := rx_us_e hop
    cases e
    exact ⟨Nat.le_refl _, fun _ => rfl⟩
  case lcmp =>
    obtain ⟨x, y, t, rfl, e⟩ := rx_cm_e hop
    cases e
    exact ⟨Nat.le_refl _, fun _ => rfl⟩
  case dup =>
    obtain ⟨a, t, rfl, h1, e⟩ := rx_d0_e hop
    cases e
    exact ⟨Nat.le_refl _, fun _ => rfl⟩
  case pop =>
    obtain ⟨a, t, rfl, h1, e⟩ := rx_pp_e hop
    cases e
    exact ⟨Nat.le_refl _, fun _ => rfl⟩
  case dup_x1 =>
    obtain ⟨a, b, t, rfl, h1, h2, e⟩ := rx_d1_e hop
    cases e
    exact ⟨Nat.le_refl _, fun _ => rfl⟩
  case dup_x2 =>
    obtain ⟨a, b, d9, t, rfl, h1, h2, h3, e⟩ := rx_d2_e hop
    cases e
    exact ⟨Nat.le_refl _, fun _ => rfl⟩
  case dup2 =>
    obtain ⟨a, b, t, rfl, h1, h2, e⟩ := rx_dd_e hop
    cases e
    exact ⟨Nat.le_refl _, fun _ => rfl⟩
  case ifCond cond off =>
    obtain ⟨x, t, rfl, g, hg, ⟨hc, e⟩ | ⟨hc, e⟩⟩ := rx_b1_e hop
    · cases e; exact ⟨Nat.le_refl _, fun _ => rfl⟩
    · cases e; exact ⟨Nat.le_refl _, fun _ => rfl⟩
  case if_icmp cond off =>
    obtain ⟨x, y, t, rfl, g, hg, ⟨hc, e⟩ | ⟨hc, e⟩⟩ := rx_b2_e hop
    · cases e; exact ⟨Nat.le_refl _, fun _ => rfl⟩
    · cases e; exact ⟨Nat.le_refl _, fun _ => rfl⟩
  case goto off =>
    obtain ⟨g, hg, e⟩ := rx_jp_e hop
    cases e
    exact ⟨Nat.le_refl _, fun _ => rfl⟩
  case tableswitch dflt lo hi offs =>
    obtain ⟨x, t, rfl, ⟨h1, g, hg, e⟩ | ⟨h1, h2, off, g, h3, hg, e⟩⟩ := rx_ts_e hop
    · cases e; exact ⟨Nat.le_refl _, fun _ => rfl⟩
    · cases e; exact ⟨Nat.le_refl _, fun _ => rfl⟩
  case lookupswitch dflt ps =>
    obtain ⟨x, t, rfl, h1, g, hg, e⟩ := rx_ls_e hop
    cases e
    exact ⟨Nat.le_refl _, fun _ => rfl⟩
  case iaload =>
    obtain ⟨i, a, t, q, rfl, h1, h2, e⟩ := rx_ial_e hop
    cases e
    exact ⟨Nat.le_refl _, fun _ => rfl⟩
  case laload =>
    obtain ⟨i, a, t, q, rfl, h1, h2, e⟩ := rx_lal_e hop
    cases e
    exact ⟨Nat.le_refl _, fun _ => rfl⟩
  case baload =>
    obtain ⟨i, a, t, q, rfl, h1, h2, e⟩ := rx_zal_e hop
    cases e
    exact ⟨Nat.le_refl _, fun _ => rfl⟩
  case aaload =>
    obtain ⟨i, a, t, q, k, rfl, h1, h2, h3, e⟩ := rx_qal_e hop
    cases e
    exact ⟨Nat.le_refl _, fun _ => rfl⟩
  case iastore =>
    obtain ⟨x, i, k, t, n, f, rfl, h1, h2, h3, e⟩ := rx_ias_e hop
    cases e
    exact ⟨by rw [List.length_set]; exact Nat.le_refl _, fun _ => rx_sz_set h k _ _ h1 (by rfl)⟩
  case lastore =>
    obtain ⟨x, i, k, t, n, f, rfl, h1, h2, h3, e⟩ := rx_las_e hop
    cases e
    exact ⟨by rw [List.length_set]; exact Nat.le_refl _, fun _ => rx_sz_set h k _ _ h1 (by rfl)⟩
  case bastore =>
    obtain ⟨x, i, k, t, n, f, rfl, h1, h2, h3, e⟩ := rx_zas_e hop
    cases e
    exact ⟨by rw [List.length_set]; exact Nat.le_refl _, fun _ => rx_sz_set h k _ _ h1 (by rfl)⟩
  case arraylength =>
    obtain ⟨a, t, n, rfl, h1, e⟩ := rx_al_e hop
    cases e
    exact ⟨Nat.le_refl _, fun _ => rfl⟩
  case getfield ix =>
    obtain ⟨k, t, q, fs, v, rfl, h1, h2, h3, e⟩ := rx_gf_e hop
    cases e
    exact ⟨Nat.le_refl _, fun _ => rfl⟩
  case putfield ix =>
    obtain ⟨v, k, t, q, fs, rfl, h1, h2, h3, h4, h5, h6, e⟩ := rx_pf_e hop
    cases e
    exact ⟨by rw [List.length_set]; exact Nat.le_refl _, fun _ => rx_sz_set h k _ _ h2 (by simp [rx_sz1])⟩
  case new ix =>
    obtain ⟨ci, fs, h1, h2, e⟩ := rx_nw_e hop
    cases e
    exact ⟨by simp, fun z => absurd z (by simp)⟩
  case newarray a =>
    obtain ⟨q, n, t, h1, rfl, h2, h3, e⟩ := rx_na_e hop
    cases e
    exact ⟨by simp, fun z => absurd z (by simp)⟩
  case multianewarray ix n =>
    obtain ⟨k, n, t, ho, rfl, rfl, hn0, hk0, hn1, hk1, e⟩ := rx_mn_e hop
    cases e
    exact ⟨by simp, fun z => absurd z (by simp)⟩
  case invokespecial ix =>
    obtain ⟨q, h1, h2, h3⟩ := rx_is_e hop
    obtain ⟨a, t, rfl, h4, h5, e⟩ := rx_oi_e h3
    cases e
    exact ⟨Nat.le_refl _, fun _ => rfl⟩
  case invokestatic ix =>
    obtain ⟨q, h1, ⟨h2, h3⟩ | ⟨h2, h3⟩ | ⟨h2, h3⟩⟩ := rx_it_e hop
    · obtain ⟨n, dp, sp, ka, kb, m0, m1, f, g, t, rfl, w1, w2, w3, w4, w5, w6, w7, w8, w9, w10, e⟩ := rx_ac_e h3
      cases e
      exact ⟨by rw [List.length_set]; exact Nat.le_refl _, fun _ => rx_sz_set h ka _ _ w2 (by rfl)⟩
    · obtain ⟨x, y, t, rfl, w1, w2, e⟩ := rx_m4_e h3
      cases e; exact ⟨Nat.le_refl _, fun _ => rfl⟩
    · obtain ⟨x, y, t, rfl, w1, w2, e⟩ := rx_m5_e h3
      cases e; exact ⟨Nat.le_refl _, fun _ => rfl⟩
  all_goals exact absurd hop (fun z => by cases z)
theorem rx_run_len {cds : List (List Value)} {ms : List rx_M} {lk : rx_Lk} {rt : rx_R} : ∀ (f d w mi pc : Nat) (lv : rx_L) (st : List Value) (h : rx_H) (v : Option Value) (h' : rx_H), rx_run cds ms lk rt f d w mi pc lv st h = some (v, h') → h.length ≤ h'.length ∧ (h'.length = h.length → rx_sz h' = rx_sz h)
  | 0, _, _, _, _, _, _, _, _, _, e => by rw [rx_run] at e; cases e
  | f + 1, d, w, mi, pc, lv, st, h, v, h', e => by
    obtain ⟨M, ins, hM, hf, ⟨hr, rfl⟩ | ⟨j, as, rest, N, d1, v1, h1, rfl, hr, hc, hN, hw, e1, e2⟩ | ⟨pc', lv', st', h1, hr, hc, e1, e2⟩⟩ := rx_run_e2 e
    · exact ⟨Nat.le_refl _, fun _ => rfl⟩
    · have a := rx_run_len f _ _ _ _ _ _ _ _ _ e1
      have b := rx_run_len f _ _ _ _ _ _ _ _ _ e2
      exact ⟨Nat.le_trans a.1 b.1, fun z => (b.2 (by omega)).trans (a.2 (by omega))⟩
    · have a := rx_op_len e1
      have b := rx_run_len f _ _ _ _ _ _ _ _ _ e2
      exact ⟨Nat.le_trans a.1 b.1, fun z => (b.2 (by omega)).trans (a.2 (by omega))⟩
theorem rx_run_sz {cds : List (List Value)} {ms : List rx_M} {lk : rx_Lk} {rt : rx_R} (f d w mi pc : Nat) (lv : rx_L) (st : List Value) (h : rx_H) (v : Option Value) (h' : rx_H) (e : rx_run cds ms lk rt f d w mi pc lv st h = some (v, h')) (hl : h'.length = h.length) : rx_sz h' = rx_sz h := (rx_run_len f _ _ _ _ _ _ _ _ _ e).2 hl
end
section
/-! the reference's numberAll: table[k] = NONE for all k (a pattern for loops over rx_T) -/
section RXL
variable {rt : rx_R} {d w : Nat} {P : Option Value → rx_H → Prop}
set_option maxRecDepth 100000 in
set_option maxHeartbeats 4000000 in
theorem rx_fill_table (o t : Nat) (fs : List Value) (hfs : fs[31]? = some (.ref (t + 16))) (hot : o ≠ t) : ∀ (m k : Nat) (h : rx_H) (g : Nat → Int32), k + m = 2048 → h[o]? = some (.inr (5, fs)) → h[t]? = some (.inl (0, 2048, .inl g)) → (∀ j, j < k → g j = -1) →
    (∀ (h' : rx_H) (g' : Nat → Int32), h'[o]? = some (.inr (5, fs)) → h'[t]? = some (.inl (0, 2048, .inl g')) → (∀ q, q ≠ t → h'[q]? = h[q]?) → h'.length = h.length → (∀ j, j < 2048 → g' j = -1) → rx_T rx_cds rx_ms rx_lk0 rt d w 138 22 [(1, .int (nI 2048)), (0, .ref (o + 16))] [] h' P) →
    rx_T rx_cds rx_ms rx_lk0 rt d w 138 2 [(1, .int (nI k)), (0, .ref (o + 16))] [] h P := by
  intro m
  induction m with
  | zero =>
    intro k h g hk ho ht hg K
    have ek : k = 2048 := by omega
    subst ek
    refine rx_T.op (M := rxm_138) (ins := .iload_n 1) rfl rfl rfl rfl rfl ?_
    refine rx_T.op (M := rxm_138) (ins := .sipush 2048) rfl rfl rfl rfl rfl ?_
    refine rx_T.op (M := rxm_138) (ins := .if_icmp .ge 16) rfl rfl rfl rfl (rx_b2_t 22 (by decide +kernel) (by decide)) ?_
    exact K h g ho ht (fun _ _ => rfl) rfl hg
  | succ m ih =>
    intro k h g hk ho ht hg K
    refine rx_T.op (M := rxm_138) (ins := .iload_n 1) rfl rfl rfl rfl rfl ?_
    refine rx_T.op (M := rxm_138) (ins := .sipush 2048) rfl rfl rfl rfl rfl ?_
    refine rx_T.op (M := rxm_138) (ins := .if_icmp .ge 16) rfl rfl rfl rfl (rx_b2_f (decide_eq_false (show ¬ (Int16.ofInt 2048).toInt32 ≤ nI k by rw [show (Int16.ofInt 2048).toInt32 = nI 2048 by decide +kernel]; exact nI_ge (by omega) (by decide))) (by decide)) ?_
    refine rx_T.op (M := rxm_138) (ins := .aload_n 0) rfl rfl rfl rfl rfl ?_
    refine rx_T.op (M := rxm_138) (ins := .getfield 78) rfl rfl rfl rfl (rx_gf_i rfl ho hfs) ?_
    refine rx_T.op (M := rxm_138) (ins := .iload_n 1) rfl rfl rfl rfl rfl ?_
    refine rx_T.op (M := rxm_138) (ins := .iconst (-1)) rfl rfl rfl rfl rfl ?_
    refine rx_T.op (M := rxm_138) (ins := .iastore) rfl rfl rfl rfl (rx_ias_i ht (vp_in_nI (by omega) (by decide))) ?_
    refine rx_T.op (M := rxm_138) (ins := .iinc 1 1) rfl rfl rfl rfl rfl ?_
    refine rx_T.op (M := rxm_138) (ins := .goto (-17)) rfl rfl rfl rfl rfl ?_
    have hlt : t < h.length := (List.getElem?_eq_some_iff.mp ht).1
    have e1 : (nI k).toNatClampNeg = k := nI_clamp (by omega)
    show rx_T rx_cds rx_ms rx_lk0 rt d w 138 2 [(1, .int (nI k + Int32.ofInt 1)), (0, .ref (o + 16))] [] _ P
    rw [show nI k + Int32.ofInt 1 = nI (k + 1) from nI_1 k, e1]
    refine ih (k + 1) _ (upd g k (Int32.ofInt (-1))) (by omega) (by rw [List.getElem?_set_ne (Ne.symm hot)]; exact ho) (List.getElem?_set_self hlt) ?_ ?_
    · intro j hj
      by_cases ej : j = k
      · subst ej
        simp [upd]
      · simp only [upd, if_neg ej]
        exact hg j (by omega)
    · intro h' g' a1 a2 a3 a4 a5
      exact K h' g' a1 a2 (fun q hq => (a3 q hq).trans (List.getElem?_set_ne (Ne.symm hq))) (by rw [a4, List.length_set]) a5
end RXL
end
section
/-- the static tables alone, no script -/
def rx_rt0 : rx_R := fun id => if id = 0 then none else rx_rt 0 (fun _ => 0) id
theorem rx_rt0_in (L : Nat) (xs : Nat → Int32) : ∀ id q, rx_rt0 id = some q → rx_rt L xs id = some q := by
  intro id q h
  unfold rx_rt0 at h
  split at h
  · cases h
  · next h0 =>
    unfold rx_rt at h ⊢
    match id, h0, h with
    | 0, h0, h => exact absurd rfl h0
    | 1, h0, h => exact h
    | 2, h0, h => exact h
    | 3, h0, h => exact h
    | 4, h0, h => exact h
    | _ + 5, h0, h => cases h
/-- both objects are made: the law stands at its loop -/
def rx_s0 : Option rx_N := rx_steps rx_cds rx_ms rx_lk0 rx_rt0 1000 12 468 0 10 (0, [(0, .ref 0)], [], [])
def rx_hp0 : rx_H := rx_hp rx_s0
set_option maxRecDepth 1000000 in
theorem rx_s0_at : rx_s0.map (fun q => (q.1, q.2.1, q.2.2.1)) = some (18, [(3, .int 0), (2, .ref 53), (1, .ref 16), (0, .ref 0)], []) := by decide +kernel
set_option maxRecDepth 1000000 in
theorem rx_hp0_sz : rx_hp0.length ≤ 1000 ∧ rx_sz rx_hp0 ≤ 100000 := by decide +kernel
/-- the law's loop is over: it answers 1 -/
theorem rx_law_end {L : Nat} {xs : Nat → Int32} {d w : Nat} {k : Nat} {a b : Nat} {h : rx_H} (hL : L ≤ 4) (hk : L < k + 4) (hk2 : k ≤ 4) : rx_T rx_cds rx_ms rx_lk0 (rx_rt L xs) d w 0 18 [(3, .int (nI k)), (2, .ref b), (1, .ref a), (0, .ref 0)] [] h (fun v h' => v = some (.int 1) ∧ h' = h) := by
  refine rx_T.op (M := rxm_0) (ins := .iload_n 3) rfl rfl rfl rfl rfl ?_
  refine rx_T.op (M := rxm_0) (ins := .aload_n 0) rfl rfl rfl rfl rfl ?_
  refine rx_T.op (M := rxm_0) (ins := .arraylength) rfl rfl rfl rfl rfl ?_
  refine rx_T.op (M := rxm_0) (ins := .iconst 4) rfl rfl rfl rfl rfl ?_
  refine rx_T.op (M := rxm_0) (ins := .isub) rfl rfl rfl rfl rfl ?_
  have hcmp : Int32.ofNat L - Int32.ofInt 4 < nI k := by
    have h1 : ∀ L, L ≤ 4 → ∀ k, k ≤ 4 → L < k + 4 → Int32.ofNat L - Int32.ofInt 4 < nI k := by decide +kernel
    exact h1 L hL k hk2 hk
  refine rx_T.op (M := rxm_0) (ins := .if_icmp .gt 431) rfl rfl rfl rfl (rx_b2_t 454 (decide_eq_true hcmp) (by decide)) ?_
  refine rx_T.op (M := rxm_0) (ins := .iconst 1) rfl rfl rfl rfl rfl ?_
  exact rx_T.ret (M := rxm_0) (ins := .ireturn) (v := some (.int 1)) rfl rfl rfl ⟨rfl, rfl⟩
end
section
/-- the cells of both fresh objects, written out -/
def rx_lay0 : rx_H := [.inr (0, [.ref 17, .ref 20, .ref 21, .int 0, .int 0, .int 0, .int 0, .int 0]),
  .inr (1, [.ref 18, .ref 19, .int 0]),
  .inl (0, 8, .inl (fun _ => 0)),
  .inl (0, 8, .inl (fun _ => 0)),
  .inl (0, 30, .inl (fun _ => 0)),
  .inr (2, [.ref 17, .ref 20, .ref 51, .ref 22, .ref 46, .ref 47, .ref 48, .ref 49, .ref 50, .int 0, .int 0, .int (-1), .int 0]),
  .inr (3, [.ref 23, .ref 45, .int 0, .int 0]),
  .inl (3, 21, .inr (.inr (.inr (.inr (fun i => if i < 21 then some (8 + 16 + i) else none))))),
  .inl (1, 22, .inr (.inl (fun _ => 0))),
  .inl (1, 22, .inr (.inl (fun _ => 0))),
  .inl (1, 22, .inr (.inl (fun _ => 0))),
  .inl (1, 22, .inr (.inl (fun _ => 0))),
  .inl (1, 22, .inr (.inl (fun _ => 0))),
  .inl (1, 22, .inr (.inl (fun _ => 0))),
  .inl (1, 22, .inr (.inl (fun _ => 0))),
  .inl (1, 22, .inr (.inl (fun _ => 0))),
  .inl (1, 22, .inr (.inl (fun _ => 0))),
  .inl (1, 22, .inr (.inl (fun _ => 0))),
  .inl (1, 22, .inr (.inl (fun _ => 0))),
  .inl (1, 22, .inr (.inl (fun _ => 0))),
  .inl (1, 22, .inr (.inl (fun _ => 0))),
  .inl (1, 22, .inr (.inl (fun _ => 0))),
  .inl (1, 22, .inr (.inl (fun _ => 0))),
  .inl (1, 22, .inr (.inl (fun _ => 0))),
  .inl (1, 22, .inr (.inl (fun _ => 0))),
  .inl (1, 22, .inr (.inl (fun _ => 0))),
  .inl (1, 22, .inr (.inl (fun _ => 0))),
  .inl (1, 22, .inr (.inl (fun _ => 0))),
  .inl (1, 22, .inr (.inl (fun _ => 0))),
  .inl (1, 22, .inr (.inl (fun _ => 0))),
  .inl (0, 21, .inl (fun _ => 0)),
  .inl (0, 21, .inl (fun _ => 0)),
  .inl (0, 21, .inl (fun _ => 0)),
  .inl (0, 256, .inl (fun _ => 0)),
  .inl (0, 679, .inl (fun _ => 0)),
  .inr (4, [.ref 17, .ref 52, .int 0]),
  .inl (0, 679, .inl (fun _ => 0)),
  .inr (5, [.int 0, .int 0, .ref 54, .ref 55, .ref 56, .int 0, .int 0, .ref 57, .ref 58, .ref 59, .ref 60, .ref 61, .int 0, .int 0, .ref 62, .ref 63, .ref 64, .int 0, .ref 65, .int 0, .int 0, .ref 66, .ref 67, .ref 68, .ref 69, .ref 70, .ref 71, .ref 72, .ref 73, .ref 74, .ref 75, .ref 76, .int 0, .int 0]),
  .inl (0, 12, .inl (fun _ => 0)),
  .inl (0, 12, .inl (fun _ => 0)),
  .inl (0, 8, .inl (fun _ => 0)),
  .inl (0, 40, .inl (fun _ => 0)),
  .inl (0, 320, .inl (fun _ => 0)),
  .inl (2, 40, .inl (fun _ => 0)),
  .inl (2, 40, .inl (fun _ => 0)),
  .inl (0, 40, .inl (fun _ => 0)),
  .inl (0, 144, .inl (fun _ => 0)),
  .inl (0, 1728, .inl (fun _ => 0)),
  .inl (0, 144, .inl (fun _ => 0)),
  .inl (0, 144, .inl (fun _ => 0)),
  .inl (1, 484, .inr (.inl (fun _ => 0))),
  .inl (2, 22, .inl (fun _ => 0)),
  .inl (1, 22, .inr (.inl (fun _ => 0))),
  .inl (1, 22, .inr (.inl (fun _ => 0))),
  .inl (1, 484, .inr (.inl (fun _ => 0))),
  .inl (2, 22, .inl (fun _ => 0)),
  .inl (0, 144, .inl (fun _ => 0)),
  .inl (0, 22, .inl (fun _ => 0)),
  .inl (1, 10000, .inr (.inl (fun _ => 0))),
  .inl (0, 441, .inl (fun _ => 0)),
  .inl (0, 2048, .inl (fun _ => 0))]
set_option maxRecDepth 1000000 in
set_option maxHeartbeats 4000000 in
theorem rx_hp0_eq : rx_hp0 = rx_lay0 := by rfl
end
section
section RXP1
variable {rt : rx_R} {d w : Nat}
set_option maxRecDepth 1000000 in
set_option maxHeartbeats 4000000 in
/-- Figure.has on the fresh figure: no -/
theorem rx_p1_has (p : Int32) : rx_T rx_cds rx_ms rx_lk0 rt d w 11 0 [(0, .ref 17), (1, .int p)] [] rx_lay0 (fun v h' => v = some (.int 0) ∧ h' = rx_lay0) := by
  refine rx_T.to 1 1 [(0, .ref 17), (1, .int p)] [.int p] rx_lay0 rfl ?_
  refine rx_T.br1 (M := rxm_11) 16 rfl rfl (by decide) (fun _ => ?_) (fun h1 => ?_)
  · refine rx_T.to 1 17 [(0, .ref 17), (1, .int p)] [.int 0] rx_lay0 rfl ?_
    exact rx_T.ret (M := rxm_11) rfl rfl rfl ⟨rfl, rfl⟩
  · refine rx_T.to 3 9 [(0, .ref 17), (1, .int p)] [.int 0, .int p] rx_lay0 rfl ?_
    refine rx_T.br2 (M := rxm_11) 16 rfl rfl (by decide) (fun _ => ?_) (fun h2 => ?_)
    · refine rx_T.to 1 17 [(0, .ref 17), (1, .int p)] [.int 0] rx_lay0 rfl ?_
      exact rx_T.ret (M := rxm_11) rfl rfl rfl ⟨rfl, rfl⟩
    · have a1 := of_decide_eq_false h1
      have a2 := of_decide_eq_false h2
      exact absurd (Int32.not_lt.mp a1) a2
set_option maxRecDepth 1000000 in
set_option maxHeartbeats 4000000 in
/-- AngleChains.of on the fresh object: NONE -/
theorem rx_p1_of_x (p : Int32) (hw : 40 ≤ w) : rx_T rx_cds rx_ms rx_lk0 rt (d + 1) w 10 0 [(0, .ref 16), (1, .int p)] [] rx_lay0 (fun v h' => v = some (.int (-1)) ∧ h' = rx_lay0) := by
  refine rx_T.to 3 5 [(0, .ref 16), (1, .int p)] [.int p, .ref 17] rx_lay0 rfl ?_
  refine rx_T.call (M := rxm_10) (N := rxm_11) (j := 11) (as := [.ref 17, .int p]) (rest := []) rfl rfl rfl rfl rfl (show 19 + 2 ≤ w by omega) (rx_p1_has p) ?_
  intro v1 h1 hp
  obtain ⟨rfl, rfl⟩ := hp
  refine rx_T.to 2 21 [(0, .ref 16), (1, .int p)] [.int (-1)] rx_lay0 rfl ?_
  exact rx_T.ret (M := rxm_10) rfl rfl rfl ⟨rfl, rfl⟩
end RXP1
end
section
section RXP2
variable {rt : rx_R} {d w : Nat}
set_option maxRecDepth 1000000 in
set_option maxHeartbeats 4000000 in
/-- AngleChainsModel.of on the fresh object: NONE -/
theorem rx_p1_of_m (p : Int32) : rx_T rx_cds rx_ms rx_lk0 rt d w 98 0 [(0, .ref 53), (1, .int p)] [] rx_lay0 (fun v h' => v = some (.int (-1)) ∧ h' = rx_lay0) := by
  refine rx_T.to 4 6 [(0, .ref 53), (1, .int p)] [.int p] rx_lay0 rfl ?_
  refine rx_T.br1 (M := rxm_98) 26 rfl rfl (by decide) (fun _ => ?_) (fun h1 => ?_)
  · refine rx_T.to 1 27 [(0, .ref 53), (1, .int p)] [.int (-1)] rx_lay0 rfl ?_
    exact rx_T.ret (M := rxm_98) rfl rfl rfl ⟨rfl, rfl⟩
  · refine rx_T.to 3 14 [(0, .ref 53), (1, .int p)] [.int 0, .int p] rx_lay0 rfl ?_
    refine rx_T.br2 (M := rxm_98) 26 rfl rfl (by decide) (fun _ => ?_) (fun h2 => ?_)
    · refine rx_T.to 1 27 [(0, .ref 53), (1, .int p)] [.int (-1)] rx_lay0 rfl ?_
      exact rx_T.ret (M := rxm_98) rfl rfl rfl ⟨rfl, rfl⟩
    · exact absurd (Int32.not_lt.mp (of_decide_eq_false h1)) (of_decide_eq_false h2)
set_option maxRecDepth 1000000 in
set_option maxHeartbeats 4000000 in
/-- one of(p) on fresh objects: the law answers 1 -/
theorem rx_p1_op1 (xs : Nat → Int32) (h0 : xs 0 &&& 15 = 1) : rx_T rx_cds rx_ms rx_lk0 (rx_rt 4 xs) 12 468 0 18 [(3, .int (nI 0)), (2, .ref 53), (1, .ref 16), (0, .ref 0)] [] rx_lay0 (fun v h' => v = some (.int 1) ∧ h' = rx_lay0) := by
  refine rx_T.to 5 23 [(3, .int (nI 0)), (2, .ref 53), (1, .ref 16), (0, .ref 0)] [.int (Int32.ofNat 4 - Int32.ofInt 4), .int (nI 0)] rx_lay0 rfl ?_
  refine rx_T.op (M := rxm_0) (ins := .if_icmp .gt 431) rfl rfl rfl rfl (rx_b2_f (by decide +kernel) (by decide)) ?_
  refine rx_T.to 2 28 [(3, .int (nI 0)), (2, .ref 53), (1, .ref 16), (0, .ref 0)] [.int (nI 0), .ref 0] rx_lay0 rfl ?_
  refine rx_T.iald (M := rxm_0) (n := 4) (f := xs) rfl rfl rfl (vp_in_nI (by decide) (by decide)) ?_
  refine rx_T.to 2 32 [(3, .int (nI 0)), (2, .ref 53), (1, .ref 16), (0, .ref 0)] [.int (xs (nI 0).toNatClampNeg &&& (Int8.ofInt 15).toInt32)] rx_lay0 rfl ?_
  rw [show (nI 0).toNatClampNeg = 0 by decide +kernel, show (Int8.ofInt 15).toInt32 = 15 by decide +kernel, h0]
  refine rx_T.tsw (M := rxm_0) 97 129 rfl rfl (by decide +kernel) (by decide +kernel) (by decide) ?_
  refine rx_T.to 5 134 [(3, .int (nI 0)), (2, .ref 53), (1, .ref 16), (0, .ref 0)] [.int (nI 0 + Int32.ofInt 1), .ref 0, .ref 16] rx_lay0 rfl ?_
  refine rx_T.iald (M := rxm_0) (n := 4) (f := xs) rfl rfl rfl (by rw [show nI 0 + Int32.ofInt 1 = nI 1 from nI_1 0]; exact vp_in_nI (by decide) (by decide)) ?_
  rw [show (nI 0 + Int32.ofInt 1).toNatClampNeg = 1 by decide +kernel]
  refine rx_T.call (M := rxm_0) (N := rxm_10) (j := 10) (as := [.ref 16, .int (xs 1)]) (rest := []) rfl rfl rfl rfl rfl (by decide) (rx_p1_of_x (xs 1) (by decide)) ?_
  intro v1 h1 hp
  obtain ⟨rfl, rfl⟩ := hp
  refine rx_T.to 5 143 [(3, .int (nI 0)), (2, .ref 53), (1, .ref 16), (0, .ref 0)] [.int (nI 0 + Int32.ofInt 1), .ref 0, .ref 53, .int (-1)] rx_lay0 rfl ?_
  refine rx_T.iald (M := rxm_0) (n := 4) (f := xs) rfl rfl rfl (by rw [show nI 0 + Int32.ofInt 1 = nI 1 from nI_1 0]; exact vp_in_nI (by decide) (by decide)) ?_
  rw [show (nI 0 + Int32.ofInt 1).toNatClampNeg = 1 by decide +kernel]
  refine rx_T.call (M := rxm_0) (N := rxm_98) (j := 98) (as := [.ref 53, .int (xs 1)]) (rest := [.int (-1)]) rfl rfl rfl rfl rfl (by decide) (rx_p1_of_m (xs 1)) ?_
  intro v1 h1 hp
  obtain ⟨rfl, rfl⟩ := hp
  refine rx_T.to 3 18 [(3, .int (nI 4)), (2, .ref 53), (1, .ref 16), (0, .ref 0)] [] rx_lay0 rfl ?_
  exact rx_law_end (Nat.le_refl 4) (by decide) (Nat.le_refl 4)
end RXP2
end
section
section RXP3
variable {rt : rx_R} {d w : Nat}
abbrev rx_k1 : Int32 := (Int16.ofInt (-1000)).toInt32
abbrev rx_k2 : Int32 := (Int16.ofInt 1000).toInt32
theorem rx_T.tsd {cds : List (List Value)} {ms : List rx_M} {lk : rx_Lk} {rt : rx_R} {d w mi pc : Nat} {lv : rx_L} {r : List Value} {h : rx_H} {P : Option Value → rx_H → Prop} {M : rx_M} {dflt lo hi : Int} {offs : Array Int} {x : Int32} (g : Nat) (hM : ms[mi]? = some M) (hf : rx_f2 (rx_Mt M) pc = some (.tableswitch dflt lo hi offs)) (h1 : x.toInt < lo ∨ hi < x.toInt) (hg : (pc : Int) + dflt = (g : Int)) (k : rx_T cds ms lk rt d w mi g lv r h P) : rx_T cds ms lk rt d w mi pc lv (.int x :: r) h P := rx_T.op hM hf rfl rfl (rx_tsd_i h1 hg) k
theorem rx_in7 {k : Int32} (h1 : ¬ k < 0) (h2 : ¬ Int32.ofNat 7 ≤ k) : vp_in k 7 := by
  have a1 : ¬ k.toInt < 0 := fun q => h1 (Int32.lt_iff_toInt_lt.mpr q)
  have a2 : ¬ (7 : Int) ≤ k.toInt := fun q => h2 (Int32.le_iff_toInt_le.mpr q)
  intro q
  rcases q with q | q
  · exact h1 q
  · have : k.toNatClampNeg = k.toInt.toNat := rfl
    omega
theorem rx_s1v_ne : ∀ j : Nat, j < 7 → ¬ (0 : Int32) = rx_s1v.getD j 0 := by decide +kernel
theorem rx_vp_lt {k : Int32} {n : Nat} (h : vp_in k n) : k.toNatClampNeg < n := Nat.lt_of_not_le (fun q => h (Or.inr q))
set_option maxRecDepth 1000000 in
set_option maxHeartbeats 8000000 in
theorem rx_p1_take (k : Int32) (hrt : rt 1 = some (7, fun j => rx_s1v.getD j 0)) : rx_T rx_cds rx_ms rx_lk0 rt d w 13 0 [(0, .ref 16), (1, .int k)] [] rx_lay0 (fun v h' => v = some (.int (-1)) ∧ h' = rx_lay0) := by
  refine rx_T.to 13 21 [(3, .int 0), (2, .int 0), (0, .ref 16), (1, .int k)] [.int k] rx_lay0 rfl ?_
  refine rx_T.br1 (M := rxm_13) 41 rfl rfl (by decide) (fun _ => ?_) (fun h1 => ?_)
  · refine rx_T.to 1 42 [(3, .int 0), (2, .int 0), (0, .ref 16), (1, .int k)] [.int (-1)] rx_lay0 rfl ?_
    exact rx_T.ret (M := rxm_13) rfl rfl rfl ⟨rfl, rfl⟩
  · refine rx_T.to 2 28 [(3, .int 0), (2, .int 0), (0, .ref 16), (1, .int k)] [.ref 1, .int k] rx_lay0 rfl ?_
    refine rx_T.op (M := rxm_13) (ins := .arraylength) rfl rfl rfl rfl (show rx_al rt 28 [(3, .int 0), (2, .int 0), (0, .ref 16), (1, .int k)] [.ref 1, .int k] rx_lay0 = some (29, [(3, .int 0), (2, .int 0), (0, .ref 16), (1, .int k)], [.int (Int32.ofNat 7), .int k], rx_lay0) by unfold rx_al rx_aln; simp only [hrt]; rfl) ?_
    refine rx_T.br2 (M := rxm_13) 41 rfl rfl (by decide) (fun _ => ?_) (fun h2 => ?_)
    · refine rx_T.to 1 42 [(3, .int 0), (2, .int 0), (0, .ref 16), (1, .int k)] [.int (-1)] rx_lay0 rfl ?_
      exact rx_T.ret (M := rxm_13) rfl rfl rfl ⟨rfl, rfl⟩
    · refine rx_T.to 3 37 [(3, .int 0), (2, .int 0), (0, .ref 16), (1, .int k)] [.int k, .ref 1, .int 0] rx_lay0 rfl ?_
      have hin := rx_in7 (of_decide_eq_false h1) (of_decide_eq_false h2)
      refine rx_T.iald (M := rxm_13) (n := 7) (f := fun j => rx_s1v.getD j 0) rfl rfl (by unfold rx_ri; rw [if_pos (by decide)]; exact hrt) hin ?_
      refine rx_T.br2 (M := rxm_13) 43 rfl rfl (by decide) (fun h3 => absurd (of_decide_eq_true h3) (rx_s1v_ne _ (rx_vp_lt hin))) (fun _ => ?_)
      refine rx_T.to 1 42 [(3, .int 0), (2, .int 0), (0, .ref 16), (1, .int k)] [.int (-1)] rx_lay0 rfl ?_
      exact rx_T.ret (M := rxm_13) rfl rfl rfl ⟨rfl, rfl⟩
set_option maxRecDepth 1000000 in
set_option maxHeartbeats 8000000 in
theorem rx_p1_isTrue_x (k : Int32) (hrt : rt 1 = some (7, fun j => rx_s1v.getD j 0)) (hw : 60 ≤ w) : rx_T rx_cds rx_ms rx_lk0 rt (d + 1) w 12 0 [(0, .ref 16), (1, .int k)] [] rx_lay0 (fun v h' => v = some (.int (-1)) ∧ h' = rx_lay0) := by
  refine rx_T.to 2 2 [(0, .ref 16), (1, .int k)] [.int k, .ref 16] rx_lay0 rfl ?_
  refine rx_T.call (M := rxm_12) (N := rxm_13) (j := 13) (as := [.ref 16, .int k]) (rest := []) rfl rfl rfl rfl rfl (show 19 + 6 ≤ w by omega) (rx_p1_take k hrt) ?_
  intro v1 h1 hp
  obtain ⟨rfl, rfl⟩ := hp
  refine rx_T.to 5 12 [(2, .int (-1)), (0, .ref 16), (1, .int k)] [.int (-1)] rx_lay0 rfl ?_
  exact rx_T.ret (M := rxm_12) rfl rfl rfl ⟨rfl, rfl⟩
set_option maxRecDepth 1000000 in
set_option maxHeartbeats 8000000 in
theorem rx_p1_fact_x (k : Int32) (hrt : rt 1 = some (7, fun j => rx_s1v.getD j 0)) (hw : 60 ≤ w) : rx_T rx_cds rx_ms rx_lk0 rt (d + 1) w 27 0 [(0, .ref 16), (1, .int k)] [] rx_lay0 (fun v h' => v = some (.int (-1)) ∧ h' = rx_lay0) := by
  refine rx_T.to 2 2 [(0, .ref 16), (1, .int k)] [.int k, .ref 16] rx_lay0 rfl ?_
  refine rx_T.call (M := rxm_27) (N := rxm_13) (j := 13) (as := [.ref 16, .int k]) (rest := []) rfl rfl rfl rfl rfl (show 19 + 6 ≤ w by omega) (rx_p1_take k hrt) ?_
  intro v1 h1 hp
  obtain ⟨rfl, rfl⟩ := hp
  refine rx_T.to 5 21 [(2, .int (-1)), (0, .ref 16), (1, .int k)] [.int (-1)] rx_lay0 rfl ?_
  exact rx_T.ret (M := rxm_27) rfl rfl rfl ⟨rfl, rfl⟩
set_option maxRecDepth 1000000 in
set_option maxHeartbeats 8000000 in
theorem rx_p1_follows_x (k : Int32) (hrt : rt 1 = some (7, fun j => rx_s1v.getD j 0)) (hw : 60 ≤ w) : rx_T rx_cds rx_ms rx_lk0 rt (d + 1) w 29 0 [(0, .ref 16), (1, .int k)] [] rx_lay0 (fun v h' => v = some (.int (-1)) ∧ h' = rx_lay0) := by
  refine rx_T.to 2 2 [(0, .ref 16), (1, .int k)] [.int k, .ref 16] rx_lay0 rfl ?_
  refine rx_T.call (M := rxm_29) (N := rxm_13) (j := 13) (as := [.ref 16, .int k]) (rest := []) rfl rfl rfl rfl rfl (show 19 + 6 ≤ w by omega) (rx_p1_take k hrt) ?_
  intro v1 h1 hp
  obtain ⟨rfl, rfl⟩ := hp
  refine rx_T.to 5 12 [(2, .int (-1)), (0, .ref 16), (1, .int k)] [.int (-1)] rx_lay0 rfl ?_
  exact rx_T.ret (M := rxm_29) rfl rfl rfl ⟨rfl, rfl⟩
set_option maxRecDepth 1000000 in
set_option maxHeartbeats 8000000 in
theorem rx_p1_needs_x (k : Int32) (hrt : rt 1 = some (7, fun j => rx_s1v.getD j 0)) (hw : 60 ≤ w) : rx_T rx_cds rx_ms rx_lk0 rt (d + 1) w 81 0 [(0, .ref 16), (1, .int k)] [] rx_lay0 (fun v h' => v = some (.int (-1)) ∧ h' = rx_lay0) := by
  refine rx_T.to 2 2 [(0, .ref 16), (1, .int k)] [.int k, .ref 16] rx_lay0 rfl ?_
  refine rx_T.call (M := rxm_81) (N := rxm_13) (j := 13) (as := [.ref 16, .int k]) (rest := []) rfl rfl rfl rfl rfl (show 19 + 6 ≤ w by omega) (rx_p1_take k hrt) ?_
  intro v1 h1 hp
  obtain ⟨rfl, rfl⟩ := hp
  refine rx_T.to 5 12 [(2, .int (-1)), (0, .ref 16), (1, .int k)] [.int (-1)] rx_lay0 rfl ?_
  exact rx_T.ret (M := rxm_81) rfl rfl rfl ⟨rfl, rfl⟩
set_option maxRecDepth 1000000 in
set_option maxHeartbeats 8000000 in
theorem rx_p1_turn_x (a b : Int32) : rx_T rx_cds rx_ms rx_lk0 rt d w 28 0 [(0, .ref 16), (1, .int a), (2, .int b)] [] rx_lay0 (fun v h' => v = some (.int (0)) ∧ h' = rx_lay0) := by
  refine rx_T.to 1 1 [(0, .ref 16), (1, .int a), (2, .int b)] [.int a] rx_lay0 rfl ?_
  refine rx_T.br1 (M := rxm_28) 12 rfl rfl (by decide) (fun _ => ?_) (fun h1 => ?_)
  · refine rx_T.to 1 13 [(0, .ref 16), (1, .int a), (2, .int b)] [.int 0] rx_lay0 rfl ?_
    exact rx_T.ret (M := rxm_28) rfl rfl rfl ⟨rfl, rfl⟩
  · refine rx_T.to 3 9 [(0, .ref 16), (1, .int a), (2, .int b)] [.int 0, .int a] rx_lay0 rfl ?_
    refine rx_T.br2 (M := rxm_28) 14 rfl rfl (by decide) (fun h2 => absurd (of_decide_eq_true h2) (of_decide_eq_false h1)) (fun _ => ?_)
    refine rx_T.to 1 13 [(0, .ref 16), (1, .int a), (2, .int b)] [.int 0] rx_lay0 rfl ?_
    exact rx_T.ret (M := rxm_28) rfl rfl rfl ⟨rfl, rfl⟩
set_option maxRecDepth 1000000 in
set_option maxHeartbeats 8000000 in
theorem rx_p1_need_x (k : Int32) : rx_T rx_cds rx_ms rx_lk0 rt d w 82 0 [(0, .ref 16), (1, .int k)] [] rx_lay0 (fun v h' => v = some (.int (-1)) ∧ h' = rx_lay0) := by
  refine rx_T.to 4 4 [(3, .int 0), (2, .int 0), (0, .ref 16), (1, .int k)] [] rx_lay0 rfl ?_
  refine rx_T.to 12 4 [(3, .int 1), (2, .int 0), (0, .ref 16), (1, .int k)] [] rx_lay0 rfl ?_
  refine rx_T.to 12 4 [(3, .int 2), (2, .int 0), (0, .ref 16), (1, .int k)] [] rx_lay0 rfl ?_
  refine rx_T.to 12 4 [(3, .int 3), (2, .int 0), (0, .ref 16), (1, .int k)] [] rx_lay0 rfl ?_
  refine rx_T.to 12 4 [(3, .int 4), (2, .int 0), (0, .ref 16), (1, .int k)] [] rx_lay0 rfl ?_
  refine rx_T.to 12 4 [(3, .int 5), (2, .int 0), (0, .ref 16), (1, .int k)] [] rx_lay0 rfl ?_
  refine rx_T.to 12 4 [(3, .int 6), (2, .int 0), (0, .ref 16), (1, .int k)] [] rx_lay0 rfl ?_
  refine rx_T.to 12 4 [(3, .int 7), (2, .int 0), (0, .ref 16), (1, .int k)] [] rx_lay0 rfl ?_
  refine rx_T.to 12 4 [(3, .int 8), (2, .int 0), (0, .ref 16), (1, .int k)] [] rx_lay0 rfl ?_
  refine rx_T.to 12 4 [(3, .int 9), (2, .int 0), (0, .ref 16), (1, .int k)] [] rx_lay0 rfl ?_
  refine rx_T.to 12 4 [(3, .int 10), (2, .int 0), (0, .ref 16), (1, .int k)] [] rx_lay0 rfl ?_
  refine rx_T.to 12 4 [(3, .int 11), (2, .int 0), (0, .ref 16), (1, .int k)] [] rx_lay0 rfl ?_
  refine rx_T.to 12 4 [(3, .int 12), (2, .int 0), (0, .ref 16), (1, .int k)] [] rx_lay0 rfl ?_
  refine rx_T.to 12 4 [(3, .int 13), (2, .int 0), (0, .ref 16), (1, .int k)] [] rx_lay0 rfl ?_
  refine rx_T.to 12 4 [(3, .int 14), (2, .int 0), (0, .ref 16), (1, .int k)] [] rx_lay0 rfl ?_
  refine rx_T.to 12 4 [(3, .int 15), (2, .int 0), (0, .ref 16), (1, .int k)] [] rx_lay0 rfl ?_
  refine rx_T.to 12 4 [(3, .int 16), (2, .int 0), (0, .ref 16), (1, .int k)] [] rx_lay0 rfl ?_
  refine rx_T.to 12 4 [(3, .int 17), (2, .int 0), (0, .ref 16), (1, .int k)] [] rx_lay0 rfl ?_
  refine rx_T.to 12 4 [(3, .int 18), (2, .int 0), (0, .ref 16), (1, .int k)] [] rx_lay0 rfl ?_
  refine rx_T.to 12 4 [(3, .int 19), (2, .int 0), (0, .ref 16), (1, .int k)] [] rx_lay0 rfl ?_
  refine rx_T.to 12 4 [(3, .int 20), (2, .int 0), (0, .ref 16), (1, .int k)] [] rx_lay0 rfl ?_
  refine rx_T.to 12 4 [(3, .int 21), (2, .int 0), (0, .ref 16), (1, .int k)] [] rx_lay0 rfl ?_
  refine rx_T.to 12 4 [(3, .int 22), (2, .int 0), (0, .ref 16), (1, .int k)] [] rx_lay0 rfl ?_
  refine rx_T.to 12 4 [(3, .int 23), (2, .int 0), (0, .ref 16), (1, .int k)] [] rx_lay0 rfl ?_
  refine rx_T.to 12 4 [(3, .int 24), (2, .int 0), (0, .ref 16), (1, .int k)] [] rx_lay0 rfl ?_
  refine rx_T.to 12 4 [(3, .int 25), (2, .int 0), (0, .ref 16), (1, .int k)] [] rx_lay0 rfl ?_
  refine rx_T.to 12 4 [(3, .int 26), (2, .int 0), (0, .ref 16), (1, .int k)] [] rx_lay0 rfl ?_
  refine rx_T.to 12 4 [(3, .int 27), (2, .int 0), (0, .ref 16), (1, .int k)] [] rx_lay0 rfl ?_
  refine rx_T.to 12 4 [(3, .int 28), (2, .int 0), (0, .ref 16), (1, .int k)] [] rx_lay0 rfl ?_
  refine rx_T.to 12 4 [(3, .int 29), (2, .int 0), (0, .ref 16), (1, .int k)] [] rx_lay0 rfl ?_
  refine rx_T.to 12 4 [(3, .int 30), (2, .int 0), (0, .ref 16), (1, .int k)] [] rx_lay0 rfl ?_
  refine rx_T.to 4 38 [(3, .int 30), (2, .int 0), (0, .ref 16), (1, .int k)] [.int (-1)] rx_lay0 rfl ?_
  exact rx_T.ret (M := rxm_82) rfl rfl rfl ⟨rfl, rfl⟩
set_option maxRecDepth 1000000 in
set_option maxHeartbeats 8000000 in
theorem rx_p1_line_x (a b : Int32) (hw : 60 ≤ w) : rx_T rx_cds rx_ms rx_lk0 rt (d + 1) w 83 0 [(0, .ref 16), (1, .int a), (2, .int b)] [] rx_lay0 (fun v h' => v = some (.int (0)) ∧ h' = rx_lay0) := by
  refine rx_T.to 3 5 [(0, .ref 16), (1, .int a), (2, .int b)] [.int a, .ref 17] rx_lay0 rfl ?_
  refine rx_T.call (M := rxm_83) (N := rxm_11) (j := 11) (as := [.ref 17, .int a]) (rest := []) rfl rfl rfl rfl rfl (show 19 + 2 ≤ w by omega) (rx_p1_has a) ?_
  intro v1 h1 hp
  obtain ⟨rfl, rfl⟩ := hp
  refine rx_T.to 2 28 [(0, .ref 16), (1, .int a), (2, .int b)] [.int (0)] rx_lay0 rfl ?_
  exact rx_T.ret (M := rxm_83) rfl rfl rfl ⟨rfl, rfl⟩
set_option maxRecDepth 1000000 in
set_option maxHeartbeats 8000000 in
theorem rx_p1_circle_x (a b c : Int32) (hw : 60 ≤ w) : rx_T rx_cds rx_ms rx_lk0 rt (d + 1) w 85 0 [(0, .ref 16), (1, .int a), (2, .int b), (3, .int c)] [] rx_lay0 (fun v h' => v = some (.int (0)) ∧ h' = rx_lay0) := by
  refine rx_T.to 3 5 [(0, .ref 16), (1, .int a), (2, .int b), (3, .int c)] [.int a, .ref 17] rx_lay0 rfl ?_
  refine rx_T.call (M := rxm_85) (N := rxm_11) (j := 11) (as := [.ref 17, .int a]) (rest := []) rfl rfl rfl rfl rfl (show 19 + 2 ≤ w by omega) (rx_p1_has a) ?_
  intro v1 h1 hp
  obtain ⟨rfl, rfl⟩ := hp
  refine rx_T.to 2 34 [(0, .ref 16), (1, .int a), (2, .int b), (3, .int c)] [.int (0)] rx_lay0 rfl ?_
  exact rx_T.ret (M := rxm_85) rfl rfl rfl ⟨rfl, rfl⟩
set_option maxRecDepth 1000000 in
set_option maxHeartbeats 8000000 in
theorem rx_p1_length_x (a b : Int32) (hw : 60 ≤ w) : rx_T rx_cds rx_ms rx_lk0 rt (d + 1) w 87 0 [(0, .ref 16), (1, .int a), (2, .int b)] [] rx_lay0 (fun v h' => v = some (.int (-1)) ∧ h' = rx_lay0) := by
  refine rx_T.to 3 5 [(0, .ref 16), (1, .int a), (2, .int b)] [.int a, .ref 17] rx_lay0 rfl ?_
  refine rx_T.call (M := rxm_87) (N := rxm_11) (j := 11) (as := [.ref 17, .int a]) (rest := []) rfl rfl rfl rfl rfl (show 19 + 2 ≤ w by omega) (rx_p1_has a) ?_
  intro v1 h1 hp
  obtain ⟨rfl, rfl⟩ := hp
  refine rx_T.to 2 28 [(0, .ref 16), (1, .int a), (2, .int b)] [.int (-1)] rx_lay0 rfl ?_
  exact rx_T.ret (M := rxm_87) rfl rfl rfl ⟨rfl, rfl⟩
set_option maxRecDepth 1000000 in
set_option maxHeartbeats 8000000 in
theorem rx_p1_co (x : Int32) (h : rx_H) : rx_T rx_cds rx_ms rx_lk0 rt d w 8 0 [(0, .int x)] [] h (fun v h' => (((¬ x < rx_k1 ∧ ¬ rx_k2 < x) ∧ v = some (.int 1)) ∨ (¬ (¬ x < rx_k1 ∧ ¬ rx_k2 < x) ∧ v = some (.int 0))) ∧ h' = h) := by
  refine rx_T.to 2 4 [(0, .int x)] [.int rx_k1, .int x] h rfl ?_
  refine rx_T.br2 (M := rxm_8) 18 rfl rfl (by decide) (fun h1 => ?_) (fun h1 => ?_)
  · refine rx_T.to 1 19 [(0, .int x)] [.int 0] h rfl ?_
    exact rx_T.ret (M := rxm_8) rfl rfl rfl ⟨Or.inr ⟨fun q => q.1 (of_decide_eq_true h1), rfl⟩, rfl⟩
  · refine rx_T.to 2 11 [(0, .int x)] [.int rx_k2, .int x] h rfl ?_
    refine rx_T.br2 (M := rxm_8) 18 rfl rfl (by decide) (fun h2 => ?_) (fun h2 => ?_)
    · refine rx_T.to 1 19 [(0, .int x)] [.int 0] h rfl ?_
      exact rx_T.ret (M := rxm_8) rfl rfl rfl ⟨Or.inr ⟨fun q => q.2 (of_decide_eq_true h2), rfl⟩, rfl⟩
    · refine rx_T.to 2 19 [(0, .int x)] [.int 1] h rfl ?_
      exact rx_T.ret (M := rxm_8) rfl rfl rfl ⟨Or.inl ⟨⟨of_decide_eq_false h1, of_decide_eq_false h2⟩, rfl⟩, rfl⟩
def rx_inr (x y : Int32) : Prop := (¬ x < rx_k1 ∧ ¬ rx_k2 < x) ∧ (¬ y < rx_k1 ∧ ¬ rx_k2 < y)
set_option maxRecDepth 1000000 in
set_option maxHeartbeats 8000000 in
theorem rx_p1_room (x y : Int32) (hw : 30 ≤ w) : rx_T rx_cds rx_ms rx_lk0 rt (d + 1) w 7 0 [(0, .ref 17), (1, .int x), (2, .int y)] [] rx_lay0 (fun v h' => ((rx_inr x y ∧ v = some (.int 1)) ∨ (¬ rx_inr x y ∧ v = some (.int 0))) ∧ h' = rx_lay0) := by
  refine rx_T.to 3 6 [(0, .ref 17), (1, .int x), (2, .int y)] [.int (Int8.ofInt 7).toInt32, .int 0] rx_lay0 rfl ?_
  refine rx_T.op (M := rxm_7) (ins := .if_icmp .ge 17) rfl rfl rfl rfl (rx_b2_f (by decide +kernel) (by decide)) ?_
  refine rx_T.to 1 10 [(0, .ref 17), (1, .int x), (2, .int y)] [.int x] rx_lay0 rfl ?_
  refine rx_T.call (M := rxm_7) (N := rxm_8) (j := 8) (as := [.int x]) (rest := []) rfl rfl rfl rfl rfl (show 19 + 1 ≤ w by omega) (rx_p1_co x rx_lay0) ?_
  intro v1 h1 hp
  obtain ⟨⟨hx, rfl⟩ | ⟨hx, rfl⟩, rfl⟩ := hp
  · refine rx_T.to 2 17 [(0, .ref 17), (1, .int x), (2, .int y)] [.int y] rx_lay0 rfl ?_
    refine rx_T.call (M := rxm_7) (N := rxm_8) (j := 8) (as := [.int y]) (rest := []) rfl rfl rfl rfl rfl (show 19 + 1 ≤ w by omega) (rx_p1_co y rx_lay0) ?_
    intro v2 h2 hp2
    obtain ⟨⟨hy, rfl⟩ | ⟨hy, rfl⟩, rfl⟩ := hp2
    · refine rx_T.to 8 64 _ [.int 1] rx_lay0 rfl ?_
      exact rx_T.ret (M := rxm_7) rfl rfl rfl ⟨Or.inl ⟨⟨hx, hy⟩, rfl⟩, rfl⟩
    · refine rx_T.to 2 24 [(0, .ref 17), (1, .int x), (2, .int y)] [.int 0] rx_lay0 rfl ?_
      exact rx_T.ret (M := rxm_7) rfl rfl rfl ⟨Or.inr ⟨fun q => hy q.2, rfl⟩, rfl⟩
  · refine rx_T.to 2 24 [(0, .ref 17), (1, .int x), (2, .int y)] [.int 0] rx_lay0 rfl ?_
    exact rx_T.ret (M := rxm_7) rfl rfl rfl ⟨Or.inr ⟨fun q => hx q.1, rfl⟩, rfl⟩
def rx_lp1 (x : Int32) : rx_H := rx_lay0.set 2 (.inl (0, 8, .inl (upd (fun _ => 0) (0 : Int32).toNatClampNeg x)))
def rx_lp2 (x y : Int32) : rx_H := (rx_lp1 x).set 3 (.inl (0, 8, .inl (upd (fun _ => 0) (0 : Int32).toNatClampNeg y)))
def rx_layP (x y : Int32) : rx_H := (rx_lp2 x y).set 1 (.inr (1, [.ref 18, .ref 19, .int (0 + Int32.ofInt 1)]))
set_option maxRecDepth 1000000 in
set_option maxHeartbeats 8000000 in
theorem rx_p1_place (x y : Int32) : rx_T rx_cds rx_ms rx_lk0 rt d w 9 0 [(0, .ref 17), (1, .int x), (2, .int y)] [] rx_lay0 (fun v h' => v = some (.int (0)) ∧ h' = rx_layP x y) := by
  refine rx_T.to 20 30 _ [.int 0] (rx_layP x y) rfl ?_
  exact rx_T.ret (M := rxm_9) rfl rfl rfl ⟨rfl, rfl⟩
set_option maxRecDepth 1000000 in
set_option maxHeartbeats 8000000 in
theorem rx_p1_point_x (x y : Int32) (hw : 100 ≤ w) : rx_T rx_cds rx_ms rx_lk0 rt (d + 2) w 6 0 [(0, .ref 16), (1, .int x), (2, .int y)] [] rx_lay0 (fun v h' => (rx_inr x y ∧ v = some (.int 0) ∧ h' = rx_layP x y) ∨ (¬ rx_inr x y ∧ v = some (.int (-1)) ∧ h' = rx_lay0)) := by
  refine rx_T.to 7 13 [(0, .ref 16), (1, .int x), (2, .int y)] [.int y, .int x, .ref 17] rx_lay0 rfl ?_
  refine rx_T.call (M := rxm_6) (N := rxm_7) (j := 7) (as := [.ref 17, .int x, .int y]) (rest := []) rfl rfl rfl rfl rfl (show 19 + 4 ≤ w by omega) (rx_p1_room x y (show 30 ≤ w - (19 + 4) by omega)) ?_
  intro v1 h1 hp
  obtain ⟨⟨hx, rfl⟩ | ⟨hx, rfl⟩, rfl⟩ := hp
  · refine rx_T.to 5 27 [(0, .ref 16), (1, .int x), (2, .int y)] [.int y, .int x, .ref 17] rx_lay0 rfl ?_
    refine rx_T.call (M := rxm_6) (N := rxm_9) (j := 9) (as := [.ref 17, .int x, .int y]) (rest := []) rfl rfl rfl rfl rfl (show 19 + 4 ≤ w by omega) (rx_p1_place x y) ?_
    intro v2 h2 hp2
    obtain ⟨rfl, rfl⟩ := hp2
    exact rx_T.ret (M := rxm_6) rfl rfl rfl (Or.inl ⟨hx, rfl, rfl⟩)
  · refine rx_T.to 2 20 [(0, .ref 16), (1, .int x), (2, .int y)] [.int (-1)] rx_lay0 rfl ?_
    exact rx_T.ret (M := rxm_6) rfl rfl rfl (Or.inr ⟨hx, rfl, rfl⟩)
set_option maxRecDepth 1000000 in
set_option maxHeartbeats 8000000 in
theorem rx_p1_bc0  : rx_T rx_cds rx_ms rx_lk0 rt d w 16 0 [(0, .int 0)] [] rx_lay0 (fun v h' => v = some (.int (0)) ∧ h' = rx_lay0) := by
  refine rx_T.to 41 52 _ [.int 0] rx_lay0 rfl ?_
  exact rx_T.ret (M := rxm_16) rfl rfl rfl ⟨rfl, rfl⟩
set_option maxRecDepth 1000000 in
set_option maxHeartbeats 8000000 in
theorem rx_p1_told0_x (hw : 60 ≤ w) : rx_T rx_cds rx_ms rx_lk0 rt (d + 1) w 89 0 [(0, .ref 16), (1, .int 0)] [] rx_lay0 (fun v h' => v = some (.int (0)) ∧ h' = rx_lay0) := by
  refine rx_T.to 4 23 [(0, .ref 16), (1, .int 0)] [.int 0] rx_lay0 rfl ?_
  refine rx_T.tsw (M := rxm_89) 45 68 rfl rfl (by decide +kernel) (by decide +kernel) (by decide) ?_
  refine rx_T.to 3 75 _ [.int 0] rx_lay0 rfl ?_
  exact rx_T.ret (M := rxm_89) rfl rfl rfl ⟨rfl, rfl⟩
set_option maxRecDepth 1000000 in
set_option maxHeartbeats 8000000 in
theorem rx_p1_told1_x (hw : 60 ≤ w) : rx_T rx_cds rx_ms rx_lk0 rt (d + 1) w 89 0 [(0, .ref 16), (1, .int 1)] [] rx_lay0 (fun v h' => v = some (.int (0)) ∧ h' = rx_lay0) := by
  refine rx_T.to 4 23 [(0, .ref 16), (1, .int 1)] [.int 1] rx_lay0 rfl ?_
  refine rx_T.tsw (M := rxm_89) 53 76 rfl rfl (by decide +kernel) (by decide +kernel) (by decide) ?_
  refine rx_T.to 2 80 _ [.int 0] rx_lay0 rfl ?_
  exact rx_T.ret (M := rxm_89) rfl rfl rfl ⟨rfl, rfl⟩
set_option maxRecDepth 1000000 in
set_option maxHeartbeats 8000000 in
theorem rx_p1_told2_x (hw : 60 ≤ w) : rx_T rx_cds rx_ms rx_lk0 rt (d + 1) w 89 0 [(0, .ref 16), (1, .int 2)] [] rx_lay0 (fun v h' => v = some (.int (0)) ∧ h' = rx_lay0) := by
  refine rx_T.to 4 23 [(0, .ref 16), (1, .int 2)] [.int 2] rx_lay0 rfl ?_
  refine rx_T.tsw (M := rxm_89) 58 81 rfl rfl (by decide +kernel) (by decide +kernel) (by decide) ?_
  refine rx_T.to 2 85 [(0, .ref 16), (1, .int 2)] [.int 0] rx_lay0 rfl ?_
  refine rx_T.call (M := rxm_89) (N := rxm_16) (j := 16) (as := [.int 0]) (rest := []) rfl rfl rfl rfl rfl (show 19 + 1 ≤ w by omega) rx_p1_bc0 ?_
  intro v1 h1 hp
  obtain ⟨rfl, rfl⟩ := hp
  exact rx_T.ret (M := rxm_89) rfl rfl rfl ⟨rfl, rfl⟩
set_option maxRecDepth 1000000 in
set_option maxHeartbeats 8000000 in
theorem rx_p1_told3_x (hw : 60 ≤ w) : rx_T rx_cds rx_ms rx_lk0 rt (d + 1) w 89 0 [(0, .ref 16), (1, .int 3)] [] rx_lay0 (fun v h' => v = some (.int (0)) ∧ h' = rx_lay0) := by
  refine rx_T.to 4 23 [(0, .ref 16), (1, .int 3)] [.int 3] rx_lay0 rfl ?_
  refine rx_T.tsw (M := rxm_89) 66 89 rfl rfl (by decide +kernel) (by decide +kernel) (by decide) ?_
  refine rx_T.to 2 93 _ [.int 0] rx_lay0 rfl ?_
  exact rx_T.ret (M := rxm_89) rfl rfl rfl ⟨rfl, rfl⟩
set_option maxRecDepth 1000000 in
set_option maxHeartbeats 8000000 in
theorem rx_p1_toldn_x (a : Int32) (ha : a.toInt < 0 ∨ 7 < a.toInt) : rx_T rx_cds rx_ms rx_lk0 rt d w 89 0 [(0, .ref 16), (1, .int a)] [] rx_lay0 (fun v h' => v = some (.int (-1)) ∧ h' = rx_lay0) := by
  have K : rx_T rx_cds rx_ms rx_lk0 rt d w 89 22 [(0, .ref 16), (1, .int a)] [] rx_lay0 (fun v h' => v = some (.int (-1)) ∧ h' = rx_lay0) := by
    refine rx_T.to 1 23 [(0, .ref 16), (1, .int a)] [.int a] rx_lay0 rfl ?_
    refine rx_T.tsd (M := rxm_89) 126 rfl rfl ha (by decide) ?_
    refine rx_T.to 1 127 [(0, .ref 16), (1, .int a)] [.int (-1)] rx_lay0 rfl ?_
    exact rx_T.ret (M := rxm_89) rfl rfl rfl ⟨rfl, rfl⟩
  refine rx_T.to 2 2 [(0, .ref 16), (1, .int a)] [.int 4, .int a] rx_lay0 rfl ?_
  refine rx_T.br2 (M := rxm_89) 22 rfl rfl (by decide) (fun _ => K) (fun h1 => ?_)
  refine rx_T.to 2 8 [(0, .ref 16), (1, .int a)] [.int (Int8.ofInt 7).toInt32, .int a] rx_lay0 rfl ?_
  refine rx_T.br2 (M := rxm_89) 22 rfl rfl (by decide) (fun _ => K) (fun h2 => ?_)
  have a1 : ¬ a.toInt < 4 := fun q => of_decide_eq_false h1 (Int32.lt_iff_toInt_lt.mpr q)
  have a2 : ¬ 7 < a.toInt := fun q => of_decide_eq_false h2 (Int32.lt_iff_toInt_lt.mpr q)
  omega
set_option maxRecDepth 1000000 in
set_option maxHeartbeats 8000000 in
theorem rx_p1_pts (k : Int32) (h : rx_H) : rx_T rx_cds rx_ms rx_lk0 rt d w 101 0 [(0, .int k)] [] h (fun v h' => (∃ r : Int32, v = some (.int r) ∧ ¬ (0 : Int32) = r) ∧ h' = h) := by
  refine rx_T.to 1 1 [(0, .int k)] [.int k] h rfl ?_
  refine rx_T.br1 (M := rxm_101) 9 rfl rfl (by decide) (fun _ => ?_) (fun _ => ?_)
  · refine rx_T.to 2 25 [(0, .int k)] [.int 3] h rfl ?_
    exact rx_T.ret (M := rxm_101) rfl rfl rfl ⟨⟨_, rfl, by decide⟩, rfl⟩
  · refine rx_T.to 2 6 [(0, .int k)] [.int 5, .int k] h rfl ?_
    refine rx_T.br2 (M := rxm_101) 13 rfl rfl (by decide) (fun _ => ?_) (fun _ => ?_)
    · refine rx_T.to 2 16 [(0, .int k)] [.int (Int8.ofInt 6).toInt32, .int k] h rfl ?_
      refine rx_T.br2 (M := rxm_101) 24 rfl rfl (by decide) (fun _ => ?_) (fun _ => ?_)
      · refine rx_T.to 1 25 [(0, .int k)] [.int 4] h rfl ?_
        exact rx_T.ret (M := rxm_101) rfl rfl rfl ⟨⟨_, rfl, by decide⟩, rfl⟩
      · refine rx_T.to 2 25 [(0, .int k)] [.int (Int8.ofInt 8).toInt32] h rfl ?_
        exact rx_T.ret (M := rxm_101) rfl rfl rfl ⟨⟨_, rfl, by decide +kernel⟩, rfl⟩
    · refine rx_T.to 2 25 [(0, .int k)] [.int 3] h rfl ?_
      exact rx_T.ret (M := rxm_101) rfl rfl rfl ⟨⟨_, rfl, by decide⟩, rfl⟩
set_option maxRecDepth 1000000 in
set_option maxHeartbeats 8000000 in
theorem rx_p1_isf (k : Int32) (hw : 30 ≤ w) : rx_T rx_cds rx_ms rx_lk0 rt (d + 1) w 100 0 [(0, .ref 53), (1, .int k)] [] rx_lay0 (fun v h' => v = some (.int (0)) ∧ h' = rx_lay0) := by
  refine rx_T.to 1 1 [(0, .ref 53), (1, .int k)] [.int k] rx_lay0 rfl ?_
  refine rx_T.br1 (M := rxm_100) 21 rfl rfl (by decide) (fun _ => ?_) (fun h1 => ?_)
  · refine rx_T.to 1 22 [(0, .ref 53), (1, .int k)] [.int 0] rx_lay0 rfl ?_
    exact rx_T.ret (M := rxm_100) rfl rfl rfl ⟨rfl, rfl⟩
  · refine rx_T.to 2 7 [(0, .ref 53), (1, .int k)] [.int (Int8.ofInt 7).toInt32, .int k] rx_lay0 rfl ?_
    refine rx_T.br2 (M := rxm_100) 21 rfl rfl (by decide) (fun _ => ?_) (fun h2 => ?_)
    · refine rx_T.to 1 22 [(0, .ref 53), (1, .int k)] [.int 0] rx_lay0 rfl ?_
      exact rx_T.ret (M := rxm_100) rfl rfl rfl ⟨rfl, rfl⟩
    · refine rx_T.to 3 15 [(0, .ref 53), (1, .int k)] [.int k, .int 0] rx_lay0 rfl ?_
      refine rx_T.call (M := rxm_100) (N := rxm_101) (j := 101) (as := [.int k]) (rest := [.int 0]) rfl rfl rfl rfl rfl (show 19 + 1 ≤ w by omega) (rx_p1_pts k rx_lay0) ?_
      intro v1 h1 hp
      obtain ⟨⟨r, rfl, hr⟩, rfl⟩ := hp
      refine rx_T.br2 (M := rxm_100) (x := 0) (y := r) 23 rfl rfl (by decide) (fun h3 => absurd (of_decide_eq_true h3) hr) (fun _ => ?_)
      refine rx_T.to 1 22 [(0, .ref 53), (1, .int k)] [.int 0] rx_lay0 rfl ?_
      exact rx_T.ret (M := rxm_100) rfl rfl rfl ⟨rfl, rfl⟩
set_option maxRecDepth 1000000 in
set_option maxHeartbeats 8000000 in
theorem rx_p1_isTrue_m (k : Int32) (hw : 60 ≤ w) : rx_T rx_cds rx_ms rx_lk0 rt (d + 2) w 99 0 [(0, .ref 53), (1, .int k)] [] rx_lay0 (fun v h' => v = some (.int (-1)) ∧ h' = rx_lay0) := by
  refine rx_T.to 5 7 [(0, .ref 53), (1, .int k)] [.int k, .ref 53] rx_lay0 rfl ?_
  refine rx_T.call (M := rxm_99) (N := rxm_100) (j := 100) (as := [.ref 53, .int k]) (rest := []) rfl rfl rfl rfl rfl (show 19 + 6 ≤ w by omega) (rx_p1_isf k (show 30 ≤ w - (19 + 6) by omega)) ?_
  intro v1 h1 hp
  obtain ⟨rfl, rfl⟩ := hp
  refine rx_T.to 12 51 _ [.int (-1)] rx_lay0 rfl ?_
  exact rx_T.ret (M := rxm_99) rfl rfl rfl ⟨rfl, rfl⟩
set_option maxRecDepth 1000000 in
set_option maxHeartbeats 8000000 in
theorem rx_p1_fact_m (k : Int32) (hw : 60 ≤ w) : rx_T rx_cds rx_ms rx_lk0 rt (d + 2) w 109 0 [(0, .ref 53), (1, .int k)] [] rx_lay0 (fun v h' => v = some (.int (-1)) ∧ h' = rx_lay0) := by
  refine rx_T.to 5 7 [(0, .ref 53), (1, .int k)] [.int k, .ref 53] rx_lay0 rfl ?_
  refine rx_T.call (M := rxm_109) (N := rxm_100) (j := 100) (as := [.ref 53, .int k]) (rest := []) rfl rfl rfl rfl rfl (show 19 + 6 ≤ w by omega) (rx_p1_isf k (show 30 ≤ w - (19 + 6) by omega)) ?_
  intro v1 h1 hp
  obtain ⟨rfl, rfl⟩ := hp
  refine rx_T.to 16 62 _ [.int (-1)] rx_lay0 rfl ?_
  exact rx_T.ret (M := rxm_109) rfl rfl rfl ⟨rfl, rfl⟩
set_option maxRecDepth 1000000 in
set_option maxHeartbeats 8000000 in
theorem rx_p1_follows_m (k : Int32) (hw : 60 ≤ w) : rx_T rx_cds rx_ms rx_lk0 rt (d + 2) w 111 0 [(0, .ref 53), (1, .int k)] [] rx_lay0 (fun v h' => v = some (.int (-1)) ∧ h' = rx_lay0) := by
  refine rx_T.to 5 7 [(0, .ref 53), (1, .int k)] [.int k, .ref 53] rx_lay0 rfl ?_
  refine rx_T.call (M := rxm_111) (N := rxm_100) (j := 100) (as := [.ref 53, .int k]) (rest := []) rfl rfl rfl rfl rfl (show 19 + 6 ≤ w by omega) (rx_p1_isf k (show 30 ≤ w - (19 + 6) by omega)) ?_
  intro v1 h1 hp
  obtain ⟨rfl, rfl⟩ := hp
  refine rx_T.to 16 79 _ [.int (-1)] rx_lay0 rfl ?_
  exact rx_T.ret (M := rxm_111) rfl rfl rfl ⟨rfl, rfl⟩
set_option maxRecDepth 1000000 in
set_option maxHeartbeats 8000000 in
theorem rx_p1_needs_m (k : Int32) (hw : 60 ≤ w) : rx_T rx_cds rx_ms rx_lk0 rt (d + 2) w 154 0 [(0, .ref 53), (1, .int k)] [] rx_lay0 (fun v h' => v = some (.int (-1)) ∧ h' = rx_lay0) := by
  refine rx_T.to 5 7 [(0, .ref 53), (1, .int k)] [.int k, .ref 53] rx_lay0 rfl ?_
  refine rx_T.call (M := rxm_154) (N := rxm_100) (j := 100) (as := [.ref 53, .int k]) (rest := []) rfl rfl rfl rfl rfl (show 19 + 6 ≤ w by omega) (rx_p1_isf k (show 30 ≤ w - (19 + 6) by omega)) ?_
  intro v1 h1 hp
  obtain ⟨rfl, rfl⟩ := hp
  refine rx_T.to 13 48 _ [.int (-1)] rx_lay0 rfl ?_
  exact rx_T.ret (M := rxm_154) rfl rfl rfl ⟨rfl, rfl⟩
set_option maxRecDepth 1000000 in
set_option maxHeartbeats 8000000 in
theorem rx_p1_turn_m (a b : Int32) : rx_T rx_cds rx_ms rx_lk0 rt d w 110 0 [(0, .ref 53), (1, .int a), (2, .int b)] [] rx_lay0 (fun v h' => v = some (.int (0)) ∧ h' = rx_lay0) := by
  refine rx_T.to 4 6 [(0, .ref 53), (1, .int a), (2, .int b)] [.int a] rx_lay0 rfl ?_
  refine rx_T.br1 (M := rxm_110) 17 rfl rfl (by decide) (fun _ => ?_) (fun h1 => ?_)
  · refine rx_T.to 1 18 [(0, .ref 53), (1, .int a), (2, .int b)] [.int 0] rx_lay0 rfl ?_
    exact rx_T.ret (M := rxm_110) rfl rfl rfl ⟨rfl, rfl⟩
  · refine rx_T.to 3 14 [(0, .ref 53), (1, .int a), (2, .int b)] [.int 0, .int a] rx_lay0 rfl ?_
    refine rx_T.br2 (M := rxm_110) 19 rfl rfl (by decide) (fun h2 => absurd (of_decide_eq_true h2) (of_decide_eq_false h1)) (fun _ => ?_)
    refine rx_T.to 1 18 [(0, .ref 53), (1, .int a), (2, .int b)] [.int 0] rx_lay0 rfl ?_
    exact rx_T.ret (M := rxm_110) rfl rfl rfl ⟨rfl, rfl⟩
set_option maxRecDepth 1000000 in
set_option maxHeartbeats 8000000 in
theorem rx_p1_need_m (a : Int32) : rx_T rx_cds rx_ms rx_lk0 rt d w 155 0 [(0, .ref 53), (1, .int a)] [] rx_lay0 (fun v h' => v = some (.int (-1)) ∧ h' = rx_lay0) := by
  refine rx_T.to 4 6 [(0, .ref 53), (1, .int a)] [.int a] rx_lay0 rfl ?_
  refine rx_T.br1 (M := rxm_155) 17 rfl rfl (by decide) (fun _ => ?_) (fun h1 => ?_)
  · refine rx_T.to 2 27 [(0, .ref 53), (1, .int a)] [.int (-1)] rx_lay0 rfl ?_
    exact rx_T.ret (M := rxm_155) rfl rfl rfl ⟨rfl, rfl⟩
  · refine rx_T.to 3 14 [(0, .ref 53), (1, .int a)] [.int 0, .int a] rx_lay0 rfl ?_
    refine rx_T.br2 (M := rxm_155) 21 rfl rfl (by decide) (fun h2 => absurd (of_decide_eq_true h2) (of_decide_eq_false h1)) (fun _ => ?_)
    refine rx_T.to 2 27 [(0, .ref 53), (1, .int a)] [.int (-1)] rx_lay0 rfl ?_
    exact rx_T.ret (M := rxm_155) rfl rfl rfl ⟨rfl, rfl⟩
set_option maxRecDepth 1000000 in
set_option maxHeartbeats 8000000 in
theorem rx_p1_nop (a : Int32) : rx_T rx_cds rx_ms rx_lk0 rt d w 157 0 [(0, .ref 53), (1, .int a)] [] rx_lay0 (fun v h' => v = some (.int (1)) ∧ h' = rx_lay0) := by
  refine rx_T.to 1 1 [(0, .ref 53), (1, .int a)] [.int a] rx_lay0 rfl ?_
  refine rx_T.br1 (M := rxm_157) 12 rfl rfl (by decide) (fun _ => ?_) (fun h1 => ?_)
  · refine rx_T.to 2 17 [(0, .ref 53), (1, .int a)] [.int 1] rx_lay0 rfl ?_
    exact rx_T.ret (M := rxm_157) rfl rfl rfl ⟨rfl, rfl⟩
  · refine rx_T.to 3 9 [(0, .ref 53), (1, .int a)] [.int 0, .int a] rx_lay0 rfl ?_
    refine rx_T.br2 (M := rxm_157) 16 rfl rfl (by decide) (fun h2 => absurd (of_decide_eq_true h2) (of_decide_eq_false h1)) (fun _ => ?_)
    refine rx_T.to 2 17 [(0, .ref 53), (1, .int a)] [.int 1] rx_lay0 rfl ?_
    exact rx_T.ret (M := rxm_157) rfl rfl rfl ⟨rfl, rfl⟩
set_option maxRecDepth 1000000 in
set_option maxHeartbeats 8000000 in
theorem rx_p1_line_m (a b : Int32) (hw : 60 ≤ w) : rx_T rx_cds rx_ms rx_lk0 rt (d + 1) w 156 0 [(0, .ref 53), (1, .int a), (2, .int b)] [] rx_lay0 (fun v h' => v = some (.int (0)) ∧ h' = rx_lay0) := by
  refine rx_T.to 5 7 [(0, .ref 53), (1, .int a), (2, .int b)] [.int a, .ref 53] rx_lay0 rfl ?_
  refine rx_T.call (M := rxm_156) (N := rxm_157) (j := 157) (as := [.ref 53, .int a]) (rest := []) rfl rfl rfl rfl rfl (show 19 + 2 ≤ w by omega) (rx_p1_nop a) ?_
  intro v1 h1 hp
  obtain ⟨rfl, rfl⟩ := hp
  refine rx_T.to 2 27 [(0, .ref 53), (1, .int a), (2, .int b)] [.int (0)] rx_lay0 rfl ?_
  exact rx_T.ret (M := rxm_156) rfl rfl rfl ⟨rfl, rfl⟩
set_option maxRecDepth 1000000 in
set_option maxHeartbeats 8000000 in
theorem rx_p1_circle_m (a b c : Int32) (hw : 60 ≤ w) : rx_T rx_cds rx_ms rx_lk0 rt (d + 1) w 158 0 [(0, .ref 53), (1, .int a), (2, .int b), (3, .int c)] [] rx_lay0 (fun v h' => v = some (.int (0)) ∧ h' = rx_lay0) := by
  refine rx_T.to 5 7 [(0, .ref 53), (1, .int a), (2, .int b), (3, .int c)] [.int a, .ref 53] rx_lay0 rfl ?_
  refine rx_T.call (M := rxm_158) (N := rxm_157) (j := 157) (as := [.ref 53, .int a]) (rest := []) rfl rfl rfl rfl rfl (show 19 + 2 ≤ w by omega) (rx_p1_nop a) ?_
  intro v1 h1 hp
  obtain ⟨rfl, rfl⟩ := hp
  refine rx_T.to 2 30 [(0, .ref 53), (1, .int a), (2, .int b), (3, .int c)] [.int (0)] rx_lay0 rfl ?_
  exact rx_T.ret (M := rxm_158) rfl rfl rfl ⟨rfl, rfl⟩
set_option maxRecDepth 1000000 in
set_option maxHeartbeats 8000000 in
theorem rx_p1_length_m (a b : Int32) (hw : 60 ≤ w) : rx_T rx_cds rx_ms rx_lk0 rt (d + 1) w 159 0 [(0, .ref 53), (1, .int a), (2, .int b)] [] rx_lay0 (fun v h' => v = some (.int (-1)) ∧ h' = rx_lay0) := by
  refine rx_T.to 5 7 [(0, .ref 53), (1, .int a), (2, .int b)] [.int a, .ref 53] rx_lay0 rfl ?_
  refine rx_T.call (M := rxm_159) (N := rxm_157) (j := 157) (as := [.ref 53, .int a]) (rest := []) rfl rfl rfl rfl rfl (show 19 + 2 ≤ w by omega) (rx_p1_nop a) ?_
  intro v1 h1 hp
  obtain ⟨rfl, rfl⟩ := hp
  refine rx_T.to 2 27 [(0, .ref 53), (1, .int a), (2, .int b)] [.int (-1)] rx_lay0 rfl ?_
  exact rx_T.ret (M := rxm_159) rfl rfl rfl ⟨rfl, rfl⟩
set_option maxRecDepth 1000000 in
set_option maxHeartbeats 8000000 in
theorem rx_p1_point_m0 (x y : Int32) (hn : ¬ rx_inr x y) : rx_T rx_cds rx_ms rx_lk0 rt d w 97 0 [(0, .ref 53), (1, .int x), (2, .int y)] [] rx_lay0 (fun v h' => v = some (.int (-1)) ∧ h' = rx_lay0) := by
  refine rx_T.to 6 11 [(0, .ref 53), (1, .int x), (2, .int y)] [.int (Int8.ofInt 7).toInt32, .int 0] rx_lay0 rfl ?_
  refine rx_T.op (M := rxm_97) (ins := .if_icmp .eq 38) rfl rfl rfl rfl (rx_b2_f (by decide +kernel) (by decide)) ?_
  refine rx_T.to 2 18 [(0, .ref 53), (1, .int x), (2, .int y)] [.int rx_k1, .int x] rx_lay0 rfl ?_
  refine rx_T.br2 (M := rxm_97) 49 rfl rfl (by decide) (fun _ => ?_) (fun h1 => ?_)
  · refine rx_T.to 1 50 [(0, .ref 53), (1, .int x), (2, .int y)] [.int (-1)] rx_lay0 rfl ?_
    exact rx_T.ret (M := rxm_97) rfl rfl rfl ⟨rfl, rfl⟩
  · refine rx_T.to 2 25 [(0, .ref 53), (1, .int x), (2, .int y)] [.int rx_k2, .int x] rx_lay0 rfl ?_
    refine rx_T.br2 (M := rxm_97) 49 rfl rfl (by decide) (fun _ => ?_) (fun h2 => ?_)
    · refine rx_T.to 1 50 [(0, .ref 53), (1, .int x), (2, .int y)] [.int (-1)] rx_lay0 rfl ?_
      exact rx_T.ret (M := rxm_97) rfl rfl rfl ⟨rfl, rfl⟩
    · refine rx_T.to 2 32 [(0, .ref 53), (1, .int x), (2, .int y)] [.int rx_k1, .int y] rx_lay0 rfl ?_
      refine rx_T.br2 (M := rxm_97) 49 rfl rfl (by decide) (fun _ => ?_) (fun h3 => ?_)
      · refine rx_T.to 1 50 [(0, .ref 53), (1, .int x), (2, .int y)] [.int (-1)] rx_lay0 rfl ?_
        exact rx_T.ret (M := rxm_97) rfl rfl rfl ⟨rfl, rfl⟩
      · refine rx_T.to 2 39 [(0, .ref 53), (1, .int x), (2, .int y)] [.int rx_k2, .int y] rx_lay0 rfl ?_
        refine rx_T.br2 (M := rxm_97) 49 rfl rfl (by decide) (fun _ => ?_) (fun h4 => ?_)
        · refine rx_T.to 1 50 [(0, .ref 53), (1, .int x), (2, .int y)] [.int (-1)] rx_lay0 rfl ?_
          exact rx_T.ret (M := rxm_97) rfl rfl rfl ⟨rfl, rfl⟩
        · exact absurd ⟨⟨of_decide_eq_false h1, of_decide_eq_false h2⟩, of_decide_eq_false h3, of_decide_eq_false h4⟩ hn
def rx_fsM : List Value := match (rx_lay0[37]? : Option rx_C) with | some (.inr q) => q.2 | _ => []
def rx_lq1 (x y : Int32) : rx_H := (rx_layP x y).set 38 (.inl (0, 12, .inl (upd (fun _ => 0) (0 : Int32).toNatClampNeg x)))
def rx_lq2 (x y : Int32) : rx_H := (rx_lq1 x y).set 39 (.inl (0, 12, .inl (upd (fun _ => 0) (0 : Int32).toNatClampNeg y)))
def rx_layQ (x y : Int32) : rx_H := (rx_lq2 x y).set 37 (.inr (5, rx_fsM.set 1 (.int (0 + Int32.ofInt 1))))
theorem rx_lp1_sz (x : Int32) : rx_sz (rx_lp1 x) = rx_sz rx_lay0 := rx_sz_set rx_lay0 2 (.inl (0, 8, .inl (fun _ => 0))) _ rfl rfl
theorem rx_lp1_at (x : Int32) (k : Nat) (h : ¬ k = 2) : (rx_lp1 x)[k]? = rx_lay0[k]? := List.getElem?_set_ne (fun z => h z.symm)
theorem rx_lp2_sz (x y : Int32) : rx_sz (rx_lp2 x y) = rx_sz rx_lay0 := (rx_sz_set (rx_lp1 x) 3 (.inl (0, 8, .inl (fun _ => 0))) _ (rx_lp1_at x 3 (by decide)) rfl).trans (rx_lp1_sz x)
theorem rx_lp2_at (x y : Int32) (k : Nat) (h : ¬ k = 2) (h3 : ¬ k = 3) : (rx_lp2 x y)[k]? = rx_lay0[k]? := (List.getElem?_set_ne (fun z => h3 z.symm)).trans (rx_lp1_at x k h)
theorem rx_layP_sz (x y : Int32) : rx_sz (rx_layP x y) = rx_sz rx_lay0 := (rx_sz_set (rx_lp2 x y) 1 (.inr (1, [.ref 18, .ref 19, .int 0])) _ (rx_lp2_at x y 1 (by decide) (by decide)) rfl).trans (rx_lp2_sz x y)
theorem rx_layP_at (x y : Int32) (k : Nat) (h : 37 ≤ k) : (rx_layP x y)[k]? = rx_lay0[k]? := (List.getElem?_set_ne (by omega)).trans (rx_lp2_at x y k (by omega) (by omega))
theorem rx_lq1_sz (x y : Int32) : rx_sz (rx_lq1 x y) = rx_sz rx_lay0 := (rx_sz_set (rx_layP x y) 38 (.inl (0, 12, .inl (fun _ => 0))) _ (rx_layP_at x y 38 (by decide)) rfl).trans (rx_layP_sz x y)
theorem rx_lq1_at (x y : Int32) (k : Nat) (h : 37 ≤ k) (h2 : ¬ k = 38) : (rx_lq1 x y)[k]? = rx_lay0[k]? := (List.getElem?_set_ne (fun z => h2 z.symm)).trans (rx_layP_at x y k h)
theorem rx_lq2_sz (x y : Int32) : rx_sz (rx_lq2 x y) = rx_sz rx_lay0 := (rx_sz_set (rx_lq1 x y) 39 (.inl (0, 12, .inl (fun _ => 0))) _ (rx_lq1_at x y 39 (by decide) (by decide)) rfl).trans (rx_lq1_sz x y)
theorem rx_lq2_at (x y : Int32) : (rx_lq2 x y)[37]? = rx_lay0[37]? := (List.getElem?_set_ne (by decide)).trans (rx_lq1_at x y 37 (by decide) (by decide))
theorem rx_layQ_sz (x y : Int32) : rx_sz (rx_layQ x y) = rx_sz rx_lay0 := (rx_sz_set (rx_lq2 x y) 37 (.inr (5, rx_fsM)) _ (rx_lq2_at x y) (by simp only [rx_sz1, List.length_set])).trans (rx_lq2_sz x y)
theorem rx_layQ_len (x y : Int32) : (rx_layQ x y).length = 61 := by
  unfold rx_layQ rx_lq2 rx_lq1 rx_layP rx_lp2 rx_lp1
  simp only [List.length_set]
  rfl
set_option maxRecDepth 1000000 in
set_option maxHeartbeats 8000000 in
theorem rx_p1_point_m1 (x y : Int32) (hn : rx_inr x y) : rx_T rx_cds rx_ms rx_lk0 rt d w 97 0 [(0, .ref 53), (1, .int x), (2, .int y)] [] (rx_layP x y) (fun v h' => v = some (.int (0)) ∧ h' = rx_layQ x y) := by
  refine rx_T.to 6 11 [(0, .ref 53), (1, .int x), (2, .int y)] [.int (Int8.ofInt 7).toInt32, .int 0] (rx_layP x y) rfl ?_
  refine rx_T.op (M := rxm_97) (ins := .if_icmp .eq 38) rfl rfl rfl rfl (rx_b2_f (by decide +kernel) (by decide)) ?_
  refine rx_T.to 2 18 [(0, .ref 53), (1, .int x), (2, .int y)] [.int rx_k1, .int x] (rx_layP x y) rfl ?_
  refine rx_T.br2 (M := rxm_97) 49 rfl rfl (by decide) (fun h1 => absurd (of_decide_eq_true h1) (hn.1.1)) (fun _ => ?_)
  refine rx_T.to 2 25 [(0, .ref 53), (1, .int x), (2, .int y)] [.int rx_k2, .int x] (rx_layP x y) rfl ?_
  refine rx_T.br2 (M := rxm_97) 49 rfl rfl (by decide) (fun h1 => absurd (of_decide_eq_true h1) (hn.1.2)) (fun _ => ?_)
  refine rx_T.to 2 32 [(0, .ref 53), (1, .int x), (2, .int y)] [.int rx_k1, .int y] (rx_layP x y) rfl ?_
  refine rx_T.br2 (M := rxm_97) 49 rfl rfl (by decide) (fun h1 => absurd (of_decide_eq_true h1) (hn.2.1)) (fun _ => ?_)
  refine rx_T.to 2 39 [(0, .ref 53), (1, .int x), (2, .int y)] [.int rx_k2, .int y] (rx_layP x y) rfl ?_
  refine rx_T.br2 (M := rxm_97) 49 rfl rfl (by decide) (fun h1 => absurd (of_decide_eq_true h1) (hn.2.2)) (fun _ => ?_)
  refine rx_T.to 34 130 _ [.int (0 + Int32.ofInt 1 - Int32.ofInt 1)] (rx_layQ x y) rfl ?_
  exact rx_T.ret (M := rxm_97) rfl rfl rfl ⟨by rw [show (0 : Int32) + Int32.ofInt 1 - Int32.ofInt 1 = 0 by decide +kernel], rfl⟩
set_option maxRecDepth 1000000 in
set_option maxHeartbeats 8000000 in
theorem rx_p1_told0_m  : rx_T rx_cds rx_ms rx_lk0 rt d w 160 0 [(0, .ref 53), (1, .int 0)] [] rx_lay0 (fun v h' => v = some (.int (0)) ∧ h' = rx_lay0) := by
  refine rx_T.to 10 24 [(3, .int 0), (2, .int 0), (0, .ref 53), (1, .int 0)] [] rx_lay0 rfl ?_
  refine rx_T.to 8 63 [(4, .int 0), (3, .int 0), (2, .int 0), (0, .ref 53), (1, .int 0)] [] rx_lay0 rfl ?_
  refine rx_T.to 14 63 [(4, .int 1), (3, .int 0), (2, .int 0), (0, .ref 53), (1, .int 0)] [] rx_lay0 rfl ?_
  refine rx_T.to 14 63 [(4, .int 2), (3, .int 0), (2, .int 0), (0, .ref 53), (1, .int 0)] [] rx_lay0 rfl ?_
  refine rx_T.to 14 63 [(4, .int 3), (3, .int 0), (2, .int 0), (0, .ref 53), (1, .int 0)] [] rx_lay0 rfl ?_
  refine rx_T.to 14 63 [(4, .int 4), (3, .int 0), (2, .int 0), (0, .ref 53), (1, .int 0)] [] rx_lay0 rfl ?_
  refine rx_T.to 14 63 [(4, .int 5), (3, .int 0), (2, .int 0), (0, .ref 53), (1, .int 0)] [] rx_lay0 rfl ?_
  refine rx_T.to 14 63 [(4, .int 6), (3, .int 0), (2, .int 0), (0, .ref 53), (1, .int 0)] [] rx_lay0 rfl ?_
  refine rx_T.to 14 63 [(4, .int 7), (3, .int 0), (2, .int 0), (0, .ref 53), (1, .int 0)] [] rx_lay0 rfl ?_
  refine rx_T.to 14 63 [(4, .int 8), (3, .int 0), (2, .int 0), (0, .ref 53), (1, .int 0)] [] rx_lay0 rfl ?_
  refine rx_T.to 14 63 [(4, .int 9), (3, .int 0), (2, .int 0), (0, .ref 53), (1, .int 0)] [] rx_lay0 rfl ?_
  refine rx_T.to 14 63 [(4, .int 10), (3, .int 0), (2, .int 0), (0, .ref 53), (1, .int 0)] [] rx_lay0 rfl ?_
  refine rx_T.to 14 63 [(4, .int 11), (3, .int 0), (2, .int 0), (0, .ref 53), (1, .int 0)] [] rx_lay0 rfl ?_
  refine rx_T.to 14 63 [(4, .int 12), (3, .int 0), (2, .int 0), (0, .ref 53), (1, .int 0)] [] rx_lay0 rfl ?_
  refine rx_T.to 14 63 [(4, .int 13), (3, .int 0), (2, .int 0), (0, .ref 53), (1, .int 0)] [] rx_lay0 rfl ?_
  refine rx_T.to 14 63 [(4, .int 14), (3, .int 0), (2, .int 0), (0, .ref 53), (1, .int 0)] [] rx_lay0 rfl ?_
  refine rx_T.to 14 63 [(4, .int 15), (3, .int 0), (2, .int 0), (0, .ref 53), (1, .int 0)] [] rx_lay0 rfl ?_
  refine rx_T.to 14 63 [(4, .int 16), (3, .int 0), (2, .int 0), (0, .ref 53), (1, .int 0)] [] rx_lay0 rfl ?_
  refine rx_T.to 14 63 [(4, .int 17), (3, .int 0), (2, .int 0), (0, .ref 53), (1, .int 0)] [] rx_lay0 rfl ?_
  refine rx_T.to 14 63 [(4, .int 18), (3, .int 0), (2, .int 0), (0, .ref 53), (1, .int 0)] [] rx_lay0 rfl ?_
  refine rx_T.to 14 63 [(4, .int 19), (3, .int 0), (2, .int 0), (0, .ref 53), (1, .int 0)] [] rx_lay0 rfl ?_
  refine rx_T.to 14 63 [(4, .int 20), (3, .int 0), (2, .int 0), (0, .ref 53), (1, .int 0)] [] rx_lay0 rfl ?_
  refine rx_T.to 14 63 [(4, .int 21), (3, .int 0), (2, .int 0), (0, .ref 53), (1, .int 0)] [] rx_lay0 rfl ?_
  refine rx_T.to 4 95 [(4, .int 21), (3, .int 0), (2, .int 0), (0, .ref 53), (1, .int 0)] [.int 0] rx_lay0 rfl ?_
  refine rx_T.tsw (M := rxm_160) 45 140 rfl rfl (by decide +kernel) (by decide +kernel) (by decide) ?_
  refine rx_T.to 2 144 _ [.int 0] rx_lay0 rfl ?_
  exact rx_T.ret (M := rxm_160) rfl rfl rfl ⟨rfl, rfl⟩
set_option maxRecDepth 1000000 in
set_option maxHeartbeats 8000000 in
theorem rx_p1_told1_m  : rx_T rx_cds rx_ms rx_lk0 rt d w 160 0 [(0, .ref 53), (1, .int 1)] [] rx_lay0 (fun v h' => v = some (.int (0)) ∧ h' = rx_lay0) := by
  refine rx_T.to 10 24 [(3, .int 0), (2, .int 0), (0, .ref 53), (1, .int 1)] [] rx_lay0 rfl ?_
  refine rx_T.to 8 63 [(4, .int 0), (3, .int 0), (2, .int 0), (0, .ref 53), (1, .int 1)] [] rx_lay0 rfl ?_
  refine rx_T.to 14 63 [(4, .int 1), (3, .int 0), (2, .int 0), (0, .ref 53), (1, .int 1)] [] rx_lay0 rfl ?_
  refine rx_T.to 14 63 [(4, .int 2), (3, .int 0), (2, .int 0), (0, .ref 53), (1, .int 1)] [] rx_lay0 rfl ?_
  refine rx_T.to 14 63 [(4, .int 3), (3, .int 0), (2, .int 0), (0, .ref 53), (1, .int 1)] [] rx_lay0 rfl ?_
  refine rx_T.to 14 63 [(4, .int 4), (3, .int 0), (2, .int 0), (0, .ref 53), (1, .int 1)] [] rx_lay0 rfl ?_
  refine rx_T.to 14 63 [(4, .int 5), (3, .int 0), (2, .int 0), (0, .ref 53), (1, .int 1)] [] rx_lay0 rfl ?_
  refine rx_T.to 14 63 [(4, .int 6), (3, .int 0), (2, .int 0), (0, .ref 53), (1, .int 1)] [] rx_lay0 rfl ?_
  refine rx_T.to 14 63 [(4, .int 7), (3, .int 0), (2, .int 0), (0, .ref 53), (1, .int 1)] [] rx_lay0 rfl ?_
  refine rx_T.to 14 63 [(4, .int 8), (3, .int 0), (2, .int 0), (0, .ref 53), (1, .int 1)] [] rx_lay0 rfl ?_
  refine rx_T.to 14 63 [(4, .int 9), (3, .int 0), (2, .int 0), (0, .ref 53), (1, .int 1)] [] rx_lay0 rfl ?_
  refine rx_T.to 14 63 [(4, .int 10), (3, .int 0), (2, .int 0), (0, .ref 53), (1, .int 1)] [] rx_lay0 rfl ?_
  refine rx_T.to 14 63 [(4, .int 11), (3, .int 0), (2, .int 0), (0, .ref 53), (1, .int 1)] [] rx_lay0 rfl ?_
  refine rx_T.to 14 63 [(4, .int 12), (3, .int 0), (2, .int 0), (0, .ref 53), (1, .int 1)] [] rx_lay0 rfl ?_
  refine rx_T.to 14 63 [(4, .int 13), (3, .int 0), (2, .int 0), (0, .ref 53), (1, .int 1)] [] rx_lay0 rfl ?_
  refine rx_T.to 14 63 [(4, .int 14), (3, .int 0), (2, .int 0), (0, .ref 53), (1, .int 1)] [] rx_lay0 rfl ?_
  refine rx_T.to 14 63 [(4, .int 15), (3, .int 0), (2, .int 0), (0, .ref 53), (1, .int 1)] [] rx_lay0 rfl ?_
  refine rx_T.to 14 63 [(4, .int 16), (3, .int 0), (2, .int 0), (0, .ref 53), (1, .int 1)] [] rx_lay0 rfl ?_
  refine rx_T.to 14 63 [(4, .int 17), (3, .int 0), (2, .int 0), (0, .ref 53), (1, .int 1)] [] rx_lay0 rfl ?_
  refine rx_T.to 14 63 [(4, .int 18), (3, .int 0), (2, .int 0), (0, .ref 53), (1, .int 1)] [] rx_lay0 rfl ?_
  refine rx_T.to 14 63 [(4, .int 19), (3, .int 0), (2, .int 0), (0, .ref 53), (1, .int 1)] [] rx_lay0 rfl ?_
  refine rx_T.to 14 63 [(4, .int 20), (3, .int 0), (2, .int 0), (0, .ref 53), (1, .int 1)] [] rx_lay0 rfl ?_
  refine rx_T.to 14 63 [(4, .int 21), (3, .int 0), (2, .int 0), (0, .ref 53), (1, .int 1)] [] rx_lay0 rfl ?_
  refine rx_T.to 4 95 [(4, .int 21), (3, .int 0), (2, .int 0), (0, .ref 53), (1, .int 1)] [.int 1] rx_lay0 rfl ?_
  refine rx_T.tsw (M := rxm_160) 50 145 rfl rfl (by decide +kernel) (by decide +kernel) (by decide) ?_
  refine rx_T.to 2 149 _ [.int 0] rx_lay0 rfl ?_
  exact rx_T.ret (M := rxm_160) rfl rfl rfl ⟨rfl, rfl⟩
set_option maxRecDepth 1000000 in
set_option maxHeartbeats 8000000 in
theorem rx_p1_told2_m  : rx_T rx_cds rx_ms rx_lk0 rt d w 160 0 [(0, .ref 53), (1, .int 2)] [] rx_lay0 (fun v h' => v = some (.int (0)) ∧ h' = rx_lay0) := by
  refine rx_T.to 10 24 [(3, .int 0), (2, .int 0), (0, .ref 53), (1, .int 2)] [] rx_lay0 rfl ?_
  refine rx_T.to 8 63 [(4, .int 0), (3, .int 0), (2, .int 0), (0, .ref 53), (1, .int 2)] [] rx_lay0 rfl ?_
  refine rx_T.to 14 63 [(4, .int 1), (3, .int 0), (2, .int 0), (0, .ref 53), (1, .int 2)] [] rx_lay0 rfl ?_
  refine rx_T.to 14 63 [(4, .int 2), (3, .int 0), (2, .int 0), (0, .ref 53), (1, .int 2)] [] rx_lay0 rfl ?_
  refine rx_T.to 14 63 [(4, .int 3), (3, .int 0), (2, .int 0), (0, .ref 53), (1, .int 2)] [] rx_lay0 rfl ?_
  refine rx_T.to 14 63 [(4, .int 4), (3, .int 0), (2, .int 0), (0, .ref 53), (1, .int 2)] [] rx_lay0 rfl ?_
  refine rx_T.to 14 63 [(4, .int 5), (3, .int 0), (2, .int 0), (0, .ref 53), (1, .int 2)] [] rx_lay0 rfl ?_
  refine rx_T.to 14 63 [(4, .int 6), (3, .int 0), (2, .int 0), (0, .ref 53), (1, .int 2)] [] rx_lay0 rfl ?_
  refine rx_T.to 14 63 [(4, .int 7), (3, .int 0), (2, .int 0), (0, .ref 53), (1, .int 2)] [] rx_lay0 rfl ?_
  refine rx_T.to 14 63 [(4, .int 8), (3, .int 0), (2, .int 0), (0, .ref 53), (1, .int 2)] [] rx_lay0 rfl ?_
  refine rx_T.to 14 63 [(4, .int 9), (3, .int 0), (2, .int 0), (0, .ref 53), (1, .int 2)] [] rx_lay0 rfl ?_
  refine rx_T.to 14 63 [(4, .int 10), (3, .int 0), (2, .int 0), (0, .ref 53), (1, .int 2)] [] rx_lay0 rfl ?_
  refine rx_T.to 14 63 [(4, .int 11), (3, .int 0), (2, .int 0), (0, .ref 53), (1, .int 2)] [] rx_lay0 rfl ?_
  refine rx_T.to 14 63 [(4, .int 12), (3, .int 0), (2, .int 0), (0, .ref 53), (1, .int 2)] [] rx_lay0 rfl ?_
  refine rx_T.to 14 63 [(4, .int 13), (3, .int 0), (2, .int 0), (0, .ref 53), (1, .int 2)] [] rx_lay0 rfl ?_
  refine rx_T.to 14 63 [(4, .int 14), (3, .int 0), (2, .int 0), (0, .ref 53), (1, .int 2)] [] rx_lay0 rfl ?_
  refine rx_T.to 14 63 [(4, .int 15), (3, .int 0), (2, .int 0), (0, .ref 53), (1, .int 2)] [] rx_lay0 rfl ?_
  refine rx_T.to 14 63 [(4, .int 16), (3, .int 0), (2, .int 0), (0, .ref 53), (1, .int 2)] [] rx_lay0 rfl ?_
  refine rx_T.to 14 63 [(4, .int 17), (3, .int 0), (2, .int 0), (0, .ref 53), (1, .int 2)] [] rx_lay0 rfl ?_
  refine rx_T.to 14 63 [(4, .int 18), (3, .int 0), (2, .int 0), (0, .ref 53), (1, .int 2)] [] rx_lay0 rfl ?_
  refine rx_T.to 14 63 [(4, .int 19), (3, .int 0), (2, .int 0), (0, .ref 53), (1, .int 2)] [] rx_lay0 rfl ?_
  refine rx_T.to 14 63 [(4, .int 20), (3, .int 0), (2, .int 0), (0, .ref 53), (1, .int 2)] [] rx_lay0 rfl ?_
  refine rx_T.to 14 63 [(4, .int 21), (3, .int 0), (2, .int 0), (0, .ref 53), (1, .int 2)] [] rx_lay0 rfl ?_
  refine rx_T.to 4 95 [(4, .int 21), (3, .int 0), (2, .int 0), (0, .ref 53), (1, .int 2)] [.int 2] rx_lay0 rfl ?_
  refine rx_T.tsw (M := rxm_160) 55 150 rfl rfl (by decide +kernel) (by decide +kernel) (by decide) ?_
  refine rx_T.to 1 151 _ [.int 0] rx_lay0 rfl ?_
  exact rx_T.ret (M := rxm_160) rfl rfl rfl ⟨rfl, rfl⟩
set_option maxRecDepth 1000000 in
set_option maxHeartbeats 8000000 in
theorem rx_p1_told3_m  : rx_T rx_cds rx_ms rx_lk0 rt d w 160 0 [(0, .ref 53), (1, .int 3)] [] rx_lay0 (fun v h' => v = some (.int (0)) ∧ h' = rx_lay0) := by
  refine rx_T.to 10 24 [(3, .int 0), (2, .int 0), (0, .ref 53), (1, .int 3)] [] rx_lay0 rfl ?_
  refine rx_T.to 8 63 [(4, .int 0), (3, .int 0), (2, .int 0), (0, .ref 53), (1, .int 3)] [] rx_lay0 rfl ?_
  refine rx_T.to 14 63 [(4, .int 1), (3, .int 0), (2, .int 0), (0, .ref 53), (1, .int 3)] [] rx_lay0 rfl ?_
  refine rx_T.to 14 63 [(4, .int 2), (3, .int 0), (2, .int 0), (0, .ref 53), (1, .int 3)] [] rx_lay0 rfl ?_
  refine rx_T.to 14 63 [(4, .int 3), (3, .int 0), (2, .int 0), (0, .ref 53), (1, .int 3)] [] rx_lay0 rfl ?_
  refine rx_T.to 14 63 [(4, .int 4), (3, .int 0), (2, .int 0), (0, .ref 53), (1, .int 3)] [] rx_lay0 rfl ?_
  refine rx_T.to 14 63 [(4, .int 5), (3, .int 0), (2, .int 0), (0, .ref 53), (1, .int 3)] [] rx_lay0 rfl ?_
  refine rx_T.to 14 63 [(4, .int 6), (3, .int 0), (2, .int 0), (0, .ref 53), (1, .int 3)] [] rx_lay0 rfl ?_
  refine rx_T.to 14 63 [(4, .int 7), (3, .int 0), (2, .int 0), (0, .ref 53), (1, .int 3)] [] rx_lay0 rfl ?_
  refine rx_T.to 14 63 [(4, .int 8), (3, .int 0), (2, .int 0), (0, .ref 53), (1, .int 3)] [] rx_lay0 rfl ?_
  refine rx_T.to 14 63 [(4, .int 9), (3, .int 0), (2, .int 0), (0, .ref 53), (1, .int 3)] [] rx_lay0 rfl ?_
  refine rx_T.to 14 63 [(4, .int 10), (3, .int 0), (2, .int 0), (0, .ref 53), (1, .int 3)] [] rx_lay0 rfl ?_
  refine rx_T.to 14 63 [(4, .int 11), (3, .int 0), (2, .int 0), (0, .ref 53), (1, .int 3)] [] rx_lay0 rfl ?_
  refine rx_T.to 14 63 [(4, .int 12), (3, .int 0), (2, .int 0), (0, .ref 53), (1, .int 3)] [] rx_lay0 rfl ?_
  refine rx_T.to 14 63 [(4, .int 13), (3, .int 0), (2, .int 0), (0, .ref 53), (1, .int 3)] [] rx_lay0 rfl ?_
  refine rx_T.to 14 63 [(4, .int 14), (3, .int 0), (2, .int 0), (0, .ref 53), (1, .int 3)] [] rx_lay0 rfl ?_
  refine rx_T.to 14 63 [(4, .int 15), (3, .int 0), (2, .int 0), (0, .ref 53), (1, .int 3)] [] rx_lay0 rfl ?_
  refine rx_T.to 14 63 [(4, .int 16), (3, .int 0), (2, .int 0), (0, .ref 53), (1, .int 3)] [] rx_lay0 rfl ?_
  refine rx_T.to 14 63 [(4, .int 17), (3, .int 0), (2, .int 0), (0, .ref 53), (1, .int 3)] [] rx_lay0 rfl ?_
  refine rx_T.to 14 63 [(4, .int 18), (3, .int 0), (2, .int 0), (0, .ref 53), (1, .int 3)] [] rx_lay0 rfl ?_
  refine rx_T.to 14 63 [(4, .int 19), (3, .int 0), (2, .int 0), (0, .ref 53), (1, .int 3)] [] rx_lay0 rfl ?_
  refine rx_T.to 14 63 [(4, .int 20), (3, .int 0), (2, .int 0), (0, .ref 53), (1, .int 3)] [] rx_lay0 rfl ?_
  refine rx_T.to 14 63 [(4, .int 21), (3, .int 0), (2, .int 0), (0, .ref 53), (1, .int 3)] [] rx_lay0 rfl ?_
  refine rx_T.to 4 95 [(4, .int 21), (3, .int 0), (2, .int 0), (0, .ref 53), (1, .int 3)] [.int 3] rx_lay0 rfl ?_
  refine rx_T.tsw (M := rxm_160) 57 152 rfl rfl (by decide +kernel) (by decide +kernel) (by decide) ?_
  refine rx_T.to 2 156 _ [.int 0] rx_lay0 rfl ?_
  exact rx_T.ret (M := rxm_160) rfl rfl rfl ⟨rfl, rfl⟩
set_option maxRecDepth 1000000 in
set_option maxHeartbeats 8000000 in
theorem rx_p1_toldn_m (a : Int32) (ha : a.toInt < 0 ∨ 7 < a.toInt) : rx_T rx_cds rx_ms rx_lk0 rt d w 160 0 [(0, .ref 53), (1, .int a)] [] rx_lay0 (fun v h' => v = some (.int (-1)) ∧ h' = rx_lay0) := by
  have K : rx_T rx_cds rx_ms rx_lk0 rt d w 160 24 [(3, .int 0), (2, .int 0), (0, .ref 53), (1, .int a)] [] rx_lay0 (fun v h' => v = some (.int (-1)) ∧ h' = rx_lay0) := by
    refine rx_T.to 8 63 [(4, .int 0), (3, .int 0), (2, .int 0), (0, .ref 53), (1, .int a)] [] rx_lay0 rfl ?_
    refine rx_T.to 14 63 [(4, .int 1), (3, .int 0), (2, .int 0), (0, .ref 53), (1, .int a)] [] rx_lay0 rfl ?_
    refine rx_T.to 14 63 [(4, .int 2), (3, .int 0), (2, .int 0), (0, .ref 53), (1, .int a)] [] rx_lay0 rfl ?_
    refine rx_T.to 14 63 [(4, .int 3), (3, .int 0), (2, .int 0), (0, .ref 53), (1, .int a)] [] rx_lay0 rfl ?_
    refine rx_T.to 14 63 [(4, .int 4), (3, .int 0), (2, .int 0), (0, .ref 53), (1, .int a)] [] rx_lay0 rfl ?_
    refine rx_T.to 14 63 [(4, .int 5), (3, .int 0), (2, .int 0), (0, .ref 53), (1, .int a)] [] rx_lay0 rfl ?_
    refine rx_T.to 14 63 [(4, .int 6), (3, .int 0), (2, .int 0), (0, .ref 53), (1, .int a)] [] rx_lay0 rfl ?_
    refine rx_T.to 14 63 [(4, .int 7), (3, .int 0), (2, .int 0), (0, .ref 53), (1, .int a)] [] rx_lay0 rfl ?_
    refine rx_T.to 14 63 [(4, .int 8), (3, .int 0), (2, .int 0), (0, .ref 53), (1, .int a)] [] rx_lay0 rfl ?_
    refine rx_T.to 14 63 [(4, .int 9), (3, .int 0), (2, .int 0), (0, .ref 53), (1, .int a)] [] rx_lay0 rfl ?_
    refine rx_T.to 14 63 [(4, .int 10), (3, .int 0), (2, .int 0), (0, .ref 53), (1, .int a)] [] rx_lay0 rfl ?_
    refine rx_T.to 14 63 [(4, .int 11), (3, .int 0), (2, .int 0), (0, .ref 53), (1, .int a)] [] rx_lay0 rfl ?_
    refine rx_T.to 14 63 [(4, .int 12), (3, .int 0), (2, .int 0), (0, .ref 53), (1, .int a)] [] rx_lay0 rfl ?_
    refine rx_T.to 14 63 [(4, .int 13), (3, .int 0), (2, .int 0), (0, .ref 53), (1, .int a)] [] rx_lay0 rfl ?_
    refine rx_T.to 14 63 [(4, .int 14), (3, .int 0), (2, .int 0), (0, .ref 53), (1, .int a)] [] rx_lay0 rfl ?_
    refine rx_T.to 14 63 [(4, .int 15), (3, .int 0), (2, .int 0), (0, .ref 53), (1, .int a)] [] rx_lay0 rfl ?_
    refine rx_T.to 14 63 [(4, .int 16), (3, .int 0), (2, .int 0), (0, .ref 53), (1, .int a)] [] rx_lay0 rfl ?_
    refine rx_T.to 14 63 [(4, .int 17), (3, .int 0), (2, .int 0), (0, .ref 53), (1, .int a)] [] rx_lay0 rfl ?_
    refine rx_T.to 14 63 [(4, .int 18), (3, .int 0), (2, .int 0), (0, .ref 53), (1, .int a)] [] rx_lay0 rfl ?_
    refine rx_T.to 14 63 [(4, .int 19), (3, .int 0), (2, .int 0), (0, .ref 53), (1, .int a)] [] rx_lay0 rfl ?_
    refine rx_T.to 14 63 [(4, .int 20), (3, .int 0), (2, .int 0), (0, .ref 53), (1, .int a)] [] rx_lay0 rfl ?_
    refine rx_T.to 14 63 [(4, .int 21), (3, .int 0), (2, .int 0), (0, .ref 53), (1, .int a)] [] rx_lay0 rfl ?_
    refine rx_T.to 4 95 [(4, .int 21), (3, .int 0), (2, .int 0), (0, .ref 53), (1, .int a)] [.int a] rx_lay0 rfl ?_
    refine rx_T.tsd (M := rxm_160) 174 rfl rfl ha (by decide) ?_
    refine rx_T.to 1 175 _ [.int (-1)] rx_lay0 rfl ?_
    exact rx_T.ret (M := rxm_160) rfl rfl rfl ⟨rfl, rfl⟩
  refine rx_T.to 9 11 [(3, .int 0), (2, .int 0), (0, .ref 53), (1, .int a)] [.int 3, .int a] rx_lay0 rfl ?_
  refine rx_T.br2 (M := rxm_160) 24 rfl rfl (by decide) (fun _ => K) (fun h1 => ?_)
  refine rx_T.to 2 17 [(3, .int 0), (2, .int 0), (0, .ref 53), (1, .int a)] [.int (Int8.ofInt 8).toInt32, .int a] rx_lay0 rfl ?_
  refine rx_T.br2 (M := rxm_160) 24 rfl rfl (by decide) (fun _ => K) (fun h2 => ?_)
  have a1 : ¬ a.toInt ≤ 3 := fun q => of_decide_eq_false h1 (Int32.le_iff_toInt_le.mpr q)
  have a2 : ¬ 8 ≤ a.toInt := fun q => of_decide_eq_false h2 (Int32.le_iff_toInt_le.mpr q)
  omega
end RXP3
end
section
/-! told(4 .. 7) on fresh objects: the class by the kernel, the reference in stretches -/
def rx_layX : rx_H := rx_lay0.take 37 ++ List.replicate 24 rx_psn
def rx_layM : rx_H := List.replicate 37 rx_psn ++ rx_lay0.drop 37
def rx_isO (o : Option rx_C) (ci : Nat) : Bool := match o with
  | some (.inr q) => Nat.beq q.1 ci
  | _ => false
def rx_prO (o : Option rx_C) : List Value := match o with
  | some (.inr q) => q.2
  | _ => []
theorem rx_isO_e {o : Option rx_C} {ci : Nat} (h : rx_isO o ci = true) : o = some (.inr (ci, rx_prO o)) := by
  unfold rx_isO at h
  split at h
  · next q =>
    obtain ⟨a, b⟩ := q
    have e := Nat.eq_of_beq_eq_true h
    simp only at e
    subst e
    rfl
  · cases h
def rx_isA (o : Option rx_C) (n : Nat) : Bool := match o with
  | some (.inl (0, m, .inl _)) => Nat.beq m n
  | _ => false
def rx_prA (o : Option rx_C) : Nat → Int32 := match o with
  | some (.inl (_, _, .inl f)) => f
  | _ => fun _ => 0
theorem rx_isA_e {o : Option rx_C} {n : Nat} (h : rx_isA o n = true) : o = some (.inl (0, n, .inl (rx_prA o))) := by
  unfold rx_isA at h
  split at h
  · next m f =>
    have e := Nat.eq_of_beq_eq_true h
    subst e
    rfl
  · cases h
theorem rx_T.rt0 {d w mi pc : Nat} {lv : rx_L} {st : List Value} {h : rx_H} {P : Option Value → rx_H → Prop} (L : Nat) (xs : Nat → Int32) (k : rx_T rx_cds rx_ms rx_lk0 rx_rt0 d w mi pc lv st h P) : rx_T rx_cds rx_ms rx_lk0 (rx_rt L xs) d w mi pc lv st h P := by
  obtain ⟨f, v, h', e, hp⟩ := k
  exact ⟨f, v, h', rx_run_more (rx_rt0_in L xs) _ _ _ _ _ _ _ _ _ e _ _ (Nat.le_refl _) (Nat.le_refl _), hp⟩
theorem rx_callv1 {ms : List rx_M} {lk : rx_Lk} {M : rx_M} {st : List Value} {h : rx_H} {N : rx_M} {j nest ix k ci : Nat} {as' as rest vs : List Value} (hl : rx_luv lk.2.2.1 (rx_Mo M) ix = some (j, nest)) (hN : ms[j]? = some N) (hk : rx_Mk N = 1) (hs : st = as.reverse ++ rest) (hal : as.length = rx_an N 1) (hr : (rest.map (fun v => v.category)).sum ≤ 8) (hsl : (lg_sl as).length ≤ rx_Ml N) (h1 : as = .ref (k + 16) :: as') (h2 : h[k]? = some (.inr (ci, vs))) (h3 : ci = rx_Mc N) : rx_call ms lk M (.invokevirtual ix) st h = some (j, as, rest) := by
  show rx_iv ms (rx_luv lk.2.2.1 (rx_Mo M) ix) 1 st h = _
  have e1 : st.take (rx_an N 1) = as.reverse := by rw [hs, ← hal, ← List.length_reverse, List.take_left]
  have e2 : st.drop (rx_an N 1) = rest := by rw [hs, ← hal, ← List.length_reverse, List.drop_left]
  unfold rx_iv
  rw [hl]
  simp only [hN]
  rw [e1, e2, List.reverse_reverse, if_pos]
  refine ⟨hk, ?_, hr, hsl, ?_⟩
  · rw [hs, ← hal, List.length_append, List.length_reverse]
    exact Nat.le_add_right _ _
  · rw [h1]
    unfold rx_rcv
    simp only [rx_ro_i h2]
    rw [h3]
    exact Nat.beq_refl _
theorem rx_layX_le : rx_le rx_layX rx_lay0 := by
  refine ⟨by decide +kernel, fun k c e => ?_⟩
  unfold rx_layX at e
  by_cases hk : k < 37
  · rw [List.getElem?_append_left (by simpa [rx_lay0] using hk), List.getElem?_take_of_lt hk] at e
    exact Or.inr e
  · rw [List.getElem?_append_right (by simp [rx_lay0]; omega)] at e
    have h1 := List.mem_of_getElem? e
    exact Or.inl (List.eq_of_mem_replicate h1)
theorem rx_layM_le {g : rx_H} (hl : g.length = 61) (hg : ∀ k, 37 ≤ k → g[k]? = rx_lay0[k]?) : rx_le rx_layM g := by
  refine ⟨by rw [hl]; decide +kernel, fun k c e => ?_⟩
  unfold rx_layM at e
  by_cases hk : k < 37
  · rw [List.getElem?_append_left (by simpa using hk)] at e
    have h1 := List.mem_of_getElem? e
    exact Or.inl (List.eq_of_mem_replicate h1)
  · rw [List.getElem?_append_right (by simp; omega), List.length_replicate, List.getElem?_drop, show 37 + (k - 37) = k by omega] at e
    exact Or.inr ((hg k (by omega)).trans e)
theorem rx_layX_psn {k : Nat} (h1 : 37 ≤ k) (h2 : k < 61) : rx_layX[k]? = some rx_psn := by
  have h3 : (List.replicate 24 rx_psn)[k - 37]? = some rx_psn := by rw [List.getElem?_replicate, if_pos (by omega)]
  have e : (rx_lay0.take 37).length = 37 := rfl
  unfold rx_layX
  rw [List.getElem?_append_right (by rw [e]; exact h1), e]
  exact h3
end
section
set_option maxRecDepth 1000000 in
set_option maxHeartbeats 8000000 in
theorem rx_p1_tx4 : (rx_run rx_cds rx_ms rx_lk0 rx_rt0 20000 11 447 89 0 [(0, .ref 16), (1, .int 4)] [] rx_layX).map (fun q => (q.1, q.2.length)) = some (some (.int 0), 61) := by decide +kernel
set_option maxRecDepth 1000000 in
set_option maxHeartbeats 8000000 in
theorem rx_p1_tx5 : (rx_run rx_cds rx_ms rx_lk0 rx_rt0 20000 11 447 89 0 [(0, .ref 16), (1, .int 5)] [] rx_layX).map (fun q => (q.1, q.2.length)) = some (some (.int 0), 61) := by decide +kernel
set_option maxRecDepth 1000000 in
set_option maxHeartbeats 8000000 in
theorem rx_p1_tx6 : (rx_run rx_cds rx_ms rx_lk0 rx_rt0 20000 11 447 89 0 [(0, .ref 16), (1, .int 6)] [] rx_layX).map (fun q => (q.1, q.2.length)) = some (some (.int 0), 61) := by decide +kernel
set_option maxRecDepth 1000000 in
set_option maxHeartbeats 8000000 in
theorem rx_p1_tx7 : (rx_run rx_cds rx_ms rx_lk0 rx_rt0 20000 11 447 89 0 [(0, .ref 16), (1, .int 7)] [] rx_layX).map (fun q => (q.1, q.2.length)) = some (some (.int 0), 61) := by decide +kernel
theorem rx_p1_tx {i : Int32} {xs : Nat → Int32} (h : (rx_run rx_cds rx_ms rx_lk0 rx_rt0 20000 11 447 89 0 [(0, .ref 16), (1, .int i)] [] rx_layX).map (fun q => (q.1, q.2.length)) = some (some (.int 0), 61)) : rx_T rx_cds rx_ms rx_lk0 (rx_rt 4 xs) 11 447 89 0 [(0, .ref 16), (1, .int i)] [] rx_lay0 (fun v g => v = some (.int 0) ∧ g.length = 61 ∧ rx_sz g = rx_sz rx_lay0 ∧ ∀ k, 37 ≤ k → g[k]? = rx_lay0[k]?) := by
  obtain ⟨q, h1, h2⟩ := Option.map_eq_some_iff.mp h
  obtain ⟨v, h'⟩ := q
  simp only [Prod.mk.injEq] at h2
  obtain ⟨rfl, h3⟩ := h2
  obtain ⟨g, h4, h5⟩ := rx_run_psn _ _ _ _ _ _ _ _ _ _ h1 rx_lay0 rx_layX_le
  have h6 : g.length = 61 := by rw [← h5.1.1]; exact h3
  refine rx_T.rt0 4 xs ⟨20000, _, g, h4, rfl, h6, rx_run_sz _ _ _ _ _ _ _ _ _ _ h4 (by rw [h6]; rfl), fun k hk => ?_⟩
  by_cases h7 : k < 61
  · exact (h5.2 k (rx_layX_psn hk h7)).2
  · rw [List.getElem?_eq_none (by omega), List.getElem?_eq_none (by show 61 ≤ k; omega)]
section RXL2
variable {rt : rx_R} {d w : Nat} {P : Option Value → rx_H → Prop}
set_option maxRecDepth 100000 in
set_option maxHeartbeats 4000000 in
theorem rx_fill2 (o t : Nat) (fs : List Value) (hfs : fs[31]? = some (.ref (t + 16))) (hot : o ≠ t) : ∀ (m k : Nat) (h : rx_H) (g : Nat → Int32), k + m = 2048 → h[o]? = some (.inr (5, fs)) → h[t]? = some (.inl (0, 2048, .inl g)) →
    rx_T rx_cds rx_ms rx_lk0 rt d w 138 22 [(1, .int (nI 2048)), (0, .ref (o + 16))] [] (h.set t (.inl (0, 2048, .inl (fun j => if k ≤ j ∧ j < 2048 then (-1) else g j)))) P →
    rx_T rx_cds rx_ms rx_lk0 rt d w 138 2 [(1, .int (nI k)), (0, .ref (o + 16))] [] h P := by
  intro m
  induction m with
  | zero =>
    intro k h g hk ho ht K
    have ek : k = 2048 := by omega
    subst ek
    refine rx_T.op (M := rxm_138) (ins := .iload_n 1) rfl rfl rfl rfl rfl ?_
    refine rx_T.op (M := rxm_138) (ins := .sipush 2048) rfl rfl rfl rfl rfl ?_
    refine rx_T.op (M := rxm_138) (ins := .if_icmp .ge 16) rfl rfl rfl rfl (rx_b2_t 22 (by decide +kernel) (by decide)) ?_
    have e1 : (fun j => if 2048 ≤ j ∧ j < 2048 then (-1 : Int32) else g j) = g := funext (fun j => if_neg (fun z => absurd z.2 (Nat.not_lt.mpr z.1)))
    rw [e1] at K
    obtain ⟨h1, h2⟩ := List.getElem?_eq_some_iff.mp ht
    rw [← h2, List.set_getElem_self] at K
    exact K
  | succ m ih =>
    intro k h g hk ho ht K
    refine rx_T.op (M := rxm_138) (ins := .iload_n 1) rfl rfl rfl rfl rfl ?_
    refine rx_T.op (M := rxm_138) (ins := .sipush 2048) rfl rfl rfl rfl rfl ?_
    refine rx_T.op (M := rxm_138) (ins := .if_icmp .ge 16) rfl rfl rfl rfl (rx_b2_f (decide_eq_false (show ¬ (Int16.ofInt 2048).toInt32 ≤ nI k by rw [show (Int16.ofInt 2048).toInt32 = nI 2048 by decide +kernel]; exact nI_ge (by omega) (by decide))) (by decide)) ?_
    refine rx_T.op (M := rxm_138) (ins := .aload_n 0) rfl rfl rfl rfl rfl ?_
    refine rx_T.op (M := rxm_138) (ins := .getfield 78) rfl rfl rfl rfl (rx_gf_i rfl ho hfs) ?_
    refine rx_T.op (M := rxm_138) (ins := .iload_n 1) rfl rfl rfl rfl rfl ?_
    refine rx_T.op (M := rxm_138) (ins := .iconst (-1)) rfl rfl rfl rfl rfl ?_
    refine rx_T.op (M := rxm_138) (ins := .iastore) rfl rfl rfl rfl (rx_ias_i ht (vp_in_nI (by omega) (by decide))) ?_
    refine rx_T.op (M := rxm_138) (ins := .iinc 1 1) rfl rfl rfl rfl rfl ?_
    refine rx_T.op (M := rxm_138) (ins := .goto (-17)) rfl rfl rfl rfl rfl ?_
    have hlt : t < h.length := (List.getElem?_eq_some_iff.mp ht).1
    have e1 : (nI k).toNatClampNeg = k := nI_clamp (by omega)
    show rx_T rx_cds rx_ms rx_lk0 rt d w 138 2 [(1, .int (nI k + Int32.ofInt 1)), (0, .ref (o + 16))] [] _ P
    rw [show nI k + Int32.ofInt 1 = nI (k + 1) from nI_1 k, e1]
    refine ih (k + 1) _ (upd g k (Int32.ofInt (-1))) (by omega) (by rw [List.getElem?_set_ne (Ne.symm hot)]; exact ho) (List.getElem?_set_self hlt) ?_
    rw [List.set_set]
    have e2 : (fun j => if k + 1 ≤ j ∧ j < 2048 then (-1 : Int32) else upd g k (Int32.ofInt (-1)) j) = (fun j => if k ≤ j ∧ j < 2048 then (-1) else g j) := funext (fun j => by
      by_cases ej : j = k
      · subst ej
        rw [if_neg (by omega), if_pos (by omega)]
        simp [upd]
      · simp only [upd, if_neg ej]
        by_cases e3 : k ≤ j ∧ j < 2048
        · rw [if_pos e3, if_pos (by omega)]
        · rw [if_neg e3, if_neg (by omega)])
    rw [e2]
    exact K
end RXL2
def rx_n1 : rx_H := rx_hp (rx_steps rx_cds rx_ms rx_lk0 rx_rt0 20000 9 403 113 19 (0, [(0, .ref 53)], [], rx_layM))
def rx_n2 : rx_H := rx_n1.set 60 (.inl (0, 2048, .inl (fun j => if 0 ≤ j ∧ j < 2048 then (-1) else rx_prA rx_n1[60]? j)))
def rx_n3 : rx_H := rx_hp (rx_steps rx_cds rx_ms rx_lk0 rx_rt0 20000 8 380 138 25 (22, [(1, .int (nI 2048)), (0, .ref 53)], [], rx_n2))
def rx_n4 : rx_H := rx_hp (rx_steps rx_cds rx_ms rx_lk0 rx_rt0 20000 9 403 113 13 (44, [(0, .ref 53)], [], rx_n3))
def rx_n5 : rx_H := rx_hp (rx_steps rx_cds rx_ms rx_lk0 rx_rt0 0 10 423 112 3 (39, [(1, .int 0), (0, .ref 53)], [], rx_n4))
set_option maxRecDepth 1000000 in
set_option maxHeartbeats 8000000 in
theorem rx_n1_at : (rx_steps rx_cds rx_ms rx_lk0 rx_rt0 20000 9 403 113 19 (0, [(0, .ref 53)], [], rx_layM)).map (fun q => (q.1, q.2.1, q.2.2.1)) = some (41, [(0, .ref 53)], [.ref 53]) := by decide +kernel
set_option maxRecDepth 1000000 in
set_option maxHeartbeats 8000000 in
theorem rx_n1_o : rx_isO rx_n1[37]? 5 = true ∧ (rx_prO rx_n1[37]?)[31]? = some (.ref 76) ∧ rx_isA rx_n1[60]? 2048 = true := by decide +kernel
set_option maxRecDepth 1000000 in
set_option maxHeartbeats 8000000 in
theorem rx_n3_at : (rx_steps rx_cds rx_ms rx_lk0 rx_rt0 20000 8 380 138 25 (22, [(1, .int (nI 2048)), (0, .ref 53)], [], rx_n2)).map (fun q => (q.1, q.2.1, q.2.2.1)) = some (127, [(2, .int 0), (1, .int 0), (0, .ref 53)], []) := by decide +kernel
set_option maxRecDepth 1000000 in
set_option maxHeartbeats 8000000 in
theorem rx_n4_at : (rx_steps rx_cds rx_ms rx_lk0 rx_rt0 20000 9 403 113 13 (44, [(0, .ref 53)], [], rx_n3)).map (fun q => (q.1, q.2.1, q.2.2.1)) = some (73, [(0, .ref 53)], []) := by decide +kernel
set_option maxRecDepth 1000000 in
set_option maxHeartbeats 8000000 in
theorem rx_n5_at : (rx_steps rx_cds rx_ms rx_lk0 rx_rt0 0 10 423 112 3 (39, [(1, .int 0), (0, .ref 53)], [], rx_n4)).map (fun q => (q.1, q.2.1, q.2.2.1)) = some (44, [(1, .int 0), (0, .ref 53)], []) := by decide +kernel
set_option maxRecDepth 1000000 in
set_option maxHeartbeats 8000000 in
theorem rx_p1_na  : rx_T rx_cds rx_ms rx_lk0 rx_rt0 8 380 138 0 [(0, .ref 53)] [] rx_n1 (fun v h' => v = none ∧ h' = rx_n3) := by
  refine rx_T.to 2 2 [(1, .int (nI 0)), (0, .ref 53)] [] rx_n1 rfl ?_
  refine rx_fill2 37 60 (rx_prO rx_n1[37]?) rx_n1_o.2.1 (by decide) 2048 0 rx_n1 (rx_prA rx_n1[60]?) rfl (rx_isO_e rx_n1_o.1) (rx_isA_e rx_n1_o.2.2) ?_
  refine rx_T.stretch (h := rx_n2) rx_n3_at ?_
  exact rx_T.ret (M := rxm_138) rfl rfl rfl ⟨rfl, rfl⟩
set_option maxRecDepth 1000000 in
set_option maxHeartbeats 8000000 in
theorem rx_n1_call : rx_call rx_ms rx_lk0 rxm_113 (.invokevirtual 271) [.ref 53] rx_n1 = some (138, [.ref 53], []) := by decide +kernel
set_option maxRecDepth 1000000 in
set_option maxHeartbeats 8000000 in
theorem rx_p1_wk  : rx_T rx_cds rx_ms rx_lk0 rx_rt0 9 403 113 0 [(0, .ref 53)] [] rx_layM (fun v h' => v = none ∧ h' = rx_n4) := by
  refine rx_T.stretch rx_n1_at ?_
  refine rx_T.call (M := rxm_113) (N := rxm_138) (j := 138) (as := [.ref 53]) (rest := []) rfl rfl rfl rx_n1_call rfl (by decide) rx_p1_na ?_
  intro v1 h1 hp
  obtain ⟨rfl, rfl⟩ := hp
  refine rx_T.stretch (h := rx_n3) rx_n4_at ?_
  exact rx_T.ret (M := rxm_113) rfl rfl rfl ⟨rfl, rfl⟩
set_option maxRecDepth 1000000 in
set_option maxHeartbeats 8000000 in
theorem rx_p1_rf  : rx_T rx_cds rx_ms rx_lk0 rx_rt0 10 423 112 0 [(0, .ref 53)] [] rx_layM (fun v h' => v = none ∧ h' = rx_n5) := by
  refine rx_T.to 10 36 [(1, .int 0), (0, .ref 53)] [.ref 53] rx_layM rfl ?_
  refine rx_T.call (M := rxm_112) (N := rxm_113) (j := 113) (as := [.ref 53]) (rest := []) rfl rfl rfl rfl rfl (by decide) rx_p1_wk ?_
  intro v1 h1 hp
  obtain ⟨rfl, rfl⟩ := hp
  refine rx_T.stretch (h := rx_n4) rx_n5_at ?_
  exact rx_T.ret (M := rxm_112) rfl rfl rfl ⟨rfl, rfl⟩
set_option maxRecDepth 1000000 in
set_option maxHeartbeats 8000000 in
theorem rx_n6_at4 : (rx_steps rx_cds rx_ms rx_lk0 rx_rt0 20000 11 444 160 309 (24, [(3, .int 0), (2, .int 0), (0, .ref 53), (1, .int 4)], [], rx_n5)).map (fun q => (q.1, q.2.2.1, q.2.2.2.length)) = some (161, [.int 0], 61) := by decide +kernel
set_option maxRecDepth 1000000 in
set_option maxHeartbeats 8000000 in
theorem rx_p1_tm4  : rx_T rx_cds rx_ms rx_lk0 rx_rt0 11 444 160 0 [(0, .ref 53), (1, .int 4)] [] rx_layM (fun v h' => v = some (.int 0) ∧ h'.length = 61) := by
  refine rx_T.to 14 21 [(3, .int 0), (2, .int 0), (0, .ref 53), (1, .int 4)] [.ref 53] rx_layM rfl ?_
  refine rx_T.call (M := rxm_160) (N := rxm_112) (j := 112) (as := [.ref 53]) (rest := []) rfl rfl rfl rfl rfl (by decide) rx_p1_rf ?_
  intro v1 h1 hp
  obtain ⟨rfl, rfl⟩ := hp
  obtain ⟨q, h1, h2⟩ := Option.map_eq_some_iff.mp rx_n6_at4
  obtain ⟨a, b, c, g⟩ := q
  simp only [Prod.mk.injEq] at h2
  obtain ⟨rfl, rfl, h3⟩ := h2
  refine rx_steps_T 309 _ _ h1 ?_
  exact rx_T.ret (M := rxm_160) rfl rfl rfl ⟨rfl, h3⟩
set_option maxRecDepth 1000000 in
set_option maxHeartbeats 8000000 in
theorem rx_n6_at5 : (rx_steps rx_cds rx_ms rx_lk0 rx_rt0 20000 11 444 160 309 (24, [(3, .int 0), (2, .int 0), (0, .ref 53), (1, .int 5)], [], rx_n5)).map (fun q => (q.1, q.2.2.1, q.2.2.2.length)) = some (166, [.int 0], 61) := by decide +kernel
set_option maxRecDepth 1000000 in
set_option maxHeartbeats 8000000 in
theorem rx_p1_tm5  : rx_T rx_cds rx_ms rx_lk0 rx_rt0 11 444 160 0 [(0, .ref 53), (1, .int 5)] [] rx_layM (fun v h' => v = some (.int 0) ∧ h'.length = 61) := by
  refine rx_T.to 14 21 [(3, .int 0), (2, .int 0), (0, .ref 53), (1, .int 5)] [.ref 53] rx_layM rfl ?_
  refine rx_T.call (M := rxm_160) (N := rxm_112) (j := 112) (as := [.ref 53]) (rest := []) rfl rfl rfl rfl rfl (by decide) rx_p1_rf ?_
  intro v1 h1 hp
  obtain ⟨rfl, rfl⟩ := hp
  obtain ⟨q, h1, h2⟩ := Option.map_eq_some_iff.mp rx_n6_at5
  obtain ⟨a, b, c, g⟩ := q
  simp only [Prod.mk.injEq] at h2
  obtain ⟨rfl, rfl, h3⟩ := h2
  refine rx_steps_T 309 _ _ h1 ?_
  exact rx_T.ret (M := rxm_160) rfl rfl rfl ⟨rfl, h3⟩
set_option maxRecDepth 1000000 in
set_option maxHeartbeats 8000000 in
theorem rx_n6_at6 : (rx_steps rx_cds rx_ms rx_lk0 rx_rt0 20000 11 444 160 309 (24, [(3, .int 0), (2, .int 0), (0, .ref 53), (1, .int 6)], [], rx_n5)).map (fun q => (q.1, q.2.2.1, q.2.2.2.length)) = some (171, [.int 0], 61) := by decide +kernel
set_option maxRecDepth 1000000 in
set_option maxHeartbeats 8000000 in
theorem rx_p1_tm6  : rx_T rx_cds rx_ms rx_lk0 rx_rt0 11 444 160 0 [(0, .ref 53), (1, .int 6)] [] rx_layM (fun v h' => v = some (.int 0) ∧ h'.length = 61) := by
  refine rx_T.to 14 21 [(3, .int 0), (2, .int 0), (0, .ref 53), (1, .int 6)] [.ref 53] rx_layM rfl ?_
  refine rx_T.call (M := rxm_160) (N := rxm_112) (j := 112) (as := [.ref 53]) (rest := []) rfl rfl rfl rfl rfl (by decide) rx_p1_rf ?_
  intro v1 h1 hp
  obtain ⟨rfl, rfl⟩ := hp
  obtain ⟨q, h1, h2⟩ := Option.map_eq_some_iff.mp rx_n6_at6
  obtain ⟨a, b, c, g⟩ := q
  simp only [Prod.mk.injEq] at h2
  obtain ⟨rfl, rfl, h3⟩ := h2
  refine rx_steps_T 309 _ _ h1 ?_
  exact rx_T.ret (M := rxm_160) rfl rfl rfl ⟨rfl, h3⟩
set_option maxRecDepth 1000000 in
set_option maxHeartbeats 8000000 in
theorem rx_n6_at7 : (rx_steps rx_cds rx_ms rx_lk0 rx_rt0 20000 11 444 160 308 (24, [(3, .int 0), (2, .int 0), (0, .ref 53), (1, .int 7)], [], rx_n5)).map (fun q => (q.1, q.2.2.1, q.2.2.2.length)) = some (173, [.int 0], 61) := by decide +kernel
set_option maxRecDepth 1000000 in
set_option maxHeartbeats 8000000 in
theorem rx_p1_tm7  : rx_T rx_cds rx_ms rx_lk0 rx_rt0 11 444 160 0 [(0, .ref 53), (1, .int 7)] [] rx_layM (fun v h' => v = some (.int 0) ∧ h'.length = 61) := by
  refine rx_T.to 14 21 [(3, .int 0), (2, .int 0), (0, .ref 53), (1, .int 7)] [.ref 53] rx_layM rfl ?_
  refine rx_T.call (M := rxm_160) (N := rxm_112) (j := 112) (as := [.ref 53]) (rest := []) rfl rfl rfl rfl rfl (by decide) rx_p1_rf ?_
  intro v1 h1 hp
  obtain ⟨rfl, rfl⟩ := hp
  obtain ⟨q, h1, h2⟩ := Option.map_eq_some_iff.mp rx_n6_at7
  obtain ⟨a, b, c, g⟩ := q
  simp only [Prod.mk.injEq] at h2
  obtain ⟨rfl, rfl, h3⟩ := h2
  refine rx_steps_T 308 _ _ h1 ?_
  exact rx_T.ret (M := rxm_160) rfl rfl rfl ⟨rfl, h3⟩
theorem rx_p1_tm {i : Int32} {xs : Nat → Int32} {g : rx_H} (k : rx_T rx_cds rx_ms rx_lk0 rx_rt0 11 444 160 0 [(0, .ref 53), (1, .int i)] [] rx_layM (fun v h' => v = some (.int 0) ∧ h'.length = 61)) (hl : g.length = 61) (hg : ∀ k, 37 ≤ k → g[k]? = rx_lay0[k]?) : rx_T rx_cds rx_ms rx_lk0 (rx_rt 4 xs) 11 444 160 0 [(0, .ref 53), (1, .int i)] [] g (fun v g' => v = some (.int 0) ∧ g'.length = 61 ∧ rx_sz g' = rx_sz g) := by
  obtain ⟨f, v, h', e, rfl, h1⟩ := k
  obtain ⟨g', h4, h5⟩ := rx_run_psn _ _ _ _ _ _ _ _ _ _ e g (rx_layM_le hl hg)
  have h6 : g'.length = 61 := by rw [← h5.1.1]; exact h1
  exact rx_T.rt0 4 xs ⟨f, _, g', h4, rfl, h6, rx_run_sz _ _ _ _ _ _ _ _ _ _ h4 (by rw [h6, hl])⟩
end
section
section RXP4
def rx_Q1 : Option Value → rx_H → Prop := fun v h' => v = some (.int 1) ∧ h'.length ≤ 600000 ∧ rx_sz h' ≤ 7302250
set_option maxRecDepth 1000000 in
set_option maxHeartbeats 8000000 in
theorem rx_p1_pre (xs : Nat → Int32) (k : Int32) {P : Option Value → rx_H → Prop} (h0 : xs 0 &&& 15 = k) (K : rx_T rx_cds rx_ms rx_lk0 (rx_rt 4 xs) 12 468 0 32 [(3, .int (nI 0)), (2, .ref 53), (1, .ref 16), (0, .ref 0)] [.int k] rx_lay0 P) : rx_T rx_cds rx_ms rx_lk0 (rx_rt 4 xs) 12 468 0 18 [(3, .int (nI 0)), (2, .ref 53), (1, .ref 16), (0, .ref 0)] [] rx_lay0 P := by
  refine rx_T.to 5 23 [(3, .int (nI 0)), (2, .ref 53), (1, .ref 16), (0, .ref 0)] [.int (Int32.ofNat 4 - Int32.ofInt 4), .int (nI 0)] rx_lay0 rfl ?_
  refine rx_T.op (M := rxm_0) (ins := .if_icmp .gt 431) rfl rfl rfl rfl (rx_b2_f (by decide +kernel) (by decide)) ?_
  refine rx_T.to 2 28 [(3, .int (nI 0)), (2, .ref 53), (1, .ref 16), (0, .ref 0)] [.int (nI 0), .ref 0] rx_lay0 rfl ?_
  refine rx_T.iald (M := rxm_0) (n := 4) (f := xs) rfl rfl rfl (vp_in_nI (by decide) (by decide)) ?_
  refine rx_T.to 2 32 [(3, .int (nI 0)), (2, .ref 53), (1, .ref 16), (0, .ref 0)] [.int (xs (nI 0).toNatClampNeg &&& (Int8.ofInt 15).toInt32)] rx_lay0 rfl ?_
  rw [show (nI 0).toNatClampNeg = 0 by decide +kernel, show (Int8.ofInt 15).toInt32 = 15 by decide +kernel, h0]
  exact K
set_option maxRecDepth 1000000 in
set_option maxHeartbeats 8000000 in
theorem rx_p1_fin (xs : Nat → Int32) (h : rx_H) (h1 : h.length ≤ 600000) (h2 : rx_sz h ≤ 7302250) : rx_T rx_cds rx_ms rx_lk0 (rx_rt 4 xs) 12 468 0 448 [(3, .int (nI 0)), (2, .ref 53), (1, .ref 16), (0, .ref 0)] [] h rx_Q1 := by
  refine rx_T.to 2 18 [(3, .int (nI 4)), (2, .ref 53), (1, .ref 16), (0, .ref 0)] [] h rfl ?_
  exact (rx_law_end (Nat.le_refl 4) (by decide) (Nat.le_refl 4)).mono (fun v h' q => by obtain ⟨rfl, rfl⟩ := q; exact ⟨rfl, h1, h2⟩)
set_option maxRecDepth 1000000 in
theorem rx_lay0_sz : rx_lay0.length ≤ 600000 ∧ rx_sz rx_lay0 ≤ 7302250 := by decide +kernel
set_option maxRecDepth 1000000 in
set_option maxHeartbeats 8000000 in
theorem rx_p1_l1 (xs : Nat → Int32) (h0 : xs 0 &&& 15 = 1) : rx_T rx_cds rx_ms rx_lk0 (rx_rt 4 xs) 12 468 0 18 [(3, .int (nI 0)), (2, .ref 53), (1, .ref 16), (0, .ref 0)] [] rx_lay0 rx_Q1 := by
  refine rx_p1_pre xs 1 h0 ?_
  refine rx_T.tsw (M := rxm_0) 97 129 rfl rfl (by decide +kernel) (by decide +kernel) (by decide) ?_
  refine rx_T.to 5 134 [(3, .int (nI 0)), (2, .ref 53), (1, .ref 16), (0, .ref 0)] [.int (nI 0 + Int32.ofInt 1), .ref 0, .ref 16] rx_lay0 rfl ?_
  refine rx_T.iald (M := rxm_0) (n := 4) (f := xs) rfl rfl rfl (by rw [show nI 0 + Int32.ofInt 1 = nI 1 by decide +kernel]; exact vp_in_nI (by decide) (by decide)) ?_
  rw [show (nI 0 + Int32.ofInt 1).toNatClampNeg = 1 by decide +kernel]
  refine rx_T.call (M := rxm_0) (N := rxm_10) (j := 10) (as := [.ref 16, .int (xs 1)]) (rest := []) rfl rfl rfl rfl rfl (by decide) (rx_p1_of_x (xs 1) (by decide)) ?_
  intro v1 h1 hp
  obtain ⟨rfl, rfl⟩ := hp
  refine rx_T.to 5 143 [(3, .int (nI 0)), (2, .ref 53), (1, .ref 16), (0, .ref 0)] [.int (nI 0 + Int32.ofInt 1), .ref 0, .ref 53, .int (-1)] rx_lay0 rfl ?_
  refine rx_T.iald (M := rxm_0) (n := 4) (f := xs) rfl rfl rfl (by rw [show nI 0 + Int32.ofInt 1 = nI 1 by decide +kernel]; exact vp_in_nI (by decide) (by decide)) ?_
  rw [show (nI 0 + Int32.ofInt 1).toNatClampNeg = 1 by decide +kernel]
  refine rx_T.call (M := rxm_0) (N := rxm_98) (j := 98) (as := [.ref 53, .int (xs 1)]) (rest := [.int (-1)]) rfl rfl rfl rfl rfl (by decide) (rx_p1_of_m (xs 1)) ?_
  intro v1 h1 hp
  obtain ⟨rfl, rfl⟩ := hp
  refine rx_T.to 1 448 [(3, .int (nI 0)), (2, .ref 53), (1, .ref 16), (0, .ref 0)] [] rx_lay0 rfl ?_
  exact rx_p1_fin xs rx_lay0 rx_lay0_sz.1 rx_lay0_sz.2
set_option maxRecDepth 1000000 in
set_option maxHeartbeats 8000000 in
theorem rx_p1_l2 (xs : Nat → Int32) (h0 : xs 0 &&& 15 = 2) : rx_T rx_cds rx_ms rx_lk0 (rx_rt 4 xs) 12 468 0 18 [(3, .int (nI 0)), (2, .ref 53), (1, .ref 16), (0, .ref 0)] [] rx_lay0 rx_Q1 := by
  refine rx_p1_pre xs 2 h0 ?_
  refine rx_T.tsw (M := rxm_0) 120 152 rfl rfl (by decide +kernel) (by decide +kernel) (by decide) ?_
  refine rx_T.to 5 157 [(3, .int (nI 0)), (2, .ref 53), (1, .ref 16), (0, .ref 0)] [.int (nI 0 + Int32.ofInt 1), .ref 0, .ref 16] rx_lay0 rfl ?_
  refine rx_T.iald (M := rxm_0) (n := 4) (f := xs) rfl rfl rfl (by rw [show nI 0 + Int32.ofInt 1 = nI 1 by decide +kernel]; exact vp_in_nI (by decide) (by decide)) ?_
  rw [show (nI 0 + Int32.ofInt 1).toNatClampNeg = 1 by decide +kernel]
  refine rx_T.call (M := rxm_0) (N := rxm_12) (j := 12) (as := [.ref 16, .int (xs 1)]) (rest := []) rfl rfl rfl rfl rfl (by decide) (rx_p1_isTrue_x (xs 1) rfl (by decide)) ?_
  intro v1 h1 hp
  obtain ⟨rfl, rfl⟩ := hp
  refine rx_T.to 5 166 [(3, .int (nI 0)), (2, .ref 53), (1, .ref 16), (0, .ref 0)] [.int (nI 0 + Int32.ofInt 1), .ref 0, .ref 53, .int (-1)] rx_lay0 rfl ?_
  refine rx_T.iald (M := rxm_0) (n := 4) (f := xs) rfl rfl rfl (by rw [show nI 0 + Int32.ofInt 1 = nI 1 by decide +kernel]; exact vp_in_nI (by decide) (by decide)) ?_
  rw [show (nI 0 + Int32.ofInt 1).toNatClampNeg = 1 by decide +kernel]
  refine rx_T.call (M := rxm_0) (N := rxm_99) (j := 99) (as := [.ref 53, .int (xs 1)]) (rest := [.int (-1)]) rfl rfl rfl rfl rfl (by decide) (rx_p1_isTrue_m (xs 1) (by decide)) ?_
  intro v1 h1 hp
  obtain ⟨rfl, rfl⟩ := hp
  refine rx_T.to 1 448 [(3, .int (nI 0)), (2, .ref 53), (1, .ref 16), (0, .ref 0)] [] rx_lay0 rfl ?_
  exact rx_p1_fin xs rx_lay0 rx_lay0_sz.1 rx_lay0_sz.2
set_option maxRecDepth 1000000 in
set_option maxHeartbeats 8000000 in
theorem rx_p1_l3 (xs : Nat → Int32) (h0 : xs 0 &&& 15 = 3) : rx_T rx_cds rx_ms rx_lk0 (rx_rt 4 xs) 12 468 0 18 [(3, .int (nI 0)), (2, .ref 53), (1, .ref 16), (0, .ref 0)] [] rx_lay0 rx_Q1 := by
  refine rx_p1_pre xs 3 h0 ?_
  refine rx_T.tsw (M := rxm_0) 143 175 rfl rfl (by decide +kernel) (by decide +kernel) (by decide) ?_
  refine rx_T.to 5 180 [(3, .int (nI 0)), (2, .ref 53), (1, .ref 16), (0, .ref 0)] [.int (nI 0 + Int32.ofInt 1), .ref 0, .ref 16] rx_lay0 rfl ?_
  refine rx_T.iald (M := rxm_0) (n := 4) (f := xs) rfl rfl rfl (by rw [show nI 0 + Int32.ofInt 1 = nI 1 by decide +kernel]; exact vp_in_nI (by decide) (by decide)) ?_
  rw [show (nI 0 + Int32.ofInt 1).toNatClampNeg = 1 by decide +kernel]
  refine rx_T.call (M := rxm_0) (N := rxm_27) (j := 27) (as := [.ref 16, .int (xs 1)]) (rest := []) rfl rfl rfl rfl rfl (by decide) (rx_p1_fact_x (xs 1) rfl (by decide)) ?_
  intro v1 h1 hp
  obtain ⟨rfl, rfl⟩ := hp
  refine rx_T.to 5 189 [(3, .int (nI 0)), (2, .ref 53), (1, .ref 16), (0, .ref 0)] [.int (nI 0 + Int32.ofInt 1), .ref 0, .ref 53, .int (-1)] rx_lay0 rfl ?_
  refine rx_T.iald (M := rxm_0) (n := 4) (f := xs) rfl rfl rfl (by rw [show nI 0 + Int32.ofInt 1 = nI 1 by decide +kernel]; exact vp_in_nI (by decide) (by decide)) ?_
  rw [show (nI 0 + Int32.ofInt 1).toNatClampNeg = 1 by decide +kernel]
  refine rx_T.call (M := rxm_0) (N := rxm_109) (j := 109) (as := [.ref 53, .int (xs 1)]) (rest := [.int (-1)]) rfl rfl rfl rfl rfl (by decide) (rx_p1_fact_m (xs 1) (by decide)) ?_
  intro v1 h1 hp
  obtain ⟨rfl, rfl⟩ := hp
  refine rx_T.to 1 448 [(3, .int (nI 0)), (2, .ref 53), (1, .ref 16), (0, .ref 0)] [] rx_lay0 rfl ?_
  exact rx_p1_fin xs rx_lay0 rx_lay0_sz.1 rx_lay0_sz.2
set_option maxRecDepth 1000000 in
set_option maxHeartbeats 8000000 in
theorem rx_p1_l5 (xs : Nat → Int32) (h0 : xs 0 &&& 15 = 5) : rx_T rx_cds rx_ms rx_lk0 (rx_rt 4 xs) 12 468 0 18 [(3, .int (nI 0)), (2, .ref 53), (1, .ref 16), (0, .ref 0)] [] rx_lay0 rx_Q1 := by
  refine rx_p1_pre xs 5 h0 ?_
  refine rx_T.tsw (M := rxm_0) 215 247 rfl rfl (by decide +kernel) (by decide +kernel) (by decide) ?_
  refine rx_T.to 5 252 [(3, .int (nI 0)), (2, .ref 53), (1, .ref 16), (0, .ref 0)] [.int (nI 0 + Int32.ofInt 1), .ref 0, .ref 16] rx_lay0 rfl ?_
  refine rx_T.iald (M := rxm_0) (n := 4) (f := xs) rfl rfl rfl (by rw [show nI 0 + Int32.ofInt 1 = nI 1 by decide +kernel]; exact vp_in_nI (by decide) (by decide)) ?_
  rw [show (nI 0 + Int32.ofInt 1).toNatClampNeg = 1 by decide +kernel]
  refine rx_T.call (M := rxm_0) (N := rxm_29) (j := 29) (as := [.ref 16, .int (xs 1)]) (rest := []) rfl rfl rfl rfl rfl (by decide) (rx_p1_follows_x (xs 1) rfl (by decide)) ?_
  intro v1 h1 hp
  obtain ⟨rfl, rfl⟩ := hp
  refine rx_T.to 5 261 [(3, .int (nI 0)), (2, .ref 53), (1, .ref 16), (0, .ref 0)] [.int (nI 0 + Int32.ofInt 1), .ref 0, .ref 53, .int (-1)] rx_lay0 rfl ?_
  refine rx_T.iald (M := rxm_0) (n := 4) (f := xs) rfl rfl rfl (by rw [show nI 0 + Int32.ofInt 1 = nI 1 by decide +kernel]; exact vp_in_nI (by decide) (by decide)) ?_
  rw [show (nI 0 + Int32.ofInt 1).toNatClampNeg = 1 by decide +kernel]
  refine rx_T.call (M := rxm_0) (N := rxm_111) (j := 111) (as := [.ref 53, .int (xs 1)]) (rest := [.int (-1)]) rfl rfl rfl rfl rfl (by decide) (rx_p1_follows_m (xs 1) (by decide)) ?_
  intro v1 h1 hp
  obtain ⟨rfl, rfl⟩ := hp
  refine rx_T.to 1 448 [(3, .int (nI 0)), (2, .ref 53), (1, .ref 16), (0, .ref 0)] [] rx_lay0 rfl ?_
  exact rx_p1_fin xs rx_lay0 rx_lay0_sz.1 rx_lay0_sz.2
set_option maxRecDepth 1000000 in
set_option maxHeartbeats 8000000 in
theorem rx_p1_l6 (xs : Nat → Int32) (h0 : xs 0 &&& 15 = 6) : rx_T rx_cds rx_ms rx_lk0 (rx_rt 4 xs) 12 468 0 18 [(3, .int (nI 0)), (2, .ref 53), (1, .ref 16), (0, .ref 0)] [] rx_lay0 rx_Q1 := by
  refine rx_p1_pre xs 6 h0 ?_
  refine rx_T.tsw (M := rxm_0) 238 270 rfl rfl (by decide +kernel) (by decide +kernel) (by decide) ?_
  refine rx_T.to 5 275 [(3, .int (nI 0)), (2, .ref 53), (1, .ref 16), (0, .ref 0)] [.int (nI 0 + Int32.ofInt 1), .ref 0, .ref 16] rx_lay0 rfl ?_
  refine rx_T.iald (M := rxm_0) (n := 4) (f := xs) rfl rfl rfl (by rw [show nI 0 + Int32.ofInt 1 = nI 1 by decide +kernel]; exact vp_in_nI (by decide) (by decide)) ?_
  rw [show (nI 0 + Int32.ofInt 1).toNatClampNeg = 1 by decide +kernel]
  refine rx_T.call (M := rxm_0) (N := rxm_81) (j := 81) (as := [.ref 16, .int (xs 1)]) (rest := []) rfl rfl rfl rfl rfl (by decide) (rx_p1_needs_x (xs 1) rfl (by decide)) ?_
  intro v1 h1 hp
  obtain ⟨rfl, rfl⟩ := hp
  refine rx_T.to 5 284 [(3, .int (nI 0)), (2, .ref 53), (1, .ref 16), (0, .ref 0)] [.int (nI 0 + Int32.ofInt 1), .ref 0, .ref 53, .int (-1)] rx_lay0 rfl ?_
  refine rx_T.iald (M := rxm_0) (n := 4) (f := xs) rfl rfl rfl (by rw [show nI 0 + Int32.ofInt 1 = nI 1 by decide +kernel]; exact vp_in_nI (by decide) (by decide)) ?_
  rw [show (nI 0 + Int32.ofInt 1).toNatClampNeg = 1 by decide +kernel]
  refine rx_T.call (M := rxm_0) (N := rxm_154) (j := 154) (as := [.ref 53, .int (xs 1)]) (rest := [.int (-1)]) rfl rfl rfl rfl rfl (by decide) (rx_p1_needs_m (xs 1) (by decide)) ?_
  intro v1 h1 hp
  obtain ⟨rfl, rfl⟩ := hp
  refine rx_T.to 1 448 [(3, .int (nI 0)), (2, .ref 53), (1, .ref 16), (0, .ref 0)] [] rx_lay0 rfl ?_
  exact rx_p1_fin xs rx_lay0 rx_lay0_sz.1 rx_lay0_sz.2
set_option maxRecDepth 1000000 in
set_option maxHeartbeats 8000000 in
theorem rx_p1_l7 (xs : Nat → Int32) (h0 : xs 0 &&& 15 = 7) : rx_T rx_cds rx_ms rx_lk0 (rx_rt 4 xs) 12 468 0 18 [(3, .int (nI 0)), (2, .ref 53), (1, .ref 16), (0, .ref 0)] [] rx_lay0 rx_Q1 := by
  refine rx_p1_pre xs 7 h0 ?_
  refine rx_T.tsw (M := rxm_0) 261 293 rfl rfl (by decide +kernel) (by decide +kernel) (by decide) ?_
  refine rx_T.to 5 298 [(3, .int (nI 0)), (2, .ref 53), (1, .ref 16), (0, .ref 0)] [.int (nI 0 + Int32.ofInt 1), .ref 0, .ref 16] rx_lay0 rfl ?_
  refine rx_T.iald (M := rxm_0) (n := 4) (f := xs) rfl rfl rfl (by rw [show nI 0 + Int32.ofInt 1 = nI 1 by decide +kernel]; exact vp_in_nI (by decide) (by decide)) ?_
  rw [show (nI 0 + Int32.ofInt 1).toNatClampNeg = 1 by decide +kernel]
  refine rx_T.call (M := rxm_0) (N := rxm_82) (j := 82) (as := [.ref 16, .int (xs 1)]) (rest := []) rfl rfl rfl rfl rfl (by decide) (rx_p1_need_x (xs 1)) ?_
  intro v1 h1 hp
  obtain ⟨rfl, rfl⟩ := hp
  refine rx_T.to 5 307 [(3, .int (nI 0)), (2, .ref 53), (1, .ref 16), (0, .ref 0)] [.int (nI 0 + Int32.ofInt 1), .ref 0, .ref 53, .int (-1)] rx_lay0 rfl ?_
  refine rx_T.iald (M := rxm_0) (n := 4) (f := xs) rfl rfl rfl (by rw [show nI 0 + Int32.ofInt 1 = nI 1 by decide +kernel]; exact vp_in_nI (by decide) (by decide)) ?_
  rw [show (nI 0 + Int32.ofInt 1).toNatClampNeg = 1 by decide +kernel]
  refine rx_T.call (M := rxm_0) (N := rxm_155) (j := 155) (as := [.ref 53, .int (xs 1)]) (rest := [.int (-1)]) rfl rfl rfl rfl rfl (by decide) (rx_p1_need_m (xs 1)) ?_
  intro v1 h1 hp
  obtain ⟨rfl, rfl⟩ := hp
  refine rx_T.to 1 448 [(3, .int (nI 0)), (2, .ref 53), (1, .ref 16), (0, .ref 0)] [] rx_lay0 rfl ?_
  exact rx_p1_fin xs rx_lay0 rx_lay0_sz.1 rx_lay0_sz.2
set_option maxRecDepth 1000000 in
set_option maxHeartbeats 8000000 in
theorem rx_p1_l8 (xs : Nat → Int32) (h0 : xs 0 &&& 15 = 8) : rx_T rx_cds rx_ms rx_lk0 (rx_rt 4 xs) 12 468 0 18 [(3, .int (nI 0)), (2, .ref 53), (1, .ref 16), (0, .ref 0)] [] rx_lay0 rx_Q1 := by
  refine rx_p1_pre xs 8 h0 ?_
  refine rx_T.tsw (M := rxm_0) 284 316 rfl rfl (by decide +kernel) (by decide +kernel) (by decide) ?_
  refine rx_T.to 5 321 [(3, .int (nI 0)), (2, .ref 53), (1, .ref 16), (0, .ref 0)] [.int (nI 0 + Int32.ofInt 1), .ref 0, .ref 16] rx_lay0 rfl ?_
  refine rx_T.iald (M := rxm_0) (n := 4) (f := xs) rfl rfl rfl (by rw [show nI 0 + Int32.ofInt 1 = nI 1 by decide +kernel]; exact vp_in_nI (by decide) (by decide)) ?_
  rw [show (nI 0 + Int32.ofInt 1).toNatClampNeg = 1 by decide +kernel]
  refine rx_T.to 4 326 [(3, .int (nI 0)), (2, .ref 53), (1, .ref 16), (0, .ref 0)] [.int (nI 0 + Int32.ofInt 2), .ref 0, .int (xs 1), .ref 16] rx_lay0 rfl ?_
  refine rx_T.iald (M := rxm_0) (n := 4) (f := xs) rfl rfl rfl (by rw [show nI 0 + Int32.ofInt 2 = nI 2 by decide +kernel]; exact vp_in_nI (by decide) (by decide)) ?_
  rw [show (nI 0 + Int32.ofInt 2).toNatClampNeg = 2 by decide +kernel]
  refine rx_T.call (M := rxm_0) (N := rxm_83) (j := 83) (as := [.ref 16, .int (xs 1), .int (xs 2)]) (rest := []) rfl rfl rfl rfl rfl (by decide) (rx_p1_line_x (xs 1) (xs 2) (by decide)) ?_
  intro v1 h1 hp
  obtain ⟨rfl, rfl⟩ := hp
  refine rx_T.to 5 335 [(3, .int (nI 0)), (2, .ref 53), (1, .ref 16), (0, .ref 0)] [.int (nI 0 + Int32.ofInt 1), .ref 0, .ref 53, .int (0)] rx_lay0 rfl ?_
  refine rx_T.iald (M := rxm_0) (n := 4) (f := xs) rfl rfl rfl (by rw [show nI 0 + Int32.ofInt 1 = nI 1 by decide +kernel]; exact vp_in_nI (by decide) (by decide)) ?_
  rw [show (nI 0 + Int32.ofInt 1).toNatClampNeg = 1 by decide +kernel]
  refine rx_T.to 4 340 [(3, .int (nI 0)), (2, .ref 53), (1, .ref 16), (0, .ref 0)] [.int (nI 0 + Int32.ofInt 2), .ref 0, .int (xs 1), .ref 53, .int (0)] rx_lay0 rfl ?_
  refine rx_T.iald (M := rxm_0) (n := 4) (f := xs) rfl rfl rfl (by rw [show nI 0 + Int32.ofInt 2 = nI 2 by decide +kernel]; exact vp_in_nI (by decide) (by decide)) ?_
  rw [show (nI 0 + Int32.ofInt 2).toNatClampNeg = 2 by decide +kernel]
  refine rx_T.call (M := rxm_0) (N := rxm_156) (j := 156) (as := [.ref 53, .int (xs 1), .int (xs 2)]) (rest := [.int (0)]) rfl rfl rfl rfl rfl (by decide) (rx_p1_line_m (xs 1) (xs 2) (by decide)) ?_
  intro v1 h1 hp
  obtain ⟨rfl, rfl⟩ := hp
  refine rx_T.to 1 448 [(3, .int (nI 0)), (2, .ref 53), (1, .ref 16), (0, .ref 0)] [] rx_lay0 rfl ?_
  exact rx_p1_fin xs rx_lay0 rx_lay0_sz.1 rx_lay0_sz.2
set_option maxRecDepth 1000000 in
set_option maxHeartbeats 8000000 in
theorem rx_p1_l9 (xs : Nat → Int32) (h0 : xs 0 &&& 15 = 9) : rx_T rx_cds rx_ms rx_lk0 (rx_rt 4 xs) 12 468 0 18 [(3, .int (nI 0)), (2, .ref 53), (1, .ref 16), (0, .ref 0)] [] rx_lay0 rx_Q1 := by
  refine rx_p1_pre xs 9 h0 ?_
  refine rx_T.tsw (M := rxm_0) 317 349 rfl rfl (by decide +kernel) (by decide +kernel) (by decide) ?_
  refine rx_T.to 5 354 [(3, .int (nI 0)), (2, .ref 53), (1, .ref 16), (0, .ref 0)] [.int (nI 0 + Int32.ofInt 1), .ref 0, .ref 16] rx_lay0 rfl ?_
  refine rx_T.iald (M := rxm_0) (n := 4) (f := xs) rfl rfl rfl (by rw [show nI 0 + Int32.ofInt 1 = nI 1 by decide +kernel]; exact vp_in_nI (by decide) (by decide)) ?_
  rw [show (nI 0 + Int32.ofInt 1).toNatClampNeg = 1 by decide +kernel]
  refine rx_T.to 4 359 [(3, .int (nI 0)), (2, .ref 53), (1, .ref 16), (0, .ref 0)] [.int (nI 0 + Int32.ofInt 2), .ref 0, .int (xs 1), .ref 16] rx_lay0 rfl ?_
  refine rx_T.iald (M := rxm_0) (n := 4) (f := xs) rfl rfl rfl (by rw [show nI 0 + Int32.ofInt 2 = nI 2 by decide +kernel]; exact vp_in_nI (by decide) (by decide)) ?_
  rw [show (nI 0 + Int32.ofInt 2).toNatClampNeg = 2 by decide +kernel]
  refine rx_T.to 4 364 [(3, .int (nI 0)), (2, .ref 53), (1, .ref 16), (0, .ref 0)] [.int (nI 0 + Int32.ofInt 3), .ref 0, .int (xs 2), .int (xs 1), .ref 16] rx_lay0 rfl ?_
  refine rx_T.iald (M := rxm_0) (n := 4) (f := xs) rfl rfl rfl (by rw [show nI 0 + Int32.ofInt 3 = nI 3 by decide +kernel]; exact vp_in_nI (by decide) (by decide)) ?_
  rw [show (nI 0 + Int32.ofInt 3).toNatClampNeg = 3 by decide +kernel]
  refine rx_T.call (M := rxm_0) (N := rxm_85) (j := 85) (as := [.ref 16, .int (xs 1), .int (xs 2), .int (xs 3)]) (rest := []) rfl rfl rfl rfl rfl (by decide) (rx_p1_circle_x (xs 1) (xs 2) (xs 3) (by decide)) ?_
  intro v1 h1 hp
  obtain ⟨rfl, rfl⟩ := hp
  refine rx_T.to 5 373 [(3, .int (nI 0)), (2, .ref 53), (1, .ref 16), (0, .ref 0)] [.int (nI 0 + Int32.ofInt 1), .ref 0, .ref 53, .int (0)] rx_lay0 rfl ?_
  refine rx_T.iald (M := rxm_0) (n := 4) (f := xs) rfl rfl rfl (by rw [show nI 0 + Int32.ofInt 1 = nI 1 by decide +kernel]; exact vp_in_nI (by decide) (by decide)) ?_
  rw [show (nI 0 + Int32.ofInt 1).toNatClampNeg = 1 by decide +kernel]
  refine rx_T.to 4 378 [(3, .int (nI 0)), (2, .ref 53), (1, .ref 16), (0, .ref 0)] [.int (nI 0 + Int32.ofInt 2), .ref 0, .int (xs 1), .ref 53, .int (0)] rx_lay0 rfl ?_
  refine rx_T.iald (M := rxm_0) (n := 4) (f := xs) rfl rfl rfl (by rw [show nI 0 + Int32.ofInt 2 = nI 2 by decide +kernel]; exact vp_in_nI (by decide) (by decide)) ?_
  rw [show (nI 0 + Int32.ofInt 2).toNatClampNeg = 2 by decide +kernel]
  refine rx_T.to 4 383 [(3, .int (nI 0)), (2, .ref 53), (1, .ref 16), (0, .ref 0)] [.int (nI 0 + Int32.ofInt 3), .ref 0, .int (xs 2), .int (xs 1), .ref 53, .int (0)] rx_lay0 rfl ?_
  refine rx_T.iald (M := rxm_0) (n := 4) (f := xs) rfl rfl rfl (by rw [show nI 0 + Int32.ofInt 3 = nI 3 by decide +kernel]; exact vp_in_nI (by decide) (by decide)) ?_
  rw [show (nI 0 + Int32.ofInt 3).toNatClampNeg = 3 by decide +kernel]
  refine rx_T.call (M := rxm_0) (N := rxm_158) (j := 158) (as := [.ref 53, .int (xs 1), .int (xs 2), .int (xs 3)]) (rest := [.int (0)]) rfl rfl rfl rfl rfl (by decide) (rx_p1_circle_m (xs 1) (xs 2) (xs 3) (by decide)) ?_
  intro v1 h1 hp
  obtain ⟨rfl, rfl⟩ := hp
  refine rx_T.to 1 448 [(3, .int (nI 0)), (2, .ref 53), (1, .ref 16), (0, .ref 0)] [] rx_lay0 rfl ?_
  exact rx_p1_fin xs rx_lay0 rx_lay0_sz.1 rx_lay0_sz.2
set_option maxRecDepth 1000000 in
set_option maxHeartbeats 8000000 in
theorem rx_p1_l10 (xs : Nat → Int32) (h0 : xs 0 &&& 15 = 10) : rx_T rx_cds rx_ms rx_lk0 (rx_rt 4 xs) 12 468 0 18 [(3, .int (nI 0)), (2, .ref 53), (1, .ref 16), (0, .ref 0)] [] rx_lay0 rx_Q1 := by
  refine rx_p1_pre xs 10 h0 ?_
  refine rx_T.tsw (M := rxm_0) 360 392 rfl rfl (by decide +kernel) (by decide +kernel) (by decide) ?_
  refine rx_T.to 5 397 [(3, .int (nI 0)), (2, .ref 53), (1, .ref 16), (0, .ref 0)] [.int (nI 0 + Int32.ofInt 1), .ref 0, .ref 16] rx_lay0 rfl ?_
  refine rx_T.iald (M := rxm_0) (n := 4) (f := xs) rfl rfl rfl (by rw [show nI 0 + Int32.ofInt 1 = nI 1 by decide +kernel]; exact vp_in_nI (by decide) (by decide)) ?_
  rw [show (nI 0 + Int32.ofInt 1).toNatClampNeg = 1 by decide +kernel]
  refine rx_T.to 4 402 [(3, .int (nI 0)), (2, .ref 53), (1, .ref 16), (0, .ref 0)] [.int (nI 0 + Int32.ofInt 2), .ref 0, .int (xs 1), .ref 16] rx_lay0 rfl ?_
  refine rx_T.iald (M := rxm_0) (n := 4) (f := xs) rfl rfl rfl (by rw [show nI 0 + Int32.ofInt 2 = nI 2 by decide +kernel]; exact vp_in_nI (by decide) (by decide)) ?_
  rw [show (nI 0 + Int32.ofInt 2).toNatClampNeg = 2 by decide +kernel]
  refine rx_T.call (M := rxm_0) (N := rxm_87) (j := 87) (as := [.ref 16, .int (xs 1), .int (xs 2)]) (rest := []) rfl rfl rfl rfl rfl (by decide) (rx_p1_length_x (xs 1) (xs 2) (by decide)) ?_
  intro v1 h1 hp
  obtain ⟨rfl, rfl⟩ := hp
  refine rx_T.to 5 411 [(3, .int (nI 0)), (2, .ref 53), (1, .ref 16), (0, .ref 0)] [.int (nI 0 + Int32.ofInt 1), .ref 0, .ref 53, .int (-1)] rx_lay0 rfl ?_
  refine rx_T.iald (M := rxm_0) (n := 4) (f := xs) rfl rfl rfl (by rw [show nI 0 + Int32.ofInt 1 = nI 1 by decide +kernel]; exact vp_in_nI (by decide) (by decide)) ?_
  rw [show (nI 0 + Int32.ofInt 1).toNatClampNeg = 1 by decide +kernel]
  refine rx_T.to 4 416 [(3, .int (nI 0)), (2, .ref 53), (1, .ref 16), (0, .ref 0)] [.int (nI 0 + Int32.ofInt 2), .ref 0, .int (xs 1), .ref 53, .int (-1)] rx_lay0 rfl ?_
  refine rx_T.iald (M := rxm_0) (n := 4) (f := xs) rfl rfl rfl (by rw [show nI 0 + Int32.ofInt 2 = nI 2 by decide +kernel]; exact vp_in_nI (by decide) (by decide)) ?_
  rw [show (nI 0 + Int32.ofInt 2).toNatClampNeg = 2 by decide +kernel]
  refine rx_T.call (M := rxm_0) (N := rxm_159) (j := 159) (as := [.ref 53, .int (xs 1), .int (xs 2)]) (rest := [.int (-1)]) rfl rfl rfl rfl rfl (by decide) (rx_p1_length_m (xs 1) (xs 2) (by decide)) ?_
  intro v1 h1 hp
  obtain ⟨rfl, rfl⟩ := hp
  refine rx_T.to 1 448 [(3, .int (nI 0)), (2, .ref 53), (1, .ref 16), (0, .ref 0)] [] rx_lay0 rfl ?_
  exact rx_p1_fin xs rx_lay0 rx_lay0_sz.1 rx_lay0_sz.2
set_option maxRecDepth 1000000 in
set_option maxHeartbeats 8000000 in
theorem rx_p1_l4 (xs : Nat → Int32) (h0 : xs 0 &&& 15 = 4) : rx_T rx_cds rx_ms rx_lk0 (rx_rt 4 xs) 12 468 0 18 [(3, .int (nI 0)), (2, .ref 53), (1, .ref 16), (0, .ref 0)] [] rx_lay0 rx_Q1 := by
  refine rx_p1_pre xs 4 h0 ?_
  refine rx_T.tsw (M := rxm_0) 166 198 rfl rfl (by decide +kernel) (by decide +kernel) (by decide) ?_
  refine rx_T.to 5 203 [(3, .int (nI 0)), (2, .ref 53), (1, .ref 16), (0, .ref 0)] [.int (nI 0 + Int32.ofInt 1), .ref 0, .ref 16] rx_lay0 rfl ?_
  refine rx_T.iald (M := rxm_0) (n := 4) (f := xs) rfl rfl rfl (by rw [show nI 0 + Int32.ofInt 1 = nI 1 by decide +kernel]; exact vp_in_nI (by decide) (by decide)) ?_
  rw [show (nI 0 + Int32.ofInt 1).toNatClampNeg = 1 by decide +kernel]
  refine rx_T.to 4 208 [(3, .int (nI 0)), (2, .ref 53), (1, .ref 16), (0, .ref 0)] [.int (nI 0 + Int32.ofInt 2), .ref 0, .int (xs 1), .ref 16] rx_lay0 rfl ?_
  refine rx_T.iald (M := rxm_0) (n := 4) (f := xs) rfl rfl rfl (by rw [show nI 0 + Int32.ofInt 2 = nI 2 by decide +kernel]; exact vp_in_nI (by decide) (by decide)) ?_
  rw [show (nI 0 + Int32.ofInt 2).toNatClampNeg = 2 by decide +kernel]
  have K : ∀ z : Int32, rx_T rx_cds rx_ms rx_lk0 (rx_rt 4 xs) 12 468 0 217 [(3, .int (nI 0)), (2, .ref 53), (1, .ref 16), (0, .ref 0)] [.int z, .int (xs 1), .ref 16] rx_lay0 rx_Q1 := by
    intro z
    refine rx_T.call (M := rxm_0) (N := rxm_28) (j := 28) (as := [.ref 16, .int (xs 1), .int z]) (rest := []) rfl rfl rfl rfl rfl (by decide) (rx_p1_turn_x (xs 1) z) ?_
    intro v1 h1 hp
    obtain ⟨rfl, rfl⟩ := hp
    refine rx_T.to 5 225 [(3, .int (nI 0)), (2, .ref 53), (1, .ref 16), (0, .ref 0)] [.int (nI 0 + Int32.ofInt 1), .ref 0, .ref 53, .int 0] rx_lay0 rfl ?_
    refine rx_T.iald (M := rxm_0) (n := 4) (f := xs) rfl rfl rfl (by rw [show nI 0 + Int32.ofInt 1 = nI 1 by decide +kernel]; exact vp_in_nI (by decide) (by decide)) ?_
    rw [show (nI 0 + Int32.ofInt 1).toNatClampNeg = 1 by decide +kernel]
    refine rx_T.to 4 230 [(3, .int (nI 0)), (2, .ref 53), (1, .ref 16), (0, .ref 0)] [.int (nI 0 + Int32.ofInt 2), .ref 0, .int (xs 1), .ref 53, .int 0] rx_lay0 rfl ?_
    refine rx_T.iald (M := rxm_0) (n := 4) (f := xs) rfl rfl rfl (by rw [show nI 0 + Int32.ofInt 2 = nI 2 by decide +kernel]; exact vp_in_nI (by decide) (by decide)) ?_
    rw [show (nI 0 + Int32.ofInt 2).toNatClampNeg = 2 by decide +kernel]
    have K : ∀ z : Int32, rx_T rx_cds rx_ms rx_lk0 (rx_rt 4 xs) 12 468 0 239 [(3, .int (nI 0)), (2, .ref 53), (1, .ref 16), (0, .ref 0)] [.int z, .int (xs 1), .ref 53, .int 0] rx_lay0 rx_Q1 := by
      intro z
      refine rx_T.call (M := rxm_0) (N := rxm_110) (j := 110) (as := [.ref 53, .int (xs 1), .int z]) (rest := [.int 0]) rfl rfl rfl rfl rfl (by decide) (rx_p1_turn_m (xs 1) z) ?_
      intro v1 h1 hp
      obtain ⟨rfl, rfl⟩ := hp
      refine rx_T.to 1 448 [(3, .int (nI 0)), (2, .ref 53), (1, .ref 16), (0, .ref 0)] [] rx_lay0 rfl ?_
      exact rx_p1_fin xs rx_lay0 rx_lay0_sz.1 rx_lay0_sz.2
    refine rx_T.br1 (M := rxm_0) 238 rfl rfl (by decide) (fun _ => ?_) (fun _ => ?_)
    · refine rx_T.to 1 239 [(3, .int (nI 0)), (2, .ref 53), (1, .ref 16), (0, .ref 0)] [.int 0, .int (xs 1), .ref 53, .int 0] rx_lay0 rfl ?_
      exact K 0
    · refine rx_T.to 2 239 [(3, .int (nI 0)), (2, .ref 53), (1, .ref 16), (0, .ref 0)] [.int 1, .int (xs 1), .ref 53, .int 0] rx_lay0 rfl ?_
      exact K 1
  refine rx_T.br1 (M := rxm_0) 216 rfl rfl (by decide) (fun _ => ?_) (fun _ => ?_)
  · refine rx_T.to 1 217 [(3, .int (nI 0)), (2, .ref 53), (1, .ref 16), (0, .ref 0)] [.int 0, .int (xs 1), .ref 16] rx_lay0 rfl ?_
    exact K 0
  · refine rx_T.to 2 217 [(3, .int (nI 0)), (2, .ref 53), (1, .ref 16), (0, .ref 0)] [.int 1, .int (xs 1), .ref 16] rx_lay0 rfl ?_
    exact K 1
set_option maxRecDepth 1000000 in
set_option maxHeartbeats 8000000 in
theorem rx_p1_l0 (xs : Nat → Int32) (h0 : xs 0 &&& 15 = 0) : rx_T rx_cds rx_ms rx_lk0 (rx_rt 4 xs) 12 468 0 18 [(3, .int (nI 0)), (2, .ref 53), (1, .ref 16), (0, .ref 0)] [] rx_lay0 rx_Q1 := by
  refine rx_p1_pre xs 0 h0 ?_
  refine rx_T.tsw (M := rxm_0) 64 96 rfl rfl (by decide +kernel) (by decide +kernel) (by decide) ?_
  refine rx_T.to 5 101 [(3, .int (nI 0)), (2, .ref 53), (1, .ref 16), (0, .ref 0)] [.int (nI 0 + Int32.ofInt 1), .ref 0, .ref 16] rx_lay0 rfl ?_
  refine rx_T.iald (M := rxm_0) (n := 4) (f := xs) rfl rfl rfl (by rw [show nI 0 + Int32.ofInt 1 = nI 1 by decide +kernel]; exact vp_in_nI (by decide) (by decide)) ?_
  rw [show (nI 0 + Int32.ofInt 1).toNatClampNeg = 1 by decide +kernel]
  refine rx_T.to 4 106 [(3, .int (nI 0)), (2, .ref 53), (1, .ref 16), (0, .ref 0)] [.int (nI 0 + Int32.ofInt 2), .ref 0, .int (xs 1), .ref 16] rx_lay0 rfl ?_
  refine rx_T.iald (M := rxm_0) (n := 4) (f := xs) rfl rfl rfl (by rw [show nI 0 + Int32.ofInt 2 = nI 2 by decide +kernel]; exact vp_in_nI (by decide) (by decide)) ?_
  rw [show (nI 0 + Int32.ofInt 2).toNatClampNeg = 2 by decide +kernel]
  refine rx_T.call (M := rxm_0) (N := rxm_6) (j := 6) (as := [.ref 16, .int (xs 1), .int (xs 2)]) (rest := []) rfl rfl rfl rfl rfl (by decide) (rx_p1_point_x (xs 1) (xs 2) (by decide)) ?_
  intro v1 h1 hp
  obtain ⟨hi, rfl, rfl⟩ | ⟨hi, rfl, rfl⟩ := hp
  · refine rx_T.to 5 115 [(3, .int (nI 0)), (2, .ref 53), (1, .ref 16), (0, .ref 0)] [.int (nI 0 + Int32.ofInt 1), .ref 0, .ref 53, .int (0)] (rx_layP (xs 1) (xs 2)) rfl ?_
    refine rx_T.iald (M := rxm_0) (n := 4) (f := xs) rfl rfl rfl (by rw [show nI 0 + Int32.ofInt 1 = nI 1 by decide +kernel]; exact vp_in_nI (by decide) (by decide)) ?_
    rw [show (nI 0 + Int32.ofInt 1).toNatClampNeg = 1 by decide +kernel]
    refine rx_T.to 4 120 [(3, .int (nI 0)), (2, .ref 53), (1, .ref 16), (0, .ref 0)] [.int (nI 0 + Int32.ofInt 2), .ref 0, .int (xs 1), .ref 53, .int (0)] (rx_layP (xs 1) (xs 2)) rfl ?_
    refine rx_T.iald (M := rxm_0) (n := 4) (f := xs) rfl rfl rfl (by rw [show nI 0 + Int32.ofInt 2 = nI 2 by decide +kernel]; exact vp_in_nI (by decide) (by decide)) ?_
    rw [show (nI 0 + Int32.ofInt 2).toNatClampNeg = 2 by decide +kernel]
    refine rx_T.call (M := rxm_0) (N := rxm_97) (j := 97) (as := [.ref 53, .int (xs 1), .int (xs 2)]) (rest := [.int (0)]) rfl rfl rfl rfl rfl (by decide) (rx_p1_point_m1 (xs 1) (xs 2) hi) ?_
    intro v1 h1 hp
    obtain ⟨rfl, rfl⟩ := hp
    refine rx_T.to 1 448 [(3, .int (nI 0)), (2, .ref 53), (1, .ref 16), (0, .ref 0)] [] (rx_layQ (xs 1) (xs 2)) rfl ?_
    exact rx_p1_fin xs (rx_layQ (xs 1) (xs 2)) (by rw [rx_layQ_len]; decide) (by rw [rx_layQ_sz]; exact rx_lay0_sz.2)
  · refine rx_T.to 5 115 [(3, .int (nI 0)), (2, .ref 53), (1, .ref 16), (0, .ref 0)] [.int (nI 0 + Int32.ofInt 1), .ref 0, .ref 53, .int (-1)] rx_lay0 rfl ?_
    refine rx_T.iald (M := rxm_0) (n := 4) (f := xs) rfl rfl rfl (by rw [show nI 0 + Int32.ofInt 1 = nI 1 by decide +kernel]; exact vp_in_nI (by decide) (by decide)) ?_
    rw [show (nI 0 + Int32.ofInt 1).toNatClampNeg = 1 by decide +kernel]
    refine rx_T.to 4 120 [(3, .int (nI 0)), (2, .ref 53), (1, .ref 16), (0, .ref 0)] [.int (nI 0 + Int32.ofInt 2), .ref 0, .int (xs 1), .ref 53, .int (-1)] rx_lay0 rfl ?_
    refine rx_T.iald (M := rxm_0) (n := 4) (f := xs) rfl rfl rfl (by rw [show nI 0 + Int32.ofInt 2 = nI 2 by decide +kernel]; exact vp_in_nI (by decide) (by decide)) ?_
    rw [show (nI 0 + Int32.ofInt 2).toNatClampNeg = 2 by decide +kernel]
    refine rx_T.call (M := rxm_0) (N := rxm_97) (j := 97) (as := [.ref 53, .int (xs 1), .int (xs 2)]) (rest := [.int (-1)]) rfl rfl rfl rfl rfl (by decide) (rx_p1_point_m0 (xs 1) (xs 2) hi) ?_
    intro v1 h1 hp
    obtain ⟨rfl, rfl⟩ := hp
    refine rx_T.to 1 448 [(3, .int (nI 0)), (2, .ref 53), (1, .ref 16), (0, .ref 0)] [] rx_lay0 rfl ?_
    exact rx_p1_fin xs rx_lay0 rx_lay0_sz.1 rx_lay0_sz.2
set_option maxRecDepth 1000000 in
set_option maxHeartbeats 8000000 in
theorem rx_p1_l11_0 (xs : Nat → Int32) (h0 : xs 0 &&& 15 = 11) (h1 : xs 1 = 0) : rx_T rx_cds rx_ms rx_lk0 (rx_rt 4 xs) 12 468 0 18 [(3, .int (nI 0)), (2, .ref 53), (1, .ref 16), (0, .ref 0)] [] rx_lay0 rx_Q1 := by
  refine rx_p1_pre xs 11 h0 ?_
  refine rx_T.tsw (M := rxm_0) 393 425 rfl rfl (by decide +kernel) (by decide +kernel) (by decide) ?_
  refine rx_T.to 5 430 [(3, .int (nI 0)), (2, .ref 53), (1, .ref 16), (0, .ref 0)] [.int (nI 0 + Int32.ofInt 1), .ref 0, .ref 16] rx_lay0 rfl ?_
  refine rx_T.iald (M := rxm_0) (n := 4) (f := xs) rfl rfl rfl (by rw [show nI 0 + Int32.ofInt 1 = nI 1 by decide +kernel]; exact vp_in_nI (by decide) (by decide)) ?_
  rw [show (nI 0 + Int32.ofInt 1).toNatClampNeg = 1 by decide +kernel]
  refine rx_T.call (M := rxm_0) (N := rxm_89) (j := 89) (as := [.ref 16, .int (xs 1)]) (rest := []) rfl rfl rfl rfl rfl (by decide) (by rw [h1]; exact rx_p1_told0_x (by decide)) ?_
  intro v1 h2 hp
  obtain ⟨rfl, rfl⟩ := hp
  refine rx_T.to 5 439 [(3, .int (nI 0)), (2, .ref 53), (1, .ref 16), (0, .ref 0)] [.int (nI 0 + Int32.ofInt 1), .ref 0, .ref 53, .int (0)] rx_lay0 rfl ?_
  refine rx_T.iald (M := rxm_0) (n := 4) (f := xs) rfl rfl rfl (by rw [show nI 0 + Int32.ofInt 1 = nI 1 by decide +kernel]; exact vp_in_nI (by decide) (by decide)) ?_
  rw [show (nI 0 + Int32.ofInt 1).toNatClampNeg = 1 by decide +kernel]
  refine rx_T.call (M := rxm_0) (N := rxm_160) (j := 160) (as := [.ref 53, .int (xs 1)]) (rest := [.int (0)]) rfl rfl rfl rfl rfl (by decide) (by rw [h1]; exact rx_p1_told0_m) ?_
  intro v1 h2 hp
  obtain ⟨rfl, rfl⟩ := hp
  refine rx_T.to 1 448 [(3, .int (nI 0)), (2, .ref 53), (1, .ref 16), (0, .ref 0)] [] rx_lay0 rfl ?_
  exact rx_p1_fin xs rx_lay0 rx_lay0_sz.1 rx_lay0_sz.2
set_option maxRecDepth 1000000 in
set_option maxHeartbeats 8000000 in
theorem rx_p1_l11_1 (xs : Nat → Int32) (h0 : xs 0 &&& 15 = 11) (h1 : xs 1 = 1) : rx_T rx_cds rx_ms rx_lk0 (rx_rt 4 xs) 12 468 0 18 [(3, .int (nI 0)), (2, .ref 53), (1, .ref 16), (0, .ref 0)] [] rx_lay0 rx_Q1 := by
  refine rx_p1_pre xs 11 h0 ?_
  refine rx_T.tsw (M := rxm_0) 393 425 rfl rfl (by decide +kernel) (by decide +kernel) (by decide) ?_
  refine rx_T.to 5 430 [(3, .int (nI 0)), (2, .ref 53), (1, .ref 16), (0, .ref 0)] [.int (nI 0 + Int32.ofInt 1), .ref 0, .ref 16] rx_lay0 rfl ?_
  refine rx_T.iald (M := rxm_0) (n := 4) (f := xs) rfl rfl rfl (by rw [show nI 0 + Int32.ofInt 1 = nI 1 by decide +kernel]; exact vp_in_nI (by decide) (by decide)) ?_
  rw [show (nI 0 + Int32.ofInt 1).toNatClampNeg = 1 by decide +kernel]
  refine rx_T.call (M := rxm_0) (N := rxm_89) (j := 89) (as := [.ref 16, .int (xs 1)]) (rest := []) rfl rfl rfl rfl rfl (by decide) (by rw [h1]; exact rx_p1_told1_x (by decide)) ?_
  intro v1 h2 hp
  obtain ⟨rfl, rfl⟩ := hp
  refine rx_T.to 5 439 [(3, .int (nI 0)), (2, .ref 53), (1, .ref 16), (0, .ref 0)] [.int (nI 0 + Int32.ofInt 1), .ref 0, .ref 53, .int (0)] rx_lay0 rfl ?_
  refine rx_T.iald (M := rxm_0) (n := 4) (f := xs) rfl rfl rfl (by rw [show nI 0 + Int32.ofInt 1 = nI 1 by decide +kernel]; exact vp_in_nI (by decide) (by decide)) ?_
  rw [show (nI 0 + Int32.ofInt 1).toNatClampNeg = 1 by decide +kernel]
  refine rx_T.call (M := rxm_0) (N := rxm_160) (j := 160) (as := [.ref 53, .int (xs 1)]) (rest := [.int (0)]) rfl rfl rfl rfl rfl (by decide) (by rw [h1]; exact rx_p1_told1_m) ?_
  intro v1 h2 hp
  obtain ⟨rfl, rfl⟩ := hp
  refine rx_T.to 1 448 [(3, .int (nI 0)), (2, .ref 53), (1, .ref 16), (0, .ref 0)] [] rx_lay0 rfl ?_
  exact rx_p1_fin xs rx_lay0 rx_lay0_sz.1 rx_lay0_sz.2
set_option maxRecDepth 1000000 in
set_option maxHeartbeats 8000000 in
theorem rx_p1_l11_2 (xs : Nat → Int32) (h0 : xs 0 &&& 15 = 11) (h1 : xs 1 = 2) : rx_T rx_cds rx_ms rx_lk0 (rx_rt 4 xs) 12 468 0 18 [(3, .int (nI 0)), (2, .ref 53), (1, .ref 16), (0, .ref 0)] [] rx_lay0 rx_Q1 := by
  refine rx_p1_pre xs 11 h0 ?_
  refine rx_T.tsw (M := rxm_0) 393 425 rfl rfl (by decide +kernel) (by decide +kernel) (by decide) ?_
  refine rx_T.to 5 430 [(3, .int (nI 0)), (2, .ref 53), (1, .ref 16), (0, .ref 0)] [.int (nI 0 + Int32.ofInt 1), .ref 0, .ref 16] rx_lay0 rfl ?_
  refine rx_T.iald (M := rxm_0) (n := 4) (f := xs) rfl rfl rfl (by rw [show nI 0 + Int32.ofInt 1 = nI 1 by decide +kernel]; exact vp_in_nI (by decide) (by decide)) ?_
  rw [show (nI 0 + Int32.ofInt 1).toNatClampNeg = 1 by decide +kernel]
  refine rx_T.call (M := rxm_0) (N := rxm_89) (j := 89) (as := [.ref 16, .int (xs 1)]) (rest := []) rfl rfl rfl rfl rfl (by decide) (by rw [h1]; exact rx_p1_told2_x (by decide)) ?_
  intro v1 h2 hp
  obtain ⟨rfl, rfl⟩ := hp
  refine rx_T.to 5 439 [(3, .int (nI 0)), (2, .ref 53), (1, .ref 16), (0, .ref 0)] [.int (nI 0 + Int32.ofInt 1), .ref 0, .ref 53, .int (0)] rx_lay0 rfl ?_
  refine rx_T.iald (M := rxm_0) (n := 4) (f := xs) rfl rfl rfl (by rw [show nI 0 + Int32.ofInt 1 = nI 1 by decide +kernel]; exact vp_in_nI (by decide) (by decide)) ?_
  rw [show (nI 0 + Int32.ofInt 1).toNatClampNeg = 1 by decide +kernel]
  refine rx_T.call (M := rxm_0) (N := rxm_160) (j := 160) (as := [.ref 53, .int (xs 1)]) (rest := [.int (0)]) rfl rfl rfl rfl rfl (by decide) (by rw [h1]; exact rx_p1_told2_m) ?_
  intro v1 h2 hp
  obtain ⟨rfl, rfl⟩ := hp
  refine rx_T.to 1 448 [(3, .int (nI 0)), (2, .ref 53), (1, .ref 16), (0, .ref 0)] [] rx_lay0 rfl ?_
  exact rx_p1_fin xs rx_lay0 rx_lay0_sz.1 rx_lay0_sz.2
set_option maxRecDepth 1000000 in
set_option maxHeartbeats 8000000 in
theorem rx_p1_l11_3 (xs : Nat → Int32) (h0 : xs 0 &&& 15 = 11) (h1 : xs 1 = 3) : rx_T rx_cds rx_ms rx_lk0 (rx_rt 4 xs) 12 468 0 18 [(3, .int (nI 0)), (2, .ref 53), (1, .ref 16), (0, .ref 0)] [] rx_lay0 rx_Q1 := by
  refine rx_p1_pre xs 11 h0 ?_
  refine rx_T.tsw (M := rxm_0) 393 425 rfl rfl (by decide +kernel) (by decide +kernel) (by decide) ?_
  refine rx_T.to 5 430 [(3, .int (nI 0)), (2, .ref 53), (1, .ref 16), (0, .ref 0)] [.int (nI 0 + Int32.ofInt 1), .ref 0, .ref 16] rx_lay0 rfl ?_
  refine rx_T.iald (M := rxm_0) (n := 4) (f := xs) rfl rfl rfl (by rw [show nI 0 + Int32.ofInt 1 = nI 1 by decide +kernel]; exact vp_in_nI (by decide) (by decide)) ?_
  rw [show (nI 0 + Int32.ofInt 1).toNatClampNeg = 1 by decide +kernel]
  refine rx_T.call (M := rxm_0) (N := rxm_89) (j := 89) (as := [.ref 16, .int (xs 1)]) (rest := []) rfl rfl rfl rfl rfl (by decide) (by rw [h1]; exact rx_p1_told3_x (by decide)) ?_
  intro v1 h2 hp
  obtain ⟨rfl, rfl⟩ := hp
  refine rx_T.to 5 439 [(3, .int (nI 0)), (2, .ref 53), (1, .ref 16), (0, .ref 0)] [.int (nI 0 + Int32.ofInt 1), .ref 0, .ref 53, .int (0)] rx_lay0 rfl ?_
  refine rx_T.iald (M := rxm_0) (n := 4) (f := xs) rfl rfl rfl (by rw [show nI 0 + Int32.ofInt 1 = nI 1 by decide +kernel]; exact vp_in_nI (by decide) (by decide)) ?_
  rw [show (nI 0 + Int32.ofInt 1).toNatClampNeg = 1 by decide +kernel]
  refine rx_T.call (M := rxm_0) (N := rxm_160) (j := 160) (as := [.ref 53, .int (xs 1)]) (rest := [.int (0)]) rfl rfl rfl rfl rfl (by decide) (by rw [h1]; exact rx_p1_told3_m) ?_
  intro v1 h2 hp
  obtain ⟨rfl, rfl⟩ := hp
  refine rx_T.to 1 448 [(3, .int (nI 0)), (2, .ref 53), (1, .ref 16), (0, .ref 0)] [] rx_lay0 rfl ?_
  exact rx_p1_fin xs rx_lay0 rx_lay0_sz.1 rx_lay0_sz.2
set_option maxRecDepth 1000000 in
set_option maxHeartbeats 8000000 in
theorem rx_p1_l11_n (xs : Nat → Int32) (h0 : xs 0 &&& 15 = 11) (ha : (xs 1).toInt < 0 ∨ 7 < (xs 1).toInt) : rx_T rx_cds rx_ms rx_lk0 (rx_rt 4 xs) 12 468 0 18 [(3, .int (nI 0)), (2, .ref 53), (1, .ref 16), (0, .ref 0)] [] rx_lay0 rx_Q1 := by
  refine rx_p1_pre xs 11 h0 ?_
  refine rx_T.tsw (M := rxm_0) 393 425 rfl rfl (by decide +kernel) (by decide +kernel) (by decide) ?_
  refine rx_T.to 5 430 [(3, .int (nI 0)), (2, .ref 53), (1, .ref 16), (0, .ref 0)] [.int (nI 0 + Int32.ofInt 1), .ref 0, .ref 16] rx_lay0 rfl ?_
  refine rx_T.iald (M := rxm_0) (n := 4) (f := xs) rfl rfl rfl (by rw [show nI 0 + Int32.ofInt 1 = nI 1 by decide +kernel]; exact vp_in_nI (by decide) (by decide)) ?_
  rw [show (nI 0 + Int32.ofInt 1).toNatClampNeg = 1 by decide +kernel]
  refine rx_T.call (M := rxm_0) (N := rxm_89) (j := 89) (as := [.ref 16, .int (xs 1)]) (rest := []) rfl rfl rfl rfl rfl (by decide) (rx_p1_toldn_x (xs 1) ha) ?_
  intro v1 h1 hp
  obtain ⟨rfl, rfl⟩ := hp
  refine rx_T.to 5 439 [(3, .int (nI 0)), (2, .ref 53), (1, .ref 16), (0, .ref 0)] [.int (nI 0 + Int32.ofInt 1), .ref 0, .ref 53, .int (-1)] rx_lay0 rfl ?_
  refine rx_T.iald (M := rxm_0) (n := 4) (f := xs) rfl rfl rfl (by rw [show nI 0 + Int32.ofInt 1 = nI 1 by decide +kernel]; exact vp_in_nI (by decide) (by decide)) ?_
  rw [show (nI 0 + Int32.ofInt 1).toNatClampNeg = 1 by decide +kernel]
  refine rx_T.call (M := rxm_0) (N := rxm_160) (j := 160) (as := [.ref 53, .int (xs 1)]) (rest := [.int (-1)]) rfl rfl rfl rfl rfl (by decide) (rx_p1_toldn_m (xs 1) ha) ?_
  intro v1 h1 hp
  obtain ⟨rfl, rfl⟩ := hp
  refine rx_T.to 1 448 [(3, .int (nI 0)), (2, .ref 53), (1, .ref 16), (0, .ref 0)] [] rx_lay0 rfl ?_
  exact rx_p1_fin xs rx_lay0 rx_lay0_sz.1 rx_lay0_sz.2
set_option maxRecDepth 1000000 in
set_option maxHeartbeats 8000000 in
theorem rx_p1_ln (xs : Nat → Int32) (h0 : 11 < (xs 0 &&& 15).toInt) : rx_T rx_cds rx_ms rx_lk0 (rx_rt 4 xs) 12 468 0 18 [(3, .int (nI 0)), (2, .ref 53), (1, .ref 16), (0, .ref 0)] [] rx_lay0 rx_Q1 := by
  refine rx_p1_pre xs _ rfl ?_
  refine rx_T.tsd (M := rxm_0) 448 rfl rfl (Or.inr h0) (by decide) ?_
  exact rx_p1_fin xs rx_lay0 rx_lay0_sz.1 rx_lay0_sz.2
end RXP4
end
section
section RXP5
set_option maxRecDepth 1000000 in
theorem rx_p1_callm {g : rx_H} {i : Int32} (h4 : ∀ k, 37 ≤ k → g[k]? = rx_lay0[k]?) : rx_call rx_ms rx_lk0 rxm_0 (.invokevirtual 64) [.int i, .ref 53, .int 0] g = some (160, [.ref 53, .int i], [.int 0]) := rx_callv1 (k := 37) (ci := 5) (vs := rx_fsM) (as' := [.int i]) (as := [.ref 53, .int i]) (rest := [.int 0]) (N := rxm_160) (nest := 0) rfl rfl rfl rfl rfl (Nat.le_of_ble_eq_true rfl) (Nat.le_of_ble_eq_true rfl) rfl ((h4 37 (by decide)).trans rfl) rfl
set_option maxRecDepth 1000000 in
set_option maxHeartbeats 8000000 in
theorem rx_p1_l11_4 (xs : Nat → Int32) (h0 : xs 0 &&& 15 = 11) (h1 : xs 1 = 4) : rx_T rx_cds rx_ms rx_lk0 (rx_rt 4 xs) 12 468 0 18 [(3, .int (nI 0)), (2, .ref 53), (1, .ref 16), (0, .ref 0)] [] rx_lay0 rx_Q1 := by
  refine rx_p1_pre xs 11 h0 ?_
  refine rx_T.tsw (M := rxm_0) 393 425 rfl rfl (by decide +kernel) (by decide +kernel) (by decide) ?_
  refine rx_T.to 5 430 [(3, .int (nI 0)), (2, .ref 53), (1, .ref 16), (0, .ref 0)] [.int (nI 0 + Int32.ofInt 1), .ref 0, .ref 16] rx_lay0 rfl ?_
  refine rx_T.iald (M := rxm_0) (n := 4) (f := xs) rfl rfl rfl (by rw [show nI 0 + Int32.ofInt 1 = nI 1 by decide +kernel]; exact vp_in_nI (by decide) (by decide)) ?_
  rw [show (nI 0 + Int32.ofInt 1).toNatClampNeg = 1 by decide +kernel]
  rw [h1]
  refine rx_T.call (M := rxm_0) (N := rxm_89) (j := 89) (as := [.ref 16, .int 4]) (rest := []) rfl rfl rfl rfl rfl (by decide) (rx_p1_tx rx_p1_tx4) ?_
  intro v1 g hp
  obtain ⟨rfl, h2, h3, h4⟩ := hp
  refine rx_T.to 5 439 [(3, .int (nI 0)), (2, .ref 53), (1, .ref 16), (0, .ref 0)] [.int (nI 0 + Int32.ofInt 1), .ref 0, .ref 53, .int 0] g rfl ?_
  refine rx_T.iald (M := rxm_0) (n := 4) (f := xs) rfl rfl rfl (by rw [show nI 0 + Int32.ofInt 1 = nI 1 by decide +kernel]; exact vp_in_nI (by decide) (by decide)) ?_
  rw [show (nI 0 + Int32.ofInt 1).toNatClampNeg = 1 by decide +kernel]
  rw [h1]
  refine rx_T.call (M := rxm_0) (N := rxm_160) (j := 160) (as := [.ref 53, .int 4]) (rest := [.int 0]) rfl rfl rfl (rx_p1_callm h4) rfl (by decide) (rx_p1_tm rx_p1_tm4 h2 h4) ?_
  intro v2 g' hp
  obtain ⟨rfl, h5, h6⟩ := hp
  refine rx_T.to 1 448 [(3, .int (nI 0)), (2, .ref 53), (1, .ref 16), (0, .ref 0)] [] g' rfl ?_
  exact rx_p1_fin xs g' (by rw [h5]; decide) (by rw [h6, h3]; exact rx_lay0_sz.2)
set_option maxRecDepth 1000000 in
set_option maxHeartbeats 8000000 in
theorem rx_p1_l11_5 (xs : Nat → Int32) (h0 : xs 0 &&& 15 = 11) (h1 : xs 1 = 5) : rx_T rx_cds rx_ms rx_lk0 (rx_rt 4 xs) 12 468 0 18 [(3, .int (nI 0)), (2, .ref 53), (1, .ref 16), (0, .ref 0)] [] rx_lay0 rx_Q1 := by
  refine rx_p1_pre xs 11 h0 ?_
  refine rx_T.tsw (M := rxm_0) 393 425 rfl rfl (by decide +kernel) (by decide +kernel) (by decide) ?_
  refine rx_T.to 5 430 [(3, .int (nI 0)), (2, .ref 53), (1, .ref 16), (0, .ref 0)] [.int (nI 0 + Int32.ofInt 1), .ref 0, .ref 16] rx_lay0 rfl ?_
  refine rx_T.iald (M := rxm_0) (n := 4) (f := xs) rfl rfl rfl (by rw [show nI 0 + Int32.ofInt 1 = nI 1 by decide +kernel]; exact vp_in_nI (by decide) (by decide)) ?_
  rw [show (nI 0 + Int32.ofInt 1).toNatClampNeg = 1 by decide +kernel]
  rw [h1]
  refine rx_T.call (M := rxm_0) (N := rxm_89) (j := 89) (as := [.ref 16, .int 5]) (rest := []) rfl rfl rfl rfl rfl (by decide) (rx_p1_tx rx_p1_tx5) ?_
  intro v1 g hp
  obtain ⟨rfl, h2, h3, h4⟩ := hp
  refine rx_T.to 5 439 [(3, .int (nI 0)), (2, .ref 53), (1, .ref 16), (0, .ref 0)] [.int (nI 0 + Int32.ofInt 1), .ref 0, .ref 53, .int 0] g rfl ?_
  refine rx_T.iald (M := rxm_0) (n := 4) (f := xs) rfl rfl rfl (by rw [show nI 0 + Int32.ofInt 1 = nI 1 by decide +kernel]; exact vp_in_nI (by decide) (by decide)) ?_
  rw [show (nI 0 + Int32.ofInt 1).toNatClampNeg = 1 by decide +kernel]
  rw [h1]
  refine rx_T.call (M := rxm_0) (N := rxm_160) (j := 160) (as := [.ref 53, .int 5]) (rest := [.int 0]) rfl rfl rfl (rx_p1_callm h4) rfl (by decide) (rx_p1_tm rx_p1_tm5 h2 h4) ?_
  intro v2 g' hp
  obtain ⟨rfl, h5, h6⟩ := hp
  refine rx_T.to 1 448 [(3, .int (nI 0)), (2, .ref 53), (1, .ref 16), (0, .ref 0)] [] g' rfl ?_
  exact rx_p1_fin xs g' (by rw [h5]; decide) (by rw [h6, h3]; exact rx_lay0_sz.2)
set_option maxRecDepth 1000000 in
set_option maxHeartbeats 8000000 in
theorem rx_p1_l11_6 (xs : Nat → Int32) (h0 : xs 0 &&& 15 = 11) (h1 : xs 1 = 6) : rx_T rx_cds rx_ms rx_lk0 (rx_rt 4 xs) 12 468 0 18 [(3, .int (nI 0)), (2, .ref 53), (1, .ref 16), (0, .ref 0)] [] rx_lay0 rx_Q1 := by
  refine rx_p1_pre xs 11 h0 ?_
  refine rx_T.tsw (M := rxm_0) 393 425 rfl rfl (by decide +kernel) (by decide +kernel) (by decide) ?_
  refine rx_T.to 5 430 [(3, .int (nI 0)), (2, .ref 53), (1, .ref 16), (0, .ref 0)] [.int (nI 0 + Int32.ofInt 1), .ref 0, .ref 16] rx_lay0 rfl ?_
  refine rx_T.iald (M := rxm_0) (n := 4) (f := xs) rfl rfl rfl (by rw [show nI 0 + Int32.ofInt 1 = nI 1 by decide +kernel]; exact vp_in_nI (by decide) (by decide)) ?_
  rw [show (nI 0 + Int32.ofInt 1).toNatClampNeg = 1 by decide +kernel]
  rw [h1]
  refine rx_T.call (M := rxm_0) (N := rxm_89) (j := 89) (as := [.ref 16, .int 6]) (rest := []) rfl rfl rfl rfl rfl (by decide) (rx_p1_tx rx_p1_tx6) ?_
  intro v1 g hp
  obtain ⟨rfl, h2, h3, h4⟩ := hp
  refine rx_T.to 5 439 [(3, .int (nI 0)), (2, .ref 53), (1, .ref 16), (0, .ref 0)] [.int (nI 0 + Int32.ofInt 1), .ref 0, .ref 53, .int 0] g rfl ?_
  refine rx_T.iald (M := rxm_0) (n := 4) (f := xs) rfl rfl rfl (by rw [show nI 0 + Int32.ofInt 1 = nI 1 by decide +kernel]; exact vp_in_nI (by decide) (by decide)) ?_
  rw [show (nI 0 + Int32.ofInt 1).toNatClampNeg = 1 by decide +kernel]
  rw [h1]
  refine rx_T.call (M := rxm_0) (N := rxm_160) (j := 160) (as := [.ref 53, .int 6]) (rest := [.int 0]) rfl rfl rfl (rx_p1_callm h4) rfl (by decide) (rx_p1_tm rx_p1_tm6 h2 h4) ?_
  intro v2 g' hp
  obtain ⟨rfl, h5, h6⟩ := hp
  refine rx_T.to 1 448 [(3, .int (nI 0)), (2, .ref 53), (1, .ref 16), (0, .ref 0)] [] g' rfl ?_
  exact rx_p1_fin xs g' (by rw [h5]; decide) (by rw [h6, h3]; exact rx_lay0_sz.2)
set_option maxRecDepth 1000000 in
set_option maxHeartbeats 8000000 in
theorem rx_p1_l11_7 (xs : Nat → Int32) (h0 : xs 0 &&& 15 = 11) (h1 : xs 1 = 7) : rx_T rx_cds rx_ms rx_lk0 (rx_rt 4 xs) 12 468 0 18 [(3, .int (nI 0)), (2, .ref 53), (1, .ref 16), (0, .ref 0)] [] rx_lay0 rx_Q1 := by
  refine rx_p1_pre xs 11 h0 ?_
  refine rx_T.tsw (M := rxm_0) 393 425 rfl rfl (by decide +kernel) (by decide +kernel) (by decide) ?_
  refine rx_T.to 5 430 [(3, .int (nI 0)), (2, .ref 53), (1, .ref 16), (0, .ref 0)] [.int (nI 0 + Int32.ofInt 1), .ref 0, .ref 16] rx_lay0 rfl ?_
  refine rx_T.iald (M := rxm_0) (n := 4) (f := xs) rfl rfl rfl (by rw [show nI 0 + Int32.ofInt 1 = nI 1 by decide +kernel]; exact vp_in_nI (by decide) (by decide)) ?_
  rw [show (nI 0 + Int32.ofInt 1).toNatClampNeg = 1 by decide +kernel]
  rw [h1]
  refine rx_T.call (M := rxm_0) (N := rxm_89) (j := 89) (as := [.ref 16, .int 7]) (rest := []) rfl rfl rfl rfl rfl (by decide) (rx_p1_tx rx_p1_tx7) ?_
  intro v1 g hp
  obtain ⟨rfl, h2, h3, h4⟩ := hp
  refine rx_T.to 5 439 [(3, .int (nI 0)), (2, .ref 53), (1, .ref 16), (0, .ref 0)] [.int (nI 0 + Int32.ofInt 1), .ref 0, .ref 53, .int 0] g rfl ?_
  refine rx_T.iald (M := rxm_0) (n := 4) (f := xs) rfl rfl rfl (by rw [show nI 0 + Int32.ofInt 1 = nI 1 by decide +kernel]; exact vp_in_nI (by decide) (by decide)) ?_
  rw [show (nI 0 + Int32.ofInt 1).toNatClampNeg = 1 by decide +kernel]
  rw [h1]
  refine rx_T.call (M := rxm_0) (N := rxm_160) (j := 160) (as := [.ref 53, .int 7]) (rest := [.int 0]) rfl rfl rfl (rx_p1_callm h4) rfl (by decide) (rx_p1_tm rx_p1_tm7 h2 h4) ?_
  intro v2 g' hp
  obtain ⟨rfl, h5, h6⟩ := hp
  refine rx_T.to 1 448 [(3, .int (nI 0)), (2, .ref 53), (1, .ref 16), (0, .ref 0)] [] g' rfl ?_
  exact rx_p1_fin xs g' (by rw [h5]; decide) (by rw [h6, h3]; exact rx_lay0_sz.2)
theorem rx_and15 (x : Int32) : ∃ n : Nat, n < 16 ∧ x &&& 15 = nI n := by
  refine ⟨(x &&& 15).toBitVec.toNat, ?_, ?_⟩
  · rw [Int32.toBitVec_and, BitVec.toNat_and]
    exact Nat.lt_of_le_of_lt Nat.and_le_right (by decide)
  · apply Int32.toBitVec_inj.mp
    show _ = BitVec.ofNat 32 _
    simp
theorem rx_i32 {x : Int32} (h1 : ¬ x.toInt < 0) (h2 : ¬ 7 < x.toInt) : x = 0 ∨ x = 1 ∨ x = 2 ∨ x = 3 ∨ x = 4 ∨ x = 5 ∨ x = 6 ∨ x = 7 := by
  have h3 : x.toInt = 0 ∨ x.toInt = 1 ∨ x.toInt = 2 ∨ x.toInt = 3 ∨ x.toInt = 4 ∨ x.toInt = 5 ∨ x.toInt = 6 ∨ x.toInt = 7 := by omega
  rcases h3 with h | h | h | h | h | h | h | h
  · exact Or.inl (Int32.toInt_inj.mp h)
  · exact Or.inr (Or.inl (Int32.toInt_inj.mp h))
  · exact Or.inr (Or.inr (Or.inl (Int32.toInt_inj.mp h)))
  · exact Or.inr (Or.inr (Or.inr (Or.inl (Int32.toInt_inj.mp h))))
  · exact Or.inr (Or.inr (Or.inr (Or.inr (Or.inl (Int32.toInt_inj.mp h)))))
  · exact Or.inr (Or.inr (Or.inr (Or.inr (Or.inr (Or.inl (Int32.toInt_inj.mp h))))))
  · exact Or.inr (Or.inr (Or.inr (Or.inr (Or.inr (Or.inr (Or.inl (Int32.toInt_inj.mp h)))))))
  · exact Or.inr (Or.inr (Or.inr (Or.inr (Or.inr (Or.inr (Or.inr (Int32.toInt_inj.mp h)))))))
set_option maxRecDepth 1000000 in
set_option maxHeartbeats 8000000 in
theorem rx_p1_four (xs : Nat → Int32) : rx_T rx_cds rx_ms rx_lk0 (rx_rt 4 xs) 12 468 0 18 [(3, .int (nI 0)), (2, .ref 53), (1, .ref 16), (0, .ref 0)] [] rx_lay0 rx_Q1 := by
  obtain ⟨n, hn, h0⟩ := rx_and15 (xs 0)
  match n, hn, h0 with
  | 0, _, h0 => exact rx_p1_l0 xs h0
  | 1, _, h0 => exact rx_p1_l1 xs h0
  | 2, _, h0 => exact rx_p1_l2 xs h0
  | 3, _, h0 => exact rx_p1_l3 xs h0
  | 4, _, h0 => exact rx_p1_l4 xs h0
  | 5, _, h0 => exact rx_p1_l5 xs h0
  | 6, _, h0 => exact rx_p1_l6 xs h0
  | 7, _, h0 => exact rx_p1_l7 xs h0
  | 8, _, h0 => exact rx_p1_l8 xs h0
  | 9, _, h0 => exact rx_p1_l9 xs h0
  | 10, _, h0 => exact rx_p1_l10 xs h0
  | 11, _, h0 =>
    by_cases ha : (xs 1).toInt < 0 ∨ 7 < (xs 1).toInt
    · exact rx_p1_l11_n xs h0 ha
    · rcases rx_i32 (fun q => ha (Or.inl q)) (fun q => ha (Or.inr q)) with h | h | h | h | h | h | h | h
      · exact rx_p1_l11_0 xs h0 h
      · exact rx_p1_l11_1 xs h0 h
      · exact rx_p1_l11_2 xs h0 h
      · exact rx_p1_l11_3 xs h0 h
      · exact rx_p1_l11_4 xs h0 h
      · exact rx_p1_l11_5 xs h0 h
      · exact rx_p1_l11_6 xs h0 h
      · exact rx_p1_l11_7 xs h0 h
  | 12, _, h0 => exact rx_p1_ln xs (by rw [h0]; decide +kernel)
  | 13, _, h0 => exact rx_p1_ln xs (by rw [h0]; decide +kernel)
  | 14, _, h0 => exact rx_p1_ln xs (by rw [h0]; decide +kernel)
  | 15, _, h0 => exact rx_p1_ln xs (by rw [h0]; decide +kernel)
  | n + 16, hn, _ => exact absurd hn (by omega)
set_option maxRecDepth 1000000 in
set_option maxHeartbeats 8000000 in
theorem rx_p1_all (L : Nat) (xs : Nat → Int32) (hL : L ≤ 4) : ∃ (f : Nat) (h' : rx_H), rx_run rx_cds rx_ms rx_lk0 (rx_rt L xs) f 12 468 0 0 [(0, .ref 0)] [] [] = some (some (.int 1), h') ∧ h'.length ≤ 600000 ∧ rx_sz h' ≤ 7302250 := by
  have K : rx_T rx_cds rx_ms rx_lk0 (rx_rt L xs) 12 468 0 0 [(0, .ref 0)] [] [] rx_Q1 := by
    refine rx_T.stretch0 (rx_rt0_in L xs) rx_s0_at ?_
    show rx_T rx_cds rx_ms rx_lk0 (rx_rt L xs) 12 468 0 18 [(3, .int (nI 0)), (2, .ref 53), (1, .ref 16), (0, .ref 0)] [] rx_hp0 rx_Q1
    rw [rx_hp0_eq]
    by_cases h4 : L = 4
    · subst h4
      exact rx_p1_four xs
    · exact (rx_law_end hL (by omega) (by decide)).mono (fun v h' q => by obtain ⟨rfl, rfl⟩ := q; exact ⟨rfl, rx_lay0_sz.1, rx_lay0_sz.2⟩)
  obtain ⟨f, v, h', e, rfl, h1, h2⟩ := K
  exact ⟨f, h', e, h1, h2⟩
end RXP5
end
section
theorem whole_start {p : Program} {e : Env} {s : State} {m : MethodId} {below : List Frame} {meth : Method} {c : Code} (l : Launch) {b L : Nat} {xs : Nat → Int32} (hL : L ≤ 4) (C0 : lw_At p s m meth c b L xs) : W p l e room_1 s m #[Value.ref b] below meth c s.heap [] 0 0 (lw_Z below #[Value.ref b] s) (entryFrame m ([Value.ref b] : List Value).toArray 4) := rx_start rx_p1_all l hL C0
set_option maxHeartbeats 4000000 in
theorem lw_walk (l : Launch) (b : Addr) (xs : List Int32) : MetFree l x (headSpec (Jvm.Cond.code x code maxLocals ret :: tables_1) room_1) (lw_P b xs) (fun _ _ _ _ _ => True) lw_Q := by
  refine MetFree.of_bodyS (code := code) (maxLocals := maxLocals) (ret := ret) (by decide) ?_ ?_
  · intro args s m h hn
    obtain ⟨meth, c, h1, h2, h3, h4, h5, h6, -, -⟩ := Cond.code_spec hn (atoms_spec (ws := Jvm.Cond.code x code maxLocals ret :: tables_1) h _ List.mem_cons_self)
    exact ⟨meth, c, h1, h2, h3, h4, h5, h6⟩
  · intro p e s m args below meth c s₁ B hml0 hP _
    obtain ⟨rfl, hx, hbd, hgv⟩ := hP
    obtain ⟨scr, harrAt, hlist, hof, hsmall⟩ := hx
    obtain ⟨hcb, hkn, -, -⟩ := State.arrayAt?_spec harrAt
    have hown : s.vm.findClass R_law = some m.cls := findClass_of_methodNamed B.named
    have hts0 : ∀ c ∈ (Jvm.Cond.code x code maxLocals ret :: tables_1), c.before #[Value.ref b] s = true := atoms_spec (ws := Jvm.Cond.code x code maxLocals ret :: tables_1) B.pre
    have hts : ∀ w ∈ lw_tbl, w.before #[Value.ref b] s = true := k2_hts_sels lw_privs (fun w hw => hts0 w (List.mem_cons_of_mem _ hw)) lw_privs_ok
    have hml : c.maxLocals = 4 := B.maxLocals_eq (hts0 _ List.mem_cons_self)
    have X₀ : Stand p l e room_1 s m #[Value.ref b] below meth c s₁ [] 0 0 := Stand.of_body B
    have hh0 : s₁.heap = s.heap := by rw [B.state]; rfl
    have hsz : scr.slots.size = xs.length := by rw [← Array.length_toList, hlist, List.length_map]
    have hval : ∀ j : Nat, j < xs.length → scr.slots[j]? = some (.int (xs.getD j 0)) := fun j hj => by
      rw [← Array.getElem?_toList, hlist]
      simp [hj]
    have hbl : b < s.heap.size := (Array.getElem?_eq_some_iff.mp hcb).1
    have hX : va_X b xs.length (fun j => xs.getD j 0) s s.heap := ⟨scr, hcb, hof, hkn, hsz, hval⟩
    have K : W p l e room_1 s m #[Value.ref b] below meth c s₁.heap [] 0 0 (lw_Z below #[Value.ref b] s) (entryFrame m ([Value.ref b] : List Value).toArray 4) := by
      rw [hh0]
      exact whole_start l hbd ⟨B.exec, B.bytes, B.returns, hml, hown, hts, hX, hbl, B.notSynchronized, hgv⟩
    obtain ⟨t, a1, o, b1, b2, b3⟩ := K s₁ rfl X₀
    exact ⟨t, o, a1, b1, b2, b3⟩
theorem lw_pre_spec {args : Array Value} {s : State} (h : (Jvm.Cond.and given_1 narrow_1).before args s = true) (hr : rest_1_c.before args s = true) : ∃ (b : Addr) (xs : List Int32), lw_P b xs args s := by
  have hs := flat_of_before _ h
  have hq := flat_of_before _ hr
  have hc : (Cond.count 1).before args s = true := hs _ (by decide +kernel)
  have harr : (Cond.arrayOf (.arg 0) .int).before args s = true := hs _ (by decide +kernel)
  have hle : (Cond.le (.length (.arg 0)) (.int 4)).before args s = true := hs _ (by decide +kernel)
  have hlen : (Cond.isInt (.length (.arg 0))).before args s = true := hq _ (by decide +kernel)
  have hall : (Cond.all (.arg 0) (.isInt (.elem (.arg 0) (.index 0)))).before args s = true := hq _ (by decide +kernel)
  obtain ⟨b, xs, hb, hx⟩ := State.ints_of_pre rfl harr hlen hall
  have hsm : xs.length < 2 ^ 31 := hx.choose_spec.2.2.2
  have hev : (Term.length (.arg 0)).eval args s none [] s = some (.int xs.length.toInt32) := hx.length_eval hb
  have hv := Cond.le_ints hev (show (Term.int 4).eval args s none [] s = some (.int 4) from rfl)
  have hd : xs.length.toInt32 ≤ 4 := by
    simpa [Cond.before, Cond.holds, hv] using hle
  have hN : xs.length ≤ 4 := (Int32.ofNat_le_ofNat hsm (by decide)).mp (show Int32.ofNat xs.length ≤ Int32.ofNat 4 from hd)
  exact ⟨b, xs, Cond.one_arg hc (show args[0]? = some (.ref b) from hb), hx, hN, h⟩
theorem lw_comes (l : Launch) : Comes l x (Jvm.Cond.code x code maxLocals ret :: tables_1) room_1 (fun tb e args s => Calls_1 tb e args s ∧ rest_1 tb e args s ∧ Pre_1 tb e args s)
    (fun _ _ args s o t => lw_Q args s o t) := by
  intro p e ha hc hk s m args below hf hfit hheap happ hpre
  obtain ⟨b, xs, hP⟩ := lw_pre_spec hpre.2.2 hpre.2.1
  obtain ⟨k, o, h1, h2, h3, hQ⟩ := lw_walk l b xs p e ha hc hk s m args below hf ((Spec.applies_iff_loose hf).mp happ).1 hP trivial
  exact ⟨k, o, h1, h2, h3, hQ⟩
theorem lw_frame {s t : State} {o : Outcome} {args : Array Value} (h : Framed s o t [] 600000 7302250) :
    Framed s o t (fieldLocs frame_1_writes args s ++ arrayLocs frame_1_arrays args s ++ staticLocs frame_1_statics s) 600000 7302250 := h
theorem lw_limb (L : Cond) (hL : ∀ (args : Array Value) (s t : State), L.after args s (.returned (some (.int 1))) t = true) :
    ArmFor flags0 classFile x code maxLocals ret World_1 tables_1 room_1 Calls_1 rest_1 Pre_1
      (fun tb e a s o t => postC L tb e a s o t ∧ Framed s o t (fieldLocs frame_1_writes a s ++ arrayLocs frame_1_arrays a s ++ staticLocs frame_1_statics s) 600000 7302250) := by
  intro l _ _ _ p e ha hc hk s m args below hf hfit hheap happ hpre
  obtain ⟨k, o, h1, h2, h3, rfl, hF⟩ := lw_comes l p e ha hc hk s m args below hf hfit hheap happ hpre
  exact ⟨k, _, h1, h2, h3, hL args s _, lw_frame hF⟩
theorem i_vc : Claimed_1_1 ∧ Claimed_1_2 := ⟨lw_limb limb_1_1 (fun args s t => by simp [limb_1_1, Cond.after, Cond.holds, Cond.value]), lw_limb limb_1_2 (fun args s t => Cond.after_iff.mpr (by
  first | (rw [show limb_1_2 = Cond.eq .result (.int 1) from rfl, Cond.eq_ints (x := 1) (y := 1) rfl rfl]; simp; done) | (simp [limb_1_2, Cond.value, Term.eval]; done)))⟩
end
