section
-- ===== PART A: goes FIRST, ahead of the names: the tables' words, and 'selects' of the private methods out of them =====
/-- a private method of a class that the tables say can be made, by its rows of tables_1 -/
def lw_okq (q : MethodName × Nat) : Prop := (q.1.cls ≠ "java/lang/invoke/MethodHandle" ∧ q.1.cls ≠ "java/lang/invoke/VarHandle") ∧ Cond.instantiable q.1.cls q.2 ∈ tables_1 ∧ Cond.privateMethod q.1 ∈ tables_1 ∧ Cond.instanceMethod q.1 ∈ tables_1
theorem lw_p0 : lw_okq (⟨"AngleChains", "takeDraft", "(I)I"⟩, 8) := ⟨⟨by decide +kernel, by decide +kernel⟩, List.mem_of_getElem? (i := 12) (by decide +kernel), List.mem_of_getElem? (i := 180) (by decide +kernel), List.mem_of_getElem? (i := 181) (by decide +kernel)⟩
theorem lw_p1 : lw_okq (⟨"AngleChains$Figure", "hasLikeTurns", "(I)Z"⟩, 3) := ⟨⟨by decide +kernel, by decide +kernel⟩, List.mem_of_getElem? (i := 20) (by decide +kernel), List.mem_of_getElem? (i := 233) (by decide +kernel), List.mem_of_getElem? (i := 234) (by decide +kernel)⟩
theorem lw_p2 : lw_okq (⟨"AngleChains$Cases", "findBisectors", "(II)V"⟩, 3) := ⟨⟨by decide +kernel, by decide +kernel⟩, List.mem_of_getElem? (i := 70) (by decide +kernel), List.mem_of_getElem? (i := 257) (by decide +kernel), List.mem_of_getElem? (i := 258) (by decide +kernel)⟩
theorem lw_p3 : lw_okq (⟨"AngleChains$Cases", "add", "(IIIIII)V"⟩, 3) := ⟨⟨by decide +kernel, by decide +kernel⟩, List.mem_of_getElem? (i := 70) (by decide +kernel), List.mem_of_getElem? (i := 262) (by decide +kernel), List.mem_of_getElem? (i := 263) (by decide +kernel)⟩
theorem lw_p4 : lw_okq (⟨"AngleChains$Cases", "findOfThree", "(III)V"⟩, 3) := ⟨⟨by decide +kernel, by decide +kernel⟩, List.mem_of_getElem? (i := 70) (by decide +kernel), List.mem_of_getElem? (i := 266) (by decide +kernel), List.mem_of_getElem? (i := 267) (by decide +kernel)⟩
theorem lw_p5 : lw_okq (⟨"AngleChains$Cases", "findAtCorner", "(III)V"⟩, 3) := ⟨⟨by decide +kernel, by decide +kernel⟩, List.mem_of_getElem? (i := 70) (by decide +kernel), List.mem_of_getElem? (i := 271) (by decide +kernel), List.mem_of_getElem? (i := 272) (by decide +kernel)⟩
theorem lw_p6 : lw_okq (⟨"AngleChains$Cases", "findOfFour", "(IIII)V"⟩, 3) := ⟨⟨by decide +kernel, by decide +kernel⟩, List.mem_of_getElem? (i := 70) (by decide +kernel), List.mem_of_getElem? (i := 279) (by decide +kernel), List.mem_of_getElem? (i := 280) (by decide +kernel)⟩
theorem lw_p7 : lw_okq (⟨"AngleChains$Cases", "findCentre", "(IIII)V"⟩, 3) := ⟨⟨by decide +kernel, by decide +kernel⟩, List.mem_of_getElem? (i := 70) (by decide +kernel), List.mem_of_getElem? (i := 284) (by decide +kernel), List.mem_of_getElem? (i := 285) (by decide +kernel)⟩
theorem lw_p8 : lw_okq (⟨"AngleChains$Cases", "findParallelogram", "(IIII)V"⟩, 3) := ⟨⟨by decide +kernel, by decide +kernel⟩, List.mem_of_getElem? (i := 70) (by decide +kernel), List.mem_of_getElem? (i := 288) (by decide +kernel), List.mem_of_getElem? (i := 289) (by decide +kernel)⟩
theorem lw_p9 : lw_okq (⟨"AngleChains$Deduction", "start", "()V"⟩, 13) := ⟨⟨by decide +kernel, by decide +kernel⟩, List.mem_of_getElem? (i := 40) (by decide +kernel), List.mem_of_getElem? (i := 296) (by decide +kernel), List.mem_of_getElem? (i := 297) (by decide +kernel)⟩
theorem lw_p10 : lw_okq (⟨"AngleChains$Deduction", "isProper", "(I)Z"⟩, 13) := ⟨⟨by decide +kernel, by decide +kernel⟩, List.mem_of_getElem? (i := 40) (by decide +kernel), List.mem_of_getElem? (i := 311) (by decide +kernel), List.mem_of_getElem? (i := 312) (by decide +kernel)⟩
theorem lw_p11 : lw_okq (⟨"AngleChains$Deduction", "assume", "(I)V"⟩, 13) := ⟨⟨by decide +kernel, by decide +kernel⟩, List.mem_of_getElem? (i := 40) (by decide +kernel), List.mem_of_getElem? (i := 327) (by decide +kernel), List.mem_of_getElem? (i := 328) (by decide +kernel)⟩
theorem lw_p12 : lw_okq (⟨"AngleChains$Deduction", "joinLine", "(I)V"⟩, 13) := ⟨⟨by decide +kernel, by decide +kernel⟩, List.mem_of_getElem? (i := 40) (by decide +kernel), List.mem_of_getElem? (i := 333) (by decide +kernel), List.mem_of_getElem? (i := 334) (by decide +kernel)⟩
theorem lw_p13 : lw_okq (⟨"AngleChains$Rows", "subtract", "([JJI)V"⟩, 4) := ⟨⟨by decide +kernel, by decide +kernel⟩, List.mem_of_getElem? (i := 46) (by decide +kernel), List.mem_of_getElem? (i := 346) (by decide +kernel), List.mem_of_getElem? (i := 347) (by decide +kernel)⟩
theorem lw_p14 : lw_okq (⟨"AngleChains$Rows", "swapWithBasis", "(I)V"⟩, 4) := ⟨⟨by decide +kernel, by decide +kernel⟩, List.mem_of_getElem? (i := 46) (by decide +kernel), List.mem_of_getElem? (i := 350) (by decide +kernel), List.mem_of_getElem? (i := 351) (by decide +kernel)⟩
theorem lw_p15 : lw_okq (⟨"AngleChains$Rows", "settle", "()V"⟩, 4) := ⟨⟨by decide +kernel, by decide +kernel⟩, List.mem_of_getElem? (i := 46) (by decide +kernel), List.mem_of_getElem? (i := 355) (by decide +kernel), List.mem_of_getElem? (i := 356) (by decide +kernel)⟩
def lw_privs_1 : List (MethodName × Nat) := [(⟨"AngleChains", "takeDraft", "(I)I"⟩, 8), (⟨"AngleChains$Figure", "hasLikeTurns", "(I)Z"⟩, 3), (⟨"AngleChains$Cases", "findBisectors", "(II)V"⟩, 3), (⟨"AngleChains$Cases", "add", "(IIIIII)V"⟩, 3), (⟨"AngleChains$Cases", "findOfThree", "(III)V"⟩, 3), (⟨"AngleChains$Cases", "findAtCorner", "(III)V"⟩, 3), (⟨"AngleChains$Cases", "findOfFour", "(IIII)V"⟩, 3), (⟨"AngleChains$Cases", "findCentre", "(IIII)V"⟩, 3), (⟨"AngleChains$Cases", "findParallelogram", "(IIII)V"⟩, 3), (⟨"AngleChains$Deduction", "start", "()V"⟩, 13), (⟨"AngleChains$Deduction", "isProper", "(I)Z"⟩, 13), (⟨"AngleChains$Deduction", "assume", "(I)V"⟩, 13), (⟨"AngleChains$Deduction", "joinLine", "(I)V"⟩, 13), (⟨"AngleChains$Rows", "subtract", "([JJI)V"⟩, 4), (⟨"AngleChains$Rows", "swapWithBasis", "(I)V"⟩, 4), (⟨"AngleChains$Rows", "settle", "()V"⟩, 4)]
theorem lw_r1 : ∀ q ∈ lw_privs_1, lw_okq q := List.forall_mem_cons.mpr ⟨lw_p0, List.forall_mem_cons.mpr ⟨lw_p1, List.forall_mem_cons.mpr ⟨lw_p2, List.forall_mem_cons.mpr ⟨lw_p3, List.forall_mem_cons.mpr ⟨lw_p4, List.forall_mem_cons.mpr ⟨lw_p5, List.forall_mem_cons.mpr ⟨lw_p6, List.forall_mem_cons.mpr ⟨lw_p7, List.forall_mem_cons.mpr ⟨lw_p8, List.forall_mem_cons.mpr ⟨lw_p9, List.forall_mem_cons.mpr ⟨lw_p10, List.forall_mem_cons.mpr ⟨lw_p11, List.forall_mem_cons.mpr ⟨lw_p12, List.forall_mem_cons.mpr ⟨lw_p13, List.forall_mem_cons.mpr ⟨lw_p14, List.forall_mem_cons.mpr ⟨lw_p15, fun _ h => absurd h List.not_mem_nil⟩⟩⟩⟩⟩⟩⟩⟩⟩⟩⟩⟩⟩⟩⟩⟩
theorem lw_p16 : lw_okq (⟨"AngleChains$Deduction", "joinCircle", "(I)V"⟩, 13) := ⟨⟨by decide +kernel, by decide +kernel⟩, List.mem_of_getElem? (i := 40) (by decide +kernel), List.mem_of_getElem? (i := 359) (by decide +kernel), List.mem_of_getElem? (i := 360) (by decide +kernel)⟩
theorem lw_p17 : lw_okq (⟨"AngleChains$Deduction", "joinLengths", "(II)V"⟩, 13) := ⟨⟨by decide +kernel, by decide +kernel⟩, List.mem_of_getElem? (i := 40) (by decide +kernel), List.mem_of_getElem? (i := 371) (by decide +kernel), List.mem_of_getElem? (i := 372) (by decide +kernel)⟩
theorem lw_p18 : lw_okq (⟨"AngleChains$Deduction", "writeRowOf", "(I)V"⟩, 13) := ⟨⟨by decide +kernel, by decide +kernel⟩, List.mem_of_getElem? (i := 40) (by decide +kernel), List.mem_of_getElem? (i := 381) (by decide +kernel), List.mem_of_getElem? (i := 382) (by decide +kernel)⟩
theorem lw_p19 : lw_okq (⟨"AngleChains$Deduction", "writeDifference", "(III)V"⟩, 13) := ⟨⟨by decide +kernel, by decide +kernel⟩, List.mem_of_getElem? (i := 40) (by decide +kernel), List.mem_of_getElem? (i := 385) (by decide +kernel), List.mem_of_getElem? (i := 386) (by decide +kernel)⟩
theorem lw_p20 : lw_okq (⟨"AngleChains$Deduction", "writeTurns", "(IIII)V"⟩, 13) := ⟨⟨by decide +kernel, by decide +kernel⟩, List.mem_of_getElem? (i := 40) (by decide +kernel), List.mem_of_getElem? (i := 389) (by decide +kernel), List.mem_of_getElem? (i := 390) (by decide +kernel)⟩
theorem lw_p21 : lw_okq (⟨"AngleChains$Deduction", "usesUp", "(I)Z"⟩, 13) := ⟨⟨by decide +kernel, by decide +kernel⟩, List.mem_of_getElem? (i := 40) (by decide +kernel), List.mem_of_getElem? (i := 397) (by decide +kernel), List.mem_of_getElem? (i := 398) (by decide +kernel)⟩
theorem lw_p22 : lw_okq (⟨"AngleChains$Deduction", "triesLine", "(I)Z"⟩, 13) := ⟨⟨by decide +kernel, by decide +kernel⟩, List.mem_of_getElem? (i := 40) (by decide +kernel), List.mem_of_getElem? (i := 401) (by decide +kernel), List.mem_of_getElem? (i := 402) (by decide +kernel)⟩
theorem lw_p23 : lw_okq (⟨"AngleChains$Deduction", "areOnLine", "(I)Z"⟩, 13) := ⟨⟨by decide +kernel, by decide +kernel⟩, List.mem_of_getElem? (i := 40) (by decide +kernel), List.mem_of_getElem? (i := 405) (by decide +kernel), List.mem_of_getElem? (i := 406) (by decide +kernel)⟩
theorem lw_p24 : lw_okq (⟨"AngleChains$Deduction", "haveDifference", "(III)Z"⟩, 13) := ⟨⟨by decide +kernel, by decide +kernel⟩, List.mem_of_getElem? (i := 40) (by decide +kernel), List.mem_of_getElem? (i := 410) (by decide +kernel), List.mem_of_getElem? (i := 411) (by decide +kernel)⟩
theorem lw_p25 : lw_okq (⟨"AngleChains$Deduction", "triesCircle", "(I)Z"⟩, 13) := ⟨⟨by decide +kernel, by decide +kernel⟩, List.mem_of_getElem? (i := 40) (by decide +kernel), List.mem_of_getElem? (i := 418) (by decide +kernel), List.mem_of_getElem? (i := 419) (by decide +kernel)⟩
theorem lw_p26 : lw_okq (⟨"AngleChains$Deduction", "areOnCircle", "(I)Z"⟩, 13) := ⟨⟨by decide +kernel, by decide +kernel⟩, List.mem_of_getElem? (i := 40) (by decide +kernel), List.mem_of_getElem? (i := 422) (by decide +kernel), List.mem_of_getElem? (i := 423) (by decide +kernel)⟩
theorem lw_p27 : lw_okq (⟨"AngleChains$Deduction", "haveTurns", "(IIII)Z"⟩, 13) := ⟨⟨by decide +kernel, by decide +kernel⟩, List.mem_of_getElem? (i := 40) (by decide +kernel), List.mem_of_getElem? (i := 426) (by decide +kernel), List.mem_of_getElem? (i := 427) (by decide +kernel)⟩
theorem lw_p28 : lw_okq (⟨"AngleChains$Deduction", "triesIsosceles", "(I)Z"⟩, 13) := ⟨⟨by decide +kernel, by decide +kernel⟩, List.mem_of_getElem? (i := 40) (by decide +kernel), List.mem_of_getElem? (i := 430) (by decide +kernel), List.mem_of_getElem? (i := 431) (by decide +kernel)⟩
theorem lw_p29 : lw_okq (⟨"AngleChains$Deduction", "linksRowTo", "(II)Z"⟩, 13) := ⟨⟨by decide +kernel, by decide +kernel⟩, List.mem_of_getElem? (i := 40) (by decide +kernel), List.mem_of_getElem? (i := 434) (by decide +kernel), List.mem_of_getElem? (i := 435) (by decide +kernel)⟩
theorem lw_p30 : lw_okq (⟨"AngleChains$Deduction", "areSame", "(II)Z"⟩, 13) := ⟨⟨by decide +kernel, by decide +kernel⟩, List.mem_of_getElem? (i := 40) (by decide +kernel), List.mem_of_getElem? (i := 438) (by decide +kernel), List.mem_of_getElem? (i := 439) (by decide +kernel)⟩
theorem lw_p31 : lw_okq (⟨"AngleChains$Deduction", "triesDiameter", "(I)Z"⟩, 13) := ⟨⟨by decide +kernel, by decide +kernel⟩, List.mem_of_getElem? (i := 40) (by decide +kernel), List.mem_of_getElem? (i := 442) (by decide +kernel), List.mem_of_getElem? (i := 443) (by decide +kernel)⟩
def lw_privs_2 : List (MethodName × Nat) := [(⟨"AngleChains$Deduction", "joinCircle", "(I)V"⟩, 13), (⟨"AngleChains$Deduction", "joinLengths", "(II)V"⟩, 13), (⟨"AngleChains$Deduction", "writeRowOf", "(I)V"⟩, 13), (⟨"AngleChains$Deduction", "writeDifference", "(III)V"⟩, 13), (⟨"AngleChains$Deduction", "writeTurns", "(IIII)V"⟩, 13), (⟨"AngleChains$Deduction", "usesUp", "(I)Z"⟩, 13), (⟨"AngleChains$Deduction", "triesLine", "(I)Z"⟩, 13), (⟨"AngleChains$Deduction", "areOnLine", "(I)Z"⟩, 13), (⟨"AngleChains$Deduction", "haveDifference", "(III)Z"⟩, 13), (⟨"AngleChains$Deduction", "triesCircle", "(I)Z"⟩, 13), (⟨"AngleChains$Deduction", "areOnCircle", "(I)Z"⟩, 13), (⟨"AngleChains$Deduction", "haveTurns", "(IIII)Z"⟩, 13), (⟨"AngleChains$Deduction", "triesIsosceles", "(I)Z"⟩, 13), (⟨"AngleChains$Deduction", "linksRowTo", "(II)Z"⟩, 13), (⟨"AngleChains$Deduction", "areSame", "(II)Z"⟩, 13), (⟨"AngleChains$Deduction", "triesDiameter", "(I)Z"⟩, 13)]
theorem lw_r2 : ∀ q ∈ lw_privs_2, lw_okq q := List.forall_mem_cons.mpr ⟨lw_p16, List.forall_mem_cons.mpr ⟨lw_p17, List.forall_mem_cons.mpr ⟨lw_p18, List.forall_mem_cons.mpr ⟨lw_p19, List.forall_mem_cons.mpr ⟨lw_p20, List.forall_mem_cons.mpr ⟨lw_p21, List.forall_mem_cons.mpr ⟨lw_p22, List.forall_mem_cons.mpr ⟨lw_p23, List.forall_mem_cons.mpr ⟨lw_p24, List.forall_mem_cons.mpr ⟨lw_p25, List.forall_mem_cons.mpr ⟨lw_p26, List.forall_mem_cons.mpr ⟨lw_p27, List.forall_mem_cons.mpr ⟨lw_p28, List.forall_mem_cons.mpr ⟨lw_p29, List.forall_mem_cons.mpr ⟨lw_p30, List.forall_mem_cons.mpr ⟨lw_p31, fun _ h => absurd h List.not_mem_nil⟩⟩⟩⟩⟩⟩⟩⟩⟩⟩⟩⟩⟩⟩⟩⟩
theorem lw_p32 : lw_okq (⟨"AngleChains$Deduction", "isMiddle", "(III)Z"⟩, 13) := ⟨⟨by decide +kernel, by decide +kernel⟩, List.mem_of_getElem? (i := 40) (by decide +kernel), List.mem_of_getElem? (i := 446) (by decide +kernel), List.mem_of_getElem? (i := 447) (by decide +kernel)⟩
theorem lw_p33 : lw_okq (⟨"AngleChains$Deduction", "triesCentre", "(I)Z"⟩, 13) := ⟨⟨by decide +kernel, by decide +kernel⟩, List.mem_of_getElem? (i := 40) (by decide +kernel), List.mem_of_getElem? (i := 451) (by decide +kernel), List.mem_of_getElem? (i := 452) (by decide +kernel)⟩
theorem lw_p34 : lw_okq (⟨"AngleChains$Deduction", "triesBisector", "(I)Z"⟩, 13) := ⟨⟨by decide +kernel, by decide +kernel⟩, List.mem_of_getElem? (i := 40) (by decide +kernel), List.mem_of_getElem? (i := 455) (by decide +kernel), List.mem_of_getElem? (i := 456) (by decide +kernel)⟩
theorem lw_p35 : lw_okq (⟨"AngleChains$Deduction", "triesMidline", "(I)Z"⟩, 13) := ⟨⟨by decide +kernel, by decide +kernel⟩, List.mem_of_getElem? (i := 40) (by decide +kernel), List.mem_of_getElem? (i := 459) (by decide +kernel), List.mem_of_getElem? (i := 460) (by decide +kernel)⟩
theorem lw_p36 : lw_okq (⟨"AngleChains$Deduction", "triesParallelogram", "(I)Z"⟩, 13) := ⟨⟨by decide +kernel, by decide +kernel⟩, List.mem_of_getElem? (i := 40) (by decide +kernel), List.mem_of_getElem? (i := 463) (by decide +kernel), List.mem_of_getElem? (i := 464) (by decide +kernel)⟩
theorem lw_p37 : lw_okq (⟨"AngleChains$Deduction", "isThere", "(I)Z"⟩, 13) := ⟨⟨by decide +kernel, by decide +kernel⟩, List.mem_of_getElem? (i := 40) (by decide +kernel), List.mem_of_getElem? (i := 512) (by decide +kernel), List.mem_of_getElem? (i := 513) (by decide +kernel)⟩
theorem lw_p38 : lw_okq (⟨"AngleChainsModel", "isFact", "(I)Z"⟩, 34) := ⟨⟨by decide +kernel, by decide +kernel⟩, List.mem_of_getElem? (i := 531) (by decide +kernel), List.mem_of_getElem? (i := 653) (by decide +kernel), List.mem_of_getElem? (i := 654) (by decide +kernel)⟩
theorem lw_p39 : lw_okq (⟨"AngleChainsModel", "holds", "(I)Z"⟩, 34) := ⟨⟨by decide +kernel, by decide +kernel⟩, List.mem_of_getElem? (i := 531) (by decide +kernel), List.mem_of_getElem? (i := 660) (by decide +kernel), List.mem_of_getElem? (i := 661) (by decide +kernel)⟩
theorem lw_p40 : lw_okq (⟨"AngleChainsModel", "p", "(I)I"⟩, 34) := ⟨⟨by decide +kernel, by decide +kernel⟩, List.mem_of_getElem? (i := 531) (by decide +kernel), List.mem_of_getElem? (i := 664) (by decide +kernel), List.mem_of_getElem? (i := 665) (by decide +kernel)⟩
theorem lw_p41 : lw_okq (⟨"AngleChainsModel", "isProper", "(III)Z"⟩, 34) := ⟨⟨by decide +kernel, by decide +kernel⟩, List.mem_of_getElem? (i := 531) (by decide +kernel), List.mem_of_getElem? (i := 668) (by decide +kernel), List.mem_of_getElem? (i := 669) (by decide +kernel)⟩
theorem lw_p42 : lw_okq (⟨"AngleChainsModel", "cross", "(IIII)J"⟩, 34) := ⟨⟨by decide +kernel, by decide +kernel⟩, List.mem_of_getElem? (i := 531) (by decide +kernel), List.mem_of_getElem? (i := 672) (by decide +kernel), List.mem_of_getElem? (i := 673) (by decide +kernel)⟩
theorem lw_p43 : lw_okq (⟨"AngleChainsModel", "dot", "(IIII)J"⟩, 34) := ⟨⟨by decide +kernel, by decide +kernel⟩, List.mem_of_getElem? (i := 531) (by decide +kernel), List.mem_of_getElem? (i := 676) (by decide +kernel), List.mem_of_getElem? (i := 677) (by decide +kernel)⟩
theorem lw_p44 : lw_okq (⟨"AngleChainsModel", "isCircle", "(IIII)Z"⟩, 34) := ⟨⟨by decide +kernel, by decide +kernel⟩, List.mem_of_getElem? (i := 531) (by decide +kernel), List.mem_of_getElem? (i := 680) (by decide +kernel), List.mem_of_getElem? (i := 681) (by decide +kernel)⟩
theorem lw_p45 : lw_okq (⟨"AngleChainsModel", "isTurn", "(IIIIIIII)Z"⟩, 34) := ⟨⟨by decide +kernel, by decide +kernel⟩, List.mem_of_getElem? (i := 531) (by decide +kernel), List.mem_of_getElem? (i := 684) (by decide +kernel), List.mem_of_getElem? (i := 685) (by decide +kernel)⟩
theorem lw_p46 : lw_okq (⟨"AngleChainsModel", "refresh", "()V"⟩, 34) := ⟨⟨by decide +kernel, by decide +kernel⟩, List.mem_of_getElem? (i := 531) (by decide +kernel), List.mem_of_getElem? (i := 700) (by decide +kernel), List.mem_of_getElem? (i := 701) (by decide +kernel)⟩
theorem lw_p47 : lw_okq (⟨"AngleChainsModel", "work", "()V"⟩, 34) := ⟨⟨by decide +kernel, by decide +kernel⟩, List.mem_of_getElem? (i := 531) (by decide +kernel), List.mem_of_getElem? (i := 704) (by decide +kernel), List.mem_of_getElem? (i := 705) (by decide +kernel)⟩
def lw_privs_3 : List (MethodName × Nat) := [(⟨"AngleChains$Deduction", "isMiddle", "(III)Z"⟩, 13), (⟨"AngleChains$Deduction", "triesCentre", "(I)Z"⟩, 13), (⟨"AngleChains$Deduction", "triesBisector", "(I)Z"⟩, 13), (⟨"AngleChains$Deduction", "triesMidline", "(I)Z"⟩, 13), (⟨"AngleChains$Deduction", "triesParallelogram", "(I)Z"⟩, 13), (⟨"AngleChains$Deduction", "isThere", "(I)Z"⟩, 13), (⟨"AngleChainsModel", "isFact", "(I)Z"⟩, 34), (⟨"AngleChainsModel", "holds", "(I)Z"⟩, 34), (⟨"AngleChainsModel", "p", "(I)I"⟩, 34), (⟨"AngleChainsModel", "isProper", "(III)Z"⟩, 34), (⟨"AngleChainsModel", "cross", "(IIII)J"⟩, 34), (⟨"AngleChainsModel", "dot", "(IIII)J"⟩, 34), (⟨"AngleChainsModel", "isCircle", "(IIII)Z"⟩, 34), (⟨"AngleChainsModel", "isTurn", "(IIIIIIII)Z"⟩, 34), (⟨"AngleChainsModel", "refresh", "()V"⟩, 34), (⟨"AngleChainsModel", "work", "()V"⟩, 34)]
theorem lw_r3 : ∀ q ∈ lw_privs_3, lw_okq q := List.forall_mem_cons.mpr ⟨lw_p32, List.forall_mem_cons.mpr ⟨lw_p33, List.forall_mem_cons.mpr ⟨lw_p34, List.forall_mem_cons.mpr ⟨lw_p35, List.forall_mem_cons.mpr ⟨lw_p36, List.forall_mem_cons.mpr ⟨lw_p37, List.forall_mem_cons.mpr ⟨lw_p38, List.forall_mem_cons.mpr ⟨lw_p39, List.forall_mem_cons.mpr ⟨lw_p40, List.forall_mem_cons.mpr ⟨lw_p41, List.forall_mem_cons.mpr ⟨lw_p42, List.forall_mem_cons.mpr ⟨lw_p43, List.forall_mem_cons.mpr ⟨lw_p44, List.forall_mem_cons.mpr ⟨lw_p45, List.forall_mem_cons.mpr ⟨lw_p46, List.forall_mem_cons.mpr ⟨lw_p47, fun _ h => absurd h List.not_mem_nil⟩⟩⟩⟩⟩⟩⟩⟩⟩⟩⟩⟩⟩⟩⟩⟩
theorem lw_p48 : lw_okq (⟨"AngleChainsModel", "begin", "()V"⟩, 34) := ⟨⟨by decide +kernel, by decide +kernel⟩, List.mem_of_getElem? (i := 531) (by decide +kernel), List.mem_of_getElem? (i := 708) (by decide +kernel), List.mem_of_getElem? (i := 709) (by decide +kernel)⟩
theorem lw_p49 : lw_okq (⟨"AngleChainsModel", "numberLines", "()V"⟩, 34) := ⟨⟨by decide +kernel, by decide +kernel⟩, List.mem_of_getElem? (i := 531) (by decide +kernel), List.mem_of_getElem? (i := 712) (by decide +kernel), List.mem_of_getElem? (i := 713) (by decide +kernel)⟩
theorem lw_p50 : lw_okq (⟨"AngleChainsModel", "lineOf", "(II)I"⟩, 34) := ⟨⟨by decide +kernel, by decide +kernel⟩, List.mem_of_getElem? (i := 531) (by decide +kernel), List.mem_of_getElem? (i := 716) (by decide +kernel), List.mem_of_getElem? (i := 717) (by decide +kernel)⟩
theorem lw_p51 : lw_okq (⟨"AngleChainsModel", "startLattice", "()V"⟩, 34) := ⟨⟨by decide +kernel, by decide +kernel⟩, List.mem_of_getElem? (i := 531) (by decide +kernel), List.mem_of_getElem? (i := 720) (by decide +kernel), List.mem_of_getElem? (i := 721) (by decide +kernel)⟩
theorem lw_p52 : lw_okq (⟨"AngleChainsModel", "lineFacts", "()V"⟩, 34) := ⟨⟨by decide +kernel, by decide +kernel⟩, List.mem_of_getElem? (i := 531) (by decide +kernel), List.mem_of_getElem? (i := 725) (by decide +kernel), List.mem_of_getElem? (i := 726) (by decide +kernel)⟩
theorem lw_p53 : lw_okq (⟨"AngleChainsModel", "f", "(II)I"⟩, 34) := ⟨⟨by decide +kernel, by decide +kernel⟩, List.mem_of_getElem? (i := 531) (by decide +kernel), List.mem_of_getElem? (i := 729) (by decide +kernel), List.mem_of_getElem? (i := 730) (by decide +kernel)⟩
theorem lw_p54 : lw_okq (⟨"AngleChainsModel", "join", "(I)V"⟩, 34) := ⟨⟨by decide +kernel, by decide +kernel⟩, List.mem_of_getElem? (i := 531) (by decide +kernel), List.mem_of_getElem? (i := 733) (by decide +kernel), List.mem_of_getElem? (i := 734) (by decide +kernel)⟩
theorem lw_p55 : lw_okq (⟨"AngleChainsModel", "round", "(I)V"⟩, 34) := ⟨⟨by decide +kernel, by decide +kernel⟩, List.mem_of_getElem? (i := 531) (by decide +kernel), List.mem_of_getElem? (i := 740) (by decide +kernel), List.mem_of_getElem? (i := 741) (by decide +kernel)⟩
theorem lw_p56 : lw_okq (⟨"AngleChainsModel", "circleOf", "(III)I"⟩, 34) := ⟨⟨by decide +kernel, by decide +kernel⟩, List.mem_of_getElem? (i := 531) (by decide +kernel), List.mem_of_getElem? (i := 744) (by decide +kernel), List.mem_of_getElem? (i := 745) (by decide +kernel)⟩
theorem lw_p57 : lw_okq (⟨"AngleChainsModel", "equal", "(IIII)V"⟩, 34) := ⟨⟨by decide +kernel, by decide +kernel⟩, List.mem_of_getElem? (i := 531) (by decide +kernel), List.mem_of_getElem? (i := 748) (by decide +kernel), List.mem_of_getElem? (i := 749) (by decide +kernel)⟩
theorem lw_p58 : lw_okq (⟨"AngleChainsModel", "lengthOf", "(II)I"⟩, 34) := ⟨⟨by decide +kernel, by decide +kernel⟩, List.mem_of_getElem? (i := 531) (by decide +kernel), List.mem_of_getElem? (i := 752) (by decide +kernel), List.mem_of_getElem? (i := 753) (by decide +kernel)⟩
theorem lw_p59 : lw_okq (⟨"AngleChainsModel", "moveColumns", "()V"⟩, 34) := ⟨⟨by decide +kernel, by decide +kernel⟩, List.mem_of_getElem? (i := 531) (by decide +kernel), List.mem_of_getElem? (i := 756) (by decide +kernel), List.mem_of_getElem? (i := 757) (by decide +kernel)⟩
theorem lw_p60 : lw_okq (⟨"AngleChainsModel", "columnOf", "(II)I"⟩, 34) := ⟨⟨by decide +kernel, by decide +kernel⟩, List.mem_of_getElem? (i := 531) (by decide +kernel), List.mem_of_getElem? (i := 760) (by decide +kernel), List.mem_of_getElem? (i := 761) (by decide +kernel)⟩
theorem lw_p61 : lw_okq (⟨"AngleChainsModel", "clearRow", "()V"⟩, 34) := ⟨⟨by decide +kernel, by decide +kernel⟩, List.mem_of_getElem? (i := 531) (by decide +kernel), List.mem_of_getElem? (i := 764) (by decide +kernel), List.mem_of_getElem? (i := 765) (by decide +kernel)⟩
theorem lw_p62 : lw_okq (⟨"AngleChainsModel", "comes", "()Z"⟩, 34) := ⟨⟨by decide +kernel, by decide +kernel⟩, List.mem_of_getElem? (i := 531) (by decide +kernel), List.mem_of_getElem? (i := 768) (by decide +kernel), List.mem_of_getElem? (i := 769) (by decide +kernel)⟩
theorem lw_p63 : lw_okq (⟨"AngleChainsModel", "reduce", "(I)V"⟩, 34) := ⟨⟨by decide +kernel, by decide +kernel⟩, List.mem_of_getElem? (i := 531) (by decide +kernel), List.mem_of_getElem? (i := 772) (by decide +kernel), List.mem_of_getElem? (i := 773) (by decide +kernel)⟩
def lw_privs_4 : List (MethodName × Nat) := [(⟨"AngleChainsModel", "begin", "()V"⟩, 34), (⟨"AngleChainsModel", "numberLines", "()V"⟩, 34), (⟨"AngleChainsModel", "lineOf", "(II)I"⟩, 34), (⟨"AngleChainsModel", "startLattice", "()V"⟩, 34), (⟨"AngleChainsModel", "lineFacts", "()V"⟩, 34), (⟨"AngleChainsModel", "f", "(II)I"⟩, 34), (⟨"AngleChainsModel", "join", "(I)V"⟩, 34), (⟨"AngleChainsModel", "round", "(I)V"⟩, 34), (⟨"AngleChainsModel", "circleOf", "(III)I"⟩, 34), (⟨"AngleChainsModel", "equal", "(IIII)V"⟩, 34), (⟨"AngleChainsModel", "lengthOf", "(II)I"⟩, 34), (⟨"AngleChainsModel", "moveColumns", "()V"⟩, 34), (⟨"AngleChainsModel", "columnOf", "(II)I"⟩, 34), (⟨"AngleChainsModel", "clearRow", "()V"⟩, 34), (⟨"AngleChainsModel", "comes", "()Z"⟩, 34), (⟨"AngleChainsModel", "reduce", "(I)V"⟩, 34)]
theorem lw_r4 : ∀ q ∈ lw_privs_4, lw_okq q := List.forall_mem_cons.mpr ⟨lw_p48, List.forall_mem_cons.mpr ⟨lw_p49, List.forall_mem_cons.mpr ⟨lw_p50, List.forall_mem_cons.mpr ⟨lw_p51, List.forall_mem_cons.mpr ⟨lw_p52, List.forall_mem_cons.mpr ⟨lw_p53, List.forall_mem_cons.mpr ⟨lw_p54, List.forall_mem_cons.mpr ⟨lw_p55, List.forall_mem_cons.mpr ⟨lw_p56, List.forall_mem_cons.mpr ⟨lw_p57, List.forall_mem_cons.mpr ⟨lw_p58, List.forall_mem_cons.mpr ⟨lw_p59, List.forall_mem_cons.mpr ⟨lw_p60, List.forall_mem_cons.mpr ⟨lw_p61, List.forall_mem_cons.mpr ⟨lw_p62, List.forall_mem_cons.mpr ⟨lw_p63, fun _ h => absurd h List.not_mem_nil⟩⟩⟩⟩⟩⟩⟩⟩⟩⟩⟩⟩⟩⟩⟩⟩
theorem lw_p64 : lw_okq (⟨"AngleChainsModel", "layStep", "(I)V"⟩, 34) := ⟨⟨by decide +kernel, by decide +kernel⟩, List.mem_of_getElem? (i := 531) (by decide +kernel), List.mem_of_getElem? (i := 779) (by decide +kernel), List.mem_of_getElem? (i := 780) (by decide +kernel)⟩
theorem lw_p65 : lw_okq (⟨"AngleChainsModel", "meet", "(I)V"⟩, 34) := ⟨⟨by decide +kernel, by decide +kernel⟩, List.mem_of_getElem? (i := 531) (by decide +kernel), List.mem_of_getElem? (i := 784) (by decide +kernel), List.mem_of_getElem? (i := 785) (by decide +kernel)⟩
theorem lw_p66 : lw_okq (⟨"AngleChainsModel", "rowFacts", "()V"⟩, 34) := ⟨⟨by decide +kernel, by decide +kernel⟩, List.mem_of_getElem? (i := 531) (by decide +kernel), List.mem_of_getElem? (i := 788) (by decide +kernel), List.mem_of_getElem? (i := 789) (by decide +kernel)⟩
theorem lw_p67 : lw_okq (⟨"AngleChainsModel", "rowOf", "(IIIIJ)V"⟩, 34) := ⟨⟨by decide +kernel, by decide +kernel⟩, List.mem_of_getElem? (i := 531) (by decide +kernel), List.mem_of_getElem? (i := 792) (by decide +kernel), List.mem_of_getElem? (i := 793) (by decide +kernel)⟩
theorem lw_p68 : lw_okq (⟨"AngleChainsModel", "put", "(IIJ)V"⟩, 34) := ⟨⟨by decide +kernel, by decide +kernel⟩, List.mem_of_getElem? (i := 531) (by decide +kernel), List.mem_of_getElem? (i := 796) (by decide +kernel), List.mem_of_getElem? (i := 797) (by decide +kernel)⟩
theorem lw_p69 : lw_okq (⟨"AngleChainsModel", "rowComes", "()V"⟩, 34) := ⟨⟨by decide +kernel, by decide +kernel⟩, List.mem_of_getElem? (i := 531) (by decide +kernel), List.mem_of_getElem? (i := 800) (by decide +kernel), List.mem_of_getElem? (i := 801) (by decide +kernel)⟩
theorem lw_p70 : lw_okq (⟨"AngleChainsModel", "numberAll", "()V"⟩, 34) := ⟨⟨by decide +kernel, by decide +kernel⟩, List.mem_of_getElem? (i := 531) (by decide +kernel), List.mem_of_getElem? (i := 804) (by decide +kernel), List.mem_of_getElem? (i := 805) (by decide +kernel)⟩
theorem lw_p71 : lw_okq (⟨"AngleChainsModel", "number", "()I"⟩, 34) := ⟨⟨by decide +kernel, by decide +kernel⟩, List.mem_of_getElem? (i := 531) (by decide +kernel), List.mem_of_getElem? (i := 808) (by decide +kernel), List.mem_of_getElem? (i := 809) (by decide +kernel)⟩
theorem lw_p72 : lw_okq (⟨"AngleChainsModel", "isFound", "(I)Z"⟩, 34) := ⟨⟨by decide +kernel, by decide +kernel⟩, List.mem_of_getElem? (i := 531) (by decide +kernel), List.mem_of_getElem? (i := 815) (by decide +kernel), List.mem_of_getElem? (i := 816) (by decide +kernel)⟩
theorem lw_p73 : lw_okq (⟨"AngleChainsModel", "ruleOne", "()V"⟩, 34) := ⟨⟨by decide +kernel, by decide +kernel⟩, List.mem_of_getElem? (i := 531) (by decide +kernel), List.mem_of_getElem? (i := 819) (by decide +kernel), List.mem_of_getElem? (i := 820) (by decide +kernel)⟩
theorem lw_p74 : lw_okq (⟨"AngleChainsModel", "turnOf", "(IIII)I"⟩, 34) := ⟨⟨by decide +kernel, by decide +kernel⟩, List.mem_of_getElem? (i := 531) (by decide +kernel), List.mem_of_getElem? (i := 823) (by decide +kernel), List.mem_of_getElem? (i := 824) (by decide +kernel)⟩
theorem lw_p75 : lw_okq (⟨"AngleChainsModel", "threes", "()V"⟩, 34) := ⟨⟨by decide +kernel, by decide +kernel⟩, List.mem_of_getElem? (i := 531) (by decide +kernel), List.mem_of_getElem? (i := 827) (by decide +kernel), List.mem_of_getElem? (i := 828) (by decide +kernel)⟩
theorem lw_p76 : lw_okq (⟨"AngleChainsModel", "isEqual", "(IIII)Z"⟩, 34) := ⟨⟨by decide +kernel, by decide +kernel⟩, List.mem_of_getElem? (i := 531) (by decide +kernel), List.mem_of_getElem? (i := 831) (by decide +kernel), List.mem_of_getElem? (i := 832) (by decide +kernel)⟩
theorem lw_p77 : lw_okq (⟨"AngleChainsModel", "fours", "()V"⟩, 34) := ⟨⟨by decide +kernel, by decide +kernel⟩, List.mem_of_getElem? (i := 531) (by decide +kernel), List.mem_of_getElem? (i := 836) (by decide +kernel), List.mem_of_getElem? (i := 837) (by decide +kernel)⟩
theorem lw_p78 : lw_okq (⟨"AngleChainsModel", "angles", "(IIII)V"⟩, 34) := ⟨⟨by decide +kernel, by decide +kernel⟩, List.mem_of_getElem? (i := 531) (by decide +kernel), List.mem_of_getElem? (i := 840) (by decide +kernel), List.mem_of_getElem? (i := 841) (by decide +kernel)⟩
theorem lw_p79 : lw_okq (⟨"AngleChainsModel", "parallels", "(IIII)V"⟩, 34) := ⟨⟨by decide +kernel, by decide +kernel⟩, List.mem_of_getElem? (i := 531) (by decide +kernel), List.mem_of_getElem? (i := 844) (by decide +kernel), List.mem_of_getElem? (i := 845) (by decide +kernel)⟩
def lw_privs_5 : List (MethodName × Nat) := [(⟨"AngleChainsModel", "layStep", "(I)V"⟩, 34), (⟨"AngleChainsModel", "meet", "(I)V"⟩, 34), (⟨"AngleChainsModel", "rowFacts", "()V"⟩, 34), (⟨"AngleChainsModel", "rowOf", "(IIIIJ)V"⟩, 34), (⟨"AngleChainsModel", "put", "(IIJ)V"⟩, 34), (⟨"AngleChainsModel", "rowComes", "()V"⟩, 34), (⟨"AngleChainsModel", "numberAll", "()V"⟩, 34), (⟨"AngleChainsModel", "number", "()I"⟩, 34), (⟨"AngleChainsModel", "isFound", "(I)Z"⟩, 34), (⟨"AngleChainsModel", "ruleOne", "()V"⟩, 34), (⟨"AngleChainsModel", "turnOf", "(IIII)I"⟩, 34), (⟨"AngleChainsModel", "threes", "()V"⟩, 34), (⟨"AngleChainsModel", "isEqual", "(IIII)Z"⟩, 34), (⟨"AngleChainsModel", "fours", "()V"⟩, 34), (⟨"AngleChainsModel", "angles", "(IIII)V"⟩, 34), (⟨"AngleChainsModel", "parallels", "(IIII)V"⟩, 34)]
theorem lw_r5 : ∀ q ∈ lw_privs_5, lw_okq q := List.forall_mem_cons.mpr ⟨lw_p64, List.forall_mem_cons.mpr ⟨lw_p65, List.forall_mem_cons.mpr ⟨lw_p66, List.forall_mem_cons.mpr ⟨lw_p67, List.forall_mem_cons.mpr ⟨lw_p68, List.forall_mem_cons.mpr ⟨lw_p69, List.forall_mem_cons.mpr ⟨lw_p70, List.forall_mem_cons.mpr ⟨lw_p71, List.forall_mem_cons.mpr ⟨lw_p72, List.forall_mem_cons.mpr ⟨lw_p73, List.forall_mem_cons.mpr ⟨lw_p74, List.forall_mem_cons.mpr ⟨lw_p75, List.forall_mem_cons.mpr ⟨lw_p76, List.forall_mem_cons.mpr ⟨lw_p77, List.forall_mem_cons.mpr ⟨lw_p78, List.forall_mem_cons.mpr ⟨lw_p79, fun _ h => absurd h List.not_mem_nil⟩⟩⟩⟩⟩⟩⟩⟩⟩⟩⟩⟩⟩⟩⟩⟩
theorem lw_p80 : lw_okq (⟨"AngleChainsModel", "perpendiculars", "(IIII)V"⟩, 34) := ⟨⟨by decide +kernel, by decide +kernel⟩, List.mem_of_getElem? (i := 531) (by decide +kernel), List.mem_of_getElem? (i := 848) (by decide +kernel), List.mem_of_getElem? (i := 849) (by decide +kernel)⟩
theorem lw_p81 : lw_okq (⟨"AngleChainsModel", "halves", "(IIII)V"⟩, 34) := ⟨⟨by decide +kernel, by decide +kernel⟩, List.mem_of_getElem? (i := 531) (by decide +kernel), List.mem_of_getElem? (i := 852) (by decide +kernel), List.mem_of_getElem? (i := 853) (by decide +kernel)⟩
theorem lw_p82 : lw_okq (⟨"AngleChainsModel", "middles", "(IIII)V"⟩, 34) := ⟨⟨by decide +kernel, by decide +kernel⟩, List.mem_of_getElem? (i := 531) (by decide +kernel), List.mem_of_getElem? (i := 856) (by decide +kernel), List.mem_of_getElem? (i := 857) (by decide +kernel)⟩
theorem lw_p83 : lw_okq (⟨"AngleChainsModel", "wheels", "(IIII)V"⟩, 34) := ⟨⟨by decide +kernel, by decide +kernel⟩, List.mem_of_getElem? (i := 531) (by decide +kernel), List.mem_of_getElem? (i := 860) (by decide +kernel), List.mem_of_getElem? (i := 861) (by decide +kernel)⟩
theorem lw_p84 : lw_okq (⟨"AngleChainsModel", "follow", "(I)Z"⟩, 34) := ⟨⟨by decide +kernel, by decide +kernel⟩, List.mem_of_getElem? (i := 531) (by decide +kernel), List.mem_of_getElem? (i := 864) (by decide +kernel), List.mem_of_getElem? (i := 865) (by decide +kernel)⟩
theorem lw_p85 : lw_okq (⟨"AngleChainsModel", "rowFollows", "()Z"⟩, 34) := ⟨⟨by decide +kernel, by decide +kernel⟩, List.mem_of_getElem? (i := 531) (by decide +kernel), List.mem_of_getElem? (i := 868) (by decide +kernel), List.mem_of_getElem? (i := 869) (by decide +kernel)⟩
theorem lw_p86 : lw_okq (⟨"AngleChainsModel", "noPoint", "(I)Z"⟩, 34) := ⟨⟨by decide +kernel, by decide +kernel⟩, List.mem_of_getElem? (i := 531) (by decide +kernel), List.mem_of_getElem? (i := 884) (by decide +kernel), List.mem_of_getElem? (i := 885) (by decide +kernel)⟩
theorem lw_p87 : lw_okq (⟨"AngleChainsModel", "circles", "()I"⟩, 34) := ⟨⟨by decide +kernel, by decide +kernel⟩, List.mem_of_getElem? (i := 531) (by decide +kernel), List.mem_of_getElem? (i := 900) (by decide +kernel), List.mem_of_getElem? (i := 901) (by decide +kernel)⟩
theorem lw_p88 : lw_okq (⟨"AngleChainsModel", "lengths", "()I"⟩, 34) := ⟨⟨by decide +kernel, by decide +kernel⟩, List.mem_of_getElem? (i := 531) (by decide +kernel), List.mem_of_getElem? (i := 907) (by decide +kernel), List.mem_of_getElem? (i := 908) (by decide +kernel)⟩
def lw_privs_6 : List (MethodName × Nat) := [(⟨"AngleChainsModel", "perpendiculars", "(IIII)V"⟩, 34), (⟨"AngleChainsModel", "halves", "(IIII)V"⟩, 34), (⟨"AngleChainsModel", "middles", "(IIII)V"⟩, 34), (⟨"AngleChainsModel", "wheels", "(IIII)V"⟩, 34), (⟨"AngleChainsModel", "follow", "(I)Z"⟩, 34), (⟨"AngleChainsModel", "rowFollows", "()Z"⟩, 34), (⟨"AngleChainsModel", "noPoint", "(I)Z"⟩, 34), (⟨"AngleChainsModel", "circles", "()I"⟩, 34), (⟨"AngleChainsModel", "lengths", "()I"⟩, 34)]
theorem lw_r6 : ∀ q ∈ lw_privs_6, lw_okq q := List.forall_mem_cons.mpr ⟨lw_p80, List.forall_mem_cons.mpr ⟨lw_p81, List.forall_mem_cons.mpr ⟨lw_p82, List.forall_mem_cons.mpr ⟨lw_p83, List.forall_mem_cons.mpr ⟨lw_p84, List.forall_mem_cons.mpr ⟨lw_p85, List.forall_mem_cons.mpr ⟨lw_p86, List.forall_mem_cons.mpr ⟨lw_p87, List.forall_mem_cons.mpr ⟨lw_p88, fun _ h => absurd h List.not_mem_nil⟩⟩⟩⟩⟩⟩⟩⟩⟩
def lw_privs : List (MethodName × Nat) := lw_privs_1 ++ (lw_privs_2 ++ (lw_privs_3 ++ (lw_privs_4 ++ (lw_privs_5 ++ (lw_privs_6)))))
def lw_tbl : List Cond := k2_sels lw_privs ++ tables_1
theorem lw_privs_ok : ∀ q ∈ lw_privs, lw_okq q := by
  show ∀ q ∈ lw_privs_1 ++ (lw_privs_2 ++ (lw_privs_3 ++ (lw_privs_4 ++ (lw_privs_5 ++ (lw_privs_6))))), lw_okq q
  exact List.forall_mem_append.mpr ⟨lw_r1, List.forall_mem_append.mpr ⟨lw_r2, List.forall_mem_append.mpr ⟨lw_r3, List.forall_mem_append.mpr ⟨lw_r4, List.forall_mem_append.mpr ⟨lw_r5, lw_r6⟩⟩⟩⟩⟩
end
section
/-! THE ABSTRACT MACHINE. A state is a list of cells (the k-th made cell is id k + 16; ids below 16 are read-only int arrays), a frame is pc, locals, stack. rx_run runs a method by its bytecode; rx_sound says that the machine does what rx_run does. -/
abbrev rx_C : Type := (Nat × vp_A) ⊕ (Nat × List Value)
abbrev rx_H : Type := List rx_C
abbrev rx_L : Type := List (Nat × Value)
abbrev rx_R : Type := Nat → Option (Nat × (Nat → Int32))
def rx_ad (ro : Nat → Nat) (base id : Nat) : Nat := if id < 16 then ro id else base + (id - 16)
def rx_cv (ad : Nat → Nat) : Value → Value
  | .ref k => .ref (ad k)
  | v => v
def rx_ca (ad : Nat → Nat) (a : vp_A) : vp_A := (a.1, match a.2 with
  | .inr (.inr (.inr (.inr f))) => .inr (.inr (.inr (.inr (fun i => (f i).map ad))))
  | x => x)
def rx_ce (ad : Nat → Nat) (dT : Nat → ClassId) : rx_C → va_E
  | .inl q => .inl (dT q.1, rx_ca ad q.2)
  | .inr q => .inr (q.1, q.2.map (rx_cv ad))
def rx_sz1 : rx_C → Nat
  | .inl q => q.2.1
  | .inr q => q.2.length
def rx_sz (h : rx_H) : Nat := (h.map rx_sz1).sum
def rx_lk (lv : rx_L) (i : Nat) : Option Value := (lv.find? (fun q => q.1 == i)).map (fun q => q.2)
def rx_s1 (lv : rx_L) (i : Nat) (v : Value) : rx_L := (i, v) :: lv.filter (fun q => !(q.1 == i) && !(q.1 + 1 == i && q.2.category == 2))
def rx_s2 (lv : rx_L) (i : Nat) (v : Value) : rx_L := (i, v) :: lv.filter (fun q => !(q.1 == i) && (!(q.1 == i + 1) && !(q.1 + 1 == i && q.2.category == 2)))
def rx_cl2 (ad : Nat → Nat) (lv : rx_L) : rx_L := lv.map (fun q => (q.1, rx_cv ad q.2))
theorem rx_cat (ad : Nat → Nat) (v : Value) : (rx_cv ad v).category = v.category := by cases v <;> rfl
theorem rx_lk_mem {lv : rx_L} {i : Nat} {v : Value} (h : rx_lk lv i = some v) : (i, v) ∈ lv := by
  unfold rx_lk at h
  cases hf : lv.find? (fun q => q.1 == i) with
  | none => rw [hf] at h; cases h
  | some q =>
    rw [hf] at h
    have h1 := List.mem_of_find?_eq_some hf
    have h2 := List.find?_some hf
    obtain ⟨a, b⟩ := q
    simp only [beq_iff_eq] at h2
    cases h
    subst h2
    exact h1
theorem rx_lk_at {ls : Array Slot} {nL : Nat} {ad : Nat → Nat} {lv : rx_L} {i : Nat} {v : Value} (hl : lv_has ls nL (rx_cl2 ad lv)) (h : rx_lk lv i = some v) : ls[i]? = some (.val (rx_cv ad v)) :=
  hl.2.2 (i, rx_cv ad v) (List.mem_map.mpr ⟨(i, v), rx_lk_mem h, rfl⟩)
theorem rx_s1_c (ad : Nat → Nat) (lv : rx_L) (i : Nat) (v : Value) : (i, rx_cv ad v) :: (rx_cl2 ad lv).filter (fun q => !(q.1 == i) && !(q.1 + 1 == i && q.2.category == 2)) = rx_cl2 ad (rx_s1 lv i v) := by
  simp only [rx_cl2, rx_s1, List.filter_map, List.map_cons]
  congr 2
  apply List.filter_congr
  intro q _
  simp only [Function.comp, rx_cat]
theorem rx_s2_c (ad : Nat → Nat) (lv : rx_L) (i : Nat) (v : Value) : (i, rx_cv ad v) :: (rx_cl2 ad lv).filter (fun q => !(q.1 == i) && (!(q.1 == i + 1) && !(q.1 + 1 == i && q.2.category == 2))) = rx_cl2 ad (rx_s2 lv i v) := by
  simp only [rx_cl2, rx_s2, List.filter_map, List.map_cons]
  congr 2
  apply List.filter_congr
  intro q _
  simp only [Function.comp, rx_cat]
def rx_W (D : va_G) (cl : List vw_C) (dT : Nat → ClassId) (ad : Nat → Nat) (base : Nat) (h : rx_H) (H : Heap) : Prop := H.size = base + h.length ∧ ∀ (k : Nat) (c : rx_C), h[k]? = some c → va_at D cl (base + k, rx_ce ad dT c) H
theorem rx_sz_set : ∀ (h : rx_H) (k : Nat) (c c' : rx_C), h[k]? = some c → rx_sz1 c' = rx_sz1 c → rx_sz (h.set k c') = rx_sz h
  | [], _, _, _, hk, _ => by simp at hk
  | a :: h, 0, c, c', hk, hs => by
    simp only [List.getElem?_cons_zero, Option.some.injEq] at hk
    subst hk
    simp only [rx_sz, List.set_cons_zero, List.map_cons, List.sum_cons, hs]
  | a :: h, k + 1, c, c', hk, hs => by
    simp only [List.getElem?_cons_succ] at hk
    have ih := rx_sz_set h k c c' hk hs
    simp only [rx_sz] at ih
    simp only [rx_sz, List.set_cons_succ, List.map_cons, List.sum_cons, ih]
theorem rx_sz_app (h h2 : rx_H) : rx_sz (h ++ h2) = rx_sz h + rx_sz h2 := by simp [rx_sz]
theorem rx_W.set {D : va_G} {cl : List vw_C} {dT : Nat → ClassId} {ad : Nat → Nat} {base : Nat} {h : rx_H} {H H1 : Heap} {k : Nat} {c' : rx_C} (hW : rx_W D cl dT ad base h H) (hk : k < h.length) (hz : H1.size = H.size) (he : va_at D cl (base + k, rx_ce ad dT c') H1) (ho : ∀ q : Nat, q ≠ base + k → H1[q]? = H[q]?) : rx_W D cl dT ad base (h.set k c') H1 := by
  refine ⟨by rw [hz, hW.1, List.length_set], fun j c hj => ?_⟩
  by_cases e : j = k
  · subst e
    rw [List.getElem?_set_self hk] at hj
    cases hj
    exact he
  · rw [List.getElem?_set_ne (Ne.symm e)] at hj
    exact (hW.2 j c hj).kept (ho (base + j) (by omega))
theorem rx_W.push {D : va_G} {cl : List vw_C} {dT : Nat → ClassId} {ad : Nat → Nat} {base : Nat} {h : rx_H} {H H1 : Heap} {c' : rx_C} (hW : rx_W D cl dT ad base h H) (hz : H1.size = H.size + 1) (he : va_at D cl (base + h.length, rx_ce ad dT c') H1) (ho : ∀ q : Nat, q < H.size → H1[q]? = H[q]?) : rx_W D cl dT ad base (h ++ [c']) H1 := by
  refine ⟨by rw [hz, hW.1]; simp; omega, fun j c hj => ?_⟩
  by_cases e : j < h.length
  · rw [List.getElem?_append_left e] at hj
    exact (hW.2 j c hj).kept (ho (base + j) (by rw [hW.1]; omega))
  · rw [List.getElem?_append_right (by omega)] at hj
    have hz : j - h.length < 1 := (List.getElem?_eq_some_iff.mp hj).1
    have e2 : j = h.length := by omega
    subst e2
    rw [Nat.sub_self] at hj
    cases hj
    exact he
theorem rx_one {D : va_G} {cl : List vw_C} {a : Nat} {e : va_E} {H : Heap} (h : va_at D cl (a, e) H) : va_P D cl [(a, e)] H := fun k q hk => by
  have h1 : k < 1 := (List.getElem?_eq_some_iff.mp hk).1
  have h2 : k = 0 := by omega
  subst h2
  cases hk
  exact h
end
section
abbrev rx_Tb : Type := List (Nat × List (Nat × Instr × Nat))
/-- a method: name, bytes, locals, what it returns, its class's number (owner), its kind (0 static, 1 virtual, 2 constructor), how many parameters, its class's place in the worlds, its instructions -/
abbrev rx_M : Type := MethodName × ByteArray × Nat × Option FieldType × Nat × Nat × Nat × Nat × rx_Tb
abbrev rx_My (M : rx_M) : MethodName := M.1
abbrev rx_Mb (M : rx_M) : ByteArray := M.2.1
abbrev rx_Ml (M : rx_M) : Nat := M.2.2.1
abbrev rx_Mr (M : rx_M) : Option FieldType := M.2.2.2.1
abbrev rx_Mo (M : rx_M) : Nat := M.2.2.2.2.1
abbrev rx_Mk (M : rx_M) : Nat := M.2.2.2.2.2.1
abbrev rx_Mn (M : rx_M) : Nat := M.2.2.2.2.2.2.1
abbrev rx_Mc (M : rx_M) : Nat := M.2.2.2.2.2.2.2.1
abbrev rx_Mt (M : rx_M) : rx_Tb := M.2.2.2.2.2.2.2.2
/-- the next point of a run: pc, locals, stack, cells -/
abbrev rx_N : Type := Nat × rx_L × List Value × rx_H
def rx_f1 : List (Nat × Instr × Nat) → Nat → Option Instr
  | [], _ => none
  | q :: r, pc => bif Nat.beq q.1 pc then some q.2.1 else rx_f1 r pc
def rx_f2 : rx_Tb → Nat → Option Instr
  | [], _ => none
  | c :: r, pc => bif Nat.blt pc c.1 then rx_f1 c.2 pc else rx_f2 r pc
def rx_len : Instr → Nat
  | .iload _ => 2 | .lload _ => 2 | .aload _ => 2 | .istore _ => 2 | .lstore _ => 2 | .astore _ => 2
  | .bipush _ => 2 | .sipush _ => 3 | .iinc _ _ => 3 | .goto _ => 3 | .if_icmp _ _ => 3 | .ifCond _ _ => 3 | .ifnull _ => 3 | .ifnonnull _ => 3 | .if_acmp _ _ => 3
  | .getfield _ => 3 | .putfield _ => 3 | .getstatic _ => 3 | .invokespecial _ => 3 | .invokestatic _ => 3 | .invokevirtual _ => 3 | .new _ => 3
  | .ldc _ => 2 | .ldc_w _ => 3 | .ldc2_w _ => 3 | .newarray _ => 2 | .multianewarray _ _ => 4 | .anewarray _ => 3
  | _ => 1
def rx_sw (ins : Instr) : Bool := match ins with
  | .tableswitch _ _ _ _ => true
  | .lookupswitch _ _ => true
  | _ => false
def rx_lc (ins : Instr) (len : Nat) : Bool := rx_sw ins || Nat.beq len (rx_len ins)
def rx_dec (cc : ByteArray) (pc : Nat) (ins : Instr) : Prop := ∃ len, decode cc pc = .ok (ins, len) ∧ rx_lc ins len = true
theorem rx_dec_n {cc : ByteArray} {pc : Nat} {ins : Instr} (h : rx_dec cc pc ins) (hs : rx_sw ins = false) : decode cc pc = .ok (ins, rx_len ins) := by
  obtain ⟨len, h1, h2⟩ := h
  unfold rx_lc at h2
  rw [hs, Bool.false_or] at h2
  rw [← Nat.eq_of_beq_eq_true h2]
  exact h1
def rx_nx (pc : Nat) (lv : rx_L) (st : List Value) (h : rx_H) : Option rx_N := some (pc, lv, st, h)
def rx_jp (pc : Nat) (off : Int) (lv : rx_L) (st : List Value) (h : rx_H) : Option rx_N := if 0 ≤ (pc : Int) + off then rx_nx ((pc : Int) + off).toNat lv st h else none
def rx_li (lv : rx_L) (i pc : Nat) (st : List Value) (h : rx_H) : Option rx_N := match rx_lk lv i with
  | some (.int x) => rx_nx pc lv (.int x :: st) h
  | _ => none
def rx_ll (lv : rx_L) (i pc : Nat) (st : List Value) (h : rx_H) : Option rx_N := match rx_lk lv i with
  | some (.long x) => rx_nx pc lv (.long x :: st) h
  | _ => none
def rx_la (lv : rx_L) (i pc : Nat) (st : List Value) (h : rx_H) : Option rx_N := match rx_lk lv i with
  | some (.ref x) => rx_nx pc lv (.ref x :: st) h
  | _ => none
def rx_si (nL : Nat) (lv : rx_L) (i pc : Nat) (st : List Value) (h : rx_H) : Option rx_N := match st with
  | .int x :: r => if i < nL then rx_nx pc (rx_s1 lv i (.int x)) r h else none
  | _ => none
def rx_sl (nL : Nat) (lv : rx_L) (i pc : Nat) (st : List Value) (h : rx_H) : Option rx_N := match st with
  | .long x :: r => if i + 1 < nL then rx_nx pc (rx_s2 lv i (.long x)) r h else none
  | _ => none
def rx_sa (nL : Nat) (lv : rx_L) (i pc : Nat) (st : List Value) (h : rx_H) : Option rx_N := match st with
  | .ref x :: r => if i < nL then rx_nx pc (rx_s1 lv i (.ref x)) r h else none
  | _ => none
def rx_2i (f : Int32 → Int32 → Int32) (pc : Nat) (lv : rx_L) (st : List Value) (h : rx_H) : Option rx_N := match st with
  | .int y :: .int x :: r => rx_nx (pc + 1) lv (.int (f x y) :: r) h
  | _ => none
def rx_2l (f : Int64 → Int64 → Int64) (pc : Nat) (lv : rx_L) (st : List Value) (h : rx_H) : Option rx_N := match st with
  | .long y :: .long x :: r => rx_nx (pc + 1) lv (.long (f x y) :: r) h
  | _ => none
def rx_bi (P : Bool) (pc : Nat) (off : Int) (lv : rx_L) (r : List Value) (h : rx_H) : Option rx_N := if 0 ≤ (pc : Int) + off then (if P = true then rx_nx ((pc : Int) + off).toNat lv r h else rx_nx (pc + 3) lv r h) else none
def rx_c1 (c : ClassFile.Cond) (x : Int32) : Bool := match c with
  | .eq => decide (x = 0) | .ne => decide (¬ x = 0) | .lt => decide (x < 0) | .ge => decide (0 ≤ x) | .gt => decide (0 < x) | .le => decide (x ≤ 0)
def rx_c2 (c : ClassFile.Cond) (x y : Int32) : Bool := match c with
  | .eq => decide (x = y) | .ne => decide (¬ x = y) | .lt => decide (x < y) | .ge => decide (y ≤ x) | .gt => decide (y < x) | .le => decide (x ≤ y)
def rx_cell (h : rx_H) (a : Nat) : Option rx_C := if a < 16 then none else h[a - 16]?
def rx_ok (i : Int32) (n : Nat) : Bool := !(decide (i < 0) || Nat.ble n i.toNatClampNeg)
def rx_luv {α : Type} : List ((Nat × Nat) × α) → Nat → Nat → Option α
  | [], _, _ => none
  | q :: r, o, ix => bif Nat.beq q.1.1 o && Nat.beq q.1.2 ix then some q.2 else rx_luv r o ix
/-- a value as a field of a type takes it -/
def rx_fit (ty : FieldType) (v : Value) : Bool := match ty, v with
  | .int, .int _ => true
  | .long, .long _ => true
  | .boolean, .int x => decide (x = 0) || decide (x = 1)
  | .object _, .ref _ => true
  | .array _, .ref _ => true
  | _, _ => false
/-- the links of all constant pools: fields (class, place), statics (id), methods (number, 1: of a nest mate), classes, ints, longs -/
abbrev rx_Lk : Type := List ((Nat × Nat) × Nat × Nat × FieldType × Nat) × List ((Nat × Nat) × Nat) × List ((Nat × Nat) × Nat × Nat) × List ((Nat × Nat) × Nat) × List ((Nat × Nat) × Int32) × List ((Nat × Nat) × Int64)
def rx_cold (h : rx_H) (a t : Nat) : Option vp_A := match rx_cell h a with
  | some (.inl q) => if q.1 = t then some q.2 else none
  | _ => none
/-- the heap behind a store into an array -/
def rx_put (h : rx_H) (a t : Nat) (x : vp_A) : rx_H := h.set (a - 16) (.inl (t, x))
def rx_zero (ty : FieldType) (n : Nat) : Option vp_A := match ty with
  | .int => some (n, .inl (fun _ => 0))
  | .boolean => some (n, .inl (fun _ => 0))
  | .long => some (n, .inr (.inl (fun _ => 0)))
  | _ => none
def rx_dv (f : Int32 → Int32 → Int32) (pc : Nat) (lv : rx_L) (st : List Value) (h : rx_H) : Option rx_N := match st with
  | .int y :: .int x :: r => if y = 0 then none else rx_nx (pc + 1) lv (.int (f x y) :: r) h
  | _ => none
def rx_dl (f : Int64 → Int64 → Int64) (pc : Nat) (lv : rx_L) (st : List Value) (h : rx_H) : Option rx_N := match st with
  | .long y :: .long x :: r => if y = 0 then none else rx_nx (pc + 1) lv (.long (f x y) :: r) h
  | _ => none
def rx_1i (f : Int32 → Value) (pc : Nat) (lv : rx_L) (st : List Value) (h : rx_H) : Option rx_N := match st with
  | .int x :: r => rx_nx (pc + 1) lv (f x :: r) h
  | _ => none
def rx_1l (f : Int64 → Value) (pc : Nat) (lv : rx_L) (st : List Value) (h : rx_H) : Option rx_N := match st with
  | .long x :: r => rx_nx (pc + 1) lv (f x :: r) h
  | _ => none
def rx_cm (pc : Nat) (lv : rx_L) (st : List Value) (h : rx_H) : Option rx_N := match st with
  | .long y :: .long x :: r => rx_nx (pc + 1) lv (.int (lg_cmp x y) :: r) h
  | _ => none
def rx_in (nL : Nat) (i : Nat) (n : Int) (pc : Nat) (lv : rx_L) (st : List Value) (h : rx_H) : Option rx_N := match rx_lk lv i with
  | some (.int x) => if i < nL then rx_nx (pc + 3) (rx_s1 lv i (.int (x + Int32.ofInt n))) st h else none
  | _ => none
def rx_d0 (pc : Nat) (lv : rx_L) (st : List Value) (h : rx_H) : Option rx_N := match st with
  | a :: r => if a.category = 1 then rx_nx (pc + 1) lv (a :: a :: r) h else none
  | _ => none
def rx_pp (pc : Nat) (lv : rx_L) (st : List Value) (h : rx_H) : Option rx_N := match st with
  | a :: r => if a.category = 1 then rx_nx (pc + 1) lv r h else none
  | _ => none
def rx_d1 (pc : Nat) (lv : rx_L) (st : List Value) (h : rx_H) : Option rx_N := match st with
  | a :: b :: r => if a.category = 1 ∧ b.category = 1 then rx_nx (pc + 1) lv (a :: b :: a :: r) h else none
  | _ => none
def rx_d2 (pc : Nat) (lv : rx_L) (st : List Value) (h : rx_H) : Option rx_N := match st with
  | a :: b :: d :: r => if a.category = 1 ∧ b.category = 1 ∧ d.category = 1 then rx_nx (pc + 1) lv (a :: b :: d :: a :: r) h else none
  | _ => none
def rx_dd (pc : Nat) (lv : rx_L) (st : List Value) (h : rx_H) : Option rx_N := match st with
  | a :: b :: r => if a.category = 1 ∧ b.category = 1 then rx_nx (pc + 1) lv (a :: b :: a :: b :: r) h else none
  | _ => none
def rx_b1 (c : ClassFile.Cond) (off : Int) (pc : Nat) (lv : rx_L) (st : List Value) (h : rx_H) : Option rx_N := match st with
  | .int x :: r => rx_bi (rx_c1 c x) pc off lv r h
  | _ => none
def rx_b2 (c : ClassFile.Cond) (off : Int) (pc : Nat) (lv : rx_L) (st : List Value) (h : rx_H) : Option rx_N := match st with
  | .int y :: .int x :: r => rx_bi (rx_c2 c x y) pc off lv r h
  | _ => none
def rx_ts (dflt lo hi : Int) (offs : Array Int) (pc : Nat) (lv : rx_L) (st : List Value) (h : rx_H) : Option rx_N := match st with
  | .int x :: r => if x.toInt < lo ∨ hi < x.toInt then rx_jp pc dflt lv r h else match offs[(x.toInt - lo).toNat]? with
    | some off => rx_jp pc off lv r h
    | none => none
  | _ => none
def rx_us (pc : Nat) (lv : rx_L) (st : List Value) (h : rx_H) : Option rx_N := match st with
  | .int y :: .long x :: r => rx_nx (pc + 1) lv (.long (x.toUInt64 >>> (y.toInt64.toUInt64 &&& Int64.toUInt64 63)).toInt64 :: r) h
  | _ => none
def rx_ls (dflt : Int) (ps : Array (Int × Int)) (pc : Nat) (lv : rx_L) (st : List Value) (h : rx_H) : Option rx_N := match st with
  | .int x :: r => if (ps.toList.zip (ps.toList.drop 1)).all (fun (a, next) => a.1 < next.1) = true then rx_jp pc (Op.lookupswitch.offset ps.toList dflt x.toInt) lv r h else none
  | _ => none
def rx_kc (o : Option Value) (n pc : Nat) (lv : rx_L) (st : List Value) (h : rx_H) : Option rx_N := match o with
  | some v => rx_nx (pc + n) lv (v :: st) h
  | none => none
/-- reading an int array: a read-only one, or a cell -/
def rx_ri (rt : rx_R) (h : rx_H) (a : Nat) : Option (Nat × (Nat → Int32)) := if a < 16 then rt a else match rx_cold h a 0 with
  | some (n, .inl f) => some (n, f)
  | _ => none
def rx_rl (h : rx_H) (a : Nat) : Option (Nat × (Nat → Int64)) := match rx_cold h a 1 with
  | some (n, .inr (.inl f)) => some (n, f)
  | _ => none
def rx_rz (h : rx_H) (a : Nat) : Option (Nat × (Nat → Int32)) := match rx_cold h a 2 with
  | some (n, .inl f) => some (n, f)
  | _ => none
def rx_rq (h : rx_H) (a : Nat) : Option (Nat × (Nat → Option Nat)) := match rx_cold h a 3 with
  | some (n, .inr (.inr (.inr (.inr f)))) => some (n, f)
  | _ => none
def rx_ro (h : rx_H) (a : Nat) : Option (Nat × List Value) := match rx_cell h a with
  | some (.inr q) => some q
  | _ => none
def rx_ial (rt : rx_R) (pc : Nat) (lv : rx_L) (st : List Value) (h : rx_H) : Option rx_N := match st with
  | .int i :: .ref a :: r => match rx_ri rt h a with
    | some q => if rx_ok i q.1 = true then rx_nx (pc + 1) lv (.int (q.2 i.toNatClampNeg) :: r) h else none
    | none => none
  | _ => none
def rx_lal (pc : Nat) (lv : rx_L) (st : List Value) (h : rx_H) : Option rx_N := match st with
  | .int i :: .ref a :: r => match rx_rl h a with
    | some q => if rx_ok i q.1 = true then rx_nx (pc + 1) lv (.long (q.2 i.toNatClampNeg) :: r) h else none
    | none => none
  | _ => none
def rx_zal (pc : Nat) (lv : rx_L) (st : List Value) (h : rx_H) : Option rx_N := match st with
  | .int i :: .ref a :: r => match rx_rz h a with
    | some q => if rx_ok i q.1 = true then rx_nx (pc + 1) lv (.int (q.2 i.toNatClampNeg) :: r) h else none
    | none => none
  | _ => none
def rx_qal (pc : Nat) (lv : rx_L) (st : List Value) (h : rx_H) : Option rx_N := match st with
  | .int i :: .ref a :: r => match rx_rq h a with
    | some q => if rx_ok i q.1 = true then match q.2 i.toNatClampNeg with
        | some k => rx_nx (pc + 1) lv (.ref k :: r) h
        | none => none
      else none
    | none => none
  | _ => none
def rx_ias (pc : Nat) (lv : rx_L) (st : List Value) (h : rx_H) : Option rx_N := match st with
  | .int x :: .int i :: .ref a :: r => if a < 16 then none else match rx_ri (fun _ => none) h a with
    | some q => if rx_ok i q.1 = true then rx_nx (pc + 1) lv r (rx_put h a 0 (q.1, .inl (upd q.2 i.toNatClampNeg x))) else none
    | none => none
  | _ => none
def rx_las (pc : Nat) (lv : rx_L) (st : List Value) (h : rx_H) : Option rx_N := match st with
  | .long x :: .int i :: .ref a :: r => match rx_rl h a with
    | some q => if rx_ok i q.1 = true then rx_nx (pc + 1) lv r (rx_put h a 1 (q.1, .inr (.inl (vp_updL q.2 i.toNatClampNeg x)))) else none
    | none => none
  | _ => none
def rx_zas (pc : Nat) (lv : rx_L) (st : List Value) (h : rx_H) : Option rx_N := match st with
  | .int x :: .int i :: .ref a :: r => match rx_rz h a with
    | some q => if rx_ok i q.1 = true then rx_nx (pc + 1) lv r (rx_put h a 2 (q.1, .inl (upd q.2 i.toNatClampNeg (vp_nar .boolean x)))) else none
    | none => none
  | _ => none
def rx_aln (rt : rx_R) (h : rx_H) (a : Nat) : Option Nat := if a < 16 then (rt a).map (fun q => q.1) else match rx_cell h a with
  | some (.inl q) => if q.1 < 4 then some q.2.1 else none
  | _ => none
def rx_al (rt : rx_R) (pc : Nat) (lv : rx_L) (st : List Value) (h : rx_H) : Option rx_N := match st with
  | .ref a :: r => match rx_aln rt h a with
    | some n => rx_nx (pc + 1) lv (.int (Int32.ofNat n) :: r) h
    | none => none
  | _ => none
def rx_gf (o : Option (Nat × Nat × FieldType × Nat)) (pc : Nat) (lv : rx_L) (st : List Value) (h : rx_H) : Option rx_N := match st, o with
  | .ref a :: r, some q => match rx_ro h a with
    | some w => if w.1 = q.1 then match w.2[q.2.1]? with
        | some v => rx_nx (pc + 3) lv (v :: r) h
        | none => none
      else none
    | none => none
  | _, _ => none
def rx_pf (ini : Bool) (o : Option (Nat × Nat × FieldType × Nat)) (pc : Nat) (lv : rx_L) (st : List Value) (h : rx_H) : Option rx_N := match st, o with
  | v :: .ref a :: r, some q => match rx_ro h a with
    | some w => if w.1 = q.1 ∧ q.2.1 < w.2.length ∧ rx_fit q.2.2.1 v = true ∧ (q.2.2.2 = 0 ∨ (q.2.2.2 = 1 ∧ ini = true)) then rx_nx (pc + 3) lv r (h.set (a - 16) (.inr (w.1, w.2.set q.2.1 v))) else none
    | none => none
  | _, _ => none
/-- what a return instruction returns -/
def rx_ret (M : rx_M) (ins : Instr) (st : List Value) : Option (Option Value) := match ins with
  | .ireturn => match rx_Mr M, st with
    | some .int, [.int x] => some (some (.int x))
    | some .boolean, [.int x] => if x = 0 ∨ x = 1 then some (some (.int x)) else none
    | _, _ => none
  | .lreturn => match rx_Mr M, st with
    | some .long, [.long x] => some (some (.long x))
    | _, _ => none
  | .return_ => match rx_Mr M, st with
    | none, [] => some none
    | _, _ => none
  | _ => none
theorem rx_ret_e {M : rx_M} {ins : Instr} {st : List Value} {v : Option Value} (e : rx_ret M ins st = some v) : (∃ x, ins = .ireturn ∧ rx_Mr M = some .int ∧ st = [.int x] ∧ v = some (.int x)) ∨ (∃ x, ins = .ireturn ∧ rx_Mr M = some .boolean ∧ st = [.int x] ∧ (x = 0 ∨ x = 1) ∧ v = some (.int x)) ∨ (∃ x, ins = .lreturn ∧ rx_Mr M = some .long ∧ st = [.long x] ∧ v = some (.long x)) ∨ (ins = .return_ ∧ rx_Mr M = none ∧ st = [] ∧ v = none) := by
  unfold rx_ret at e
  split at e
  · split at e
    · next x h1 => cases e; exact Or.inl ⟨x, rfl, h1, rfl, rfl⟩
    · next x h1 =>
      split at e
      · next w => cases e; exact Or.inr (Or.inl ⟨x, rfl, h1, rfl, w, rfl⟩)
      · cases e
    · cases e
  · split at e
    · next x h1 => cases e; exact Or.inr (Or.inr (Or.inl ⟨x, rfl, h1, rfl, rfl⟩))
    · cases e
  · split at e
    · next h1 => cases e; exact Or.inr (Or.inr (Or.inr ⟨rfl, h1, rfl, rfl⟩))
    · cases e
  · cases e
end
section
section RXE
variable {pc i : Nat} {lv : rx_L} {st : List Value} {h : rx_H} {r : Nat × rx_L × List Value × rx_H} {off : Int} {nL : Nat}
theorem rx_nx_e (e : rx_nx pc lv st h = some r) : r = (pc, lv, st, h) := by
  unfold rx_nx at e
  exact (Option.some.inj e).symm
theorem rx_jp_e (e : rx_jp pc off lv st h = some r) : ∃ t : Nat, (pc : Int) + off = (t : Int) ∧ r = (t, lv, st, h) := by
  unfold rx_jp at e
  split at e
  · next q => exact ⟨_, (Int.toNat_of_nonneg q).symm, rx_nx_e e⟩
  · cases e
theorem rx_li_e (e : rx_li lv i pc st h = some r) : ∃ x, rx_lk lv i = some (.int x) ∧ r = (pc, lv, .int x :: st, h) := by
  unfold rx_li at e
  split at e
  · next x q => exact ⟨x, q, rx_nx_e e⟩
  · cases e
theorem rx_ll_e (e : rx_ll lv i pc st h = some r) : ∃ x, rx_lk lv i = some (.long x) ∧ r = (pc, lv, .long x :: st, h) := by
  unfold rx_ll at e
  split at e
  · next x q => exact ⟨x, q, rx_nx_e e⟩
  · cases e
theorem rx_la_e (e : rx_la lv i pc st h = some r) : ∃ x, rx_lk lv i = some (.ref x) ∧ r = (pc, lv, .ref x :: st, h) := by
  unfold rx_la at e
  split at e
  · next x q => exact ⟨x, q, rx_nx_e e⟩
  · cases e
theorem rx_si_e (e : rx_si nL lv i pc st h = some r) : ∃ x t, st = .int x :: t ∧ i < nL ∧ r = (pc, rx_s1 lv i (.int x), t, h) := by
  unfold rx_si at e
  split at e
  · next x t =>
    split at e
    · next q => exact ⟨x, t, rfl, q, rx_nx_e e⟩
    · cases e
  · cases e
theorem rx_sl_e (e : rx_sl nL lv i pc st h = some r) : ∃ x t, st = .long x :: t ∧ i + 1 < nL ∧ r = (pc, rx_s2 lv i (.long x), t, h) := by
  unfold rx_sl at e
  split at e
  · next x t =>
    split at e
    · next q => exact ⟨x, t, rfl, q, rx_nx_e e⟩
    · cases e
  · cases e
theorem rx_sa_e (e : rx_sa nL lv i pc st h = some r) : ∃ x t, st = .ref x :: t ∧ i < nL ∧ r = (pc, rx_s1 lv i (.ref x), t, h) := by
  unfold rx_sa at e
  split at e
  · next x t =>
    split at e
    · next q => exact ⟨x, t, rfl, q, rx_nx_e e⟩
    · cases e
  · cases e
theorem rx_2i_e {f : Int32 → Int32 → Int32} (e : rx_2i f pc lv st h = some r) : ∃ x y t, st = .int y :: .int x :: t ∧ r = (pc + 1, lv, .int (f x y) :: t, h) := by
  unfold rx_2i at e
  split at e
  · next y x t => exact ⟨x, y, t, rfl, rx_nx_e e⟩
  · cases e
theorem rx_2l_e {f : Int64 → Int64 → Int64} (e : rx_2l f pc lv st h = some r) : ∃ x y t, st = .long y :: .long x :: t ∧ r = (pc + 1, lv, .long (f x y) :: t, h) := by
  unfold rx_2l at e
  split at e
  · next y x t => exact ⟨x, y, t, rfl, rx_nx_e e⟩
  · cases e
theorem rx_bi_e {P : Bool} (e : rx_bi P pc off lv st h = some r) : ∃ g : Nat, (pc : Int) + off = (g : Int) ∧ ((P = true ∧ r = (g, lv, st, h)) ∨ (P = false ∧ r = (pc + 3, lv, st, h))) := by
  unfold rx_bi at e
  split at e
  · next w =>
    refine ⟨_, (Int.toNat_of_nonneg w).symm, ?_⟩
    split at e
    · next q => exact Or.inl ⟨q, rx_nx_e e⟩
    · next q => exact Or.inr ⟨by simpa using q, rx_nx_e e⟩
  · cases e
end RXE
theorem rx_cell_e {h : rx_H} {a : Nat} {c : rx_C} (e : rx_cell h a = some c) : ∃ k, a = k + 16 ∧ h[k]? = some c ∧ k < h.length := by
  unfold rx_cell at e
  split at e
  · cases e
  · next q => exact ⟨a - 16, by omega, e, (List.getElem?_eq_some_iff.mp e).1⟩
theorem rx_cold_e {h : rx_H} {a t : Nat} {x : vp_A} (e : rx_cold h a t = some x) : ∃ k, a = k + 16 ∧ h[k]? = some (.inl (t, x)) ∧ k < h.length := by
  unfold rx_cold at e
  split at e
  · next q w =>
    split at e
    · next z =>
      subst z
      cases e
      exact rx_cell_e w
    · cases e
  · cases e
theorem rx_ad_k (ro : Nat → Nat) (base k : Nat) : rx_ad ro base (k + 16) = base + k := by
  unfold rx_ad
  rw [if_neg (by omega)]
  rfl
theorem rx_ad_r (ro : Nat → Nat) (base : Nat) {k : Nat} (h : k < 16) : rx_ad ro base k = ro k := by
  unfold rx_ad
  rw [if_pos h]
theorem rx_ok_e {i : Int32} {n : Nat} (h : rx_ok i n = true) : vp_in i n := by
  unfold rx_ok at h
  simp only [Bool.not_eq_true', Bool.or_eq_false_iff, decide_eq_false_iff_not] at h
  intro q
  rcases q with q | q
  · exact h.1 q
  · have := Nat.ble_eq_true_of_le q
    rw [this] at h
    exact absurd h.2 (by decide)
section RXE2
variable {pc i : Nat} {lv : rx_L} {st : List Value} {h : rx_H} {r : Nat × rx_L × List Value × rx_H} {off : Int} {nL : Nat}
theorem rx_dv_e {f : Int32 → Int32 → Int32} (e : rx_dv f pc lv st h = some r) : ∃ x y t, st = .int y :: .int x :: t ∧ ¬ y = 0 ∧ r = (pc + 1, lv, .int (f x y) :: t, h) := by
  unfold rx_dv at e
  split at e
  · next y x t =>
    split at e
    · cases e
    · next q => exact ⟨x, y, t, rfl, q, rx_nx_e e⟩
  · cases e
theorem rx_dl_e {f : Int64 → Int64 → Int64} (e : rx_dl f pc lv st h = some r) : ∃ x y t, st = .long y :: .long x :: t ∧ ¬ y = 0 ∧ r = (pc + 1, lv, .long (f x y) :: t, h) := by
  unfold rx_dl at e
  split at e
  · next y x t =>
    split at e
    · cases e
    · next q => exact ⟨x, y, t, rfl, q, rx_nx_e e⟩
  · cases e
theorem rx_1i_e {f : Int32 → Value} (e : rx_1i f pc lv st h = some r) : ∃ x t, st = .int x :: t ∧ r = (pc + 1, lv, f x :: t, h) := by
  unfold rx_1i at e
  split at e
  · next x t => exact ⟨x, t, rfl, rx_nx_e e⟩
  · cases e
theorem rx_1l_e {f : Int64 → Value} (e : rx_1l f pc lv st h = some r) : ∃ x t, st = .long x :: t ∧ r = (pc + 1, lv, f x :: t, h) := by
  unfold rx_1l at e
  split at e
  · next x t => exact ⟨x, t, rfl, rx_nx_e e⟩
  · cases e
theorem rx_cm_e (e : rx_cm pc lv st h = some r) : ∃ x y t, st = .long y :: .long x :: t ∧ r = (pc + 1, lv, .int (lg_cmp x y) :: t, h) := by
  unfold rx_cm at e
  split at e
  · next y x t => exact ⟨x, y, t, rfl, rx_nx_e e⟩
  · cases e
theorem rx_in_e {n : Int} (e : rx_in nL i n pc lv st h = some r) : ∃ x, rx_lk lv i = some (.int x) ∧ i < nL ∧ r = (pc + 3, rx_s1 lv i (.int (x + Int32.ofInt n)), st, h) := by
  unfold rx_in at e
  split at e
  · next x q =>
    split at e
    · next w => exact ⟨x, q, w, rx_nx_e e⟩
    · cases e
  · cases e
theorem rx_d0_e (e : rx_d0 pc lv st h = some r) : ∃ a t, st = a :: t ∧ a.category = 1 ∧ r = (pc + 1, lv, a :: a :: t, h) := by
  unfold rx_d0 at e
  split at e
  · next a t =>
    split at e
    · next w => exact ⟨a, t, rfl, w, rx_nx_e e⟩
    · cases e
  · cases e
theorem rx_pp_e (e : rx_pp pc lv st h = some r) : ∃ a t, st = a :: t ∧ a.category = 1 ∧ r = (pc + 1, lv, t, h) := by
  unfold rx_pp at e
  split at e
  · next a t =>
    split at e
    · next w => exact ⟨a, t, rfl, w, rx_nx_e e⟩
    · cases e
  · cases e
theorem rx_d1_e (e : rx_d1 pc lv st h = some r) : ∃ a b t, st = a :: b :: t ∧ a.category = 1 ∧ b.category = 1 ∧ r = (pc + 1, lv, a :: b :: a :: t, h) := by
  unfold rx_d1 at e
  split at e
  · next a b t =>
    split at e
    · next w => exact ⟨a, b, t, rfl, w.1, w.2, rx_nx_e e⟩
    · cases e
  · cases e
theorem rx_d2_e (e : rx_d2 pc lv st h = some r) : ∃ a b d t, st = a :: b :: d :: t ∧ a.category = 1 ∧ b.category = 1 ∧ d.category = 1 ∧ r = (pc + 1, lv, a :: b :: d :: a :: t, h) := by
  unfold rx_d2 at e
  split at e
  · next a b d t =>
    split at e
    · next w => exact ⟨a, b, d, t, rfl, w.1, w.2.1, w.2.2, rx_nx_e e⟩
    · cases e
  · cases e
theorem rx_dd_e (e : rx_dd pc lv st h = some r) : ∃ a b t, st = a :: b :: t ∧ a.category = 1 ∧ b.category = 1 ∧ r = (pc + 1, lv, a :: b :: a :: b :: t, h) := by
  unfold rx_dd at e
  split at e
  · next a b t =>
    split at e
    · next w => exact ⟨a, b, t, rfl, w.1, w.2, rx_nx_e e⟩
    · cases e
  · cases e
theorem rx_b1_e {c : ClassFile.Cond} (e : rx_b1 c off pc lv st h = some r) : ∃ x t, st = .int x :: t ∧ ∃ g : Nat, (pc : Int) + off = (g : Int) ∧ ((rx_c1 c x = true ∧ r = (g, lv, t, h)) ∨ (rx_c1 c x = false ∧ r = (pc + 3, lv, t, h))) := by
  unfold rx_b1 at e
  split at e
  · next x t => exact ⟨x, t, rfl, rx_bi_e e⟩
  · cases e
theorem rx_b2_e {c : ClassFile.Cond} (e : rx_b2 c off pc lv st h = some r) : ∃ x y t, st = .int y :: .int x :: t ∧ ∃ g : Nat, (pc : Int) + off = (g : Int) ∧ ((rx_c2 c x y = true ∧ r = (g, lv, t, h)) ∨ (rx_c2 c x y = false ∧ r = (pc + 3, lv, t, h))) := by
  unfold rx_b2 at e
  split at e
  · next y x t => exact ⟨x, y, t, rfl, rx_bi_e e⟩
  · cases e
theorem rx_ts_e {dflt lo hi : Int} {offs : Array Int} (e : rx_ts dflt lo hi offs pc lv st h = some r) : ∃ x t, st = .int x :: t ∧ (((x.toInt < lo ∨ hi < x.toInt) ∧ ∃ g : Nat, (pc : Int) + dflt = (g : Int) ∧ r = (g, lv, t, h)) ∨ (¬ x.toInt < lo ∧ ¬ hi < x.toInt ∧ ∃ (off : Int) (g : Nat), offs[(x.toInt - lo).toNat]? = some off ∧ (pc : Int) + off = (g : Int) ∧ r = (g, lv, t, h))) := by
  unfold rx_ts at e
  split at e
  · next x t =>
    refine ⟨x, t, rfl, ?_⟩
    split at e
    · next q => exact Or.inl ⟨q, rx_jp_e e⟩
    · next q =>
      split at e
      · next off w =>
        obtain ⟨g, h1, h2⟩ := rx_jp_e e
        exact Or.inr ⟨fun z => q (Or.inl z), fun z => q (Or.inr z), off, g, w, h1, h2⟩
      · cases e
  · cases e
theorem rx_kc_e {o : Option Value} {n : Nat} (e : rx_kc o n pc lv st h = some r) : ∃ v, o = some v ∧ r = (pc + n, lv, v :: st, h) := by
  unfold rx_kc at e
  split at e
  · next v => exact ⟨v, rfl, rx_nx_e e⟩
  · cases e
theorem rx_ri_e {rt : rx_R} {a : Nat} {q : Nat × (Nat → Int32)} (e : rx_ri rt h a = some q) : (a < 16 ∧ rt a = some q) ∨ ∃ k, a = k + 16 ∧ h[k]? = some (.inl (0, q.1, .inl q.2)) ∧ k < h.length := by
  unfold rx_ri at e
  split at e
  · next w => exact Or.inl ⟨w, e⟩
  · next w =>
    split at e
    · next n f z =>
      cases e
      exact Or.inr (rx_cold_e z)
    · cases e
theorem rx_rl_e {a : Nat} {q : Nat × (Nat → Int64)} (e : rx_rl h a = some q) : ∃ k, a = k + 16 ∧ h[k]? = some (.inl (1, q.1, .inr (.inl q.2))) ∧ k < h.length := by
  unfold rx_rl at e
  split at e
  · next n f z =>
    cases e
    exact rx_cold_e z
  · cases e
theorem rx_rz_e {a : Nat} {q : Nat × (Nat → Int32)} (e : rx_rz h a = some q) : ∃ k, a = k + 16 ∧ h[k]? = some (.inl (2, q.1, .inl q.2)) ∧ k < h.length := by
  unfold rx_rz at e
  split at e
  · next n f z =>
    cases e
    exact rx_cold_e z
  · cases e
theorem rx_rq_e {a : Nat} {q : Nat × (Nat → Option Nat)} (e : rx_rq h a = some q) : ∃ k, a = k + 16 ∧ h[k]? = some (.inl (3, q.1, .inr (.inr (.inr (.inr q.2))))) ∧ k < h.length := by
  unfold rx_rq at e
  split at e
  · next n f z =>
    cases e
    exact rx_cold_e z
  · cases e
theorem rx_us_e (e : rx_us pc lv st h = some r) : ∃ x y t, st = .int y :: .long x :: t ∧ r = (pc + 1, lv, .long (x.toUInt64 >>> (y.toInt64.toUInt64 &&& Int64.toUInt64 63)).toInt64 :: t, h) := by
  unfold rx_us at e
  split at e
  · next y x t => exact ⟨x, y, t, rfl, rx_nx_e e⟩
  · cases e
theorem rx_ls_e {dflt : Int} {ps : Array (Int × Int)} (e : rx_ls dflt ps pc lv st h = some r) : ∃ x t, st = .int x :: t ∧ (ps.toList.zip (ps.toList.drop 1)).all (fun (a, next) => a.1 < next.1) = true ∧ ∃ g : Nat, (pc : Int) + Op.lookupswitch.offset ps.toList dflt x.toInt = (g : Int) ∧ r = (g, lv, t, h) := by
  unfold rx_ls at e
  split at e
  · next x t =>
    split at e
    · next w => exact ⟨x, t, rfl, w, rx_jp_e e⟩
    · cases e
  · cases e
theorem rx_ro_e {a : Nat} {q : Nat × List Value} (e : rx_ro h a = some q) : ∃ k, a = k + 16 ∧ h[k]? = some (.inr q) ∧ k < h.length := by
  unfold rx_ro at e
  split at e
  · next w z =>
    cases e
    exact rx_cell_e z
  · cases e
theorem rx_ial_e {rt : rx_R} (e : rx_ial rt pc lv st h = some r) : ∃ i a t q, st = .int i :: .ref a :: t ∧ rx_ri rt h a = some q ∧ vp_in i q.1 ∧ r = (pc + 1, lv, .int (q.2 i.toNatClampNeg) :: t, h) := by
  unfold rx_ial at e
  split at e
  · next i a t =>
    split at e
    · next q w =>
      split at e
      · next z => exact ⟨i, a, t, q, rfl, w, rx_ok_e z, rx_nx_e e⟩
      · cases e
    · cases e
  · cases e
theorem rx_lal_e (e : rx_lal pc lv st h = some r) : ∃ i a t q, st = .int i :: .ref a :: t ∧ rx_rl h a = some q ∧ vp_in i q.1 ∧ r = (pc + 1, lv, .long (q.2 i.toNatClampNeg) :: t, h) := by
  unfold rx_lal at e
  split at e
  · next i a t =>
    split at e
    · next q w =>
      split at e
      · next z => exact ⟨i, a, t, q, rfl, w, rx_ok_e z, rx_nx_e e⟩
      · cases e
    · cases e
  · cases e
theorem rx_zal_e (e : rx_zal pc lv st h = some r) : ∃ i a t q, st = .int i :: .ref a :: t ∧ rx_rz h a = some q ∧ vp_in i q.1 ∧ r = (pc + 1, lv, .int (q.2 i.toNatClampNeg) :: t, h) := by
  unfold rx_zal at e
  split at e
  · next i a t =>
    split at e
    · next q w =>
      split at e
      · next z => exact ⟨i, a, t, q, rfl, w, rx_ok_e z, rx_nx_e e⟩
      · cases e
    · cases e
  · cases e
theorem rx_qal_e (e : rx_qal pc lv st h = some r) : ∃ i a t q k, st = .int i :: .ref a :: t ∧ rx_rq h a = some q ∧ vp_in i q.1 ∧ q.2 i.toNatClampNeg = some k ∧ r = (pc + 1, lv, .ref k :: t, h) := by
  unfold rx_qal at e
  split at e
  · next i a t =>
    split at e
    · next q w =>
      split at e
      · next z =>
        split at e
        · next k y => exact ⟨i, a, t, q, k, rfl, w, rx_ok_e z, y, rx_nx_e e⟩
        · cases e
      · cases e
    · cases e
  · cases e
theorem rx_ias_e (e : rx_ias pc lv st h = some r) : ∃ x i k t n f, st = .int x :: .int i :: .ref (k + 16) :: t ∧ h[k]? = some (.inl (0, n, .inl f)) ∧ k < h.length ∧ vp_in i n ∧ r = (pc + 1, lv, t, h.set k (.inl (0, n, .inl (upd f i.toNatClampNeg x)))) := by
  unfold rx_ias at e
  split at e
  · next x i a t =>
    split at e
    · cases e
    · next na =>
      split at e
      · next q w =>
        split at e
        · next z =>
          rcases rx_ri_e w with ⟨q1, -⟩ | ⟨k, rfl, h1, h2⟩
          · exact absurd q1 na
          · exact ⟨x, i, k, t, q.1, q.2, rfl, h1, h2, rx_ok_e z, rx_nx_e e⟩
        · cases e
      · cases e
  · cases e
theorem rx_las_e (e : rx_las pc lv st h = some r) : ∃ x i k t n f, st = .long x :: .int i :: .ref (k + 16) :: t ∧ h[k]? = some (.inl (1, n, .inr (.inl f))) ∧ k < h.length ∧ vp_in i n ∧ r = (pc + 1, lv, t, h.set k (.inl (1, n, .inr (.inl (vp_updL f i.toNatClampNeg x))))) := by
  unfold rx_las at e
  split at e
  · next x i a t =>
    split at e
    · next q w =>
      split at e
      · next z =>
        obtain ⟨k, rfl, h1, h2⟩ := rx_rl_e w
        exact ⟨x, i, k, t, q.1, q.2, rfl, h1, h2, rx_ok_e z, rx_nx_e e⟩
      · cases e
    · cases e
  · cases e
theorem rx_zas_e (e : rx_zas pc lv st h = some r) : ∃ x i k t n f, st = .int x :: .int i :: .ref (k + 16) :: t ∧ h[k]? = some (.inl (2, n, .inl f)) ∧ k < h.length ∧ vp_in i n ∧ r = (pc + 1, lv, t, h.set k (.inl (2, n, .inl (upd f i.toNatClampNeg (vp_nar .boolean x))))) := by
  unfold rx_zas at e
  split at e
  · next x i a t =>
    split at e
    · next q w =>
      split at e
      · next z =>
        obtain ⟨k, rfl, h1, h2⟩ := rx_rz_e w
        exact ⟨x, i, k, t, q.1, q.2, rfl, h1, h2, rx_ok_e z, rx_nx_e e⟩
      · cases e
    · cases e
  · cases e
theorem rx_al_e {rt : rx_R} (e : rx_al rt pc lv st h = some r) : ∃ a t n, st = .ref a :: t ∧ rx_aln rt h a = some n ∧ r = (pc + 1, lv, .int (Int32.ofNat n) :: t, h) := by
  unfold rx_al at e
  split at e
  · next a t =>
    split at e
    · next n w => exact ⟨a, t, n, rfl, w, rx_nx_e e⟩
    · cases e
  · cases e
theorem rx_gf_e {o : Option (Nat × Nat × FieldType × Nat)} (e : rx_gf o pc lv st h = some r) : ∃ k t q fs v, st = .ref (k + 16) :: t ∧ o = some q ∧ h[k]? = some (.inr (q.1, fs)) ∧ fs[q.2.1]? = some v ∧ r = (pc + 3, lv, v :: t, h) := by
  unfold rx_gf at e
  split at e
  · next a t q =>
    split at e
    · next w z =>
      split at e
      · next y =>
        split at e
        · next v u =>
          obtain ⟨k, rfl, h1, h2⟩ := rx_ro_e z
          obtain ⟨w1, w2⟩ := w
          dsimp only at y u
          subst y
          exact ⟨k, t, q, w2, v, rfl, rfl, h1, u, rx_nx_e e⟩
        · cases e
      · cases e
    · cases e
  · cases e
theorem rx_pf_e {ini : Bool} {o : Option (Nat × Nat × FieldType × Nat)} (e : rx_pf ini o pc lv st h = some r) : ∃ v k t q fs, st = v :: .ref (k + 16) :: t ∧ o = some q ∧ h[k]? = some (.inr (q.1, fs)) ∧ k < h.length ∧ q.2.1 < fs.length ∧ rx_fit q.2.2.1 v = true ∧ (q.2.2.2 = 0 ∨ (q.2.2.2 = 1 ∧ ini = true)) ∧ r = (pc + 3, lv, t, h.set k (.inr (q.1, fs.set q.2.1 v))) := by
  unfold rx_pf at e
  split at e
  · next v a t q =>
    split at e
    · next w z =>
      split at e
      · next y =>
        obtain ⟨k, rfl, h1, h2⟩ := rx_ro_e z
        obtain ⟨w1, w2⟩ := w
        obtain ⟨y1, y2, y3, y4⟩ := y
        dsimp only at y1 y2 e
        subst y1
        exact ⟨v, k, t, q, w2, rfl, rfl, h1, h2, y2, y3, y4, rx_nx_e e⟩
      · cases e
    · cases e
  · cases e
end RXE2
theorem rx_f1_e : ∀ {t : List (Nat × Instr × Nat)} {pc : Nat} {i : Instr}, rx_f1 t pc = some i → ∃ n, (pc, i, n) ∈ t
  | [], _, _, h => by cases h
  | q :: r, pc, i, h => by
    unfold rx_f1 at h
    cases hb : Nat.beq q.1 pc with
    | true =>
      rw [hb] at h
      have e := Nat.eq_of_beq_eq_true hb
      obtain ⟨a, b, c⟩ := q
      dsimp only at e h
      subst e
      cases h
      exact ⟨c, List.mem_cons_self⟩
    | false =>
      rw [hb] at h
      obtain ⟨n, hn⟩ := rx_f1_e (t := r) h
      exact ⟨n, List.mem_cons_of_mem _ hn⟩
theorem rx_f2_e : ∀ {t : rx_Tb} {pc : Nat} {i : Instr}, rx_f2 t pc = some i → ∃ c ∈ t, ∃ n, (pc, i, n) ∈ c.2
  | [], _, _, h => by cases h
  | q :: r, pc, i, h => by
    unfold rx_f2 at h
    cases hb : Nat.blt pc q.1 with
    | true =>
      rw [hb] at h
      exact ⟨q, List.mem_cons_self, rx_f1_e h⟩
    | false =>
      rw [hb] at h
      obtain ⟨c, hc, w⟩ := rx_f2_e (t := r) h
      exact ⟨c, List.mem_cons_of_mem _ hc, w⟩
theorem rx_luv_e {α : Type} : ∀ {t : List ((Nat × Nat) × α)} {o ix : Nat} {v : α}, rx_luv t o ix = some v → ((o, ix), v) ∈ t
  | [], _, _, _, h => by cases h
  | q :: r, o, ix, v, h => by
    unfold rx_luv at h
    cases hb : (Nat.beq q.1.1 o && Nat.beq q.1.2 ix) with
    | true =>
      rw [hb] at h
      obtain ⟨⟨a, b⟩, c⟩ := q
      simp only [Bool.and_eq_true] at hb
      have e1 := Nat.eq_of_beq_eq_true hb.1
      have e2 := Nat.eq_of_beq_eq_true hb.2
      dsimp only at e1 e2 h
      subst e1
      subst e2
      cases h
      exact List.mem_cons_self
    | false =>
      rw [hb] at h
      exact List.mem_cons_of_mem _ (rx_luv_e (t := r) h)
end
section
/-- what the tables say of an array over arrays -/
theorem rx_ao_spec {A : Array Value} {s : State} {t : FieldType} (h : (Cond.arrayOver (.array t)).before A s = true) :
    ∃ comp c k, s.vm.findClass (FieldType.array t).toString = some comp ∧ (s.vm.classes.findIdx? fun (x : Class) => match x.kind with | .array component _ => component == comp | _ => false) = some c ∧ s.vm.classes[c]? = some k ∧ k.kind = .array comp (.array t) ∧ s.vm.findClass ("[" ++ (FieldType.array t).toString) = some c := by
  simp only [Cond.before, Cond.holds, Cond.value, beq_iff_eq] at h
  cases hc : s.vm.findClass (FieldType.array t).toString with
  | none => simp [hc] at h
  | some comp =>
    simp only [hc, Option.bind_some, Option.bind_eq_some_iff, Option.map_eq_some_iff] at h
    obtain ⟨c, hi, k, hk, hb⟩ := h
    obtain ⟨hlt, hp, -⟩ := Array.findIdx?_eq_some_iff_getElem.mp hi
    have hkk : s.vm.classes[c] = k := (Array.getElem?_eq_some_iff.mp hk).2
    rw [hkk] at hp
    cases hkind : k.kind with
    | array component ty =>
      rw [hkind] at hb hp
      simp at hb hp
      exact ⟨comp, c, k, rfl, hi, hk, by rw [hkind, hp, hb.1], hb.2⟩
    | _ => rw [hkind] at hb; simp at hb
theorem rx_ao_moved {t : FieldType} {u U : State} (hvm : u.vm.Alike U.vm) (h : va_Nw (.arrayOver (.array t)) u) : va_Nw (.arrayOver (.array t)) U := by
  obtain ⟨comp, c, k, h1, h2, h3, h4, h5⟩ := rx_ao_spec h
  obtain ⟨k', hk', he⟩ := hvm.2.2 _ _ h3
  have hi : (U.vm.classes.findIdx? fun (x : Class) => match x.kind with | .array component _ => component == comp | _ => false) = some c := by
    refine Eq.trans (va_idx_bare U.vm comp).symm ?_
    first | rw [hvm.bare_eq] | rw [← hvm.bare_eq]
    exact Eq.trans (va_idx_bare u.vm comp) h2
  have hkind : k'.kind = .array comp (.array t) := by rw [he]; exact h4
  have f1 : U.vm.findClass (FieldType.array t).toString = some comp := by rw [hvm.findClass]; exact h1
  have f2 : U.vm.findClass ("[" ++ (FieldType.array t).toString) = some c := by rw [hvm.findClass]; exact h5
  unfold va_Nw Cond.before Cond.holds
  simp only [Cond.value]
  rw [f1, Option.bind_some]
  refine (congrArg (fun o : Option Nat => (o.bind (fun c => (U.vm.classes[c]?).map fun (k : Class) => match k.kind with | .array _ ty => decide (ty = FieldType.array t) && decide (U.vm.findClass ("[" ++ (FieldType.array t).toString) = some c) | _ => false) == some true)) hi).trans ?_
  simp [hk', hkind, f2]
/-- what holds of the tables at a state, and of the read-only arrays at its heap: classes, array classes, read-only arrays, statics, links between nest mates -/
def rx_Kx (cl : List vw_C) (tys : List FieldType) (sts : List (String × String × String × Nat)) (nst : List Cond) (D : va_G) (dT : Nat → ClassId) (ro : Nat → Nat) (rt : rx_R) (base : Nat) (U : State) (H : Heap) : Prop :=
  (∀ (c : Nat) (q : vw_C), cl[c]? = some q → u_Kn U q.1 q.2.1 q.2.2 (D.1 c) (D.2 c)) ∧
  (∀ (t : Nat) (ty : FieldType), tys[t]? = some ty → ArrOfT U (dT t) ty ∧ va_RA U (dT t) ty) ∧
  (∀ (id n : Nat) (f : Nat → Int32), id < 16 → rt id = some (n, f) → va_T .int (ro id) n (fun j => .int (f j)) (fun q => base ≤ q) U H) ∧
  (∀ q ∈ sts, q.2.2.2 < 16 ∧ va_Z q.1 q.2.1 q.2.2.1 (.ref (ro q.2.2.2)) (fun q => base ≤ q) U H) ∧
  (∀ w ∈ nst, va_Nw w U)
def rx_isN (w : Cond) : Bool := match w with
  | .fieldLinkNest _ _ _ _ _ _ => true
  | .methodLinkNest _ _ _ _ => true
  | .arrayOver (.array _) => true
  | _ => false
theorem rx_isN_cases {w : Cond} (h : rx_isN w = true) : (∃ a b c d e f, w = .fieldLinkNest a b c d e f) ∨ (∃ a b c d, w = .methodLinkNest a b c d) ∨ ∃ t, w = .arrayOver (.array t) := by
  unfold rx_isN at h
  split at h
  · exact Or.inl ⟨_, _, _, _, _, _, rfl⟩
  · exact Or.inr (Or.inl ⟨_, _, _, _, rfl⟩)
  · exact Or.inr (Or.inr ⟨_, rfl⟩)
  · cases h
section RXK
variable {cl : List vw_C} {tys : List FieldType} {sts : List (String × String × String × Nat)} {nst : List Cond} {D : va_G} {dT : Nat → ClassId} {ro : Nat → Nat} {rt : rx_R} {base : Nat} {U : State} {H : Heap}
theorem rx_Kx.K (h : rx_Kx cl tys sts nst D dT ro rt base U H) {t : Nat} {ty : FieldType} (ht : tys[t]? = some ty) : va_K D cl [(dT t, ty)] U := ⟨h.1, fun k q hk => by
  have h1 : k < 1 := (List.getElem?_eq_some_iff.mp hk).1
  have h2 : k = 0 := by omega
  subst h2
  cases hk
  exact h.2.1 t ty ht⟩
theorem rx_Kx.K0 (h : rx_Kx cl tys sts nst D dT ro rt base U H) : va_K D cl [] U := ⟨h.1, fun k q hk => by simp at hk⟩
theorem rx_Kx.kept (h : rx_Kx cl tys sts nst D dT ro rt base U H) {H1 : Heap} (hq : ∀ a : Nat, a < H.size → ¬ base ≤ a → H1[a]? = H[a]?) : rx_Kx cl tys sts nst D dT ro rt base U H1 :=
  ⟨h.1, h.2.1, fun id n f h1 h2 => (h.2.2.1 id n f h1 h2).kept hq, fun q hs => ⟨(h.2.2.2.1 q hs).1, (h.2.2.2.1 q hs).2.kept hq⟩, h.2.2.2.2⟩
theorem rx_Kx.warm (h : rx_Kx cl tys sts nst D dT ro rt base U H) (hn : ∀ w ∈ nst, rx_isN w = true) {V : State} (hW : U.WarmedH V.vm) : rx_Kx cl tys sts nst D dT ro rt base V H := by
  refine ⟨fun c q hq => u_Kn_moved hW.alike (h.1 c q hq), fun t ty ht => ⟨arrOfT_moved hW.alike (h.2.1 t ty ht).1, (h.2.1 t ty ht).2.moved hW.alike⟩, fun id n f h1 h2 => (h.2.2.1 id n f h1 h2).moved hW.alike, fun q hs => ⟨(h.2.2.2.1 q hs).1, (h.2.2.2.1 q hs).2.moved hW.alike⟩, fun w hw => ?_⟩
  have h1 := hn w hw
  have h2 := h.2.2.2.2 w hw
  rcases rx_isN_cases h1 with ⟨a, b, c, d, e, f, rfl⟩ | ⟨a, b, c, d, rfl⟩ | ⟨t, rfl⟩
  · exact h2.warmF hW
  · exact h2.warmM hW
  · exact rx_ao_moved hW.alike h2
theorem rx_Kx.same (h : rx_Kx cl tys sts nst D dT ro rt base U H) (hn : ∀ w ∈ nst, rx_isN w = true) {V : State} (hV : U.vm = V.vm) : rx_Kx cl tys sts nst D dT ro rt base V H := by
  have ha : U.vm.Alike V.vm := hV ▸ Vm.Alike.refl U.vm
  exact ⟨fun c q hq => u_Kn_moved ha (h.1 c q hq), fun t ty ht => ⟨arrOfT_moved ha (h.2.1 t ty ht).1, (h.2.1 t ty ht).2.moved ha⟩, fun id n f h1 h2 => (h.2.2.1 id n f h1 h2).moved ha, fun q hs => ⟨(h.2.2.2.1 q hs).1, (h.2.2.2.1 q hs).2.moved ha⟩, fun w hw => by
    have h2 := h.2.2.2.2 w hw
    rcases rx_isN_cases (hn w hw) with ⟨a, b, c, d, e, f, rfl⟩ | ⟨a, b, c, d, rfl⟩ | ⟨t, rfl⟩
    · exact va_Nw.same rfl hV h2
    · exact va_Nw.same rfl hV h2
    · exact rx_ao_moved ha h2⟩
end RXK
/-- what the links of the pools must be: each by words of the tables 'all', or by a word 'nst' between nest mates -/
def rx_GF (all nst : List Cond) (cl : List vw_C) (own : String) (ix ci k : Nat) (ty : FieldType) (fl : Nat) : Prop := ∃ (C : String) (T : u_T) (N : Nat), cl[ci]? = some (C, T, N) ∧ k < N ∧ parseFieldDescriptor (T k).2.2.1 = some ty ∧ (fl = 0 → (T k).2.2.2 = false) ∧ (fl = 1 → (T k).2.2.2 = true ∧ (T k).1 = own ∧ Cond.fieldLink own ix (T k).1 (T k).2.1 (T k).2.2.1 ∈ all) ∧
  (Cond.fieldLink own ix (T k).1 (T k).2.1 (T k).2.2.1 ∈ all ∨ ∃ host : String, Cond.fieldLinkNest own ix (T k).1 (T k).2.1 (T k).2.2.1 host ∈ nst)
def rx_GC (all : List Cond) (q : vw_C) : Prop := (∀ w ∈ u_ws q.1 q.2.1 q.2.2, w ∈ all) ∧ (∃ ty0 : Nat → FieldType, ∀ k, k < q.2.2 → parseFieldDescriptor (q.2.1 k).2.2.1 = some (ty0 k)) ∧ (∀ a, a < q.2.2 → ∀ b, b < q.2.2 → a ≠ b → (q.2.1 a).2.1 ≠ (q.2.1 b).2.1) ∧ Cond.instantiable q.1 q.2.2 ∈ all ∧ Cond.initialized q.1 ∈ all
section RXA
variable (p : Program) (l : Launch) (e : Env) (R : Room) (s : State) (m : MethodId) (args : Array Value) (below : List Frame) (meth : Method) (c : Code) (Q : State → Prop)
variable (cl : List vw_C) (D : va_G) (dT : Nat → ClassId) (ro : Nat → Nat) (base n0 z0 : Nat)
/-- the machine is right from this abstract point on -/
def rx_At (nL pc : Nat) (lv : rx_L) (st : List Value) (h : rx_H) : Prop := ∀ (H : Heap) (locs : List Loc) (ls : Array Slot), n0 ≤ h.length → z0 ≤ rx_sz h → rx_W D cl dT (rx_ad ro base) base h H → va_S (fun q => base ≤ q) s.heap H locs → lv_has ls nL (rx_cl2 (rx_ad ro base) lv) →
  W p l e R s m args below meth c H locs (h.length - n0) (rx_sz h - z0) Q (F0 m pc ls (st.map (rx_cv (rx_ad ro base))))
end RXA
end
section
section RXH
variable {p : Program} {l : Launch} {e : Env} {R : Room} {s : State} {m : MethodId} {args : Array Value} {below : List Frame} {meth : Method} {c : Code} {Q : State → Prop}
variable {cl : List vw_C} {tys : List FieldType} {sts : List (String × String × String × Nat)} {nst : List Cond} {D : va_G} {dT : Nat → ClassId} {ro : Nat → Nat} {rt : rx_R} {base n0 z0 : Nat}
variable {cc : ByteArray} {nL pc pc' : Nat} {lv lv' : rx_L} {st st' t : List Value} {h : rx_H}
theorem rx_At.set {k : Nat} {c0 c' : rx_C} (K : rx_At p l e R s m args below meth c Q cl D dT ro base n0 z0 nL pc' lv' st' (h.set k c')) (hk : h[k]? = some c0) (hs : rx_sz1 c' = rx_sz1 c0) (H : Heap) (locs : List Loc) (ls : Array Slot) (hn : n0 ≤ h.length) (hz : z0 ≤ rx_sz h) (hW : rx_W D cl dT (rx_ad ro base) base (h.set k c') H) (hS : va_S (fun q => base ≤ q) s.heap H locs) (hl : lv_has ls nL (rx_cl2 (rx_ad ro base) lv')) :
    W p l e R s m args below meth c H locs (h.length - n0) (rx_sz h - z0) Q (F0 m pc' ls (st'.map (rx_cv (rx_ad ro base)))) := by
  have h1 := K H locs ls (by rw [List.length_set]; exact hn) (by rw [rx_sz_set h k c0 c' hk hs]; exact hz) hW hS hl
  rw [List.length_set, rx_sz_set h k c0 c' hk hs] at h1
  exact h1
theorem rx_h_iald (hx : p.tables.exec = Jvm.exec) (hb : c.code = cc) (hK : rx_Kx cl tys sts nst D dT ro rt base s s.heap) (ht : tys[0]? = some .int) {i : Int32} {a : Nat} {q : Nat × (Nat → Int32)} (hr : rx_ri rt h a = some q) (hin : vp_in i q.1) (hd : decode cc pc = .ok (.iaload, 1))
    (K : rx_At p l e R s m args below meth c Q cl D dT ro base n0 z0 nL (pc + 1) lv (.int (q.2 i.toNatClampNeg) :: t) h) : rx_At p l e R s m args below meth c Q cl D dT ro base n0 z0 nL pc lv (.int i :: .ref a :: t) h := by
  intro H locs ls hn hz hW hS hl
  obtain ⟨n, f⟩ := q
  rcases rx_ri_e hr with ⟨h1, h2⟩ | ⟨k, rfl, h1, h2⟩
  · show W p l e R s m args below meth c H locs _ _ Q (F0 m pc ls (.int i :: .ref (rx_ad ro base a) :: t.map (rx_cv (rx_ad ro base))))
    rw [rx_ad_r ro base h1]
    exact va_ti (v := .int (f i.toNatClampNeg)) hx hb (hK.2.2.1 a n f h1 h2) hS hin rfl hd (K H locs ls hn hz hW hS hl)
  · show W p l e R s m args below meth c H locs _ _ Q (F0 m pc ls (.int i :: .ref (rx_ad ro base (k + 16)) :: t.map (rx_cv (rx_ad ro base))))
    rw [rx_ad_k ro base k]
    exact va_iald (f := f) (n := n) hx hb (hK.K ht) (rx_one (hW.2 k _ h1)) 0 0 rfl rfl hin hd (K H locs ls hn hz hW hS hl)
theorem rx_h_lald (hx : p.tables.exec = Jvm.exec) (hb : c.code = cc) (hK : rx_Kx cl tys sts nst D dT ro rt base s s.heap) (ht : tys[1]? = some .long) {i : Int32} {a : Nat} {q : Nat × (Nat → Int64)} (hr : rx_rl h a = some q) (hin : vp_in i q.1) (hd : decode cc pc = .ok (.laload, 1))
    (K : rx_At p l e R s m args below meth c Q cl D dT ro base n0 z0 nL (pc + 1) lv (.long (q.2 i.toNatClampNeg) :: t) h) : rx_At p l e R s m args below meth c Q cl D dT ro base n0 z0 nL pc lv (.int i :: .ref a :: t) h := by
  intro H locs ls hn hz hW hS hl
  obtain ⟨n, f⟩ := q
  obtain ⟨k, rfl, h1, h2⟩ := rx_rl_e hr
  show W p l e R s m args below meth c H locs _ _ Q (F0 m pc ls (.int i :: .ref (rx_ad ro base (k + 16)) :: t.map (rx_cv (rx_ad ro base))))
  rw [rx_ad_k ro base k]
  exact va_lald (f := f) (n := n) hx hb (hK.K ht) (rx_one (hW.2 k _ h1)) 0 0 rfl rfl hin hd (K H locs ls hn hz hW hS hl)
theorem rx_h_zald (hx : p.tables.exec = Jvm.exec) (hb : c.code = cc) (hK : rx_Kx cl tys sts nst D dT ro rt base s s.heap) (ht : tys[2]? = some .boolean) {i : Int32} {a : Nat} {q : Nat × (Nat → Int32)} (hr : rx_rz h a = some q) (hin : vp_in i q.1) (hd : decode cc pc = .ok (.baload, 1))
    (K : rx_At p l e R s m args below meth c Q cl D dT ro base n0 z0 nL (pc + 1) lv (.int (q.2 i.toNatClampNeg) :: t) h) : rx_At p l e R s m args below meth c Q cl D dT ro base n0 z0 nL pc lv (.int i :: .ref a :: t) h := by
  intro H locs ls hn hz hW hS hl
  obtain ⟨n, f⟩ := q
  obtain ⟨k, rfl, h1, h2⟩ := rx_rz_e hr
  show W p l e R s m args below meth c H locs _ _ Q (F0 m pc ls (.int i :: .ref (rx_ad ro base (k + 16)) :: t.map (rx_cv (rx_ad ro base))))
  rw [rx_ad_k ro base k]
  exact va_zald (f := f) (n := n) hx hb (hK.K ht) (rx_one (hW.2 k _ h1)) 0 0 rfl rfl hin hd (K H locs ls hn hz hW hS hl)
theorem rx_h_iast (hx : p.tables.exec = Jvm.exec) (hb : c.code = cc) (hK : rx_Kx cl tys sts nst D dT ro rt base s s.heap) (ht : tys[0]? = some .int) {x i : Int32} {k n : Nat} {f : Nat → Int32} (hk : h[k]? = some (.inl (0, n, .inl f))) (hlt : k < h.length) (hin : vp_in i n) (hd : decode cc pc = .ok (.iastore, 1))
    (K : rx_At p l e R s m args below meth c Q cl D dT ro base n0 z0 nL (pc + 1) lv t (h.set k (.inl (0, n, .inl (upd f i.toNatClampNeg x))))) : rx_At p l e R s m args below meth c Q cl D dT ro base n0 z0 nL pc lv (.int x :: .int i :: .ref (k + 16) :: t) h := by
  intro H locs ls hn hz hW hS hl
  show W p l e R s m args below meth c H locs _ _ Q (F0 m pc ls (.int x :: .int i :: .ref (rx_ad ro base (k + 16)) :: t.map (rx_cv (rx_ad ro base))))
  rw [rx_ad_k ro base k]
  have hc : H[base + k]? = some (vp_cell (dT 0) (n, .inl f)) := hW.2 k _ hk
  refine W.iast hx hb hc ((hK.2.1 0 _ ht).1 n (fun j => .int (f j))) (fun q => by cases q) (by show ¬ (i < 0 ∨ (arrV _ _ _).slots.size ≤ _); rw [arrV_size]; exact hin) rfl rfl hd fun H1 e1 z1 oq => ?_
  refine K.set hk rfl H1 _ ls hn hz (hW.set hlt z1 ?_ oq) (hS.put z1 oq (Nat.le_add_right _ _)) hl
  show H1[base + k]? = some (vp_cell (dT 0) (n, .inl (upd f i.toNatClampNeg x)))
  rw [e1, vp_cell_i, vp_cell_i, arrV_store]
  congr 2
  funext q
  by_cases hq : q = i.toNatClampNeg
  · subst hq
    simp [updV, upd]
  · simp [updV, upd, hq]
theorem rx_h_last (hx : p.tables.exec = Jvm.exec) (hb : c.code = cc) (hK : rx_Kx cl tys sts nst D dT ro rt base s s.heap) (ht : tys[1]? = some .long) {x : Int64} {i : Int32} {k n : Nat} {f : Nat → Int64} (hk : h[k]? = some (.inl (1, n, .inr (.inl f)))) (hlt : k < h.length) (hin : vp_in i n) (hd : decode cc pc = .ok (.lastore, 1))
    (K : rx_At p l e R s m args below meth c Q cl D dT ro base n0 z0 nL (pc + 1) lv t (h.set k (.inl (1, n, .inr (.inl (vp_updL f i.toNatClampNeg x)))))) : rx_At p l e R s m args below meth c Q cl D dT ro base n0 z0 nL pc lv (.long x :: .int i :: .ref (k + 16) :: t) h := by
  intro H locs ls hn hz hW hS hl
  show W p l e R s m args below meth c H locs _ _ Q (F0 m pc ls (.long x :: .int i :: .ref (rx_ad ro base (k + 16)) :: t.map (rx_cv (rx_ad ro base))))
  rw [rx_ad_k ro base k]
  have hc : H[base + k]? = some (vp_cell (dT 1) (n, .inr (.inl f))) := hW.2 k _ hk
  refine W.last hx hb hc ((hK.2.1 1 _ ht).1 n (fun j => .long (f j))) (fun q => by cases q) (by show ¬ (i < 0 ∨ (arrV _ _ _).slots.size ≤ _); rw [arrV_size]; exact hin) rfl rfl hd fun H1 e1 z1 oq => ?_
  refine K.set hk rfl H1 _ ls hn hz (hW.set hlt z1 ?_ oq) (hS.put z1 oq (Nat.le_add_right _ _)) hl
  show H1[base + k]? = some (vp_cell (dT 1) (n, .inr (.inl (vp_updL f i.toNatClampNeg x))))
  rw [e1, vp_cell_l, vp_cell_l, arrV_store]
  congr 2
  funext q
  by_cases hq : q = i.toNatClampNeg
  · subst hq
    simp [updV, vp_updL]
  · simp [updV, vp_updL, hq]
theorem rx_h_zast (hx : p.tables.exec = Jvm.exec) (hb : c.code = cc) (hK : rx_Kx cl tys sts nst D dT ro rt base s s.heap) (ht : tys[2]? = some .boolean) {x i : Int32} {k n : Nat} {f : Nat → Int32} (hk : h[k]? = some (.inl (2, n, .inl f))) (hlt : k < h.length) (hin : vp_in i n) (hd : decode cc pc = .ok (.bastore, 1))
    (K : rx_At p l e R s m args below meth c Q cl D dT ro base n0 z0 nL (pc + 1) lv t (h.set k (.inl (2, n, .inl (upd f i.toNatClampNeg (vp_nar .boolean x)))))) : rx_At p l e R s m args below meth c Q cl D dT ro base n0 z0 nL pc lv (.int x :: .int i :: .ref (k + 16) :: t) h := by
  intro H locs ls hn hz hW hS hl
  show W p l e R s m args below meth c H locs _ _ Q (F0 m pc ls (.int x :: .int i :: .ref (rx_ad ro base (k + 16)) :: t.map (rx_cv (rx_ad ro base))))
  rw [rx_ad_k ro base k]
  have hc : H[base + k]? = some (vp_cell (dT 2) (n, .inl f)) := hW.2 k _ hk
  refine W.zast hx hb hc ((hK.2.1 2 _ ht).1 n (fun j => .int (f j))) (fun q => by cases q) (by show ¬ (i < 0 ∨ (arrV _ _ _).slots.size ≤ _); rw [arrV_size]; exact hin) rfl rfl hd fun H1 e1 z1 oq => ?_
  refine K.set hk rfl H1 _ ls hn hz (hW.set hlt z1 ?_ oq) (hS.put z1 oq (Nat.le_add_right _ _)) hl
  show H1[base + k]? = some (vp_cell (dT 2) (n, .inl (upd f i.toNatClampNeg (vp_nar .boolean x))))
  rw [e1, vp_cell_i, vp_cell_i, arrV_store]
  congr 2
  funext q
  by_cases hq : q = i.toNatClampNeg
  · subst hq
    simp [updV, upd, vp_nar, narrow]
  · simp [updV, upd, hq]
theorem rx_h_alen (hx : p.tables.exec = Jvm.exec) (hb : c.code = cc) (hK : rx_Kx cl tys sts nst D dT ro rt base s s.heap) {a n : Nat} (hT : 4 ≤ tys.length) (hr : rx_aln rt h a = some n) (hd : decode cc pc = .ok (.arraylength, 1))
    (K : rx_At p l e R s m args below meth c Q cl D dT ro base n0 z0 nL (pc + 1) lv (.int (Int32.ofNat n) :: t) h) : rx_At p l e R s m args below meth c Q cl D dT ro base n0 z0 nL pc lv (.ref a :: t) h := by
  intro H locs ls hn hz hW hS hl
  unfold rx_aln at hr
  split at hr
  · next h1 =>
    cases hq : rt a with
    | none => rw [hq] at hr; cases hr
    | some q =>
      obtain ⟨n', f⟩ := q
      rw [hq] at hr
      cases hr
      show W p l e R s m args below meth c H locs _ _ Q (F0 m pc ls (.ref (rx_ad ro base a) :: t.map (rx_cv (rx_ad ro base))))
      rw [rx_ad_r ro base h1]
      exact va_tlen hx hb (hK.2.2.1 a n' f h1 hq) hS rfl hd (K H locs ls hn hz hW hS hl)
  · next h1 =>
    split at hr
    · next q hq =>
      split at hr
      · next q4 =>
        cases hr
        obtain ⟨k, rfl, g1, g2⟩ := rx_cell_e hq
        obtain ⟨ty, hty⟩ : ∃ ty, tys[q.1]? = some ty := ⟨tys[q.1]'(by omega), List.getElem?_eq_getElem (by omega)⟩
        show W p l e R s m args below meth c H locs _ _ Q (F0 m pc ls (.ref (rx_ad ro base (k + 16)) :: t.map (rx_cv (rx_ad ro base))))
        rw [rx_ad_k ro base k]
        exact va_alen (x := rx_ca (rx_ad ro base) q.2) hx hb (hK.K hty) (rx_one (hW.2 k _ g1)) 0 0 rfl rfl rfl hd (K H locs ls hn hz hW hS hl)
      · cases hr
    · cases hr
end RXH
end
section
theorem rx_fit_n {ty : FieldType} {v : Value} (ad : Nat → Nat) (h : rx_fit ty v = true) : narrow ty (rx_cv ad v) = rx_cv ad v ∧ fits ty (rx_cv ad v) = true := by
  unfold rx_fit at h
  split at h
  · exact ⟨rfl, rfl⟩
  · exact ⟨rfl, rfl⟩
  · next x =>
    simp only [Bool.or_eq_true, decide_eq_true_eq] at h
    rcases h with rfl | rfl
    · exact ⟨(by decide +kernel : narrow .boolean (.int 0) = .int 0), (by decide +kernel : fits .boolean (.int 0) = true)⟩
    · exact ⟨(by decide +kernel : narrow .boolean (.int 1) = .int 1), (by decide +kernel : fits .boolean (.int 1) = true)⟩
  · exact ⟨rfl, rfl⟩
  · exact ⟨rfl, rfl⟩
  · cases h
section RXF
variable {p : Program} {l : Launch} {e : Env} {R : Room} {s : State} {m : MethodId} {args : Array Value} {below : List Frame} {meth : Method} {c : Code} {Q : State → Prop}
variable {all : List Cond} {cl : List vw_C} {tys : List FieldType} {sts : List (String × String × String × Nat)} {nst : List Cond} {D : va_G} {dT : Nat → ClassId} {ro : Nat → Nat} {rt : rx_R} {base n0 z0 : Nat}
variable {cc : ByteArray} {nL pc pc' : Nat} {lv lv' : rx_L} {st st' t : List Value} {h : rx_H} {own : String}
theorem rx_h_get (hx : p.tables.exec = Jvm.exec) (hb : c.code = cc) (hts : ∀ w ∈ all, w.before args s = true) (hown : s.vm.findClass own = some m.cls) (hK : rx_Kx cl tys sts nst D dT ro rt base s s.heap) (GC : ∀ (ci : Nat) (q : vw_C), cl[ci]? = some q → rx_GC all q) {ix ci k : Nat} {ty : FieldType} {fl : Nat} (G : rx_GF all nst cl own ix ci k ty fl)
    {o : Nat} {fs : List Value} {v : Value} (hk : h[o]? = some (.inr (ci, fs))) (hv : fs[k]? = some v) (hd : decode cc pc = .ok (.getfield ix, 3))
    (K : rx_At p l e R s m args below meth c Q cl D dT ro base n0 z0 nL (pc + 3) lv (v :: t) h) : rx_At p l e R s m args below meth c Q cl D dT ro base n0 z0 nL pc lv (.ref (o + 16) :: t) h := by
  intro H locs ls hn hz hW hS hl
  show W p l e R s m args below meth c H locs _ _ Q (F0 m pc ls (.ref (rx_ad ro base (o + 16)) :: t.map (rx_cv (rx_ad ro base))))
  rw [rx_ad_k ro base o]
  obtain ⟨C, T, N, hc, hkN, hpd, -, -, hlk | ⟨host, hlk⟩⟩ := G
  · exact va_get (D := D) (ci := ci) (v := rx_cv (rx_ad ro base) v) (C := C) (T := T) (N := N) hx hb hts (GC ci _ hc).1 hown hK.K0 (rx_one (hW.2 o _ hk)) 0 rfl hc k hkN (hts _ hlk) (fun _ h9 => h9) (by rw [List.getElem?_map, hv]; rfl) hd (K H locs ls hn hz hW hS hl)
  · exact va_getN (D := D) (ci := ci) (v := rx_cv (rx_ad ro base) v) (C := C) (T := T) (N := N) hx hb hts (GC ci _ hc).1 hown hK.K0 (rx_one (hW.2 o _ hk)) 0 rfl hc k hkN (va_Nw.use rfl (hK.2.2.2.2 _ hlk)) (fun _ h9 => h9) (by rw [List.getElem?_map, hv]; rfl) hd (K H locs ls hn hz hW hS hl)
theorem rx_h_put (hx : p.tables.exec = Jvm.exec) (hb : c.code = cc) (hts : ∀ w ∈ all, w.before args s = true) (hown : s.vm.findClass own = some m.cls) (hK : rx_Kx cl tys sts nst D dT ro rt base s s.heap) (GC : ∀ (ci : Nat) (q : vw_C), cl[ci]? = some q → rx_GC all q) {ix ci k : Nat} {ty : FieldType} {fl : Nat} {ini : Bool} (G : rx_GF all nst cl own ix ci k ty fl) (hini : ini = true → meth.name = "<init>")
    {o : Nat} {fs : List Value} {v : Value} (hk : h[o]? = some (.inr (ci, fs))) (hlt : o < h.length) (hkl : k < fs.length) (hfit : rx_fit ty v = true) (hf : fl = 0 ∨ (fl = 1 ∧ ini = true)) (hd : decode cc pc = .ok (.putfield ix, 3))
    (K : rx_At p l e R s m args below meth c Q cl D dT ro base n0 z0 nL (pc + 3) lv t (h.set o (.inr (ci, fs.set k v)))) : rx_At p l e R s m args below meth c Q cl D dT ro base n0 z0 nL pc lv (v :: .ref (o + 16) :: t) h := by
  intro H locs ls hn hz hW hS hl
  show W p l e R s m args below meth c H locs _ _ Q (F0 m pc ls (rx_cv (rx_ad ro base) v :: .ref (rx_ad ro base (o + 16)) :: t.map (rx_cv (rx_ad ro base))))
  rw [rx_ad_k ro base o]
  obtain ⟨C, T, N, hc, hkN, hpd, hf0, hf1, hlk⟩ := G
  obtain ⟨g1, ⟨ty0, g2⟩, g3, g4, g5⟩ := GC ci _ hc
  obtain ⟨f1, f2⟩ := rx_fit_n (rx_ad ro base) hfit
  have hap := va_apart (own := own) hts g1 ty0 g2 g3 hK.K0 hc
  obtain ⟨r, h1, cell, q1, q2, q3, q4⟩ := hW.2 o _ hk
  have hr : r = (C, T, N) := Option.some.inj (h1.symm.trans hc)
  subst hr
  obtain ⟨hSl, hfc, kC, hkC, hkind⟩ := hK.1 ci _ hc
  obtain ⟨cf, kf, fi, f, hi, hsl⟩ := hSl k hkN
  have hst := (u_facts hfc hkC (u_lays hts g1 hkN) hi).1
  have hlay := hts _ (g1 _ (u_in_lay hkN))
  unfold u_lay at hlay
  have fin' : ∀ (H1 : Heap) (sl : Nat), H1[base + o]? = some (cell.setSlot ((D.2 ci) k) (rx_cv (rx_ad ro base) v)) → H1.size = H.size → (∀ q : Nat, q ≠ base + o → H1[q]? = H[q]?) →
      W p l e R s m args below meth c H1 (locs ++ [⟨base + o, sl⟩]) (h.length - n0) (rx_sz h - z0) Q (F0 m (pc + 3) ls (t.map (rx_cv (rx_ad ro base)))) := by
    intro H1 sl e1 e2 e3
    refine K.set hk (by simp [rx_sz1]) H1 _ ls hn hz (hW.set hlt e2 ?_ e3) (hS.put e2 e3 (Nat.le_add_right _ _)) hl
    refine ⟨_, hc, t_OB.to (V := updV (vp_V (fs.map (rx_cv (rx_ad ro base)))) k (rx_cv (rx_ad ro base) v)) ⟨_, e1, q2, q3, t_set q4 hap hkN _⟩ (fun j _ => ?_)⟩
    have e9 : (fs.set k v).map (rx_cv (rx_ad ro base)) = (fs.map (rx_cv (rx_ad ro base))).set k (rx_cv (rx_ad ro base) v) := List.map_set
    show _ = vp_V ((fs.set k v).map (rx_cv (rx_ad ro base))) j
    rw [e9]
    exact vp_updV_set (by rw [List.length_map]; exact hkl) _ j
  rcases hf with hfl | ⟨hfl, hi9⟩
  · rw [if_neg (by rw [hf0 hfl]; decide)] at hlay
    have h6 := u_store hfc hkC hkind hlay hi hpd f1 f2
    rcases hlk with hlk | ⟨host, hlk⟩
    · refine W.putK hx hb (f := f) ⟨hown, hts _ hlk, ⟨_, _, _, hi⟩, hst⟩ (by rw [q2]; exact h6) q1 q3 (by rw [hsl]; exact k2_hasslot (q4 k hkN)) rfl rfl hd fun H' e1 e2 e3 => ?_
      rw [hsl] at e1
      exact fin' H' _ e1 e2 e3
    · refine va_WputK hx hb (f := f) hown (va_Nw.use rfl (hK.2.2.2.2 _ hlk)) hi hst (by rw [q2]; exact h6) q1 q3 (by rw [hsl]; exact k2_hasslot (q4 k hkN)) rfl rfl hd fun H' e1 e2 e3 => ?_
      rw [hsl] at e1
      exact fin' H' _ e1 e2 e3
  · obtain ⟨w1, w2, w3⟩ := hf1 hfl
    rw [if_pos w1] at hlay
    have hi2 : meth.name = "<init>" := hini hi9
    have hcf : m.cls = cf := by
      obtain ⟨_, _, c', _, _, _, -, -, hf', -, -, -, hown2, -⟩ := Cond.laysFinal_spec hlay
      have e1 : c' = cf := by have := hi.symm.trans hf'; simp at this; exact this.1.symm
      rw [w2] at hown2
      rw [← e1]; exact Option.some.inj (hown.symm.trans hown2)
    have h6 := u_fits hfc hkC hkind (Or.inr hlay) hi hpd f1 f2
    refine W.putFinK hx hb hown (hts _ w3) hi hst hcf hi2 (by rw [q2]; exact h6) q1 q3 (by rw [hsl]; exact k2_hasslot (q4 k hkN)) rfl rfl hd fun H' e1 e2 e3 => ?_
    rw [hsl] at e1
    exact fin' H' _ e1 e2 e3
end RXF
end
section
def rx_noref (fs : List Value) : Bool := fs.all (fun v => match v with | .ref _ => false | _ => true)
theorem rx_noref_e (ad : Nat → Nat) : ∀ (fs : List Value), rx_noref fs = true → fs.map (rx_cv ad) = fs
  | [], _ => rfl
  | v :: fs, h => by
    simp only [rx_noref, List.all_cons, Bool.and_eq_true] at h
    have ih := rx_noref_e ad fs (by simpa [rx_noref] using h.2)
    rw [List.map_cons, ih]
    have h1 := h.1
    cases v <;> first | rfl | exact absurd h1 (by simp)
def rx_nw (o : Option Nat) (cds : List (List Value)) (pc : Nat) (lv : rx_L) (st : List Value) (h : rx_H) : Option rx_N := match o with
  | some ci => match cds[ci]? with
    | some fs => rx_nx (pc + 3) lv (.ref (h.length + 16) :: st) (h ++ [.inr (ci, fs)])
    | none => none
  | none => none
/-- which array a 'newarray' makes: the type's place, the zeros -/
def rx_aty (a : ArrayType) : Option (Nat × FieldType) := match a with
  | .int => some (0, .int)
  | .long => some (1, .long)
  | .boolean => some (2, .boolean)
  | _ => none
def rx_zer (t n : Nat) : vp_A := if t = 1 then (n, .inr (.inl (fun _ => 0))) else (n, .inl (fun _ => 0))
def rx_na (o : Option (Nat × FieldType)) (pc : Nat) (lv : rx_L) (st : List Value) (h : rx_H) : Option rx_N := match o, st with
  | some q, .int n :: r => if n < 0 ∨ 1000000 < n.toNatClampNeg then none else rx_nx (pc + 2) lv (.ref (h.length + 16) :: r) (h ++ [.inl (q.1, rx_zer q.1 n.toNatClampNeg)])
  | _, _ => none
theorem rx_nw_e {o : Option Nat} {cds : List (List Value)} {pc : Nat} {lv : rx_L} {st : List Value} {h : rx_H} {r : Nat × rx_L × List Value × rx_H} (e : rx_nw o cds pc lv st h = some r) : ∃ ci fs, o = some ci ∧ cds[ci]? = some fs ∧ r = (pc + 3, lv, .ref (h.length + 16) :: st, h ++ [.inr (ci, fs)]) := by
  unfold rx_nw at e
  split at e
  · next ci =>
    split at e
    · next fs w => exact ⟨ci, fs, rfl, w, rx_nx_e e⟩
    · cases e
  · cases e
theorem rx_na_e {o : Option (Nat × FieldType)} {pc : Nat} {lv : rx_L} {st : List Value} {h : rx_H} {r : Nat × rx_L × List Value × rx_H} (e : rx_na o pc lv st h = some r) : ∃ q n t, o = some q ∧ st = .int n :: t ∧ ¬ n < 0 ∧ n.toNatClampNeg ≤ 1000000 ∧ r = (pc + 2, lv, .ref (h.length + 16) :: t, h ++ [.inl (q.1, rx_zer q.1 n.toNatClampNeg)]) := by
  unfold rx_na at e
  split at e
  · next q n t =>
    split at e
    · cases e
    · next w => exact ⟨q, n, t, rfl, rfl, fun z => w (Or.inl z), Nat.not_lt.mp (fun z => w (Or.inr z)), rx_nx_e e⟩
  · cases e
def rx_GN (all : List Cond) (cl : List vw_C) (cds : List (List Value)) (own : String) (ix ci : Nat) : Prop := ∃ (C : String) (T : u_T) (N : Nat) (ty0 : Nat → FieldType) (fs : List Value), cl[ci]? = some (C, T, N) ∧ cds[ci]? = some fs ∧ fs.length = N ∧ rx_noref fs = true ∧ Cond.classLink own ix C ∈ all ∧ (∀ k, k < N → parseFieldDescriptor (T k).2.2.1 = some (ty0 k)) ∧ ∀ j, j < N → defaultValue (ty0 j) = vp_V fs j
section RXN
variable {p : Program} {l : Launch} {e : Env} {R : Room} {s : State} {m : MethodId} {args : Array Value} {below : List Frame} {meth : Method} {c : Code} {Q : State → Prop}
variable {all : List Cond} {cl : List vw_C} {tys : List FieldType} {sts : List (String × String × String × Nat)} {nst : List Cond} {D : va_G} {dT : Nat → ClassId} {ro : Nat → Nat} {rt : rx_R} {base n0 z0 : Nat}
variable {cc : ByteArray} {nL pc pc' : Nat} {lv lv' : rx_L} {st st' t : List Value} {h : rx_H} {own : String}
theorem rx_At.push {c' : rx_C} (K : rx_At p l e R s m args below meth c Q cl D dT ro base n0 z0 nL pc' lv' st' (h ++ [c'])) (H : Heap) (locs : List Loc) (ls : Array Slot) (hn : n0 ≤ h.length) (hz : z0 ≤ rx_sz h) (hW : rx_W D cl dT (rx_ad ro base) base (h ++ [c']) H) (hS : va_S (fun q => base ≤ q) s.heap H locs) (hl : lv_has ls nL (rx_cl2 (rx_ad ro base) lv')) :
    W p l e R s m args below meth c H locs (h.length - n0 + 1) (rx_sz h - z0 + rx_sz1 c') Q (F0 m pc' ls (st'.map (rx_cv (rx_ad ro base)))) := by
  have e1 : rx_sz (h ++ [c']) = rx_sz h + rx_sz1 c' := by simp [rx_sz]
  have h1 := K H locs ls (by simp; omega) (by rw [e1]; omega) hW hS hl
  rw [e1, List.length_append, show h.length + [c'].length - n0 = h.length - n0 + 1 by simp; omega, show rx_sz h + rx_sz1 c' - z0 = rx_sz h - z0 + rx_sz1 c' by omega] at h1
  exact h1
theorem rx_h_new (hx : p.tables.exec = Jvm.exec) (hb : c.code = cc) (hts : ∀ w ∈ all, w.before args s = true) (hown : s.vm.findClass own = some m.cls) (hK : rx_Kx cl tys sts nst D dT ro rt base s s.heap) (GC : ∀ (ci : Nat) (q : vw_C), cl[ci]? = some q → rx_GC all q) {cds : List (List Value)} {ix ci : Nat} (G : rx_GN all cl cds own ix ci)
    {fs : List Value} (hfs : cds[ci]? = some fs) (hRc : h.length + 1 ≤ n0 + R.cells) (hRs : rx_sz h + fs.length ≤ z0 + R.slots) (hd : decode cc pc = .ok (.new ix, 3))
    (K : rx_At p l e R s m args below meth c Q cl D dT ro base n0 z0 nL (pc + 3) lv (.ref (h.length + 16) :: st) (h ++ [.inr (ci, fs)])) : rx_At p l e R s m args below meth c Q cl D dT ro base n0 z0 nL pc lv st h := by
  intro H locs ls hn hz hW hS hl
  obtain ⟨C, T, N, ty0, fs', hc, hcd, hlen, hnr, hlk, hty, hdf⟩ := G
  cases hcd.symm.trans hfs
  obtain ⟨g1, -, -, g4, g5⟩ := GC ci _ hc
  have hKn := hK.1 ci _ hc
  refine W.newcK (h := H.size) hx hb hown (hts _ hlk) (hts _ g4) (hts _ g5) rfl hd (by omega) (show rx_sz h - z0 + N ≤ R.slots by omega) hKn.2.1 rfl fun H1 kC hkC e1 z1 o1 => ?_
  have h1 := K.push H1 locs ls hn hz (hW.push z1 ?_ o1) ⟨by rw [z1]; exact Nat.le_trans hS.1 (Nat.le_succ _), fun x q1 q2 => (o1 x (Nat.lt_of_lt_of_le q1 hS.1)).trans (hS.2.1 x q1 q2), hS.2.2⟩ hl
  · rw [show rx_sz1 (.inr (ci, fs)) = N from hlen] at h1
    rw [List.map_cons, show rx_cv (rx_ad ro base) (.ref (h.length + 16)) = .ref (rx_ad ro base (h.length + 16)) from rfl, rx_ad_k ro base, ← hW.1] at h1
    exact h1
  · refine ⟨_, hc, ?_⟩
    rw [show (rx_ce (rx_ad ro base) dT (.inr (ci, fs))) = .inr (ci, fs.map (rx_cv (rx_ad ro base))) from rfl, rx_noref_e _ fs hnr, ← hW.1]
    exact (u_born ty0 hts g1 hKn hkC e1 hty).to hdf
theorem rx_h_na (hx : p.tables.exec = Jvm.exec) (hb : c.code = cc) (hts : ∀ w ∈ all, w.before args s = true) (hK : rx_Kx cl tys sts nst D dT ro rt base s s.heap) (htt : tys[0]? = some .int ∧ tys[1]? = some .long ∧ tys[2]? = some .boolean) {at' : ArrayType} {q : Nat × FieldType} (hq : rx_aty at' = some q) (harr : Cond.arrayClass q.2 ∈ all)
    {n : Int32} (hn0 : ¬ n < 0) (hn1 : n.toNatClampNeg ≤ 1000000) (hRc : h.length + 1 ≤ n0 + R.cells) (hRs : rx_sz h + n.toNatClampNeg ≤ z0 + R.slots) (hd : decode cc pc = .ok (.newarray at', 2))
    (K : rx_At p l e R s m args below meth c Q cl D dT ro base n0 z0 nL (pc + 2) lv (.ref (h.length + 16) :: t) (h ++ [.inl (q.1, rx_zer q.1 n.toNatClampNeg)])) : rx_At p l e R s m args below meth c Q cl D dT ro base n0 z0 nL pc lv (.int n :: t) h := by
  intro H locs ls hn hz hW hS hl
  have hty : newarray.typeOf at' = q.2 ∧ tys[q.1]? = some q.2 ∧ (∀ cA : ClassId, vp_cell cA (rx_ca (rx_ad ro base) (rx_zer q.1 n.toNatClampNeg)) = arrV cA n.toNatClampNeg (fun _ => defaultValue q.2)) ∧ componentBytes q.2 ≤ 8 ∧ "[" ++ q.2.toString = "[" ++ (newarray.typeOf at').toString ∧ rx_sz1 (.inl (q.1, rx_zer q.1 n.toNatClampNeg)) = n.toNatClampNeg ∧ (∀ U cA, va_RA U cA q.2 → U.vm.findClass ("[" ++ q.2.toString) = some cA) := by
    cases at' <;> first
      | (cases hq; refine ⟨rfl, ?_, fun _ => rfl, by decide, rfl, rfl, fun _ _ z => z⟩; first | exact htt.1 | exact htt.2.1 | exact htt.2.2)
      | (cases hq)
  obtain ⟨e1, e2, e3, e4, e5, e6, e7⟩ := hty
  refine va_newaK (h := H.size) (N := n.toNatClampNeg) hx hb (by rw [e1]; exact hts _ harr) (g := F0 m pc ls (.int n :: t.map (rx_cv (rx_ad ro base)))) rfl hd rfl hn0 rfl (by rw [e1]; exact Nat.le_trans (Nat.mul_le_mul hn1 e4) (by decide)) (by omega) (by omega) rfl fun H1 cA c1 z1 o1 hAr hNm => ?_
  have hcA : cA = dT q.1 := by
    have h1 := e7 _ _ (hK.2.1 q.1 _ e2).2
    rw [e5, hNm] at h1
    exact Option.some.inj h1
  subst hcA
  have h1 := K.push H1 locs ls hn hz (hW.push z1 ?_ o1) ⟨by rw [z1]; exact Nat.le_trans hS.1 (Nat.le_succ _), fun x q1 q2 => (o1 x (Nat.lt_of_lt_of_le q1 hS.1)).trans (hS.2.1 x q1 q2), hS.2.2⟩ hl
  · rw [e6, List.map_cons, show rx_cv (rx_ad ro base) (.ref (h.length + 16)) = .ref (rx_ad ro base (h.length + 16)) from rfl, rx_ad_k ro base, ← hW.1] at h1
    exact h1
  · show H1[base + h.length]? = some (vp_cell (dT q.1) (rx_ca (rx_ad ro base) (rx_zer q.1 n.toNatClampNeg)))
    rw [e3, ← e1, ← hW.1]
    exact c1
end RXN
end
section
def rx_rcv (h : rx_H) (k ci : Nat) (as : List Value) : Bool := match k, as with
  | 0, _ => true
  | 1, .ref a :: _ => match rx_ro h a with
    | some q => Nat.beq q.1 ci
    | none => false
  | _, .ref _ :: _ => true
  | _, _ => false
def rx_an (M : rx_M) (kind : Nat) : Nat := match kind with
  | 0 => rx_Mn M
  | _ => rx_Mn M + 1
def rx_iv (ms : List rx_M) (o : Option (Nat × Nat)) (kind : Nat) (st : List Value) (h : rx_H) : Option (Nat × List Value × List Value) := match o with
  | some q => match ms[q.1]? with
    | some M => if rx_Mk M = kind ∧ rx_an M kind ≤ st.length ∧ ((st.drop (rx_an M kind)).map (fun v => v.category)).sum ≤ 8 ∧ (lg_sl (st.take (rx_an M kind)).reverse).length ≤ rx_Ml M ∧ rx_rcv h kind (rx_Mc M) (st.take (rx_an M kind)).reverse = true
      then some (q.1, (st.take (rx_an M kind)).reverse, st.drop (rx_an M kind)) else none
    | none => none
  | none => none
theorem rx_iv_e {ms : List rx_M} {o : Option (Nat × Nat)} {kind : Nat} {st : List Value} {h : rx_H} {j : Nat} {as rest : List Value} (e : rx_iv ms o kind st h = some (j, as, rest)) :
    ∃ nest M, o = some (j, nest) ∧ ms[j]? = some M ∧ rx_Mk M = kind ∧ as.length = rx_an M kind ∧ st = as.reverse ++ rest ∧ (rest.map (fun v => v.category)).sum ≤ 8 ∧ (lg_sl as).length ≤ rx_Ml M ∧ rx_rcv h kind (rx_Mc M) as = true := by
  unfold rx_iv at e
  split at e
  · next q =>
    split at e
    · next M w =>
      split at e
      · next z =>
        obtain ⟨z1, z2, z3, z4, z5⟩ := z
        have e1 := Option.some.inj e
        obtain ⟨j', nest⟩ := q
        simp only [Prod.mk.injEq] at e1
        obtain ⟨rfl, rfl, rfl⟩ := e1
        refine ⟨nest, M, rfl, w, z1, ?_, ?_, z3, z4, z5⟩
        · rw [List.length_reverse, List.length_take]; omega
        · rw [List.reverse_reverse, List.take_append_drop]
      · cases e
    · cases e
  · cases e
/-- which call an instruction is, if it is one -/
def rx_call (ms : List rx_M) (lk : rx_Lk) (M : rx_M) (ins : Instr) (st : List Value) (h : rx_H) : Option (Nat × List Value × List Value) := match ins with
  | .invokestatic ix => rx_iv ms (rx_luv lk.2.2.1 (rx_Mo M) ix) 0 st h
  | .invokevirtual ix => rx_iv ms (rx_luv lk.2.2.1 (rx_Mo M) ix) 1 st h
  | .invokespecial ix => rx_iv ms (rx_luv lk.2.2.1 (rx_Mo M) ix) 2 st h
  | _ => none
theorem rx_call_e {ms : List rx_M} {lk : rx_Lk} {M : rx_M} {ins : Instr} {st : List Value} {h : rx_H} {r : Nat × List Value × List Value} (e : rx_call ms lk M ins st h = some r) : ∃ ix k, rx_iv ms (rx_luv lk.2.2.1 (rx_Mo M) ix) k st h = some r ∧ ((ins = .invokestatic ix ∧ k = 0) ∨ (ins = .invokevirtual ix ∧ k = 1) ∨ (ins = .invokespecial ix ∧ k = 2)) := by
  unfold rx_call at e
  split at e
  · next ix => exact ⟨ix, 0, e, Or.inl ⟨rfl, rfl⟩⟩
  · next ix => exact ⟨ix, 1, e, Or.inr (Or.inl ⟨rfl, rfl⟩)⟩
  · next ix => exact ⟨ix, 2, e, Or.inr (Or.inr ⟨rfl, rfl⟩)⟩
  · cases e
def rx_GM (all : List Cond) (cl : List vw_C) (M : rx_M) : Prop :=
  Cond.code (rx_My M) (rx_Mb M) (rx_Ml M) (rx_Mr M) ∈ all ∧ Cond.initialized (rx_My M).cls ∈ all ∧ ((rx_My M).cls ≠ "java/lang/invoke/MethodHandle" ∧ (rx_My M).cls ≠ "java/lang/invoke/VarHandle") ∧ (parseMethodDescriptor (rx_My M).desc).map (fun d => d.parameters.length) = some (rx_Mn M) ∧ plainName (rx_My M).cls = true ∧
  (rx_Mk M = 0 → Cond.static (rx_My M) ∈ all) ∧ (rx_Mk M = 1 → Cond.instanceMethod (rx_My M) ∈ all ∧ ∃ q : vw_C, cl[rx_Mc M]? = some q ∧ Cond.selects q.1 (rx_My M) (rx_My M) ∈ all) ∧ (rx_Mk M = 2 → Cond.instanceMethod (rx_My M) ∈ all ∧ (rx_My M).name = "<init>" ∧ rx_Mr M = none)
def rx_GL (all nst : List Cond) (own : String) (ix : Nat) (y : MethodName) : Prop := Cond.methodLink own ix y ∈ all ∨ ∃ host : String, Cond.methodLinkNest own ix y host ∈ nst
def rx_Pc (cl : List vw_C) (tys : List FieldType) (sts : List (String × String × String × Nat)) (nst : List Cond) (D : va_G) (dT : Nat → ClassId) (ro : Nat → Nat) (rt : rx_R) (base : Nat) (as : List Value) (h : rx_H) : Array Value → State → Prop :=
  va_Pc (as.map (rx_cv (rx_ad ro base))) (fun U => rx_W D cl dT (rx_ad ro base) base h U.heap ∧ rx_Kx cl tys sts nst D dT ro rt base U U.heap)
def rx_Qc (cl : List vw_C) (D : va_G) (dT : Nat → ClassId) (ro : Nat → Nat) (base : Nat) (v : Option Value) (h' : rx_H) : Array Value → State → Outcome → State → Prop :=
  fun _ st o t => o = .returned (v.map (rx_cv (rx_ad ro base))) ∧ rx_W D cl dT (rx_ad ro base) base h' t.heap ∧ ∀ q : Nat, q < base → t.heap[q]? = st.heap[q]?
abbrev rx_ws (all : List Cond) (M : rx_M) : List Cond := Cond.code (rx_My M) (rx_Mb M) (rx_Ml M) (rx_Mr M) :: all
def rx_rm (d w mc ms : Nat) : Room := { frames := d, cells := mc, slots := ms, locals := w }
/-- the contract of a run -/
def rx_Met (l : Launch) (all : List Cond) (cl : List vw_C) (tys : List FieldType) (sts : List (String × String × String × Nat)) (nst : List Cond) (D : va_G) (dT : Nat → ClassId) (ro : Nat → Nat) (rt : rx_R) (base : Nat) (M : rx_M) (d w : Nat) (as : List Value) (h : rx_H) (v : Option Value) (h' : rx_H) : Prop :=
  Met l (rx_My M) (rx_ws all M) (rx_rm d w (h'.length - h.length) (rx_sz h' - rx_sz h)) (rx_Pc cl tys sts nst D dT ro rt base as h) (rx_Qc cl D dT ro base v h') (h'.length - h.length) (rx_sz h' - rx_sz h) (fun q => base ≤ q)
section RXC
variable {p : Program} {l : Launch} {e : Env} {R : Room} {s : State} {m : MethodId} {args : Array Value} {below : List Frame} {meth : Method} {c : Code} {Q : State → Prop}
variable {all : List Cond} {cl : List vw_C} {tys : List FieldType} {sts : List (String × String × String × Nat)} {nst : List Cond} {D : va_G} {dT : Nat → ClassId} {ro : Nat → Nat} {rt : rx_R} {base n0 z0 : Nat}
variable {cc : ByteArray} {nL pc pc' : Nat} {lv lv' : rx_L} {st st' t : List Value} {h h' : rx_H} {own : String}
theorem rx_h_back (hlen : h.length ≤ h'.length) (hsz : rx_sz h ≤ rx_sz h') (hs0 : s.heap.size = base + n0) {v : Option Value} {rest : List Value} {H : Heap} {locs : List Loc} {ls : Array Slot} {stk : List Value} {a : Array Value} (hn : n0 ≤ h.length) (hz : z0 ≤ rx_sz h) (hS : va_S (fun q => base ≤ q) s.heap H locs) (hl : lv_has ls nL (rx_cl2 (rx_ad ro base) lv))
    (run : va_Run p l e R s m args below meth c H locs (h.length - n0) (rx_sz h - z0) (h'.length - h.length) (rx_sz h' - rx_sz h) (F0 m pc ls stk) (rest.map (rx_cv (rx_ad ro base))) (rx_Qc cl D dT ro base v h' a) (fun q => base ≤ q))
    (K : rx_At p l e R s m args below meth c Q cl D dT ro base n0 z0 nL (pc + 3) lv (v.toList ++ rest) h') : W p l e R s m args below meth c H locs (h.length - n0) (rx_sz h - z0) Q (F0 m pc ls stk) := by
  intro T hT X
  obtain ⟨v0, st₀, t, T', L, h0, X', hL, e1, e2, ⟨hv, hW', hfr⟩, stp⟩ := run T hT X
  cases hv
  have hS' : va_S (fun q => base ≤ q) s.heap T'.heap (locs ++ L) := by
    refine ⟨by rw [e1, hW'.1, hs0]; omega, fun q q1 q2 => ?_, fun q hq => ?_⟩
    · rw [e1, hfr q (Nat.not_le.mp q2), h0]
      exact hS.2.1 q q1 q2
    · rcases List.mem_append.mp hq with h9 | h9
      · exact hS.2.2 q h9
      · exact hL q h9
  have hg : ({ (F0 m pc ls stk) with pc := (F0 m pc ls stk).pc + 3, stack := (v.map (rx_cv (rx_ad ro base))).toList ++ rest.map (rx_cv (rx_ad ro base)) } : JFrame) = F0 m (pc + 3) ls ((v.toList ++ rest).map (rx_cv (rx_ad ro base))) := by
    cases v <;> rfl
  rw [hg] at stp
  have h1 := K T'.heap (locs ++ L) ls (by omega) (by omega) (by rw [e1]; exact hW') hS' hl
  rw [show h'.length - n0 = h.length - n0 + (h'.length - h.length) by omega, show rx_sz h' - z0 = rx_sz h - z0 + (rx_sz h' - rx_sz h) by omega] at h1
  obtain ⟨t2, a1, b1⟩ := h1 T' rfl X'
  exact ⟨t2, stp t2 a1, b1⟩
theorem rx_blind (hno : ∀ w ∈ nst, rx_isN w = true) {as : List Value} : FrameBlind (rx_Pc cl tys sts nst D dT ro rt base as h) := fun _ U _ _ q => ⟨q.1, q.2.1, q.2.2.same hno rfl⟩
theorem rx_pre (hni : ∀ w ∈ nst, rx_isN w = true) (hK : rx_Kx cl tys sts nst D dT ro rt base s s.heap) {H : Heap} {locs : List Loc} (hW : rx_W D cl dT (rx_ad ro base) base h H) (hS : va_S (fun q => base ≤ q) s.heap H locs) {as : List Value} (U : State) (hU : U.heap = H) (hw : s.WarmedH U.vm) : rx_Pc cl tys sts nst D dT ro rt base as h (as.map (rx_cv (rx_ad ro base))).toArray U := by
  refine ⟨rfl, by rw [hU]; exact hW, ?_⟩
  rw [hU]
  exact (hK.warm hni hw).kept (fun a h1 h2 => hS.2.1 a h1 h2)
theorem rx_good (hg : ∀ w ∈ all, (w.onTables && w.keeps) = true ∨ ∃ ty, w = .arrayClass ty) {M : rx_M} (hM : Cond.code (rx_My M) (rx_Mb M) (rx_Ml M) (rx_Mr M) ∈ all) : GoodIn all (rx_ws all M) := by
  intro w hw
  rcases List.mem_cons.mp hw with rfl | h
  · exact ⟨hM, hg _ hM⟩
  · exact ⟨h, hg _ h⟩
end RXC
section RXD
variable {p : Program} {l : Launch} {e : Env} {R : Room} {s : State} {m : MethodId} {args : Array Value} {below : List Frame} {meth : Method} {c : Code} {Q : State → Prop}
variable {all : List Cond} {cl : List vw_C} {tys : List FieldType} {sts : List (String × String × String × Nat)} {nst : List Cond} {D : va_G} {dT : Nat → ClassId} {ro : Nat → Nat} {rt : rx_R} {base n0 z0 : Nat}
variable {cc : ByteArray} {nL pc pc' : Nat} {lv lv' : rx_L} {st st' t : List Value} {h h' : rx_H} {own : String}
theorem rx_h_callS (hx : p.tables.exec = Jvm.exec) (hb : c.code = cc) (hml : c.maxLocals = nL) (hts : ∀ w ∈ all, w.before args s = true) (hown : s.vm.findClass own = some m.cls) (hK : rx_Kx cl tys sts nst D dT ro rt base s s.heap) (hg : ∀ w ∈ all, (w.onTables && w.keeps) = true ∨ ∃ ty, w = .arrayClass ty) (hno : ∀ w ∈ nst, rx_isN w = true) (hni : ∀ w ∈ nst, rx_isN w = true) (hs0 : s.heap.size = base + n0)
    {ix d w : Nat} {M : rx_M} (G : rx_GM all cl M) (GL : rx_GL all nst own ix (rx_My M)) (hk : rx_Mk M = 0) {as rest : List Value} {v : Option Value} (hM : rx_Met l all cl tys sts nst D dT ro rt base M d w as h v h') (hlen : h.length ≤ h'.length) (hsz : rx_sz h ≤ rx_sz h') (han : as.length = rx_Mn M) (hrs : (rest.map (fun v => v.category)).sum ≤ 8) (hR : d + 1 ≤ R.frames ∧ w + (19 + rx_Ml M) ≤ R.locals) (hRc : h'.length ≤ n0 + R.cells) (hRs : rx_sz h' ≤ z0 + R.slots) (hd : decode cc pc = .ok (.invokestatic ix, 3))
    (K : rx_At p l e R s m args below meth c Q cl D dT ro base n0 z0 nL (pc + 3) lv (v.toList ++ rest) h') : rx_At p l e R s m args below meth c Q cl D dT ro base n0 z0 nL pc lv (as.reverse ++ rest) h := by
  intro H locs ls hn hz hW hS hl
  obtain ⟨g1, g2, g3, g4, g6, g7, g8, g9⟩ := G
  have hrs' : ((rest.map (rx_cv (rx_ad ro base))).map (fun v => v.category)).sum ≤ 8 := by
    rw [List.map_map, show ((fun v => Value.category v) ∘ rx_cv (rx_ad ro base)) = (fun v => v.category) from funext (rx_cat _)]
    exact hrs
  refine rx_h_back hlen hsz hs0 hn hz hS hl (a := (as.map (rx_cv (rx_ad ro base))).toArray) (rest := rest) ?_ K
  rcases GL with h1 | ⟨host, h1⟩
  · exact va_runS (As := as.map (rx_cv (rx_ad ro base))) ⟨hx, hb, hml, hown, hts⟩ hM ⟨callB_of (rx_Mn M) hts (rx_good hg g1) rfl rfl rfl (hts _ g2) (hts _ h1) ⟨g3.1, g3.2, g4⟩ ⟨hR.1, by show 8 + (rx_Ml M + 11) + w ≤ R.locals; omega⟩, hts _ (g7 hk)⟩ ⟨rx_blind hno, rx_pre hni hK hW hS⟩ rfl (by rw [List.length_map]; exact han) hl.1 (by show List.map _ _ = _; rw [List.map_append, List.map_reverse]) (lv_room hrs') hd ⟨by omega, by omega⟩
  · exact va_runSN (host := host) (As := as.map (rx_cv (rx_ad ro base))) ⟨hx, hb, hml, hown, hts⟩ hM ⟨va_cnB (rx_Mn M) hts (rx_good hg g1) rfl rfl rfl (hK.2.2.2.2 _ h1) (hts _ g2) ⟨g3.1, g3.2, g4⟩ ⟨hR.1, by show 8 + (rx_Ml M + 11) + w ≤ R.locals; omega⟩, hts _ (g7 hk), trivial⟩ ⟨rx_blind hno, rx_pre hni hK hW hS⟩ rfl (by rw [List.length_map]; exact han) hl.1 (by show List.map _ _ = _; rw [List.map_append, List.map_reverse]) (lv_room hrs') hd ⟨by omega, by omega⟩
theorem rx_h_callV (hx : p.tables.exec = Jvm.exec) (hb : c.code = cc) (hml : c.maxLocals = nL) (hts : ∀ w ∈ all, w.before args s = true) (hown : s.vm.findClass own = some m.cls) (hK : rx_Kx cl tys sts nst D dT ro rt base s s.heap) (hg : ∀ w ∈ all, (w.onTables && w.keeps) = true ∨ ∃ ty, w = .arrayClass ty) (hno : ∀ w ∈ nst, rx_isN w = true) (hni : ∀ w ∈ nst, rx_isN w = true) (hs0 : s.heap.size = base + n0)
    {ix d w : Nat} {M : rx_M} (G : rx_GM all cl M) (GL : rx_GL all nst own ix (rx_My M)) (hk : rx_Mk M = 1) {o : Nat} {as rest fs : List Value} {v : Option Value} (ho : h[o]? = some (.inr (rx_Mc M, fs))) (hM : rx_Met l all cl tys sts nst D dT ro rt base M d w (.ref (o + 16) :: as) h v h') (hlen : h.length ≤ h'.length) (hsz : rx_sz h ≤ rx_sz h') (han : as.length = rx_Mn M) (hrs : (rest.map (fun v => v.category)).sum ≤ 8) (hR : d + 1 ≤ R.frames ∧ w + (19 + rx_Ml M) ≤ R.locals) (hRc : h'.length ≤ n0 + R.cells) (hRs : rx_sz h' ≤ z0 + R.slots) (hd : decode cc pc = .ok (.invokevirtual ix, 3))
    (K : rx_At p l e R s m args below meth c Q cl D dT ro base n0 z0 nL (pc + 3) lv (v.toList ++ rest) h') : rx_At p l e R s m args below meth c Q cl D dT ro base n0 z0 nL pc lv ((.ref (o + 16) :: as).reverse ++ rest) h := by
  intro H locs ls hn hz hW hS hl
  obtain ⟨g1, g2, g3, g4, g6, g7, g8, g9⟩ := G
  obtain ⟨g8a, q, g8b, g8c⟩ := g8 hk
  have hrs' : ((rest.map (rx_cv (rx_ad ro base))).map (fun v => v.category)).sum ≤ 8 := by
    rw [List.map_map, show ((fun v => Value.category v) ∘ rx_cv (rx_ad ro base)) = (fun v => v.category) from funext (rx_cat _)]
    exact hrs
  have har : (Value.ref (rx_ad ro base (o + 16)) :: as.map (rx_cv (rx_ad ro base))).toArray = ((.ref (o + 16) :: as : List Value).map (rx_cv (rx_ad ro base))).toArray := rfl
  have hrec : ∃ cellB : Cell, H[rx_ad ro base (o + 16)]? = some cellB ∧ cellB.vm.isStatics = false ∧ s.vm.findClass q.1 = some cellB.cls := by
    rw [rx_ad_k]
    exact va_recv hK.K0 (rx_one (hW.2 o _ ho)) g8b (q0 := 0) rfl
  refine rx_h_back hlen hsz hs0 hn hz hS hl (a := (Value.ref (rx_ad ro base (o + 16)) :: as.map (rx_cv (rx_ad ro base))).toArray) (rest := rest) ?_ K
  rcases GL with h1 | ⟨host, h1⟩
  · exact va_runV (C := q.1) (As := as.map (rx_cv (rx_ad ro base))) ⟨hx, hb, hml, hown, hts⟩ hM ⟨callB_of (rx_Mn M) hts (rx_good hg g1) rfl rfl rfl (hts _ g2) (hts _ h1) ⟨g3.1, g3.2, g4⟩ ⟨hR.1, by show 8 + (rx_Ml M + 11) + w ≤ R.locals; omega⟩, hts _ g8a, hts _ g8c⟩ ⟨rx_blind hno, hrec, rx_pre (as := .ref (o + 16) :: as) hni hK hW hS⟩ rfl (by rw [List.length_map]; exact han) hl.1 (by show List.map _ _ = _; simp [rx_cv]) (lv_room hrs') hd ⟨by omega, by omega⟩
  · exact va_runVN (host := host) (C := q.1) (As := as.map (rx_cv (rx_ad ro base))) ⟨hx, hb, hml, hown, hts⟩ hM ⟨va_cnB (rx_Mn M) hts (rx_good hg g1) rfl rfl rfl (hK.2.2.2.2 _ h1) (hts _ g2) ⟨g3.1, g3.2, g4⟩ ⟨hR.1, by show 8 + (rx_Ml M + 11) + w ≤ R.locals; omega⟩, hts _ g8a, hts _ g8c⟩ ⟨rx_blind hno, hrec, rx_pre (as := .ref (o + 16) :: as) hni hK hW hS⟩ rfl (by rw [List.length_map]; exact han) hl.1 (by show List.map _ _ = _; simp [rx_cv]) (lv_room hrs') hd ⟨by omega, by omega⟩
theorem rx_h_callI (hx : p.tables.exec = Jvm.exec) (hb : c.code = cc) (hml : c.maxLocals = nL) (hts : ∀ w ∈ all, w.before args s = true) (hown : s.vm.findClass own = some m.cls) (hK : rx_Kx cl tys sts nst D dT ro rt base s s.heap) (hg : ∀ w ∈ all, (w.onTables && w.keeps) = true ∨ ∃ ty, w = .arrayClass ty) (hno : ∀ w ∈ nst, rx_isN w = true) (hni : ∀ w ∈ nst, rx_isN w = true) (hs0 : s.heap.size = base + n0)
    {ix d w : Nat} {M : rx_M} (G : rx_GM all cl M) (GL : rx_GL all nst own ix (rx_My M)) (hk : rx_Mk M = 2) {o : Nat} {as rest : List Value} {v : Option Value} (hM : rx_Met l all cl tys sts nst D dT ro rt base M d w (.ref o :: as) h v h') (hlen : h.length ≤ h'.length) (hsz : rx_sz h ≤ rx_sz h') (han : as.length = rx_Mn M) (hrs : (rest.map (fun v => v.category)).sum ≤ 8) (hR : d + 1 ≤ R.frames ∧ w + (19 + rx_Ml M) ≤ R.locals) (hRc : h'.length ≤ n0 + R.cells) (hRs : rx_sz h' ≤ z0 + R.slots) (hd : decode cc pc = .ok (.invokespecial ix, 3))
    (K : rx_At p l e R s m args below meth c Q cl D dT ro base n0 z0 nL (pc + 3) lv (v.toList ++ rest) h') : rx_At p l e R s m args below meth c Q cl D dT ro base n0 z0 nL pc lv ((.ref o :: as).reverse ++ rest) h := by
  intro H locs ls hn hz hW hS hl
  obtain ⟨g1, g2, g3, g4, g6, g7, g8, g9⟩ := G
  obtain ⟨g9a, g9b, g9c⟩ := g9 hk
  have hrs' : ((rest.map (rx_cv (rx_ad ro base))).map (fun v => v.category)).sum ≤ 8 := by
    rw [List.map_map, show ((fun v => Value.category v) ∘ rx_cv (rx_ad ro base)) = (fun v => v.category) from funext (rx_cat _)]
    exact hrs
  refine rx_h_back hlen hsz hs0 hn hz hS hl (a := (Value.ref (rx_ad ro base o) :: as.map (rx_cv (rx_ad ro base))).toArray) (rest := rest) ?_ K
  unfold rx_Met rx_ws at hM
  have hgd := rx_good hg g1
  unfold rx_ws at hgd
  rw [g9c] at hM hgd
  rcases GL with h1 | ⟨host, h1⟩
  · exact va_runI (As := as.map (rx_cv (rx_ad ro base))) ⟨hx, hb, hml, hown, hts⟩ hM ⟨callB_of (rx_Mn M) hts hgd rfl rfl rfl (hts _ g2) (hts _ h1) ⟨g3.1, g3.2, g4⟩ ⟨hR.1, by show 8 + (rx_Ml M + 11) + w ≤ R.locals; omega⟩, g9b, hts _ g9a⟩ ⟨rx_blind hno, rx_pre (as := .ref o :: as) hni hK hW hS⟩ rfl (by rw [List.length_map]; exact han) hl.1 (by show List.map _ _ = _; simp [rx_cv]) (lv_room hrs') hd ⟨by omega, by omega⟩
  · exact va_runIN (host := host) (As := as.map (rx_cv (rx_ad ro base))) ⟨hx, hb, hml, hown, hts⟩ hM ⟨va_cnB (rx_Mn M) hts hgd rfl rfl rfl (hK.2.2.2.2 _ h1) (hts _ g2) ⟨g3.1, g3.2, g4⟩ ⟨hR.1, by show 8 + (rx_Ml M + 11) + w ≤ R.locals; omega⟩, g9b, hts _ g9a⟩ ⟨rx_blind hno, rx_pre (as := .ref o :: as) hni hK hW hS⟩ rfl (by rw [List.length_map]; exact han) hl.1 (by show List.map _ _ = _; simp [rx_cv]) (lv_room hrs') hd ⟨by omega, by omega⟩
end RXD
end
section
def rx_oi (d w : Nat) (pc : Nat) (lv : rx_L) (st : List Value) (h : rx_H) : Option rx_N := match st with
  | .ref _ :: r => if (1 ≤ d ∧ 20 ≤ w) ∧ (r.map (fun v => v.category)).sum ≤ 8 then rx_nx (pc + 3) lv r h else none
  | _ => none
theorem rx_oi_e {d w pc : Nat} {lv : rx_L} {st : List Value} {h : rx_H} {r : Nat × rx_L × List Value × rx_H} (e : rx_oi d w pc lv st h = some r) : ∃ a t, st = .ref a :: t ∧ (1 ≤ d ∧ 20 ≤ w) ∧ (t.map (fun v => v.category)).sum ≤ 8 ∧ r = (pc + 3, lv, t, h) := by
  unfold rx_oi at e
  split at e
  · next a t =>
    split at e
    · next y => exact ⟨a, t, rfl, y.1, y.2, rx_nx_e e⟩
    · cases e
  · cases e
def rx_ac (d w : Nat) (pc : Nat) (lv : rx_L) (st : List Value) (h : rx_H) : Option rx_N := match st with
  | .int n :: .int dp :: .ref a :: .int sp :: .ref b :: r => match rx_cold h b 0, rx_cold h a 0 with
    | some (n0, .inl f), some (n1, .inl g) => if (1 ≤ d ∧ 26 ≤ w) ∧ (r.map (fun v => v.category)).sum ≤ 8 ∧ ¬ sp < 0 ∧ ¬ dp < 0 ∧ ¬ n < 0 ∧ sp.toNatClampNeg + n.toNatClampNeg ≤ n0 ∧ dp.toNatClampNeg + n.toNatClampNeg ≤ n1 then rx_nx (pc + 3) lv r (rx_put h a 0 (n1, .inl (va_cpy f g sp.toNatClampNeg dp.toNatClampNeg n.toNatClampNeg))) else none
    | _, _ => none
  | _ => none
theorem rx_ac_e {d w pc : Nat} {lv : rx_L} {st : List Value} {h : rx_H} {r : Nat × rx_L × List Value × rx_H} (e : rx_ac d w pc lv st h = some r) : ∃ (n dp sp : Int32) (ka kb n0 n1 : Nat) (f g : Nat → Int32) (t : List Value), st = .int n :: .int dp :: .ref (ka + 16) :: .int sp :: .ref (kb + 16) :: t ∧ h[kb]? = some (.inl (0, n0, .inl f)) ∧ h[ka]? = some (.inl (0, n1, .inl g)) ∧ ka < h.length ∧ (1 ≤ d ∧ 26 ≤ w) ∧ (t.map (fun v => v.category)).sum ≤ 8 ∧ ¬ sp < 0 ∧ ¬ dp < 0 ∧ ¬ n < 0 ∧ sp.toNatClampNeg + n.toNatClampNeg ≤ n0 ∧ dp.toNatClampNeg + n.toNatClampNeg ≤ n1 ∧ r = (pc + 3, lv, t, h.set ka (.inl (0, n1, .inl (va_cpy f g sp.toNatClampNeg dp.toNatClampNeg n.toNatClampNeg)))) := by
  unfold rx_ac at e
  split at e
  · next n dp a sp b t =>
    split at e
    · next n0 f n1 g w1 w2 =>
      split at e
      · next z =>
        obtain ⟨z1, z2, z3, z4, z5, z6, z7⟩ := z
        obtain ⟨kb, rfl, b1, b2⟩ := rx_cold_e w1
        obtain ⟨ka, rfl, a1, a2⟩ := rx_cold_e w2
        exact ⟨n, dp, sp, ka, kb, n0, n1, f, g, t, rfl, b1, a1, a2, z1, z2, z3, z4, z5, z6, z7, rx_nx_e e⟩
      · cases e
    · cases e
  · cases e
section RXY
variable {p : Program} {l : Launch} {e : Env} {R : Room} {s : State} {m : MethodId} {args : Array Value} {below : List Frame} {meth : Method} {c : Code} {Q : State → Prop}
variable {all : List Cond} {cl : List vw_C} {tys : List FieldType} {sts : List (String × String × String × Nat)} {nst : List Cond} {D : va_G} {dT : Nat → ClassId} {ro : Nat → Nat} {rt : rx_R} {base n0 z0 : Nat}
variable {cc : ByteArray} {nL pc pc' : Nat} {lv lv' : rx_L} {st st' t : List Value} {h h' : rx_H} {own : String}
theorem rx_h_oi (hx : p.tables.exec = Jvm.exec) (hb : c.code = cc) (hml : c.maxLocals = nL) (hts : ∀ w ∈ all, w.before args s = true) (hown : s.vm.findClass own = some m.cls) {ix d w : Nat} (hlk : Cond.methodLink own ix Lib.objectInit ∈ all) (hi : Cond.instanceMethod Lib.objectInit ∈ all) (hc : Cond.code Lib.objectInit ⟨#[0xb1]⟩ 1 none ∈ all) {a : Nat} (hd1 : 1 ≤ d ∧ 20 ≤ w) (hrs : (t.map (fun v => v.category)).sum ≤ 8) (hR : d ≤ R.frames ∧ w ≤ R.locals) (hd : decode cc pc = .ok (.invokespecial ix, 3))
    (K : rx_At p l e R s m args below meth c Q cl D dT ro base n0 z0 nL (pc + 3) lv t h) : rx_At p l e R s m args below meth c Q cl D dT ro base n0 z0 nL pc lv (.ref a :: t) h := by
  intro H locs ls hn hz hW hS hl
  have hrs' : ((t.map (rx_cv (rx_ad ro base))).map (fun v => v.category)).sum ≤ 8 := by
    rw [List.map_map, show ((fun v => Value.category v) ∘ rx_cv (rx_ad ro base)) = (fun v => v.category) from funext (rx_cat _)]
    exact hrs
  exact W.objInit hx hb hown (hts _ hlk) (hts _ hi) (hts _ hc) (g := F0 m pc ls (.ref (rx_ad ro base a) :: t.map (rx_cv (rx_ad ro base)))) rfl (by rw [hml]; exact hl.1) rfl hd (by omega) (by show 2 * 0 + _ + 12 ≤ R.locals; omega) (K H locs ls hn hz hW hS hl)
theorem rx_h_ac (hx : p.tables.exec = Jvm.exec) (hb : c.code = cc) (hml : c.maxLocals = nL) (hts : ∀ w ∈ all, w.before args s = true) (hown : s.vm.findClass own = some m.cls) (hK : rx_Kx cl tys sts nst D dT ro rt base s s.heap) (ht : tys[0]? = some .int) {ix d w : Nat} (hlk : Cond.methodLink own ix arraycopyName ∈ all) (hnat : Cond.native arraycopyName ∈ all) (hstat : Cond.static arraycopyName ∈ all) (hini : Cond.initialized "java/lang/System" ∈ all)
    {n dp sp : Int32} {ka kb m0 m1 : Nat} {f g : Nat → Int32} (hkb : h[kb]? = some (.inl (0, m0, .inl f))) (hka : h[ka]? = some (.inl (0, m1, .inl g))) (hlt : ka < h.length) (hd1 : 1 ≤ d ∧ 26 ≤ w) (hrs : (t.map (fun v => v.category)).sum ≤ 8) (h1 : ¬ sp < 0) (h2 : ¬ dp < 0) (h3 : ¬ n < 0) (h4 : sp.toNatClampNeg + n.toNatClampNeg ≤ m0) (h5 : dp.toNatClampNeg + n.toNatClampNeg ≤ m1) (hR : d ≤ R.frames ∧ w ≤ R.locals) (hd : decode cc pc = .ok (.invokestatic ix, 3))
    (K : rx_At p l e R s m args below meth c Q cl D dT ro base n0 z0 nL (pc + 3) lv t (h.set ka (.inl (0, m1, .inl (va_cpy f g sp.toNatClampNeg dp.toNatClampNeg n.toNatClampNeg))))) : rx_At p l e R s m args below meth c Q cl D dT ro base n0 z0 nL pc lv (.int n :: .int dp :: .ref (ka + 16) :: .int sp :: .ref (kb + 16) :: t) h := by
  intro H locs ls hn hz hW hS hl
  have hrs' : ((t.map (rx_cv (rx_ad ro base))).map (fun v => v.category)).sum ≤ 8 := by
    rw [List.map_map, show ((fun v => Value.category v) ∘ rx_cv (rx_ad ro base)) = (fun v => v.category) from funext (rx_cat _)]
    exact hrs
  show W p l e R s m args below meth c H locs _ _ Q (F0 m pc ls (.int n :: .int dp :: .ref (rx_ad ro base (ka + 16)) :: .int sp :: .ref (rx_ad ro base (kb + 16)) :: t.map (rx_cv (rx_ad ro base))))
  rw [rx_ad_k ro base ka, rx_ad_k ro base kb]
  have nn : ∀ z : Int32, ¬ z < 0 → z.toInt = (z.toNatClampNeg : Int) := by
    intro z hz
    have hz0 : (0 : Int) ≤ z.toInt := by
      have := Int32.not_lt.mp hz
      simpa using Int32.le_iff_toInt_le.mp this
    show z.toInt = ((z.toInt.toNat : Nat) : Int)
    omega
  intro T hT X
  have hc0 : H[base + kb]? = some (vp_cell (dT 0) (m0, .inl f)) := hW.2 kb _ hkb
  have hc1 : H[base + ka]? = some (vp_cell (dT 0) (m1, .inl g)) := hW.2 ka _ hka
  obtain ⟨-, k0, hk0, cm0, hkk0⟩ := (hK.2.1 0 _ ht).1 m0 (fun j => .int (f j))
  obtain ⟨-, k1, hk1, cm1, hkk1⟩ := (hK.2.1 0 _ ht).1 m1 (fun j => .int (g j))
  obtain ⟨vm', X', step⟩ := X.arraycopy hx hown (hts _ hlk) (hts _ hnat) (hts _ hstat) (hts _ hini) (src := base + kb) (dst := base + ka) (cs := vp_cell (dT 0) (m0, .inl f)) (cd := vp_cell (dT 0) (m1, .inl g)) (srcPos := sp) (destPos := dp) (n := n) (by rw [hT]; exact hc0) (by rw [hT]; exact hc1)
    (fun _ h => by cases h) (fun _ h => by cases h) (fun h => by cases h) (fun h => by cases h) hk0 hk1 hkk0 hkk1 (by simp [refKind]) h1 h2 h3
    (by rw [nn sp h1, nn n h3]; show ¬ _ > ((arrV (dT 0) m0 (fun j => .int (f j))).slots.size : Int); rw [arrV_size]; omega)
    (by rw [nn dp h2, nn n h3]; show ¬ _ > ((arrV (dT 0) m1 (fun j => .int (g j))).slots.size : Int); rw [arrV_size]; omega)
    (fun vm₁ _ i hi => by
      have e : (vp_cell (dT 0) (m0, .inl f)).slots.getD (sp.toNatClampNeg + i) .null = .int (f (sp.toNatClampNeg + i)) := by
        show (arrV (dT 0) m0 (fun j => .int (f j))).slots.getD _ _ = _
        rw [Array.getD_eq_getD_getElem?, arrV_read _ _ (by omega)]
        rfl
      refine ⟨?_, ?_⟩
      · rw [e]
        rfl
      · rw [e]
        exact trivial)
    (g := F0 m pc ls (.int n :: .int dp :: .ref (base + ka) :: .int sp :: .ref (base + kb) :: t.map (rx_cv (rx_ad ro base)))) rfl (by rw [hml]; exact hl.1) (rest := t.map (rx_cv (rx_ad ro base))) rfl (by rw [hb]; exact hd) (by omega) (by
      have e9 : nativeFrameWords "java/lang/System" "arraycopy" 5 = 7 := by decide +kernel
      show 2 * 0 + _ + _ ≤ _
      rw [e9]
      omega)
  have e1 : copied (vp_cell (dT 0) (m0, .inl f)) (vp_cell (dT 0) (m1, .inl g)) sp dp n = vp_cell (dT 0) (m1, .inl (va_cpy f g sp.toNatClampNeg dp.toNatClampNeg n.toNatClampNeg)) := va_copied (fun z => .int z) (dT 0) (dT 0) f g h4
  rw [e1] at X' step
  have hll : base + ka < H.size := (Array.getElem?_eq_some_iff.mp hc1).1
  have hheap : ((T.setVm vm').setCell (base + ka) (vp_cell (dT 0) (m1, .inl (va_cpy f g sp.toNatClampNeg dp.toNatClampNeg n.toNatClampNeg)))).heap = H.setIfInBounds (base + ka) (vp_cell (dT 0) (m1, .inl (va_cpy f g sp.toNatClampNeg dp.toNatClampNeg n.toNatClampNeg))) := by rw [← hT]; rfl
  have oq : ∀ q : Nat, q ≠ base + ka → (H.setIfInBounds (base + ka) (vp_cell (dT 0) (m1, .inl (va_cpy f g sp.toNatClampNeg dp.toNatClampNeg n.toNatClampNeg))))[q]? = H[q]? := fun q hq => by simp [Array.getElem?_setIfInBounds, Ne.symm hq]
  have hset : (H.setIfInBounds (base + ka) (vp_cell (dT 0) (m1, .inl (va_cpy f g sp.toNatClampNeg dp.toNatClampNeg n.toNatClampNeg))))[base + ka]? = some (vp_cell (dT 0) (m1, .inl (va_cpy f g sp.toNatClampNeg dp.toNatClampNeg n.toNatClampNeg))) := by simp [Array.getElem?_setIfInBounds, hll]
  obtain ⟨t9, a1, b1⟩ := K.set hka rfl _ _ ls hn hz (hW.set hlt (by simp) hset oq) ⟨by simp; exact hS.1, fun q g1 g2 => by
      rw [oq q (fun e => g2 (by rw [e]; exact Nat.le_add_right _ _))]
      exact hS.2.1 q g1 g2, fun q hq => by
      rcases List.mem_append.mp hq with h9 | h9
      · exact hS.2.2 q h9
      · obtain ⟨z, -, hz⟩ := List.mem_map.mp h9
        rw [← hz]
        exact Nat.le_add_right _ _⟩ hl _ hheap X'
  exact ⟨t9, step t9 a1, b1⟩
end RXY
/-- Math.max, Math.min -/
def rx_m4 (d w : Nat) (pc : Nat) (lv : rx_L) (st : List Value) (h : rx_H) : Option rx_N := match st with
  | .int y :: .int x :: r => if (1 ≤ d ∧ 21 ≤ w) ∧ (r.map (fun v => v.category)).sum ≤ 8 then rx_nx (pc + 3) lv (.int (if x < y then y else x) :: r) h else none
  | _ => none
def rx_m5 (d w : Nat) (pc : Nat) (lv : rx_L) (st : List Value) (h : rx_H) : Option rx_N := match st with
  | .int y :: .int x :: r => if (1 ≤ d ∧ 21 ≤ w) ∧ (r.map (fun v => v.category)).sum ≤ 8 then rx_nx (pc + 3) lv (.int (if y < x then y else x) :: r) h else none
  | _ => none
theorem rx_m4_e {d w pc : Nat} {lv : rx_L} {st : List Value} {h : rx_H} {r : rx_N} (e : rx_m4 d w pc lv st h = some r) : ∃ x y t, st = .int y :: .int x :: t ∧ (1 ≤ d ∧ 21 ≤ w) ∧ (t.map (fun v => v.category)).sum ≤ 8 ∧ r = (pc + 3, lv, .int (if x < y then y else x) :: t, h) := by
  unfold rx_m4 at e
  split at e
  · next y x t =>
    split at e
    · next z => exact ⟨x, y, t, rfl, z.1, z.2, rx_nx_e e⟩
    · cases e
  · cases e
theorem rx_m5_e {d w pc : Nat} {lv : rx_L} {st : List Value} {h : rx_H} {r : rx_N} (e : rx_m5 d w pc lv st h = some r) : ∃ x y t, st = .int y :: .int x :: t ∧ (1 ≤ d ∧ 21 ≤ w) ∧ (t.map (fun v => v.category)).sum ≤ 8 ∧ r = (pc + 3, lv, .int (if y < x then y else x) :: t, h) := by
  unfold rx_m5 at e
  split at e
  · next y x t =>
    split at e
    · next z => exact ⟨x, y, t, rfl, z.1, z.2, rx_nx_e e⟩
    · cases e
  · cases e
section RXM
variable {p : Program} {l : Launch} {e : Env} {R : Room} {s : State} {m : MethodId} {args : Array Value} {below : List Frame} {meth : Method} {c : Code} {Q : State → Prop}
variable {all : List Cond} {cl : List vw_C} {D : va_G} {dT : Nat → ClassId} {ro : Nat → Nat} {base n0 z0 : Nat}
variable {cc : ByteArray} {nL pc : Nat} {lv : rx_L} {t : List Value} {h : rx_H} {own : String}
theorem rx_h_m4 (hx : p.tables.exec = Jvm.exec) (hb : c.code = cc) (hml : c.maxLocals = nL) (hts : ∀ w ∈ all, w.before args s = true) (hown : s.vm.findClass own = some m.cls) {ix d w : Nat} (G : Cond.methodLink own ix Lib.Math.max.name ∈ all ∧ Cond.static Lib.Math.max.name ∈ all ∧ Cond.initialized "java/lang/Math" ∈ all ∧ Cond.code Lib.Math.max.name Lib.Math.max.code 2 (some .int) ∈ all) {x y : Int32} (hd1 : 1 ≤ d ∧ 21 ≤ w) (hrs : (t.map (fun v => v.category)).sum ≤ 8) (hR : d ≤ R.frames ∧ w ≤ R.locals) (hRc : h.length ≤ n0 + R.cells) (hRs : rx_sz h ≤ z0 + R.slots) (hd : decode cc pc = .ok (.invokestatic ix, 3))
    (K : rx_At p l e R s m args below meth c Q cl D dT ro base n0 z0 nL (pc + 3) lv (.int (if x < y then y else x) :: t) h) : rx_At p l e R s m args below meth c Q cl D dT ro base n0 z0 nL pc lv (.int y :: .int x :: t) h := by
  intro H locs ls hn hz hW hS hl
  have hrs' : ((t.map (rx_cv (rx_ad ro base))).map (fun v => v.category)).sum ≤ 8 := by
    rw [List.map_map, show ((fun v => Value.category v) ∘ rx_cv (rx_ad ro base)) = (fun v => v.category) from funext (rx_cat _)]
    exact hrs
  exact va_mmax hx hb (by rw [hml]; exact hl.1.symm) hown (hts _ G.1) (hts _ G.2.1) (hts _ G.2.2.1) (hts _ G.2.2.2) (by omega) (by omega) (by omega) (by omega) hd (K H locs ls hn hz hW hS hl)
theorem rx_h_m5 (hx : p.tables.exec = Jvm.exec) (hb : c.code = cc) (hml : c.maxLocals = nL) (hts : ∀ w ∈ all, w.before args s = true) (hown : s.vm.findClass own = some m.cls) {ix d w : Nat} (G : Cond.methodLink own ix Lib.Math.min.name ∈ all ∧ Cond.static Lib.Math.min.name ∈ all ∧ Cond.initialized "java/lang/Math" ∈ all ∧ Cond.code Lib.Math.min.name Lib.Math.min.code 2 (some .int) ∈ all) {x y : Int32} (hd1 : 1 ≤ d ∧ 21 ≤ w) (hrs : (t.map (fun v => v.category)).sum ≤ 8) (hR : d ≤ R.frames ∧ w ≤ R.locals) (hRc : h.length ≤ n0 + R.cells) (hRs : rx_sz h ≤ z0 + R.slots) (hd : decode cc pc = .ok (.invokestatic ix, 3))
    (K : rx_At p l e R s m args below meth c Q cl D dT ro base n0 z0 nL (pc + 3) lv (.int (if y < x then y else x) :: t) h) : rx_At p l e R s m args below meth c Q cl D dT ro base n0 z0 nL pc lv (.int y :: .int x :: t) h := by
  intro H locs ls hn hz hW hS hl
  have hrs' : ((t.map (rx_cv (rx_ad ro base))).map (fun v => v.category)).sum ≤ 8 := by
    rw [List.map_map, show ((fun v => Value.category v) ∘ rx_cv (rx_ad ro base)) = (fun v => v.category) from funext (rx_cat _)]
    exact hrs
  exact va_mmin hx hb (by rw [hml]; exact hl.1.symm) hown (hts _ G.1) (hts _ G.2.1) (hts _ G.2.2.1) (hts _ G.2.2.2) (by omega) (by omega) (by omega) (by omega) hd (K H locs ls hn hz hW hS hl)
end RXM
end
section
theorem rx_zer_sz (t n : Nat) : rx_sz1 (.inl (t, rx_zer t n)) = n := by
  show (rx_zer t n).1 = n
  unfold rx_zer
  split <;> rfl
section RXZ
variable {p : Program} {l : Launch} {e : Env} {R : Room} {s : State} {m : MethodId} {args : Array Value} {below : List Frame} {meth : Method} {c : Code} {Q : State → Prop}
variable {all : List Cond} {cl : List vw_C} {tys : List FieldType} {sts : List (String × String × String × Nat)} {nst : List Cond} {D : va_G} {dT : Nat → ClassId} {ro : Nat → Nat} {rt : rx_R} {base n0 z0 : Nat}
variable {cc : ByteArray} {nL pc pc' : Nat} {lv lv' : rx_L} {st st' t : List Value} {h h' : rx_H} {own : String}
theorem rx_h_gets (hx : p.tables.exec = Jvm.exec) (hb : c.code = cc) (hts : ∀ w ∈ all, w.before args s = true) (hown : s.vm.findClass own = some m.cls) (hK : rx_Kx cl tys sts nst D dT ro rt base s s.heap) {ix id : Nat} (G : ∃ C n d, (C, n, d, id) ∈ sts ∧ (Cond.fieldLink own ix C n d ∈ all ∨ ∃ host, Cond.fieldLinkNest own ix C n d host ∈ nst)) (hd : decode cc pc = .ok (.getstatic ix, 3))
    (K : rx_At p l e R s m args below meth c Q cl D dT ro base n0 z0 nL (pc + 3) lv (.ref id :: st) h) : rx_At p l e R s m args below meth c Q cl D dT ro base n0 z0 nL pc lv st h := by
  intro H locs ls hn hz hW hS hl
  obtain ⟨C, n, d, hs, hlk⟩ := G
  obtain ⟨h16, hZ⟩ := hK.2.2.2.1 _ hs
  have h1 := K H locs ls hn hz hW hS hl
  rw [List.map_cons, show rx_cv (rx_ad ro base) (.ref id) = .ref (rx_ad ro base id) from rfl, rx_ad_r ro base h16] at h1
  rcases hlk with hlk | ⟨host, hlk⟩
  · exact va_gets hx hb hZ hS hown (hts _ hlk) (fun _ h9 => h9) hd h1
  · exact va_getsN hx hb hZ hS hown (va_Nw.use rfl (hK.2.2.2.2 _ hlk)) (fun _ h9 => h9) hd h1
end RXZ
end
section
/-- new long[n][k]: the outer array, then its rows -/
def rx_mn (o : Option Nat) (dims : Nat) (pc : Nat) (lv : rx_L) (st : List Value) (h : rx_H) : Option rx_N := match o, st with
  | some 1003, .int k :: .int n :: r => if dims = 2 ∧ ¬ n < 0 ∧ ¬ k < 0 ∧ n.toNatClampNeg ≤ 1000 ∧ k.toNatClampNeg ≤ 1000 then
      rx_nx (pc + 4) lv (.ref (h.length + 16) :: r) (h ++ (.inl (3, n.toNatClampNeg, .inr (.inr (.inr (.inr (fun i => if i < n.toNatClampNeg then some (h.length + 17 + i) else none))))) :: List.replicate n.toNatClampNeg (.inl (1, k.toNatClampNeg, .inr (.inl (fun _ => 0)))))) else none
  | _, _ => none
theorem rx_mn_e {o : Option Nat} {dims pc : Nat} {lv : rx_L} {st : List Value} {h : rx_H} {r : rx_N} (e : rx_mn o dims pc lv st h = some r) : ∃ k n t, o = some 1003 ∧ st = .int k :: .int n :: t ∧ dims = 2 ∧ ¬ n < 0 ∧ ¬ k < 0 ∧ n.toNatClampNeg ≤ 1000 ∧ k.toNatClampNeg ≤ 1000 ∧
    r = (pc + 4, lv, .ref (h.length + 16) :: t, h ++ (.inl (3, n.toNatClampNeg, .inr (.inr (.inr (.inr (fun i => if i < n.toNatClampNeg then some (h.length + 17 + i) else none))))) :: List.replicate n.toNatClampNeg (.inl (1, k.toNatClampNeg, .inr (.inl (fun _ => 0)))))) := by
  unfold rx_mn at e
  split at e
  · next k n t =>
    split at e
    · next w => exact ⟨k, n, t, rfl, rfl, w.1, w.2.1, w.2.2.1, w.2.2.2.1, w.2.2.2.2, rx_nx_e e⟩
    · cases e
  · cases e
theorem rx_rows_sz (n k : Nat) (g : Nat → Int64) : rx_sz (List.replicate n (.inl (1, k, .inr (.inl g)))) = n * k := by
  induction n with
  | zero => simp [rx_sz]
  | succ n ih =>
    rw [List.replicate_succ]
    show rx_sz ([_] ++ _) = _
    rw [rx_sz_app, ih]
    simp only [rx_sz, rx_sz1, List.map_cons, List.map_nil, List.sum_cons, List.sum_nil]
    rw [Nat.succ_mul]
    omega
theorem rx_outer (c : ClassId) (N h0 : Nat) : ∀ i : Nat, Jvm.Free.Multi.outerC c N h0 i = arrV c N (fun j => va_rf (if j < i then some (h0 + 1 + j) else none))
  | 0 => by
    show ({ cls := c, slots := Array.replicate N .null, vm := .none } : Cell) = _
    rw [arrV_new]
    refine congrArg (arrV c N) (funext fun j => ?_)
    simp [va_rf]
  | i + 1 => by
    show (Jvm.Free.Multi.outerC c N h0 i).setSlot i (.ref (h0 + 1 + i)) = _
    rw [rx_outer c N h0 i, arrV_store]
    refine congrArg (arrV c N) (funext fun j => ?_)
    by_cases e : j = i
    · subst e
      simp [updV, va_rf]
    · by_cases h : j < i
      · simp [updV, e, h, Nat.lt_succ_of_lt h]
      · simp [updV, e, h, show ¬ j < i + 1 by omega]
section RXG
variable {p : Program} {l : Launch} {e : Env} {R : Room} {s : State} {m : MethodId} {args : Array Value} {below : List Frame} {meth : Method} {c : Code} {Q : State → Prop}
variable {all : List Cond} {cl : List vw_C} {tys : List FieldType} {sts : List (String × String × String × Nat)} {nst : List Cond} {D : va_G} {dT : Nat → ClassId} {ro : Nat → Nat} {rt : rx_R} {base n0 z0 : Nat}
variable {cc : ByteArray} {nL pc pc' : Nat} {lv lv' : rx_L} {st st' t : List Value} {h h' : rx_H} {own : String}
theorem rx_h_qald (hx : p.tables.exec = Jvm.exec) (hb : c.code = cc) (hK : rx_Kx cl tys sts nst D dT ro rt base s s.heap) (ht : tys[3]? = some (.array .long)) {i : Int32} {a k : Nat} {q : Nat × (Nat → Option Nat)} (hr : rx_rq h a = some q) (hin : vp_in i q.1) (hv : q.2 i.toNatClampNeg = some k) (hd : decode cc pc = .ok (.aaload, 1))
    (K : rx_At p l e R s m args below meth c Q cl D dT ro base n0 z0 nL (pc + 1) lv (.ref k :: t) h) : rx_At p l e R s m args below meth c Q cl D dT ro base n0 z0 nL pc lv (.int i :: .ref a :: t) h := by
  intro H locs ls hn hz hW hS hl
  obtain ⟨n, f⟩ := q
  obtain ⟨o, rfl, h1, h2⟩ := rx_rq_e hr
  dsimp only at hin hv h1
  show W p l e R s m args below meth c H locs _ _ Q (F0 m pc ls (.int i :: .ref (rx_ad ro base (o + 16)) :: t.map (rx_cv (rx_ad ro base))))
  rw [rx_ad_k ro base o]
  have hlt : i.toNatClampNeg < n := Nat.not_le.mp fun q => hin (Or.inr q)
  have hc : H[base + o]? = some (arrV (dT 3) n (fun j => va_rf ((f j).map (rx_ad ro base)))) := hW.2 o _ h1
  refine W.aald (v := .ref (rx_ad ro base k)) (ty := .array .long) hx hb hc ((hK.2.1 3 _ ht).1 n _) rfl (fun q => by cases q) (by rw [arrV_size]; exact hin) (by rw [arrV_read _ _ hlt, hv]; rfl) rfl rfl hd (K H locs ls hn hz hW hS hl)
theorem rx_h_mna (hx : p.tables.exec = Jvm.exec) (hb : c.code = cc) (hts : ∀ w ∈ all, w.before args s = true) (hown : s.vm.findClass own = some m.cls) (hK : rx_Kx cl tys sts nst D dT ro rt base s s.heap) (ht1 : tys[1]? = some .long) (ht3 : tys[3]? = some (.array .long)) {ix : Nat} {o : Option Nat} {dims : Nat} (G : o = some 1003 → Cond.classLink own ix "[[J" ∈ all ∧ Cond.arrayOver (.array .long) ∈ nst ∧ Cond.arrayClass .long ∈ all) (hop : rx_mn o dims pc lv st h = some (pc', lv', st', h')) (hRc : h'.length ≤ n0 + R.cells) (hRs : rx_sz h' ≤ z0 + R.slots) (hd : decode cc pc = .ok (.multianewarray ix dims, 4))
    (K : rx_At p l e R s m args below meth c Q cl D dT ro base n0 z0 nL pc' lv' st' h') : rx_At p l e R s m args below meth c Q cl D dT ro base n0 z0 nL pc lv st h := by
  obtain ⟨k, n, t, ho, rfl, rfl, hn0, hk0, hn1, hk1, e9⟩ := rx_mn_e hop
  simp only [Prod.mk.injEq] at e9
  obtain ⟨rfl, rfl, rfl, rfl⟩ := e9
  obtain ⟨G1, G2, G3⟩ := G ho
  intro H locs ls hn hz hW hS hl
  have eL : (h ++ (Sum.inl (3, n.toNatClampNeg, .inr (.inr (.inr (.inr (fun i => if i < n.toNatClampNeg then some (h.length + 17 + i) else none))))) :: List.replicate n.toNatClampNeg (Sum.inl (1, k.toNatClampNeg, .inr (.inl (fun _ => 0)))) : rx_H)).length = h.length + (1 + n.toNatClampNeg) := by
    rw [List.length_append, List.length_cons, List.length_replicate]; omega
  have eZ : rx_sz (h ++ (Sum.inl (3, n.toNatClampNeg, .inr (.inr (.inr (.inr (fun i => if i < n.toNatClampNeg then some (h.length + 17 + i) else none))))) :: List.replicate n.toNatClampNeg (Sum.inl (1, k.toNatClampNeg, .inr (.inl (fun _ => 0)))) : rx_H)) = rx_sz h + (n.toNatClampNeg + n.toNatClampNeg * k.toNatClampNeg) := by
    rw [rx_sz_app]
    congr 1
    show rx_sz ([_] ++ _) = _
    rw [rx_sz_app, rx_rows_sz]
    simp [rx_sz, rx_sz1]
  rw [eL] at hRc
  rw [eZ] at hRs
  intro T hT Xs
  obtain ⟨vm₁, cA, comp, -, fA, fC, -, -, X', step⟩ := Xs.multianewarray2F (ty := .long) hx hown (hts _ G1) (hK.2.2.2.2 _ G2) (hts _ G3) (g := F0 m pc ls (.int k :: .int n :: t.map (rx_cv (rx_ad ro base)))) rfl (by rw [hb]; exact hd) rfl hn0 hk0 (by omega) (show k.toNatClampNeg * 8 ≤ 536870912 by omega) (by omega) rfl rfl (by omega) (by omega)
  have eA : cA = dT 3 := by
    have h1 : s.vm.findClass ("[" ++ (FieldType.array .long).toString) = some (dT 3) := (hK.2.1 3 _ ht3).2
    exact Option.some.inj (fA.symm.trans h1)
  have eC : comp = dT 1 := by
    have h1 : s.vm.findClass ("[" ++ FieldType.long.toString) = some (dT 1) := (hK.2.1 1 _ ht1).2
    exact Option.some.inj (fC.symm.trans h1)
  subst eA
  subst eC
  generalize hF : Jvm.Free.Multi.fill (T.setVm vm₁) (dT 3) (dT 1) n.toNatClampNeg k.toNatClampNeg (defaultValue .long) n.toNatClampNeg = F at X' step
  have hTh : (T.setVm vm₁).heap = H := hT
  obtain ⟨f1, f2, -, -⟩ := Jvm.Free.Multi.fill_facts (T.setVm vm₁) (dT 3) (dT 1) n.toNatClampNeg k.toNatClampNeg (defaultValue .long) n.toNatClampNeg
  rw [hF, hTh] at f1 f2
  have hold : ∀ x : Nat, x < H.size → F.heap[x]? = H[x]? := fun x hx9 => by
    have := Jvm.Free.Multi.fill_old (T.setVm vm₁) (dT 3) (dT 1) n.toNatClampNeg k.toNatClampNeg (defaultValue .long) (a := x) (by rw [hTh]; exact hx9) n.toNatClampNeg
    rw [hF, hTh] at this
    exact this
  have hrow : ∀ j : Nat, j < n.toNatClampNeg → F.heap[H.size + 1 + j]? = some (arrV (dT 1) k.toNatClampNeg (fun _ => .long 0)) := fun j hj => by
    have := Jvm.Free.Multi.fill_inner (T.setVm vm₁) (dT 3) (dT 1) n.toNatClampNeg k.toNatClampNeg (defaultValue .long) n.toNatClampNeg j hj
    rw [hF, hTh] at this
    rw [this, ← arrV_new]
    rfl
  rw [rx_outer] at f2
  have hW' : rx_W D cl dT (rx_ad ro base) base (h ++ (Sum.inl (3, n.toNatClampNeg, .inr (.inr (.inr (.inr (fun i => if i < n.toNatClampNeg then some (h.length + 17 + i) else none))))) :: List.replicate n.toNatClampNeg (Sum.inl (1, k.toNatClampNeg, .inr (.inl (fun _ => 0)))))) F.heap := by
    refine ⟨by rw [f1, eL, hW.1]; omega, fun j c9 hj => ?_⟩
    by_cases e1 : j < h.length
    · rw [List.getElem?_append_left e1] at hj
      exact (hW.2 j c9 hj).kept (hold (base + j) (by rw [hW.1]; omega))
    · rw [List.getElem?_append_right (by omega)] at hj
      cases e2 : j - h.length with
      | zero =>
        rw [e2] at hj
        cases hj
        have e3 : base + j = H.size := by rw [hW.1]; omega
        show F.heap[base + j]? = some (arrV (dT 3) n.toNatClampNeg (fun i => va_rf (Option.map (rx_ad ro base) (if i < n.toNatClampNeg then some (h.length + 17 + i) else none))))
        rw [e3, f2]
        congr 2
        funext i
        by_cases e4 : i < n.toNatClampNeg
        · rw [if_pos e4, if_pos e4]
          show va_rf (some (H.size + 1 + i)) = va_rf (some (rx_ad ro base (h.length + 17 + i)))
          rw [show h.length + 17 + i = (h.length + 1 + i) + 16 by omega, rx_ad_k, hW.1]
          congr 2
          omega
        · rw [if_neg e4, if_neg e4]
          rfl
      | succ i =>
        rw [e2, List.getElem?_cons_succ, List.getElem?_replicate] at hj
        split at hj
        · next e4 =>
          cases hj
          have e3 : base + j = H.size + 1 + i := by rw [hW.1]; omega
          show F.heap[base + j]? = some (arrV (dT 1) k.toNatClampNeg (fun _ => .long 0))
          rw [e3]
          exact hrow i e4
        · cases hj
  have hS' : va_S (fun q => base ≤ q) s.heap F.heap locs := ⟨by rw [f1]; have := hS.1; omega, fun q q1 q2 => by rw [hold q (Nat.lt_of_lt_of_le q1 hS.1)]; exact hS.2.1 q q1 q2, hS.2.2⟩
  have h1 := K F.heap locs ls (by rw [eL]; omega) (by rw [eZ]; omega) hW' hS' hl
  rw [eL, eZ, show h.length + (1 + n.toNatClampNeg) - n0 = h.length - n0 + 1 + n.toNatClampNeg by omega, show rx_sz h + (n.toNatClampNeg + n.toNatClampNeg * k.toNatClampNeg) - z0 = rx_sz h - z0 + n.toNatClampNeg + n.toNatClampNeg * k.toNatClampNeg by omega] at h1
  obtain ⟨t9, a1, b1⟩ := h1 F rfl X'
  refine ⟨t9, step t9 ?_, b1⟩
  have e5 : (F0 m (pc + 4) ls ((.ref (h.length + 16) :: t : List Value).map (rx_cv (rx_ad ro base)))) = { (F0 m pc ls (.int k :: .int n :: t.map (rx_cv (rx_ad ro base)))) with pc := (F0 m pc ls (.int k :: .int n :: t.map (rx_cv (rx_ad ro base)))).pc + 4, stack := .ref T.heap.size :: t.map (rx_cv (rx_ad ro base)) } := by
    rw [List.map_cons, show rx_cv (rx_ad ro base) (.ref (h.length + 16)) = .ref (rx_ad ro base (h.length + 16)) from rfl, rx_ad_k ro base, ← hW.1, hT]
  rw [← e5]
  exact a1
end RXG
end
section
/-- calls that are steps: Object's constructor, System.arraycopy -/
def rx_is (d w : Nat) (o : Option (Nat × Nat)) (pc : Nat) (lv : rx_L) (st : List Value) (h : rx_H) : Option rx_N := match o with
  | some q => if q.1 = 1000 then rx_oi d w pc lv st h else none
  | none => none
def rx_it (d w : Nat) (o : Option (Nat × Nat)) (pc : Nat) (lv : rx_L) (st : List Value) (h : rx_H) : Option rx_N := match o with
  | some q => if q.1 = 1001 then rx_ac d w pc lv st h else if q.1 = 1004 then rx_m4 d w pc lv st h else if q.1 = 1005 then rx_m5 d w pc lv st h else none
  | none => none
theorem rx_is_e {d w : Nat} {o : Option (Nat × Nat)} {pc : Nat} {lv : rx_L} {st : List Value} {h : rx_H} {r : rx_N} (e : rx_is d w o pc lv st h = some r) : ∃ q, o = some q ∧ q.1 = 1000 ∧ rx_oi d w pc lv st h = some r := by
  unfold rx_is at e
  split at e
  · next q =>
    split at e
    · next y => exact ⟨q, rfl, y, e⟩
    · cases e
  · cases e
theorem rx_it_e {d w : Nat} {o : Option (Nat × Nat)} {pc : Nat} {lv : rx_L} {st : List Value} {h : rx_H} {r : rx_N} (e : rx_it d w o pc lv st h = some r) : ∃ q, o = some q ∧ ((q.1 = 1001 ∧ rx_ac d w pc lv st h = some r) ∨ (q.1 = 1004 ∧ rx_m4 d w pc lv st h = some r) ∨ (q.1 = 1005 ∧ rx_m5 d w pc lv st h = some r)) := by
  unfold rx_it at e
  split at e
  · next q =>
    split at e
    · next y => exact ⟨q, rfl, Or.inl ⟨y, e⟩⟩
    · split at e
      · next y => exact ⟨q, rfl, Or.inr (Or.inl ⟨y, e⟩)⟩
      · split at e
        · next y => exact ⟨q, rfl, Or.inr (Or.inr ⟨y, e⟩)⟩
        · cases e
  · cases e
def rx_opI (cds : List (List Value)) (lk : rx_Lk) (rt : rx_R) (d w : Nat) (M : rx_M) (ins : Instr) (pc : Nat) (lv : rx_L) (st : List Value) (h : rx_H) : Option rx_N := match ins with
  | .iconst n => rx_nx (pc + 1) lv (.int (Int32.ofInt n) :: st) h
  | .bipush n => rx_nx (pc + 2) lv (.int (Int8.ofInt n).toInt32 :: st) h
  | .sipush n => rx_nx (pc + 3) lv (.int (Int16.ofInt n).toInt32 :: st) h
  | .lconst n => rx_nx (pc + 1) lv (.long (Int64.ofNat n.val) :: st) h
  | .ldc ix => rx_kc ((rx_luv lk.2.2.2.2.1 (rx_Mo M) ix).map Value.int) 2 pc lv st h
  | .ldc_w ix => rx_kc ((rx_luv lk.2.2.2.2.1 (rx_Mo M) ix).map Value.int) 3 pc lv st h
  | .ldc2_w ix => rx_kc ((rx_luv lk.2.2.2.2.2 (rx_Mo M) ix).map Value.long) 3 pc lv st h
  | .iload_n k => rx_li lv k.val (pc + 1) st h
  | .iload i => rx_li lv i (pc + 2) st h
  | .lload_n k => rx_ll lv k.val (pc + 1) st h
  | .lload i => rx_ll lv i (pc + 2) st h
  | .aload_n k => rx_la lv k.val (pc + 1) st h
  | .aload i => rx_la lv i (pc + 2) st h
  | .istore_n k => rx_si (rx_Ml M) lv k.val (pc + 1) st h
  | .istore i => rx_si (rx_Ml M) lv i (pc + 2) st h
  | .lstore_n k => rx_sl (rx_Ml M) lv k.val (pc + 1) st h
  | .lstore i => rx_sl (rx_Ml M) lv i (pc + 2) st h
  | .astore_n k => rx_sa (rx_Ml M) lv k.val (pc + 1) st h
  | .astore i => rx_sa (rx_Ml M) lv i (pc + 2) st h
  | .iinc i n => rx_in (rx_Ml M) i n pc lv st h
  | .iadd => rx_2i (fun x y => x + y) pc lv st h
  | .isub => rx_2i (fun x y => x - y) pc lv st h
  | .imul => rx_2i (fun x y => x * y) pc lv st h
  | .iand => rx_2i (fun x y => x &&& y) pc lv st h
  | .ior => rx_2i (fun x y => x ||| y) pc lv st h
  | .ixor => rx_2i (fun x y => x ^^^ y) pc lv st h
  | .ishl => rx_2i (fun x y => x <<< (y &&& 31)) pc lv st h
  | .ishr => rx_2i (fun x y => x >>> (y &&& 31)) pc lv st h
  | .iushr => rx_2i (fun x y => (x.toUInt32 >>> (y.toUInt32 &&& Int32.toUInt32 31)).toInt32) pc lv st h
  | .idiv => rx_dv (fun x y => x / y) pc lv st h
  | .irem => rx_dv (fun x y => x - x / y * y) pc lv st h
  | .ineg => rx_1i (fun x => .int (-x)) pc lv st h
  | .i2l => rx_1i (fun x => .long x.toInt64) pc lv st h
  | .ladd => rx_2l (fun x y => x + y) pc lv st h
  | .lsub => rx_2l (fun x y => x - y) pc lv st h
  | .lmul => rx_2l (fun x y => x * y) pc lv st h
  | .land => rx_2l (fun x y => x &&& y) pc lv st h
  | .lor => rx_2l (fun x y => x ||| y) pc lv st h
  | .lxor => rx_2l (fun x y => x ^^^ y) pc lv st h
  | .ldiv => rx_dl (fun x y => x / y) pc lv st h
  | .lrem => rx_dl (fun x y => x - x / y * y) pc lv st h
  | .lneg => rx_1l (fun x => .long (-x)) pc lv st h
  | .l2i => rx_1l (fun x => .int x.toInt32) pc lv st h
  | .lushr => rx_us pc lv st h
  | .lcmp => rx_cm pc lv st h
  | .dup => rx_d0 pc lv st h
  | .pop => rx_pp pc lv st h
  | .dup_x1 => rx_d1 pc lv st h
  | .dup_x2 => rx_d2 pc lv st h
  | .dup2 => rx_dd pc lv st h
  | .ifCond c off => rx_b1 c off pc lv st h
  | .if_icmp c off => rx_b2 c off pc lv st h
  | .goto off => rx_jp pc off lv st h
  | .tableswitch dflt lo hi offs => rx_ts dflt lo hi offs pc lv st h
  | .lookupswitch dflt ps => rx_ls dflt ps pc lv st h
  | .iaload => rx_ial rt pc lv st h
  | .laload => rx_lal pc lv st h
  | .baload => rx_zal pc lv st h
  | .aaload => rx_qal pc lv st h
  | .iastore => rx_ias pc lv st h
  | .lastore => rx_las pc lv st h
  | .bastore => rx_zas pc lv st h
  | .arraylength => rx_al rt pc lv st h
  | .getfield ix => rx_gf (rx_luv lk.1 (rx_Mo M) ix) pc lv st h
  | .putfield ix => rx_pf (Nat.beq (rx_Mk M) 2) (rx_luv lk.1 (rx_Mo M) ix) pc lv st h
  | .getstatic ix => rx_kc ((rx_luv lk.2.1 (rx_Mo M) ix).map Value.ref) 3 pc lv st h
  | .new ix => rx_nw (rx_luv lk.2.2.2.1 (rx_Mo M) ix) cds pc lv st h
  | .newarray a => rx_na (rx_aty a) pc lv st h
  | .multianewarray ix n => rx_mn (rx_luv lk.2.2.2.1 (rx_Mo M) ix) n pc lv st h
  | .invokestatic ix => rx_it d w (rx_luv lk.2.2.1 (rx_Mo M) ix) pc lv st h
  | .invokespecial ix => rx_is d w (rx_luv lk.2.2.1 (rx_Mo M) ix) pc lv st h
  | _ => none
/-- the links are what the tables say -/
def rx_G (all nst : List Cond) (cl : List vw_C) (cds : List (List Value)) (tys : List FieldType) (sts : List (String × String × String × Nat)) (own : Nat → String) (lk : rx_Lk) : Prop :=
  (tys[0]? = some .int ∧ tys[1]? = some .long ∧ tys[2]? = some .boolean ∧ tys[3]? = some (.array .long) ∧ 4 ≤ tys.length) ∧
  (∀ (ci : Nat) (q : vw_C), cl[ci]? = some q → rx_GC all q) ∧
  (∀ (o ix : Nat) (q : Nat × Nat × FieldType × Nat), ((o, ix), q) ∈ lk.1 → rx_GF all nst cl (own o) ix q.1 q.2.1 q.2.2.1 q.2.2.2) ∧
  (∀ (o ix id : Nat), ((o, ix), id) ∈ lk.2.1 → ∃ C n d, (C, n, d, id) ∈ sts ∧ (Cond.fieldLink (own o) ix C n d ∈ all ∨ ∃ host, Cond.fieldLinkNest (own o) ix C n d host ∈ nst)) ∧
  (∀ (o ix : Nat) (q : Nat × Nat), ((o, ix), q) ∈ lk.2.2.1 → q.1 = 1000 → Cond.methodLink (own o) ix Lib.objectInit ∈ all ∧ Cond.instanceMethod Lib.objectInit ∈ all ∧ Cond.code Lib.objectInit ⟨#[0xb1]⟩ 1 none ∈ all) ∧
  (∀ (o ix : Nat) (q : Nat × Nat), ((o, ix), q) ∈ lk.2.2.1 → q.1 = 1001 → Cond.methodLink (own o) ix arraycopyName ∈ all ∧ Cond.native arraycopyName ∈ all ∧ Cond.static arraycopyName ∈ all ∧ Cond.initialized "java/lang/System" ∈ all) ∧
  (∀ (o ix : Nat) (q : Nat × Nat), ((o, ix), q) ∈ lk.2.2.1 → q.1 = 1004 → Cond.methodLink (own o) ix Lib.Math.max.name ∈ all ∧ Cond.static Lib.Math.max.name ∈ all ∧ Cond.initialized "java/lang/Math" ∈ all ∧ Cond.code Lib.Math.max.name Lib.Math.max.code 2 (some .int) ∈ all) ∧
  (∀ (o ix : Nat) (q : Nat × Nat), ((o, ix), q) ∈ lk.2.2.1 → q.1 = 1005 → Cond.methodLink (own o) ix Lib.Math.min.name ∈ all ∧ Cond.static Lib.Math.min.name ∈ all ∧ Cond.initialized "java/lang/Math" ∈ all ∧ Cond.code Lib.Math.min.name Lib.Math.min.code 2 (some .int) ∈ all) ∧
  (∀ (o ix ci : Nat) (fs : List Value), ((o, ix), ci) ∈ lk.2.2.2.1 → cds[ci]? = some fs → rx_GN all cl cds (own o) ix ci) ∧
  (∀ (o ix : Nat), ((o, ix), 1003) ∈ lk.2.2.2.1 → Cond.classLink (own o) ix "[[J" ∈ all ∧ Cond.arrayOver (.array .long) ∈ nst ∧ Cond.arrayClass .long ∈ all) ∧
  (∀ (o ix : Nat) (v : Int32), ((o, ix), v) ∈ lk.2.2.2.2.1 → Cond.constant (own o) ix v ∈ all) ∧
  (∀ (o ix : Nat) (v : Int64), ((o, ix), v) ∈ lk.2.2.2.2.2 → Cond.constantLong (own o) ix v ∈ all) ∧
  (∀ (a : ArrayType) (q : Nat × FieldType), rx_aty a = some q → Cond.arrayClass q.2 ∈ all)
end
section
section RXS
variable {p : Program} {l : Launch} {e : Env} {R : Room} {s : State} {m : MethodId} {args : Array Value} {below : List Frame} {meth : Method} {c : Code} {Q : State → Prop}
variable {all : List Cond} {cl : List vw_C} {tys : List FieldType} {sts : List (String × String × String × Nat)} {nst : List Cond} {D : va_G} {dT : Nat → ClassId} {ro : Nat → Nat} {rt : rx_R} {base n0 z0 : Nat}
variable {cds : List (List Value)} {lk : rx_Lk} {own : Nat → String} {d w : Nat} {M : rx_M}
set_option maxHeartbeats 4000000 in
set_option maxRecDepth 100000 in
theorem rx_step (hx : p.tables.exec = Jvm.exec) (hb : c.code = rx_Mb M) (hml : c.maxLocals = rx_Ml M) (hts : ∀ w ∈ all, w.before args s = true) (hown : s.vm.findClass (own (rx_Mo M)) = some m.cls) (hK : rx_Kx cl tys sts nst D dT ro rt base s s.heap) (hini : rx_Mk M = 2 → meth.name = "<init>") (hR : d ≤ R.frames ∧ w ≤ R.locals)
    (G : rx_G all nst cl cds tys sts own lk) {ins : Instr} {pc pc' : Nat} {lv lv' : rx_L} {st st' : List Value} {h h' : rx_H} (hop : rx_opI cds lk rt d w M ins pc lv st h = some (pc', lv', st', h')) (hdg : rx_dec (rx_Mb M) pc ins) (hRc : h'.length ≤ n0 + R.cells) (hRs : rx_sz h' ≤ z0 + R.slots)
    (K : rx_At p l e R s m args below meth c Q cl D dT ro base n0 z0 (rx_Ml M) pc' lv' st' h') : rx_At p l e R s m args below meth c Q cl D dT ro base n0 z0 (rx_Ml M) pc lv st h := by
  obtain ⟨Gt, GC, Gf, Gs, Go, Gy, Gx4, Gx5, Gn, Gm, Gc, Gl, Ga⟩ := G
  cases ins
  case iconst n =>
    have hd : decode (rx_Mb M) pc = .ok (.iconst n, 1) := rx_dec_n hdg rfl
    cases rx_nx_e hop
    intro H locs ls hn hz hW hS hl
    exact lv_iconst hx hb hd rfl (K H locs ls hn hz hW hS hl)
  case bipush n =>
    have hd : decode (rx_Mb M) pc = .ok (.bipush n, 2) := rx_dec_n hdg rfl
    cases rx_nx_e hop
    intro H locs ls hn hz hW hS hl
    exact lv_bipush hx hb hd rfl (K H locs ls hn hz hW hS hl)
  case sipush n =>
    have hd : decode (rx_Mb M) pc = .ok (.sipush n, 3) := rx_dec_n hdg rfl
    cases rx_nx_e hop
    intro H locs ls hn hz hW hS hl
    exact lv_sipush hx hb hd rfl (K H locs ls hn hz hW hS hl)
  case lconst n =>
    have hd : decode (rx_Mb M) pc = .ok (.lconst n, 1) := rx_dec_n hdg rfl
    cases rx_nx_e hop
    intro H locs ls hn hz hW hS hl
    exact lv_lconst hx hb hd rfl (K H locs ls hn hz hW hS hl)
  case ldc ix =>
    have hd : decode (rx_Mb M) pc = .ok (.ldc ix, 2) := rx_dec_n hdg rfl
    obtain ⟨v, ho, e⟩ := rx_kc_e hop
    cases e
    obtain ⟨z, hz9, rfl⟩ := Option.map_eq_some_iff.mp ho
    intro H locs ls hn hz hW hS hl
    exact lv_ldc hx hb hown (hts _ (Gc _ _ _ (rx_luv_e hz9))) hd (K H locs ls hn hz hW hS hl)
  case ldc_w ix =>
    have hd : decode (rx_Mb M) pc = .ok (.ldc_w ix, 3) := rx_dec_n hdg rfl
    obtain ⟨v, ho, e⟩ := rx_kc_e hop
    cases e
    obtain ⟨z, hz9, rfl⟩ := Option.map_eq_some_iff.mp ho
    intro H locs ls hn hz hW hS hl
    exact lv_ldcw hx hb hown (hts _ (Gc _ _ _ (rx_luv_e hz9))) hd (K H locs ls hn hz hW hS hl)
  case ldc2_w ix =>
    have hd : decode (rx_Mb M) pc = .ok (.ldc2_w ix, 3) := rx_dec_n hdg rfl
    obtain ⟨v, ho, e⟩ := rx_kc_e hop
    cases e
    obtain ⟨z, hz9, rfl⟩ := Option.map_eq_some_iff.mp ho
    intro H locs ls hn hz hW hS hl
    exact lv_ldc2 hx hb hown (hts _ (Gl _ _ _ (rx_luv_e hz9))) hd (K H locs ls hn hz hW hS hl)
  case iload_n k =>
    have hd : decode (rx_Mb M) pc = .ok (.iload_n k, 1) := rx_dec_n hdg rfl
    obtain ⟨x, hk, e⟩ := rx_li_e hop
    cases e
    intro H locs ls hn hz hW hS hl
    exact lv_iload_n hx hb hd rfl (rx_lk_at hl hk) (K H locs ls hn hz hW hS hl)
  case iload i =>
    have hd : decode (rx_Mb M) pc = .ok (.iload i, 2) := rx_dec_n hdg rfl
    obtain ⟨x, hk, e⟩ := rx_li_e hop
    cases e
    intro H locs ls hn hz hW hS hl
    exact lv_iload hx hb hd (rx_lk_at hl hk) (K H locs ls hn hz hW hS hl)
  case lload_n k =>
    have hd : decode (rx_Mb M) pc = .ok (.lload_n k, 1) := rx_dec_n hdg rfl
    obtain ⟨x, hk, e⟩ := rx_ll_e hop
    cases e
    intro H locs ls hn hz hW hS hl
    exact lv_lload_n hx hb hd rfl (rx_lk_at hl hk) (K H locs ls hn hz hW hS hl)
  case lload i =>
    have hd : decode (rx_Mb M) pc = .ok (.lload i, 2) := rx_dec_n hdg rfl
    obtain ⟨x, hk, e⟩ := rx_ll_e hop
    cases e
    intro H locs ls hn hz hW hS hl
    exact lv_lload hx hb hd (rx_lk_at hl hk) (K H locs ls hn hz hW hS hl)
  case aload_n k =>
    have hd : decode (rx_Mb M) pc = .ok (.aload_n k, 1) := rx_dec_n hdg rfl
    obtain ⟨x, hk, e⟩ := rx_la_e hop
    cases e
    intro H locs ls hn hz hW hS hl
    exact lv_aload_n hx hb hd rfl (rx_lk_at hl hk) (K H locs ls hn hz hW hS hl)
  case aload i =>
    have hd : decode (rx_Mb M) pc = .ok (.aload i, 2) := rx_dec_n hdg rfl
    obtain ⟨x, hk, e⟩ := rx_la_e hop
    cases e
    intro H locs ls hn hz hW hS hl
    exact lv_aload hx hb hd (rx_lk_at hl hk) (K H locs ls hn hz hW hS hl)
  case istore_n k =>
    have hd : decode (rx_Mb M) pc = .ok (.istore_n k, 1) := rx_dec_n hdg rfl
    obtain ⟨x, t, rfl, hi, e⟩ := rx_si_e hop
    cases e
    intro H locs ls hn hz hW hS hl
    exact lv_istore_n hx hb hd rfl hl hi (rx_s1_c (rx_ad ro base) lv k.val (.int x)) (fun ls' hl' => K H locs ls' hn hz hW hS hl')
  case istore i =>
    have hd : decode (rx_Mb M) pc = .ok (.istore i, 2) := rx_dec_n hdg rfl
    obtain ⟨x, t, rfl, hi, e⟩ := rx_si_e hop
    cases e
    intro H locs ls hn hz hW hS hl
    exact lv_istore hx hb hd hl hi (rx_s1_c (rx_ad ro base) lv i (.int x)) (fun ls' hl' => K H locs ls' hn hz hW hS hl')
  case lstore_n k =>
    have hd : decode (rx_Mb M) pc = .ok (.lstore_n k, 1) := rx_dec_n hdg rfl
    obtain ⟨x, t, rfl, hi, e⟩ := rx_sl_e hop
    cases e
    intro H locs ls hn hz hW hS hl
    exact lv_lstore_n hx hb hd rfl hl hi (rx_s2_c (rx_ad ro base) lv k.val (.long x)) (fun ls' hl' => K H locs ls' hn hz hW hS hl')
  case lstore i =>
    have hd : decode (rx_Mb M) pc = .ok (.lstore i, 2) := rx_dec_n hdg rfl
    obtain ⟨x, t, rfl, hi, e⟩ := rx_sl_e hop
    cases e
    intro H locs ls hn hz hW hS hl
    exact lv_lstore hx hb hd hl hi (rx_s2_c (rx_ad ro base) lv i (.long x)) (fun ls' hl' => K H locs ls' hn hz hW hS hl')
  case astore_n k =>
    have hd : decode (rx_Mb M) pc = .ok (.astore_n k, 1) := rx_dec_n hdg rfl
    obtain ⟨x, t, rfl, hi, e⟩ := rx_sa_e hop
    cases e
    intro H locs ls hn hz hW hS hl
    exact lv_astore_n hx hb hd rfl hl hi (rx_s1_c (rx_ad ro base) lv k.val (.ref x)) (fun ls' hl' => K H locs ls' hn hz hW hS hl')
  case astore i =>
    have hd : decode (rx_Mb M) pc = .ok (.astore i, 2) := rx_dec_n hdg rfl
    obtain ⟨x, t, rfl, hi, e⟩ := rx_sa_e hop
    cases e
    intro H locs ls hn hz hW hS hl
    exact lv_astore hx hb hd hl hi (rx_s1_c (rx_ad ro base) lv i (.ref x)) (fun ls' hl' => K H locs ls' hn hz hW hS hl')
  case iinc i n =>
    have hd : decode (rx_Mb M) pc = .ok (.iinc i n, 3) := rx_dec_n hdg rfl
    obtain ⟨x, hk, hi, e⟩ := rx_in_e hop
    cases e
    intro H locs ls hn hz hW hS hl
    obtain ⟨j, hj⟩ := List.getElem?_of_mem (List.mem_map.mpr ⟨(i, Value.int x), rx_lk_mem hk, rfl⟩ : (i, Value.int x) ∈ rx_cl2 (rx_ad ro base) lv)
    exact lv_iinc hx hb hd hl hj rfl hi (rx_s1_c (rx_ad ro base) lv i (.int (x + Int32.ofInt n))) (fun ls' hl' => K H locs ls' hn hz hW hS hl')
  case iadd =>
    have hd : decode (rx_Mb M) pc = .ok (.iadd, 1) := rx_dec_n hdg rfl
    obtain ⟨x, y, t, rfl, e⟩ := rx_2i_e hop
    cases e
    intro H locs ls hn hz hW hS hl
    exact lv_iadd hx hb hd (K H locs ls hn hz hW hS hl)
  case isub =>
    have hd : decode (rx_Mb M) pc = .ok (.isub, 1) := rx_dec_n hdg rfl
    obtain ⟨x, y, t, rfl, e⟩ := rx_2i_e hop
    cases e
    intro H locs ls hn hz hW hS hl
    exact lv_isub hx hb hd (K H locs ls hn hz hW hS hl)
  case imul =>
    have hd : decode (rx_Mb M) pc = .ok (.imul, 1) := rx_dec_n hdg rfl
    obtain ⟨x, y, t, rfl, e⟩ := rx_2i_e hop
    cases e
    intro H locs ls hn hz hW hS hl
    exact lv_imul hx hb hd (K H locs ls hn hz hW hS hl)
  case iand =>
    have hd : decode (rx_Mb M) pc = .ok (.iand, 1) := rx_dec_n hdg rfl
    obtain ⟨x, y, t, rfl, e⟩ := rx_2i_e hop
    cases e
    intro H locs ls hn hz hW hS hl
    exact lv_iand hx hb hd (K H locs ls hn hz hW hS hl)
  case ior =>
    have hd : decode (rx_Mb M) pc = .ok (.ior, 1) := rx_dec_n hdg rfl
    obtain ⟨x, y, t, rfl, e⟩ := rx_2i_e hop
    cases e
    intro H locs ls hn hz hW hS hl
    exact lv_ior hx hb hd (K H locs ls hn hz hW hS hl)
  case ixor =>
    have hd : decode (rx_Mb M) pc = .ok (.ixor, 1) := rx_dec_n hdg rfl
    obtain ⟨x, y, t, rfl, e⟩ := rx_2i_e hop
    cases e
    intro H locs ls hn hz hW hS hl
    exact lv_ixor hx hb hd (K H locs ls hn hz hW hS hl)
  case ishl =>
    have hd : decode (rx_Mb M) pc = .ok (.ishl, 1) := rx_dec_n hdg rfl
    obtain ⟨x, y, t, rfl, e⟩ := rx_2i_e hop
    cases e
    intro H locs ls hn hz hW hS hl
    exact lv_ishl hx hb hd (K H locs ls hn hz hW hS hl)
  case ishr =>
    have hd : decode (rx_Mb M) pc = .ok (.ishr, 1) := rx_dec_n hdg rfl
    obtain ⟨x, y, t, rfl, e⟩ := rx_2i_e hop
    cases e
    intro H locs ls hn hz hW hS hl
    exact lv_ishr hx hb hd (K H locs ls hn hz hW hS hl)
  case iushr =>
    have hd : decode (rx_Mb M) pc = .ok (.iushr, 1) := rx_dec_n hdg rfl
    obtain ⟨x, y, t, rfl, e⟩ := rx_2i_e hop
    cases e
    intro H locs ls hn hz hW hS hl
    exact lv_iushr hx hb hd rfl (K H locs ls hn hz hW hS hl)
  case idiv =>
    have hd : decode (rx_Mb M) pc = .ok (.idiv, 1) := rx_dec_n hdg rfl
    obtain ⟨x, y, t, rfl, h0, e⟩ := rx_dv_e hop
    cases e
    intro H locs ls hn hz hW hS hl
    exact lv_idiv hx hb hd h0 (K H locs ls hn hz hW hS hl)
  case irem =>
    have hd : decode (rx_Mb M) pc = .ok (.irem, 1) := rx_dec_n hdg rfl
    obtain ⟨x, y, t, rfl, h0, e⟩ := rx_dv_e hop
    cases e
    intro H locs ls hn hz hW hS hl
    exact lv_irem hx hb hd h0 (K H locs ls hn hz hW hS hl)
  case ldiv =>
    have hd : decode (rx_Mb M) pc = .ok (.ldiv, 1) := rx_dec_n hdg rfl
    obtain ⟨x, y, t, rfl, h0, e⟩ := rx_dl_e hop
    cases e
    intro H locs ls hn hz hW hS hl
    exact lv_ldiv hx hb hd h0 (K H locs ls hn hz hW hS hl)
  case lrem =>
    have hd : decode (rx_Mb M) pc = .ok (.lrem, 1) := rx_dec_n hdg rfl
    obtain ⟨x, y, t, rfl, h0, e⟩ := rx_dl_e hop
    cases e
    intro H locs ls hn hz hW hS hl
    exact lv_lrem hx hb hd h0 (K H locs ls hn hz hW hS hl)
  case ladd =>
    have hd : decode (rx_Mb M) pc = .ok (.ladd, 1) := rx_dec_n hdg rfl
    obtain ⟨x, y, t, rfl, e⟩ := rx_2l_e hop
    cases e
    intro H locs ls hn hz hW hS hl
    exact lv_ladd hx hb hd (K H locs ls hn hz hW hS hl)
  case lsub =>
    have hd : decode (rx_Mb M) pc = .ok (.lsub, 1) := rx_dec_n hdg rfl
    obtain ⟨x, y, t, rfl, e⟩ := rx_2l_e hop
    cases e
    intro H locs ls hn hz hW hS hl
    exact lv_lsub hx hb hd (K H locs ls hn hz hW hS hl)
  case lmul =>
    have hd : decode (rx_Mb M) pc = .ok (.lmul, 1) := rx_dec_n hdg rfl
    obtain ⟨x, y, t, rfl, e⟩ := rx_2l_e hop
    cases e
    intro H locs ls hn hz hW hS hl
    exact lv_lmul hx hb hd (K H locs ls hn hz hW hS hl)
  case land =>
    have hd : decode (rx_Mb M) pc = .ok (.land, 1) := rx_dec_n hdg rfl
    obtain ⟨x, y, t, rfl, e⟩ := rx_2l_e hop
    cases e
    intro H locs ls hn hz hW hS hl
    exact lv_land hx hb hd (K H locs ls hn hz hW hS hl)
  case lor =>
    have hd : decode (rx_Mb M) pc = .ok (.lor, 1) := rx_dec_n hdg rfl
    obtain ⟨x, y, t, rfl, e⟩ := rx_2l_e hop
    cases e
    intro H locs ls hn hz hW hS hl
    exact lv_lor hx hb hd (K H locs ls hn hz hW hS hl)
  case lxor =>
    have hd : decode (rx_Mb M) pc = .ok (.lxor, 1) := rx_dec_n hdg rfl
    obtain ⟨x, y, t, rfl, e⟩ := rx_2l_e hop
    cases e
    intro H locs ls hn hz hW hS hl
    exact lv_lxor hx hb hd (K H locs ls hn hz hW hS hl)
  case ineg =>
    have hd : decode (rx_Mb M) pc = .ok (.ineg, 1) := rx_dec_n hdg rfl
    obtain ⟨x, t, rfl, e⟩ := rx_1i_e hop
    cases e
    intro H locs ls hn hz hW hS hl
    exact lv_ineg hx hb hd (K H locs ls hn hz hW hS hl)
  case i2l =>
    have hd : decode (rx_Mb M) pc = .ok (.i2l, 1) := rx_dec_n hdg rfl
    obtain ⟨x, t, rfl, e⟩ := rx_1i_e hop
    cases e
    intro H locs ls hn hz hW hS hl
    exact lv_i2l hx hb hd rfl (K H locs ls hn hz hW hS hl)
  case lneg =>
    have hd : decode (rx_Mb M) pc = .ok (.lneg, 1) := rx_dec_n hdg rfl
    obtain ⟨x, t, rfl, e⟩ := rx_1l_e hop
    cases e
    intro H locs ls hn hz hW hS hl
    exact lv_lneg hx hb hd (K H locs ls hn hz hW hS hl)
  case l2i =>
    have hd : decode (rx_Mb M) pc = .ok (.l2i, 1) := rx_dec_n hdg rfl
    obtain ⟨x, t, rfl, e⟩ := rx_1l_e hop
    cases e
    intro H locs ls hn hz hW hS hl
    exact lv_l2i hx hb hd rfl (K H locs ls hn hz hW hS hl)
  case lushr =>
    have hd : decode (rx_Mb M) pc = .ok (.lushr, 1) := rx_dec_n hdg rfl
    obtain ⟨x, y, t, rfl, e⟩ := rx_us_e hop
    cases e
    intro H locs ls hn hz hW hS hl
    exact lv_lushr hx hb hd rfl (K H locs ls hn hz hW hS hl)
  case lcmp =>
    have hd : decode (rx_Mb M) pc = .ok (.lcmp, 1) := rx_dec_n hdg rfl
    obtain ⟨x, y, t, rfl, e⟩ := rx_cm_e hop
    cases e
    intro H locs ls hn hz hW hS hl
    exact W.lcmp hx hb hd (K H locs ls hn hz hW hS hl)
  case dup =>
    have hd : decode (rx_Mb M) pc = .ok (.dup, 1) := rx_dec_n hdg rfl
    obtain ⟨a, t, rfl, h1, e⟩ := rx_d0_e hop
    cases e
    intro H locs ls hn hz hW hS hl
    exact lv_dup hx hb hd ((rx_cat _ a).trans h1) (K H locs ls hn hz hW hS hl)
  case pop =>
    have hd : decode (rx_Mb M) pc = .ok (.pop, 1) := rx_dec_n hdg rfl
    obtain ⟨a, t, rfl, h1, e⟩ := rx_pp_e hop
    cases e
    intro H locs ls hn hz hW hS hl
    exact lv_pop hx hb hd ((rx_cat _ a).trans h1) (K H locs ls hn hz hW hS hl)
  case dup_x1 =>
    have hd : decode (rx_Mb M) pc = .ok (.dup_x1, 1) := rx_dec_n hdg rfl
    obtain ⟨a, b, t, rfl, h1, h2, e⟩ := rx_d1_e hop
    cases e
    intro H locs ls hn hz hW hS hl
    exact lv_dup_x1 hx hb hd ((rx_cat _ a).trans h1) ((rx_cat _ b).trans h2) (K H locs ls hn hz hW hS hl)
  case dup_x2 =>
    have hd : decode (rx_Mb M) pc = .ok (.dup_x2, 1) := rx_dec_n hdg rfl
    obtain ⟨a, b, d9, t, rfl, h1, h2, h3, e⟩ := rx_d2_e hop
    cases e
    intro H locs ls hn hz hW hS hl
    exact lv_dup_x2 hx hb hd ((rx_cat _ a).trans h1) ((rx_cat _ b).trans h2) ((rx_cat _ d9).trans h3) (K H locs ls hn hz hW hS hl)
  case dup2 =>
    have hd : decode (rx_Mb M) pc = .ok (.dup2, 1) := rx_dec_n hdg rfl
    obtain ⟨a, b, t, rfl, h1, h2, e⟩ := rx_dd_e hop
    cases e
    intro H locs ls hn hz hW hS hl
    exact lv_dup2_11 hx hb hd ((rx_cat _ a).trans h1) ((rx_cat _ b).trans h2) (K H locs ls hn hz hW hS hl)
  case ifCond cond off =>
    obtain ⟨x, t, rfl, g, hg, hc⟩ := rx_b1_e hop
    cases cond
    case eq =>
      have hd : decode (rx_Mb M) pc = .ok (.ifCond .eq off, 3) := rx_dec_n hdg rfl
      rcases hc with ⟨hc, e⟩ | ⟨hc, e⟩
      · cases e
        have hc := of_decide_eq_true hc
        intro H locs ls hn hz hW hS hl
        exact lv_if_eq hx hb hd hg (fun _ => K H locs ls hn hz hW hS hl) (fun h9 => absurd hc h9)
      · cases e
        have hc := of_decide_eq_false hc
        intro H locs ls hn hz hW hS hl
        exact lv_if_eq hx hb hd hg (fun h9 => absurd h9 hc) (fun _ => K H locs ls hn hz hW hS hl)
    case ne =>
      have hd : decode (rx_Mb M) pc = .ok (.ifCond .ne off, 3) := rx_dec_n hdg rfl
      rcases hc with ⟨hc, e⟩ | ⟨hc, e⟩
      · cases e
        have hc := of_decide_eq_true hc
        intro H locs ls hn hz hW hS hl
        exact lv_if_ne hx hb hd hg (fun _ => K H locs ls hn hz hW hS hl) (fun h9 => absurd h9 hc)
      · cases e
        have hc := of_decide_eq_false hc
        intro H locs ls hn hz hW hS hl
        exact lv_if_ne hx hb hd hg (fun h9 => absurd h9 hc) (fun _ => K H locs ls hn hz hW hS hl)
    case lt =>
      have hd : decode (rx_Mb M) pc = .ok (.ifCond .lt off, 3) := rx_dec_n hdg rfl
      rcases hc with ⟨hc, e⟩ | ⟨hc, e⟩
      · cases e
        have hc := of_decide_eq_true hc
        intro H locs ls hn hz hW hS hl
        exact lv_if_lt hx hb hd hg (fun _ => K H locs ls hn hz hW hS hl) (fun h9 => absurd hc h9)
      · cases e
        have hc := of_decide_eq_false hc
        intro H locs ls hn hz hW hS hl
        exact lv_if_lt hx hb hd hg (fun h9 => absurd h9 hc) (fun _ => K H locs ls hn hz hW hS hl)
    case ge =>
      have hd : decode (rx_Mb M) pc = .ok (.ifCond .ge off, 3) := rx_dec_n hdg rfl
      rcases hc with ⟨hc, e⟩ | ⟨hc, e⟩
      · cases e
        have hc := of_decide_eq_true hc
        intro H locs ls hn hz hW hS hl
        exact lv_if_ge hx hb hd hg (fun _ => K H locs ls hn hz hW hS hl) (fun h9 => absurd hc h9)
      · cases e
        have hc := of_decide_eq_false hc
        intro H locs ls hn hz hW hS hl
        exact lv_if_ge hx hb hd hg (fun h9 => absurd h9 hc) (fun _ => K H locs ls hn hz hW hS hl)
    case gt =>
      have hd : decode (rx_Mb M) pc = .ok (.ifCond .gt off, 3) := rx_dec_n hdg rfl
      rcases hc with ⟨hc, e⟩ | ⟨hc, e⟩
      · cases e
        have hc := of_decide_eq_true hc
        intro H locs ls hn hz hW hS hl
        exact lv_if_gt hx hb hd hg (fun _ => K H locs ls hn hz hW hS hl) (fun h9 => absurd hc h9)
      · cases e
        have hc := of_decide_eq_false hc
        intro H locs ls hn hz hW hS hl
        exact lv_if_gt hx hb hd hg (fun h9 => absurd h9 hc) (fun _ => K H locs ls hn hz hW hS hl)
    case le =>
      have hd : decode (rx_Mb M) pc = .ok (.ifCond .le off, 3) := rx_dec_n hdg rfl
      rcases hc with ⟨hc, e⟩ | ⟨hc, e⟩
      · cases e
        have hc := of_decide_eq_true hc
        intro H locs ls hn hz hW hS hl
        exact lv_if_le hx hb hd hg (fun _ => K H locs ls hn hz hW hS hl) (fun h9 => absurd hc h9)
      · cases e
        have hc := of_decide_eq_false hc
        intro H locs ls hn hz hW hS hl
        exact lv_if_le hx hb hd hg (fun h9 => absurd h9 hc) (fun _ => K H locs ls hn hz hW hS hl)
  case if_icmp cond off =>
    obtain ⟨x, y, t, rfl, g, hg, hc⟩ := rx_b2_e hop
    cases cond
    case eq =>
      have hd : decode (rx_Mb M) pc = .ok (.if_icmp .eq off, 3) := rx_dec_n hdg rfl
      rcases hc with ⟨hc, e⟩ | ⟨hc, e⟩
      · cases e
        have hc := of_decide_eq_true hc
        intro H locs ls hn hz hW hS hl
        exact lv_icmp_eq hx hb hd hg (fun _ => K H locs ls hn hz hW hS hl) (fun h9 => absurd hc h9)
      · cases e
        have hc := of_decide_eq_false hc
        intro H locs ls hn hz hW hS hl
        exact lv_icmp_eq hx hb hd hg (fun h9 => absurd h9 hc) (fun _ => K H locs ls hn hz hW hS hl)
    case ne =>
      have hd : decode (rx_Mb M) pc = .ok (.if_icmp .ne off, 3) := rx_dec_n hdg rfl
      rcases hc with ⟨hc, e⟩ | ⟨hc, e⟩
      · cases e
        have hc := of_decide_eq_true hc
        intro H locs ls hn hz hW hS hl
        exact lv_icmp_ne hx hb hd hg (fun _ => K H locs ls hn hz hW hS hl) (fun h9 => absurd h9 hc)
      · cases e
        have hc := of_decide_eq_false hc
        intro H locs ls hn hz hW hS hl
        exact lv_icmp_ne hx hb hd hg (fun h9 => absurd h9 hc) (fun _ => K H locs ls hn hz hW hS hl)
    case lt =>
      have hd : decode (rx_Mb M) pc = .ok (.if_icmp .lt off, 3) := rx_dec_n hdg rfl
      rcases hc with ⟨hc, e⟩ | ⟨hc, e⟩
      · cases e
        have hc := of_decide_eq_true hc
        intro H locs ls hn hz hW hS hl
        exact lv_icmp_lt hx hb hd hg (fun _ => K H locs ls hn hz hW hS hl) (fun h9 => absurd hc h9)
      · cases e
        have hc := of_decide_eq_false hc
        intro H locs ls hn hz hW hS hl
        exact lv_icmp_lt hx hb hd hg (fun h9 => absurd h9 hc) (fun _ => K H locs ls hn hz hW hS hl)
    case ge =>
      have hd : decode (rx_Mb M) pc = .ok (.if_icmp .ge off, 3) := rx_dec_n hdg rfl
      rcases hc with ⟨hc, e⟩ | ⟨hc, e⟩
      · cases e
        have hc := of_decide_eq_true hc
        intro H locs ls hn hz hW hS hl
        exact lv_icmp_ge hx hb hd hg (fun _ => K H locs ls hn hz hW hS hl) (fun h9 => absurd hc h9)
      · cases e
        have hc := of_decide_eq_false hc
        intro H locs ls hn hz hW hS hl
        exact lv_icmp_ge hx hb hd hg (fun h9 => absurd h9 hc) (fun _ => K H locs ls hn hz hW hS hl)
    case gt =>
      have hd : decode (rx_Mb M) pc = .ok (.if_icmp .gt off, 3) := rx_dec_n hdg rfl
      rcases hc with ⟨hc, e⟩ | ⟨hc, e⟩
      · cases e
        have hc := of_decide_eq_true hc
        intro H locs ls hn hz hW hS hl
        exact lv_icmp_gt hx hb hd hg (fun _ => K H locs ls hn hz hW hS hl) (fun h9 => absurd hc h9)
      · cases e
        have hc := of_decide_eq_false hc
        intro H locs ls hn hz hW hS hl
        exact lv_icmp_gt hx hb hd hg (fun h9 => absurd h9 hc) (fun _ => K H locs ls hn hz hW hS hl)
    case le =>
      have hd : decode (rx_Mb M) pc = .ok (.if_icmp .le off, 3) := rx_dec_n hdg rfl
      rcases hc with ⟨hc, e⟩ | ⟨hc, e⟩
      · cases e
        have hc := of_decide_eq_true hc
        intro H locs ls hn hz hW hS hl
        exact lv_icmp_le hx hb hd hg (fun _ => K H locs ls hn hz hW hS hl) (fun h9 => absurd hc h9)
      · cases e
        have hc := of_decide_eq_false hc
        intro H locs ls hn hz hW hS hl
        exact lv_icmp_le hx hb hd hg (fun h9 => absurd h9 hc) (fun _ => K H locs ls hn hz hW hS hl)
  case goto off =>
    have hd : decode (rx_Mb M) pc = .ok (.goto off, 3) := rx_dec_n hdg rfl
    obtain ⟨g, hg, e⟩ := rx_jp_e hop
    cases e
    intro H locs ls hn hz hW hS hl
    exact lv_goto hx hb hd hg (K H locs ls hn hz hW hS hl)
  case tableswitch dflt lo hi offs =>
    obtain ⟨len, hd, -⟩ := hdg
    obtain ⟨x, t, rfl, ⟨h1, g, hg, e⟩ | ⟨h1, h2, off, g, h3, hg, e⟩⟩ := rx_ts_e hop
    · cases e
      intro H locs ls hn hz hW hS hl
      exact lv_tableOut hx hb hd h1 hg (K H locs ls hn hz hW hS hl)
    · cases e
      intro H locs ls hn hz hW hS hl
      exact lv_tableIn hx hb hd h1 h2 h3 hg (K H locs ls hn hz hW hS hl)
  case lookupswitch dflt ps =>
    obtain ⟨len, hd, -⟩ := hdg
    obtain ⟨x, t, rfl, h1, g, hg, e⟩ := rx_ls_e hop
    cases e
    intro H locs ls hn hz hW hS hl
    exact lv_lookup hx hb hd h1 rfl hg (K H locs ls hn hz hW hS hl)
  case iaload =>
    have hd : decode (rx_Mb M) pc = .ok (.iaload, 1) := rx_dec_n hdg rfl
    obtain ⟨i, a, t, q, rfl, h1, h2, e⟩ := rx_ial_e hop
    cases e
    exact rx_h_iald hx hb hK Gt.1 h1 h2 hd K
  case laload =>
    have hd : decode (rx_Mb M) pc = .ok (.laload, 1) := rx_dec_n hdg rfl
    obtain ⟨i, a, t, q, rfl, h1, h2, e⟩ := rx_lal_e hop
    cases e
    exact rx_h_lald hx hb hK Gt.2.1 h1 h2 hd K
  case baload =>
    have hd : decode (rx_Mb M) pc = .ok (.baload, 1) := rx_dec_n hdg rfl
    obtain ⟨i, a, t, q, rfl, h1, h2, e⟩ := rx_zal_e hop
    cases e
    exact rx_h_zald hx hb hK Gt.2.2.1 h1 h2 hd K
  case aaload =>
    have hd : decode (rx_Mb M) pc = .ok (.aaload, 1) := rx_dec_n hdg rfl
    obtain ⟨i, a, t, q, k, rfl, h1, h2, h3, e⟩ := rx_qal_e hop
    cases e
    exact rx_h_qald hx hb hK Gt.2.2.2.1 h1 h2 h3 hd K
  case iastore =>
    have hd : decode (rx_Mb M) pc = .ok (.iastore, 1) := rx_dec_n hdg rfl
    obtain ⟨x, i, k, t, n, f, rfl, h1, h2, h3, e⟩ := rx_ias_e hop
    cases e
    exact rx_h_iast hx hb hK Gt.1 h1 h2 h3 hd K
  case lastore =>
    have hd : decode (rx_Mb M) pc = .ok (.lastore, 1) := rx_dec_n hdg rfl
    obtain ⟨x, i, k, t, n, f, rfl, h1, h2, h3, e⟩ := rx_las_e hop
    cases e
    exact rx_h_last hx hb hK Gt.2.1 h1 h2 h3 hd K
  case bastore =>
    have hd : decode (rx_Mb M) pc = .ok (.bastore, 1) := rx_dec_n hdg rfl
    obtain ⟨x, i, k, t, n, f, rfl, h1, h2, h3, e⟩ := rx_zas_e hop
    cases e
    exact rx_h_zast hx hb hK Gt.2.2.1 h1 h2 h3 hd K
  case arraylength =>
    have hd : decode (rx_Mb M) pc = .ok (.arraylength, 1) := rx_dec_n hdg rfl
    obtain ⟨a, t, n, rfl, h1, e⟩ := rx_al_e hop
    cases e
    exact rx_h_alen hx hb hK Gt.2.2.2.2 h1 hd K
  case getfield ix =>
    have hd : decode (rx_Mb M) pc = .ok (.getfield ix, 3) := rx_dec_n hdg rfl
    obtain ⟨k, t, q, fs, v, rfl, h1, h2, h3, e⟩ := rx_gf_e hop
    cases e
    exact rx_h_get hx hb hts hown hK GC (Gf _ _ _ (rx_luv_e h1)) h2 h3 hd K
  case putfield ix =>
    have hd : decode (rx_Mb M) pc = .ok (.putfield ix, 3) := rx_dec_n hdg rfl
    obtain ⟨v, k, t, q, fs, rfl, h1, h2, h3, h4, h5, h6, e⟩ := rx_pf_e hop
    cases e
    exact rx_h_put hx hb hts hown hK GC (Gf _ _ _ (rx_luv_e h1)) (fun z => hini (Nat.eq_of_beq_eq_true z)) h2 h3 h4 h5 h6 hd K
  case getstatic ix =>
    have hd : decode (rx_Mb M) pc = .ok (.getstatic ix, 3) := rx_dec_n hdg rfl
    obtain ⟨v, ho, e⟩ := rx_kc_e hop
    cases e
    obtain ⟨z, hz9, rfl⟩ := Option.map_eq_some_iff.mp ho
    exact rx_h_gets hx hb hts hown hK (Gs _ _ _ (rx_luv_e hz9)) hd K
  case new ix =>
    have hd : decode (rx_Mb M) pc = .ok (.new ix, 3) := rx_dec_n hdg rfl
    obtain ⟨ci, fs, h1, h2, e⟩ := rx_nw_e hop
    cases e
    exact rx_h_new hx hb hts hown hK GC (Gn _ _ _ _ (rx_luv_e h1) h2) h2 (by simpa using hRc) (by simpa [rx_sz, rx_sz1] using hRs) hd K
  case newarray a =>
    have hd : decode (rx_Mb M) pc = .ok (.newarray a, 2) := rx_dec_n hdg rfl
    obtain ⟨q, n, t, h1, rfl, h2, h3, e⟩ := rx_na_e hop
    cases e
    have e9 := rx_zer_sz q.1 n.toNatClampNeg
    have e8 : rx_sz h + n.toNatClampNeg ≤ z0 + R.slots := by
      rw [rx_sz_app] at hRs
      have e7 : rx_sz [Sum.inl (q.1, rx_zer q.1 n.toNatClampNeg)] = n.toNatClampNeg := by
        show rx_sz1 _ + 0 = _
        rw [e9]; rfl
      omega
    exact rx_h_na hx hb hts hK ⟨Gt.1, Gt.2.1, Gt.2.2.1⟩ h1 (Ga _ _ h1) h2 h3 (by simpa using hRc) e8 hd K
  case multianewarray ix n =>
    have hd : decode (rx_Mb M) pc = .ok (.multianewarray ix n, 4) := rx_dec_n hdg rfl
    exact rx_h_mna hx hb hts hown hK Gt.2.1 Gt.2.2.2.1 (fun z => Gm _ _ (rx_luv_e z)) hop hRc hRs hd K
  case invokespecial ix =>
    have hd : decode (rx_Mb M) pc = .ok (.invokespecial ix, 3) := rx_dec_n hdg rfl
    obtain ⟨q, h1, h2, h3⟩ := rx_is_e hop
    obtain ⟨a, t, rfl, h4, h5, e⟩ := rx_oi_e h3
    cases e
    exact rx_h_oi hx hb hml hts hown (Go _ _ _ (rx_luv_e h1) h2).1 (Go _ _ _ (rx_luv_e h1) h2).2.1 (Go _ _ _ (rx_luv_e h1) h2).2.2 h4 h5 hR hd K
  case invokestatic ix =>
    have hd : decode (rx_Mb M) pc = .ok (.invokestatic ix, 3) := rx_dec_n hdg rfl
    obtain ⟨q, h1, ⟨h2, h3⟩ | ⟨h2, h3⟩ | ⟨h2, h3⟩⟩ := rx_it_e hop
    · obtain ⟨n, dp, sp, ka, kb, m0, m1, f, g, t, rfl, w1, w2, w3, w4, w5, w6, w7, w8, w9, w10, e⟩ := rx_ac_e h3
      cases e
      exact rx_h_ac hx hb hml hts hown hK Gt.1 (Gy _ _ _ (rx_luv_e h1) h2).1 (Gy _ _ _ (rx_luv_e h1) h2).2.1 (Gy _ _ _ (rx_luv_e h1) h2).2.2.1 (Gy _ _ _ (rx_luv_e h1) h2).2.2.2 w1 w2 w3 w4 w5 w6 w7 w8 w9 w10 hR hd K
    · obtain ⟨x, y, t, rfl, w1, w2, e⟩ := rx_m4_e h3
      cases e
      exact rx_h_m4 hx hb hml hts hown (Gx4 _ _ _ (rx_luv_e h1) h2) w1 w2 hR hRc hRs hd K
    · obtain ⟨x, y, t, rfl, w1, w2, e⟩ := rx_m5_e h3
      cases e
      exact rx_h_m5 hx hb hml hts hown (Gx5 _ _ _ (rx_luv_e h1) h2) w1 w2 hR hRc hRs hd K
  all_goals exact absurd hop (fun z => by cases z)
end RXS
end
section
set_option maxHeartbeats 4000000 in
set_option maxRecDepth 100000 in
/-- the cells only grow -/
theorem rx_op_grow {cds : List (List Value)} {lk : rx_Lk} {rt : rx_R} {d w : Nat} {M : rx_M} {ins : Instr} {pc pc' : Nat} {lv lv' : rx_L} {st st' : List Value} {h h' : rx_H} (hop : rx_opI cds lk rt d w M ins pc lv st h = some (pc', lv', st', h')) : h.length ≤ h'.length ∧ rx_sz h ≤ rx_sz h' := by
  cases ins
  case iconst n =>
    cases rx_nx_e hop
    exact ⟨Nat.le_refl _, Nat.le_refl _⟩
  case bipush n =>
    cases rx_nx_e hop
    exact ⟨Nat.le_refl _, Nat.le_refl _⟩
  case sipush n =>
    cases rx_nx_e hop
    exact ⟨Nat.le_refl _, Nat.le_refl _⟩
  case lconst n =>
    cases rx_nx_e hop
    exact ⟨Nat.le_refl _, Nat.le_refl _⟩
  case ldc ix =>
    obtain ⟨v, ho, e⟩ := rx_kc_e hop
    cases e
    exact ⟨Nat.le_refl _, Nat.le_refl _⟩
  case ldc_w ix =>
    obtain ⟨v, ho, e⟩ := rx_kc_e hop
    cases e
    exact ⟨Nat.le_refl _, Nat.le_refl _⟩
  case ldc2_w ix =>
    obtain ⟨v, ho, e⟩ := rx_kc_e hop
    cases e
    exact ⟨Nat.le_refl _, Nat.le_refl _⟩
  case getstatic ix =>
    obtain ⟨v, ho, e⟩ := rx_kc_e hop
    cases e
    exact ⟨Nat.le_refl _, Nat.le_refl _⟩
  case iload_n k =>
    obtain ⟨x, hk, e⟩ := rx_li_e hop
    cases e
    exact ⟨Nat.le_refl _, Nat.le_refl _⟩
  case iload i =>
    obtain ⟨x, hk, e⟩ := rx_li_e hop
    cases e
    exact ⟨Nat.le_refl _, Nat.le_refl _⟩
  case lload_n k =>
    obtain ⟨x, hk, e⟩ := rx_ll_e hop
    cases e
    exact ⟨Nat.le_refl _, Nat.le_refl _⟩
  case lload i =>
    obtain ⟨x, hk, e⟩ := rx_ll_e hop
    cases e
    exact ⟨Nat.le_refl _, Nat.le_refl _⟩
  case aload_n k =>
    obtain ⟨x, hk, e⟩ := rx_la_e hop
    cases e
    exact ⟨Nat.le_refl _, Nat.le_refl _⟩
  case aload i =>
    obtain ⟨x, hk, e⟩ := rx_la_e hop
    cases e
    exact ⟨Nat.le_refl _, Nat.le_refl _⟩
  case istore_n k =>
    obtain ⟨x, t, rfl, hi, e⟩ := rx_si_e hop
    cases e
    exact ⟨Nat.le_refl _, Nat.le_refl _⟩
  case istore i =>
    obtain ⟨x, t, rfl, hi, e⟩ := rx_si_e hop
    cases e
    exact ⟨Nat.le_refl _, Nat.le_refl _⟩
  case lstore_n k =>
    obtain ⟨x, t, rfl, hi, e⟩ := rx_sl_e hop
    cases e
    exact ⟨Nat.le_refl _, Nat.le_refl _⟩
  case lstore i =>
    obtain ⟨x, t, rfl, hi, e⟩ := rx_sl_e hop
    cases e
    exact ⟨Nat.le_refl _, Nat.le_refl _⟩
  case astore_n k =>
    obtain ⟨x, t, rfl, hi, e⟩ := rx_sa_e hop
    cases e
    exact ⟨Nat.le_refl _, Nat.le_refl _⟩
  case astore i =>
    obtain ⟨x, t, rfl, hi, e⟩ := rx_sa_e hop
    cases e
    exact ⟨Nat.le_refl _, Nat.le_refl _⟩
  case iinc i n =>
    obtain ⟨x, hk, hi, e⟩ := rx_in_e hop
    cases e
    exact ⟨Nat.le_refl _, Nat.le_refl _⟩
  case iadd =>
    obtain ⟨x, y, t, rfl, e⟩ := rx_2i_e hop
    cases e
    exact ⟨Nat.le_refl _, Nat.le_refl _⟩
  case isub =>
    obtain ⟨x, y, t, rfl, e⟩ := rx_2i_e hop
    cases e
    exact ⟨Nat.le_refl _, Nat.le_refl _⟩
  case imul =>
    obtain ⟨x, y, t, rfl, e⟩ := rx_2i_e hop
    cases e
    exact ⟨Nat.le_refl _, Nat.le_refl _⟩
  case iand =>
    obtain ⟨x, y, t, rfl, e⟩ := rx_2i_e hop
    cases e
    exact ⟨Nat.le_refl _, Nat.le_refl _⟩
  case ior =>
    obtain ⟨x, y, t, rfl, e⟩ := rx_2i_e hop
    cases e
    exact ⟨Nat.le_refl _, Nat.le_refl _⟩
  case ixor =>
    obtain ⟨x, y, t, rfl, e⟩ := rx_2i_e hop
    cases e
    exact ⟨Nat.le_refl _, Nat.le_refl _⟩
  case ishl =>
    obtain ⟨x, y, t, rfl, e⟩ := rx_2i_e hop
    cases e
    exact ⟨Nat.le_refl _, Nat.le_refl _⟩
  case ishr =>
    obtain ⟨x, y, t, rfl, e⟩ := rx_2i_e hop
    cases e
    exact ⟨Nat.le_refl _, Nat.le_refl _⟩
  case iushr =>
    obtain ⟨x, y, t, rfl, e⟩ := rx_2i_e hop
    cases e
    exact ⟨Nat.le_refl _, Nat.le_refl _⟩
  case ladd =>
    obtain ⟨x, y, t, rfl, e⟩ := rx_2l_e hop
    cases e
    exact ⟨Nat.le_refl _, Nat.le_refl _⟩
  case lsub =>
    obtain ⟨x, y, t, rfl, e⟩ := rx_2l_e hop
    cases e
    exact ⟨Nat.le_refl _, Nat.le_refl _⟩
  case lmul =>
    obtain ⟨x, y, t, rfl, e⟩ := rx_2l_e hop
    cases e
    exact ⟨Nat.le_refl _, Nat.le_refl _⟩
  case land =>
    obtain ⟨x, y, t, rfl, e⟩ := rx_2l_e hop
    cases e
    exact ⟨Nat.le_refl _, Nat.le_refl _⟩
  case lor =>
    obtain ⟨x, y, t, rfl, e⟩ := rx_2l_e hop
    cases e
    exact ⟨Nat.le_refl _, Nat.le_refl _⟩
  case lxor =>
    obtain ⟨x, y, t, rfl, e⟩ := rx_2l_e hop
    cases e
    exact ⟨Nat.le_refl _, Nat.le_refl _⟩
  case idiv =>
    obtain ⟨x, y, t, rfl, h0, e⟩ := rx_dv_e hop
    cases e
    exact ⟨Nat.le_refl _, Nat.le_refl _⟩
  case irem =>
    obtain ⟨x, y, t, rfl, h0, e⟩ := rx_dv_e hop
    cases e
    exact ⟨Nat.le_refl _, Nat.le_refl _⟩
  case ldiv =>
    obtain ⟨x, y, t, rfl, h0, e⟩ := rx_dl_e hop
    cases e
    exact ⟨Nat.le_refl _, Nat.le_refl _⟩
  case lrem =>
    obtain ⟨x, y, t, rfl, h0, e⟩ := rx_dl_e hop
    cases e
    exact ⟨Nat.le_refl _, Nat.le_refl _⟩
  case ineg =>
    obtain ⟨x, t, rfl, e⟩ := rx_1i_e hop
    cases e
    exact ⟨Nat.le_refl _, Nat.le_refl _⟩
  case i2l =>
    obtain ⟨x, t, rfl, e⟩ := rx_1i_e hop
    cases e
    exact ⟨Nat.le_refl _, Nat.le_refl _⟩
  case lneg =>
    obtain ⟨x, t, rfl, e⟩ := rx_1l_e hop
    cases e
    exact ⟨Nat.le_refl _, Nat.le_refl _⟩
  case l2i =>
    obtain ⟨x, t, rfl, e⟩ := rx_1l_e hop
    cases e
    exact ⟨Nat.le_refl _, Nat.le_refl _⟩
  case lushr =>
    obtain ⟨x, y, t, rfl, e⟩ := rx_us_e hop
    cases e
    exact ⟨Nat.le_refl _, Nat.le_refl _⟩
  case lcmp =>
    obtain ⟨x, y, t, rfl, e⟩ := rx_cm_e hop
    cases e
    exact ⟨Nat.le_refl _, Nat.le_refl _⟩
  case dup =>
    obtain ⟨a, t, rfl, h1, e⟩ := rx_d0_e hop
    cases e
    exact ⟨Nat.le_refl _, Nat.le_refl _⟩
  case pop =>
    obtain ⟨a, t, rfl, h1, e⟩ := rx_pp_e hop
    cases e
    exact ⟨Nat.le_refl _, Nat.le_refl _⟩
  case dup_x1 =>
    obtain ⟨a, b, t, rfl, h1, h2, e⟩ := rx_d1_e hop
    cases e
    exact ⟨Nat.le_refl _, Nat.le_refl _⟩
  case dup_x2 =>
    obtain ⟨a, b, d9, t, rfl, h1, h2, h3, e⟩ := rx_d2_e hop
    cases e
    exact ⟨Nat.le_refl _, Nat.le_refl _⟩
  case dup2 =>
    obtain ⟨a, b, t, rfl, h1, h2, e⟩ := rx_dd_e hop
    cases e
    exact ⟨Nat.le_refl _, Nat.le_refl _⟩
  case ifCond cond off =>
    obtain ⟨x, t, rfl, g, hg, ⟨hc, e⟩ | ⟨hc, e⟩⟩ := rx_b1_e hop
    · cases e; exact ⟨Nat.le_refl _, Nat.le_refl _⟩
    · cases e; exact ⟨Nat.le_refl _, Nat.le_refl _⟩
  case if_icmp cond off =>
    obtain ⟨x, y, t, rfl, g, hg, ⟨hc, e⟩ | ⟨hc, e⟩⟩ := rx_b2_e hop
    · cases e; exact ⟨Nat.le_refl _, Nat.le_refl _⟩
    · cases e; exact ⟨Nat.le_refl _, Nat.le_refl _⟩
  case goto off =>
    obtain ⟨g, hg, e⟩ := rx_jp_e hop
    cases e
    exact ⟨Nat.le_refl _, Nat.le_refl _⟩
  case tableswitch dflt lo hi offs =>
    obtain ⟨x, t, rfl, ⟨h1, g, hg, e⟩ | ⟨h1, h2, off, g, h3, hg, e⟩⟩ := rx_ts_e hop
    · cases e; exact ⟨Nat.le_refl _, Nat.le_refl _⟩
    · cases e; exact ⟨Nat.le_refl _, Nat.le_refl _⟩
  case lookupswitch dflt ps =>
    obtain ⟨x, t, rfl, h1, g, hg, e⟩ := rx_ls_e hop
    cases e
    exact ⟨Nat.le_refl _, Nat.le_refl _⟩
  case iaload =>
    obtain ⟨i, a, t, q, rfl, h1, h2, e⟩ := rx_ial_e hop
    cases e
    exact ⟨Nat.le_refl _, Nat.le_refl _⟩
  case laload =>
    obtain ⟨i, a, t, q, rfl, h1, h2, e⟩ := rx_lal_e hop
    cases e
    exact ⟨Nat.le_refl _, Nat.le_refl _⟩
  case baload =>
    obtain ⟨i, a, t, q, rfl, h1, h2, e⟩ := rx_zal_e hop
    cases e
    exact ⟨Nat.le_refl _, Nat.le_refl _⟩
  case aaload =>
    obtain ⟨i, a, t, q, k, rfl, h1, h2, h3, e⟩ := rx_qal_e hop
    cases e
    exact ⟨Nat.le_refl _, Nat.le_refl _⟩
  case iastore =>
    obtain ⟨x, i, k, t, n, f, rfl, h1, h2, h3, e⟩ := rx_ias_e hop
    cases e
    exact ⟨by rw [List.length_set]; exact Nat.le_refl _, Nat.le_of_eq (rx_sz_set h k _ _ h1 (by rfl)).symm⟩
  case lastore =>
    obtain ⟨x, i, k, t, n, f, rfl, h1, h2, h3, e⟩ := rx_las_e hop
    cases e
    exact ⟨by rw [List.length_set]; exact Nat.le_refl _, Nat.le_of_eq (rx_sz_set h k _ _ h1 (by rfl)).symm⟩
  case bastore =>
    obtain ⟨x, i, k, t, n, f, rfl, h1, h2, h3, e⟩ := rx_zas_e hop
    cases e
    exact ⟨by rw [List.length_set]; exact Nat.le_refl _, Nat.le_of_eq (rx_sz_set h k _ _ h1 (by rfl)).symm⟩
  case arraylength =>
    obtain ⟨a, t, n, rfl, h1, e⟩ := rx_al_e hop
    cases e
    exact ⟨Nat.le_refl _, Nat.le_refl _⟩
  case getfield ix =>
    obtain ⟨k, t, q, fs, v, rfl, h1, h2, h3, e⟩ := rx_gf_e hop
    cases e
    exact ⟨Nat.le_refl _, Nat.le_refl _⟩
  case putfield ix =>
    obtain ⟨v, k, t, q, fs, rfl, h1, h2, h3, h4, h5, h6, e⟩ := rx_pf_e hop
    cases e
    exact ⟨by rw [List.length_set]; exact Nat.le_refl _, Nat.le_of_eq (rx_sz_set h k _ _ h2 (by simp [rx_sz1])).symm⟩
  case new ix =>
    obtain ⟨ci, fs, h1, h2, e⟩ := rx_nw_e hop
    cases e
    exact ⟨by simp, by rw [rx_sz_app]; exact Nat.le_add_right _ _⟩
  case newarray a =>
    obtain ⟨q, n, t, h1, rfl, h2, h3, e⟩ := rx_na_e hop
    cases e
    exact ⟨by simp, by rw [rx_sz_app]; exact Nat.le_add_right _ _⟩
  case multianewarray ix n =>
    obtain ⟨k, n, t, ho, rfl, rfl, hn0, hk0, hn1, hk1, e⟩ := rx_mn_e hop
    cases e
    exact ⟨by simp, by rw [rx_sz_app]; exact Nat.le_add_right _ _⟩
  case invokespecial ix =>
    obtain ⟨q, h1, h2, h3⟩ := rx_is_e hop
    obtain ⟨a, t, rfl, h4, h5, e⟩ := rx_oi_e h3
    cases e
    exact ⟨Nat.le_refl _, Nat.le_refl _⟩
  case invokestatic ix =>
    obtain ⟨q, h1, ⟨h2, h3⟩ | ⟨h2, h3⟩ | ⟨h2, h3⟩⟩ := rx_it_e hop
    · obtain ⟨n, dp, sp, ka, kb, m0, m1, f, g, t, rfl, w1, w2, w3, w4, w5, w6, w7, w8, w9, w10, e⟩ := rx_ac_e h3
      cases e
      exact ⟨by rw [List.length_set]; exact Nat.le_refl _, Nat.le_of_eq (rx_sz_set h ka _ _ w2 (by rfl)).symm⟩
    · obtain ⟨x, y, t, rfl, w1, w2, e⟩ := rx_m4_e h3
      cases e; exact ⟨Nat.le_refl _, Nat.le_refl _⟩
    · obtain ⟨x, y, t, rfl, w1, w2, e⟩ := rx_m5_e h3
      cases e; exact ⟨Nat.le_refl _, Nat.le_refl _⟩
  all_goals exact absurd hop (fun z => by cases z)
end
section
/-- a run: fuel, calls that may stand open, words of locals that are left, method, pc, locals, stack, cells -/
def rx_run (cds : List (List Value)) (ms : List rx_M) (lk : rx_Lk) (rt : rx_R) : Nat → Nat → Nat → Nat → Nat → rx_L → List Value → rx_H → Option (Option Value × rx_H)
  | 0, _, _, _, _, _, _, _ => none
  | f + 1, d, w, mi, pc, lv, st, h => match ms[mi]? with
    | none => none
    | some M => match rx_f2 (rx_Mt M) pc with
      | none => none
      | some ins => match rx_ret M ins st with
        | some v => some (v, h)
        | none => match rx_call ms lk M ins st h with
          | some q => match d with
            | 0 => none
            | d' + 1 => match ms[q.1]? with
              | none => none
              | some N => if 19 + rx_Ml N ≤ w then match rx_run cds ms lk rt f d' (w - (19 + rx_Ml N)) q.1 0 (lv_args 0 q.2.1) [] h with
                  | none => none
                  | some z => rx_run cds ms lk rt f (d' + 1) w mi (pc + 3) lv (z.1.toList ++ q.2.2) z.2
                else none
          | none => match rx_opI cds lk rt d w M ins pc lv st h with
            | none => none
            | some q => rx_run cds ms lk rt f d w mi q.1 q.2.1 q.2.2.1 q.2.2.2
section RXR
variable {cds : List (List Value)} {ms : List rx_M} {lk : rx_Lk} {rt : rx_R}
theorem rx_run_e {f d w mi pc : Nat} {lv : rx_L} {st : List Value} {h : rx_H} {v : Option Value} {h' : rx_H} (e : rx_run cds ms lk rt (f + 1) d w mi pc lv st h = some (v, h')) :
    ∃ M ins, ms[mi]? = some M ∧ rx_f2 (rx_Mt M) pc = some ins ∧ ((rx_ret M ins st = some v ∧ h' = h) ∨
      (∃ j as rest N d' v1 h1, d = d' + 1 ∧ rx_call ms lk M ins st h = some (j, as, rest) ∧ ms[j]? = some N ∧ 19 + rx_Ml N ≤ w ∧ rx_run cds ms lk rt f d' (w - (19 + rx_Ml N)) j 0 (lv_args 0 as) [] h = some (v1, h1) ∧ rx_run cds ms lk rt f d w mi (pc + 3) lv (v1.toList ++ rest) h1 = some (v, h')) ∨
      (∃ pc' lv' st' h1, rx_opI cds lk rt d w M ins pc lv st h = some (pc', lv', st', h1) ∧ rx_run cds ms lk rt f d w mi pc' lv' st' h1 = some (v, h'))) := by
  rw [rx_run] at e
  split at e
  · cases e
  · next M hM =>
    split at e
    · cases e
    · next ins hi =>
      refine ⟨M, ins, hM, hi, ?_⟩
      split at e
      · next v0 hr =>
        cases e
        exact Or.inl ⟨hr, rfl⟩
      · split at e
        · next q hq =>
          obtain ⟨j, as, rest⟩ := q
          split at e
          · cases e
          · next d' =>
            split at e
            · cases e
            · next N hN =>
              split at e
              · next hw =>
                split at e
                · cases e
                · next z hz =>
                  obtain ⟨v1, h1⟩ := z
                  exact Or.inr (Or.inl ⟨j, as, rest, N, d', v1, h1, rfl, hq, hN, hw, hz, e⟩)
              · cases e
        · split at e
          · cases e
          · next q hq =>
            obtain ⟨pc', lv', st', h1⟩ := q
            exact Or.inr (Or.inr ⟨pc', lv', st', h1, hq, e⟩)
theorem rx_run_grow : ∀ (f d w mi pc : Nat) (lv : rx_L) (st : List Value) (h : rx_H) (v : Option Value) (h' : rx_H), rx_run cds ms lk rt f d w mi pc lv st h = some (v, h') → h.length ≤ h'.length ∧ rx_sz h ≤ rx_sz h'
  | 0, _, _, _, _, _, _, _, _, _, e => by rw [rx_run] at e; cases e
  | f + 1, d, w, mi, pc, lv, st, h, v, h', e => by
    obtain ⟨M, ins, -, -, ⟨-, rfl⟩ | ⟨j, as, rest, N, d', v1, h1, -, -, -, -, e1, e2⟩ | ⟨pc', lv', st', h1, e1, e2⟩⟩ := rx_run_e e
    · exact ⟨Nat.le_refl _, Nat.le_refl _⟩
    · have a1 := rx_run_grow _ _ _ _ _ _ _ _ _ _ e1
      have a2 := rx_run_grow _ _ _ _ _ _ _ _ _ _ e2
      exact ⟨Nat.le_trans a1.1 a2.1, Nat.le_trans a1.2 a2.2⟩
    · have a1 := rx_op_grow e1
      have a2 := rx_run_grow _ _ _ _ _ _ _ _ _ _ e2
      exact ⟨Nat.le_trans a1.1 a2.1, Nat.le_trans a1.2 a2.2⟩
end RXR
end
section
theorem rx_args_c (ad : Nat → Nat) : ∀ (as : List Value) (k : Nat), lv_args k (as.map (rx_cv ad)) = rx_cl2 ad (lv_args k as)
  | [], k => by simp [lv_args, rx_cl2]
  | v :: as, k => by
    have h1 := rx_args_c ad as
    simp only [List.map_cons, lv_args, rx_cat, h1, rx_cl2, List.map_cons]
theorem rx_sl_len (ad : Nat → Nat) : ∀ as : List Value, (lg_sl (as.map (rx_cv ad))).length = (lg_sl as).length
  | [] => rfl
  | v :: as => by
    have h1 := rx_sl_len ad as
    simp only [lg_sl, List.map_cons, List.flatMap_cons, List.length_append, rx_cat] at h1 ⊢
    rw [h1]
    by_cases h : v.category = 2
    · simp [h]
    · simp [h]
/-- what the methods' rows must be: the decoded instructions, the owner's name; for a method that a link names also its words -/
def rx_GD (own : Nat → String) (ms : List rx_M) : Prop := ∀ (j : Nat) (M : rx_M), ms[j]? = some M → own (rx_Mo M) = (rx_My M).cls ∧ ∀ c ∈ rx_Mt M, ∀ q ∈ c.2, decode (rx_Mb M) q.1 = .ok q.2 ∧ rx_lc q.2.1 q.2.2 = true
def rx_GK (all nst : List Cond) (cl : List vw_C) (own : Nat → String) (ms : List rx_M) (lk : rx_Lk) : Prop := ∀ (o ix : Nat) (q : Nat × Nat), ((o, ix), q) ∈ lk.2.2.1 → ∀ M, ms[q.1]? = some M → rx_GM all cl M ∧ rx_GL all nst (own o) ix (rx_My M)
def rx_GW (all nst : List Cond) : Prop := (∀ w ∈ all, (w.onTables && w.keeps) = true ∨ ∃ ty, w = .arrayClass ty) ∧ (∀ w ∈ nst, rx_isN w = true) ∧ (∀ w ∈ nst, rx_isN w = true)
section RXT
variable {l : Launch} {all nst : List Cond} {cl : List vw_C} {cds : List (List Value)} {tys : List FieldType} {sts : List (String × String × String × Nat)} {own : Nat → String} {ms : List rx_M} {lk : rx_Lk} {D : va_G} {dT : Nat → ClassId} {ro : Nat → Nat} {rt : rx_R} {base : Nat}
theorem rx_fetch {M : rx_M} {j pc : Nat} {ins : Instr} (GD : rx_GD own ms) (hM : ms[j]? = some M) (h : rx_f2 (rx_Mt M) pc = some ins) : rx_dec (rx_Mb M) pc ins := by
  obtain ⟨c, hc, n, hn⟩ := rx_f2_e h
  obtain ⟨h1, h2⟩ := (GD j M hM).2 c hc _ hn
  exact ⟨n, h1, h2⟩
/-- the machine does what a run of this fuel does -/
def rx_Sd (l : Launch) (all nst : List Cond) (cl : List vw_C) (cds : List (List Value)) (tys : List FieldType) (sts : List (String × String × String × Nat)) (own : Nat → String) (ms : List rx_M) (lk : rx_Lk) (D : va_G) (dT : Nat → ClassId) (ro : Nat → Nat) (rt : rx_R) (base f : Nat) : Prop :=
  ∀ (d w mi pc : Nat) (lv : rx_L) (st : List Value) (h : rx_H) (v : Option Value) (h' : rx_H), rx_run cds ms lk rt f d w mi pc lv st h = some (v, h') → ∀ M : rx_M, ms[mi]? = some M →
  ∀ (p : Program) (e : Env) (R : Room) (s : State) (m : MethodId) (args : Array Value) (below : List Frame) (meth : Method) (c : Code) (Q : State → Prop) (n0 z0 : Nat),
    p.tables.exec = Jvm.exec → c.code = rx_Mb M → c.maxLocals = rx_Ml M → (∀ w ∈ all, w.before args s = true) → s.vm.findClass (rx_My M).cls = some m.cls → rx_Kx cl tys sts nst D dT ro rt base s s.heap → (rx_Mk M = 2 → meth.name = "<init>") → (d ≤ R.frames ∧ w ≤ R.locals) →
    s.heap.size = base + n0 → h'.length ≤ n0 + R.cells → rx_sz h' ≤ z0 + R.slots →
    (∀ (pc9 : Nat) (ins9 : Instr) (lv9 : rx_L) (st9 : List Value), rx_dec (rx_Mb M) pc9 ins9 → rx_ret M ins9 st9 = some v → rx_At p l e R s m args below meth c Q cl D dT ro base n0 z0 (rx_Ml M) pc9 lv9 st9 h') →
    rx_At p l e R s m args below meth c Q cl D dT ro base n0 z0 (rx_Ml M) pc lv st h
set_option maxHeartbeats 4000000 in
theorem rx_met_of {f : Nat} (hSd : rx_Sd l all nst cl cds tys sts own ms lk D dT ro rt base f) {d w j : Nat} {as : List Value} {h : rx_H} {v : Option Value} {h' : rx_H} {M : rx_M} (hM : ms[j]? = some M) (GM : rx_GM all cl M) (hlen : (lg_sl as).length ≤ rx_Ml M) (hrun : rx_run cds ms lk rt f d w j 0 (lv_args 0 as) [] h = some (v, h')) :
    rx_Met l all cl tys sts nst D dT ro rt base M d w as h v h' := by
  obtain ⟨g1, g2, g3, g4, g6, g7, g8, g9⟩ := GM
  have hgr := rx_run_grow _ _ _ _ _ _ _ _ _ _ hrun
  refine Met.ofW (cc := rx_Mb M) (maxL := rx_Ml M) (ret := rx_Mr M) g6 rfl ?_
  intro p e s m args below meth c s₁ B hml hv
  obtain ⟨rfl, hW, hKx⟩ := hv
  have hx := B.exec
  have hb := B.bytes
  have hr := B.returns
  have hts0 := atoms_spec (ws := rx_ws all M) B.pre
  have hts : ∀ w ∈ all, w.before (as.map (rx_cv (rx_ad ro base))).toArray s = true := fun w hw => hts0 w (List.mem_cons_of_mem _ hw)
  have hown : s.vm.findClass (rx_My M).cls = some m.cls := findClass_of_methodNamed B.named
  have hlocks := B.notSynchronized
  have hnm : meth.name = (rx_My M).name := (name_of_methodNamed B.named B.method).1
  have hl := lv_entry (as.map (rx_cv (rx_ad ro base))) (n := rx_Ml M) (by rw [rx_sl_len]; exact hlen)
  rw [lg_entry_eq]
  generalize (lg_sl (as.map (rx_cv (rx_ad ro base))) ++ List.replicate (rx_Ml M - (lg_sl (as.map (rx_cv (rx_ad ro base)))).length) Slot.unset).toArray = ls at hl ⊢
  rw [rx_args_c] at hl
  have key := hSd d w j 0 (lv_args 0 as) [] h v h' hrun M hM p e (headSpec (rx_ws all M) (rx_rm d w (h'.length - h.length) (rx_sz h' - rx_sz h))).room s m (as.map (rx_cv (rx_ad ro base))).toArray below meth c
    (MQ below (rx_Qc cl D dT ro base v h') (as.map (rx_cv (rx_ad ro base))).toArray s (h'.length - h.length) (rx_sz h' - rx_sz h) (fun q => base ≤ q)) h.length (rx_sz h) hx hb hml hts hown hKx (fun hk => by rw [hnm]; exact (g9 hk).2.1) ⟨Nat.le_refl _, Nat.le_refl _⟩ hW.1
    (show h'.length ≤ h.length + (h'.length - h.length) by omega) (show rx_sz h' ≤ rx_sz h + (rx_sz h' - rx_sz h) by omega) ?_
  · have h1 := key s.heap [] ls (Nat.le_refl _) (Nat.le_refl _) hW va_S.rf hl
    rw [Nat.sub_self, Nat.sub_self] at h1
    exact h1
  · intro pc9 ins9 lv9 st9 hdg hret H locs ls9 hn hz hW9 hS9 hl9
    have hq : ∀ (v9 : Option Value), v = v9 → ∀ t : State, t.heap = H → s.WarmedH t.vm → rx_Qc cl D dT ro base v h' (as.map (rx_cv (rx_ad ro base))).toArray s (.returned (v9.map (rx_cv (rx_ad ro base)))) t := fun v9 e9 t ht _ => ⟨by rw [e9], by rw [ht]; exact hW9, fun q hq => by rw [ht]; exact hS9.2.1 q (by rw [hW.1]; omega) (Nat.not_le.mpr hq)⟩
    rcases rx_ret_e hret with ⟨x, rfl, e1, rfl, rfl⟩ | ⟨x, rfl, e1, rfl, hx01, rfl⟩ | ⟨x, rfl, e1, rfl, rfl⟩ | ⟨rfl, e1, rfl, rfl⟩
    · exact W.iret (v := x) hx hb (hr.trans e1) (hq _ rfl) hS9.2.2 (rx_dec_n hdg rfl) hlocks
    · refine W.zret (v := x) (ty := .boolean) hx hb (hr.trans e1) ?_ (hq _ rfl) hS9.2.2 (rx_dec_n hdg rfl) hlocks
      rcases hx01 with rfl | rfl
      · exact (by decide +kernel : narrow .boolean (.int 0) = .int 0)
      · exact (by decide +kernel : narrow .boolean (.int 1) = .int 1)
    · exact W.lret (v := x) hx hb (hr.trans e1) (hq _ rfl) hS9.2.2 (rx_dec_n hdg rfl) hlocks
    · exact W.vret hx hb (hr.trans e1) (hq _ rfl) hS9.2.2 (rx_dec_n hdg rfl) hlocks
set_option maxHeartbeats 4000000 in
theorem rx_sound (G : rx_G all nst cl cds tys sts own lk) (GD : rx_GD own ms) (GK : rx_GK all nst cl own ms lk) (GW : rx_GW all nst) : ∀ f : Nat, rx_Sd l all nst cl cds tys sts own ms lk D dT ro rt base f
  | 0 => fun d w mi pc lv st h v h' hrun => by rw [rx_run] at hrun; cases hrun
  | f + 1 => by
    have ih := rx_sound G GD GK GW f
    intro d w mi pc lv st h v h' hrun M hM p e R s m args below meth c Q n0 z0 hx hb hml hts hown hK hini hR hs0 hRc hRs hret
    obtain ⟨M', ins, hM', hf, hcase⟩ := rx_run_e hrun
    cases hM.symm.trans hM'
    have hdg := rx_fetch GD hM hf
    have hown' : s.vm.findClass (own (rx_Mo M)) = some m.cls := by rw [(GD mi M hM).1]; exact hown
    rcases hcase with ⟨hr, rfl⟩ | ⟨j, as, rest, N, d', v1, h1, rfl, hc, hN, hw, e1, e2⟩ | ⟨pc', lv', st', h1, e1, e2⟩
    · exact hret pc ins lv st hdg hr
    · have a1 := rx_run_grow _ _ _ _ _ _ _ _ _ _ e1
      have a2 := rx_run_grow _ _ _ _ _ _ _ _ _ _ e2
      have K := ih _ _ _ _ _ _ _ _ _ e2 M hM p e R s m args below meth c Q n0 z0 hx hb hml hts hown hK hini hR hs0 hRc hRs hret
      obtain ⟨ix, k, hiv, hkind⟩ := rx_call_e hc
      obtain ⟨nest, N', ho, hN', hkk, han, hst, hrs, hsl, hrcv⟩ := rx_iv_e hiv
      cases hN.symm.trans hN'
      obtain ⟨GMj, GLj⟩ := GK _ _ _ (rx_luv_e ho) N hN
      have hMet : rx_Met l all cl tys sts nst D dT ro rt base N d' (w - (19 + rx_Ml N)) as h v1 h1 := rx_met_of ih hN GMj hsl e1
      have hR' : d' + 1 ≤ R.frames ∧ w - (19 + rx_Ml N) + (19 + rx_Ml N) ≤ R.locals := ⟨hR.1, by omega⟩
      subst hst
      rcases hkind with ⟨rfl, rfl⟩ | ⟨rfl, rfl⟩ | ⟨rfl, rfl⟩
      · exact rx_h_callS hx hb hml hts hown' hK GW.1 GW.2.1 GW.2.2 hs0 GMj GLj hkk hMet a1.1 a1.2 han hrs hR' (by omega) (by omega) (rx_dec_n hdg rfl) K
      · cases as with
        | nil => simp [rx_rcv] at hrcv
        | cons b as =>
          cases b with
          | ref o =>
            have hrcv : (match rx_ro h o with | some q => Nat.beq q.1 (rx_Mc N) | none => false) = true := hrcv
            cases hq9 : rx_ro h o with
            | none => rw [hq9] at hrcv; cases hrcv
            | some q9 =>
              rw [hq9] at hrcv
              obtain ⟨o9, rfl, g1, g2⟩ := rx_ro_e hq9
              obtain ⟨q1, q2⟩ := q9
              have e9 : q1 = rx_Mc N := Nat.eq_of_beq_eq_true hrcv
              subst e9
              exact rx_h_callV hx hb hml hts hown' hK GW.1 GW.2.1 GW.2.2 hs0 GMj GLj hkk g1 hMet a1.1 a1.2 (by simpa [rx_an] using han) hrs hR' (by omega) (by omega) (rx_dec_n hdg rfl) K
          | _ => simp [rx_rcv] at hrcv
      · cases as with
        | nil => simp [rx_rcv] at hrcv
        | cons b as =>
          cases b with
          | ref o => exact rx_h_callI hx hb hml hts hown' hK GW.1 GW.2.1 GW.2.2 hs0 GMj GLj hkk hMet a1.1 a1.2 (by simpa [rx_an] using han) hrs hR' (by omega) (by omega) (rx_dec_n hdg rfl) K
          | _ => simp [rx_rcv] at hrcv
    · have a2 := rx_run_grow _ _ _ _ _ _ _ _ _ _ e2
      have K := ih _ _ _ _ _ _ _ _ _ e2 M hM p e R s m args below meth c Q n0 z0 hx hb hml hts hown hK hini hR hs0 hRc hRs hret
      exact rx_step hx hb hml hts hown' hK hini hR G e1 hdg (by omega) (by omega) K
end RXT
end
section
def rx_all : List Cond := lw_tbl.filter goodWord
def rx_nst : List Cond := tables_1.filter rx_isN
theorem rx_inT {i : Nat} {w : Cond} (h : tables_1[i]? = some w) (hg : goodWord w = true) : w ∈ rx_all := List.mem_filter.mpr ⟨List.mem_append_right _ (List.mem_of_getElem? h), hg⟩
theorem rx_inS {i : Nat} {q : MethodName × Nat} (h : lw_privs[i]? = some q) : Cond.selects q.1.cls q.1 q.1 ∈ rx_all := List.mem_filter.mpr ⟨List.mem_append_left _ (List.mem_map.mpr ⟨q, List.mem_of_getElem? h, rfl⟩), rfl⟩
theorem rx_inN {i : Nat} {w : Cond} (h : tables_1[i]? = some w) (hg : rx_isN w = true) : w ∈ rx_nst := List.mem_filter.mpr ⟨List.mem_of_getElem? h, hg⟩
theorem rx_GW0 : rx_GW rx_all rx_nst := ⟨fun w h => good_of_word (List.mem_filter.mp h).2, fun w h => (List.mem_filter.mp h).2, fun w h => (List.mem_filter.mp h).2⟩
theorem rx_fc {α : Type} {P : α → Prop} {a : α} {l : List α} (h : P a) (t : ∀ e ∈ l, P e) : ∀ e ∈ a :: l, P e := List.forall_mem_cons.mpr ⟨h, t⟩
theorem rx_fn {α : Type} {P : α → Prop} : ∀ e ∈ ([] : List α), P e := fun _ h => absurd h List.not_mem_nil
def rx_T0 : u_T := fun k => match k with
  | 0 => ("AngleChains", "figure", "LAngleChains$Figure;", true)
  | 1 => ("AngleChains", "hypotheses", "[I", true)
  | 2 => ("AngleChains", "deduction", "LAngleChains$Deduction;", true)
  | 3 => ("AngleChains", "hypothesisCount", "I", false)
  | 4 => ("AngleChains", "onBits", "I", false)
  | 5 => ("AngleChains", "leftBits", "I", false)
  | 6 => ("AngleChains", "draft", "I", false)
  | _ => ("AngleChains", "draftCount", "I", false)
def rx_y0 : Nat → FieldType := fun k => match k with
  | 0 => .object "AngleChains$Figure"
  | 1 => .array (.int)
  | 2 => .object "AngleChains$Deduction"
  | 3 => .int
  | 4 => .int
  | 5 => .int
  | 6 => .int
  | _ => .int
def rx_T1 : u_T := fun k => match k with
  | 0 => ("AngleChains$Figure", "xs", "[I", true)
  | 1 => ("AngleChains$Figure", "ys", "[I", true)
  | _ => ("AngleChains$Figure", "size", "I", false)
def rx_y1 : Nat → FieldType := fun k => match k with
  | 0 => .array (.int)
  | 1 => .array (.int)
  | _ => .int
def rx_T2 : u_T := fun k => match k with
  | 0 => ("AngleChains$Deduction", "figure", "LAngleChains$Figure;", true)
  | 1 => ("AngleChains$Deduction", "hypotheses", "[I", true)
  | 2 => ("AngleChains$Deduction", "cases", "LAngleChains$Cases;", true)
  | 3 => ("AngleChains$Deduction", "rows", "LAngleChains$Rows;", true)
  | 4 => ("AngleChains$Deduction", "lineOf", "[I", true)
  | 5 => ("AngleChains$Deduction", "columnOf", "[I", true)
  | 6 => ("AngleChains$Deduction", "lengthOf", "[I", true)
  | 7 => ("AngleChains$Deduction", "circleOf", "[I", true)
  | 8 => ("AngleChains$Deduction", "open", "[I", true)
  | 9 => ("AngleChains$Deduction", "openCount", "I", false)
  | 10 => ("AngleChains$Deduction", "hasJoined", "Z", false)
  | 11 => ("AngleChains$Deduction", "closedSize", "I", false)
  | _ => ("AngleChains$Deduction", "closedBits", "I", false)
def rx_y2 : Nat → FieldType := fun k => match k with
  | 0 => .object "AngleChains$Figure"
  | 1 => .array (.int)
  | 2 => .object "AngleChains$Cases"
  | 3 => .object "AngleChains$Rows"
  | 4 => .array (.int)
  | 5 => .array (.int)
  | 6 => .array (.int)
  | 7 => .array (.int)
  | 8 => .array (.int)
  | 9 => .int
  | 10 => .boolean
  | 11 => .int
  | _ => .int
def rx_T3 : u_T := fun k => match k with
  | 0 => ("AngleChains$Rows", "basis", "[[J", true)
  | 1 => ("AngleChains$Rows", "row", "[J", true)
  | 2 => ("AngleChains$Rows", "rank", "I", false)
  | _ => ("AngleChains$Rows", "hasGrown", "Z", false)
def rx_y3 : Nat → FieldType := fun k => match k with
  | 0 => .array (.array (.long))
  | 1 => .array (.long)
  | 2 => .int
  | _ => .boolean
def rx_T4 : u_T := fun k => match k with
  | 0 => ("AngleChains$Cases", "figure", "LAngleChains$Figure;", true)
  | 1 => ("AngleChains$Cases", "packed", "[I", true)
  | _ => ("AngleChains$Cases", "count", "I", false)
def rx_y4 : Nat → FieldType := fun k => match k with
  | 0 => .object "AngleChains$Figure"
  | 1 => .array (.int)
  | _ => .int
def rx_T5 : u_T := fun k => match k with
  | 0 => ("AngleChainsModel", "thrown", "I", false)
  | 1 => ("AngleChainsModel", "n", "I", false)
  | 2 => ("AngleChainsModel", "px", "[I", true)
  | 3 => ("AngleChainsModel", "py", "[I", true)
  | 4 => ("AngleChainsModel", "draft", "[I", true)
  | 5 => ("AngleChainsModel", "drafted", "I", false)
  | 6 => ("AngleChainsModel", "facts", "I", false)
  | 7 => ("AngleChainsModel", "factKind", "[I", true)
  | 8 => ("AngleChainsModel", "factPoint", "[I", true)
  | 9 => ("AngleChainsModel", "isOn", "[Z", true)
  | 10 => ("AngleChainsModel", "plays", "[Z", true)
  | 11 => ("AngleChainsModel", "needed", "[I", true)
  | 12 => ("AngleChainsModel", "needs", "I", false)
  | 13 => ("AngleChainsModel", "fresh", "Z", false)
  | 14 => ("AngleChainsModel", "line", "[I", true)
  | 15 => ("AngleChainsModel", "circle", "[I", true)
  | 16 => ("AngleChainsModel", "same", "[I", true)
  | 17 => ("AngleChainsModel", "news", "Z", false)
  | 18 => ("AngleChainsModel", "column", "[I", true)
  | 19 => ("AngleChainsModel", "columns", "I", false)
  | 20 => ("AngleChainsModel", "moved", "Z", false)
  | 21 => ("AngleChainsModel", "steps", "[J", true)
  | 22 => ("AngleChainsModel", "hasStep", "[Z", true)
  | 23 => ("AngleChainsModel", "row", "[J", true)
  | 24 => ("AngleChainsModel", "other", "[J", true)
  | 25 => ("AngleChainsModel", "oldSteps", "[J", true)
  | 26 => ("AngleChainsModel", "hadStep", "[Z", true)
  | 27 => ("AngleChainsModel", "oldColumn", "[I", true)
  | 28 => ("AngleChainsModel", "toColumn", "[I", true)
  | 29 => ("AngleChainsModel", "reduced", "[J", true)
  | 30 => ("AngleChainsModel", "numberOf", "[I", true)
  | 31 => ("AngleChainsModel", "table", "[I", true)
  | 32 => ("AngleChainsModel", "numbers", "I", false)
  | _ => ("AngleChainsModel", "quarter", "I", false)
def rx_y5 : Nat → FieldType := fun k => match k with
  | 0 => .int
  | 1 => .int
  | 2 => .array (.int)
  | 3 => .array (.int)
  | 4 => .array (.int)
  | 5 => .int
  | 6 => .int
  | 7 => .array (.int)
  | 8 => .array (.int)
  | 9 => .array (.boolean)
  | 10 => .array (.boolean)
  | 11 => .array (.int)
  | 12 => .int
  | 13 => .boolean
  | 14 => .array (.int)
  | 15 => .array (.int)
  | 16 => .array (.int)
  | 17 => .boolean
  | 18 => .array (.int)
  | 19 => .int
  | 20 => .boolean
  | 21 => .array (.long)
  | 22 => .array (.boolean)
  | 23 => .array (.long)
  | 24 => .array (.long)
  | 25 => .array (.long)
  | 26 => .array (.boolean)
  | 27 => .array (.int)
  | 28 => .array (.int)
  | 29 => .array (.long)
  | 30 => .array (.int)
  | 31 => .array (.int)
  | 32 => .int
  | _ => .int
def rx_cl : List vw_C := [("AngleChains", rx_T0, 8), ("AngleChains$Figure", rx_T1, 3), ("AngleChains$Deduction", rx_T2, 13), ("AngleChains$Rows", rx_T3, 4), ("AngleChains$Cases", rx_T4, 3), ("AngleChainsModel", rx_T5, 34)]
def rx_cds : List (List Value) := [[.null, .null, .null, .int 0, .int 0, .int 0, .int 0, .int 0], [.null, .null, .int 0], [.null, .null, .null, .null, .null, .null, .null, .null, .null, .int 0, .int 0, .int 0, .int 0], [.null, .null, .int 0, .int 0], [.null, .null, .int 0], [.int 0, .int 0, .null, .null, .null, .int 0, .int 0, .null, .null, .null, .null, .null, .int 0, .int 0, .null, .null, .null, .int 0, .null, .int 0, .int 0, .null, .null, .null, .null, .null, .null, .null, .null, .null, .null, .null, .int 0, .int 0]]
def rx_tys : List FieldType := [.int, .long, .boolean, .array .long]
def rx_sts : List (String × String × String × Nat) := [("AngleChains", "POINTS_OF_KIND", "[I", 1), ("AngleChains", "PAIR_BITS", "[I", 2), ("AngleChains", "TRIPLES", "[I", 3), ("AngleChains", "PAIR_NUMBERS", "[I", 4)]
end
section
theorem rxwt_135 : (Jvm.Cond.laysFinal "AngleChains" "AngleChains" "figure" "LAngleChains$Figure;") ∈ rx_all := rx_inT (i := 135) rfl rfl
theorem rxwt_137 : (Jvm.Cond.laysFinal "AngleChains" "AngleChains" "hypotheses" "[I") ∈ rx_all := rx_inT (i := 137) rfl rfl
theorem rxwt_139 : (Jvm.Cond.laysFinal "AngleChains" "AngleChains" "deduction" "LAngleChains$Deduction;") ∈ rx_all := rx_inT (i := 139) rfl rfl
theorem rxwt_141 : (Jvm.Cond.lays "AngleChains" "AngleChains" "hypothesisCount" "I") ∈ rx_all := rx_inT (i := 141) rfl rfl
theorem rxwt_143 : (Jvm.Cond.lays "AngleChains" "AngleChains" "onBits" "I") ∈ rx_all := rx_inT (i := 143) rfl rfl
theorem rxwt_145 : (Jvm.Cond.lays "AngleChains" "AngleChains" "leftBits" "I") ∈ rx_all := rx_inT (i := 145) rfl rfl
theorem rxwt_147 : (Jvm.Cond.lays "AngleChains" "AngleChains" "draft" "I") ∈ rx_all := rx_inT (i := 147) rfl rfl
theorem rxwt_149 : (Jvm.Cond.lays "AngleChains" "AngleChains" "draftCount" "I") ∈ rx_all := rx_inT (i := 149) rfl rfl
theorem rxwt_12 : (Jvm.Cond.instantiable "AngleChains" (8 : Nat)) ∈ rx_all := rx_inT (i := 12) rfl rfl
theorem rxwt_1 : (Jvm.Cond.initialized "AngleChains") ∈ rx_all := rx_inT (i := 1) rfl rfl
theorem rxwt_31 : (Jvm.Cond.laysFinal "AngleChains$Figure" "AngleChains$Figure" "xs" "[I") ∈ rx_all := rx_inT (i := 31) rfl rfl
theorem rxwt_33 : (Jvm.Cond.laysFinal "AngleChains$Figure" "AngleChains$Figure" "ys" "[I") ∈ rx_all := rx_inT (i := 33) rfl rfl
theorem rxwt_35 : (Jvm.Cond.lays "AngleChains$Figure" "AngleChains$Figure" "size" "I") ∈ rx_all := rx_inT (i := 35) rfl rfl
theorem rxwt_20 : (Jvm.Cond.instantiable "AngleChains$Figure" (3 : Nat)) ∈ rx_all := rx_inT (i := 20) rfl rfl
theorem rxwt_2 : (Jvm.Cond.initialized "AngleChains$Figure") ∈ rx_all := rx_inT (i := 2) rfl rfl
theorem rxwt_100 : (Jvm.Cond.laysFinal "AngleChains$Deduction" "AngleChains$Deduction" "figure" "LAngleChains$Figure;") ∈ rx_all := rx_inT (i := 100) rfl rfl
theorem rxwt_102 : (Jvm.Cond.laysFinal "AngleChains$Deduction" "AngleChains$Deduction" "hypotheses" "[I") ∈ rx_all := rx_inT (i := 102) rfl rfl
theorem rxwt_104 : (Jvm.Cond.laysFinal "AngleChains$Deduction" "AngleChains$Deduction" "cases" "LAngleChains$Cases;") ∈ rx_all := rx_inT (i := 104) rfl rfl
theorem rxwt_106 : (Jvm.Cond.laysFinal "AngleChains$Deduction" "AngleChains$Deduction" "rows" "LAngleChains$Rows;") ∈ rx_all := rx_inT (i := 106) rfl rfl
theorem rxwt_108 : (Jvm.Cond.laysFinal "AngleChains$Deduction" "AngleChains$Deduction" "lineOf" "[I") ∈ rx_all := rx_inT (i := 108) rfl rfl
theorem rxwt_110 : (Jvm.Cond.laysFinal "AngleChains$Deduction" "AngleChains$Deduction" "columnOf" "[I") ∈ rx_all := rx_inT (i := 110) rfl rfl
theorem rxwt_112 : (Jvm.Cond.laysFinal "AngleChains$Deduction" "AngleChains$Deduction" "lengthOf" "[I") ∈ rx_all := rx_inT (i := 112) rfl rfl
theorem rxwt_114 : (Jvm.Cond.laysFinal "AngleChains$Deduction" "AngleChains$Deduction" "circleOf" "[I") ∈ rx_all := rx_inT (i := 114) rfl rfl
theorem rxwt_116 : (Jvm.Cond.laysFinal "AngleChains$Deduction" "AngleChains$Deduction" "open" "[I") ∈ rx_all := rx_inT (i := 116) rfl rfl
theorem rxwt_118 : (Jvm.Cond.lays "AngleChains$Deduction" "AngleChains$Deduction" "openCount" "I") ∈ rx_all := rx_inT (i := 118) rfl rfl
theorem rxwt_120 : (Jvm.Cond.lays "AngleChains$Deduction" "AngleChains$Deduction" "hasJoined" "Z") ∈ rx_all := rx_inT (i := 120) rfl rfl
theorem rxwt_122 : (Jvm.Cond.lays "AngleChains$Deduction" "AngleChains$Deduction" "closedSize" "I") ∈ rx_all := rx_inT (i := 122) rfl rfl
theorem rxwt_124 : (Jvm.Cond.lays "AngleChains$Deduction" "AngleChains$Deduction" "closedBits" "I") ∈ rx_all := rx_inT (i := 124) rfl rfl
theorem rxwt_40 : (Jvm.Cond.instantiable "AngleChains$Deduction" (13 : Nat)) ∈ rx_all := rx_inT (i := 40) rfl rfl
theorem rxwt_3 : (Jvm.Cond.initialized "AngleChains$Deduction") ∈ rx_all := rx_inT (i := 3) rfl rfl
theorem rxwt_59 : (Jvm.Cond.laysFinal "AngleChains$Rows" "AngleChains$Rows" "basis" "[[J") ∈ rx_all := rx_inT (i := 59) rfl rfl
theorem rxwt_61 : (Jvm.Cond.laysFinal "AngleChains$Rows" "AngleChains$Rows" "row" "[J") ∈ rx_all := rx_inT (i := 61) rfl rfl
theorem rxwt_63 : (Jvm.Cond.lays "AngleChains$Rows" "AngleChains$Rows" "rank" "I") ∈ rx_all := rx_inT (i := 63) rfl rfl
theorem rxwt_65 : (Jvm.Cond.lays "AngleChains$Rows" "AngleChains$Rows" "hasGrown" "Z") ∈ rx_all := rx_inT (i := 65) rfl rfl
theorem rxwt_46 : (Jvm.Cond.instantiable "AngleChains$Rows" (4 : Nat)) ∈ rx_all := rx_inT (i := 46) rfl rfl
theorem rxwt_4 : (Jvm.Cond.initialized "AngleChains$Rows") ∈ rx_all := rx_inT (i := 4) rfl rfl
theorem rxwt_80 : (Jvm.Cond.laysFinal "AngleChains$Cases" "AngleChains$Cases" "figure" "LAngleChains$Figure;") ∈ rx_all := rx_inT (i := 80) rfl rfl
theorem rxwt_82 : (Jvm.Cond.laysFinal "AngleChains$Cases" "AngleChains$Cases" "packed" "[I") ∈ rx_all := rx_inT (i := 82) rfl rfl
theorem rxwt_84 : (Jvm.Cond.lays "AngleChains$Cases" "AngleChains$Cases" "count" "I") ∈ rx_all := rx_inT (i := 84) rfl rfl
theorem rxwt_70 : (Jvm.Cond.instantiable "AngleChains$Cases" (3 : Nat)) ∈ rx_all := rx_inT (i := 70) rfl rfl
theorem rxs_49 : Cond.selects "AngleChainsModel" (⟨"AngleChainsModel", "numberLines", "()V"⟩ : MethodName) (⟨"AngleChainsModel", "numberLines", "()V"⟩ : MethodName) ∈ rx_all := rx_inS (i := 49) (q := ((⟨"AngleChainsModel", "numberLines", "()V"⟩ : MethodName), 34)) (by decide +kernel)
theorem rxwt_713 : (Jvm.Cond.instanceMethod ({ cls := "AngleChainsModel", name := "numberLines", desc := "()V" } : Jvm.MethodName)) ∈ rx_all := rx_inT (i := 713) rfl rfl
theorem rxwt_714 : (Jvm.Cond.code ({ cls := "AngleChainsModel", name := "numberLines", desc := "()V" } : Jvm.MethodName) prog_7_method_34_code (7 : Nat) (Option.none : Option Jvm.ClassFile.FieldType)) ∈ rx_all := rx_inT (i := 714) rfl rfl
theorem rxs_50 : Cond.selects "AngleChainsModel" (⟨"AngleChainsModel", "lineOf", "(II)I"⟩ : MethodName) (⟨"AngleChainsModel", "lineOf", "(II)I"⟩ : MethodName) ∈ rx_all := rx_inS (i := 50) (q := ((⟨"AngleChainsModel", "lineOf", "(II)I"⟩ : MethodName), 34)) (by decide +kernel)
theorem rxwt_717 : (Jvm.Cond.instanceMethod ({ cls := "AngleChainsModel", name := "lineOf", desc := "(II)I" } : Jvm.MethodName)) ∈ rx_all := rx_inT (i := 717) rfl rfl
theorem rxwt_718 : (Jvm.Cond.code ({ cls := "AngleChainsModel", name := "lineOf", desc := "(II)I" } : Jvm.MethodName) prog_7_method_17_code (3 : Nat) (Option.some Jvm.ClassFile.FieldType.int)) ∈ rx_all := rx_inT (i := 718) rfl rfl
theorem rxs_51 : Cond.selects "AngleChainsModel" (⟨"AngleChainsModel", "startLattice", "()V"⟩ : MethodName) (⟨"AngleChainsModel", "startLattice", "()V"⟩ : MethodName) ∈ rx_all := rx_inS (i := 51) (q := ((⟨"AngleChainsModel", "startLattice", "()V"⟩ : MethodName), 34)) (by decide +kernel)
theorem rxwt_721 : (Jvm.Cond.instanceMethod ({ cls := "AngleChainsModel", name := "startLattice", desc := "()V" } : Jvm.MethodName)) ∈ rx_all := rx_inT (i := 721) rfl rfl
theorem rxwt_722 : (Jvm.Cond.code ({ cls := "AngleChainsModel", name := "startLattice", desc := "()V" } : Jvm.MethodName) prog_7_method_35_code (3 : Nat) (Option.none : Option Jvm.ClassFile.FieldType)) ∈ rx_all := rx_inT (i := 722) rfl rfl
theorem rxs_52 : Cond.selects "AngleChainsModel" (⟨"AngleChainsModel", "lineFacts", "()V"⟩ : MethodName) (⟨"AngleChainsModel", "lineFacts", "()V"⟩ : MethodName) ∈ rx_all := rx_inS (i := 52) (q := ((⟨"AngleChainsModel", "lineFacts", "()V"⟩ : MethodName), 34)) (by decide +kernel)
theorem rxwt_726 : (Jvm.Cond.instanceMethod ({ cls := "AngleChainsModel", name := "lineFacts", desc := "()V" } : Jvm.MethodName)) ∈ rx_all := rx_inT (i := 726) rfl rfl
theorem rxwt_727 : (Jvm.Cond.code ({ cls := "AngleChainsModel", name := "lineFacts", desc := "()V" } : Jvm.MethodName) prog_7_method_53_code (3 : Nat) (Option.none : Option Jvm.ClassFile.FieldType)) ∈ rx_all := rx_inT (i := 727) rfl rfl
theorem rxs_53 : Cond.selects "AngleChainsModel" (⟨"AngleChainsModel", "f", "(II)I"⟩ : MethodName) (⟨"AngleChainsModel", "f", "(II)I"⟩ : MethodName) ∈ rx_all := rx_inS (i := 53) (q := ((⟨"AngleChainsModel", "f", "(II)I"⟩ : MethodName), 34)) (by decide +kernel)
theorem rxwt_730 : (Jvm.Cond.instanceMethod ({ cls := "AngleChainsModel", name := "f", desc := "(II)I" } : Jvm.MethodName)) ∈ rx_all := rx_inT (i := 730) rfl rfl
theorem rxwt_731 : (Jvm.Cond.code ({ cls := "AngleChainsModel", name := "f", desc := "(II)I" } : Jvm.MethodName) prog_7_method_52_code (3 : Nat) (Option.some Jvm.ClassFile.FieldType.int)) ∈ rx_all := rx_inT (i := 731) rfl rfl
theorem rxs_54 : Cond.selects "AngleChainsModel" (⟨"AngleChainsModel", "join", "(I)V"⟩ : MethodName) (⟨"AngleChainsModel", "join", "(I)V"⟩ : MethodName) ∈ rx_all := rx_inS (i := 54) (q := ((⟨"AngleChainsModel", "join", "(I)V"⟩ : MethodName), 34)) (by decide +kernel)
theorem rxwt_734 : (Jvm.Cond.instanceMethod ({ cls := "AngleChainsModel", name := "join", desc := "(I)V" } : Jvm.MethodName)) ∈ rx_all := rx_inT (i := 734) rfl rfl
theorem rxwt_735 : (Jvm.Cond.code ({ cls := "AngleChainsModel", name := "join", desc := "(I)V" } : Jvm.MethodName) prog_7_method_19_code (6 : Nat) (Option.none : Option Jvm.ClassFile.FieldType)) ∈ rx_all := rx_inT (i := 735) rfl rfl
theorem rxwt_737 : (Jvm.Cond.static ({ cls := "AngleChainsModel", name := "has", desc := "(II)Z" } : Jvm.MethodName)) ∈ rx_all := rx_inT (i := 737) rfl rfl
theorem rxwt_738 : (Jvm.Cond.code ({ cls := "AngleChainsModel", name := "has", desc := "(II)Z" } : Jvm.MethodName) prog_7_method_18_code (2 : Nat) (Option.some Jvm.ClassFile.FieldType.boolean)) ∈ rx_all := rx_inT (i := 738) rfl rfl
theorem rxs_55 : Cond.selects "AngleChainsModel" (⟨"AngleChainsModel", "round", "(I)V"⟩ : MethodName) (⟨"AngleChainsModel", "round", "(I)V"⟩ : MethodName) ∈ rx_all := rx_inS (i := 55) (q := ((⟨"AngleChainsModel", "round", "(I)V"⟩ : MethodName), 34)) (by decide +kernel)
theorem rxwt_741 : (Jvm.Cond.instanceMethod ({ cls := "AngleChainsModel", name := "round", desc := "(I)V" } : Jvm.MethodName)) ∈ rx_all := rx_inT (i := 741) rfl rfl
theorem rxwt_742 : (Jvm.Cond.code ({ cls := "AngleChainsModel", name := "round", desc := "(I)V" } : Jvm.MethodName) prog_7_method_21_code (7 : Nat) (Option.none : Option Jvm.ClassFile.FieldType)) ∈ rx_all := rx_inT (i := 742) rfl rfl
theorem rxs_56 : Cond.selects "AngleChainsModel" (⟨"AngleChainsModel", "circleOf", "(III)I"⟩ : MethodName) (⟨"AngleChainsModel", "circleOf", "(III)I"⟩ : MethodName) ∈ rx_all := rx_inS (i := 56) (q := ((⟨"AngleChainsModel", "circleOf", "(III)I"⟩ : MethodName), 34)) (by decide +kernel)
theorem rxwt_745 : (Jvm.Cond.instanceMethod ({ cls := "AngleChainsModel", name := "circleOf", desc := "(III)I" } : Jvm.MethodName)) ∈ rx_all := rx_inT (i := 745) rfl rfl
theorem rxwt_746 : (Jvm.Cond.code ({ cls := "AngleChainsModel", name := "circleOf", desc := "(III)I" } : Jvm.MethodName) prog_7_method_20_code (4 : Nat) (Option.some Jvm.ClassFile.FieldType.int)) ∈ rx_all := rx_inT (i := 746) rfl rfl
theorem rxs_57 : Cond.selects "AngleChainsModel" (⟨"AngleChainsModel", "equal", "(IIII)V"⟩ : MethodName) (⟨"AngleChainsModel", "equal", "(IIII)V"⟩ : MethodName) ∈ rx_all := rx_inS (i := 57) (q := ((⟨"AngleChainsModel", "equal", "(IIII)V"⟩ : MethodName), 34)) (by decide +kernel)
theorem rxwt_749 : (Jvm.Cond.instanceMethod ({ cls := "AngleChainsModel", name := "equal", desc := "(IIII)V" } : Jvm.MethodName)) ∈ rx_all := rx_inT (i := 749) rfl rfl
theorem rxwt_750 : (Jvm.Cond.code ({ cls := "AngleChainsModel", name := "equal", desc := "(IIII)V" } : Jvm.MethodName) prog_7_method_24_code (9 : Nat) (Option.none : Option Jvm.ClassFile.FieldType)) ∈ rx_all := rx_inT (i := 750) rfl rfl
theorem rxs_58 : Cond.selects "AngleChainsModel" (⟨"AngleChainsModel", "lengthOf", "(II)I"⟩ : MethodName) (⟨"AngleChainsModel", "lengthOf", "(II)I"⟩ : MethodName) ∈ rx_all := rx_inS (i := 58) (q := ((⟨"AngleChainsModel", "lengthOf", "(II)I"⟩ : MethodName), 34)) (by decide +kernel)
theorem rxwt_753 : (Jvm.Cond.instanceMethod ({ cls := "AngleChainsModel", name := "lengthOf", desc := "(II)I" } : Jvm.MethodName)) ∈ rx_all := rx_inT (i := 753) rfl rfl
theorem rxwt_754 : (Jvm.Cond.code ({ cls := "AngleChainsModel", name := "lengthOf", desc := "(II)I" } : Jvm.MethodName) prog_7_method_22_code (3 : Nat) (Option.some Jvm.ClassFile.FieldType.int)) ∈ rx_all := rx_inT (i := 754) rfl rfl
theorem rxs_59 : Cond.selects "AngleChainsModel" (⟨"AngleChainsModel", "moveColumns", "()V"⟩ : MethodName) (⟨"AngleChainsModel", "moveColumns", "()V"⟩ : MethodName) ∈ rx_all := rx_inS (i := 59) (q := ((⟨"AngleChainsModel", "moveColumns", "()V"⟩ : MethodName), 34)) (by decide +kernel)
theorem rxwt_757 : (Jvm.Cond.instanceMethod ({ cls := "AngleChainsModel", name := "moveColumns", desc := "()V" } : Jvm.MethodName)) ∈ rx_all := rx_inT (i := 757) rfl rfl
theorem rxwt_758 : (Jvm.Cond.code ({ cls := "AngleChainsModel", name := "moveColumns", desc := "()V" } : Jvm.MethodName) prog_7_method_36_code (3 : Nat) (Option.none : Option Jvm.ClassFile.FieldType)) ∈ rx_all := rx_inT (i := 758) rfl rfl
theorem rxs_60 : Cond.selects "AngleChainsModel" (⟨"AngleChainsModel", "columnOf", "(II)I"⟩ : MethodName) (⟨"AngleChainsModel", "columnOf", "(II)I"⟩ : MethodName) ∈ rx_all := rx_inS (i := 60) (q := ((⟨"AngleChainsModel", "columnOf", "(II)I"⟩ : MethodName), 34)) (by decide +kernel)
theorem rxwt_761 : (Jvm.Cond.instanceMethod ({ cls := "AngleChainsModel", name := "columnOf", desc := "(II)I" } : Jvm.MethodName)) ∈ rx_all := rx_inT (i := 761) rfl rfl
theorem rxwt_762 : (Jvm.Cond.code ({ cls := "AngleChainsModel", name := "columnOf", desc := "(II)I" } : Jvm.MethodName) prog_7_method_31_code (3 : Nat) (Option.some Jvm.ClassFile.FieldType.int)) ∈ rx_all := rx_inT (i := 762) rfl rfl
theorem rxs_61 : Cond.selects "AngleChainsModel" (⟨"AngleChainsModel", "clearRow", "()V"⟩ : MethodName) (⟨"AngleChainsModel", "clearRow", "()V"⟩ : MethodName) ∈ rx_all := rx_inS (i := 61) (q := ((⟨"AngleChainsModel", "clearRow", "()V"⟩ : MethodName), 34)) (by decide +kernel)
theorem rxwt_765 : (Jvm.Cond.instanceMethod ({ cls := "AngleChainsModel", name := "clearRow", desc := "()V" } : Jvm.MethodName)) ∈ rx_all := rx_inT (i := 765) rfl rfl
theorem rxwt_766 : (Jvm.Cond.code ({ cls := "AngleChainsModel", name := "clearRow", desc := "()V" } : Jvm.MethodName) prog_7_method_25_code (2 : Nat) (Option.none : Option Jvm.ClassFile.FieldType)) ∈ rx_all := rx_inT (i := 766) rfl rfl
end
