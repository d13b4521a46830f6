section
-- ===== PART A: goes FIRST, ahead of the names: the tables' words, and 'selects' of the private methods out of them =====
/-- a private method of a class that the tables say can be made, by its rows of tables_1 -/
def lw_okq (q : MethodName × Nat) : Prop := (q.1.cls ≠ "java/lang/invoke/MethodHandle" ∧ q.1.cls ≠ "java/lang/invoke/VarHandle") ∧ Cond.instantiable q.1.cls q.2 ∈ tables_1 ∧ Cond.privateMethod q.1 ∈ tables_1 ∧ Cond.instanceMethod q.1 ∈ tables_1
theorem lw_p0 : lw_okq (⟨"TwoSetMachine", "refuseAddress", "(I)V"⟩, 3) := ⟨⟨by decide +kernel, by decide +kernel⟩, List.mem_of_getElem? (i := 20) (by decide +kernel), List.mem_of_getElem? (i := 214) (by decide +kernel), List.mem_of_getElem? (i := 215) (by decide +kernel)⟩
theorem lw_p1 : lw_okq (⟨"java/lang/Throwable", "fillInStackTrace", "(I)Ljava/lang/Throwable;"⟩, 6) := ⟨⟨by decide +kernel, by decide +kernel⟩, List.mem_of_getElem? (i := 255) (by decide +kernel), List.mem_of_getElem? (i := 253) (by decide +kernel), List.mem_of_getElem? (i := 254) (by decide +kernel)⟩
theorem lw_p2 : lw_okq (⟨"TwoSetMachine$ThumbSet", "addOrSubtract", "(I)I"⟩, 4) := ⟨⟨by decide +kernel, by decide +kernel⟩, List.mem_of_getElem? (i := 123) (by decide +kernel), List.mem_of_getElem? (i := 431) (by decide +kernel), List.mem_of_getElem? (i := 432) (by decide +kernel)⟩
theorem lw_p3 : lw_okq (⟨"TwoSetMachine$Alu", "logic", "(II)I"⟩, 2) := ⟨⟨by decide +kernel, by decide +kernel⟩, List.mem_of_getElem? (i := 78) (by decide +kernel), List.mem_of_getElem? (i := 457) (by decide +kernel), List.mem_of_getElem? (i := 458) (by decide +kernel)⟩
theorem lw_p4 : lw_okq (⟨"TwoSetMachine$Alu", "keep", "(ZZII)V"⟩, 2) := ⟨⟨by decide +kernel, by decide +kernel⟩, List.mem_of_getElem? (i := 78) (by decide +kernel), List.mem_of_getElem? (i := 465) (by decide +kernel), List.mem_of_getElem? (i := 466) (by decide +kernel)⟩
theorem lw_p5 : lw_okq (⟨"TwoSetMachine$Alu", "sum", "(III)I"⟩, 2) := ⟨⟨by decide +kernel, by decide +kernel⟩, List.mem_of_getElem? (i := 78) (by decide +kernel), List.mem_of_getElem? (i := 471) (by decide +kernel), List.mem_of_getElem? (i := 472) (by decide +kernel)⟩
theorem lw_p6 : lw_okq (⟨"TwoSetMachine$ThumbSet", "shiftByNumber", "(I)I"⟩, 4) := ⟨⟨by decide +kernel, by decide +kernel⟩, List.mem_of_getElem? (i := 123) (by decide +kernel), List.mem_of_getElem? (i := 491) (by decide +kernel), List.mem_of_getElem? (i := 492) (by decide +kernel)⟩
theorem lw_p7 : lw_okq (⟨"TwoSetMachine$ThumbSet", "keepShifted", "(II)I"⟩, 4) := ⟨⟨by decide +kernel, by decide +kernel⟩, List.mem_of_getElem? (i := 123) (by decide +kernel), List.mem_of_getElem? (i := 510) (by decide +kernel), List.mem_of_getElem? (i := 511) (by decide +kernel)⟩
theorem lw_p8 : lw_okq (⟨"TwoSetMachine$ThumbSet", "withNumber", "(I)I"⟩, 4) := ⟨⟨by decide +kernel, by decide +kernel⟩, List.mem_of_getElem? (i := 123) (by decide +kernel), List.mem_of_getElem? (i := 525) (by decide +kernel), List.mem_of_getElem? (i := 526) (by decide +kernel)⟩
theorem lw_p9 : lw_okq (⟨"TwoSetMachine$ThumbSet", "loadBesidePc", "(I)I"⟩, 4) := ⟨⟨by decide +kernel, by decide +kernel⟩, List.mem_of_getElem? (i := 123) (by decide +kernel), List.mem_of_getElem? (i := 529) (by decide +kernel), List.mem_of_getElem? (i := 530) (by decide +kernel)⟩
theorem lw_p10 : lw_okq (⟨"TwoSetMachine$ThumbSet", "wordOfPc", "()I"⟩, 4) := ⟨⟨by decide +kernel, by decide +kernel⟩, List.mem_of_getElem? (i := 123) (by decide +kernel), List.mem_of_getElem? (i := 533) (by decide +kernel), List.mem_of_getElem? (i := 534) (by decide +kernel)⟩
theorem lw_p11 : lw_okq (⟨"TwoSetMachine$ThumbSet", "ofAllRegisters", "(I)I"⟩, 4) := ⟨⟨by decide +kernel, by decide +kernel⟩, List.mem_of_getElem? (i := 123) (by decide +kernel), List.mem_of_getElem? (i := 554) (by decide +kernel), List.mem_of_getElem? (i := 555) (by decide +kernel)⟩
theorem lw_p12 : lw_okq (⟨"TwoSetMachine$ThumbSet", "ofTwoRegisters", "(I)I"⟩, 4) := ⟨⟨by decide +kernel, by decide +kernel⟩, List.mem_of_getElem? (i := 123) (by decide +kernel), List.mem_of_getElem? (i := 562) (by decide +kernel), List.mem_of_getElem? (i := 563) (by decide +kernel)⟩
theorem lw_p13 : lw_okq (⟨"TwoSetMachine$ThumbSet", "byRegisterOffset", "(I)I"⟩, 4) := ⟨⟨by decide +kernel, by decide +kernel⟩, List.mem_of_getElem? (i := 123) (by decide +kernel), List.mem_of_getElem? (i := 571) (by decide +kernel), List.mem_of_getElem? (i := 572) (by decide +kernel)⟩
theorem lw_p14 : lw_okq (⟨"TwoSetMachine$ThumbSet", "byNumberOffset", "(I)I"⟩, 4) := ⟨⟨by decide +kernel, by decide +kernel⟩, List.mem_of_getElem? (i := 123) (by decide +kernel), List.mem_of_getElem? (i := 577) (by decide +kernel), List.mem_of_getElem? (i := 578) (by decide +kernel)⟩
theorem lw_p15 : lw_okq (⟨"TwoSetMachine$ThumbSet", "besideSp", "(I)I"⟩, 4) := ⟨⟨by decide +kernel, by decide +kernel⟩, List.mem_of_getElem? (i := 123) (by decide +kernel), List.mem_of_getElem? (i := 581) (by decide +kernel), List.mem_of_getElem? (i := 582) (by decide +kernel)⟩
def lw_privs_1 : List (MethodName × Nat) := [(⟨"TwoSetMachine", "refuseAddress", "(I)V"⟩, 3), (⟨"java/lang/Throwable", "fillInStackTrace", "(I)Ljava/lang/Throwable;"⟩, 6), (⟨"TwoSetMachine$ThumbSet", "addOrSubtract", "(I)I"⟩, 4), (⟨"TwoSetMachine$Alu", "logic", "(II)I"⟩, 2), (⟨"TwoSetMachine$Alu", "keep", "(ZZII)V"⟩, 2), (⟨"TwoSetMachine$Alu", "sum", "(III)I"⟩, 2), (⟨"TwoSetMachine$ThumbSet", "shiftByNumber", "(I)I"⟩, 4), (⟨"TwoSetMachine$ThumbSet", "keepShifted", "(II)I"⟩, 4), (⟨"TwoSetMachine$ThumbSet", "withNumber", "(I)I"⟩, 4), (⟨"TwoSetMachine$ThumbSet", "loadBesidePc", "(I)I"⟩, 4), (⟨"TwoSetMachine$ThumbSet", "wordOfPc", "()I"⟩, 4), (⟨"TwoSetMachine$ThumbSet", "ofAllRegisters", "(I)I"⟩, 4), (⟨"TwoSetMachine$ThumbSet", "ofTwoRegisters", "(I)I"⟩, 4), (⟨"TwoSetMachine$ThumbSet", "byRegisterOffset", "(I)I"⟩, 4), (⟨"TwoSetMachine$ThumbSet", "byNumberOffset", "(I)I"⟩, 4), (⟨"TwoSetMachine$ThumbSet", "besideSp", "(I)I"⟩, 4)]
theorem lw_r1 : ∀ q ∈ lw_privs_1, lw_okq q := List.forall_mem_cons.mpr ⟨lw_p0, List.forall_mem_cons.mpr ⟨lw_p1, List.forall_mem_cons.mpr ⟨lw_p2, List.forall_mem_cons.mpr ⟨lw_p3, List.forall_mem_cons.mpr ⟨lw_p4, List.forall_mem_cons.mpr ⟨lw_p5, List.forall_mem_cons.mpr ⟨lw_p6, List.forall_mem_cons.mpr ⟨lw_p7, List.forall_mem_cons.mpr ⟨lw_p8, List.forall_mem_cons.mpr ⟨lw_p9, List.forall_mem_cons.mpr ⟨lw_p10, List.forall_mem_cons.mpr ⟨lw_p11, List.forall_mem_cons.mpr ⟨lw_p12, List.forall_mem_cons.mpr ⟨lw_p13, List.forall_mem_cons.mpr ⟨lw_p14, List.forall_mem_cons.mpr ⟨lw_p15, fun _ h => absurd h List.not_mem_nil⟩⟩⟩⟩⟩⟩⟩⟩⟩⟩⟩⟩⟩⟩⟩⟩
theorem lw_p16 : lw_okq (⟨"TwoSetMachine$ThumbSet", "addressOf", "(I)I"⟩, 4) := ⟨⟨by decide +kernel, by decide +kernel⟩, List.mem_of_getElem? (i := 123) (by decide +kernel), List.mem_of_getElem? (i := 585) (by decide +kernel), List.mem_of_getElem? (i := 586) (by decide +kernel)⟩
theorem lw_p17 : lw_okq (⟨"TwoSetMachine$ThumbSet", "stack", "(I)I"⟩, 4) := ⟨⟨by decide +kernel, by decide +kernel⟩, List.mem_of_getElem? (i := 123) (by decide +kernel), List.mem_of_getElem? (i := 589) (by decide +kernel), List.mem_of_getElem? (i := 590) (by decide +kernel)⟩
theorem lw_p18 : lw_okq (⟨"TwoSetMachine$Transfers", "loadMany", "(IIII)I"⟩, 2) := ⟨⟨by decide +kernel, by decide +kernel⟩, List.mem_of_getElem? (i := 91) (by decide +kernel), List.mem_of_getElem? (i := 607) (by decide +kernel), List.mem_of_getElem? (i := 608) (by decide +kernel)⟩
theorem lw_p19 : lw_okq (⟨"TwoSetMachine$Transfers", "storeMany", "(III)I"⟩, 2) := ⟨⟨by decide +kernel, by decide +kernel⟩, List.mem_of_getElem? (i := 91) (by decide +kernel), List.mem_of_getElem? (i := 623) (by decide +kernel), List.mem_of_getElem? (i := 624) (by decide +kernel)⟩
theorem lw_p20 : lw_okq (⟨"TwoSetMachine$ThumbSet", "many", "(I)I"⟩, 4) := ⟨⟨by decide +kernel, by decide +kernel⟩, List.mem_of_getElem? (i := 123) (by decide +kernel), List.mem_of_getElem? (i := 634) (by decide +kernel), List.mem_of_getElem? (i := 635) (by decide +kernel)⟩
theorem lw_p21 : lw_okq (⟨"TwoSetMachine$ThumbSet", "branchByCondition", "(I)I"⟩, 4) := ⟨⟨by decide +kernel, by decide +kernel⟩, List.mem_of_getElem? (i := 123) (by decide +kernel), List.mem_of_getElem? (i := 640) (by decide +kernel), List.mem_of_getElem? (i := 641) (by decide +kernel)⟩
theorem lw_p22 : lw_okq (⟨"TwoSetMachine$ThumbSet", "branch", "(I)I"⟩, 4) := ⟨⟨by decide +kernel, by decide +kernel⟩, List.mem_of_getElem? (i := 123) (by decide +kernel), List.mem_of_getElem? (i := 650) (by decide +kernel), List.mem_of_getElem? (i := 651) (by decide +kernel)⟩
theorem lw_p23 : lw_okq (⟨"TwoSetMachine$ArmSet", "multiply", "(I)I"⟩, 4) := ⟨⟨by decide +kernel, by decide +kernel⟩, List.mem_of_getElem? (i := 104) (by decide +kernel), List.mem_of_getElem? (i := 668) (by decide +kernel), List.mem_of_getElem? (i := 669) (by decide +kernel)⟩
theorem lw_p24 : lw_okq (⟨"TwoSetMachine$ArmSet", "swap", "(I)I"⟩, 4) := ⟨⟨by decide +kernel, by decide +kernel⟩, List.mem_of_getElem? (i := 104) (by decide +kernel), List.mem_of_getElem? (i := 684) (by decide +kernel), List.mem_of_getElem? (i := 685) (by decide +kernel)⟩
theorem lw_p25 : lw_okq (⟨"TwoSetMachine$ArmSet", "halves", "(I)I"⟩, 4) := ⟨⟨by decide +kernel, by decide +kernel⟩, List.mem_of_getElem? (i := 104) (by decide +kernel), List.mem_of_getElem? (i := 692) (by decide +kernel), List.mem_of_getElem? (i := 693) (by decide +kernel)⟩
theorem lw_p26 : lw_okq (⟨"TwoSetMachine$ArmSet", "readStatus", "(I)I"⟩, 4) := ⟨⟨by decide +kernel, by decide +kernel⟩, List.mem_of_getElem? (i := 104) (by decide +kernel), List.mem_of_getElem? (i := 707) (by decide +kernel), List.mem_of_getElem? (i := 708) (by decide +kernel)⟩
theorem lw_p27 : lw_okq (⟨"TwoSetMachine$ArmSet", "writeStatus", "(II)I"⟩, 4) := ⟨⟨by decide +kernel, by decide +kernel⟩, List.mem_of_getElem? (i := 104) (by decide +kernel), List.mem_of_getElem? (i := 715) (by decide +kernel), List.mem_of_getElem? (i := 716) (by decide +kernel)⟩
theorem lw_p28 : lw_okq (⟨"TwoSetMachine$ArmSet", "data", "(I)I"⟩, 4) := ⟨⟨by decide +kernel, by decide +kernel⟩, List.mem_of_getElem? (i := 104) (by decide +kernel), List.mem_of_getElem? (i := 731) (by decide +kernel), List.mem_of_getElem? (i := 732) (by decide +kernel)⟩
theorem lw_p29 : lw_okq (⟨"TwoSetMachine$ArmSet", "shiftedByRegister", "(I)I"⟩, 4) := ⟨⟨by decide +kernel, by decide +kernel⟩, List.mem_of_getElem? (i := 104) (by decide +kernel), List.mem_of_getElem? (i := 743) (by decide +kernel), List.mem_of_getElem? (i := 744) (by decide +kernel)⟩
theorem lw_p30 : lw_okq (⟨"TwoSetMachine$ArmSet", "shiftedByNumber", "(I)I"⟩, 4) := ⟨⟨by decide +kernel, by decide +kernel⟩, List.mem_of_getElem? (i := 104) (by decide +kernel), List.mem_of_getElem? (i := 749) (by decide +kernel), List.mem_of_getElem? (i := 750) (by decide +kernel)⟩
theorem lw_p31 : lw_okq (⟨"TwoSetMachine$ArmSet", "transfer", "(I)I"⟩, 4) := ⟨⟨by decide +kernel, by decide +kernel⟩, List.mem_of_getElem? (i := 104) (by decide +kernel), List.mem_of_getElem? (i := 762) (by decide +kernel), List.mem_of_getElem? (i := 763) (by decide +kernel)⟩
def lw_privs_2 : List (MethodName × Nat) := [(⟨"TwoSetMachine$ThumbSet", "addressOf", "(I)I"⟩, 4), (⟨"TwoSetMachine$ThumbSet", "stack", "(I)I"⟩, 4), (⟨"TwoSetMachine$Transfers", "loadMany", "(IIII)I"⟩, 2), (⟨"TwoSetMachine$Transfers", "storeMany", "(III)I"⟩, 2), (⟨"TwoSetMachine$ThumbSet", "many", "(I)I"⟩, 4), (⟨"TwoSetMachine$ThumbSet", "branchByCondition", "(I)I"⟩, 4), (⟨"TwoSetMachine$ThumbSet", "branch", "(I)I"⟩, 4), (⟨"TwoSetMachine$ArmSet", "multiply", "(I)I"⟩, 4), (⟨"TwoSetMachine$ArmSet", "swap", "(I)I"⟩, 4), (⟨"TwoSetMachine$ArmSet", "halves", "(I)I"⟩, 4), (⟨"TwoSetMachine$ArmSet", "readStatus", "(I)I"⟩, 4), (⟨"TwoSetMachine$ArmSet", "writeStatus", "(II)I"⟩, 4), (⟨"TwoSetMachine$ArmSet", "data", "(I)I"⟩, 4), (⟨"TwoSetMachine$ArmSet", "shiftedByRegister", "(I)I"⟩, 4), (⟨"TwoSetMachine$ArmSet", "shiftedByNumber", "(I)I"⟩, 4), (⟨"TwoSetMachine$ArmSet", "transfer", "(I)I"⟩, 4)]
theorem lw_r2 : ∀ q ∈ lw_privs_2, lw_okq q := List.forall_mem_cons.mpr ⟨lw_p16, List.forall_mem_cons.mpr ⟨lw_p17, List.forall_mem_cons.mpr ⟨lw_p18, List.forall_mem_cons.mpr ⟨lw_p19, List.forall_mem_cons.mpr ⟨lw_p20, List.forall_mem_cons.mpr ⟨lw_p21, List.forall_mem_cons.mpr ⟨lw_p22, List.forall_mem_cons.mpr ⟨lw_p23, List.forall_mem_cons.mpr ⟨lw_p24, List.forall_mem_cons.mpr ⟨lw_p25, List.forall_mem_cons.mpr ⟨lw_p26, List.forall_mem_cons.mpr ⟨lw_p27, List.forall_mem_cons.mpr ⟨lw_p28, List.forall_mem_cons.mpr ⟨lw_p29, List.forall_mem_cons.mpr ⟨lw_p30, List.forall_mem_cons.mpr ⟨lw_p31, fun _ h => absurd h List.not_mem_nil⟩⟩⟩⟩⟩⟩⟩⟩⟩⟩⟩⟩⟩⟩⟩⟩
theorem lw_p32 : lw_okq (⟨"TwoSetMachine$ArmSet", "branch", "(I)I"⟩, 4) := ⟨⟨by decide +kernel, by decide +kernel⟩, List.mem_of_getElem? (i := 104) (by decide +kernel), List.mem_of_getElem? (i := 767) (by decide +kernel), List.mem_of_getElem? (i := 768) (by decide +kernel)⟩
theorem lw_p33 : lw_okq (⟨"TwoSetMachine$Registers", "linkOf", "(I)I"⟩, 5) := ⟨⟨by decide +kernel, by decide +kernel⟩, List.mem_of_getElem? (i := 40) (by decide +kernel), List.mem_of_getElem? (i := 784) (by decide +kernel), List.mem_of_getElem? (i := 785) (by decide +kernel)⟩
theorem lw_p34 : lw_okq (⟨"TwoSetMachineModel", "fail", "(I)I"⟩, 14) := ⟨⟨by decide +kernel, by decide +kernel⟩, List.mem_of_getElem? (i := 816) (by decide +kernel), List.mem_of_getElem? (i := 875) (by decide +kernel), List.mem_of_getElem? (i := 876) (by decide +kernel)⟩
theorem lw_p35 : lw_okq (⟨"TwoSetMachineModel", "trimmed", "(I)I"⟩, 14) := ⟨⟨by decide +kernel, by decide +kernel⟩, List.mem_of_getElem? (i := 816) (by decide +kernel), List.mem_of_getElem? (i := 897) (by decide +kernel), List.mem_of_getElem? (i := 898) (by decide +kernel)⟩
theorem lw_p36 : lw_okq (⟨"TwoSetMachineModel", "isThumb", "()Z"⟩, 14) := ⟨⟨by decide +kernel, by decide +kernel⟩, List.mem_of_getElem? (i := 816) (by decide +kernel), List.mem_of_getElem? (i := 901) (by decide +kernel), List.mem_of_getElem? (i := 902) (by decide +kernel)⟩
theorem lw_p37 : lw_okq (⟨"TwoSetMachineModel", "putStatus", "(I)V"⟩, 14) := ⟨⟨by decide +kernel, by decide +kernel⟩, List.mem_of_getElem? (i := 816) (by decide +kernel), List.mem_of_getElem? (i := 913) (by decide +kernel), List.mem_of_getElem? (i := 914) (by decide +kernel)⟩
theorem lw_p38 : lw_okq (⟨"TwoSetMachineModel", "mode", "()I"⟩, 14) := ⟨⟨by decide +kernel, by decide +kernel⟩, List.mem_of_getElem? (i := 816) (by decide +kernel), List.mem_of_getElem? (i := 917) (by decide +kernel), List.mem_of_getElem? (i := 918) (by decide +kernel)⟩
theorem lw_p39 : lw_okq (⟨"TwoSetMachineModel", "go", "()Z"⟩, 14) := ⟨⟨by decide +kernel, by decide +kernel⟩, List.mem_of_getElem? (i := 816) (by decide +kernel), List.mem_of_getElem? (i := 934) (by decide +kernel), List.mem_of_getElem? (i := 935) (by decide +kernel)⟩
theorem lw_p40 : lw_okq (⟨"TwoSetMachineModel", "is", "(I)Z"⟩, 14) := ⟨⟨by decide +kernel, by decide +kernel⟩, List.mem_of_getElem? (i := 816) (by decide +kernel), List.mem_of_getElem? (i := 938) (by decide +kernel), List.mem_of_getElem? (i := 939) (by decide +kernel)⟩
theorem lw_p41 : lw_okq (⟨"TwoSetMachineModel", "enter", "(II)V"⟩, 14) := ⟨⟨by decide +kernel, by decide +kernel⟩, List.mem_of_getElem? (i := 816) (by decide +kernel), List.mem_of_getElem? (i := 942) (by decide +kernel), List.mem_of_getElem? (i := 943) (by decide +kernel)⟩
theorem lw_p42 : lw_okq (⟨"TwoSetMachineModel", "halfAt", "(I)I"⟩, 14) := ⟨⟨by decide +kernel, by decide +kernel⟩, List.mem_of_getElem? (i := 816) (by decide +kernel), List.mem_of_getElem? (i := 949) (by decide +kernel), List.mem_of_getElem? (i := 950) (by decide +kernel)⟩
theorem lw_p43 : lw_okq (⟨"TwoSetMachineModel", "thumb", "(I)V"⟩, 14) := ⟨⟨by decide +kernel, by decide +kernel⟩, List.mem_of_getElem? (i := 816) (by decide +kernel), List.mem_of_getElem? (i := 954) (by decide +kernel), List.mem_of_getElem? (i := 955) (by decide +kernel)⟩
theorem lw_p44 : lw_okq (⟨"TwoSetMachineModel", "early", "(IIIII)V"⟩, 14) := ⟨⟨by decide +kernel, by decide +kernel⟩, List.mem_of_getElem? (i := 816) (by decide +kernel), List.mem_of_getElem? (i := 958) (by decide +kernel), List.mem_of_getElem? (i := 959) (by decide +kernel)⟩
theorem lw_p45 : lw_okq (⟨"TwoSetMachineModel", "at", "(I)I"⟩, 14) := ⟨⟨by decide +kernel, by decide +kernel⟩, List.mem_of_getElem? (i := 816) (by decide +kernel), List.mem_of_getElem? (i := 962) (by decide +kernel), List.mem_of_getElem? (i := 963) (by decide +kernel)⟩
theorem lw_p46 : lw_okq (⟨"TwoSetMachineModel", "shiftBy", "(III)I"⟩, 14) := ⟨⟨by decide +kernel, by decide +kernel⟩, List.mem_of_getElem? (i := 816) (by decide +kernel), List.mem_of_getElem? (i := 966) (by decide +kernel), List.mem_of_getElem? (i := 967) (by decide +kernel)⟩
theorem lw_p47 : lw_okq (⟨"TwoSetMachineModel", "shift", "(III)I"⟩, 14) := ⟨⟨by decide +kernel, by decide +kernel⟩, List.mem_of_getElem? (i := 816) (by decide +kernel), List.mem_of_getElem? (i := 970) (by decide +kernel), List.mem_of_getElem? (i := 971) (by decide +kernel)⟩
def lw_privs_3 : List (MethodName × Nat) := [(⟨"TwoSetMachine$ArmSet", "branch", "(I)I"⟩, 4), (⟨"TwoSetMachine$Registers", "linkOf", "(I)I"⟩, 5), (⟨"TwoSetMachineModel", "fail", "(I)I"⟩, 14), (⟨"TwoSetMachineModel", "trimmed", "(I)I"⟩, 14), (⟨"TwoSetMachineModel", "isThumb", "()Z"⟩, 14), (⟨"TwoSetMachineModel", "putStatus", "(I)V"⟩, 14), (⟨"TwoSetMachineModel", "mode", "()I"⟩, 14), (⟨"TwoSetMachineModel", "go", "()Z"⟩, 14), (⟨"TwoSetMachineModel", "is", "(I)Z"⟩, 14), (⟨"TwoSetMachineModel", "enter", "(II)V"⟩, 14), (⟨"TwoSetMachineModel", "halfAt", "(I)I"⟩, 14), (⟨"TwoSetMachineModel", "thumb", "(I)V"⟩, 14), (⟨"TwoSetMachineModel", "early", "(IIIII)V"⟩, 14), (⟨"TwoSetMachineModel", "at", "(I)I"⟩, 14), (⟨"TwoSetMachineModel", "shiftBy", "(III)I"⟩, 14), (⟨"TwoSetMachineModel", "shift", "(III)I"⟩, 14)]
theorem lw_r3 : ∀ q ∈ lw_privs_3, lw_okq q := List.forall_mem_cons.mpr ⟨lw_p32, List.forall_mem_cons.mpr ⟨lw_p33, List.forall_mem_cons.mpr ⟨lw_p34, List.forall_mem_cons.mpr ⟨lw_p35, List.forall_mem_cons.mpr ⟨lw_p36, List.forall_mem_cons.mpr ⟨lw_p37, List.forall_mem_cons.mpr ⟨lw_p38, List.forall_mem_cons.mpr ⟨lw_p39, List.forall_mem_cons.mpr ⟨lw_p40, List.forall_mem_cons.mpr ⟨lw_p41, List.forall_mem_cons.mpr ⟨lw_p42, List.forall_mem_cons.mpr ⟨lw_p43, List.forall_mem_cons.mpr ⟨lw_p44, List.forall_mem_cons.mpr ⟨lw_p45, List.forall_mem_cons.mpr ⟨lw_p46, List.forall_mem_cons.mpr ⟨lw_p47, fun _ h => absurd h List.not_mem_nil⟩⟩⟩⟩⟩⟩⟩⟩⟩⟩⟩⟩⟩⟩⟩⟩
theorem lw_p48 : lw_okq (⟨"TwoSetMachineModel", "finish", "(IIIIZ)V"⟩, 14) := ⟨⟨by decide +kernel, by decide +kernel⟩, List.mem_of_getElem? (i := 816) (by decide +kernel), List.mem_of_getElem? (i := 975) (by decide +kernel), List.mem_of_getElem? (i := 976) (by decide +kernel)⟩
theorem lw_p49 : lw_okq (⟨"TwoSetMachineModel", "operate", "(III)I"⟩, 14) := ⟨⟨by decide +kernel, by decide +kernel⟩, List.mem_of_getElem? (i := 816) (by decide +kernel), List.mem_of_getElem? (i := 979) (by decide +kernel), List.mem_of_getElem? (i := 980) (by decide +kernel)⟩
theorem lw_p50 : lw_okq (⟨"TwoSetMachineModel", "sum", "(III)I"⟩, 14) := ⟨⟨by decide +kernel, by decide +kernel⟩, List.mem_of_getElem? (i := 816) (by decide +kernel), List.mem_of_getElem? (i := 983) (by decide +kernel), List.mem_of_getElem? (i := 984) (by decide +kernel)⟩
theorem lw_p51 : lw_okq (⟨"TwoSetMachineModel", "carryIn", "()I"⟩, 14) := ⟨⟨by decide +kernel, by decide +kernel⟩, List.mem_of_getElem? (i := 816) (by decide +kernel), List.mem_of_getElem? (i := 988) (by decide +kernel), List.mem_of_getElem? (i := 989) (by decide +kernel)⟩
theorem lw_p52 : lw_okq (⟨"TwoSetMachineModel", "setFlags", "(I)V"⟩, 14) := ⟨⟨by decide +kernel, by decide +kernel⟩, List.mem_of_getElem? (i := 816) (by decide +kernel), List.mem_of_getElem? (i := 992) (by decide +kernel), List.mem_of_getElem? (i := 993) (by decide +kernel)⟩
theorem lw_p53 : lw_okq (⟨"TwoSetMachineModel", "setCarry", "(Z)V"⟩, 14) := ⟨⟨by decide +kernel, by decide +kernel⟩, List.mem_of_getElem? (i := 816) (by decide +kernel), List.mem_of_getElem? (i := 998) (by decide +kernel), List.mem_of_getElem? (i := 999) (by decide +kernel)⟩
theorem lw_p54 : lw_okq (⟨"TwoSetMachineModel", "setOver", "(Z)V"⟩, 14) := ⟨⟨by decide +kernel, by decide +kernel⟩, List.mem_of_getElem? (i := 816) (by decide +kernel), List.mem_of_getElem? (i := 1007) (by decide +kernel), List.mem_of_getElem? (i := 1008) (by decide +kernel)⟩
theorem lw_p55 : lw_okq (⟨"TwoSetMachineModel", "put", "(II)V"⟩, 14) := ⟨⟨by decide +kernel, by decide +kernel⟩, List.mem_of_getElem? (i := 816) (by decide +kernel), List.mem_of_getElem? (i := 1013) (by decide +kernel), List.mem_of_getElem? (i := 1014) (by decide +kernel)⟩
theorem lw_p56 : lw_okq (⟨"TwoSetMachineModel", "numbers", "(III)V"⟩, 14) := ⟨⟨by decide +kernel, by decide +kernel⟩, List.mem_of_getElem? (i := 816) (by decide +kernel), List.mem_of_getElem? (i := 1017) (by decide +kernel), List.mem_of_getElem? (i := 1018) (by decide +kernel)⟩
theorem lw_p57 : lw_okq (⟨"TwoSetMachineModel", "operations", "(III)V"⟩, 14) := ⟨⟨by decide +kernel, by decide +kernel⟩, List.mem_of_getElem? (i := 816) (by decide +kernel), List.mem_of_getElem? (i := 1021) (by decide +kernel), List.mem_of_getElem? (i := 1022) (by decide +kernel)⟩
theorem lw_p58 : lw_okq (⟨"TwoSetMachineModel", "highOnes", "(I)V"⟩, 14) := ⟨⟨by decide +kernel, by decide +kernel⟩, List.mem_of_getElem? (i := 816) (by decide +kernel), List.mem_of_getElem? (i := 1025) (by decide +kernel), List.mem_of_getElem? (i := 1026) (by decide +kernel)⟩
theorem lw_p59 : lw_okq (⟨"TwoSetMachineModel", "undefined", "()V"⟩, 14) := ⟨⟨by decide +kernel, by decide +kernel⟩, List.mem_of_getElem? (i := 816) (by decide +kernel), List.mem_of_getElem? (i := 1029) (by decide +kernel), List.mem_of_getElem? (i := 1030) (by decide +kernel)⟩
theorem lw_p60 : lw_okq (⟨"TwoSetMachineModel", "value", "(I)I"⟩, 14) := ⟨⟨by decide +kernel, by decide +kernel⟩, List.mem_of_getElem? (i := 816) (by decide +kernel), List.mem_of_getElem? (i := 1033) (by decide +kernel), List.mem_of_getElem? (i := 1034) (by decide +kernel)⟩
theorem lw_p61 : lw_okq (⟨"TwoSetMachineModel", "operand", "(II)I"⟩, 14) := ⟨⟨by decide +kernel, by decide +kernel⟩, List.mem_of_getElem? (i := 816) (by decide +kernel), List.mem_of_getElem? (i := 1037) (by decide +kernel), List.mem_of_getElem? (i := 1038) (by decide +kernel)⟩
theorem lw_p62 : lw_okq (⟨"TwoSetMachineModel", "exchange", "(I)V"⟩, 14) := ⟨⟨by decide +kernel, by decide +kernel⟩, List.mem_of_getElem? (i := 816) (by decide +kernel), List.mem_of_getElem? (i := 1041) (by decide +kernel), List.mem_of_getElem? (i := 1042) (by decide +kernel)⟩
theorem lw_p63 : lw_okq (⟨"TwoSetMachineModel", "transfer", "(ZIIIII)V"⟩, 14) := ⟨⟨by decide +kernel, by decide +kernel⟩, List.mem_of_getElem? (i := 816) (by decide +kernel), List.mem_of_getElem? (i := 1045) (by decide +kernel), List.mem_of_getElem? (i := 1046) (by decide +kernel)⟩
def lw_privs_4 : List (MethodName × Nat) := [(⟨"TwoSetMachineModel", "finish", "(IIIIZ)V"⟩, 14), (⟨"TwoSetMachineModel", "operate", "(III)I"⟩, 14), (⟨"TwoSetMachineModel", "sum", "(III)I"⟩, 14), (⟨"TwoSetMachineModel", "carryIn", "()I"⟩, 14), (⟨"TwoSetMachineModel", "setFlags", "(I)V"⟩, 14), (⟨"TwoSetMachineModel", "setCarry", "(Z)V"⟩, 14), (⟨"TwoSetMachineModel", "setOver", "(Z)V"⟩, 14), (⟨"TwoSetMachineModel", "put", "(II)V"⟩, 14), (⟨"TwoSetMachineModel", "numbers", "(III)V"⟩, 14), (⟨"TwoSetMachineModel", "operations", "(III)V"⟩, 14), (⟨"TwoSetMachineModel", "highOnes", "(I)V"⟩, 14), (⟨"TwoSetMachineModel", "undefined", "()V"⟩, 14), (⟨"TwoSetMachineModel", "value", "(I)I"⟩, 14), (⟨"TwoSetMachineModel", "operand", "(II)I"⟩, 14), (⟨"TwoSetMachineModel", "exchange", "(I)V"⟩, 14), (⟨"TwoSetMachineModel", "transfer", "(ZIIIII)V"⟩, 14)]
theorem lw_r4 : ∀ q ∈ lw_privs_4, lw_okq q := List.forall_mem_cons.mpr ⟨lw_p48, List.forall_mem_cons.mpr ⟨lw_p49, List.forall_mem_cons.mpr ⟨lw_p50, List.forall_mem_cons.mpr ⟨lw_p51, List.forall_mem_cons.mpr ⟨lw_p52, List.forall_mem_cons.mpr ⟨lw_p53, List.forall_mem_cons.mpr ⟨lw_p54, List.forall_mem_cons.mpr ⟨lw_p55, List.forall_mem_cons.mpr ⟨lw_p56, List.forall_mem_cons.mpr ⟨lw_p57, List.forall_mem_cons.mpr ⟨lw_p58, List.forall_mem_cons.mpr ⟨lw_p59, List.forall_mem_cons.mpr ⟨lw_p60, List.forall_mem_cons.mpr ⟨lw_p61, List.forall_mem_cons.mpr ⟨lw_p62, List.forall_mem_cons.mpr ⟨lw_p63, fun _ h => absurd h List.not_mem_nil⟩⟩⟩⟩⟩⟩⟩⟩⟩⟩⟩⟩⟩⟩⟩⟩
theorem lw_p64 : lw_okq (⟨"TwoSetMachineModel", "loaded", "(II)I"⟩, 14) := ⟨⟨by decide +kernel, by decide +kernel⟩, List.mem_of_getElem? (i := 816) (by decide +kernel), List.mem_of_getElem? (i := 1049) (by decide +kernel), List.mem_of_getElem? (i := 1050) (by decide +kernel)⟩
theorem lw_p65 : lw_okq (⟨"TwoSetMachineModel", "wordAt", "(I)I"⟩, 14) := ⟨⟨by decide +kernel, by decide +kernel⟩, List.mem_of_getElem? (i := 816) (by decide +kernel), List.mem_of_getElem? (i := 1053) (by decide +kernel), List.mem_of_getElem? (i := 1054) (by decide +kernel)⟩
theorem lw_p66 : lw_okq (⟨"TwoSetMachineModel", "byteAt", "(I)I"⟩, 14) := ⟨⟨by decide +kernel, by decide +kernel⟩, List.mem_of_getElem? (i := 816) (by decide +kernel), List.mem_of_getElem? (i := 1057) (by decide +kernel), List.mem_of_getElem? (i := 1058) (by decide +kernel)⟩
theorem lw_p67 : lw_okq (⟨"TwoSetMachineModel", "storeAt", "(III)V"⟩, 14) := ⟨⟨by decide +kernel, by decide +kernel⟩, List.mem_of_getElem? (i := 816) (by decide +kernel), List.mem_of_getElem? (i := 1061) (by decide +kernel), List.mem_of_getElem? (i := 1062) (by decide +kernel)⟩
theorem lw_p68 : lw_okq (⟨"TwoSetMachineModel", "byRegisters", "(III)V"⟩, 14) := ⟨⟨by decide +kernel, by decide +kernel⟩, List.mem_of_getElem? (i := 816) (by decide +kernel), List.mem_of_getElem? (i := 1065) (by decide +kernel), List.mem_of_getElem? (i := 1066) (by decide +kernel)⟩
theorem lw_p69 : lw_okq (⟨"TwoSetMachineModel", "stack", "(I)V"⟩, 14) := ⟨⟨by decide +kernel, by decide +kernel⟩, List.mem_of_getElem? (i := 816) (by decide +kernel), List.mem_of_getElem? (i := 1069) (by decide +kernel), List.mem_of_getElem? (i := 1070) (by decide +kernel)⟩
theorem lw_p70 : lw_okq (⟨"TwoSetMachineModel", "many", "(ZIIZZZZ)V"⟩, 14) := ⟨⟨by decide +kernel, by decide +kernel⟩, List.mem_of_getElem? (i := 816) (by decide +kernel), List.mem_of_getElem? (i := 1073) (by decide +kernel), List.mem_of_getElem? (i := 1074) (by decide +kernel)⟩
theorem lw_p71 : lw_okq (⟨"TwoSetMachineModel", "nth", "(III)I"⟩, 14) := ⟨⟨by decide +kernel, by decide +kernel⟩, List.mem_of_getElem? (i := 816) (by decide +kernel), List.mem_of_getElem? (i := 1080) (by decide +kernel), List.mem_of_getElem? (i := 1081) (by decide +kernel)⟩
theorem lw_p72 : lw_okq (⟨"TwoSetMachineModel", "loadAll", "(IIIZ)V"⟩, 14) := ⟨⟨by decide +kernel, by decide +kernel⟩, List.mem_of_getElem? (i := 816) (by decide +kernel), List.mem_of_getElem? (i := 1084) (by decide +kernel), List.mem_of_getElem? (i := 1085) (by decide +kernel)⟩
theorem lw_p73 : lw_okq (⟨"TwoSetMachineModel", "hasSaved", "()Z"⟩, 14) := ⟨⟨by decide +kernel, by decide +kernel⟩, List.mem_of_getElem? (i := 816) (by decide +kernel), List.mem_of_getElem? (i := 1088) (by decide +kernel), List.mem_of_getElem? (i := 1089) (by decide +kernel)⟩
theorem lw_p74 : lw_okq (⟨"TwoSetMachineModel", "kept", "()I"⟩, 14) := ⟨⟨by decide +kernel, by decide +kernel⟩, List.mem_of_getElem? (i := 816) (by decide +kernel), List.mem_of_getElem? (i := 1092) (by decide +kernel), List.mem_of_getElem? (i := 1093) (by decide +kernel)⟩
theorem lw_p75 : lw_okq (⟨"TwoSetMachineModel", "conditional", "(II)V"⟩, 14) := ⟨⟨by decide +kernel, by decide +kernel⟩, List.mem_of_getElem? (i := 816) (by decide +kernel), List.mem_of_getElem? (i := 1097) (by decide +kernel), List.mem_of_getElem? (i := 1098) (by decide +kernel)⟩
theorem lw_p76 : lw_okq (⟨"TwoSetMachineModel", "isSo", "(I)Z"⟩, 14) := ⟨⟨by decide +kernel, by decide +kernel⟩, List.mem_of_getElem? (i := 816) (by decide +kernel), List.mem_of_getElem? (i := 1101) (by decide +kernel), List.mem_of_getElem? (i := 1102) (by decide +kernel)⟩
theorem lw_p77 : lw_okq (⟨"TwoSetMachineModel", "far", "(I)V"⟩, 14) := ⟨⟨by decide +kernel, by decide +kernel⟩, List.mem_of_getElem? (i := 816) (by decide +kernel), List.mem_of_getElem? (i := 1105) (by decide +kernel), List.mem_of_getElem? (i := 1106) (by decide +kernel)⟩
theorem lw_p78 : lw_okq (⟨"TwoSetMachineModel", "arm", "(I)V"⟩, 14) := ⟨⟨by decide +kernel, by decide +kernel⟩, List.mem_of_getElem? (i := 816) (by decide +kernel), List.mem_of_getElem? (i := 1109) (by decide +kernel), List.mem_of_getElem? (i := 1110) (by decide +kernel)⟩
theorem lw_p79 : lw_okq (⟨"TwoSetMachineModel", "multiply", "(I)V"⟩, 14) := ⟨⟨by decide +kernel, by decide +kernel⟩, List.mem_of_getElem? (i := 816) (by decide +kernel), List.mem_of_getElem? (i := 1115) (by decide +kernel), List.mem_of_getElem? (i := 1116) (by decide +kernel)⟩
def lw_privs_5 : List (MethodName × Nat) := [(⟨"TwoSetMachineModel", "loaded", "(II)I"⟩, 14), (⟨"TwoSetMachineModel", "wordAt", "(I)I"⟩, 14), (⟨"TwoSetMachineModel", "byteAt", "(I)I"⟩, 14), (⟨"TwoSetMachineModel", "storeAt", "(III)V"⟩, 14), (⟨"TwoSetMachineModel", "byRegisters", "(III)V"⟩, 14), (⟨"TwoSetMachineModel", "stack", "(I)V"⟩, 14), (⟨"TwoSetMachineModel", "many", "(ZIIZZZZ)V"⟩, 14), (⟨"TwoSetMachineModel", "nth", "(III)I"⟩, 14), (⟨"TwoSetMachineModel", "loadAll", "(IIIZ)V"⟩, 14), (⟨"TwoSetMachineModel", "hasSaved", "()Z"⟩, 14), (⟨"TwoSetMachineModel", "kept", "()I"⟩, 14), (⟨"TwoSetMachineModel", "conditional", "(II)V"⟩, 14), (⟨"TwoSetMachineModel", "isSo", "(I)Z"⟩, 14), (⟨"TwoSetMachineModel", "far", "(I)V"⟩, 14), (⟨"TwoSetMachineModel", "arm", "(I)V"⟩, 14), (⟨"TwoSetMachineModel", "multiply", "(I)V"⟩, 14)]
theorem lw_r5 : ∀ q ∈ lw_privs_5, lw_okq q := List.forall_mem_cons.mpr ⟨lw_p64, List.forall_mem_cons.mpr ⟨lw_p65, List.forall_mem_cons.mpr ⟨lw_p66, List.forall_mem_cons.mpr ⟨lw_p67, List.forall_mem_cons.mpr ⟨lw_p68, List.forall_mem_cons.mpr ⟨lw_p69, List.forall_mem_cons.mpr ⟨lw_p70, List.forall_mem_cons.mpr ⟨lw_p71, List.forall_mem_cons.mpr ⟨lw_p72, List.forall_mem_cons.mpr ⟨lw_p73, List.forall_mem_cons.mpr ⟨lw_p74, List.forall_mem_cons.mpr ⟨lw_p75, List.forall_mem_cons.mpr ⟨lw_p76, List.forall_mem_cons.mpr ⟨lw_p77, List.forall_mem_cons.mpr ⟨lw_p78, List.forall_mem_cons.mpr ⟨lw_p79, fun _ h => absurd h List.not_mem_nil⟩⟩⟩⟩⟩⟩⟩⟩⟩⟩⟩⟩⟩⟩⟩⟩
theorem lw_p80 : lw_okq (⟨"TwoSetMachineModel", "swap", "(I)V"⟩, 14) := ⟨⟨by decide +kernel, by decide +kernel⟩, List.mem_of_getElem? (i := 816) (by decide +kernel), List.mem_of_getElem? (i := 1119) (by decide +kernel), List.mem_of_getElem? (i := 1120) (by decide +kernel)⟩
theorem lw_p81 : lw_okq (⟨"TwoSetMachineModel", "halves", "(I)V"⟩, 14) := ⟨⟨by decide +kernel, by decide +kernel⟩, List.mem_of_getElem? (i := 816) (by decide +kernel), List.mem_of_getElem? (i := 1123) (by decide +kernel), List.mem_of_getElem? (i := 1124) (by decide +kernel)⟩
theorem lw_p82 : lw_okq (⟨"TwoSetMachineModel", "indexed", "(III)V"⟩, 14) := ⟨⟨by decide +kernel, by decide +kernel⟩, List.mem_of_getElem? (i := 816) (by decide +kernel), List.mem_of_getElem? (i := 1127) (by decide +kernel), List.mem_of_getElem? (i := 1128) (by decide +kernel)⟩
theorem lw_p83 : lw_okq (⟨"TwoSetMachineModel", "toStatus", "(I)V"⟩, 14) := ⟨⟨by decide +kernel, by decide +kernel⟩, List.mem_of_getElem? (i := 816) (by decide +kernel), List.mem_of_getElem? (i := 1134) (by decide +kernel), List.mem_of_getElem? (i := 1135) (by decide +kernel)⟩
theorem lw_p84 : lw_okq (⟨"TwoSetMachineModel", "turnedNumber", "(I)I"⟩, 14) := ⟨⟨by decide +kernel, by decide +kernel⟩, List.mem_of_getElem? (i := 816) (by decide +kernel), List.mem_of_getElem? (i := 1138) (by decide +kernel), List.mem_of_getElem? (i := 1139) (by decide +kernel)⟩
theorem lw_p85 : lw_okq (⟨"TwoSetMachineModel", "data", "(I)V"⟩, 14) := ⟨⟨by decide +kernel, by decide +kernel⟩, List.mem_of_getElem? (i := 816) (by decide +kernel), List.mem_of_getElem? (i := 1143) (by decide +kernel), List.mem_of_getElem? (i := 1144) (by decide +kernel)⟩
theorem lw_p86 : lw_okq (⟨"TwoSetMachineModel", "single", "(I)V"⟩, 14) := ⟨⟨by decide +kernel, by decide +kernel⟩, List.mem_of_getElem? (i := 816) (by decide +kernel), List.mem_of_getElem? (i := 1147) (by decide +kernel), List.mem_of_getElem? (i := 1148) (by decide +kernel)⟩
theorem lw_p87 : lw_okq (⟨"TwoSetMachineModel", "branch", "(I)V"⟩, 14) := ⟨⟨by decide +kernel, by decide +kernel⟩, List.mem_of_getElem? (i := 816) (by decide +kernel), List.mem_of_getElem? (i := 1151) (by decide +kernel), List.mem_of_getElem? (i := 1152) (by decide +kernel)⟩
def lw_privs_6 : List (MethodName × Nat) := [(⟨"TwoSetMachineModel", "swap", "(I)V"⟩, 14), (⟨"TwoSetMachineModel", "halves", "(I)V"⟩, 14), (⟨"TwoSetMachineModel", "indexed", "(III)V"⟩, 14), (⟨"TwoSetMachineModel", "toStatus", "(I)V"⟩, 14), (⟨"TwoSetMachineModel", "turnedNumber", "(I)I"⟩, 14), (⟨"TwoSetMachineModel", "data", "(I)V"⟩, 14), (⟨"TwoSetMachineModel", "single", "(I)V"⟩, 14), (⟨"TwoSetMachineModel", "branch", "(I)V"⟩, 14)]
theorem lw_r6 : ∀ q ∈ lw_privs_6, lw_okq q := List.forall_mem_cons.mpr ⟨lw_p80, List.forall_mem_cons.mpr ⟨lw_p81, List.forall_mem_cons.mpr ⟨lw_p82, List.forall_mem_cons.mpr ⟨lw_p83, List.forall_mem_cons.mpr ⟨lw_p84, List.forall_mem_cons.mpr ⟨lw_p85, List.forall_mem_cons.mpr ⟨lw_p86, List.forall_mem_cons.mpr ⟨lw_p87, fun _ h => absurd h List.not_mem_nil⟩⟩⟩⟩⟩⟩⟩⟩
def lw_privs : List (MethodName × Nat) := lw_privs_1 ++ (lw_privs_2 ++ (lw_privs_3 ++ (lw_privs_4 ++ (lw_privs_5 ++ (lw_privs_6)))))
def lw_tbl : List Cond := k2_sels lw_privs ++ tables_1
theorem lw_privs_ok : ∀ q ∈ lw_privs, lw_okq q := by
  show ∀ q ∈ lw_privs_1 ++ (lw_privs_2 ++ (lw_privs_3 ++ (lw_privs_4 ++ (lw_privs_5 ++ (lw_privs_6))))), lw_okq q
  exact List.forall_mem_append.mpr ⟨lw_r1, List.forall_mem_append.mpr ⟨lw_r2, List.forall_mem_append.mpr ⟨lw_r3, List.forall_mem_append.mpr ⟨lw_r4, List.forall_mem_append.mpr ⟨lw_r5, lw_r6⟩⟩⟩⟩⟩
-- ===== end of PART A; then your names; then what follows =====
end
section
/-! ===== BEGIN words of one list among another's, by their places ===== -/
theorem goodIn_r {big : List Cond} (ws : List Cond) (ps : List Nat) (hp : ws = ps.filterMap (fun i => big[i]?)) (h : ws.all goodWord = true) : GoodIn big ws := by
  intro w hw
  have h1 := List.all_eq_true.mp h w hw
  rw [hp] at hw
  obtain ⟨i, -, hi⟩ := List.mem_filterMap.mp hw
  have hm : w ∈ big := by first | exact List.mem_of_getElem? hi | exact List.getElem?_mem hi
  exact ⟨hm, good_of_word h1⟩
theorem goodIn_app {big a b : List Cond} (ha : GoodIn big a) (hb : GoodIn big b) : GoodIn big (a ++ b) := fun w h => (List.mem_append.mp h).elim (ha w) (hb w)
theorem goodIn_ca {big a b : List Cond} {c : Cond} (ha : GoodIn big (c :: a)) (hb : GoodIn big b) : GoodIn big (c :: (a ++ b)) := fun w h => (List.mem_cons.mp h).elim (fun e => ha w (List.mem_cons.mpr (Or.inl e))) (fun h => (List.mem_append.mp h).elim (fun h => ha w (List.mem_cons.mpr (Or.inr h))) (hb w))
theorem goodIn_sub {big ws : List Cond} (hm : ∀ w ∈ ws, w ∈ big) (h : ws.all goodWord = true) : GoodIn big ws := fun w hw => ⟨hm w hw, good_of_word (List.all_eq_true.mp h w hw)⟩
/-! ===== END ===== -/

/-! ===== BEGIN exceptions that leave a method, and their catching by the caller (launches without stack traces) ===== -/
section VXA
/-! The laws vx_back, vx_callV, vx_callS, vx_callSW, vx_throw0, vx_throwS follow proofs of the library, with one case more: JvmDerived/Free/Laws.lean (Back.of_free), Shelf42/LK1.lean (callV, callS), Shelf/KitTraced.lean (throwNew0V, throwNewS). -/
/-- where a method has thrown q: the class by its name, the cell, what was written, the world -/
def vx_T (XC : String → State → State → Prop) (st : State) (q : Addr) (t : State) (mc ms : Nat) (free : Addr → Prop) : Prop :=
  ∃ (E : String) (ce : Cell) (L : List Loc), XC E st t ∧ t.heap[q]? = some ce ∧ ce.vm = .none ∧ st.vm.findClass E = some ce.cls ∧ st.WarmedH t.vm ∧ st.sameButNew ({ t with vm := st.vm } : State) L mc ms ∧ ∀ z ∈ L, free z.base
def vx_Q (Qc : Array Value → State → Outcome → State → Prop) (XC : String → State → State → Prop) (mc ms : Nat) (free : Addr → Prop) : Array Value → State → Outcome → State → Prop := fun a st o t =>
  (Qc a st o t ∧ ∃ L, FrameEnd st o t L mc ms ∧ ∀ q ∈ L, free q.base) ∨ ∃ q, o = .threw q ∧ vx_T XC st q t mc ms free
/-- a callee that returns or throws -/
def vx_Met (l : Launch) (y : MethodName) (ws : List Cond) (rm : Room) (Pc : Array Value → State → Prop) (Qc : Array Value → State → Outcome → State → Prop) (XC : String → State → State → Prop) (mc ms : Nat) (free : Addr → Prop) : Prop :=
  MetFree l y (headSpec ws rm) Pc (fun _ _ _ _ _ => True) (vx_Q Qc XC mc ms free)
def vx_Post (XC : String → State → State → Prop) (mc ms : Nat) (free : Addr → Prop) : Pt → Array Value → Addr → Pt → Prop := fun A a q B =>
  ∃ (g : JFrame) (mk : MethodId) (t : State) (L : List Loc) (E : String) (ce : Cell), B.U.heap = t.heap ∧ B.U.vm = t.vm ∧ XC E (A.U.calling g mk a) t ∧ t.heap[q]? = some ce ∧ ce.vm = .none ∧ A.U.vm.findClass E = some ce.cls ∧ B.locs = A.locs ++ L ∧ (∀ z ∈ L, free z.base) ∧ B.cells = A.cells + mc ∧ B.slots = A.slots + ms
def vx_Back (l : Launch) (R : Room) (p : Program) (e : Env) (below : List Frame) (s : State) (sargs : Array Value) (y : MethodName) (len W9 : Nat)
    (Pre : Pt → Array Value → Prop) (Post : Pt → Array Value → Option Value → Pt → Prop) (PostX : Pt → Array Value → Addr → Pt → Prop) : Prop :=
  ∀ (m : MethodId) (meth : Method) (c : Code) (A : Pt) (g : JFrame) (ig : Instr) (mk : MethodId) (a : Array Value),
    Stand p l e R s m sargs below meth c A.U A.locs A.cells A.slots → g.method = m → g.locals.size = c.maxLocals → decode c.code g.pc = .ok (ig, len) →
    2 * g.monitorRoom + (g.stack.map fun v => v.category).sum ≤ W9 → A.U.methodNamed? y = some mk → Pre A a →
    (∃ (v : Option Value) (B : Pt), Stand p l e R s m sargs below meth c B.U B.locs B.cells B.slots ∧ Post A a v B ∧
      Steps p.tables e below (doInvoke e (A.U.setTop g) [] mk a).1 (B.U.setTop { g with pc := g.pc + len, stack := v.toList ++ g.stack })) ∨
    (∃ (q : Addr) (B : Pt), Stand p l e R s m sargs below meth c B.U B.locs B.cells B.slots ∧ PostX A a q B ∧
      Steps p.tables e below (doInvoke e (A.U.setTop g) [] mk a).1 ((B.U.setTop g).pushFrame (.throwing q)))
section Payer
variable {l : Launch} {R : Room} {p : Program} {e : Env} {below : List Frame} {s : State} {sargs : Array Value} {y : MethodName} {len W9 : Nat}
theorem vx_back {ws : List Cond} {rm : Room} {Pc : Array Value → State → Prop} {Qc : Array Value → State → Outcome → State → Prop} {XC : String → State → State → Prop} {mc ms : Nat} {free : Addr → Prop} {bytes : ByteArray} {maxL : Nat} {ret : Option FieldType}
    (hM : vx_Met l y ws rm Pc Qc XC mc ms free) (hblind : FrameBlind Pc) (hrc : rm.cells = mc) (hrs : rm.slots = ms)
    (hframes : rm.frames + 1 ≤ R.frames) (hlocals : W9 + (maxL + 11) + rm.locals ≤ R.locals)
    (hws : ∀ w ∈ ws, ∀ a' U, s.WarmedH U.vm → w.before a' U = true) (hcode : Cond.code y bytes maxL ret ∈ ws) (hinit : ∀ a' U, s.WarmedH U.vm → (Cond.initialized y.cls).before a' U = true) :
    vx_Back l R p e below s sargs y len W9 (PreOf R mc ms Pc) (PostOf Qc mc ms free) (vx_Post XC mc ms free) := by
  intro m meth c A g ig mk a X hg hsize hdg hW hn hp
  have h1 : (headSpec ws rm).pre.before a A.U = true := atoms_intro fun w hw => hws w hw _ _ X.warmed
  have h2 : (Cond.code y bytes maxL ret).before a A.U = true := hws _ hcode _ _ X.warmed
  have h3 : (Cond.initialized y.cls).before a A.U = true := hinit _ _ X.warmed
  have h4 : A.cells + (headSpec ws rm).room.cells ≤ R.cells := by rw [show (headSpec ws rm).room.cells = mc from hrc]; exact hp.1
  have h5 : A.slots + (headSpec ws rm).room.slots ≤ R.slots := by rw [show (headSpec ws rm).room.slots = ms from hrs]; exact hp.2.1
  have hPc : Pc a (A.U.calling g mk a) := hblind _ _ _ _ hp.2.2
  obtain ⟨U, Ls, c0, s0⟩ := A
  dsimp only [Pt.U, Pt.locs, Pt.cells, Pt.slots] at h1 h2 h3 h4 h5 X hn hPc ⊢
  obtain ⟨methY, cY, hmY, hcY, -, hlY, -, -, -, -⟩ := Cond.code_spec hn h2
  obtain ⟨kY, hkY, -⟩ := className_of_methodNamed hn
  have hinitY : kY.init = .initialized := Cond.initialized_spec (findClass_of_methodNamed hn) hkY h3
  have h : At U g.method c below := by rw [hg]; exact X.here
  have hlocals9 : W9 + (maxL + 11) + (headSpec ws rm).room.locals ≤ R.locals := hlocals
  have happ : (headSpec ws rm).appliesLoose y e.platform (U.calling g mk a) = true :=
    Spec.appliesLoose_calling (g := g) h hdg hn hkY hinitY
      (X.room_calling (g := g) (R' := (headSpec ws rm).room) hsize hmY hcY hframes (by rw [hlY]; omega) h4 h5) h1
  obtain ⟨mid, hmid⟩ := h.above
  have hfr : (U.setTop g).frames = (.java g :: mid) ++ below := by rw [State.frames_setTop' g h.top, hmid]; rfl
  obtain ⟨o, s₂, hsteps, -, hend, hq⟩ := Steps.callFree hM p X.admits X.cas X.clock (acts := []) hfr happ hPc trivial
  have hq' : vx_Q Qc XC mc ms free a (U.calling g mk a) o s₂ := hq
  rw [State.frames_setTop' g h.top] at hend
  obtain ⟨g₀, hg0⟩ := Option.isSome_iff_exists.mp h.top
  obtain ⟨r, hr⟩ := State.topJava?_eq_some.mp hg0
  have hr' : (({ U with heap := s₂.heap, slotsUsed := s₂.slotsUsed } : State).setVm s₂.vm).frames = .java g₀ :: r := hr
  rcases hq' with ⟨hqc, L, hfe, hL⟩ | ⟨q, rfl, E, ce, L, hx, hce, hcv, hcl, hW₂, hsm, hL⟩
  · obtain ⟨⟨v, rfl⟩, hW₂, e2, q2, q3, q4, q5, q6⟩ := id hfe
    have e3 : s₂ = ({ (U.calling g mk a).setFrames s₂.frames with heap := s₂.heap, slotsUsed := s₂.slotsUsed } : State).setVm s₂.vm := by
      have : s₂ = ({ s₂ with vm := (U.calling g mk a).vm } : State).setVm s₂.vm := rfl
      rw [e2] at this
      exact this
    obtain ⟨c₂, i₂, len₂, hc₂, hd₂, hf₂⟩ := hend
    have hW' : U.WarmedH s₂.vm := hW₂
    have hcc : c₂ = c := by
      have h1 : s₂.code? g.method = U.code? g.method := by
        rw [State.code?_eq, State.code?_eq, hW'.alike.method?]
      exact Option.some.inj (hc₂.symm.trans (h1.trans h.code))
    subst hcc
    have hlen : len₂ = len := by rw [hdg] at hd₂; cases hd₂; rfl
    subst hlen
    have hs₂ : s₂ = (({ U with heap := s₂.heap, slotsUsed := s₂.slotsUsed } : State).setVm s₂.vm).setTop { g with pc := g.pc + len₂, stack := v.toList ++ g.stack } := by
      refine e3.trans ?_
      rw [hf₂, State.calling_eq h.top, State.setFrames_setFrames, State.setTop_of_frames _ hr', hr]
      rfl
    have hsame : U.sameButNew ({ U with heap := s₂.heap, slotsUsed := s₂.slotsUsed } : State) L mc ms := by
      refine ⟨?_, q2, q3, q4, q5, q6⟩
      obtain ⟨t, ht, -⟩ := State.frames_cons hr
      show ({ U with heap := s₂.heap, slotsUsed := s₂.slotsUsed } : State) = { U.setFrames U.frames with heap := s₂.heap, slotsUsed := s₂.slotsUsed }
      rw [State.setFrames_self ht]
    subst hg
    refine Or.inl ⟨v, ⟨(({ U with heap := s₂.heap, slotsUsed := s₂.slotsUsed } : State).setVm s₂.vm), Ls ++ L, c0 + mc, s0 + ms⟩,
      ⟨X.admits, X.cas, X.clock, X.frames, X.room, X.hears, X.method, X.code, (X.here.setHeapUsed s₂.heap s₂.slotsUsed).setVm hW'.alike, X.tail, State.WarmedH.trans X.warmed hW', X.limits, X.bytes, X.same.trans (hsame.setVm s.vm)⟩,
      ⟨g, mk, s₂, L, rfl, rfl, hqc, rfl, hL, rfl, rfl⟩, ?_⟩
    show Steps p.tables e below _ ((({ U with heap := s₂.heap, slotsUsed := s₂.slotsUsed } : State).setVm s₂.vm).setTop { g with pc := g.pc + len₂, stack := v.toList ++ g.stack })
    rw [← hs₂]
    exact hsteps
  · obtain ⟨e2, q2, q3, q4, q5, q6⟩ := id hsm
    have e3 : s₂ = ({ (U.calling g mk a).setFrames s₂.frames with heap := s₂.heap, slotsUsed := s₂.slotsUsed } : State).setVm s₂.vm := by
      have : s₂ = ({ s₂ with vm := (U.calling g mk a).vm } : State).setVm s₂.vm := rfl
      rw [e2] at this
      exact this
    have hf₂ : s₂.frames = .throwing q :: .java g :: U.frames.tail := hend
    have hW' : U.WarmedH s₂.vm := hW₂
    have hs₂ : s₂ = ((({ U with heap := s₂.heap, slotsUsed := s₂.slotsUsed } : State).setVm s₂.vm).setTop g).pushFrame (.throwing q) := by
      refine e3.trans ?_
      rw [hf₂, State.calling_eq h.top, State.setFrames_setFrames, State.pushFrame, State.frames_setTop _ hr', State.setTop_of_frames _ hr', State.setFrames_setFrames, hr]
      rfl
    have hsame : U.sameButNew ({ U with heap := s₂.heap, slotsUsed := s₂.slotsUsed } : State) L mc ms := by
      refine ⟨?_, q2, q3, q4, q5, q6⟩
      obtain ⟨t, ht, -⟩ := State.frames_cons hr
      show ({ U with heap := s₂.heap, slotsUsed := s₂.slotsUsed } : State) = { U.setFrames U.frames with heap := s₂.heap, slotsUsed := s₂.slotsUsed }
      rw [State.setFrames_self ht]
    subst hg
    refine Or.inr ⟨q, ⟨(({ U with heap := s₂.heap, slotsUsed := s₂.slotsUsed } : State).setVm s₂.vm), Ls ++ L, c0 + mc, s0 + ms⟩,
      ⟨X.admits, X.cas, X.clock, X.frames, X.room, X.hears, X.method, X.code, (X.here.setHeapUsed s₂.heap s₂.slotsUsed).setVm hW'.alike, X.tail, State.WarmedH.trans X.warmed hW', X.limits, X.bytes, X.same.trans (hsame.setVm s.vm)⟩,
      ⟨g, mk, s₂, L, E, ce, rfl, rfl, hx, hce, hcv, hcl, rfl, hL, rfl, rfl⟩, ?_⟩
    show Steps p.tables e below _ (((({ U with heap := s₂.heap, slotsUsed := s₂.slotsUsed } : State).setVm s₂.vm).setTop g).pushFrame (.throwing q))
    rw [← hs₂]
    exact hsteps
end Payer
section Calls
variable {p : Program} {l : Launch} {e : Env} {R : Room} {s : State} {m : MethodId} {args : Array Value} {below : List Frame} {meth : Method} {c : Code} {T : State} {locs : List Loc} {cells slots : Nat}
theorem vx_callV (X : Stand p l e R s m args below meth c T locs cells slots) (hexec : p.tables.exec = Jvm.exec) {own C : String} {index : Nat} {y : MethodName} {bytes : ByteArray} {maxL : Nat} {ret : Option FieldType}
    (hown : s.vm.findClass own = some m.cls) (hlink : (Cond.methodLink own index y).before args s = true) (hinst : (Cond.instanceMethod y).before args s = true) (hsel : (Cond.selects C y y).before args s = true)
    (hcode : (Cond.code y bytes maxL ret).before args s = true) (hy : y.cls ≠ "java/lang/invoke/MethodHandle" ∧ y.cls ≠ "java/lang/invoke/VarHandle")
    {W9 : Nat} {Pre : Pt → Array Value → Prop} {Post : Pt → Array Value → Option Value → Pt → Prop} {PostX : Pt → Array Value → Addr → Pt → Prop} (hK : vx_Back l R p e below s args y 3 W9 Pre Post PostX)
    {b : Addr} {cellB : Cell} (hcell : T.heap[b]? = some cellB) (hobj : cellB.vm.isStatics = false) (hcls : s.vm.findClass C = some cellB.cls)
    {g : JFrame} (hg : g.method = m) (hsize : g.locals.size = c.maxLocals) {argsL rest : List Value} (hlen : ∀ sig, parseMethodDescriptor y.desc = some sig → argsL.length = sig.parameters.length)
    (hstack : g.stack = argsL.reverse ++ .ref b :: rest) (hW : 2 * g.monitorRoom + (rest.map fun v => v.category).sum ≤ W9) (hdg : decode c.code g.pc = .ok (.invokevirtual index, 3))
    (hpre : ∀ vm₁, s.WarmedH vm₁ → Pre ⟨T.setVm vm₁, locs, cells, slots⟩ (Value.ref b :: argsL).toArray) :
    (∃ (v : Option Value) (vm₁ : Vm) (B : Pt), s.WarmedH vm₁ ∧ Stand p l e R s m args below meth c B.U B.locs B.cells B.slots ∧ Post ⟨T.setVm vm₁, locs, cells, slots⟩ (Value.ref b :: argsL).toArray v B ∧
      ∀ target, Steps p.tables e below (B.U.setTop { g with pc := g.pc + 3, stack := v.toList ++ rest }) target → Steps p.tables e below (T.setTop g) target) ∨
    (∃ (q : Addr) (vm₁ : Vm) (B : Pt), s.WarmedH vm₁ ∧ Stand p l e R s m args below meth c B.U B.locs B.cells B.slots ∧ PostX ⟨T.setVm vm₁, locs, cells, slots⟩ (Value.ref b :: argsL).toArray q B ∧
      Steps p.tables e below (T.setTop g) ((B.U.setTop { g with stack := rest }).pushFrame (.throwing q))) := by
  obtain ⟨mk, methM, hnamed, hmethM, hstM, habM⟩ := Cond.instanceMethod_spec hinst
  obtain ⟨methM', cM, hmethM', -, -, -, -, -, -, hsigM⟩ := Cond.code_spec hnamed hcode
  cases hmethM.symm.trans hmethM'
  obtain ⟨c2, r2, m2, q1, q2, q3, q4, kP, hkP, hkPi⟩ := Cond.selects_spec hsel
  cases hcls.symm.trans q1
  cases (State.methodFound?_of_named hnamed hy).symm.trans q2
  cases hnamed.symm.trans q3
  have hselP : selectMethod e.platform s.vm cellB.cls mk = .method mk := by rw [Launch.admits_selectMethod X.admits]; exact q4
  obtain ⟨vm₁, X₁, hstep₁⟩ := X.invokevirtual hexec hown hlink hnamed hmethM hstM hkP hkPi hy (a := b) (cell := cellB) hcell
    (fun z h => by rw [h] at hobj; cases hobj) hselP hmethM habM hkP hkPi (g := g) hg (argsL := argsL) (rest := rest) (hlen _ hsigM) hstack hdg
  rcases hK m meth c ⟨T.setVm vm₁, locs, cells, slots⟩ { g with stack := rest } (.invokevirtual index) mk (Value.ref b :: argsL).toArray X₁ hg hsize hdg hW (X₁.named hnamed) (hpre vm₁ X₁.warmed) with ⟨v, B, X', hpost, hsteps⟩ | ⟨q, B, X', hpost, hsteps⟩
  · exact Or.inl ⟨v, vm₁, B, X₁.warmed, X', hpost, fun target h => hstep₁ _ fun acts => by rw [doInvoke_state]; exact hsteps.trans h⟩
  · exact Or.inr ⟨q, vm₁, B, X₁.warmed, X', hpost, hstep₁ _ fun acts => by rw [doInvoke_state]; exact hsteps⟩
theorem vx_callS (X : Stand p l e R s m args below meth c T locs cells slots) (hexec : p.tables.exec = Jvm.exec) {own : String} {index : Nat} {y : MethodName} {bytes : ByteArray} {maxL : Nat} {ret : Option FieldType}
    (hown : s.vm.findClass own = some m.cls) (hlink : (Cond.methodLink own index y).before args s = true) (hstat : (Cond.static y).before args s = true) (hinit : (Cond.initialized y.cls).before args s = true)
    (hcode : (Cond.code y bytes maxL ret).before args s = true) (hy : y.cls ≠ "java/lang/invoke/MethodHandle" ∧ y.cls ≠ "java/lang/invoke/VarHandle")
    {W9 : Nat} {Pre : Pt → Array Value → Prop} {Post : Pt → Array Value → Option Value → Pt → Prop} {PostX : Pt → Array Value → Addr → Pt → Prop} (hK : vx_Back l R p e below s args y 3 W9 Pre Post PostX)
    {g : JFrame} (hg : g.method = m) (hsize : g.locals.size = c.maxLocals) {argsL rest : List Value} (hlen : ∀ sig, parseMethodDescriptor y.desc = some sig → argsL.length = sig.parameters.length)
    (hstack : g.stack = argsL.reverse ++ rest) (hW : 2 * g.monitorRoom + (rest.map fun v => v.category).sum ≤ W9) (hdg : decode c.code g.pc = .ok (.invokestatic index, 3))
    (hpre : ∀ vm₁, s.WarmedH vm₁ → Pre ⟨T.setVm vm₁, locs, cells, slots⟩ argsL.toArray) :
    (∃ (v : Option Value) (vm₁ : Vm) (B : Pt), s.WarmedH vm₁ ∧ Stand p l e R s m args below meth c B.U B.locs B.cells B.slots ∧ Post ⟨T.setVm vm₁, locs, cells, slots⟩ argsL.toArray v B ∧
      ∀ target, Steps p.tables e below (B.U.setTop { g with pc := g.pc + 3, stack := v.toList ++ rest }) target → Steps p.tables e below (T.setTop g) target) ∨
    (∃ (q : Addr) (vm₁ : Vm) (B : Pt), s.WarmedH vm₁ ∧ Stand p l e R s m args below meth c B.U B.locs B.cells B.slots ∧ PostX ⟨T.setVm vm₁, locs, cells, slots⟩ argsL.toArray q B ∧
      Steps p.tables e below (T.setTop g) ((B.U.setTop { g with stack := rest }).pushFrame (.throwing q))) := by
  obtain ⟨mk, hnamed⟩ := Cond.code_named hcode
  obtain ⟨methM, cM, hmethM, -, -, -, -, -, -, hsigM⟩ := Cond.code_spec hnamed hcode
  have hstatic : methM.isStatic = true := Cond.static_spec hnamed hmethM hstat
  obtain ⟨kP, hkP, -⟩ := className_of_methodNamed hnamed
  have hinitP : kP.init = .initialized := Cond.initialized_spec (findClass_of_methodNamed hnamed) hkP hinit
  obtain ⟨vm₁, X₁, hstep₁⟩ := X.invokestatic hexec hown hlink hnamed hmethM hstatic hkP hinitP hy (g := g) hg (argsL := argsL) (rest := rest) (hlen _ hsigM) hstack hdg
  rcases hK m meth c ⟨T.setVm vm₁, locs, cells, slots⟩ { g with stack := rest } (.invokestatic index) mk argsL.toArray X₁ hg hsize hdg hW (X₁.named hnamed) (hpre vm₁ X₁.warmed) with ⟨v, B, X', hpost, hsteps⟩ | ⟨q, B, X', hpost, hsteps⟩
  · exact Or.inl ⟨v, vm₁, B, X₁.warmed, X', hpost, fun target h => hstep₁ _ fun acts => by rw [doInvoke_state]; exact hsteps.trans h⟩
  · exact Or.inr ⟨q, vm₁, B, X₁.warmed, X', hpost, hstep₁ _ fun acts => by rw [doInvoke_state]; exact hsteps⟩
end Calls
theorem vx_cls {s : State} {T : State} {vm₁ : Vm} {E : String} {k : ClassId} (hW : s.WarmedH vm₁) (h : (T.setVm vm₁).vm.findClass E = some k) : s.vm.findClass E = some k := by
  have h1 : vm₁.findClass E = some k := h
  rw [hW.alike.findClass] at h1
  exact h1
/-- the method's frame g, with q thrown over it -/
def vx_W (p : Program) (l : Launch) (e : Env) (R : Room) (s : State) (m : MethodId) (args : Array Value) (below : List Frame) (meth : Method) (c : Code) (H : Heap) (locs : List Loc) (cells slots : Nat) (Q : State → Prop) (g : JFrame) (q : Addr) : Prop :=
  ∀ T : State, T.heap = H → Stand p l e R s m args below meth c T locs cells slots → ∃ t, Steps p.tables e below ((T.setTop g).pushFrame (.throwing q)) t ∧ Q t
def vx_Run (p : Program) (l : Launch) (e : Env) (R : Room) (s : State) (m : MethodId) (args : Array Value) (below : List Frame) (meth : Method) (c : Code) (H : Heap) (locs : List Loc) (cells slots mc ms : Nat) (g : JFrame) (rest : List Value) (Qa : State → Outcome → State → Prop) (XC : String → State → State → Prop) (free : Addr → Prop) : Prop :=
  ∀ T : State, T.heap = H → Stand p l e R s m args below meth c T locs cells slots →
    (∃ (v : Option Value) (st₀ t T' : State) (L : List Loc), st₀.heap = H ∧ Stand p l e R s m args below meth c T' (locs ++ L) (cells + mc) (slots + ms) ∧ (∀ q ∈ L, free q.base) ∧ T'.heap = t.heap ∧ T'.vm = t.vm ∧ Qa st₀ (.returned v) t ∧
      Goes p e below T g T' { g with pc := g.pc + 3, stack := v.toList ++ rest }) ∨
    (∃ (q : Addr) (st₀ t T' : State) (L : List Loc) (E : String) (ce : Cell), st₀.heap = H ∧ Stand p l e R s m args below meth c T' (locs ++ L) (cells + mc) (slots + ms) ∧ (∀ z ∈ L, free z.base) ∧ T'.heap = t.heap ∧ T'.vm = t.vm ∧ XC E st₀ t ∧ t.heap[q]? = some ce ∧ ce.vm = .none ∧ s.vm.findClass E = some ce.cls ∧
      Steps p.tables e below (T.setTop g) ((T'.setTop { g with stack := rest }).pushFrame (.throwing q)))
def vx_X {S : Type} (px : S → Prop) (B : String → S → State → Prop) (A : Nat → Prop) : String → State → State → Prop := fun E st t => ∃ u : S, px u ∧ B E u t ∧ va_F A st t
section Runs
variable {p : Program} {l : Launch} {e : Env} {R : Room} {s : State} {m : MethodId} {args : Array Value} {below : List Frame} {meth : Method} {c : Code} {H : Heap} {locs : List Loc} {cells slots : Nat}
variable {y : MethodName} {bytes cc : ByteArray} {maxL nL mc ms n index : Nat} {ret : Option FieldType} {ws : List Cond} {rm : Room} {Pc : Array Value → State → Prop} {Qc : Array Value → State → Outcome → State → Prop} {XC : String → State → State → Prop} {free : Addr → Prop} {Ts : List Cond} {own C : String} {b : Addr} {As rest : List Value} {g : JFrame}
theorem vx_callBack (cb : CallB R s args own index y bytes maxL ret ws rm mc ms n) (hM : vx_Met l y ws rm Pc Qc XC mc ms free) (hbl : FrameBlind Pc) : vx_Back l R p e below s args y 3 8 (PreOf R mc ms Pc) (PostOf Qc mc ms free) (vx_Post XC mc ms free) := by
  obtain ⟨hrc, hrs, hfr, hlo, hws, hcw, -, hini, -⟩ := cb
  exact vx_back (bytes := bytes) (maxL := maxL) (ret := ret) hM hbl hrc hrs hfr hlo hws hcw (fun a' U hW => word_at hW (Or.inl (by first | rfl | simp [Cond.onTables, Cond.keeps, Cond.steady])) hini)
theorem vx_runV (S : CallFix p m c cc nL s args Ts own) (hM : vx_Met l y ws rm Pc Qc XC mc ms free) (cw : CallW R s args own C index y bytes maxL ret ws rm mc ms n) (hp : PreV s H C b Pc As)
    (hg : g.method = m) (hn : As.length = n) (hsize : g.locals.size = nL) (hstack : g.stack = As.reverse ++ .ref b :: rest) (hW : 2 * g.monitorRoom + (rest.map fun v => v.category).sum ≤ 8) (hdg : decode cc g.pc = .ok (.invokevirtual index, 3)) (hf : cells + mc ≤ R.cells ∧ slots + ms ≤ R.slots) :
    vx_Run p l e R s m args below meth c H locs cells slots mc ms g rest (Qc (Value.ref b :: As).toArray) XC free := by
  have hK : vx_Back l R p e below s args y 3 8 (PreOf R mc ms Pc) (PostOf Qc mc ms free) (vx_Post XC mc ms free) := vx_callBack cw.1 hM hp.1
  obtain ⟨⟨-, -, -, -, -, -, hcode, -, hy, hlen, hl⟩, hin, hse⟩ := cw
  obtain ⟨hx, hb, hml, ho, -⟩ := S
  obtain ⟨-, ⟨cellB, hcB, hoB, hclB⟩, hPc⟩ := hp
  intro T hT X
  rcases vx_callV X hx (C := C) (bytes := bytes) (maxL := maxL) (ret := ret) ho hl hin hse hcode hy hK (by rw [hT]; exact hcB) hoB hclB hg (hsize.trans hml.symm) (argsL := As) (rest := rest) (fun sig h => hn.trans (hlen sig h)) hstack hW (by rw [hb]; exact hdg)
    (fun vm₁ hW₁ => ⟨hf.1, hf.2, hPc (T.setVm vm₁) hT hW₁⟩) with ⟨v, vm₁, ⟨U', l2, c2, s2⟩, hW₁, X', ⟨g', mk, t, L, e1, e2, hq, h1, hL, h2, h3⟩, st⟩ | ⟨q, vm₁, ⟨U', l2, c2, s2⟩, hW₁, X', ⟨g', mk, t, L, E, ce, e1, e2, hq, hce, hcv, hcl, h1, hL, h2, h3⟩, st⟩
  · dsimp only [Pt.U, Pt.locs, Pt.cells, Pt.slots] at X' e1 e2 h1 h2 h3 st
    subst h1; subst h2; subst h3
    exact Or.inl ⟨v, (T.setVm vm₁).calling g' mk (Value.ref b :: As).toArray, t, U', L, hT, X', hL, e1, e2, hq, st⟩
  · dsimp only [Pt.U, Pt.locs, Pt.cells, Pt.slots] at X' e1 e2 h1 h2 h3 st hcl
    subst h1; subst h2; subst h3
    exact Or.inr ⟨q, (T.setVm vm₁).calling g' mk (Value.ref b :: As).toArray, t, U', L, E, ce, hT, X', hL, e1, e2, hq, hce, hcv, vx_cls hW₁ hcl, st⟩
theorem vx_runS (S : CallFix p m c cc nL s args Ts own) (hM : vx_Met l y ws rm Pc Qc XC mc ms free) (cw : CallB R s args own index y bytes maxL ret ws rm mc ms n ∧ (Cond.static y).before args s = true) (hp : PreS s H Pc As)
    (hg : g.method = m) (hn : As.length = n) (hsize : g.locals.size = nL) (hstack : g.stack = As.reverse ++ rest) (hW : 2 * g.monitorRoom + (rest.map fun v => v.category).sum ≤ 8) (hdg : decode cc g.pc = .ok (.invokestatic index, 3)) (hf : cells + mc ≤ R.cells ∧ slots + ms ≤ R.slots) :
    vx_Run p l e R s m args below meth c H locs cells slots mc ms g rest (Qc As.toArray) XC free := by
  have hK : vx_Back l R p e below s args y 3 8 (PreOf R mc ms Pc) (PostOf Qc mc ms free) (vx_Post XC mc ms free) := vx_callBack cw.1 hM hp.1
  obtain ⟨⟨-, -, -, -, -, -, hcode, hini, hy, hlen, hl⟩, hstt⟩ := cw
  obtain ⟨hx, hb, hml, ho, -⟩ := S
  intro T hT X
  rcases vx_callS X hx (bytes := bytes) (maxL := maxL) (ret := ret) ho hl hstt hini hcode hy hK hg (hsize.trans hml.symm) (argsL := As) (rest := rest) (fun sig h => hn.trans (hlen sig h)) hstack hW (by rw [hb]; exact hdg)
    (fun vm₁ hW₁ => ⟨hf.1, hf.2, hp.2 (T.setVm vm₁) hT hW₁⟩) with ⟨v, vm₁, ⟨U', l2, c2, s2⟩, hW₁, X', ⟨g', mk, t, L, e1, e2, hq, h1, hL, h2, h3⟩, st⟩ | ⟨q, vm₁, ⟨U', l2, c2, s2⟩, hW₁, X', ⟨g', mk, t, L, E, ce, e1, e2, hq, hce, hcv, hcl, h1, hL, h2, h3⟩, st⟩
  · dsimp only [Pt.U, Pt.locs, Pt.cells, Pt.slots] at X' e1 e2 h1 h2 h3 st
    subst h1; subst h2; subst h3
    exact Or.inl ⟨v, (T.setVm vm₁).calling g' mk As.toArray, t, U', L, hT, X', hL, e1, e2, hq, st⟩
  · dsimp only [Pt.U, Pt.locs, Pt.cells, Pt.slots] at X' e1 e2 h1 h2 h3 st hcl
    subst h1; subst h2; subst h3
    exact Or.inr ⟨q, (T.setVm vm₁).calling g' mk As.toArray, t, U', L, E, ce, hT, X', hL, e1, e2, hq, hce, hcv, vx_cls hW₁ hcl, st⟩
end Runs
section Rows
variable {p : Program} {l : Launch} {e : Env} {R : Room} {s : State} {m : MethodId} {args : Array Value} {below : List Frame} {meth : Method} {c : Code} {H : Heap} {locs : List Loc} {cells slots : Nat} {Q : State → Prop}
variable {mc ms : Nat} {free : Addr → Prop} {A0 A1 : Nat → Prop} {H0 : Heap} {a : Array Value} {pc : Nat} {ls : Array Slot} {st0 rest : List Value}
theorem vx_keep {st₀ t T' : State} {L : List Loc} (h0 : st₀.heap = H) (e1 : T'.heap = t.heap) (hS : va_S A0 H0 H locs) (hA : ∀ q, q < H.size → A1 q → A0 q) (hf : ∀ q, free q → A0 q) (hL : ∀ q ∈ L, free q.base) (hF : va_F A1 st₀ t) :
    H.size ≤ T'.heap.size ∧ (∀ q : Nat, q < H.size → ¬ A1 q → T'.heap[q]? = H[q]?) ∧ va_S A0 H0 T'.heap (locs ++ L) := by
  obtain ⟨hz, hk⟩ := hF
  rw [h0] at hz hk
  exact ⟨by rw [e1]; exact hz, fun q h1 h2 => by rw [e1]; exact hk q h1 h2,
    ⟨Nat.le_trans hS.1 (by rw [e1]; exact hz), fun q h1 h2 => by rw [e1, hk q (Nat.lt_of_lt_of_le h1 hS.1) (fun z => h2 (hA q (Nat.lt_of_lt_of_le h1 hS.1) z))]; exact hS.2.1 q h1 h2, fun q hq => by
      rcases List.mem_append.mp hq with h | h
      · exact hS.2.2 q h
      · exact hf _ (hL q h)⟩⟩
theorem vx_calli {S SX : Type} {post : Int32 → S → Prop} {px : SX → Prop} {B : S → State → Prop} {BX : String → SX → State → Prop} {AX : Nat → Prop} (hr : vx_Run p l e R s m args below meth c H locs cells slots mc ms (F0 m pc ls st0) rest (va_Qi post B A1 a) (vx_X px BX AX) free) (hS : va_S A0 H0 H locs) (hA : ∀ q, q < H.size → A1 q → A0 q) (hf : ∀ q, free q → A0 q) (hAX : ∀ q, q < H.size → AX q → A0 q)
    (kx : ∀ (E : String) (ce : Cell) (q9 : Addr) (u : SX) (t : State) (H1 : Heap) (locs1 : List Loc), t.heap = H1 → s.vm.Alike t.vm → px u → BX E u t → H.size ≤ H1.size → (∀ q : Nat, q < H.size → ¬ AX q → H1[q]? = H[q]?) → va_S A0 H0 H1 locs1 → H1[q9]? = some ce → ce.vm = .none → s.vm.findClass E = some ce.cls → vx_W p l e R s m args below meth c H1 locs1 (cells + mc) (slots + ms) Q (F0 m pc ls rest) q9)
    (kk : ∀ (r : Int32) (u : S) (t : State) (H1 : Heap) (locs1 : List Loc), t.heap = H1 → s.vm.Alike t.vm → post r u → B u t → H.size ≤ H1.size → (∀ q : Nat, q < H.size → ¬ A1 q → H1[q]? = H[q]?) → va_S A0 H0 H1 locs1 → W p l e R s m args below meth c H1 locs1 (cells + mc) (slots + ms) Q (F0 m (pc + 3) ls (.int r :: rest))) : W p l e R s m args below meth c H locs cells slots Q (F0 m pc ls st0) := by
  intro T hT X
  rcases hr T hT X with ⟨v, st₀, t, T', L, h0, X', hL, e1, e2, ⟨⟨r, u, hv, hp, hb⟩, hF⟩, st⟩ | ⟨q, st₀, t, T', L, E, ce, h0, X', hL, e1, e2, ⟨u, hp, hb, hF⟩, hce, hcv, hcl, st⟩
  · cases hv
    obtain ⟨k1, k2, k3⟩ := vx_keep h0 e1 hS hA hf hL hF
    obtain ⟨t2, a1, b1⟩ := kk r u t T'.heap (locs ++ L) e1.symm (by rw [← e2]; exact X'.warmed.alike) hp hb k1 k2 k3 T' rfl X'
    exact ⟨t2, st t2 a1, b1⟩
  · obtain ⟨k1, k2, k3⟩ := vx_keep h0 e1 hS hAX hf hL hF
    obtain ⟨t2, a1, b1⟩ := kx E ce q u t T'.heap (locs ++ L) e1.symm (by rw [← e2]; exact X'.warmed.alike) hp hb k1 k2 k3 (by rw [e1]; exact hce) hcv hcl T' rfl X'
    exact ⟨t2, st.trans a1, b1⟩
theorem vx_calll {S SX : Type} {post : Int64 → S → Prop} {px : SX → Prop} {B : S → State → Prop} {BX : String → SX → State → Prop} {AX : Nat → Prop} (hr : vx_Run p l e R s m args below meth c H locs cells slots mc ms (F0 m pc ls st0) rest (va_Ql post B A1 a) (vx_X px BX AX) free) (hS : va_S A0 H0 H locs) (hA : ∀ q, q < H.size → A1 q → A0 q) (hf : ∀ q, free q → A0 q) (hAX : ∀ q, q < H.size → AX q → A0 q)
    (kx : ∀ (E : String) (ce : Cell) (q9 : Addr) (u : SX) (t : State) (H1 : Heap) (locs1 : List Loc), t.heap = H1 → s.vm.Alike t.vm → px u → BX E u t → H.size ≤ H1.size → (∀ q : Nat, q < H.size → ¬ AX q → H1[q]? = H[q]?) → va_S A0 H0 H1 locs1 → H1[q9]? = some ce → ce.vm = .none → s.vm.findClass E = some ce.cls → vx_W p l e R s m args below meth c H1 locs1 (cells + mc) (slots + ms) Q (F0 m pc ls rest) q9)
    (kk : ∀ (r : Int64) (u : S) (t : State) (H1 : Heap) (locs1 : List Loc), t.heap = H1 → s.vm.Alike t.vm → post r u → B u t → H.size ≤ H1.size → (∀ q : Nat, q < H.size → ¬ A1 q → H1[q]? = H[q]?) → va_S A0 H0 H1 locs1 → W p l e R s m args below meth c H1 locs1 (cells + mc) (slots + ms) Q (F0 m (pc + 3) ls (.long r :: rest))) : W p l e R s m args below meth c H locs cells slots Q (F0 m pc ls st0) := by
  intro T hT X
  rcases hr T hT X with ⟨v, st₀, t, T', L, h0, X', hL, e1, e2, ⟨⟨r, u, hv, hp, hb⟩, hF⟩, st⟩ | ⟨q, st₀, t, T', L, E, ce, h0, X', hL, e1, e2, ⟨u, hp, hb, hF⟩, hce, hcv, hcl, st⟩
  · cases hv
    obtain ⟨k1, k2, k3⟩ := vx_keep h0 e1 hS hA hf hL hF
    obtain ⟨t2, a1, b1⟩ := kk r u t T'.heap (locs ++ L) e1.symm (by rw [← e2]; exact X'.warmed.alike) hp hb k1 k2 k3 T' rfl X'
    exact ⟨t2, st t2 a1, b1⟩
  · obtain ⟨k1, k2, k3⟩ := vx_keep h0 e1 hS hAX hf hL hF
    obtain ⟨t2, a1, b1⟩ := kx E ce q u t T'.heap (locs ++ L) e1.symm (by rw [← e2]; exact X'.warmed.alike) hp hb k1 k2 k3 (by rw [e1]; exact hce) hcv hcl T' rfl X'
    exact ⟨t2, st.trans a1, b1⟩
theorem vx_callf {S SX : Type} {post : UInt32 → S → Prop} {px : SX → Prop} {B : S → State → Prop} {BX : String → SX → State → Prop} {AX : Nat → Prop} (hr : vx_Run p l e R s m args below meth c H locs cells slots mc ms (F0 m pc ls st0) rest (va_Qf post B A1 a) (vx_X px BX AX) free) (hS : va_S A0 H0 H locs) (hA : ∀ q, q < H.size → A1 q → A0 q) (hf : ∀ q, free q → A0 q) (hAX : ∀ q, q < H.size → AX q → A0 q)
    (kx : ∀ (E : String) (ce : Cell) (q9 : Addr) (u : SX) (t : State) (H1 : Heap) (locs1 : List Loc), t.heap = H1 → s.vm.Alike t.vm → px u → BX E u t → H.size ≤ H1.size → (∀ q : Nat, q < H.size → ¬ AX q → H1[q]? = H[q]?) → va_S A0 H0 H1 locs1 → H1[q9]? = some ce → ce.vm = .none → s.vm.findClass E = some ce.cls → vx_W p l e R s m args below meth c H1 locs1 (cells + mc) (slots + ms) Q (F0 m pc ls rest) q9)
    (kk : ∀ (r : UInt32) (u : S) (t : State) (H1 : Heap) (locs1 : List Loc), t.heap = H1 → s.vm.Alike t.vm → post r u → B u t → H.size ≤ H1.size → (∀ q : Nat, q < H.size → ¬ A1 q → H1[q]? = H[q]?) → va_S A0 H0 H1 locs1 → W p l e R s m args below meth c H1 locs1 (cells + mc) (slots + ms) Q (F0 m (pc + 3) ls (.float r :: rest))) : W p l e R s m args below meth c H locs cells slots Q (F0 m pc ls st0) := by
  intro T hT X
  rcases hr T hT X with ⟨v, st₀, t, T', L, h0, X', hL, e1, e2, ⟨⟨r, u, hv, hp, hb⟩, hF⟩, st⟩ | ⟨q, st₀, t, T', L, E, ce, h0, X', hL, e1, e2, ⟨u, hp, hb, hF⟩, hce, hcv, hcl, st⟩
  · cases hv
    obtain ⟨k1, k2, k3⟩ := vx_keep h0 e1 hS hA hf hL hF
    obtain ⟨t2, a1, b1⟩ := kk r u t T'.heap (locs ++ L) e1.symm (by rw [← e2]; exact X'.warmed.alike) hp hb k1 k2 k3 T' rfl X'
    exact ⟨t2, st t2 a1, b1⟩
  · obtain ⟨k1, k2, k3⟩ := vx_keep h0 e1 hS hAX hf hL hF
    obtain ⟨t2, a1, b1⟩ := kx E ce q u t T'.heap (locs ++ L) e1.symm (by rw [← e2]; exact X'.warmed.alike) hp hb k1 k2 k3 (by rw [e1]; exact hce) hcv hcl T' rfl X'
    exact ⟨t2, st.trans a1, b1⟩
theorem vx_calld {S SX : Type} {post : UInt64 → S → Prop} {px : SX → Prop} {B : S → State → Prop} {BX : String → SX → State → Prop} {AX : Nat → Prop} (hr : vx_Run p l e R s m args below meth c H locs cells slots mc ms (F0 m pc ls st0) rest (va_Qd post B A1 a) (vx_X px BX AX) free) (hS : va_S A0 H0 H locs) (hA : ∀ q, q < H.size → A1 q → A0 q) (hf : ∀ q, free q → A0 q) (hAX : ∀ q, q < H.size → AX q → A0 q)
    (kx : ∀ (E : String) (ce : Cell) (q9 : Addr) (u : SX) (t : State) (H1 : Heap) (locs1 : List Loc), t.heap = H1 → s.vm.Alike t.vm → px u → BX E u t → H.size ≤ H1.size → (∀ q : Nat, q < H.size → ¬ AX q → H1[q]? = H[q]?) → va_S A0 H0 H1 locs1 → H1[q9]? = some ce → ce.vm = .none → s.vm.findClass E = some ce.cls → vx_W p l e R s m args below meth c H1 locs1 (cells + mc) (slots + ms) Q (F0 m pc ls rest) q9)
    (kk : ∀ (r : UInt64) (u : S) (t : State) (H1 : Heap) (locs1 : List Loc), t.heap = H1 → s.vm.Alike t.vm → post r u → B u t → H.size ≤ H1.size → (∀ q : Nat, q < H.size → ¬ A1 q → H1[q]? = H[q]?) → va_S A0 H0 H1 locs1 → W p l e R s m args below meth c H1 locs1 (cells + mc) (slots + ms) Q (F0 m (pc + 3) ls (.double r :: rest))) : W p l e R s m args below meth c H locs cells slots Q (F0 m pc ls st0) := by
  intro T hT X
  rcases hr T hT X with ⟨v, st₀, t, T', L, h0, X', hL, e1, e2, ⟨⟨r, u, hv, hp, hb⟩, hF⟩, st⟩ | ⟨q, st₀, t, T', L, E, ce, h0, X', hL, e1, e2, ⟨u, hp, hb, hF⟩, hce, hcv, hcl, st⟩
  · cases hv
    obtain ⟨k1, k2, k3⟩ := vx_keep h0 e1 hS hA hf hL hF
    obtain ⟨t2, a1, b1⟩ := kk r u t T'.heap (locs ++ L) e1.symm (by rw [← e2]; exact X'.warmed.alike) hp hb k1 k2 k3 T' rfl X'
    exact ⟨t2, st t2 a1, b1⟩
  · obtain ⟨k1, k2, k3⟩ := vx_keep h0 e1 hS hAX hf hL hF
    obtain ⟨t2, a1, b1⟩ := kx E ce q u t T'.heap (locs ++ L) e1.symm (by rw [← e2]; exact X'.warmed.alike) hp hb k1 k2 k3 (by rw [e1]; exact hce) hcv hcl T' rfl X'
    exact ⟨t2, st.trans a1, b1⟩
theorem vx_callv {S SX : Type} {post : S → Prop} {px : SX → Prop} {B : S → State → Prop} {BX : String → SX → State → Prop} {AX : Nat → Prop} (hr : vx_Run p l e R s m args below meth c H locs cells slots mc ms (F0 m pc ls st0) rest (va_Qv post B A1 a) (vx_X px BX AX) free) (hS : va_S A0 H0 H locs) (hA : ∀ q, q < H.size → A1 q → A0 q) (hf : ∀ q, free q → A0 q) (hAX : ∀ q, q < H.size → AX q → A0 q)
    (kx : ∀ (E : String) (ce : Cell) (q9 : Addr) (u : SX) (t : State) (H1 : Heap) (locs1 : List Loc), t.heap = H1 → s.vm.Alike t.vm → px u → BX E u t → H.size ≤ H1.size → (∀ q : Nat, q < H.size → ¬ AX q → H1[q]? = H[q]?) → va_S A0 H0 H1 locs1 → H1[q9]? = some ce → ce.vm = .none → s.vm.findClass E = some ce.cls → vx_W p l e R s m args below meth c H1 locs1 (cells + mc) (slots + ms) Q (F0 m pc ls rest) q9)
    (kk : ∀ (u : S) (t : State) (H1 : Heap) (locs1 : List Loc), t.heap = H1 → s.vm.Alike t.vm → post u → B u t → H.size ≤ H1.size → (∀ q : Nat, q < H.size → ¬ A1 q → H1[q]? = H[q]?) → va_S A0 H0 H1 locs1 → W p l e R s m args below meth c H1 locs1 (cells + mc) (slots + ms) Q (F0 m (pc + 3) ls (rest))) : W p l e R s m args below meth c H locs cells slots Q (F0 m pc ls st0) := by
  intro T hT X
  rcases hr T hT X with ⟨v, st₀, t, T', L, h0, X', hL, e1, e2, ⟨⟨u, hv, hp, hb⟩, hF⟩, st⟩ | ⟨q, st₀, t, T', L, E, ce, h0, X', hL, e1, e2, ⟨u, hp, hb, hF⟩, hce, hcv, hcl, st⟩
  · cases hv
    obtain ⟨k1, k2, k3⟩ := vx_keep h0 e1 hS hA hf hL hF
    obtain ⟨t2, a1, b1⟩ := kk u t T'.heap (locs ++ L) e1.symm (by rw [← e2]; exact X'.warmed.alike) hp hb k1 k2 k3 T' rfl X'
    exact ⟨t2, st t2 a1, b1⟩
  · obtain ⟨k1, k2, k3⟩ := vx_keep h0 e1 hS hAX hf hL hF
    obtain ⟨t2, a1, b1⟩ := kx E ce q u t T'.heap (locs ++ L) e1.symm (by rw [← e2]; exact X'.warmed.alike) hp hb k1 k2 k3 (by rw [e1]; exact hce) hcv hcl T' rfl X'
    exact ⟨t2, st.trans a1, b1⟩
end Rows
section Ends
variable {p : Program} {l : Launch} {e : Env} {R : Room} {s : State} {m : MethodId} {args : Array Value} {below : List Frame} {meth : Method} {c : Code} {H : Heap} {locs : List Loc} {cells slots : Nat} {Q : State → Prop}
variable {mc ms : Nat} {free : Addr → Prop} {A0 A1 : Nat → Prop} {H0 : Heap} {a : Array Value} {ls : Array Slot} {st0 rest : List Value}
variable {Qc : Array Value → State → Outcome → State → Prop} {XC : String → State → State → Prop}
/-- what a body that may throw owes at its end -/
def vx_MQ (below : List Frame) (Qc : Array Value → State → Outcome → State → Prop) (XC : String → State → State → Prop) (a : Array Value) (s : State) (mc ms : Nat) (free : Addr → Prop) : State → Prop := fun t =>
  ∃ o, t.status = .running ∧ Ended t below o ∧ vx_Q Qc XC mc ms free a s o t
theorem vx_ret {g : JFrame} {mc ms : Nat} (k : W p l e R s m args below meth c H locs cells slots (MQ below Qc args s mc ms free) g) : W p l e R s m args below meth c H locs cells slots (vx_MQ below Qc XC args s mc ms free) g := by
  intro T hT X
  obtain ⟨t, a1, o, b1, b2, b3, b4⟩ := k T hT X
  exact ⟨t, a1, o, b1, b2, Or.inl ⟨b3, b4⟩⟩
/-- not caught here: it goes on to the caller -/
theorem vx_widen {g : JFrame} {q : Addr} {k n : Nat} (h1 : cells ≤ k) (h2 : slots ≤ n) (kk : vx_W p l e R s m args below meth c H locs k n Q g q) : vx_W p l e R s m args below meth c H locs cells slots Q g q := fun T hT X => kk T hT (stand_widen X h1 h2)
theorem vx_out {pc : Nat} {E : String} {ce : Cell} {q : Addr} {mc ms : Nat} (hout : ∀ x ∈ c.exceptionTable.toList, covers x pc = false) (hlocks : meth.locks = false) (hcell : H[q]? = some ce) (hv : ce.vm = .none) (hcl : s.vm.findClass E = some ce.cls)
    (hx : ∀ t : State, t.heap = H → s.vm.Alike t.vm → XC E s t) (hf : ∀ z ∈ locs, free z.base) (hc : cells ≤ mc) (hs : slots ≤ ms) :
    vx_W p l e R s m args below meth c H locs cells slots (vx_MQ below Qc XC args s mc ms free) (F0 m pc ls rest) q := by
  intro T hT X
  obtain ⟨st1, hrun, hend, hW, hsm⟩ := X.leaveThrown q (g := F0 m pc ls rest) rfl rfl rfl hout hlocks
  have hcell9 : (T.setFrames (.throwing q :: below)).heap[q]? = some ce := by
    show T.heap[q]? = some ce
    rw [hT]; exact hcell
  exact ⟨_, st1, .threw q, hrun, hend, Or.inr ⟨q, rfl, E, ce, locs, hx _ hT hW.alike, hcell9, hv, hcl, hW, hsm.mono hc hs, hf⟩⟩
theorem vx_frame {U : State} {k n : Nat} (h : s.sameButNew ({ U with vm := s.vm } : State) locs k n) : s.heap.size ≤ U.heap.size ∧ ∀ q : Nat, q < s.heap.size → (∀ z ∈ locs, z.base ≠ q) → U.heap[q]? = s.heap[q]? := by
  obtain ⟨-, h2, -, -, -, h6⟩ := h
  refine ⟨h2, fun q hq hz => ?_⟩
  obtain ⟨c9, e1, e2, e3, e4⟩ := h6 q _ (Array.getElem?_eq_getElem hq)
  have hs : c9.slots = (s.heap[q]).slots := Array.ext_getElem? fun i => e4 i fun hm => hz _ hm rfl
  have h9 : c9 = s.heap[q] := by
    rw [hs] at e2
    exact e2
  have e5 : U.heap[q]? = some c9 := e1
  rw [e5, h9, Array.getElem?_eq_getElem hq]
/-- the words of a throw but the four that speak of the heap -/
def vx_no (w : Cond) : Bool := decide (w ≠ .isRef (.static Jvm.Bundle.tN "UNASSIGNED_STACK" Jvm.Bundle.steD)) && decide (w ≠ .isRef (.static Jvm.Bundle.tN "SUPPRESSED_SENTINEL" Jvm.Bundle.listD)) && decide (w ≠ .laysStatic Jvm.Bundle.tN "UNASSIGNED_STACK" Jvm.Bundle.steD) && decide (w ≠ .laysStatic Jvm.Bundle.tN "SUPPRESSED_SENTINEL" Jvm.Bundle.listD)
def vx_at0 (own : String) (ic : Nat) (X : String) (names : List String) : List Cond := (Jvm.Bundle.ownAtoms0 own ic X names).filter vx_no
def vx_atS (own : String) (ic : Nat) (X : String) (names : List String) : List Cond := (Jvm.Bundle.ownAtoms own ic X names).filter vx_no
/-- a word that the tables alone decide, or a good one -/
def vx_ot (w : Cond) : Bool := w.onTables || goodWord w
theorem vx_ot_at {args a' : Array Value} {s U : State} {w : Cond} (hW : s.WarmedH U.vm) (hvm : s.vm = U.vm) (hg : vx_ot w = true) (h : w.before args s = true) : w.before a' U = true := by
  simp only [vx_ot, Bool.or_eq_true] at hg
  rcases hg with hg | hg
  · exact va_tabs hg hvm h
  · exact word_at hW (good_of_word hg) h
/-- a list's words: the good ones out of the method's own list, the others by premises of their own -/
theorem vx_hat {args : Array Value} {s : State} {L B : List Cond} (h1 : ∀ w ∈ L.filter goodWord, w.before args s = true) (h2 : ∀ w ∈ L.filter (fun w => !goodWord w), w ∈ B) (h3 : ∀ w ∈ B, w.before args s = true) : ∀ w ∈ L, w.before args s = true := by
  intro w hw
  by_cases g : goodWord w = true
  · exact h1 w (List.mem_filter.mpr ⟨hw, g⟩)
  · refine h3 w (h2 w (List.mem_filter.mpr ⟨hw, ?_⟩))
    show (!goodWord w) = true
    cases hgw : goodWord w
    · rfl
    · exact absurd hgw g
theorem vx_c {args : Array Value} {s : State} {w : Cond} {B : List Cond} (h : w.before args s = true) (t : ∀ w ∈ B, w.before args s = true) : ∀ w' ∈ w :: B, w'.before args s = true := fun w' h' => (List.mem_cons.mp h').elim (fun e => by rw [e]; exact h) (t w')
theorem vx_n {args : Array Value} {s : State} : ∀ w ∈ ([] : List Cond), w.before args s = true := fun _ h => nomatch h
theorem vx_own {args : Array Value} {s : State} {L : List Cond} (h1 : ∀ w ∈ L.filter vx_no, w.before args s = true)
    (hU : (Cond.isRef (.static Jvm.Bundle.tN "UNASSIGNED_STACK" Jvm.Bundle.steD)).before args s = true) (hN : (Cond.isRef (.static Jvm.Bundle.tN "SUPPRESSED_SENTINEL" Jvm.Bundle.listD)).before args s = true)
    (lU : (Cond.laysStatic Jvm.Bundle.tN "UNASSIGNED_STACK" Jvm.Bundle.steD).before args s = true) (lN : (Cond.laysStatic Jvm.Bundle.tN "SUPPRESSED_SENTINEL" Jvm.Bundle.listD).before args s = true) : ∀ w ∈ L, w.before args s = true := by
  intro w hw
  by_cases e1 : w = .isRef (.static Jvm.Bundle.tN "UNASSIGNED_STACK" Jvm.Bundle.steD)
  · rw [e1]; exact hU
  · by_cases e2 : w = .isRef (.static Jvm.Bundle.tN "SUPPRESSED_SENTINEL" Jvm.Bundle.listD)
    · rw [e2]; exact hN
    · by_cases e3 : w = .laysStatic Jvm.Bundle.tN "UNASSIGNED_STACK" Jvm.Bundle.steD
      · rw [e3]; exact lU
      · by_cases e4 : w = .laysStatic Jvm.Bundle.tN "SUPPRESSED_SENTINEL" Jvm.Bundle.listD
        · rw [e4]; exact lN
        · exact h1 w (List.mem_filter.mpr ⟨hw, by unfold vx_no; rw [decide_eq_true e1, decide_eq_true e2, decide_eq_true e3, decide_eq_true e4]; rfl⟩)
/-- where a static field lies, its class's statics cell in H -/
def vx_L (C n d : String) (A : Nat → Prop) (U : State) (H : Heap) : Prop := ∃ (c : ClassId) (k : Class) (i : Nat) (f : Field) (a : Nat) (cell : Cell), U.vm.findClass C = some c ∧ U.fieldFound? C n d = some (c, k, i, f) ∧ f.isStatic = true ∧ k.statics = some a ∧ H[a]? = some cell ∧ cell.vm.isStatics = true ∧ cell.cls = c ∧ f.slot < cell.slots.size ∧ k.staticTypes[f.slot]? = some f.type ∧ ¬ A a
theorem vx_L.moved {C n d : String} {A : Nat → Prop} {u U : State} {H : Heap} (hvm : u.vm.Alike U.vm) (h : vx_L C n d A u H) : vx_L C n d A U H := by
  obtain ⟨c, k, i, f, a, cell, h1, h2, h3, h4, h5, h6, h7, h8, h9, h10⟩ := h
  obtain ⟨k', hi', he⟩ := State.fieldFound?_setVm hvm h2
  exact ⟨c, k', i, f, a, cell, by rw [hvm.findClass]; exact h1, hi', h3, by rw [he]; exact h4, h5, h6, h7, h8, by rw [he]; exact h9, h10⟩
theorem vx_L.kept {C n d : String} {A : Nat → Prop} {U : State} {H H1 : Heap} (h : vx_L C n d A U H) (hq : ∀ a : Nat, a < H.size → ¬ A a → H1[a]? = H[a]?) : vx_L C n d A U H1 := by
  obtain ⟨c, k, i, f, a, cell, h1, h2, h3, h4, h5, h6, h7, h8, h9, h10⟩ := h
  exact ⟨c, k, i, f, a, cell, h1, h2, h3, h4, by rw [hq a (Array.getElem?_eq_some_iff.mp h5).1 h10]; exact h5, h6, h7, h8, h9, h10⟩
theorem vx_L.narrow {C n d : String} {A B : Nat → Prop} {U : State} {H : Heap} (h : vx_L C n d A U H) (hAB : ∀ q, B q → A q) : vx_L C n d B U H := by
  obtain ⟨c, k, i, f, a, cell, h1, h2, h3, h4, h5, h6, h7, h8, h9, h10⟩ := h
  exact ⟨c, k, i, f, a, cell, h1, h2, h3, h4, h5, h6, h7, h8, h9, fun z => h10 (hAB _ z)⟩
theorem vx_L.word {C n d : String} {A : Nat → Prop} {s : State} {args : Array Value} (h : vx_L C n d A s s.heap) : (Cond.laysStatic C n d).before args s = true := by
  obtain ⟨c, k, i, f, a, cell, h1, h2, h3, h4, h5, h6, h7, h8, h9, -⟩ := h
  show (Cond.laysStatic C n d).holds args s none s [] = true
  exact Cond.laysStatic_of h1 h2 h3 h4 h5 h6 h7 h8 h9
/-- .. and what it holds: null or some reference -/
def vx_Zq (C n d : String) (A : Nat → Prop) (U : State) (H : Heap) : Prop := va_Zq C n d A U H ∧ vx_L C n d A U H
theorem vx_Zq.moved {C n d : String} {A : Nat → Prop} {u U : State} {H : Heap} (hvm : u.vm.Alike U.vm) (h : vx_Zq C n d A u H) : vx_Zq C n d A U H := ⟨va_Zq.moved hvm h.1, vx_L.moved hvm h.2⟩
theorem vx_Zq.kept {C n d : String} {A : Nat → Prop} {U : State} {H H1 : Heap} (h : vx_Zq C n d A U H) (hq : ∀ a : Nat, a < H.size → ¬ A a → H1[a]? = H[a]?) : vx_Zq C n d A U H1 := ⟨va_Zq.kept h.1 hq, vx_L.kept h.2 hq⟩
theorem vx_Zq.narrow {C n d : String} {A B : Nat → Prop} {U : State} {H : Heap} (h : vx_Zq C n d A U H) (hAB : ∀ q, B q → A q) : vx_Zq C n d B U H := ⟨va_Zq.narrow h.1 hAB, vx_L.narrow h.2 hAB⟩
theorem vx_Zqof {args : Array Value} {s : State} {C n d : String} {A : Nat → Prop} (hl : (Cond.laysStatic C n d).before args s = true) (hini : (Cond.initialized C).before args s = true) (h : (Cond.isRef (.static C n d)).before args s = true) (hA : ∀ a : Nat, a < s.heap.size → ¬ A a) : vx_Zq C n d A s s.heap := by
  refine ⟨va_Zqof hl hini h hA, ?_⟩
  obtain ⟨c, k, i, f, a, cell, h1, h2, h3, h4, h5, h6, h7, h8, h9⟩ := Cond.laysStatic_spec hl
  exact ⟨c, k, i, f, a, cell, h1, h2, h3, h4, h5, h6, h7, h8, h9, hA a (Array.getElem?_eq_some_iff.mp h5).1⟩
theorem vx_isRef {C n d : String} {v : Value} {A : Nat → Prop} {s : State} {args : Array Value} (h : va_Z C n d v A s s.heap) (hv : v.isRef = true) : (Cond.isRef (.static C n d)).before args s = true := by
  obtain ⟨cf, kf, fi, f, a, cell, h1, h2, h3, h4, h5, h6, h7, -⟩ := h
  have he : (Term.static C n d).eval args s none [] s = some v := by
    simp [Term.eval, State.fieldNamed?, h1, h2, h4, h5, h6, h7]
  simp only [Cond.before, Cond.holds, Cond.value, he]
  cases v <;> simp_all [Value.isRef]
theorem vx_isRefq {C n d : String} {A : Nat → Prop} {s : State} {args : Array Value} (h : va_Zq C n d A s s.heap) : (Cond.isRef (.static C n d)).before args s = true := by
  rcases h with h | ⟨t, h⟩
  · exact vx_isRef h rfl
  · exact vx_isRef h rfl
/-- the same frame, seen from here: as if the method were called anew in this heap -/
theorem vx_rebase {T : State} (X : Stand p l e R s m args below meth c T locs cells slots) {R' : Room} (hf : R'.frames ≤ R.frames) (hl : R'.locals ≤ R.locals) (hc : cells + R'.cells ≤ R.cells) (hs : slots + R'.slots ≤ R.slots) :
    Stand p l e R' ((T.setVm s.vm).setFrames (.invoking m args :: below)) m args below meth c T [] 0 0 := by
  have htop : (T.setVm s.vm).topJava?.isSome := X.here.top
  have hF : ((T.setVm s.vm).setFrames (.invoking m args :: below)).frames = .invoking m args :: below := State.frames_setFrames _ (State.cur_lt_of_top htop)
  obtain ⟨g₀, hg0⟩ := Option.isSome_iff_exists.mp htop
  obtain ⟨r, hr⟩ := State.topJava?_eq_some.mp hg0
  have hl9 : e.platform.stackLimits (T.setVm s.vm).me = e.platform.stackLimits s.me := X.limits
  have hb9 : (T.setVm s.vm).me.stackBytes = s.me.stackBytes := X.bytes
  refine ⟨X.admits, X.cas, X.clock, hF, ?_, X.hears, X.method, X.code, X.here, X.tail, X.warmed, ?_, ?_, ?_⟩
  · have h := X.room
    have hU : ((T.setVm s.vm).setFrames (.invoking m args :: below)).localsInUse = s.localsInUse := by
      rw [State.localsInUse_invoking hF (meth := meth) (c := c) X.method X.code, State.localsInUse_invoking X.frames X.method X.code]
    simp only [State.hasRoom, Bool.and_eq_true, decide_eq_true_eq] at h ⊢
    obtain ⟨⟨⟨⟨h1, h2, h3, h4, h5, h6⟩, h7⟩, h8⟩, h9⟩ := h
    rw [X.frames, List.length_cons] at h2 h3
    have q1 := X.heapSize
    have q2 := X.used
    simp only [hF, hU, List.length_cons, State.stackLimits_setFrames, State.stackBytes_setFrames, hl9, hb9]
    refine ⟨⟨⟨⟨by omega, by omega, by omega, by omega, by omega, h6⟩, ?_⟩, ?_⟩, X.book⟩
    · show T.heap.size + R'.cells ≤ e.platform.maxCells
      omega
    · show T.slotsUsed + R'.slots ≤ e.platform.maxSlots
      omega
  · rw [State.stackLimits_setFrames]; rfl
  · rw [State.stackBytes_setFrames]; rfl
  · refine ⟨?_, Nat.le_refl _, Nat.le_refl _, ?_, ?_, fun a c9 h9 => ⟨c9, h9, rfl, rfl, fun _ _ => rfl⟩⟩
    · obtain ⟨t, ht, -⟩ := State.frames_cons hr
      show T.setVm s.vm = { ((T.setVm s.vm).setFrames (.invoking m args :: below)).setFrames (T.setVm s.vm).frames with heap := T.heap, slotsUsed := T.slotsUsed }
      rw [State.setFrames_setFrames, State.setFrames_self ht]
      rfl
    · show T.slotsUsed = T.slotsUsed + ((T.heap.toList.drop T.heap.size).map (·.slots.size)).sum
      rw [List.drop_eq_nil_of_le (Nat.le_of_eq Array.length_toList)]
      rfl
    · show ((T.heap.toList.drop T.heap.size).map (·.slots.size)).sum ≤ 0
      rw [List.drop_eq_nil_of_le (Nat.le_of_eq Array.length_toList)]
      exact Nat.le_refl _
/-- 'throw new E()': new; dup; invokespecial; athrow -/
theorem vx_throw0 {cc : ByteArray} {pc : Nat} (hexec : p.tables.exec = Jvm.exec) (hb : c.code = cc) (hl : l.stackTraces = false) {own cls : String} {names : List String} {ik ic mc ms : Nat} {A : Nat → Prop}
    (hown : s.vm.findClass own = some m.cls) (hcls : Jvm.Bundle.fit cls = true) (hnames : ∀ n ∈ names, Jvm.Bundle.fit n = true)
    (hk : (Cond.classLink own ik cls).before args s = true) (hini : (Cond.initialized cls).before args s = true) (hat : ∀ w ∈ vx_at0 own ic cls names, w.before args s = true)
    (hgood : ∀ w ∈ Cond.classLink own ik cls :: Cond.initialized cls :: vx_at0 own ic cls names, vx_ot w = true)
    (hU : vx_Zq Jvm.Bundle.tN "UNASSIGNED_STACK" Jvm.Bundle.steD A s s.heap) (hN : vx_Zq Jvm.Bundle.tN "SUPPRESSED_SENTINEL" Jvm.Bundle.listD A s s.heap) (hS : va_S A s.heap H locs) (hsize : ls.size = c.maxLocals)
    (d0 : decode cc pc = .ok (.new ik, 3)) (d3 : decode cc (pc + 3) = .ok (.dup, 1)) (d4 : decode cc (pc + 4) = .ok (.invokespecial ic, 3)) (d7 : decode cc (pc + 7) = .ok (.athrow, 1))
    (hout : ∀ x ∈ c.exceptionTable.toList, covers x (pc + 7) = false)
    (hRframes : names.length + 3 < R.frames) (hRlocals : (rest.map fun v => v.category).sum + (13 * (names.length + 1) + 42) ≤ R.locals) (hRcells : cells + 1 ≤ R.cells) (hRslots : slots + 6 ≤ R.slots) (hlocks : meth.locks = false)
    (hx : ∀ t : State, s.vm.Alike t.vm → H.size ≤ t.heap.size → (∀ q : Nat, q < H.size → t.heap[q]? = H[q]?) → XC cls s t)
    (hf : ∀ z ∈ locs, free z.base) (hc : cells + 1 ≤ mc) (hs : slots + 6 ≤ ms) :
    W p l e R s m args below meth c H locs cells slots (vx_MQ below Qc XC args s mc ms free) (F0 m pc ls rest) := by
  intro T hT X
  have htr : e.platform.stackTraces = false := (show e.platform.stackTraces = l.stackTraces by rw [X.admits.platform]).trans hl
  have Y := vx_rebase X (R' := { frames := R.frames, locals := R.locals, cells := 1, slots := 6 }) (Nat.le_refl _) (Nat.le_refl _) hRcells hRslots
  obtain ⟨s', hA⟩ : ∃ z, z = (T.setVm s.vm).setFrames (.invoking m args :: below) := ⟨_, rfl⟩
  rw [← hA] at Y
  have hvm : s'.vm = s.vm := by rw [hA]; rfl
  have hhp : s'.heap = H := by rw [hA]; exact hT
  have hW0 : s.WarmedH s'.vm := by rw [hvm]; exact State.WarmedH.refl s
  have hat' : ∀ w ∈ vx_at0 own ic cls names, w.before args s' = true := fun w hw => vx_ot_at hW0 hvm.symm (hgood w (List.mem_cons_of_mem _ (List.mem_cons_of_mem _ hw))) (hat w hw)
  have hk' : (Cond.classLink own ik cls).before args s' = true := vx_ot_at hW0 hvm.symm (hgood _ List.mem_cons_self) hk
  have hini' : (Cond.initialized cls).before args s' = true := vx_ot_at hW0 hvm.symm (hgood _ (List.mem_cons_of_mem _ List.mem_cons_self)) hini
  have hU' : vx_Zq Jvm.Bundle.tN "UNASSIGNED_STACK" Jvm.Bundle.steD A s' s'.heap := by rw [hhp]; exact vx_Zq.moved hW0.alike (hU.kept hS.2.1)
  have hN' : vx_Zq Jvm.Bundle.tN "SUPPRESSED_SENTINEL" Jvm.Bundle.listD A s' s'.heap := by rw [hhp]; exact vx_Zq.moved hW0.alike (hN.kept hS.2.1)
  have h : ∀ w ∈ Jvm.Bundle.ownAtoms0 own ic cls names, w.before args s' = true := vx_own hat' (vx_isRefq hU'.1) (vx_isRefq hN'.1) hU'.2.word hN'.2.word
  have hown' : s'.vm.findClass own = some m.cls := by rw [hvm]; exact hown
  have hins : (Cond.instantiable cls 6).before args s' = true := h _ (by simp [Jvm.Bundle.ownAtoms0])
  obtain ⟨vm₁, cX, kX, hfX, hkX, -, -, X₁, st1⟩ := Y.newCold hexec (own := own) (C := cls) (index := ik) (n := 6) hown' hk' hins hini'
    (g := F0 m pc ls rest) rfl (by rw [hb]; exact d0) (Nat.le_refl _) (Nat.le_refl _)
  generalize hT1 : (T.setVm vm₁).pushCell { cls := cX, slots := kX.instanceTypes.map defaultValue, vm := .none } = T1 at X₁ st1
  have hcat : (Value.ref T.heap.size).category = 1 := rfl
  have hcellA : T1.heap[T.heap.size]? = some (freshCell cX kX) := by rw [← hT1]; exact State.heap_pushCell_size _ _
  have d3' : decode c.code (pc + 3) = .ok (.dup, 1) := by rw [hb]; exact d3
  obtain ⟨U, hsteps, hrun, hend, hW, hsame, ce, hce, hO⟩ := X₁.ctorThrow0 hexec htr (own := own) (cls := cls) (names := names) (ic := ic) hown' hcls hnames h (fun x hx => nomatch hx) hfX hkX hcellA (by rw [hhp, hT]; exact Nat.le_refl _)
    (g := { method := m, pc := pc + 4, locals := ls, stack := .ref T.heap.size :: .ref T.heap.size :: rest, locked := none }) rfl hsize rfl rfl (rest := rest) rfl
    (by rw [hb]; exact d4) (by rw [hb]; exact d7) hout hRframes (by simp only [List.map_cons, List.sum_cons, hcat]; omega) hlocks
  obtain ⟨f1, f2⟩ := vx_frame hsame
  rw [hhp] at f1 f2
  have hWs : s.WarmedH U.vm := State.WarmedH.trans hW0 hW
  have hcl : s.vm.findClass cls = some ce.cls := by
    have h9 := hO.cls
    rw [hvm] at h9
    exact h9
  have hall : s.sameButNew ({ U with vm := s.vm } : State) locs mc ms := by
    subst hA
    obtain ⟨e1, e2⟩ := hsame
    rw [State.setFrames_setFrames] at e1
    have h2 : (T.setVm s.vm).sameButNew ({ U with vm := s.vm } : State) [] (0 + 1) (0 + 6) := ⟨e1, e2⟩
    have h3 := X.same.trans h2
    rw [List.append_nil] at h3
    exact h3.mono hc hs
  refine ⟨U, ?_, .threw T.heap.size, hrun, hend, Or.inr ⟨T.heap.size, rfl, cls, ce, locs, hx U hWs.alike f1 (fun q hq => f2 q hq (fun z hz => nomatch hz)), hce, hO.vm, hcl, hWs, hall, hf⟩⟩
  refine st1 _ ?_
  show Steps p.tables e below (T1.setTop { method := m, pc := pc + 3, locals := ls, stack := .ref T.heap.size :: rest, locked := none }) _
  jvm_step X₁.here [X₁.here.top, hexec, d3', Value.category]
  exact hsteps
/-- 'throw new E("text")': new; dup; ldc; invokespecial; athrow -/
theorem vx_throwS {cc : ByteArray} {pc : Nat} (hexec : p.tables.exec = Jvm.exec) (hb : c.code = cc) (hl : l.stackTraces = false) {own cls text : String} {names : List String} {ik is ic mc ms sa : Nat} {A : Nat → Prop}
    (hown : s.vm.findClass own = some m.cls) (hcls : Jvm.Bundle.fit cls = true) (hnames : ∀ n ∈ names, Jvm.Bundle.fit n = true)
    (hk : (Cond.classLink own ik cls).before args s = true) (hini : (Cond.initialized cls).before args s = true) (hstr : vk_R own is text sa s) (hat : ∀ w ∈ vx_atS own ic cls names, w.before args s = true)
    (hgood : ∀ w ∈ Cond.classLink own ik cls :: Cond.initialized cls :: vx_atS own ic cls names, vx_ot w = true)
    (hU : vx_Zq Jvm.Bundle.tN "UNASSIGNED_STACK" Jvm.Bundle.steD A s s.heap) (hN : vx_Zq Jvm.Bundle.tN "SUPPRESSED_SENTINEL" Jvm.Bundle.listD A s s.heap) (hS : va_S A s.heap H locs) (hsize : ls.size = c.maxLocals)
    (d0 : decode cc pc = .ok (.new ik, 3)) (d3 : decode cc (pc + 3) = .ok (.dup, 1)) (d4 : decode cc (pc + 4) = .ok (.ldc is, 2)) (d6 : decode cc (pc + 6) = .ok (.invokespecial ic, 3)) (d9 : decode cc (pc + 9) = .ok (.athrow, 1))
    (hout : ∀ x ∈ c.exceptionTable.toList, covers x (pc + 9) = false)
    (hRframes : names.length + 3 < R.frames) (hRlocals : (rest.map fun v => v.category).sum + (13 * (names.length + 1) + 43) ≤ R.locals) (hRcells : cells + 1 ≤ R.cells) (hRslots : slots + 6 ≤ R.slots) (hlocks : meth.locks = false)
    (hx : ∀ t : State, s.vm.Alike t.vm → H.size ≤ t.heap.size → (∀ q : Nat, q < H.size → t.heap[q]? = H[q]?) → XC cls s t)
    (hf : ∀ z ∈ locs, free z.base) (hc : cells + 1 ≤ mc) (hs : slots + 6 ≤ ms) :
    W p l e R s m args below meth c H locs cells slots (vx_MQ below Qc XC args s mc ms free) (F0 m pc ls rest) := by
  intro T hT X
  have htr : e.platform.stackTraces = false := (show e.platform.stackTraces = l.stackTraces by rw [X.admits.platform]).trans hl
  have Y := vx_rebase X (R' := { frames := R.frames, locals := R.locals, cells := 1, slots := 6 }) (Nat.le_refl _) (Nat.le_refl _) hRcells hRslots
  obtain ⟨s', hA⟩ : ∃ z, z = (T.setVm s.vm).setFrames (.invoking m args :: below) := ⟨_, rfl⟩
  rw [← hA] at Y
  have hvm : s'.vm = s.vm := by rw [hA]; rfl
  have hhp : s'.heap = H := by rw [hA]; exact hT
  have hW0 : s.WarmedH s'.vm := by rw [hvm]; exact State.WarmedH.refl s
  have hat' : ∀ w ∈ vx_atS own ic cls names, w.before args s' = true := fun w hw => vx_ot_at hW0 hvm.symm (hgood w (List.mem_cons_of_mem _ (List.mem_cons_of_mem _ hw))) (hat w hw)
  have hk' : (Cond.classLink own ik cls).before args s' = true := vx_ot_at hW0 hvm.symm (hgood _ List.mem_cons_self) hk
  have hini' : (Cond.initialized cls).before args s' = true := vx_ot_at hW0 hvm.symm (hgood _ (List.mem_cons_of_mem _ List.mem_cons_self)) hini
  have hU' : vx_Zq Jvm.Bundle.tN "UNASSIGNED_STACK" Jvm.Bundle.steD A s' s'.heap := by rw [hhp]; exact vx_Zq.moved hW0.alike (hU.kept hS.2.1)
  have hN' : vx_Zq Jvm.Bundle.tN "SUPPRESSED_SENTINEL" Jvm.Bundle.listD A s' s'.heap := by rw [hhp]; exact vx_Zq.moved hW0.alike (hN.kept hS.2.1)
  have h : ∀ w ∈ Jvm.Bundle.ownAtoms own ic cls names, w.before args s' = true := vx_own hat' (vx_isRefq hU'.1) (vx_isRefq hN'.1) hU'.2.word hN'.2.word
  have hown' : s'.vm.findClass own = some m.cls := by rw [hvm]; exact hown
  have hins : (Cond.instantiable cls 6).before args s' = true := h _ (by simp [Jvm.Bundle.ownAtoms])
  obtain ⟨vm₁, cX, kX, hfX, hkX, -, -, X₁, st1⟩ := Y.newCold hexec (own := own) (C := cls) (index := ik) (n := 6) hown' hk' hins hini'
    (g := F0 m pc ls rest) rfl (by rw [hb]; exact d0) (Nat.le_refl _) (Nat.le_refl _)
  generalize hT1 : (T.setVm vm₁).pushCell { cls := cX, slots := kX.instanceTypes.map defaultValue, vm := .none } = T1 at X₁ st1
  have hcat : (Value.ref T.heap.size).category = 1 := rfl
  have hcellA : T1.heap[T.heap.size]? = some (freshCell cX kX) := by rw [← hT1]; exact State.heap_pushCell_size _ _
  have d3' : decode c.code (pc + 3) = .ok (.dup, 1) := by rw [hb]; exact d3
  have d4' : decode c.code (pc + 4) = .ok (.ldc is, 2) := by rw [hb]; exact d4
  have hstr' : vk_R own is text sa s' := vk_R.warm hW0 hstr
  obtain ⟨U, hsteps, hrun, hend, hW, hsame, ce, hce, hO⟩ := X₁.ctorThrowS hexec htr (own := own) (cls := cls) (names := names) (ic := ic) hown' hcls hnames h (fun x hx => nomatch hx) hfX hkX hcellA (by rw [hhp, hT]; exact Nat.le_refl _) (msg := .ref sa) rfl
    (g := { method := m, pc := pc + 6, locals := ls, stack := .ref sa :: .ref T.heap.size :: .ref T.heap.size :: rest, locked := none }) rfl hsize rfl rfl (rest := rest) rfl
    (by rw [hb]; exact d6) (by rw [hb]; exact d9) hout hRframes (by simp only [List.map_cons, List.sum_cons, hcat]; omega) hlocks
  obtain ⟨f1, f2⟩ := vx_frame hsame
  rw [hhp] at f1 f2
  have hWs : s.WarmedH U.vm := State.WarmedH.trans hW0 hW
  have hcl : s.vm.findClass cls = some ce.cls := by
    have h9 := hO.cls
    rw [hvm] at h9
    exact h9
  have hall : s.sameButNew ({ U with vm := s.vm } : State) locs mc ms := by
    subst hA
    obtain ⟨e1, e2⟩ := hsame
    rw [State.setFrames_setFrames] at e1
    have h2 : (T.setVm s.vm).sameButNew ({ U with vm := s.vm } : State) [] (0 + 1) (0 + 6) := ⟨e1, e2⟩
    have h3 := X.same.trans h2
    rw [List.append_nil] at h3
    exact h3.mono hc hs
  refine ⟨U, ?_, .threw T.heap.size, hrun, hend, Or.inr ⟨T.heap.size, rfl, cls, ce, locs, hx U hWs.alike f1 (fun q hq => f2 q hq (fun z hz => nomatch hz)), hce, hO.vm, hcl, hWs, hall, hf⟩⟩
  refine st1 _ ?_
  show Steps p.tables e below (T1.setTop { method := m, pc := pc + 3, locals := ls, stack := .ref T.heap.size :: rest, locked := none }) _
  jvm_step X₁.here [X₁.here.top, hexec, d3', Value.category]
  exact X₁.ldcString hexec (own := own) (text := text) (index := is) (a := sa) hown' hstr'.1 hstr'.2
    (g := { method := m, pc := pc + 4, locals := ls, stack := .ref T.heap.size :: .ref T.heap.size :: rest, locked := none }) rfl d4' _ hsteps
/-- 'throw new E("text")', the text by a wide index -/
theorem vx_throwSW {cc : ByteArray} {pc : Nat} (hexec : p.tables.exec = Jvm.exec) (hb : c.code = cc) (hl : l.stackTraces = false) {own cls text : String} {names : List String} {ik is ic mc ms sa : Nat} {A : Nat → Prop}
    (hown : s.vm.findClass own = some m.cls) (hcls : Jvm.Bundle.fit cls = true) (hnames : ∀ n ∈ names, Jvm.Bundle.fit n = true)
    (hk : (Cond.classLink own ik cls).before args s = true) (hini : (Cond.initialized cls).before args s = true) (hstr : vk_R own is text sa s) (hat : ∀ w ∈ vx_atS own ic cls names, w.before args s = true)
    (hgood : ∀ w ∈ Cond.classLink own ik cls :: Cond.initialized cls :: vx_atS own ic cls names, vx_ot w = true)
    (hU : vx_Zq Jvm.Bundle.tN "UNASSIGNED_STACK" Jvm.Bundle.steD A s s.heap) (hN : vx_Zq Jvm.Bundle.tN "SUPPRESSED_SENTINEL" Jvm.Bundle.listD A s s.heap) (hS : va_S A s.heap H locs) (hsize : ls.size = c.maxLocals)
    (d0 : decode cc pc = .ok (.new ik, 3)) (d3 : decode cc (pc + 3) = .ok (.dup, 1)) (d4 : decode cc (pc + 4) = .ok (.ldc_w is, 3)) (d7 : decode cc (pc + 7) = .ok (.invokespecial ic, 3)) (d10 : decode cc (pc + 10) = .ok (.athrow, 1))
    (hout : ∀ x ∈ c.exceptionTable.toList, covers x (pc + 10) = false)
    (hRframes : names.length + 3 < R.frames) (hRlocals : (rest.map fun v => v.category).sum + (13 * (names.length + 1) + 43) ≤ R.locals) (hRcells : cells + 1 ≤ R.cells) (hRslots : slots + 6 ≤ R.slots) (hlocks : meth.locks = false)
    (hx : ∀ t : State, s.vm.Alike t.vm → H.size ≤ t.heap.size → (∀ q : Nat, q < H.size → t.heap[q]? = H[q]?) → XC cls s t)
    (hf : ∀ z ∈ locs, free z.base) (hc : cells + 1 ≤ mc) (hs : slots + 6 ≤ ms) :
    W p l e R s m args below meth c H locs cells slots (vx_MQ below Qc XC args s mc ms free) (F0 m pc ls rest) := by
  intro T hT X
  have htr : e.platform.stackTraces = false := (show e.platform.stackTraces = l.stackTraces by rw [X.admits.platform]).trans hl
  have Y := vx_rebase X (R' := { frames := R.frames, locals := R.locals, cells := 1, slots := 6 }) (Nat.le_refl _) (Nat.le_refl _) hRcells hRslots
  obtain ⟨s', hA⟩ : ∃ z, z = (T.setVm s.vm).setFrames (.invoking m args :: below) := ⟨_, rfl⟩
  rw [← hA] at Y
  have hvm : s'.vm = s.vm := by rw [hA]; rfl
  have hhp : s'.heap = H := by rw [hA]; exact hT
  have hW0 : s.WarmedH s'.vm := by rw [hvm]; exact State.WarmedH.refl s
  have hat' : ∀ w ∈ vx_atS own ic cls names, w.before args s' = true := fun w hw => vx_ot_at hW0 hvm.symm (hgood w (List.mem_cons_of_mem _ (List.mem_cons_of_mem _ hw))) (hat w hw)
  have hk' : (Cond.classLink own ik cls).before args s' = true := vx_ot_at hW0 hvm.symm (hgood _ List.mem_cons_self) hk
  have hini' : (Cond.initialized cls).before args s' = true := vx_ot_at hW0 hvm.symm (hgood _ (List.mem_cons_of_mem _ List.mem_cons_self)) hini
  have hU' : vx_Zq Jvm.Bundle.tN "UNASSIGNED_STACK" Jvm.Bundle.steD A s' s'.heap := by rw [hhp]; exact vx_Zq.moved hW0.alike (hU.kept hS.2.1)
  have hN' : vx_Zq Jvm.Bundle.tN "SUPPRESSED_SENTINEL" Jvm.Bundle.listD A s' s'.heap := by rw [hhp]; exact vx_Zq.moved hW0.alike (hN.kept hS.2.1)
  have h : ∀ w ∈ Jvm.Bundle.ownAtoms own ic cls names, w.before args s' = true := vx_own hat' (vx_isRefq hU'.1) (vx_isRefq hN'.1) hU'.2.word hN'.2.word
  have hown' : s'.vm.findClass own = some m.cls := by rw [hvm]; exact hown
  have hins : (Cond.instantiable cls 6).before args s' = true := h _ (by simp [Jvm.Bundle.ownAtoms])
  obtain ⟨vm₁, cX, kX, hfX, hkX, -, -, X₁, st1⟩ := Y.newCold hexec (own := own) (C := cls) (index := ik) (n := 6) hown' hk' hins hini'
    (g := F0 m pc ls rest) rfl (by rw [hb]; exact d0) (Nat.le_refl _) (Nat.le_refl _)
  generalize hT1 : (T.setVm vm₁).pushCell { cls := cX, slots := kX.instanceTypes.map defaultValue, vm := .none } = T1 at X₁ st1
  have hcat : (Value.ref T.heap.size).category = 1 := rfl
  have hcellA : T1.heap[T.heap.size]? = some (freshCell cX kX) := by rw [← hT1]; exact State.heap_pushCell_size _ _
  have d3' : decode c.code (pc + 3) = .ok (.dup, 1) := by rw [hb]; exact d3
  have d4' : decode c.code (pc + 4) = .ok (.ldc_w is, 3) := by rw [hb]; exact d4
  have hstr' : vk_R own is text sa s' := vk_R.warm hW0 hstr
  obtain ⟨U, hsteps, hrun, hend, hW, hsame, ce, hce, hO⟩ := X₁.ctorThrowS hexec htr (own := own) (cls := cls) (names := names) (ic := ic) hown' hcls hnames h (fun x hx => nomatch hx) hfX hkX hcellA (by rw [hhp, hT]; exact Nat.le_refl _) (msg := .ref sa) rfl
    (g := { method := m, pc := pc + 7, locals := ls, stack := .ref sa :: .ref T.heap.size :: .ref T.heap.size :: rest, locked := none }) rfl hsize rfl rfl (rest := rest) rfl
    (by rw [hb]; exact d7) (by rw [hb]; exact d10) hout hRframes (by simp only [List.map_cons, List.sum_cons, hcat]; omega) hlocks
  obtain ⟨f1, f2⟩ := vx_frame hsame
  rw [hhp] at f1 f2
  have hWs : s.WarmedH U.vm := State.WarmedH.trans hW0 hW
  have hcl : s.vm.findClass cls = some ce.cls := by
    have h9 := hO.cls
    rw [hvm] at h9
    exact h9
  have hall : s.sameButNew ({ U with vm := s.vm } : State) locs mc ms := by
    subst hA
    obtain ⟨e1, e2⟩ := hsame
    rw [State.setFrames_setFrames] at e1
    have h2 : (T.setVm s.vm).sameButNew ({ U with vm := s.vm } : State) [] (0 + 1) (0 + 6) := ⟨e1, e2⟩
    have h3 := X.same.trans h2
    rw [List.append_nil] at h3
    exact h3.mono hc hs
  refine ⟨U, ?_, .threw T.heap.size, hrun, hend, Or.inr ⟨T.heap.size, rfl, cls, ce, locs, hx U hWs.alike f1 (fun q hq => f2 q hq (fun z hz => nomatch hz)), hce, hO.vm, hcl, hWs, hall, hf⟩⟩
  refine st1 _ ?_
  show Steps p.tables e below (T1.setTop { method := m, pc := pc + 3, locals := ls, stack := .ref T.heap.size :: rest, locked := none }) _
  jvm_step X₁.here [X₁.here.top, hexec, d3', Value.category]
  exact X₁.ldcStringW hexec (own := own) (text := text) (index := is) (a := sa) hown' hstr'.1 hstr'.2
    (g := { method := m, pc := pc + 4, locals := ls, stack := .ref T.heap.size :: .ref T.heap.size :: rest, locked := none }) rfl d4' _ hsteps
end Ends
section Bodies
variable {l : Launch}
theorem vx_ofW {y : MethodName} {ws ws' : List Cond} {rm : Room} {Pc : Array Value → State → Prop} {Qc : Array Value → State → Outcome → State → Prop} {XC : String → State → State → Prop} {mc ms : Nat} {free : Addr → Prop} {cc : ByteArray} {maxL : Nat} {ret : Option FieldType}
    (hy : plainName y.cls = true) (hw : ws = Cond.code y cc maxL ret :: ws')
    (body : ∀ p e s m args below meth c s₁, BodyLoose p l y (headSpec ws rm) cc maxL ret e s m args below meth c s₁ → c.maxLocals = maxL → (∀ x ∈ c.exceptionTable.toList, False) → Pc args s →
      W p l e (headSpec ws rm).room s m args below meth c s.heap [] 0 0 (vx_MQ below Qc XC args s mc ms free) (entryFrame m args maxL)) : vx_Met l y ws rm Pc Qc XC mc ms free := by
  refine MetFree.of_bodyS (code := cc) (maxLocals := maxL) (ret := ret) hy ?_ ?_
  · intro args s m h hn
    obtain ⟨meth, c, h1, h2, h3, h4, h5, h6, -, -⟩ := Cond.code_spec hn (atoms_spec (ws := ws) h _ (by rw [hw]; exact List.mem_cons_self))
    exact ⟨meth, c, h1, h2, h3, h4, h5, h6⟩
  · intro p e s m args below meth c s₁ B hml hP _
    have hh0 : s₁.heap = s.heap := by rw [B.state]; rfl
    have ht : ∀ x ∈ c.exceptionTable.toList, False := by
      obtain ⟨meth9, c9, h1, h2, -, -, -, -, h7, -⟩ := Cond.code_spec B.named (atoms_spec (ws := ws) B.pre _ (by rw [hw]; exact List.mem_cons_self))
      cases Option.some.inj (h1.symm.trans B.method)
      cases Option.some.inj (h2.symm.trans (Stand.of_body B).code)
      intro x hx
      rw [Array.isEmpty_iff.mp h7] at hx
      cases hx
    obtain ⟨t, a1, o, b1, b2, b3⟩ := body p e s m args below meth c s₁ B hml ht hP s₁ hh0 (Stand.of_body B)
    exact ⟨t, o, a1, b1, b2, b3⟩
/-- the table of a body with handlers -/
theorem vx_table {p : Program} {x y : MethodName} {S : Spec} {cc bytes : ByteArray} {maxL maxL' : Nat} {ret ret' : Option FieldType} {e : Env} {s s₁ : State} {m : MethodId} {args : Array Value} {below : List Frame} {meth : Method} {c : Code} {hh : List (Nat × Nat × Nat × Nat)}
    (B : BodyLoose p l y S cc maxL ret e s m args below meth c s₁) (h : (Cond.codeWith y bytes maxL' ret' hh).before args s = true) : c.exceptionTable.toList = tableOf hh := by
  obtain ⟨m9, meth9, c9, hn9, h1, h2, -, -, h6, -⟩ := Cond.codeWith_spec h
  cases Option.some.inj (hn9.symm.trans B.named)
  cases Option.some.inj (h1.symm.trans B.method)
  cases Option.some.inj (h2.symm.trans (Stand.of_body B).code)
  rw [← h6, table_eq]
end Bodies
end VXA
/-! ===== END ===== -/
/-! ===== BEGIN a static call of a method with an exception table ===== -/
section VXS
variable {p : Program} {l : Launch} {e : Env} {R : Room} {s : State} {m : MethodId} {args : Array Value} {below : List Frame} {meth : Method} {c : Code} {T : State} {H : Heap} {locs : List Loc} {cells slots : Nat}
abbrev vx_CSW (R : Room) (s : State) (args : Array Value) (own : String) (index : Nat) (y : MethodName) (bytes : ByteArray) (maxL : Nat) (ret : Option FieldType) (hh : List (Nat × Nat × Nat × Nat)) (ws : List Cond) (rm : Room) (mc ms n : Nat) : Prop :=
  (rm.cells = mc ∧ rm.slots = ms ∧ rm.frames + 1 ≤ R.frames ∧ 8 + (maxL + 11) + rm.locals ≤ R.locals ∧ (∀ w ∈ ws, ∀ (a' : Array Value) (U : State), s.WarmedH U.vm → w.before a' U = true) ∧ Cond.codeWith y bytes maxL ret hh ∈ ws) ∧
  (Cond.codeWith y bytes maxL ret hh).before args s = true ∧ (Cond.initialized y.cls).before args s = true ∧ (y.cls ≠ "java/lang/invoke/MethodHandle" ∧ y.cls ≠ "java/lang/invoke/VarHandle") ∧
  (∀ sig, parseMethodDescriptor y.desc = some sig → n = sig.parameters.length) ∧ (Cond.methodLink own index y).before args s = true ∧ (Cond.static y).before args s = true
theorem vx_cwSW {own : String} {index maxL mc ms : Nat} {y : MethodName} {bytes : ByteArray} {ret : Option FieldType} {hh : List (Nat × Nat × Nat × Nat)} {Ts ws ws' : List Cond} {rm : Room} (n : Nat) (ht : ∀ w ∈ Ts, w.before args s = true) (hT : GoodIn Ts (va_wsS own index y ws)) (hw : ws = Cond.codeWith y bytes maxL ret hh :: ws') (hrc : rm.cells = mc) (hrs : rm.slots = ms)
    (hd : y.cls ≠ "java/lang/invoke/MethodHandle" ∧ y.cls ≠ "java/lang/invoke/VarHandle" ∧ (parseMethodDescriptor y.desc).map (fun d => d.parameters.length) = some n) (hR : rm.frames + 1 ≤ R.frames ∧ 8 + (maxL + 11) + rm.locals ≤ R.locals) :
    vx_CSW R s args own index y bytes maxL ret hh ws rm mc ms n := by
  have ok : ∀ w ∈ va_wsS own index y ws, w.before args s = true := fun w h => ht w (hT w h).1
  have hG : GoodIn Ts ws := fun w h => hT w (by unfold va_wsS; exact List.mem_append_right _ h)
  have hc : Cond.codeWith y bytes maxL ret hh ∈ ws := by rw [hw]; exact List.mem_cons_self
  refine ⟨⟨hrc, hrs, hR.1, hR.2, pay_in ht hG, hc⟩, ht _ (hG _ hc).1, ok _ (by simp [va_wsS]), ⟨hd.1, hd.2.1⟩, fun sig h => ?_, ok _ (by simp [va_wsS]), ok _ (by simp [va_wsS])⟩
  have h2 := hd.2.2
  rw [h] at h2
  exact (Option.some.inj h2).symm
theorem vx_callSW (X : Stand p l e R s m args below meth c T locs cells slots) (hexec : p.tables.exec = Jvm.exec) {own : String} {index : Nat} {y : MethodName} {bytes : ByteArray} {maxL : Nat} {ret : Option FieldType} {hh : List (Nat × Nat × Nat × Nat)}
    (hown : s.vm.findClass own = some m.cls) (hlink : (Cond.methodLink own index y).before args s = true) (hstat : (Cond.static y).before args s = true) (hinit : (Cond.initialized y.cls).before args s = true)
    (hcode : (Cond.codeWith y bytes maxL ret hh).before args s = true) (hy : y.cls ≠ "java/lang/invoke/MethodHandle" ∧ y.cls ≠ "java/lang/invoke/VarHandle")
    {W9 : Nat} {Pre : Pt → Array Value → Prop} {Post : Pt → Array Value → Option Value → Pt → Prop} (hK : Back l R p e below s args y 3 W9 Pre Post)
    {g : JFrame} (hg : g.method = m) (hsize : g.locals.size = c.maxLocals) {argsL rest : List Value} (hlen : ∀ sig, parseMethodDescriptor y.desc = some sig → argsL.length = sig.parameters.length)
    (hstack : g.stack = argsL.reverse ++ rest) (hW : 2 * g.monitorRoom + (rest.map fun v => v.category).sum ≤ W9) (hdg : decode c.code g.pc = .ok (.invokestatic index, 3))
    (hpre : ∀ vm₁, s.WarmedH vm₁ → Pre ⟨T.setVm vm₁, locs, cells, slots⟩ argsL.toArray) :
    ∃ (v : Option Value) (vm₁ : Vm) (B : Pt), s.WarmedH vm₁ ∧ Stand p l e R s m args below meth c B.U B.locs B.cells B.slots ∧ Post ⟨T.setVm vm₁, locs, cells, slots⟩ argsL.toArray v B ∧
      ∀ target, Steps p.tables e below (B.U.setTop { g with pc := g.pc + 3, stack := v.toList ++ rest }) target → Steps p.tables e below (T.setTop g) target := by
  obtain ⟨mk, methM, cM, hnamed, hmethM, -, -, -, -, -, -, hsigM⟩ := Cond.codeWith_spec hcode
  have hstatic : methM.isStatic = true := Cond.static_spec hnamed hmethM hstat
  obtain ⟨kP, hkP, -⟩ := className_of_methodNamed hnamed
  have hinitP : kP.init = .initialized := Cond.initialized_spec (findClass_of_methodNamed hnamed) hkP hinit
  obtain ⟨vm₁, X₁, hstep₁⟩ := X.invokestatic hexec hown hlink hnamed hmethM hstatic hkP hinitP hy (g := g) hg (argsL := argsL) (rest := rest) (hlen _ hsigM) hstack hdg
  obtain ⟨v, B, X', hpost, hsteps⟩ := hK m meth c ⟨T.setVm vm₁, locs, cells, slots⟩ { g with stack := rest } (.invokestatic index) mk argsL.toArray X₁ hg hsize hdg hW (X₁.named hnamed) (hpre vm₁ X₁.warmed)
  exact ⟨v, vm₁, B, X₁.warmed, X', hpost, fun target h => hstep₁ _ fun acts => by rw [doInvoke_state]; exact hsteps.trans h⟩
theorem vx_runSW {y : MethodName} {bytes cc : ByteArray} {maxL nL mc ms n index : Nat} {ret : Option FieldType} {hh : List (Nat × Nat × Nat × Nat)} {ws : List Cond} {rm : Room} {Pc : Array Value → State → Prop} {Qc : Array Value → State → Outcome → State → Prop} {free : Addr → Prop} {Ts : List Cond} {own : String} {As rest : List Value} {g : JFrame}
    (S : CallFix p m c cc nL s args Ts own) (hM : Met l y ws rm Pc Qc mc ms free) (cw : vx_CSW R s args own index y bytes maxL ret hh ws rm mc ms n) (hp : PreS s H Pc As)
    (hg : g.method = m) (hn : As.length = n) (hsize : g.locals.size = nL) (hstack : g.stack = As.reverse ++ rest) (hW : 2 * g.monitorRoom + (rest.map fun v => v.category).sum ≤ 8) (hdg : decode cc g.pc = .ok (.invokestatic index, 3)) (hf : cells + mc ≤ R.cells ∧ slots + ms ≤ R.slots) :
    va_Run p l e R s m args below meth c H locs cells slots mc ms g rest (Qc As.toArray) (free) := by
  obtain ⟨⟨hrc, hrs, hfr, hlo, hws, hcw⟩, hcode, hini, hy, hlen, hl, hstt⟩ := cw
  have hK : Back l R p e below s args y 3 8 (PreOf R mc ms Pc) (PostOf Qc mc ms free) := va_backW (hh := hh) (bytes := bytes) (maxL := maxL) (ret := ret) hM hp.1 hrc hrs hfr hlo hws hcw (fun a' U hW => word_at hW (Or.inl (by first | rfl | simp [Cond.onTables, Cond.keeps, Cond.steady])) hini)
  obtain ⟨hx, hb, hml, ho, -⟩ := S
  intro T hT X
  obtain ⟨v, vm₁, ⟨U', l2, c2, s2⟩, hW₁, X', ⟨g', mk, t, L, e1, e2, hq, h1, hL, h2, h3⟩, st⟩ := vx_callSW X hx (hh := hh) (bytes := bytes) (maxL := maxL) (ret := ret) ho hl hstt hini hcode hy hK hg (hsize.trans hml.symm) (argsL := As) (rest := rest) (fun sig h => hn.trans (hlen sig h)) hstack hW (by rw [hb]; exact hdg)
    (fun vm₁ hW₁ => ⟨hf.1, hf.2, hp.2 (T.setVm vm₁) hT hW₁⟩)
  dsimp only [Pt.U, Pt.locs, Pt.cells, Pt.slots] at X' e1 e2 h1 h2 h3 st
  subst h1; subst h2; subst h3
  exact ⟨v, (T.setVm vm₁).calling g' mk As.toArray, t, U', L, hT, X', hL, e1, e2, hq, st⟩
/-- a thing of a world lies in the heap -/
theorem vx_lt {D : va_G} {cl : List vw_C} {ws : va_W} {H1 : Heap} (h : va_P D cl ws H1) {k : Nat} {q : Nat × va_E} (hk : ws[k]? = some q) : q.1 < H1.size := (h k q hk).lt
end VXS
/-! ===== END ===== -/
/-! ===== BEGIN methods with a table of their own: called by a name, returning or throwing ===== -/
section VXH
/-! vx_backW, vx_callVX, vx_callSX, vx_callVW, vx_runVW, vx_runVX, vx_runSX, vx_ofWH follow the same proofs as their sisters above (Free/Laws.lean, Shelf42/LK1.lean); vx_outP calls Shelf42/NT130.lean (outThrough). -/
section
variable {l : Launch} {R : Room} {p : Program} {e : Env} {below : List Frame} {s : State} {sargs : Array Value} {y : MethodName} {len W9 : Nat}
theorem vx_backW {ws : List Cond} {rm : Room} {Pc : Array Value → State → Prop} {Qc : Array Value → State → Outcome → State → Prop} {XC : String → State → State → Prop} {mc ms : Nat} {free : Addr → Prop} {bytes : ByteArray} {maxL : Nat} {ret : Option FieldType} {hh : List (Nat × Nat × Nat × Nat)}
    (hM : vx_Met l y ws rm Pc Qc XC mc ms free) (hblind : FrameBlind Pc) (hrc : rm.cells = mc) (hrs : rm.slots = ms)
    (hframes : rm.frames + 1 ≤ R.frames) (hlocals : W9 + (maxL + 11) + rm.locals ≤ R.locals)
    (hws : ∀ w ∈ ws, ∀ a' U, s.WarmedH U.vm → w.before a' U = true) (hcode : Cond.codeWith y bytes maxL ret hh ∈ ws) (hinit : ∀ a' U, s.WarmedH U.vm → (Cond.initialized y.cls).before a' U = true) :
    vx_Back l R p e below s sargs y len W9 (PreOf R mc ms Pc) (PostOf Qc mc ms free) (vx_Post XC mc ms free) := by
  intro m meth c A g ig mk a X hg hsize hdg hW hn hp
  have h1 : (headSpec ws rm).pre.before a A.U = true := atoms_intro fun w hw => hws w hw _ _ X.warmed
  have h2 : (Cond.codeWith y bytes maxL ret hh).before a A.U = true := hws _ hcode _ _ X.warmed
  have h3 : (Cond.initialized y.cls).before a A.U = true := hinit _ _ X.warmed
  have h4 : A.cells + (headSpec ws rm).room.cells ≤ R.cells := by rw [show (headSpec ws rm).room.cells = mc from hrc]; exact hp.1
  have h5 : A.slots + (headSpec ws rm).room.slots ≤ R.slots := by rw [show (headSpec ws rm).room.slots = ms from hrs]; exact hp.2.1
  have hPc : Pc a (A.U.calling g mk a) := hblind _ _ _ _ hp.2.2
  obtain ⟨U, Ls, c0, s0⟩ := A
  dsimp only [Pt.U, Pt.locs, Pt.cells, Pt.slots] at h1 h2 h3 h4 h5 X hn hPc ⊢
  obtain ⟨m9, methY, cY, hn9, hmY, hcY, -, hlY, -⟩ := Cond.codeWith_spec h2
  cases Option.some.inj (hn9.symm.trans hn)
  obtain ⟨kY, hkY, -⟩ := className_of_methodNamed hn
  have hinitY : kY.init = .initialized := Cond.initialized_spec (findClass_of_methodNamed hn) hkY h3
  have h : At U g.method c below := by rw [hg]; exact X.here
  have hlocals9 : W9 + (maxL + 11) + (headSpec ws rm).room.locals ≤ R.locals := hlocals
  have happ : (headSpec ws rm).appliesLoose y e.platform (U.calling g mk a) = true :=
    Spec.appliesLoose_calling (g := g) h hdg hn hkY hinitY
      (X.room_calling (g := g) (R' := (headSpec ws rm).room) hsize hmY hcY hframes (by rw [hlY]; omega) h4 h5) h1
  obtain ⟨mid, hmid⟩ := h.above
  have hfr : (U.setTop g).frames = (.java g :: mid) ++ below := by rw [State.frames_setTop' g h.top, hmid]; rfl
  obtain ⟨o, s₂, hsteps, -, hend, hq⟩ := Steps.callFree hM p X.admits X.cas X.clock (acts := []) hfr happ hPc trivial
  have hq' : vx_Q Qc XC mc ms free a (U.calling g mk a) o s₂ := hq
  rw [State.frames_setTop' g h.top] at hend
  obtain ⟨g₀, hg0⟩ := Option.isSome_iff_exists.mp h.top
  obtain ⟨r, hr⟩ := State.topJava?_eq_some.mp hg0
  have hr' : (({ U with heap := s₂.heap, slotsUsed := s₂.slotsUsed } : State).setVm s₂.vm).frames = .java g₀ :: r := hr
  rcases hq' with ⟨hqc, L, hfe, hL⟩ | ⟨q, rfl, E, ce, L, hx, hce, hcv, hcl, hW₂, hsm, hL⟩
  · obtain ⟨⟨v, rfl⟩, hW₂, e2, q2, q3, q4, q5, q6⟩ := id hfe
    have e3 : s₂ = ({ (U.calling g mk a).setFrames s₂.frames with heap := s₂.heap, slotsUsed := s₂.slotsUsed } : State).setVm s₂.vm := by
      have : s₂ = ({ s₂ with vm := (U.calling g mk a).vm } : State).setVm s₂.vm := rfl
      rw [e2] at this
      exact this
    obtain ⟨c₂, i₂, len₂, hc₂, hd₂, hf₂⟩ := hend
    have hW' : U.WarmedH s₂.vm := hW₂
    have hcc : c₂ = c := by
      have h1 : s₂.code? g.method = U.code? g.method := by
        rw [State.code?_eq, State.code?_eq, hW'.alike.method?]
      exact Option.some.inj (hc₂.symm.trans (h1.trans h.code))
    subst hcc
    have hlen : len₂ = len := by rw [hdg] at hd₂; cases hd₂; rfl
    subst hlen
    have hs₂ : s₂ = (({ U with heap := s₂.heap, slotsUsed := s₂.slotsUsed } : State).setVm s₂.vm).setTop { g with pc := g.pc + len₂, stack := v.toList ++ g.stack } := by
      refine e3.trans ?_
      rw [hf₂, State.calling_eq h.top, State.setFrames_setFrames, State.setTop_of_frames _ hr', hr]
      rfl
    have hsame : U.sameButNew ({ U with heap := s₂.heap, slotsUsed := s₂.slotsUsed } : State) L mc ms := by
      refine ⟨?_, q2, q3, q4, q5, q6⟩
      obtain ⟨t, ht, -⟩ := State.frames_cons hr
      show ({ U with heap := s₂.heap, slotsUsed := s₂.slotsUsed } : State) = { U.setFrames U.frames with heap := s₂.heap, slotsUsed := s₂.slotsUsed }
      rw [State.setFrames_self ht]
    subst hg
    refine Or.inl ⟨v, ⟨(({ U with heap := s₂.heap, slotsUsed := s₂.slotsUsed } : State).setVm s₂.vm), Ls ++ L, c0 + mc, s0 + ms⟩,
      ⟨X.admits, X.cas, X.clock, X.frames, X.room, X.hears, X.method, X.code, (X.here.setHeapUsed s₂.heap s₂.slotsUsed).setVm hW'.alike, X.tail, State.WarmedH.trans X.warmed hW', X.limits, X.bytes, X.same.trans (hsame.setVm s.vm)⟩,
      ⟨g, mk, s₂, L, rfl, rfl, hqc, rfl, hL, rfl, rfl⟩, ?_⟩
    show Steps p.tables e below _ ((({ U with heap := s₂.heap, slotsUsed := s₂.slotsUsed } : State).setVm s₂.vm).setTop { g with pc := g.pc + len₂, stack := v.toList ++ g.stack })
    rw [← hs₂]
    exact hsteps
  · obtain ⟨e2, q2, q3, q4, q5, q6⟩ := id hsm
    have e3 : s₂ = ({ (U.calling g mk a).setFrames s₂.frames with heap := s₂.heap, slotsUsed := s₂.slotsUsed } : State).setVm s₂.vm := by
      have : s₂ = ({ s₂ with vm := (U.calling g mk a).vm } : State).setVm s₂.vm := rfl
      rw [e2] at this
      exact this
    have hf₂ : s₂.frames = .throwing q :: .java g :: U.frames.tail := hend
    have hW' : U.WarmedH s₂.vm := hW₂
    have hs₂ : s₂ = ((({ U with heap := s₂.heap, slotsUsed := s₂.slotsUsed } : State).setVm s₂.vm).setTop g).pushFrame (.throwing q) := by
      refine e3.trans ?_
      rw [hf₂, State.calling_eq h.top, State.setFrames_setFrames, State.pushFrame, State.frames_setTop _ hr', State.setTop_of_frames _ hr', State.setFrames_setFrames, hr]
      rfl
    have hsame : U.sameButNew ({ U with heap := s₂.heap, slotsUsed := s₂.slotsUsed } : State) L mc ms := by
      refine ⟨?_, q2, q3, q4, q5, q6⟩
      obtain ⟨t, ht, -⟩ := State.frames_cons hr
      show ({ U with heap := s₂.heap, slotsUsed := s₂.slotsUsed } : State) = { U.setFrames U.frames with heap := s₂.heap, slotsUsed := s₂.slotsUsed }
      rw [State.setFrames_self ht]
    subst hg
    refine Or.inr ⟨q, ⟨(({ U with heap := s₂.heap, slotsUsed := s₂.slotsUsed } : State).setVm s₂.vm), Ls ++ L, c0 + mc, s0 + ms⟩,
      ⟨X.admits, X.cas, X.clock, X.frames, X.room, X.hears, X.method, X.code, (X.here.setHeapUsed s₂.heap s₂.slotsUsed).setVm hW'.alike, X.tail, State.WarmedH.trans X.warmed hW', X.limits, X.bytes, X.same.trans (hsame.setVm s.vm)⟩,
      ⟨g, mk, s₂, L, E, ce, rfl, rfl, hx, hce, hcv, hcl, rfl, hL, rfl, rfl⟩, ?_⟩
    show Steps p.tables e below _ (((({ U with heap := s₂.heap, slotsUsed := s₂.slotsUsed } : State).setVm s₂.vm).setTop g).pushFrame (.throwing q))
    rw [← hs₂]
    exact hsteps
end
variable {p : Program} {l : Launch} {e : Env} {R : Room} {s : State} {m : MethodId} {args : Array Value} {below : List Frame} {meth : Method} {c : Code} {T : State} {H : Heap} {locs : List Loc} {cells slots : Nat}
theorem vx_callVX (X : Stand p l e R s m args below meth c T locs cells slots) (hexec : p.tables.exec = Jvm.exec) {own C : String} {index : Nat} {y : MethodName} {bytes : ByteArray} {maxL : Nat} {ret : Option FieldType} {hh : List (Nat × Nat × Nat × Nat)}
    (hown : s.vm.findClass own = some m.cls) (hlink : (Cond.methodLink own index y).before args s = true) (hinst : (Cond.instanceMethod y).before args s = true) (hsel : (Cond.selects C y y).before args s = true)
    (hcode : (Cond.codeWith y bytes maxL ret hh).before args s = true) (hy : y.cls ≠ "java/lang/invoke/MethodHandle" ∧ y.cls ≠ "java/lang/invoke/VarHandle")
    {W9 : Nat} {Pre : Pt → Array Value → Prop} {Post : Pt → Array Value → Option Value → Pt → Prop} {PostX : Pt → Array Value → Addr → Pt → Prop} (hK : vx_Back l R p e below s args y 3 W9 Pre Post PostX)
    {b : Addr} {cellB : Cell} (hcell : T.heap[b]? = some cellB) (hobj : cellB.vm.isStatics = false) (hcls : s.vm.findClass C = some cellB.cls)
    {g : JFrame} (hg : g.method = m) (hsize : g.locals.size = c.maxLocals) {argsL rest : List Value} (hlen : ∀ sig, parseMethodDescriptor y.desc = some sig → argsL.length = sig.parameters.length)
    (hstack : g.stack = argsL.reverse ++ .ref b :: rest) (hW : 2 * g.monitorRoom + (rest.map fun v => v.category).sum ≤ W9) (hdg : decode c.code g.pc = .ok (.invokevirtual index, 3))
    (hpre : ∀ vm₁, s.WarmedH vm₁ → Pre ⟨T.setVm vm₁, locs, cells, slots⟩ (Value.ref b :: argsL).toArray) :
    (∃ (v : Option Value) (vm₁ : Vm) (B : Pt), s.WarmedH vm₁ ∧ Stand p l e R s m args below meth c B.U B.locs B.cells B.slots ∧ Post ⟨T.setVm vm₁, locs, cells, slots⟩ (Value.ref b :: argsL).toArray v B ∧
      ∀ target, Steps p.tables e below (B.U.setTop { g with pc := g.pc + 3, stack := v.toList ++ rest }) target → Steps p.tables e below (T.setTop g) target) ∨
    (∃ (q : Addr) (vm₁ : Vm) (B : Pt), s.WarmedH vm₁ ∧ Stand p l e R s m args below meth c B.U B.locs B.cells B.slots ∧ PostX ⟨T.setVm vm₁, locs, cells, slots⟩ (Value.ref b :: argsL).toArray q B ∧
      Steps p.tables e below (T.setTop g) ((B.U.setTop { g with stack := rest }).pushFrame (.throwing q))) := by
  obtain ⟨mk, methM, hnamed, hmethM, hstM, habM⟩ := Cond.instanceMethod_spec hinst
  obtain ⟨m8, methM', cM, hn8, hmethM', -, -, -, -, -, -, hsigM⟩ := Cond.codeWith_spec hcode
  cases Option.some.inj (hn8.symm.trans hnamed)
  cases hmethM.symm.trans hmethM'
  obtain ⟨c2, r2, m2, q1, q2, q3, q4, kP, hkP, hkPi⟩ := Cond.selects_spec hsel
  cases hcls.symm.trans q1
  cases (State.methodFound?_of_named hnamed hy).symm.trans q2
  cases hnamed.symm.trans q3
  have hselP : selectMethod e.platform s.vm cellB.cls mk = .method mk := by rw [Launch.admits_selectMethod X.admits]; exact q4
  obtain ⟨vm₁, X₁, hstep₁⟩ := X.invokevirtual hexec hown hlink hnamed hmethM hstM hkP hkPi hy (a := b) (cell := cellB) hcell
    (fun z h => by rw [h] at hobj; cases hobj) hselP hmethM habM hkP hkPi (g := g) hg (argsL := argsL) (rest := rest) (hlen _ hsigM) hstack hdg
  rcases hK m meth c ⟨T.setVm vm₁, locs, cells, slots⟩ { g with stack := rest } (.invokevirtual index) mk (Value.ref b :: argsL).toArray X₁ hg hsize hdg hW (X₁.named hnamed) (hpre vm₁ X₁.warmed) with ⟨v, B, X', hpost, hsteps⟩ | ⟨q, B, X', hpost, hsteps⟩
  · exact Or.inl ⟨v, vm₁, B, X₁.warmed, X', hpost, fun target h => hstep₁ _ fun acts => by rw [doInvoke_state]; exact hsteps.trans h⟩
  · exact Or.inr ⟨q, vm₁, B, X₁.warmed, X', hpost, hstep₁ _ fun acts => by rw [doInvoke_state]; exact hsteps⟩
theorem vx_callSX (X : Stand p l e R s m args below meth c T locs cells slots) (hexec : p.tables.exec = Jvm.exec) {own : String} {index : Nat} {y : MethodName} {bytes : ByteArray} {maxL : Nat} {ret : Option FieldType} {hh : List (Nat × Nat × Nat × Nat)}
    (hown : s.vm.findClass own = some m.cls) (hlink : (Cond.methodLink own index y).before args s = true) (hstat : (Cond.static y).before args s = true) (hinit : (Cond.initialized y.cls).before args s = true)
    (hcode : (Cond.codeWith y bytes maxL ret hh).before args s = true) (hy : y.cls ≠ "java/lang/invoke/MethodHandle" ∧ y.cls ≠ "java/lang/invoke/VarHandle")
    {W9 : Nat} {Pre : Pt → Array Value → Prop} {Post : Pt → Array Value → Option Value → Pt → Prop} {PostX : Pt → Array Value → Addr → Pt → Prop} (hK : vx_Back l R p e below s args y 3 W9 Pre Post PostX)
    {g : JFrame} (hg : g.method = m) (hsize : g.locals.size = c.maxLocals) {argsL rest : List Value} (hlen : ∀ sig, parseMethodDescriptor y.desc = some sig → argsL.length = sig.parameters.length)
    (hstack : g.stack = argsL.reverse ++ rest) (hW : 2 * g.monitorRoom + (rest.map fun v => v.category).sum ≤ W9) (hdg : decode c.code g.pc = .ok (.invokestatic index, 3))
    (hpre : ∀ vm₁, s.WarmedH vm₁ → Pre ⟨T.setVm vm₁, locs, cells, slots⟩ argsL.toArray) :
    (∃ (v : Option Value) (vm₁ : Vm) (B : Pt), s.WarmedH vm₁ ∧ Stand p l e R s m args below meth c B.U B.locs B.cells B.slots ∧ Post ⟨T.setVm vm₁, locs, cells, slots⟩ argsL.toArray v B ∧
      ∀ target, Steps p.tables e below (B.U.setTop { g with pc := g.pc + 3, stack := v.toList ++ rest }) target → Steps p.tables e below (T.setTop g) target) ∨
    (∃ (q : Addr) (vm₁ : Vm) (B : Pt), s.WarmedH vm₁ ∧ Stand p l e R s m args below meth c B.U B.locs B.cells B.slots ∧ PostX ⟨T.setVm vm₁, locs, cells, slots⟩ argsL.toArray q B ∧
      Steps p.tables e below (T.setTop g) ((B.U.setTop { g with stack := rest }).pushFrame (.throwing q))) := by
  obtain ⟨mk, methM, cM, hnamed, hmethM, -, -, -, -, -, -, hsigM⟩ := Cond.codeWith_spec hcode
  have hstatic : methM.isStatic = true := Cond.static_spec hnamed hmethM hstat
  obtain ⟨kP, hkP, -⟩ := className_of_methodNamed hnamed
  have hinitP : kP.init = .initialized := Cond.initialized_spec (findClass_of_methodNamed hnamed) hkP hinit
  obtain ⟨vm₁, X₁, hstep₁⟩ := X.invokestatic hexec hown hlink hnamed hmethM hstatic hkP hinitP hy (g := g) hg (argsL := argsL) (rest := rest) (hlen _ hsigM) hstack hdg
  rcases hK m meth c ⟨T.setVm vm₁, locs, cells, slots⟩ { g with stack := rest } (.invokestatic index) mk argsL.toArray X₁ hg hsize hdg hW (X₁.named hnamed) (hpre vm₁ X₁.warmed) with ⟨v, B, X', hpost, hsteps⟩ | ⟨q, B, X', hpost, hsteps⟩
  · exact Or.inl ⟨v, vm₁, B, X₁.warmed, X', hpost, fun target h => hstep₁ _ fun acts => by rw [doInvoke_state]; exact hsteps.trans h⟩
  · exact Or.inr ⟨q, vm₁, B, X₁.warmed, X', hpost, hstep₁ _ fun acts => by rw [doInvoke_state]; exact hsteps⟩
theorem vx_callVW (X : Stand p l e R s m args below meth c T locs cells slots) (hexec : p.tables.exec = Jvm.exec) {own C : String} {index : Nat} {y : MethodName} {bytes : ByteArray} {maxL : Nat} {ret : Option FieldType} {hh : List (Nat × Nat × Nat × Nat)}
    (hown : s.vm.findClass own = some m.cls) (hlink : (Cond.methodLink own index y).before args s = true) (hinst : (Cond.instanceMethod y).before args s = true) (hsel : (Cond.selects C y y).before args s = true)
    (hcode : (Cond.codeWith y bytes maxL ret hh).before args s = true) (hy : y.cls ≠ "java/lang/invoke/MethodHandle" ∧ y.cls ≠ "java/lang/invoke/VarHandle")
    {W9 : Nat} {Pre : Pt → Array Value → Prop} {Post : Pt → Array Value → Option Value → Pt → Prop} (hK : Back l R p e below s args y 3 W9 Pre Post)
    {b : Addr} {cellB : Cell} (hcell : T.heap[b]? = some cellB) (hobj : cellB.vm.isStatics = false) (hcls : s.vm.findClass C = some cellB.cls)
    {g : JFrame} (hg : g.method = m) (hsize : g.locals.size = c.maxLocals) {argsL rest : List Value} (hlen : ∀ sig, parseMethodDescriptor y.desc = some sig → argsL.length = sig.parameters.length)
    (hstack : g.stack = argsL.reverse ++ .ref b :: rest) (hW : 2 * g.monitorRoom + (rest.map fun v => v.category).sum ≤ W9) (hdg : decode c.code g.pc = .ok (.invokevirtual index, 3))
    (hpre : ∀ vm₁, s.WarmedH vm₁ → Pre ⟨T.setVm vm₁, locs, cells, slots⟩ (Value.ref b :: argsL).toArray) :
    ∃ (v : Option Value) (vm₁ : Vm) (B : Pt), s.WarmedH vm₁ ∧ Stand p l e R s m args below meth c B.U B.locs B.cells B.slots ∧ Post ⟨T.setVm vm₁, locs, cells, slots⟩ (Value.ref b :: argsL).toArray v B ∧
      ∀ target, Steps p.tables e below (B.U.setTop { g with pc := g.pc + 3, stack := v.toList ++ rest }) target → Steps p.tables e below (T.setTop g) target := by
  obtain ⟨mk, methM, hnamed, hmethM, hstM, habM⟩ := Cond.instanceMethod_spec hinst
  obtain ⟨m8, methM', cM, hn8, hmethM', -, -, -, -, -, -, hsigM⟩ := Cond.codeWith_spec hcode
  cases Option.some.inj (hn8.symm.trans hnamed)
  cases hmethM.symm.trans hmethM'
  obtain ⟨c2, r2, m2, q1, q2, q3, q4, kP, hkP, hkPi⟩ := Cond.selects_spec hsel
  cases hcls.symm.trans q1
  cases (State.methodFound?_of_named hnamed hy).symm.trans q2
  cases hnamed.symm.trans q3
  have hselP : selectMethod e.platform s.vm cellB.cls mk = .method mk := by rw [Launch.admits_selectMethod X.admits]; exact q4
  obtain ⟨vm₁, X₁, hstep₁⟩ := X.invokevirtual hexec hown hlink hnamed hmethM hstM hkP hkPi hy (a := b) (cell := cellB) hcell
    (fun z h => by rw [h] at hobj; cases hobj) hselP hmethM habM hkP hkPi (g := g) hg (argsL := argsL) (rest := rest) (hlen _ hsigM) hstack hdg
  obtain ⟨v, B, X', hpost, hsteps⟩ := hK m meth c ⟨T.setVm vm₁, locs, cells, slots⟩ { g with stack := rest } (.invokevirtual index) mk (Value.ref b :: argsL).toArray X₁ hg hsize hdg hW (X₁.named hnamed) (hpre vm₁ X₁.warmed)
  exact ⟨v, vm₁, B, X₁.warmed, X', hpost, fun target h => hstep₁ _ fun acts => by rw [doInvoke_state]; exact hsteps.trans h⟩
abbrev vx_CVW (R : Room) (s : State) (args : Array Value) (own C : String) (index : Nat) (y : MethodName) (bytes : ByteArray) (maxL : Nat) (ret : Option FieldType) (hh : List (Nat × Nat × Nat × Nat)) (ws : List Cond) (rm : Room) (mc ms n : Nat) : Prop :=
  (rm.cells = mc ∧ rm.slots = ms ∧ rm.frames + 1 ≤ R.frames ∧ 8 + (maxL + 11) + rm.locals ≤ R.locals ∧ (∀ w ∈ ws, ∀ (a' : Array Value) (U : State), s.WarmedH U.vm → w.before a' U = true) ∧ Cond.codeWith y bytes maxL ret hh ∈ ws) ∧
  (Cond.codeWith y bytes maxL ret hh).before args s = true ∧ (Cond.initialized y.cls).before args s = true ∧ (y.cls ≠ "java/lang/invoke/MethodHandle" ∧ y.cls ≠ "java/lang/invoke/VarHandle") ∧
  (∀ sig, parseMethodDescriptor y.desc = some sig → n = sig.parameters.length) ∧ (Cond.methodLink own index y).before args s = true ∧ (Cond.instanceMethod y).before args s = true ∧ (Cond.selects C y y).before args s = true
theorem vx_cwVW {own C : String} {index maxL mc ms : Nat} {y : MethodName} {bytes : ByteArray} {ret : Option FieldType} {hh : List (Nat × Nat × Nat × Nat)} {Ts ws ws' : List Cond} {rm : Room} (n : Nat) (ht : ∀ w ∈ Ts, w.before args s = true) (hT : GoodIn Ts (wsV own index C y ws)) (hw : ws = Cond.codeWith y bytes maxL ret hh :: ws') (hrc : rm.cells = mc) (hrs : rm.slots = ms)
    (hd : y.cls = C ∧ y.cls ≠ "java/lang/invoke/MethodHandle" ∧ y.cls ≠ "java/lang/invoke/VarHandle" ∧ (parseMethodDescriptor y.desc).map (fun d => d.parameters.length) = some n) (hR : rm.frames + 1 ≤ R.frames ∧ 8 + (maxL + 11) + rm.locals ≤ R.locals) :
    vx_CVW R s args own C index y bytes maxL ret hh ws rm mc ms n := by
  obtain ⟨hC, hd⟩ := hd
  subst hC
  have ok : ∀ w ∈ wsV own index y.cls y ws, w.before args s = true := fun w h => ht w (hT w h).1
  have hG : GoodIn Ts ws := fun w h => hT w (by unfold wsV; exact List.mem_append_right _ h)
  have hc : Cond.codeWith y bytes maxL ret hh ∈ ws := by rw [hw]; exact List.mem_cons_self
  refine ⟨⟨hrc, hrs, hR.1, hR.2, pay_in ht hG, hc⟩, ht _ (hG _ hc).1, ok _ (by simp [wsV]), ⟨hd.1, hd.2.1⟩, fun sig h => ?_, ok _ (by simp [wsV]), ok _ (by simp [wsV]), ok _ (by simp [wsV])⟩
  have h2 := hd.2.2
  rw [h] at h2
  exact (Option.some.inj h2).symm
theorem vx_runVW {y : MethodName} {bytes cc : ByteArray} {maxL nL mc ms n index : Nat} {ret : Option FieldType} {hh : List (Nat × Nat × Nat × Nat)} {ws : List Cond} {rm : Room} {Pc : Array Value → State → Prop} {Qc : Array Value → State → Outcome → State → Prop} {free : Addr → Prop} {Ts : List Cond} {own C : String} {b : Addr} {As rest : List Value} {g : JFrame}
    (S : CallFix p m c cc nL s args Ts own) (hM : Met l y ws rm Pc Qc mc ms free) (cw : vx_CVW R s args own C index y bytes maxL ret hh ws rm mc ms n) (hp : PreV s H C b Pc As)
    (hg : g.method = m) (hn : As.length = n) (hsize : g.locals.size = nL) (hstack : g.stack = As.reverse ++ .ref b :: rest) (hW : 2 * g.monitorRoom + (rest.map fun v => v.category).sum ≤ 8) (hdg : decode cc g.pc = .ok (.invokevirtual index, 3)) (hf : cells + mc ≤ R.cells ∧ slots + ms ≤ R.slots) :
    va_Run p l e R s m args below meth c H locs cells slots mc ms g rest (Qc (Value.ref b :: As).toArray) free := by
  obtain ⟨⟨hrc, hrs, hfr, hlo, hws, hcw⟩, hcode, hini, hy, hlen, hl, hin, hse⟩ := cw
  have hK : Back l R p e below s args y 3 8 (PreOf R mc ms Pc) (PostOf Qc mc ms free) := va_backW (hh := hh) (bytes := bytes) (maxL := maxL) (ret := ret) hM hp.1 hrc hrs hfr hlo hws hcw (fun a' U hW => word_at hW (Or.inl (by first | rfl | simp [Cond.onTables, Cond.keeps, Cond.steady])) hini)
  obtain ⟨hx, hb, hml, ho, -⟩ := S
  obtain ⟨-, ⟨cellB, hcB, hoB, hclB⟩, hPc⟩ := hp
  intro T hT X
  obtain ⟨v, vm₁, ⟨U', l2, c2, s2⟩, hW₁, X', ⟨g', mk, t, L, e1, e2, hq, h1, hL, h2, h3⟩, st⟩ := vx_callVW X hx (C := C) (hh := hh) (bytes := bytes) (maxL := maxL) (ret := ret) ho hl hin hse hcode hy hK (by rw [hT]; exact hcB) hoB hclB hg (hsize.trans hml.symm) (argsL := As) (rest := rest) (fun sig h => hn.trans (hlen sig h)) hstack hW (by rw [hb]; exact hdg)
    (fun vm₁ hW₁ => ⟨hf.1, hf.2, hPc (T.setVm vm₁) hT hW₁⟩)
  dsimp only [Pt.U, Pt.locs, Pt.cells, Pt.slots] at X' e1 e2 h1 h2 h3 st
  subst h1; subst h2; subst h3
  exact ⟨v, (T.setVm vm₁).calling g' mk (Value.ref b :: As).toArray, t, U', L, hT, X', hL, e1, e2, hq, st⟩
section
variable {y : MethodName} {bytes cc : ByteArray} {maxL nL mc ms n index : Nat} {ret : Option FieldType} {ws : List Cond} {rm : Room} {Pc : Array Value → State → Prop} {Qc : Array Value → State → Outcome → State → Prop} {XC : String → State → State → Prop} {free : Addr → Prop} {Ts : List Cond} {own C : String} {b : Addr} {As rest : List Value} {g : JFrame}
theorem vx_runVX {hh : List (Nat × Nat × Nat × Nat)} (S : CallFix p m c cc nL s args Ts own) (hM : vx_Met l y ws rm Pc Qc XC mc ms free) (cw : vx_CVW R s args own C index y bytes maxL ret hh ws rm mc ms n) (hp : PreV s H C b Pc As)
    (hg : g.method = m) (hn : As.length = n) (hsize : g.locals.size = nL) (hstack : g.stack = As.reverse ++ .ref b :: rest) (hW : 2 * g.monitorRoom + (rest.map fun v => v.category).sum ≤ 8) (hdg : decode cc g.pc = .ok (.invokevirtual index, 3)) (hf : cells + mc ≤ R.cells ∧ slots + ms ≤ R.slots) :
    vx_Run p l e R s m args below meth c H locs cells slots mc ms g rest (Qc (Value.ref b :: As).toArray) XC free := by
  obtain ⟨⟨hrc, hrs, hfr, hlo, hws, hcw⟩, hcode, hini, hy, hlen, hl, hin, hse⟩ := cw
  have hK : vx_Back l R p e below s args y 3 8 (PreOf R mc ms Pc) (PostOf Qc mc ms free) (vx_Post XC mc ms free) := vx_backW (hh := hh) (bytes := bytes) (maxL := maxL) (ret := ret) hM hp.1 hrc hrs hfr hlo hws hcw (fun a' U hW => word_at hW (Or.inl (by first | rfl | simp [Cond.onTables, Cond.keeps, Cond.steady])) hini)
  obtain ⟨hx, hb, hml, ho, -⟩ := S
  obtain ⟨-, ⟨cellB, hcB, hoB, hclB⟩, hPc⟩ := hp
  intro T hT X
  rcases vx_callVX X hx (C := C) (hh := hh) (bytes := bytes) (maxL := maxL) (ret := ret) ho hl hin hse hcode hy hK (by rw [hT]; exact hcB) hoB hclB hg (hsize.trans hml.symm) (argsL := As) (rest := rest) (fun sig h => hn.trans (hlen sig h)) hstack hW (by rw [hb]; exact hdg)
    (fun vm₁ hW₁ => ⟨hf.1, hf.2, hPc (T.setVm vm₁) hT hW₁⟩) with ⟨v, vm₁, ⟨U', l2, c2, s2⟩, hW₁, X', ⟨g', mk, t, L, e1, e2, hq, h1, hL, h2, h3⟩, st⟩ | ⟨q, vm₁, ⟨U', l2, c2, s2⟩, hW₁, X', ⟨g', mk, t, L, E, ce, e1, e2, hq, hce, hcv, hcl, h1, hL, h2, h3⟩, st⟩
  · dsimp only [Pt.U, Pt.locs, Pt.cells, Pt.slots] at X' e1 e2 h1 h2 h3 st
    subst h1; subst h2; subst h3
    exact Or.inl ⟨v, (T.setVm vm₁).calling g' mk (Value.ref b :: As).toArray, t, U', L, hT, X', hL, e1, e2, hq, st⟩
  · dsimp only [Pt.U, Pt.locs, Pt.cells, Pt.slots] at X' e1 e2 h1 h2 h3 st hcl
    subst h1; subst h2; subst h3
    exact Or.inr ⟨q, (T.setVm vm₁).calling g' mk (Value.ref b :: As).toArray, t, U', L, E, ce, hT, X', hL, e1, e2, hq, hce, hcv, vx_cls hW₁ hcl, st⟩
theorem vx_runSX {hh : List (Nat × Nat × Nat × Nat)} (S : CallFix p m c cc nL s args Ts own) (hM : vx_Met l y ws rm Pc Qc XC mc ms free) (cw : vx_CSW R s args own index y bytes maxL ret hh ws rm mc ms n) (hp : PreS s H Pc As)
    (hg : g.method = m) (hn : As.length = n) (hsize : g.locals.size = nL) (hstack : g.stack = As.reverse ++ rest) (hW : 2 * g.monitorRoom + (rest.map fun v => v.category).sum ≤ 8) (hdg : decode cc g.pc = .ok (.invokestatic index, 3)) (hf : cells + mc ≤ R.cells ∧ slots + ms ≤ R.slots) :
    vx_Run p l e R s m args below meth c H locs cells slots mc ms g rest (Qc As.toArray) XC free := by
  obtain ⟨⟨hrc, hrs, hfr, hlo, hws, hcw⟩, hcode, hini, hy, hlen, hl, hstt⟩ := cw
  have hK : vx_Back l R p e below s args y 3 8 (PreOf R mc ms Pc) (PostOf Qc mc ms free) (vx_Post XC mc ms free) := vx_backW (hh := hh) (bytes := bytes) (maxL := maxL) (ret := ret) hM hp.1 hrc hrs hfr hlo hws hcw (fun a' U hW => word_at hW (Or.inl (by first | rfl | simp [Cond.onTables, Cond.keeps, Cond.steady])) hini)
  obtain ⟨hx, hb, hml, ho, -⟩ := S
  intro T hT X
  rcases vx_callSX X hx (hh := hh) (bytes := bytes) (maxL := maxL) (ret := ret) ho hl hstt hini hcode hy hK hg (hsize.trans hml.symm) (argsL := As) (rest := rest) (fun sig h => hn.trans (hlen sig h)) hstack hW (by rw [hb]; exact hdg)
    (fun vm₁ hW₁ => ⟨hf.1, hf.2, hp.2 (T.setVm vm₁) hT hW₁⟩) with ⟨v, vm₁, ⟨U', l2, c2, s2⟩, hW₁, X', ⟨g', mk, t, L, e1, e2, hq, h1, hL, h2, h3⟩, st⟩ | ⟨q, vm₁, ⟨U', l2, c2, s2⟩, hW₁, X', ⟨g', mk, t, L, E, ce, e1, e2, hq, hce, hcv, hcl, h1, hL, h2, h3⟩, st⟩
  · dsimp only [Pt.U, Pt.locs, Pt.cells, Pt.slots] at X' e1 e2 h1 h2 h3 st
    subst h1; subst h2; subst h3
    exact Or.inl ⟨v, (T.setVm vm₁).calling g' mk As.toArray, t, U', L, hT, X', hL, e1, e2, hq, st⟩
  · dsimp only [Pt.U, Pt.locs, Pt.cells, Pt.slots] at X' e1 e2 h1 h2 h3 st hcl
    subst h1; subst h2; subst h3
    exact Or.inr ⟨q, (T.setVm vm₁).calling g' mk As.toArray, t, U', L, E, ce, hT, X', hL, e1, e2, hq, hce, hcv, vx_cls hW₁ hcl, st⟩
end
end VXH
theorem vx_ofWH {l : Launch} {y : MethodName} {ws ws' : List Cond} {rm : Room} {Pc : Array Value → State → Prop} {Qc : Array Value → State → Outcome → State → Prop} {XC : String → State → State → Prop} {mc ms : Nat} {free : Addr → Prop} {cc : ByteArray} {maxL : Nat} {ret : Option FieldType} {hh : List (Nat × Nat × Nat × Nat)}
    (hy : plainName y.cls = true) (hw : ws = Cond.codeWith y cc maxL ret hh :: ws')
    (body : ∀ p e s m args below meth c s₁, BodyLoose p l y (headSpec ws rm) cc maxL ret e s m args below meth c s₁ → c.maxLocals = maxL → Pc args s →
      W p l e (headSpec ws rm).room s m args below meth c s.heap [] 0 0 (vx_MQ below Qc XC args s mc ms free) (entryFrame m args maxL)) : vx_Met l y ws rm Pc Qc XC mc ms free := by
  refine MetFree.of_bodyS (code := cc) (maxLocals := maxL) (ret := ret) hy ?_ ?_
  · intro args s m h hn
    obtain ⟨m9, meth, c, hn9, h1, h2, h3, h4, -, h5, h6, -⟩ := Cond.codeWith_spec (atoms_spec (ws := ws) h _ (by rw [hw]; exact List.mem_cons_self))
    cases hn.symm.trans hn9
    exact ⟨meth, c, h1, h2, h3, h4, h5, h6⟩
  · intro p e s m args below meth c s₁ B hml hP _
    have hh0 : s₁.heap = s.heap := by rw [B.state]; rfl
    obtain ⟨t, a1, o, b1, b2, b3⟩ := body p e s m args below meth c s₁ B hml hP s₁ hh0 (Stand.of_body B)
    exact ⟨t, o, a1, b1, b2, b3⟩
/-! ===== END ===== -/
end
section
/-! ===== BEGIN printed: names, fields, word lists, decode rows ===== -/
def RX0 : String := "TwoSetMachine$Alu"
def TX0 : u_T := fun k => match k with
  | 0 => ("TwoSetMachine$Alu", "registers", "LTwoSetMachine$Registers;", true)
  | _ => ("TwoSetMachine$Alu", "flags", "I", false)
def tyX0 : Nat → FieldType := fun k => match k with
  | 0 => .object "TwoSetMachine$Registers"
  | _ => .int
abbrev wsX00 : List Cond := u_ws RX0 TX0 2
theorem nmX0 : ∀ a, a < 2 → ∀ b, b < 2 → a ≠ b → (TX0 a).2.1 ≠ (TX0 b).2.1 := by decide +kernel
theorem tyX0_ok : ∀ k, k < 2 → parseFieldDescriptor (TX0 k).2.2.1 = some (tyX0 k) := by decide +kernel
abbrev cX0_init : ByteArray := prog_2_method_1_code
def yX0_init : MethodName := ⟨RX0, "<init>", "(LTwoSetMachine$Registers;)V"⟩
abbrev cX0_isTest : ByteArray := prog_2_method_2_code
def yX0_isTest : MethodName := ⟨RX0, "isTest", "(I)Z"⟩
abbrev cX0_flags : ByteArray := prog_2_method_3_code
def yX0_flags : MethodName := ⟨RX0, "flags", "()I"⟩
abbrev cX0_compute : ByteArray := prog_2_method_4_code
def yX0_compute : MethodName := ⟨RX0, "compute", "(IIII)I"⟩
abbrev cX0_apply : ByteArray := prog_2_method_5_code
def yX0_apply : MethodName := ⟨RX0, "apply", "(IIII)V"⟩
abbrev cX0_flagsOfProduct : ByteArray := prog_2_method_6_code
def yX0_flagsOfProduct : MethodName := ⟨RX0, "flagsOfProduct", "(J)V"⟩
abbrev cX0_logic : ByteArray := prog_2_method_7_code
def yX0_logic : MethodName := ⟨RX0, "logic", "(II)I"⟩
abbrev cX0_sum : ByteArray := prog_2_method_8_code
def yX0_sum : MethodName := ⟨RX0, "sum", "(III)I"⟩
abbrev cX0_keep : ByteArray := prog_2_method_9_code
def yX0_keep : MethodName := ⟨RX0, "keep", "(ZZII)V"⟩
def RX1 : String := "TwoSetMachine$ArmSet"
def TX1 : u_T := fun k => match k with
  | 0 => ("TwoSetMachine$ArmSet", "registers", "LTwoSetMachine$Registers;", true)
  | 1 => ("TwoSetMachine$ArmSet", "shifter", "LTwoSetMachine$Shifter;", true)
  | 2 => ("TwoSetMachine$ArmSet", "alu", "LTwoSetMachine$Alu;", true)
  | _ => ("TwoSetMachine$ArmSet", "transfers", "LTwoSetMachine$Transfers;", true)
def tyX1 : Nat → FieldType := fun k => match k with
  | 0 => .object "TwoSetMachine$Registers"
  | 1 => .object "TwoSetMachine$Shifter"
  | 2 => .object "TwoSetMachine$Alu"
  | _ => .object "TwoSetMachine$Transfers"
abbrev wsX10 : List Cond := u_ws RX1 TX1 4
theorem nmX1 : ∀ a, a < 4 → ∀ b, b < 4 → a ≠ b → (TX1 a).2.1 ≠ (TX1 b).2.1 := by decide +kernel
theorem tyX1_ok : ∀ k, k < 4 → parseFieldDescriptor (TX1 k).2.2.1 = some (tyX1 k) := by decide +kernel
abbrev cX1_init : ByteArray := prog_3_method_1_code
def yX1_init : MethodName := ⟨RX1, "<init>", "(LTwoSetMachine$Registers;LTwoSetMachine$Shifter;LTwoSetMachine$Alu;LTwoSetMachine$Transfers;)V"⟩
abbrev cX1_perform : ByteArray := prog_3_method_2_code
def yX1_perform : MethodName := ⟨RX1, "perform", "(I)I"⟩
abbrev cX1_multiply : ByteArray := prog_3_method_3_code
def yX1_multiply : MethodName := ⟨RX1, "multiply", "(I)I"⟩
abbrev cX1_longProduct : ByteArray := prog_3_method_4_code
def yX1_longProduct : MethodName := ⟨RX1, "longProduct", "(IIZ)J"⟩
abbrev cX1_pair : ByteArray := prog_3_method_5_code
def yX1_pair : MethodName := ⟨RX1, "pair", "(II)J"⟩
abbrev cX1_swap : ByteArray := prog_3_method_6_code
def yX1_swap : MethodName := ⟨RX1, "swap", "(I)I"⟩
abbrev cX1_halves : ByteArray := prog_3_method_7_code
def yX1_halves : MethodName := ⟨RX1, "halves", "(I)I"⟩
abbrev cX1_readStatus : ByteArray := prog_3_method_8_code
def yX1_readStatus : MethodName := ⟨RX1, "readStatus", "(I)I"⟩
abbrev cX1_writeStatus : ByteArray := prog_3_method_9_code
def yX1_writeStatus : MethodName := ⟨RX1, "writeStatus", "(II)I"⟩
abbrev cX1_data : ByteArray := prog_3_method_10_code
def yX1_data : MethodName := ⟨RX1, "data", "(I)I"⟩
abbrev cX1_shiftedByRegister : ByteArray := prog_3_method_11_code
def yX1_shiftedByRegister : MethodName := ⟨RX1, "shiftedByRegister", "(I)I"⟩
abbrev cX1_shiftedByNumber : ByteArray := prog_3_method_12_code
def yX1_shiftedByNumber : MethodName := ⟨RX1, "shiftedByNumber", "(I)I"⟩
abbrev cX1_transfer : ByteArray := prog_3_method_13_code
def yX1_transfer : MethodName := ⟨RX1, "transfer", "(I)I"⟩
abbrev cX1_branch : ByteArray := prog_3_method_14_code
def yX1_branch : MethodName := ⟨RX1, "branch", "(I)I"⟩
def RX2 : String := "TwoSetMachine$Bits"
def TX2 : u_T := fun k => match k with
  | _ => ("", "", "", false)
def tyX2 : Nat → FieldType := fun k => match k with
  | _ => .int
abbrev wsX20 : List Cond := u_ws RX2 TX2 0
theorem nmX2 : ∀ a, a < 0 → ∀ b, b < 0 → a ≠ b → (TX2 a).2.1 ≠ (TX2 b).2.1 := by decide +kernel
theorem tyX2_ok : ∀ k, k < 0 → parseFieldDescriptor (TX2 k).2.2.1 = some (tyX2 k) := by decide +kernel
abbrev cX2_on : ByteArray := prog_4_method_2_code
def yX2_on : MethodName := ⟨RX2, "on", "(II)Z"⟩
abbrev cX2_three : ByteArray := prog_4_method_3_code
def yX2_three : MethodName := ⟨RX2, "three", "(II)I"⟩
abbrev cX2_four : ByteArray := prog_4_method_4_code
def yX2_four : MethodName := ⟨RX2, "four", "(II)I"⟩
abbrev cX2_five : ByteArray := prog_4_method_5_code
def yX2_five : MethodName := ⟨RX2, "five", "(II)I"⟩
def RX3 : String := "TwoSetMachine$Fault"
def TX3 : u_T := fun k => match k with
  | _ => ("", "", "", false)
def tyX3 : Nat → FieldType := fun k => match k with
  | _ => .int
abbrev wsX30 : List Cond := u_ws RX3 TX3 0
theorem nmX3 : ∀ a, a < 0 → ∀ b, b < 0 → a ≠ b → (TX3 a).2.1 ≠ (TX3 b).2.1 := by decide +kernel
theorem tyX3_ok : ∀ k, k < 0 → parseFieldDescriptor (TX3 k).2.2.1 = some (tyX3 k) := by decide +kernel
abbrev cX3_isKind : ByteArray := prog_5_method_2_code
def yX3_isKind : MethodName := ⟨RX3, "isKind", "(I)Z"⟩
abbrev cX3_modeOf : ByteArray := prog_5_method_3_code
def yX3_modeOf : MethodName := ⟨RX3, "modeOf", "(I)I"⟩
abbrev cX3_vectorOf : ByteArray := prog_5_method_4_code
def yX3_vectorOf : MethodName := ⟨RX3, "vectorOf", "(I)I"⟩
def RX4 : String := "TwoSetMachine$Memory"
def TX4 : u_T := fun k => match k with
  | _ => ("TwoSetMachine$Memory", "words", "[I", true)
def tyX4 : Nat → FieldType := fun k => match k with
  | _ => .array .int
abbrev wsX40 : List Cond := u_ws RX4 TX4 1
theorem nmX4 : ∀ a, a < 1 → ∀ b, b < 1 → a ≠ b → (TX4 a).2.1 ≠ (TX4 b).2.1 := by decide +kernel
theorem tyX4_ok : ∀ k, k < 1 → parseFieldDescriptor (TX4 k).2.2.1 = some (tyX4 k) := by decide +kernel
abbrev cX4_init : ByteArray := prog_6_method_1_code
def yX4_init : MethodName := ⟨RX4, "<init>", "()V"⟩
abbrev cX4_holds : ByteArray := prog_6_method_2_code
def yX4_holds : MethodName := ⟨RX4, "holds", "(I)Z"⟩
abbrev cX4_word : ByteArray := prog_6_method_3_code
def yX4_word : MethodName := ⟨RX4, "word", "(I)I"⟩
abbrev cX4_putWord : ByteArray := prog_6_method_4_code
def yX4_putWord : MethodName := ⟨RX4, "putWord", "(II)V"⟩
abbrev cX4_half : ByteArray := prog_6_method_5_code
def yX4_half : MethodName := ⟨RX4, "half", "(I)I"⟩
abbrev cX4_load : ByteArray := prog_6_method_6_code
def yX4_load : MethodName := ⟨RX4, "load", "(II)I"⟩
abbrev cX4_store : ByteArray := prog_6_method_7_code
def yX4_store : MethodName := ⟨RX4, "store", "(III)V"⟩
def RX5 : String := "TwoSetMachine$Processor"
def TX5 : u_T := fun k => match k with
  | 0 => ("TwoSetMachine$Processor", "memory", "LTwoSetMachine$Memory;", true)
  | 1 => ("TwoSetMachine$Processor", "registers", "LTwoSetMachine$Registers;", true)
  | 2 => ("TwoSetMachine$Processor", "arm", "LTwoSetMachine$ArmSet;", true)
  | 3 => ("TwoSetMachine$Processor", "thumb", "LTwoSetMachine$ThumbSet;", true)
  | 4 => ("TwoSetMachine$Processor", "faults", "[I", true)
  | 5 => ("TwoSetMachine$Processor", "steps", "I", false)
  | 6 => ("TwoSetMachine$Processor", "irqOn", "Z", false)
  | _ => ("TwoSetMachine$Processor", "fiqOn", "Z", false)
def tyX5 : Nat → FieldType := fun k => match k with
  | 0 => .object "TwoSetMachine$Memory"
  | 1 => .object "TwoSetMachine$Registers"
  | 2 => .object "TwoSetMachine$ArmSet"
  | 3 => .object "TwoSetMachine$ThumbSet"
  | 4 => .array .int
  | 5 => .int
  | 6 => .boolean
  | _ => .boolean
abbrev wsX50 : List Cond := u_ws RX5 TX5 8
theorem nmX5 : ∀ a, a < 8 → ∀ b, b < 8 → a ≠ b → (TX5 a).2.1 ≠ (TX5 b).2.1 := by decide +kernel
theorem tyX5_ok : ∀ k, k < 8 → parseFieldDescriptor (TX5 k).2.2.1 = some (tyX5 k) := by decide +kernel
abbrev cX5_init : ByteArray := prog_7_method_1_code
def yX5_init : MethodName := ⟨RX5, "<init>", "(LTwoSetMachine$Memory;LTwoSetMachine$Registers;)V"⟩
abbrev cX5_switchIrq : ByteArray := prog_7_method_2_code
def yX5_switchIrq : MethodName := ⟨RX5, "switchIrq", "(Z)Z"⟩
abbrev cX5_switchFiq : ByteArray := prog_7_method_3_code
def yX5_switchFiq : MethodName := ⟨RX5, "switchFiq", "(Z)Z"⟩
abbrev cX5_steps : ByteArray := prog_7_method_4_code
def yX5_steps : MethodName := ⟨RX5, "steps", "()I"⟩
abbrev cX5_faultsOf : ByteArray := prog_7_method_5_code
def yX5_faultsOf : MethodName := ⟨RX5, "faultsOf", "(I)I"⟩
abbrev cX5_advance : ByteArray := prog_7_method_6_code
def yX5_advance : MethodName := ⟨RX5, "advance", "()I"⟩
abbrev cX5_take : ByteArray := prog_7_method_7_code
def yX5_take : MethodName := ⟨RX5, "take", "(I)V"⟩
def RX6 : String := "TwoSetMachine$Registers"
def TX6 : u_T := fun k => match k with
  | 0 => ("TwoSetMachine$Registers", "held", "[I", true)
  | 1 => ("TwoSetMachine$Registers", "spsrs", "[I", true)
  | 2 => ("TwoSetMachine$Registers", "cpsr", "I", false)
  | 3 => ("TwoSetMachine$Registers", "bank", "I", false)
  | _ => ("TwoSetMachine$Registers", "here", "I", false)
def tyX6 : Nat → FieldType := fun k => match k with
  | 0 => .array .int
  | 1 => .array .int
  | 2 => .int
  | 3 => .int
  | _ => .int
abbrev wsX60 : List Cond := u_ws RX6 TX6 5
theorem nmX6 : ∀ a, a < 5 → ∀ b, b < 5 → a ≠ b → (TX6 a).2.1 ≠ (TX6 b).2.1 := by decide +kernel
theorem tyX6_ok : ∀ k, k < 5 → parseFieldDescriptor (TX6 k).2.2.1 = some (tyX6 k) := by decide +kernel
abbrev cX6_init : ByteArray := prog_8_method_1_code
def yX6_init : MethodName := ⟨RX6, "<init>", "()V"⟩
abbrev cX6_bankOf : ByteArray := prog_8_method_2_code
def yX6_bankOf : MethodName := ⟨RX6, "bankOf", "(I)I"⟩
abbrev cX6_heldIn : ByteArray := prog_8_method_3_code
def yX6_heldIn : MethodName := ⟨RX6, "heldIn", "(II)I"⟩
abbrev cX6_hold : ByteArray := prog_8_method_4_code
def yX6_hold : MethodName := ⟨RX6, "hold", "(III)V"⟩
abbrev cX6_read : ByteArray := prog_8_method_5_code
def yX6_read : MethodName := ⟨RX6, "read", "(I)I"⟩
abbrev cX6_readLate : ByteArray := prog_8_method_6_code
def yX6_readLate : MethodName := ⟨RX6, "readLate", "(I)I"⟩
abbrev cX6_readLateIn : ByteArray := prog_8_method_7_code
def yX6_readLateIn : MethodName := ⟨RX6, "readLateIn", "(II)I"⟩
abbrev cX6_write : ByteArray := prog_8_method_8_code
def yX6_write : MethodName := ⟨RX6, "write", "(II)V"⟩
abbrev cX6_bank : ByteArray := prog_8_method_9_code
def yX6_bank : MethodName := ⟨RX6, "bank", "()I"⟩
abbrev cX6_next : ByteArray := prog_8_method_10_code
def yX6_next : MethodName := ⟨RX6, "next", "()I"⟩
abbrev cX6_jump : ByteArray := prog_8_method_11_code
def yX6_jump : MethodName := ⟨RX6, "jump", "(I)V"⟩
abbrev cX6_jumpAndChangeSet : ByteArray := prog_8_method_12_code
def yX6_jumpAndChangeSet : MethodName := ⟨RX6, "jumpAndChangeSet", "(I)V"⟩
abbrev cX6_here : ByteArray := prog_8_method_13_code
def yX6_here : MethodName := ⟨RX6, "here", "()I"⟩
abbrev cX6_behind : ByteArray := prog_8_method_14_code
def yX6_behind : MethodName := ⟨RX6, "behind", "()I"⟩
abbrev cX6_begin : ByteArray := prog_8_method_15_code
def yX6_begin : MethodName := ⟨RX6, "begin", "()V"⟩
abbrev cX6_cpsr : ByteArray := prog_8_method_16_code
def yX6_cpsr : MethodName := ⟨RX6, "cpsr", "()I"⟩
abbrev cX6_changeCpsr : ByteArray := prog_8_method_17_code
def yX6_changeCpsr : MethodName := ⟨RX6, "changeCpsr", "(I)V"⟩
abbrev cX6_mixIntoCpsr : ByteArray := prog_8_method_18_code
def yX6_mixIntoCpsr : MethodName := ⟨RX6, "mixIntoCpsr", "(II)V"⟩
abbrev cX6_spsr : ByteArray := prog_8_method_19_code
def yX6_spsr : MethodName := ⟨RX6, "spsr", "(I)I"⟩
abbrev cX6_changeSpsr : ByteArray := prog_8_method_20_code
def yX6_changeSpsr : MethodName := ⟨RX6, "changeSpsr", "(II)V"⟩
abbrev cX6_mixIntoSpsr : ByteArray := prog_8_method_21_code
def yX6_mixIntoSpsr : MethodName := ⟨RX6, "mixIntoSpsr", "(II)V"⟩
abbrev cX6_spsrOrCpsr : ByteArray := prog_8_method_22_code
def yX6_spsrOrCpsr : MethodName := ⟨RX6, "spsrOrCpsr", "()I"⟩
abbrev cX6_thumb : ByteArray := prog_8_method_23_code
def yX6_thumb : MethodName := ⟨RX6, "thumb", "()Z"⟩
abbrev cX6_irqAllowed : ByteArray := prog_8_method_24_code
def yX6_irqAllowed : MethodName := ⟨RX6, "irqAllowed", "()Z"⟩
abbrev cX6_fiqAllowed : ByteArray := prog_8_method_25_code
def yX6_fiqAllowed : MethodName := ⟨RX6, "fiqAllowed", "()Z"⟩
abbrev cX6_carry : ByteArray := prog_8_method_26_code
def yX6_carry : MethodName := ⟨RX6, "carry", "()I"⟩
abbrev cX6_overflow : ByteArray := prog_8_method_27_code
def yX6_overflow : MethodName := ⟨RX6, "overflow", "()I"⟩
abbrev cX6_changeFlags : ByteArray := prog_8_method_28_code
def yX6_changeFlags : MethodName := ⟨RX6, "changeFlags", "(I)V"⟩
abbrev cX6_fits : ByteArray := prog_8_method_29_code
def yX6_fits : MethodName := ⟨RX6, "fits", "(I)Z"⟩
abbrev cX6_enter : ByteArray := prog_8_method_30_code
def yX6_enter : MethodName := ⟨RX6, "enter", "(I)V"⟩
abbrev cX6_linkOf : ByteArray := prog_8_method_31_code
def yX6_linkOf : MethodName := ⟨RX6, "linkOf", "(I)I"⟩
def RX7 : String := "TwoSetMachine$Shifter"
def TX7 : u_T := fun k => match k with
  | _ => ("TwoSetMachine$Shifter", "carry", "I", false)
def tyX7 : Nat → FieldType := fun k => match k with
  | _ => .int
abbrev wsX70 : List Cond := u_ws RX7 TX7 1
theorem nmX7 : ∀ a, a < 1 → ∀ b, b < 1 → a ≠ b → (TX7 a).2.1 ≠ (TX7 b).2.1 := by decide +kernel
theorem tyX7_ok : ∀ k, k < 1 → parseFieldDescriptor (TX7 k).2.2.1 = some (tyX7 k) := by decide +kernel
abbrev cX7_init : ByteArray := prog_9_method_1_code
def yX7_init : MethodName := ⟨RX7, "<init>", "()V"⟩
abbrev cX7_turnRight : ByteArray := prog_9_method_2_code
def yX7_turnRight : MethodName := ⟨RX7, "turnRight", "(II)I"⟩
abbrev cX7_carry : ByteArray := prog_9_method_3_code
def yX7_carry : MethodName := ⟨RX7, "carry", "()I"⟩
abbrev cX7_shift : ByteArray := prog_9_method_4_code
def yX7_shift : MethodName := ⟨RX7, "shift", "(IIII)I"⟩
abbrev cX7_shiftByNumber : ByteArray := prog_9_method_5_code
def yX7_shiftByNumber : MethodName := ⟨RX7, "shiftByNumber", "(IIII)I"⟩
abbrev cX7_turnedNumber : ByteArray := prog_9_method_6_code
def yX7_turnedNumber : MethodName := ⟨RX7, "turnedNumber", "(II)I"⟩
def RX8 : String := "TwoSetMachine$ThumbSet"
def TX8 : u_T := fun k => match k with
  | 0 => ("TwoSetMachine$ThumbSet", "registers", "LTwoSetMachine$Registers;", true)
  | 1 => ("TwoSetMachine$ThumbSet", "shifter", "LTwoSetMachine$Shifter;", true)
  | 2 => ("TwoSetMachine$ThumbSet", "alu", "LTwoSetMachine$Alu;", true)
  | _ => ("TwoSetMachine$ThumbSet", "transfers", "LTwoSetMachine$Transfers;", true)
def tyX8 : Nat → FieldType := fun k => match k with
  | 0 => .object "TwoSetMachine$Registers"
  | 1 => .object "TwoSetMachine$Shifter"
  | 2 => .object "TwoSetMachine$Alu"
  | _ => .object "TwoSetMachine$Transfers"
abbrev wsX80 : List Cond := u_ws RX8 TX8 4
theorem nmX8 : ∀ a, a < 4 → ∀ b, b < 4 → a ≠ b → (TX8 a).2.1 ≠ (TX8 b).2.1 := by decide +kernel
theorem tyX8_ok : ∀ k, k < 4 → parseFieldDescriptor (TX8 k).2.2.1 = some (tyX8 k) := by decide +kernel
abbrev cX8_init : ByteArray := prog_10_method_1_code
def yX8_init : MethodName := ⟨RX8, "<init>", "(LTwoSetMachine$Registers;LTwoSetMachine$Shifter;LTwoSetMachine$Alu;LTwoSetMachine$Transfers;)V"⟩
abbrev cX8_perform : ByteArray := prog_10_method_2_code
def yX8_perform : MethodName := ⟨RX8, "perform", "(I)I"⟩
abbrev cX8_shiftByNumber : ByteArray := prog_10_method_3_code
def yX8_shiftByNumber : MethodName := ⟨RX8, "shiftByNumber", "(I)I"⟩
abbrev cX8_keepShifted : ByteArray := prog_10_method_4_code
def yX8_keepShifted : MethodName := ⟨RX8, "keepShifted", "(II)I"⟩
abbrev cX8_addOrSubtract : ByteArray := prog_10_method_5_code
def yX8_addOrSubtract : MethodName := ⟨RX8, "addOrSubtract", "(I)I"⟩
abbrev cX8_withNumber : ByteArray := prog_10_method_6_code
def yX8_withNumber : MethodName := ⟨RX8, "withNumber", "(I)I"⟩
abbrev cX8_ofTwoRegisters : ByteArray := prog_10_method_7_code
def yX8_ofTwoRegisters : MethodName := ⟨RX8, "ofTwoRegisters", "(I)I"⟩
abbrev cX8_ofAllRegisters : ByteArray := prog_10_method_8_code
def yX8_ofAllRegisters : MethodName := ⟨RX8, "ofAllRegisters", "(I)I"⟩
abbrev cX8_wordOfPc : ByteArray := prog_10_method_9_code
def yX8_wordOfPc : MethodName := ⟨RX8, "wordOfPc", "()I"⟩
abbrev cX8_loadBesidePc : ByteArray := prog_10_method_10_code
def yX8_loadBesidePc : MethodName := ⟨RX8, "loadBesidePc", "(I)I"⟩
abbrev cX8_byRegisterOffset : ByteArray := prog_10_method_11_code
def yX8_byRegisterOffset : MethodName := ⟨RX8, "byRegisterOffset", "(I)I"⟩
abbrev cX8_byNumberOffset : ByteArray := prog_10_method_12_code
def yX8_byNumberOffset : MethodName := ⟨RX8, "byNumberOffset", "(I)I"⟩
abbrev cX8_besideSp : ByteArray := prog_10_method_13_code
def yX8_besideSp : MethodName := ⟨RX8, "besideSp", "(I)I"⟩
abbrev cX8_addressOf : ByteArray := prog_10_method_14_code
def yX8_addressOf : MethodName := ⟨RX8, "addressOf", "(I)I"⟩
abbrev cX8_stack : ByteArray := prog_10_method_15_code
def yX8_stack : MethodName := ⟨RX8, "stack", "(I)I"⟩
abbrev cX8_many : ByteArray := prog_10_method_16_code
def yX8_many : MethodName := ⟨RX8, "many", "(I)I"⟩
abbrev cX8_branchByCondition : ByteArray := prog_10_method_17_code
def yX8_branchByCondition : MethodName := ⟨RX8, "branchByCondition", "(I)I"⟩
abbrev cX8_branch : ByteArray := prog_10_method_18_code
def yX8_branch : MethodName := ⟨RX8, "branch", "(I)I"⟩
def RX9 : String := "TwoSetMachine$Transfers"
def TX9 : u_T := fun k => match k with
  | 0 => ("TwoSetMachine$Transfers", "memory", "LTwoSetMachine$Memory;", true)
  | _ => ("TwoSetMachine$Transfers", "registers", "LTwoSetMachine$Registers;", true)
def tyX9 : Nat → FieldType := fun k => match k with
  | 0 => .object "TwoSetMachine$Memory"
  | _ => .object "TwoSetMachine$Registers"
abbrev wsX90 : List Cond := u_ws RX9 TX9 2
theorem nmX9 : ∀ a, a < 2 → ∀ b, b < 2 → a ≠ b → (TX9 a).2.1 ≠ (TX9 b).2.1 := by decide +kernel
theorem tyX9_ok : ∀ k, k < 2 → parseFieldDescriptor (TX9 k).2.2.1 = some (tyX9 k) := by decide +kernel
abbrev cX9_init : ByteArray := prog_11_method_1_code
def yX9_init : MethodName := ⟨RX9, "<init>", "(LTwoSetMachine$Memory;LTwoSetMachine$Registers;)V"⟩
abbrev cX9_indexed : ByteArray := prog_11_method_2_code
def yX9_indexed : MethodName := ⟨RX9, "indexed", "(III)I"⟩
abbrev cX9_plain : ByteArray := prog_11_method_3_code
def yX9_plain : MethodName := ⟨RX9, "plain", "(ZIII)I"⟩
abbrev cX9_swap : ByteArray := prog_11_method_4_code
def yX9_swap : MethodName := ⟨RX9, "swap", "(IIII)I"⟩
abbrev cX9_many : ByteArray := prog_11_method_5_code
def yX9_many : MethodName := ⟨RX9, "many", "(I)I"⟩
abbrev cX9_storeMany : ByteArray := prog_11_method_6_code
def yX9_storeMany : MethodName := ⟨RX9, "storeMany", "(III)I"⟩
abbrev cX9_loadMany : ByteArray := prog_11_method_7_code
def yX9_loadMany : MethodName := ⟨RX9, "loadMany", "(IIII)I"⟩
def RX10 : String := "TwoSetMachine"
def TX10 : u_T := fun k => match k with
  | 0 => ("TwoSetMachine", "memory", "LTwoSetMachine$Memory;", true)
  | 1 => ("TwoSetMachine", "registers", "LTwoSetMachine$Registers;", true)
  | _ => ("TwoSetMachine", "processor", "LTwoSetMachine$Processor;", true)
def tyX10 : Nat → FieldType := fun k => match k with
  | 0 => .object "TwoSetMachine$Memory"
  | 1 => .object "TwoSetMachine$Registers"
  | _ => .object "TwoSetMachine$Processor"
abbrev wsX100 : List Cond := u_ws RX10 TX10 3
theorem nmX10 : ∀ a, a < 3 → ∀ b, b < 3 → a ≠ b → (TX10 a).2.1 ≠ (TX10 b).2.1 := by decide +kernel
theorem tyX10_ok : ∀ k, k < 3 → parseFieldDescriptor (TX10 k).2.2.1 = some (tyX10 k) := by decide +kernel
abbrev cX10_init : ByteArray := prog_1_method_1_code
def yX10_init : MethodName := ⟨RX10, "<init>", "()V"⟩
abbrev cX10_poke : ByteArray := prog_1_method_2_code
def yX10_poke : MethodName := ⟨RX10, "poke", "(II)I"⟩
abbrev cX10_peek : ByteArray := prog_1_method_3_code
def yX10_peek : MethodName := ⟨RX10, "peek", "(I)I"⟩
abbrev cX10_set : ByteArray := prog_1_method_4_code
def yX10_set : MethodName := ⟨RX10, "set", "(III)V"⟩
abbrev cX10_get : ByteArray := prog_1_method_5_code
def yX10_get : MethodName := ⟨RX10, "get", "(II)I"⟩
abbrev cX10_status : ByteArray := prog_1_method_6_code
def yX10_status : MethodName := ⟨RX10, "status", "(I)I"⟩
abbrev cX10_saved : ByteArray := prog_1_method_7_code
def yX10_saved : MethodName := ⟨RX10, "saved", "(II)I"⟩
abbrev cX10_line : ByteArray := prog_1_method_8_code
def yX10_line : MethodName := ⟨RX10, "line", "(IZ)Z"⟩
abbrev cX10_step : ByteArray := prog_1_method_9_code
def yX10_step : MethodName := ⟨RX10, "step", "(I)I"⟩
abbrev cX10_count : ByteArray := prog_1_method_10_code
def yX10_count : MethodName := ⟨RX10, "count", "(I)I"⟩
abbrev cX10_refuseAddress : ByteArray := prog_1_method_11_code
def yX10_refuseAddress : MethodName := ⟨RX10, "refuseAddress", "(I)V"⟩
abbrev cX10_refuseRegister : ByteArray := prog_1_method_12_code
def yX10_refuseRegister : MethodName := ⟨RX10, "refuseRegister", "(II)V"⟩
def RX11 : String := "TwoSetMachineModel"
def TX11 : u_T := fun k => match k with
  | 0 => ("TwoSetMachineModel", "thrown", "I", false)
  | 1 => ("TwoSetMachineModel", "memory", "[I", true)
  | 2 => ("TwoSetMachineModel", "\x72", "[I", true)
  | 3 => ("TwoSetMachineModel", "spsr", "[I", true)
  | 4 => ("TwoSetMachineModel", "cpsr", "I", false)
  | 5 => ("TwoSetMachineModel", "lines", "[Z", true)
  | 6 => ("TwoSetMachineModel", "steps", "I", false)
  | 7 => ("TwoSetMachineModel", "faults", "[I", true)
  | 8 => ("TwoSetMachineModel", "here", "I", false)
  | 9 => ("TwoSetMachineModel", "length", "I", false)
  | 10 => ("TwoSetMachineModel", "fault", "I", false)
  | 11 => ("TwoSetMachineModel", "jumps", "Z", false)
  | 12 => ("TwoSetMachineModel", "carry", "Z", false)
  | _ => ("TwoSetMachineModel", "over", "Z", false)
def tyX11 : Nat → FieldType := fun k => match k with
  | 0 => .int
  | 1 => .array .int
  | 2 => .array .int
  | 3 => .array .int
  | 4 => .int
  | 5 => .array .boolean
  | 6 => .int
  | 7 => .array .int
  | 8 => .int
  | 9 => .int
  | 10 => .int
  | 11 => .boolean
  | 12 => .boolean
  | _ => .boolean
abbrev wsX110 : List Cond := u_ws RX11 TX11 14
theorem nmX11 : ∀ a, a < 14 → ∀ b, b < 14 → a ≠ b → (TX11 a).2.1 ≠ (TX11 b).2.1 := by decide +kernel
theorem tyX11_ok : ∀ k, k < 14 → parseFieldDescriptor (TX11 k).2.2.1 = some (tyX11 k) := by decide +kernel
abbrev cX11_init : ByteArray := prog_13_method_1_code
def yX11_init : MethodName := ⟨RX11, "<init>", "()V"⟩
abbrev cX11_thrown : ByteArray := prog_13_method_2_code
def yX11_thrown : MethodName := ⟨RX11, "thrown", "()I"⟩
abbrev cX11_fail : ByteArray := prog_13_method_3_code
def yX11_fail : MethodName := ⟨RX11, "fail", "(I)I"⟩
abbrev cX11_within : ByteArray := prog_13_method_4_code
def yX11_within : MethodName := ⟨RX11, "within", "(III)Z"⟩
abbrev cX11_bank : ByteArray := prog_13_method_5_code
def yX11_bank : MethodName := ⟨RX11, "bank", "(I)I"⟩
abbrev cX11_placeOf : ByteArray := prog_13_method_6_code
def yX11_placeOf : MethodName := ⟨RX11, "placeOf", "(II)I"⟩
abbrev cX11_mode : ByteArray := prog_13_method_7_code
def yX11_mode : MethodName := ⟨RX11, "mode", "()I"⟩
abbrev cX11_isThumb : ByteArray := prog_13_method_8_code
def yX11_isThumb : MethodName := ⟨RX11, "isThumb", "()Z"⟩
abbrev cX11_at : ByteArray := prog_13_method_9_code
def yX11_at : MethodName := ⟨RX11, "at", "(I)I"⟩
abbrev cX11_operand : ByteArray := prog_13_method_10_code
def yX11_operand : MethodName := ⟨RX11, "operand", "(II)I"⟩
abbrev cX11_value : ByteArray := prog_13_method_11_code
def yX11_value : MethodName := ⟨RX11, "value", "(I)I"⟩
abbrev cX11_trimmed : ByteArray := prog_13_method_12_code
def yX11_trimmed : MethodName := ⟨RX11, "trimmed", "(I)I"⟩
abbrev cX11_put : ByteArray := prog_13_method_13_code
def yX11_put : MethodName := ⟨RX11, "put", "(II)V"⟩
abbrev cX11_putStatus : ByteArray := prog_13_method_14_code
def yX11_putStatus : MethodName := ⟨RX11, "putStatus", "(I)V"⟩
abbrev cX11_hasSaved : ByteArray := prog_13_method_15_code
def yX11_hasSaved : MethodName := ⟨RX11, "hasSaved", "()Z"⟩
abbrev cX11_kept : ByteArray := prog_13_method_16_code
def yX11_kept : MethodName := ⟨RX11, "kept", "()I"⟩
abbrev cX11_is : ByteArray := prog_13_method_17_code
def yX11_is : MethodName := ⟨RX11, "is", "(I)Z"⟩
abbrev cX11_setFlags : ByteArray := prog_13_method_18_code
def yX11_setFlags : MethodName := ⟨RX11, "setFlags", "(I)V"⟩
abbrev cX11_setCarry : ByteArray := prog_13_method_19_code
def yX11_setCarry : MethodName := ⟨RX11, "setCarry", "(Z)V"⟩
abbrev cX11_setOver : ByteArray := prog_13_method_20_code
def yX11_setOver : MethodName := ⟨RX11, "setOver", "(Z)V"⟩
abbrev cX11_poke : ByteArray := prog_13_method_21_code
def yX11_poke : MethodName := ⟨RX11, "poke", "(II)I"⟩
abbrev cX11_peek : ByteArray := prog_13_method_22_code
def yX11_peek : MethodName := ⟨RX11, "peek", "(I)I"⟩
abbrev cX11_set : ByteArray := prog_13_method_23_code
def yX11_set : MethodName := ⟨RX11, "set", "(III)V"⟩
abbrev cX11_get : ByteArray := prog_13_method_24_code
def yX11_get : MethodName := ⟨RX11, "get", "(II)I"⟩
abbrev cX11_status : ByteArray := prog_13_method_25_code
def yX11_status : MethodName := ⟨RX11, "status", "(I)I"⟩
abbrev cX11_saved : ByteArray := prog_13_method_26_code
def yX11_saved : MethodName := ⟨RX11, "saved", "(II)I"⟩
abbrev cX11_line : ByteArray := prog_13_method_27_code
def yX11_line : MethodName := ⟨RX11, "line", "(IZ)Z"⟩
abbrev cX11_enter : ByteArray := prog_13_method_28_code
def yX11_enter : MethodName := ⟨RX11, "enter", "(II)V"⟩
abbrev cX11_go : ByteArray := prog_13_method_29_code
def yX11_go : MethodName := ⟨RX11, "go", "()Z"⟩
abbrev cX11_step : ByteArray := prog_13_method_30_code
def yX11_step : MethodName := ⟨RX11, "step", "(I)I"⟩
abbrev cX11_undefined : ByteArray := prog_13_method_31_code
def yX11_undefined : MethodName := ⟨RX11, "undefined", "()V"⟩
abbrev cX11_isThere : ByteArray := prog_13_method_32_code
def yX11_isThere : MethodName := ⟨RX11, "isThere", "(I)Z"⟩
abbrev cX11_byteAt : ByteArray := prog_13_method_33_code
def yX11_byteAt : MethodName := ⟨RX11, "byteAt", "(I)I"⟩
abbrev cX11_halfAt : ByteArray := prog_13_method_34_code
def yX11_halfAt : MethodName := ⟨RX11, "halfAt", "(I)I"⟩
abbrev cX11_wordAt : ByteArray := prog_13_method_35_code
def yX11_wordAt : MethodName := ⟨RX11, "wordAt", "(I)I"⟩
abbrev cX11_storeAt : ByteArray := prog_13_method_36_code
def yX11_storeAt : MethodName := ⟨RX11, "storeAt", "(III)V"⟩
abbrev cX11_loaded : ByteArray := prog_13_method_37_code
def yX11_loaded : MethodName := ⟨RX11, "loaded", "(II)I"⟩
abbrev cX11_transfer : ByteArray := prog_13_method_38_code
def yX11_transfer : MethodName := ⟨RX11, "transfer", "(ZIIIII)V"⟩
abbrev cX11_shift : ByteArray := prog_13_method_39_code
def yX11_shift : MethodName := ⟨RX11, "shift", "(III)I"⟩
abbrev cX11_shiftBy : ByteArray := prog_13_method_40_code
def yX11_shiftBy : MethodName := ⟨RX11, "shiftBy", "(III)I"⟩
abbrev cX11_sum : ByteArray := prog_13_method_41_code
def yX11_sum : MethodName := ⟨RX11, "sum", "(III)I"⟩
abbrev cX11_carryIn : ByteArray := prog_13_method_42_code
def yX11_carryIn : MethodName := ⟨RX11, "carryIn", "()I"⟩
abbrev cX11_operate : ByteArray := prog_13_method_43_code
def yX11_operate : MethodName := ⟨RX11, "operate", "(III)I"⟩
abbrev cX11_isSum : ByteArray := prog_13_method_44_code
def yX11_isSum : MethodName := ⟨RX11, "isSum", "(I)Z"⟩
abbrev cX11_finish : ByteArray := prog_13_method_45_code
def yX11_finish : MethodName := ⟨RX11, "finish", "(IIIIZ)V"⟩
abbrev cX11_data : ByteArray := prog_13_method_46_code
def yX11_data : MethodName := ⟨RX11, "data", "(I)V"⟩
abbrev cX11_turnedNumber : ByteArray := prog_13_method_47_code
def yX11_turnedNumber : MethodName := ⟨RX11, "turnedNumber", "(I)I"⟩
abbrev cX11_isSo : ByteArray := prog_13_method_48_code
def yX11_isSo : MethodName := ⟨RX11, "isSo", "(I)Z"⟩
abbrev cX11_arm : ByteArray := prog_13_method_49_code
def yX11_arm : MethodName := ⟨RX11, "arm", "(I)V"⟩
abbrev cX11_exchange : ByteArray := prog_13_method_50_code
def yX11_exchange : MethodName := ⟨RX11, "exchange", "(I)V"⟩
abbrev cX11_branch : ByteArray := prog_13_method_51_code
def yX11_branch : MethodName := ⟨RX11, "branch", "(I)V"⟩
abbrev cX11_multiply : ByteArray := prog_13_method_52_code
def yX11_multiply : MethodName := ⟨RX11, "multiply", "(I)V"⟩
abbrev cX11_swap : ByteArray := prog_13_method_53_code
def yX11_swap : MethodName := ⟨RX11, "swap", "(I)V"⟩
abbrev cX11_indexed : ByteArray := prog_13_method_54_code
def yX11_indexed : MethodName := ⟨RX11, "indexed", "(III)V"⟩
abbrev cX11_halves : ByteArray := prog_13_method_55_code
def yX11_halves : MethodName := ⟨RX11, "halves", "(I)V"⟩
abbrev cX11_single : ByteArray := prog_13_method_56_code
def yX11_single : MethodName := ⟨RX11, "single", "(I)V"⟩
abbrev cX11_isStatus : ByteArray := prog_13_method_57_code
def yX11_isStatus : MethodName := ⟨RX11, "isStatus", "(I)Z"⟩
abbrev cX11_toStatus : ByteArray := prog_13_method_58_code
def yX11_toStatus : MethodName := ⟨RX11, "toStatus", "(I)V"⟩
abbrev cX11_countOf : ByteArray := prog_13_method_59_code
def yX11_countOf : MethodName := ⟨RX11, "countOf", "(I)I"⟩
abbrev cX11_many : ByteArray := prog_13_method_60_code
def yX11_many : MethodName := ⟨RX11, "many", "(ZIIZZZZ)V"⟩
abbrev cX11_nth : ByteArray := prog_13_method_61_code
def yX11_nth : MethodName := ⟨RX11, "nth", "(III)I"⟩
abbrev cX11_loadAll : ByteArray := prog_13_method_62_code
def yX11_loadAll : MethodName := ⟨RX11, "loadAll", "(IIIZ)V"⟩
abbrev cX11_thumb : ByteArray := prog_13_method_63_code
def yX11_thumb : MethodName := ⟨RX11, "thumb", "(I)V"⟩
abbrev cX11_early : ByteArray := prog_13_method_64_code
def yX11_early : MethodName := ⟨RX11, "early", "(IIIII)V"⟩
abbrev cX11_numbers : ByteArray := prog_13_method_65_code
def yX11_numbers : MethodName := ⟨RX11, "numbers", "(III)V"⟩
abbrev cX11_operations : ByteArray := prog_13_method_66_code
def yX11_operations : MethodName := ⟨RX11, "operations", "(III)V"⟩
abbrev cX11_highOnes : ByteArray := prog_13_method_67_code
def yX11_highOnes : MethodName := ⟨RX11, "highOnes", "(I)V"⟩
abbrev cX11_byRegisters : ByteArray := prog_13_method_68_code
def yX11_byRegisters : MethodName := ⟨RX11, "byRegisters", "(III)V"⟩
abbrev cX11_stack : ByteArray := prog_13_method_69_code
def yX11_stack : MethodName := ⟨RX11, "stack", "(I)V"⟩
abbrev cX11_conditional : ByteArray := prog_13_method_70_code
def yX11_conditional : MethodName := ⟨RX11, "conditional", "(II)V"⟩
abbrev cX11_far : ByteArray := prog_13_method_71_code
def yX11_far : MethodName := ⟨RX11, "far", "(I)V"⟩
abbrev cX11_count : ByteArray := prog_13_method_72_code
def yX11_count : MethodName := ⟨RX11, "count", "(I)I"⟩
def RJ6 : String := "java/lang/Integer"
def TJ6 : u_T := fun k => match k with
  | _ => ("", "", "", false)
def tyJ6 : Nat → FieldType := fun k => match k with
  | _ => .int
abbrev wsJ60 : List Cond := u_ws RJ6 TJ6 0
theorem nmJ6 : ∀ a, a < 0 → ∀ b, b < 0 → a ≠ b → (TJ6 a).2.1 ≠ (TJ6 b).2.1 := by decide +kernel
theorem tyJ6_ok : ∀ k, k < 0 → parseFieldDescriptor (TJ6 k).2.2.1 = some (tyJ6 k) := by decide +kernel
abbrev cJ6_bitCount_0f7a4 : ByteArray := prog_17_method_49_code
def yJ6_bitCount_0f7a4 : MethodName := ⟨RJ6, "bitCount", "(I)I"⟩
def RJ0 : String := "java/lang/String"
def TJ0 : u_T := fun k => match k with
  | _ => ("", "", "", false)
def tyJ0 : Nat → FieldType := fun k => match k with
  | _ => .int
abbrev wsJ00 : List Cond := u_ws RJ0 TJ0 0
theorem nmJ0 : ∀ a, a < 0 → ∀ b, b < 0 → a ≠ b → (TJ0 a).2.1 ≠ (TJ0 b).2.1 := by decide +kernel
theorem tyJ0_ok : ∀ k, k < 0 → parseFieldDescriptor (TJ0 k).2.2.1 = some (tyJ0 k) := by decide +kernel
def RL : String := "TwoSetMachineLaw"
abbrev cL_poke : ByteArray := method_3_code
def yL_poke : MethodName := ⟨RL, "poke", "(LTwoSetMachine;II[J)I"⟩
abbrev cL_peek : ByteArray := method_4_code
def yL_peek : MethodName := ⟨RL, "peek", "(LTwoSetMachine;I[J)I"⟩
abbrev cL_set : ByteArray := method_5_code
def yL_set : MethodName := ⟨RL, "set", "(LTwoSetMachine;III)I"⟩
abbrev cL_get : ByteArray := method_6_code
def yL_get : MethodName := ⟨RL, "get", "(LTwoSetMachine;II[J)I"⟩
abbrev cL_saved : ByteArray := method_7_code
def yL_saved : MethodName := ⟨RL, "saved", "(LTwoSetMachine;II[J)I"⟩
abbrev cL_line : ByteArray := method_8_code
def yL_line : MethodName := ⟨RL, "line", "(LTwoSetMachine;IZ[J)I"⟩
abbrev cL_step : ByteArray := method_9_code
def yL_step : MethodName := ⟨RL, "step", "(LTwoSetMachine;I[J)I"⟩
abbrev cL_count : ByteArray := method_10_code
def yL_count : MethodName := ⟨RL, "count", "(LTwoSetMachine;I[J)I"⟩
abbrev cL_law : ByteArray := code
def yL_law : MethodName := ⟨RL, "law", "([I)Z"⟩
end
section
/-- all words of the tables that hold wherever the tables are alike: every method's list is its own code and these -/
def lw_all : List Cond := lw_tbl.filter goodWord
theorem lw_all_in : ∀ w ∈ lw_all, w ∈ lw_tbl := fun w h => (List.mem_filter.mp h).1
theorem lw_all_good : GoodIn lw_all lw_all := fun w h => ⟨h, good_of_word (List.mem_filter.mp h).2⟩
theorem lw_gc {w : Cond} {ws : List Cond} (hw : w ∈ lw_all) (h : GoodIn lw_all ws) : GoodIn lw_all (w :: ws) := fun x hx => (List.mem_cons.mp hx).elim (fun e => e ▸ lw_all_good w hw) (h x)
theorem lw_tt {w : Cond} (h : w ∈ tables_1) (g : goodWord w = true) : w ∈ lw_all := List.mem_filter.mpr ⟨List.mem_append_right _ h, g⟩
theorem lw_ts {w : Cond} (h : w ∈ k2_sels lw_privs) (g : goodWord w = true) : w ∈ lw_all := List.mem_filter.mpr ⟨List.mem_append_left _ h, g⟩
theorem kt_1 {w : Cond} (h : w ∈ tables_1_1) (g : goodWord w = true) : w ∈ lw_all := lw_tt (List.mem_append_left _ h) g
theorem kt_2 {w : Cond} (h : w ∈ tables_1_2) (g : goodWord w = true) : w ∈ lw_all := lw_tt (List.mem_append_right _ (List.mem_append_left _ h)) g
theorem kt_3 {w : Cond} (h : w ∈ tables_1_3) (g : goodWord w = true) : w ∈ lw_all := lw_tt (List.mem_append_right _ (List.mem_append_right _ (List.mem_append_left _ h))) g
theorem kt_4 {w : Cond} (h : w ∈ tables_1_4) (g : goodWord w = true) : w ∈ lw_all := lw_tt (List.mem_append_right _ (List.mem_append_right _ (List.mem_append_right _ (List.mem_append_left _ h)))) g
theorem kt_5 {w : Cond} (h : w ∈ tables_1_5) (g : goodWord w = true) : w ∈ lw_all := lw_tt (List.mem_append_right _ (List.mem_append_right _ (List.mem_append_right _ (List.mem_append_right _ (h))))) g
theorem ks_map {q : MethodName × Nat} {L : List (MethodName × Nat)} (h : q ∈ L) : Cond.selects q.1.cls q.1 q.1 ∈ k2_sels L := List.mem_map.mpr ⟨q, h, rfl⟩
theorem ks_1 {q : MethodName × Nat} (h : q ∈ lw_privs_1) : Cond.selects q.1.cls q.1 q.1 ∈ lw_all := lw_ts (ks_map (List.mem_append_left _ h)) rfl
theorem ks_2 {q : MethodName × Nat} (h : q ∈ lw_privs_2) : Cond.selects q.1.cls q.1 q.1 ∈ lw_all := lw_ts (ks_map (List.mem_append_right _ (List.mem_append_left _ h))) rfl
theorem ks_3 {q : MethodName × Nat} (h : q ∈ lw_privs_3) : Cond.selects q.1.cls q.1 q.1 ∈ lw_all := lw_ts (ks_map (List.mem_append_right _ (List.mem_append_right _ (List.mem_append_left _ h)))) rfl
theorem ks_4 {q : MethodName × Nat} (h : q ∈ lw_privs_4) : Cond.selects q.1.cls q.1 q.1 ∈ lw_all := lw_ts (ks_map (List.mem_append_right _ (List.mem_append_right _ (List.mem_append_right _ (List.mem_append_left _ h))))) rfl
theorem ks_5 {q : MethodName × Nat} (h : q ∈ lw_privs_5) : Cond.selects q.1.cls q.1 q.1 ∈ lw_all := lw_ts (ks_map (List.mem_append_right _ (List.mem_append_right _ (List.mem_append_right _ (List.mem_append_right _ (List.mem_append_left _ h)))))) rfl
theorem ks_6 {q : MethodName × Nat} (h : q ∈ lw_privs_6) : Cond.selects q.1.cls q.1 q.1 ∈ lw_all := lw_ts (ks_map (List.mem_append_right _ (List.mem_append_right _ (List.mem_append_right _ (List.mem_append_right _ (List.mem_append_right _ (h))))))) rfl
theorem kw_0 : Cond.classLink RL 8 RX10 ∈ lw_all := kt_1 (List.mem_of_getElem? (i := 19) (by decide +kernel)) rfl
theorem kw_1 : Cond.instantiable RX10 3 ∈ lw_all := kt_1 (List.mem_of_getElem? (i := 20) (by decide +kernel)) rfl
theorem kw_2 : Cond.initialized RX10 ∈ lw_all := kt_1 (List.mem_of_getElem? (i := 1) (by decide +kernel)) rfl
theorem kw_3 : Cond.classLink RL 42 RX11 ∈ lw_all := kt_4 (List.mem_of_getElem? (i := 95) (by decide +kernel)) rfl
theorem kw_4 : Cond.instantiable RX11 14 ∈ lw_all := kt_4 (List.mem_of_getElem? (i := 96) (by decide +kernel)) rfl
theorem kw_5 : Cond.initialized RX11 ∈ lw_all := kt_1 (List.mem_of_getElem? (i := 10) (by decide +kernel)) rfl
theorem kw_6 : Cond.arrayClass .long ∈ lw_all := kt_5 (List.mem_of_getElem? (i := 198) (by decide +kernel)) rfl
theorem kw_7 : Cond.methodLink RL 41 yX10_init ∈ lw_all := kt_1 (List.mem_of_getElem? (i := 21) (by decide +kernel)) rfl
theorem kw_8 : Cond.instanceMethod yX10_init ∈ lw_all := kt_1 (List.mem_of_getElem? (i := 22) (by decide +kernel)) rfl
theorem kw_9 : Cond.code yX10_init cX10_init 1 none ∈ lw_all := kt_1 (List.mem_of_getElem? (i := 23) rfl) rfl
theorem kw_10 : Cond.methodLink RX10 1 objectInit ∈ lw_all := kt_1 (List.mem_of_getElem? (i := 24) (by decide +kernel)) rfl
theorem kw_11 : Cond.instanceMethod objectInit ∈ lw_all := kt_1 (List.mem_of_getElem? (i := 25) (by decide +kernel)) rfl
theorem kw_12 : Cond.code objectInit ⟨#[0xb1]⟩ 1 none ∈ lw_all := kt_1 (List.mem_of_getElem? (i := 26) rfl) rfl
theorem kw_13 : Cond.classLink RX10 7 RX4 ∈ lw_all := kt_1 (List.mem_of_getElem? (i := 27) (by decide +kernel)) rfl
theorem kw_14 : Cond.instantiable RX4 1 ∈ lw_all := kt_1 (List.mem_of_getElem? (i := 28) (by decide +kernel)) rfl
theorem kw_15 : Cond.initialized RX4 ∈ lw_all := kt_1 (List.mem_of_getElem? (i := 2) (by decide +kernel)) rfl
theorem kw_16 : Cond.fieldLink RX10 10 "TwoSetMachine" "memory" "LTwoSetMachine$Memory;" ∈ lw_all := kt_1 (List.mem_of_getElem? (i := 166) (by decide +kernel)) rfl
theorem kw_17 : Cond.classLink RX10 16 RX6 ∈ lw_all := kt_1 (List.mem_of_getElem? (i := 39) (by decide +kernel)) rfl
theorem kw_18 : Cond.instantiable RX6 5 ∈ lw_all := kt_1 (List.mem_of_getElem? (i := 40) (by decide +kernel)) rfl
theorem kw_19 : Cond.initialized RX6 ∈ lw_all := kt_1 (List.mem_of_getElem? (i := 3) (by decide +kernel)) rfl
theorem kw_20 : Cond.fieldLink RX10 19 "TwoSetMachine" "registers" "LTwoSetMachine$Registers;" ∈ lw_all := kt_1 (List.mem_of_getElem? (i := 167) (by decide +kernel)) rfl
theorem kw_21 : Cond.classLink RX10 23 RX5 ∈ lw_all := kt_1 (List.mem_of_getElem? (i := 61) (by decide +kernel)) rfl
theorem kw_22 : Cond.instantiable RX5 8 ∈ lw_all := kt_1 (List.mem_of_getElem? (i := 62) (by decide +kernel)) rfl
theorem kw_23 : Cond.initialized RX5 ∈ lw_all := kt_1 (List.mem_of_getElem? (i := 4) (by decide +kernel)) rfl
theorem kw_24 : Cond.fieldLink RX10 28 "TwoSetMachine" "processor" "LTwoSetMachine$Processor;" ∈ lw_all := kt_1 (List.mem_of_getElem? (i := 168) (by decide +kernel)) rfl
theorem kw_25 : Cond.methodLink RX10 9 yX4_init ∈ lw_all := kt_1 (List.mem_of_getElem? (i := 29) (by decide +kernel)) rfl
theorem kw_26 : Cond.instanceMethod yX4_init ∈ lw_all := kt_1 (List.mem_of_getElem? (i := 30) (by decide +kernel)) rfl
theorem kw_27 : Cond.code yX4_init cX4_init 1 none ∈ lw_all := kt_1 (List.mem_of_getElem? (i := 31) rfl) rfl
theorem kw_28 : Cond.methodLink RX4 1 objectInit ∈ lw_all := kt_1 (List.mem_of_getElem? (i := 32) (by decide +kernel)) rfl
theorem kw_29 : Cond.constant RX4 9 (65536) ∈ lw_all := kt_1 (List.mem_of_getElem? (i := 33) (by decide +kernel)) rfl
theorem kw_30 : Cond.arrayClass .int ∈ lw_all := kt_1 (List.mem_of_getElem? (i := 38) (by decide +kernel)) rfl
theorem kw_31 : Cond.fieldLink RX4 10 "TwoSetMachine$Memory" "words" "[I" ∈ lw_all := kt_1 (List.mem_of_getElem? (i := 34) (by decide +kernel)) rfl
theorem kw_32 : Cond.methodLink RX10 18 yX6_init ∈ lw_all := kt_1 (List.mem_of_getElem? (i := 41) (by decide +kernel)) rfl
theorem kw_33 : Cond.instanceMethod yX6_init ∈ lw_all := kt_1 (List.mem_of_getElem? (i := 42) (by decide +kernel)) rfl
theorem kw_34 : Cond.code yX6_init cX6_init 1 none ∈ lw_all := kt_1 (List.mem_of_getElem? (i := 43) rfl) rfl
theorem kw_35 : Cond.methodLink RX6 3 objectInit ∈ lw_all := kt_1 (List.mem_of_getElem? (i := 44) (by decide +kernel)) rfl
theorem kw_36 : Cond.fieldLink RX6 11 "TwoSetMachine$Registers" "held" "[I" ∈ lw_all := kt_1 (List.mem_of_getElem? (i := 45) (by decide +kernel)) rfl
theorem kw_37 : Cond.fieldLink RX6 15 "TwoSetMachine$Registers" "spsrs" "[I" ∈ lw_all := kt_1 (List.mem_of_getElem? (i := 46) (by decide +kernel)) rfl
theorem kw_38 : Cond.fieldLink RX6 18 "TwoSetMachine$Registers" "cpsr" "I" ∈ lw_all := kt_1 (List.mem_of_getElem? (i := 47) (by decide +kernel)) rfl
theorem kw_39 : Cond.fieldLink RX6 22 "TwoSetMachine$Registers" "bank" "I" ∈ lw_all := kt_1 (List.mem_of_getElem? (i := 48) (by decide +kernel)) rfl
theorem kw_40 : Cond.fieldLink RX6 25 "TwoSetMachine$Registers" "here" "I" ∈ lw_all := kt_1 (List.mem_of_getElem? (i := 49) (by decide +kernel)) rfl
theorem kw_41 : Cond.methodLink RX10 25 yX5_init ∈ lw_all := kt_1 (List.mem_of_getElem? (i := 63) (by decide +kernel)) rfl
theorem kw_42 : Cond.instanceMethod yX5_init ∈ lw_all := kt_1 (List.mem_of_getElem? (i := 64) (by decide +kernel)) rfl
theorem kw_43 : Cond.code yX5_init cX5_init 6 none ∈ lw_all := kt_1 (List.mem_of_getElem? (i := 65) rfl) rfl
theorem kw_44 : Cond.methodLink RX5 1 objectInit ∈ lw_all := kt_1 (List.mem_of_getElem? (i := 66) (by decide +kernel)) rfl
theorem kw_45 : Cond.fieldLink RX5 7 "TwoSetMachine$Processor" "memory" "LTwoSetMachine$Memory;" ∈ lw_all := kt_1 (List.mem_of_getElem? (i := 141) (by decide +kernel)) rfl
theorem kw_46 : Cond.fieldLink RX5 13 "TwoSetMachine$Processor" "registers" "LTwoSetMachine$Registers;" ∈ lw_all := kt_1 (List.mem_of_getElem? (i := 142) (by decide +kernel)) rfl
theorem kw_47 : Cond.classLink RX5 17 RX7 ∈ lw_all := kt_1 (List.mem_of_getElem? (i := 67) (by decide +kernel)) rfl
theorem kw_48 : Cond.instantiable RX7 1 ∈ lw_all := kt_1 (List.mem_of_getElem? (i := 68) (by decide +kernel)) rfl
theorem kw_49 : Cond.initialized RX7 ∈ lw_all := kt_1 (List.mem_of_getElem? (i := 5) (by decide +kernel)) rfl
theorem kw_50 : Cond.classLink RX5 20 RX0 ∈ lw_all := kt_1 (List.mem_of_getElem? (i := 77) (by decide +kernel)) rfl
theorem kw_51 : Cond.instantiable RX0 2 ∈ lw_all := kt_1 (List.mem_of_getElem? (i := 78) (by decide +kernel)) rfl
theorem kw_52 : Cond.initialized RX0 ∈ lw_all := kt_1 (List.mem_of_getElem? (i := 6) (by decide +kernel)) rfl
theorem kw_53 : Cond.classLink RX5 25 RX9 ∈ lw_all := kt_1 (List.mem_of_getElem? (i := 90) (by decide +kernel)) rfl
theorem kw_54 : Cond.instantiable RX9 2 ∈ lw_all := kt_1 (List.mem_of_getElem? (i := 91) (by decide +kernel)) rfl
theorem kw_55 : Cond.initialized RX9 ∈ lw_all := kt_1 (List.mem_of_getElem? (i := 7) (by decide +kernel)) rfl
theorem kw_56 : Cond.classLink RX5 30 RX1 ∈ lw_all := kt_1 (List.mem_of_getElem? (i := 103) (by decide +kernel)) rfl
theorem kw_57 : Cond.instantiable RX1 4 ∈ lw_all := kt_1 (List.mem_of_getElem? (i := 104) (by decide +kernel)) rfl
theorem kw_58 : Cond.initialized RX1 ∈ lw_all := kt_1 (List.mem_of_getElem? (i := 8) (by decide +kernel)) rfl
theorem kw_59 : Cond.fieldLink RX5 35 "TwoSetMachine$Processor" "arm" "LTwoSetMachine$ArmSet;" ∈ lw_all := kt_1 (List.mem_of_getElem? (i := 143) (by decide +kernel)) rfl
theorem kw_60 : Cond.classLink RX5 39 RX8 ∈ lw_all := kt_1 (List.mem_of_getElem? (i := 122) (by decide +kernel)) rfl
theorem kw_61 : Cond.instantiable RX8 4 ∈ lw_all := kt_1 (List.mem_of_getElem? (i := 123) (by decide +kernel)) rfl
theorem kw_62 : Cond.initialized RX8 ∈ lw_all := kt_1 (List.mem_of_getElem? (i := 9) (by decide +kernel)) rfl
theorem kw_63 : Cond.fieldLink RX5 42 "TwoSetMachine$Processor" "thumb" "LTwoSetMachine$ThumbSet;" ∈ lw_all := kt_1 (List.mem_of_getElem? (i := 144) (by decide +kernel)) rfl
theorem kw_64 : Cond.fieldLink RX5 48 "TwoSetMachine$Processor" "faults" "[I" ∈ lw_all := kt_1 (List.mem_of_getElem? (i := 145) (by decide +kernel)) rfl
theorem kw_65 : Cond.fieldLink RX5 52 "TwoSetMachine$Processor" "steps" "I" ∈ lw_all := kt_1 (List.mem_of_getElem? (i := 146) (by decide +kernel)) rfl
theorem kw_66 : Cond.fieldLink RX5 56 "TwoSetMachine$Processor" "irqOn" "Z" ∈ lw_all := kt_1 (List.mem_of_getElem? (i := 147) (by decide +kernel)) rfl
theorem kw_67 : Cond.fieldLink RX5 60 "TwoSetMachine$Processor" "fiqOn" "Z" ∈ lw_all := kt_1 (List.mem_of_getElem? (i := 148) (by decide +kernel)) rfl
theorem kw_68 : Cond.methodLink RX5 19 yX7_init ∈ lw_all := kt_1 (List.mem_of_getElem? (i := 69) (by decide +kernel)) rfl
theorem kw_69 : Cond.instanceMethod yX7_init ∈ lw_all := kt_1 (List.mem_of_getElem? (i := 70) (by decide +kernel)) rfl
theorem kw_70 : Cond.code yX7_init cX7_init 1 none ∈ lw_all := kt_1 (List.mem_of_getElem? (i := 71) rfl) rfl
theorem kw_71 : Cond.methodLink RX7 1 objectInit ∈ lw_all := kt_1 (List.mem_of_getElem? (i := 72) (by decide +kernel)) rfl
theorem kw_72 : Cond.fieldLink RX7 7 "TwoSetMachine$Shifter" "carry" "I" ∈ lw_all := kt_1 (List.mem_of_getElem? (i := 73) (by decide +kernel)) rfl
theorem kw_73 : Cond.methodLink RX5 22 yX0_init ∈ lw_all := kt_1 (List.mem_of_getElem? (i := 79) (by decide +kernel)) rfl
theorem kw_74 : Cond.instanceMethod yX0_init ∈ lw_all := kt_1 (List.mem_of_getElem? (i := 80) (by decide +kernel)) rfl
theorem kw_75 : Cond.code yX0_init cX0_init 2 none ∈ lw_all := kt_1 (List.mem_of_getElem? (i := 81) rfl) rfl
theorem kw_76 : Cond.methodLink RX0 1 objectInit ∈ lw_all := kt_1 (List.mem_of_getElem? (i := 82) (by decide +kernel)) rfl
theorem kw_77 : Cond.fieldLink RX0 7 "TwoSetMachine$Alu" "registers" "LTwoSetMachine$Registers;" ∈ lw_all := kt_1 (List.mem_of_getElem? (i := 83) (by decide +kernel)) rfl
theorem kw_78 : Cond.fieldLink RX0 13 "TwoSetMachine$Alu" "flags" "I" ∈ lw_all := kt_1 (List.mem_of_getElem? (i := 84) (by decide +kernel)) rfl
theorem kw_79 : Cond.methodLink RX5 27 yX9_init ∈ lw_all := kt_1 (List.mem_of_getElem? (i := 92) (by decide +kernel)) rfl
theorem kw_80 : Cond.instanceMethod yX9_init ∈ lw_all := kt_1 (List.mem_of_getElem? (i := 93) (by decide +kernel)) rfl
theorem kw_81 : Cond.code yX9_init cX9_init 3 none ∈ lw_all := kt_1 (List.mem_of_getElem? (i := 94) rfl) rfl
theorem kw_82 : Cond.methodLink RX9 3 objectInit ∈ lw_all := kt_1 (List.mem_of_getElem? (i := 95) (by decide +kernel)) rfl
theorem kw_83 : Cond.fieldLink RX9 9 "TwoSetMachine$Transfers" "memory" "LTwoSetMachine$Memory;" ∈ lw_all := kt_1 (List.mem_of_getElem? (i := 96) (by decide +kernel)) rfl
theorem kw_84 : Cond.fieldLink RX9 15 "TwoSetMachine$Transfers" "registers" "LTwoSetMachine$Registers;" ∈ lw_all := kt_1 (List.mem_of_getElem? (i := 97) (by decide +kernel)) rfl
theorem kw_85 : Cond.methodLink RX5 32 yX1_init ∈ lw_all := kt_1 (List.mem_of_getElem? (i := 105) (by decide +kernel)) rfl
theorem kw_86 : Cond.instanceMethod yX1_init ∈ lw_all := kt_1 (List.mem_of_getElem? (i := 106) (by decide +kernel)) rfl
theorem kw_87 : Cond.code yX1_init cX1_init 5 none ∈ lw_all := kt_1 (List.mem_of_getElem? (i := 107) rfl) rfl
theorem kw_88 : Cond.methodLink RX1 3 objectInit ∈ lw_all := kt_1 (List.mem_of_getElem? (i := 108) (by decide +kernel)) rfl
theorem kw_89 : Cond.fieldLink RX1 9 "TwoSetMachine$ArmSet" "registers" "LTwoSetMachine$Registers;" ∈ lw_all := kt_1 (List.mem_of_getElem? (i := 109) (by decide +kernel)) rfl
theorem kw_90 : Cond.fieldLink RX1 15 "TwoSetMachine$ArmSet" "shifter" "LTwoSetMachine$Shifter;" ∈ lw_all := kt_1 (List.mem_of_getElem? (i := 110) (by decide +kernel)) rfl
theorem kw_91 : Cond.fieldLink RX1 19 "TwoSetMachine$ArmSet" "alu" "LTwoSetMachine$Alu;" ∈ lw_all := kt_1 (List.mem_of_getElem? (i := 111) (by decide +kernel)) rfl
theorem kw_92 : Cond.fieldLink RX1 23 "TwoSetMachine$ArmSet" "transfers" "LTwoSetMachine$Transfers;" ∈ lw_all := kt_1 (List.mem_of_getElem? (i := 112) (by decide +kernel)) rfl
theorem kw_93 : Cond.methodLink RX5 41 yX8_init ∈ lw_all := kt_1 (List.mem_of_getElem? (i := 124) (by decide +kernel)) rfl
theorem kw_94 : Cond.instanceMethod yX8_init ∈ lw_all := kt_1 (List.mem_of_getElem? (i := 125) (by decide +kernel)) rfl
theorem kw_95 : Cond.code yX8_init cX8_init 5 none ∈ lw_all := kt_1 (List.mem_of_getElem? (i := 126) rfl) rfl
theorem kw_96 : Cond.methodLink RX8 3 objectInit ∈ lw_all := kt_1 (List.mem_of_getElem? (i := 127) (by decide +kernel)) rfl
theorem kw_97 : Cond.fieldLink RX8 9 "TwoSetMachine$ThumbSet" "registers" "LTwoSetMachine$Registers;" ∈ lw_all := kt_1 (List.mem_of_getElem? (i := 128) (by decide +kernel)) rfl
theorem kw_98 : Cond.fieldLink RX8 15 "TwoSetMachine$ThumbSet" "shifter" "LTwoSetMachine$Shifter;" ∈ lw_all := kt_1 (List.mem_of_getElem? (i := 129) (by decide +kernel)) rfl
theorem kw_99 : Cond.fieldLink RX8 19 "TwoSetMachine$ThumbSet" "alu" "LTwoSetMachine$Alu;" ∈ lw_all := kt_1 (List.mem_of_getElem? (i := 130) (by decide +kernel)) rfl
theorem kw_100 : Cond.fieldLink RX8 23 "TwoSetMachine$ThumbSet" "transfers" "LTwoSetMachine$Transfers;" ∈ lw_all := kt_1 (List.mem_of_getElem? (i := 131) (by decide +kernel)) rfl
theorem kw_101 : Cond.methodLink RL 44 yX11_init ∈ lw_all := kt_4 (List.mem_of_getElem? (i := 97) (by decide +kernel)) rfl
theorem kw_102 : Cond.instanceMethod yX11_init ∈ lw_all := kt_4 (List.mem_of_getElem? (i := 98) (by decide +kernel)) rfl
theorem kw_103 : Cond.code yX11_init cX11_init 1 none ∈ lw_all := kt_4 (List.mem_of_getElem? (i := 99) rfl) rfl
theorem kw_104 : Cond.methodLink RX11 1 objectInit ∈ lw_all := kt_4 (List.mem_of_getElem? (i := 100) (by decide +kernel)) rfl
theorem kw_105 : Cond.constant RX11 7 (65536) ∈ lw_all := kt_4 (List.mem_of_getElem? (i := 101) (by decide +kernel)) rfl
theorem kw_106 : Cond.fieldLink RX11 8 "TwoSetMachineModel" "memory" "[I" ∈ lw_all := kt_4 (List.mem_of_getElem? (i := 103) (by decide +kernel)) rfl
theorem kw_107 : Cond.fieldLink RX11 14 "TwoSetMachineModel" "\x72" "[I" ∈ lw_all := kt_4 (List.mem_of_getElem? (i := 104) (by decide +kernel)) rfl
theorem kw_108 : Cond.fieldLink RX11 17 "TwoSetMachineModel" "spsr" "[I" ∈ lw_all := kt_4 (List.mem_of_getElem? (i := 105) (by decide +kernel)) rfl
theorem kw_109 : Cond.fieldLink RX11 20 "TwoSetMachineModel" "cpsr" "I" ∈ lw_all := kt_4 (List.mem_of_getElem? (i := 106) (by decide +kernel)) rfl
theorem kw_110 : Cond.arrayClass .boolean ∈ lw_all := kt_4 (List.mem_of_getElem? (i := 145) (by decide +kernel)) rfl
theorem kw_111 : Cond.fieldLink RX11 24 "TwoSetMachineModel" "lines" "[Z" ∈ lw_all := kt_4 (List.mem_of_getElem? (i := 107) (by decide +kernel)) rfl
theorem kw_112 : Cond.fieldLink RX11 28 "TwoSetMachineModel" "faults" "[I" ∈ lw_all := kt_4 (List.mem_of_getElem? (i := 109) (by decide +kernel)) rfl
theorem kw_113 : Cond.methodLink RL 45 yL_poke ∈ lw_all := kt_1 (List.mem_of_getElem? (i := 204) (by decide +kernel)) rfl
theorem kw_114 : Cond.static yL_poke ∈ lw_all := kt_1 (List.mem_of_getElem? (i := 205) (by decide +kernel)) rfl
theorem kw_115 : Cond.initialized RL ∈ lw_all := kt_1 (List.mem_of_getElem? (i := 0) (by decide +kernel)) rfl
theorem kw_116 : Cond.codeWith yL_poke cL_poke 5 (some .int) [(0, 10, 13, 13), (0, 10, 17, 15)] ∈ lw_all := kt_1 (List.mem_of_getElem? (i := 206) rfl) rfl
theorem kw_117 : Cond.classLink RL 13 "java/lang/IllegalArgumentException" ∈ lw_all := kt_1 (List.mem_of_getElem? (i := 207) (by decide +kernel)) rfl
theorem kw_118 : Cond.classLink RL 15 "java/lang/IndexOutOfBoundsException" ∈ lw_all := kt_1 (List.mem_of_getElem? (i := 208) (by decide +kernel)) rfl
theorem kw_119 : Cond.methodLink RL 7 yX10_poke ∈ lw_all := kt_1 (List.mem_of_getElem? (i := 209) (by decide +kernel)) rfl
theorem kw_120 : Cond.instanceMethod yX10_poke ∈ lw_all := kt_1 (List.mem_of_getElem? (i := 210) (by decide +kernel)) rfl
theorem kw_121 : Cond.selects RX10 yX10_poke yX10_poke ∈ lw_all := kt_1 (List.mem_of_getElem? (i := 211) (by decide +kernel)) rfl
theorem kw_122 : Cond.code yX10_poke cX10_poke 4 (some .int) ∈ lw_all := kt_1 (List.mem_of_getElem? (i := 212) rfl) rfl
theorem kw_123 : Cond.methodLink RX10 32 yX10_refuseAddress ∈ lw_all := kt_1 (List.mem_of_getElem? (i := 213) (by decide +kernel)) rfl
theorem kw_124 : Cond.instanceMethod yX10_refuseAddress ∈ lw_all := kt_1 (List.mem_of_getElem? (i := 215) (by decide +kernel)) rfl
theorem kw_125 : Cond.selects RX10 yX10_refuseAddress yX10_refuseAddress ∈ lw_all := ks_1 (q := (⟨"TwoSetMachine", "refuseAddress", "(I)V"⟩, 3)) (List.mem_of_getElem? (i := 0) rfl)
theorem kw_126 : Cond.code yX10_refuseAddress cX10_refuseAddress 2 none ∈ lw_all := kt_1 (List.mem_of_getElem? (i := 216) rfl) rfl
theorem kw_127 : Cond.classLink RX10 71 "java/lang/IllegalArgumentException" ∈ lw_all := kt_1 (List.mem_of_getElem? (i := 217) (by decide +kernel)) rfl
theorem kw_128 : Cond.initialized "java/lang/IllegalArgumentException" ∈ lw_all := kt_1 (List.mem_of_getElem? (i := 14) (by decide +kernel)) rfl
theorem kw_129 : Cond.classLink RX10 84 "java/lang/IndexOutOfBoundsException" ∈ lw_all := kt_2 (List.mem_of_getElem? (i := 49) (by decide +kernel)) rfl
theorem kw_130 : Cond.initialized "java/lang/IndexOutOfBoundsException" ∈ lw_all := kt_1 (List.mem_of_getElem? (i := 15) (by decide +kernel)) rfl
theorem kw_131 : Cond.methodLink RX10 114 yX4_holds ∈ lw_all := kt_2 (List.mem_of_getElem? (i := 44) (by decide +kernel)) rfl
theorem kw_132 : Cond.instanceMethod yX4_holds ∈ lw_all := kt_2 (List.mem_of_getElem? (i := 45) (by decide +kernel)) rfl
theorem kw_133 : Cond.selects RX4 yX4_holds yX4_holds ∈ lw_all := kt_2 (List.mem_of_getElem? (i := 46) (by decide +kernel)) rfl
theorem kw_134 : Cond.code yX4_holds cX4_holds 2 (some .boolean) ∈ lw_all := kt_2 (List.mem_of_getElem? (i := 47) rfl) rfl
theorem kw_135 : Cond.constant RX4 14 (262144) ∈ lw_all := kt_2 (List.mem_of_getElem? (i := 48) (by decide +kernel)) rfl
theorem kw_136 : Cond.methodLink RX10 36 yX4_word ∈ lw_all := kt_2 (List.mem_of_getElem? (i := 65) (by decide +kernel)) rfl
theorem kw_137 : Cond.instanceMethod yX4_word ∈ lw_all := kt_2 (List.mem_of_getElem? (i := 66) (by decide +kernel)) rfl
theorem kw_138 : Cond.selects RX4 yX4_word yX4_word ∈ lw_all := kt_2 (List.mem_of_getElem? (i := 67) (by decide +kernel)) rfl
theorem kw_139 : Cond.code yX4_word cX4_word 2 (some .int) ∈ lw_all := kt_2 (List.mem_of_getElem? (i := 68) rfl) rfl
theorem kw_140 : Cond.constant RX4 15 (262143) ∈ lw_all := kt_2 (List.mem_of_getElem? (i := 69) (by decide +kernel)) rfl
theorem kw_141 : Cond.methodLink RX10 40 yX4_putWord ∈ lw_all := kt_2 (List.mem_of_getElem? (i := 70) (by decide +kernel)) rfl
theorem kw_142 : Cond.instanceMethod yX4_putWord ∈ lw_all := kt_2 (List.mem_of_getElem? (i := 71) (by decide +kernel)) rfl
theorem kw_143 : Cond.selects RX4 yX4_putWord yX4_putWord ∈ lw_all := kt_2 (List.mem_of_getElem? (i := 72) (by decide +kernel)) rfl
theorem kw_144 : Cond.code yX4_putWord cX4_putWord 3 none ∈ lw_all := kt_2 (List.mem_of_getElem? (i := 73) rfl) rfl
theorem kw_145 : Cond.methodLink RL 50 yX11_poke ∈ lw_all := kt_4 (List.mem_of_getElem? (i := 150) (by decide +kernel)) rfl
theorem kw_146 : Cond.instanceMethod yX11_poke ∈ lw_all := kt_4 (List.mem_of_getElem? (i := 151) (by decide +kernel)) rfl
theorem kw_147 : Cond.selects RX11 yX11_poke yX11_poke ∈ lw_all := kt_4 (List.mem_of_getElem? (i := 152) (by decide +kernel)) rfl
theorem kw_148 : Cond.code yX11_poke cX11_poke 4 (some .int) ∈ lw_all := kt_4 (List.mem_of_getElem? (i := 153) rfl) rfl
theorem kw_149 : Cond.fieldLink RX11 31 "TwoSetMachineModel" "thrown" "I" ∈ lw_all := kt_4 (List.mem_of_getElem? (i := 102) (by decide +kernel)) rfl
theorem kw_150 : Cond.constant RX11 80 (262143) ∈ lw_all := kt_4 (List.mem_of_getElem? (i := 158) (by decide +kernel)) rfl
theorem kw_151 : Cond.methodLink RX11 77 yX11_fail ∈ lw_all := kt_4 (List.mem_of_getElem? (i := 154) (by decide +kernel)) rfl
theorem kw_152 : Cond.instanceMethod yX11_fail ∈ lw_all := kt_4 (List.mem_of_getElem? (i := 156) (by decide +kernel)) rfl
theorem kw_153 : Cond.selects RX11 yX11_fail yX11_fail ∈ lw_all := ks_3 (q := (⟨"TwoSetMachineModel", "fail", "(I)I"⟩, 14)) (List.mem_of_getElem? (i := 2) rfl)
theorem kw_154 : Cond.code yX11_fail cX11_fail 2 (some .int) ∈ lw_all := kt_4 (List.mem_of_getElem? (i := 157) rfl) rfl
theorem kw_155 : Cond.methodLink RX11 81 yX11_within ∈ lw_all := kt_4 (List.mem_of_getElem? (i := 159) (by decide +kernel)) rfl
theorem kw_156 : Cond.static yX11_within ∈ lw_all := kt_4 (List.mem_of_getElem? (i := 160) (by decide +kernel)) rfl
theorem kw_157 : Cond.code yX11_within cX11_within 3 (some .boolean) ∈ lw_all := kt_4 (List.mem_of_getElem? (i := 161) rfl) rfl
theorem kw_158 : Cond.methodLink RL 51 yX11_thrown ∈ lw_all := kt_4 (List.mem_of_getElem? (i := 146) (by decide +kernel)) rfl
theorem kw_159 : Cond.instanceMethod yX11_thrown ∈ lw_all := kt_4 (List.mem_of_getElem? (i := 147) (by decide +kernel)) rfl
theorem kw_160 : Cond.selects RX11 yX11_thrown yX11_thrown ∈ lw_all := kt_4 (List.mem_of_getElem? (i := 148) (by decide +kernel)) rfl
theorem kw_161 : Cond.code yX11_thrown cX11_thrown 1 (some .int) ∈ lw_all := kt_4 (List.mem_of_getElem? (i := 149) rfl) rfl
theorem kw_162 : Cond.methodLink RL 55 yL_peek ∈ lw_all := kt_2 (List.mem_of_getElem? (i := 74) (by decide +kernel)) rfl
theorem kw_163 : Cond.static yL_peek ∈ lw_all := kt_2 (List.mem_of_getElem? (i := 75) (by decide +kernel)) rfl
theorem kw_164 : Cond.codeWith yL_peek cL_peek 4 (some .int) [(0, 9, 12, 13), (0, 9, 15, 15)] ∈ lw_all := kt_2 (List.mem_of_getElem? (i := 76) rfl) rfl
theorem kw_165 : Cond.methodLink RL 17 yX10_peek ∈ lw_all := kt_2 (List.mem_of_getElem? (i := 77) (by decide +kernel)) rfl
theorem kw_166 : Cond.instanceMethod yX10_peek ∈ lw_all := kt_2 (List.mem_of_getElem? (i := 78) (by decide +kernel)) rfl
theorem kw_167 : Cond.selects RX10 yX10_peek yX10_peek ∈ lw_all := kt_2 (List.mem_of_getElem? (i := 79) (by decide +kernel)) rfl
theorem kw_168 : Cond.code yX10_peek cX10_peek 2 (some .int) ∈ lw_all := kt_2 (List.mem_of_getElem? (i := 80) rfl) rfl
theorem kw_169 : Cond.methodLink RL 58 yX11_peek ∈ lw_all := kt_4 (List.mem_of_getElem? (i := 162) (by decide +kernel)) rfl
theorem kw_170 : Cond.instanceMethod yX11_peek ∈ lw_all := kt_4 (List.mem_of_getElem? (i := 163) (by decide +kernel)) rfl
theorem kw_171 : Cond.selects RX11 yX11_peek yX11_peek ∈ lw_all := kt_4 (List.mem_of_getElem? (i := 164) (by decide +kernel)) rfl
theorem kw_172 : Cond.code yX11_peek cX11_peek 2 (some .int) ∈ lw_all := kt_4 (List.mem_of_getElem? (i := 165) rfl) rfl
theorem kw_173 : Cond.methodLink RL 59 yL_set ∈ lw_all := kt_2 (List.mem_of_getElem? (i := 81) (by decide +kernel)) rfl
theorem kw_174 : Cond.static yL_set ∈ lw_all := kt_2 (List.mem_of_getElem? (i := 82) (by decide +kernel)) rfl
theorem kw_175 : Cond.codeWith yL_set cL_set 5 (some .int) [(0, 7, 10, 13), (0, 7, 14, 15)] ∈ lw_all := kt_2 (List.mem_of_getElem? (i := 83) rfl) rfl
theorem kw_176 : Cond.methodLink RL 21 yX10_set ∈ lw_all := kt_2 (List.mem_of_getElem? (i := 84) (by decide +kernel)) rfl
theorem kw_177 : Cond.instanceMethod yX10_set ∈ lw_all := kt_2 (List.mem_of_getElem? (i := 85) (by decide +kernel)) rfl
theorem kw_178 : Cond.selects RX10 yX10_set yX10_set ∈ lw_all := kt_2 (List.mem_of_getElem? (i := 86) (by decide +kernel)) rfl
theorem kw_179 : Cond.code yX10_set cX10_set 5 none ∈ lw_all := kt_2 (List.mem_of_getElem? (i := 87) rfl) rfl
theorem kw_180 : Cond.methodLink RX10 44 yX6_bankOf ∈ lw_all := kt_2 (List.mem_of_getElem? (i := 88) (by decide +kernel)) rfl
theorem kw_181 : Cond.static yX6_bankOf ∈ lw_all := kt_1 (List.mem_of_getElem? (i := 189) (by decide +kernel)) rfl
theorem kw_182 : Cond.code yX6_bankOf cX6_bankOf 1 (some .int) ∈ lw_all := kt_1 (List.mem_of_getElem? (i := 190) rfl) rfl
theorem kw_183 : Cond.methodLink RX10 47 yX10_refuseRegister ∈ lw_all := kt_2 (List.mem_of_getElem? (i := 89) (by decide +kernel)) rfl
theorem kw_184 : Cond.static yX10_refuseRegister ∈ lw_all := kt_2 (List.mem_of_getElem? (i := 90) (by decide +kernel)) rfl
theorem kw_185 : Cond.code yX10_refuseRegister cX10_refuseRegister 2 none ∈ lw_all := kt_2 (List.mem_of_getElem? (i := 91) rfl) rfl
theorem kw_186 : Cond.methodLink RX10 50 yX6_jump ∈ lw_all := kt_1 (List.mem_of_getElem? (i := 196) (by decide +kernel)) rfl
theorem kw_187 : Cond.instanceMethod yX6_jump ∈ lw_all := kt_1 (List.mem_of_getElem? (i := 197) (by decide +kernel)) rfl
theorem kw_188 : Cond.selects RX6 yX6_jump yX6_jump ∈ lw_all := kt_1 (List.mem_of_getElem? (i := 198) (by decide +kernel)) rfl
theorem kw_189 : Cond.code yX6_jump cX6_jump 2 none ∈ lw_all := kt_1 (List.mem_of_getElem? (i := 199) rfl) rfl
theorem kw_190 : Cond.methodLink RX6 31 yX6_thumb ∈ lw_all := kt_1 (List.mem_of_getElem? (i := 200) (by decide +kernel)) rfl
theorem kw_191 : Cond.instanceMethod yX6_thumb ∈ lw_all := kt_1 (List.mem_of_getElem? (i := 201) (by decide +kernel)) rfl
theorem kw_192 : Cond.selects RX6 yX6_thumb yX6_thumb ∈ lw_all := kt_1 (List.mem_of_getElem? (i := 202) (by decide +kernel)) rfl
theorem kw_193 : Cond.code yX6_thumb cX6_thumb 1 (some .boolean) ∈ lw_all := kt_1 (List.mem_of_getElem? (i := 203) rfl) rfl
theorem kw_194 : Cond.methodLink RX10 53 yX6_hold ∈ lw_all := kt_2 (List.mem_of_getElem? (i := 94) (by decide +kernel)) rfl
theorem kw_195 : Cond.instanceMethod yX6_hold ∈ lw_all := kt_2 (List.mem_of_getElem? (i := 95) (by decide +kernel)) rfl
theorem kw_196 : Cond.selects RX6 yX6_hold yX6_hold ∈ lw_all := kt_2 (List.mem_of_getElem? (i := 96) (by decide +kernel)) rfl
theorem kw_197 : Cond.code yX6_hold cX6_hold 4 none ∈ lw_all := kt_2 (List.mem_of_getElem? (i := 97) rfl) rfl
theorem kw_198 : Cond.fieldLink RX6 28 "TwoSetMachine$Registers" "PLACES" "[I" ∈ lw_all := kt_2 (List.mem_of_getElem? (i := 98) (by decide +kernel)) rfl
theorem kw_199 : Cond.methodLink RL 62 yX11_set ∈ lw_all := kt_4 (List.mem_of_getElem? (i := 166) (by decide +kernel)) rfl
theorem kw_200 : Cond.instanceMethod yX11_set ∈ lw_all := kt_4 (List.mem_of_getElem? (i := 167) (by decide +kernel)) rfl
theorem kw_201 : Cond.selects RX11 yX11_set yX11_set ∈ lw_all := kt_4 (List.mem_of_getElem? (i := 168) (by decide +kernel)) rfl
theorem kw_202 : Cond.code yX11_set cX11_set 4 none ∈ lw_all := kt_4 (List.mem_of_getElem? (i := 169) rfl) rfl
theorem kw_203 : Cond.methodLink RX11 34 yX11_bank ∈ lw_all := kt_4 (List.mem_of_getElem? (i := 170) (by decide +kernel)) rfl
theorem kw_204 : Cond.static yX11_bank ∈ lw_all := kt_4 (List.mem_of_getElem? (i := 171) (by decide +kernel)) rfl
theorem kw_205 : Cond.code yX11_bank cX11_bank 1 (some .int) ∈ lw_all := kt_4 (List.mem_of_getElem? (i := 172) rfl) rfl
theorem kw_206 : Cond.methodLink RX11 42 yX11_placeOf ∈ lw_all := kt_4 (List.mem_of_getElem? (i := 173) (by decide +kernel)) rfl
theorem kw_207 : Cond.static yX11_placeOf ∈ lw_all := kt_4 (List.mem_of_getElem? (i := 174) (by decide +kernel)) rfl
theorem kw_208 : Cond.code yX11_placeOf cX11_placeOf 3 (some .int) ∈ lw_all := kt_4 (List.mem_of_getElem? (i := 175) rfl) rfl
theorem kw_209 : Cond.methodLink RX11 59 yX11_trimmed ∈ lw_all := kt_4 (List.mem_of_getElem? (i := 176) (by decide +kernel)) rfl
theorem kw_210 : Cond.instanceMethod yX11_trimmed ∈ lw_all := kt_4 (List.mem_of_getElem? (i := 178) (by decide +kernel)) rfl
theorem kw_211 : Cond.selects RX11 yX11_trimmed yX11_trimmed ∈ lw_all := ks_3 (q := (⟨"TwoSetMachineModel", "trimmed", "(I)I"⟩, 14)) (List.mem_of_getElem? (i := 3) rfl)
theorem kw_212 : Cond.code yX11_trimmed cX11_trimmed 2 (some .int) ∈ lw_all := kt_4 (List.mem_of_getElem? (i := 179) rfl) rfl
theorem kw_213 : Cond.methodLink RX11 52 yX11_isThumb ∈ lw_all := kt_4 (List.mem_of_getElem? (i := 180) (by decide +kernel)) rfl
theorem kw_214 : Cond.instanceMethod yX11_isThumb ∈ lw_all := kt_4 (List.mem_of_getElem? (i := 182) (by decide +kernel)) rfl
theorem kw_215 : Cond.selects RX11 yX11_isThumb yX11_isThumb ∈ lw_all := ks_3 (q := (⟨"TwoSetMachineModel", "isThumb", "()Z"⟩, 14)) (List.mem_of_getElem? (i := 4) rfl)
theorem kw_216 : Cond.code yX11_isThumb cX11_isThumb 1 (some .boolean) ∈ lw_all := kt_4 (List.mem_of_getElem? (i := 183) rfl) rfl
theorem kw_217 : Cond.methodLink RL 63 yL_get ∈ lw_all := kt_2 (List.mem_of_getElem? (i := 100) (by decide +kernel)) rfl
theorem kw_218 : Cond.static yL_get ∈ lw_all := kt_2 (List.mem_of_getElem? (i := 101) (by decide +kernel)) rfl
theorem kw_219 : Cond.codeWith yL_get cL_get 5 (some .int) [(0, 10, 13, 13), (0, 10, 17, 15)] ∈ lw_all := kt_2 (List.mem_of_getElem? (i := 102) rfl) rfl
theorem kw_220 : Cond.methodLink RL 25 yX10_get ∈ lw_all := kt_2 (List.mem_of_getElem? (i := 103) (by decide +kernel)) rfl
theorem kw_221 : Cond.instanceMethod yX10_get ∈ lw_all := kt_2 (List.mem_of_getElem? (i := 104) (by decide +kernel)) rfl
theorem kw_222 : Cond.selects RX10 yX10_get yX10_get ∈ lw_all := kt_2 (List.mem_of_getElem? (i := 105) (by decide +kernel)) rfl
theorem kw_223 : Cond.code yX10_get cX10_get 4 (some .int) ∈ lw_all := kt_2 (List.mem_of_getElem? (i := 106) rfl) rfl
theorem kw_224 : Cond.methodLink RX10 57 yX6_heldIn ∈ lw_all := kt_2 (List.mem_of_getElem? (i := 107) (by decide +kernel)) rfl
theorem kw_225 : Cond.instanceMethod yX6_heldIn ∈ lw_all := kt_2 (List.mem_of_getElem? (i := 108) (by decide +kernel)) rfl
theorem kw_226 : Cond.selects RX6 yX6_heldIn yX6_heldIn ∈ lw_all := kt_2 (List.mem_of_getElem? (i := 109) (by decide +kernel)) rfl
theorem kw_227 : Cond.code yX6_heldIn cX6_heldIn 3 (some .int) ∈ lw_all := kt_2 (List.mem_of_getElem? (i := 110) rfl) rfl
theorem kw_228 : Cond.methodLink RL 65 yX11_get ∈ lw_all := kt_4 (List.mem_of_getElem? (i := 184) (by decide +kernel)) rfl
theorem kw_229 : Cond.instanceMethod yX11_get ∈ lw_all := kt_4 (List.mem_of_getElem? (i := 185) (by decide +kernel)) rfl
theorem kw_230 : Cond.selects RX11 yX11_get yX11_get ∈ lw_all := kt_4 (List.mem_of_getElem? (i := 186) (by decide +kernel)) rfl
theorem kw_231 : Cond.code yX11_get cX11_get 3 (some .int) ∈ lw_all := kt_4 (List.mem_of_getElem? (i := 187) rfl) rfl
theorem kw_232 : Cond.methodLink RL 66 yX10_status ∈ lw_all := kt_1 (List.mem_of_getElem? (i := 176) (by decide +kernel)) rfl
theorem kw_233 : Cond.instanceMethod yX10_status ∈ lw_all := kt_1 (List.mem_of_getElem? (i := 177) (by decide +kernel)) rfl
theorem kw_234 : Cond.selects RX10 yX10_status yX10_status ∈ lw_all := kt_1 (List.mem_of_getElem? (i := 178) (by decide +kernel)) rfl
theorem kw_235 : Cond.code yX10_status cX10_status 3 (some .int) ∈ lw_all := kt_1 (List.mem_of_getElem? (i := 179) rfl) rfl
theorem kw_236 : Cond.methodLink RX10 61 yX6_cpsr ∈ lw_all := kt_1 (List.mem_of_getElem? (i := 180) (by decide +kernel)) rfl
theorem kw_237 : Cond.instanceMethod yX6_cpsr ∈ lw_all := kt_1 (List.mem_of_getElem? (i := 181) (by decide +kernel)) rfl
theorem kw_238 : Cond.selects RX6 yX6_cpsr yX6_cpsr ∈ lw_all := kt_1 (List.mem_of_getElem? (i := 182) (by decide +kernel)) rfl
theorem kw_239 : Cond.code yX6_cpsr cX6_cpsr 1 (some .int) ∈ lw_all := kt_1 (List.mem_of_getElem? (i := 183) rfl) rfl
theorem kw_240 : Cond.methodLink RX10 65 yX6_changeCpsr ∈ lw_all := kt_1 (List.mem_of_getElem? (i := 184) (by decide +kernel)) rfl
theorem kw_241 : Cond.instanceMethod yX6_changeCpsr ∈ lw_all := kt_1 (List.mem_of_getElem? (i := 185) (by decide +kernel)) rfl
theorem kw_242 : Cond.selects RX6 yX6_changeCpsr yX6_changeCpsr ∈ lw_all := kt_1 (List.mem_of_getElem? (i := 186) (by decide +kernel)) rfl
theorem kw_243 : Cond.code yX6_changeCpsr cX6_changeCpsr 3 none ∈ lw_all := kt_1 (List.mem_of_getElem? (i := 187) rfl) rfl
theorem kw_244 : Cond.constant RX6 55 (-268435201) ∈ lw_all := kt_1 (List.mem_of_getElem? (i := 191) (by decide +kernel)) rfl
theorem kw_245 : Cond.methodLink RX6 51 yX6_bankOf ∈ lw_all := kt_1 (List.mem_of_getElem? (i := 188) (by decide +kernel)) rfl
theorem kw_246 : Cond.methodLink RX10 68 yX6_next ∈ lw_all := kt_1 (List.mem_of_getElem? (i := 192) (by decide +kernel)) rfl
theorem kw_247 : Cond.instanceMethod yX6_next ∈ lw_all := kt_1 (List.mem_of_getElem? (i := 193) (by decide +kernel)) rfl
theorem kw_248 : Cond.selects RX6 yX6_next yX6_next ∈ lw_all := kt_1 (List.mem_of_getElem? (i := 194) (by decide +kernel)) rfl
theorem kw_249 : Cond.code yX6_next cX6_next 1 (some .int) ∈ lw_all := kt_1 (List.mem_of_getElem? (i := 195) rfl) rfl
theorem kw_250 : Cond.methodLink RL 69 yX11_status ∈ lw_all := kt_4 (List.mem_of_getElem? (i := 188) (by decide +kernel)) rfl
theorem kw_251 : Cond.instanceMethod yX11_status ∈ lw_all := kt_4 (List.mem_of_getElem? (i := 189) (by decide +kernel)) rfl
theorem kw_252 : Cond.selects RX11 yX11_status yX11_status ∈ lw_all := kt_4 (List.mem_of_getElem? (i := 190) (by decide +kernel)) rfl
theorem kw_253 : Cond.code yX11_status cX11_status 3 (some .int) ∈ lw_all := kt_4 (List.mem_of_getElem? (i := 191) rfl) rfl
theorem kw_254 : Cond.methodLink RX11 85 yX11_putStatus ∈ lw_all := kt_4 (List.mem_of_getElem? (i := 192) (by decide +kernel)) rfl
theorem kw_255 : Cond.instanceMethod yX11_putStatus ∈ lw_all := kt_4 (List.mem_of_getElem? (i := 194) (by decide +kernel)) rfl
theorem kw_256 : Cond.selects RX11 yX11_putStatus yX11_putStatus ∈ lw_all := ks_3 (q := (⟨"TwoSetMachineModel", "putStatus", "(I)V"⟩, 14)) (List.mem_of_getElem? (i := 5) rfl)
theorem kw_257 : Cond.code yX11_putStatus cX11_putStatus 3 none ∈ lw_all := kt_4 (List.mem_of_getElem? (i := 195) rfl) rfl
theorem kw_258 : Cond.constant RX11 66 (-268435201) ∈ lw_all := kt_4 (List.mem_of_getElem? (i := 200) (by decide +kernel)) rfl
theorem kw_259 : Cond.methodLink RX11 38 yX11_mode ∈ lw_all := kt_4 (List.mem_of_getElem? (i := 196) (by decide +kernel)) rfl
theorem kw_260 : Cond.instanceMethod yX11_mode ∈ lw_all := kt_4 (List.mem_of_getElem? (i := 198) (by decide +kernel)) rfl
theorem kw_261 : Cond.selects RX11 yX11_mode yX11_mode ∈ lw_all := ks_3 (q := (⟨"TwoSetMachineModel", "mode", "()I"⟩, 14)) (List.mem_of_getElem? (i := 6) rfl)
theorem kw_262 : Cond.code yX11_mode cX11_mode 1 (some .int) ∈ lw_all := kt_4 (List.mem_of_getElem? (i := 199) rfl) rfl
theorem kw_263 : Cond.methodLink RL 70 yL_saved ∈ lw_all := kt_2 (List.mem_of_getElem? (i := 111) (by decide +kernel)) rfl
theorem kw_264 : Cond.static yL_saved ∈ lw_all := kt_2 (List.mem_of_getElem? (i := 112) (by decide +kernel)) rfl
theorem kw_265 : Cond.codeWith yL_saved cL_saved 5 (some .int) [(0, 10, 13, 13)] ∈ lw_all := kt_2 (List.mem_of_getElem? (i := 113) rfl) rfl
theorem kw_266 : Cond.methodLink RL 28 yX10_saved ∈ lw_all := kt_2 (List.mem_of_getElem? (i := 114) (by decide +kernel)) rfl
theorem kw_267 : Cond.instanceMethod yX10_saved ∈ lw_all := kt_2 (List.mem_of_getElem? (i := 115) (by decide +kernel)) rfl
theorem kw_268 : Cond.selects RX10 yX10_saved yX10_saved ∈ lw_all := kt_2 (List.mem_of_getElem? (i := 116) (by decide +kernel)) rfl
theorem kw_269 : Cond.code yX10_saved cX10_saved 5 (some .int) ∈ lw_all := kt_2 (List.mem_of_getElem? (i := 117) rfl) rfl
theorem kw_270 : Cond.methodLink RX10 78 yX6_spsr ∈ lw_all := kt_2 (List.mem_of_getElem? (i := 119) (by decide +kernel)) rfl
theorem kw_271 : Cond.instanceMethod yX6_spsr ∈ lw_all := kt_2 (List.mem_of_getElem? (i := 120) (by decide +kernel)) rfl
theorem kw_272 : Cond.selects RX6 yX6_spsr yX6_spsr ∈ lw_all := kt_2 (List.mem_of_getElem? (i := 121) (by decide +kernel)) rfl
theorem kw_273 : Cond.code yX6_spsr cX6_spsr 2 (some .int) ∈ lw_all := kt_2 (List.mem_of_getElem? (i := 122) rfl) rfl
theorem kw_274 : Cond.methodLink RX10 81 yX6_changeSpsr ∈ lw_all := kt_2 (List.mem_of_getElem? (i := 123) (by decide +kernel)) rfl
theorem kw_275 : Cond.instanceMethod yX6_changeSpsr ∈ lw_all := kt_2 (List.mem_of_getElem? (i := 124) (by decide +kernel)) rfl
theorem kw_276 : Cond.selects RX6 yX6_changeSpsr yX6_changeSpsr ∈ lw_all := kt_2 (List.mem_of_getElem? (i := 125) (by decide +kernel)) rfl
theorem kw_277 : Cond.code yX6_changeSpsr cX6_changeSpsr 3 none ∈ lw_all := kt_2 (List.mem_of_getElem? (i := 126) rfl) rfl
theorem kw_278 : Cond.methodLink RL 72 yX11_saved ∈ lw_all := kt_4 (List.mem_of_getElem? (i := 201) (by decide +kernel)) rfl
theorem kw_279 : Cond.instanceMethod yX11_saved ∈ lw_all := kt_4 (List.mem_of_getElem? (i := 202) (by decide +kernel)) rfl
theorem kw_280 : Cond.selects RX11 yX11_saved yX11_saved ∈ lw_all := kt_4 (List.mem_of_getElem? (i := 203) (by decide +kernel)) rfl
theorem kw_281 : Cond.code yX11_saved cX11_saved 5 (some .int) ∈ lw_all := kt_4 (List.mem_of_getElem? (i := 204) rfl) rfl
theorem kw_282 : Cond.methodLink RL 73 yL_line ∈ lw_all := kt_2 (List.mem_of_getElem? (i := 127) (by decide +kernel)) rfl
theorem kw_283 : Cond.static yL_line ∈ lw_all := kt_2 (List.mem_of_getElem? (i := 128) (by decide +kernel)) rfl
theorem kw_284 : Cond.codeWith yL_line cL_line 5 (some .int) [(0, 17, 20, 15)] ∈ lw_all := kt_2 (List.mem_of_getElem? (i := 129) rfl) rfl
theorem kw_285 : Cond.methodLink RL 31 yX10_line ∈ lw_all := kt_2 (List.mem_of_getElem? (i := 130) (by decide +kernel)) rfl
theorem kw_286 : Cond.instanceMethod yX10_line ∈ lw_all := kt_2 (List.mem_of_getElem? (i := 131) (by decide +kernel)) rfl
theorem kw_287 : Cond.selects RX10 yX10_line yX10_line ∈ lw_all := kt_2 (List.mem_of_getElem? (i := 132) (by decide +kernel)) rfl
theorem kw_288 : Cond.code yX10_line cX10_line 3 (some .boolean) ∈ lw_all := kt_2 (List.mem_of_getElem? (i := 133) rfl) rfl
theorem kw_289 : Cond.methodLink RX10 89 yX5_switchFiq ∈ lw_all := kt_2 (List.mem_of_getElem? (i := 135) (by decide +kernel)) rfl
theorem kw_290 : Cond.instanceMethod yX5_switchFiq ∈ lw_all := kt_2 (List.mem_of_getElem? (i := 136) (by decide +kernel)) rfl
theorem kw_291 : Cond.selects RX5 yX5_switchFiq yX5_switchFiq ∈ lw_all := kt_2 (List.mem_of_getElem? (i := 137) (by decide +kernel)) rfl
theorem kw_292 : Cond.code yX5_switchFiq cX5_switchFiq 3 (some .boolean) ∈ lw_all := kt_2 (List.mem_of_getElem? (i := 138) rfl) rfl
theorem kw_293 : Cond.methodLink RX10 93 yX5_switchIrq ∈ lw_all := kt_2 (List.mem_of_getElem? (i := 139) (by decide +kernel)) rfl
theorem kw_294 : Cond.instanceMethod yX5_switchIrq ∈ lw_all := kt_2 (List.mem_of_getElem? (i := 140) (by decide +kernel)) rfl
theorem kw_295 : Cond.selects RX5 yX5_switchIrq yX5_switchIrq ∈ lw_all := kt_2 (List.mem_of_getElem? (i := 141) (by decide +kernel)) rfl
theorem kw_296 : Cond.code yX5_switchIrq cX5_switchIrq 3 (some .boolean) ∈ lw_all := kt_2 (List.mem_of_getElem? (i := 142) rfl) rfl
theorem kw_297 : Cond.methodLink RL 76 yX11_line ∈ lw_all := kt_4 (List.mem_of_getElem? (i := 205) (by decide +kernel)) rfl
theorem kw_298 : Cond.instanceMethod yX11_line ∈ lw_all := kt_4 (List.mem_of_getElem? (i := 206) (by decide +kernel)) rfl
theorem kw_299 : Cond.selects RX11 yX11_line yX11_line ∈ lw_all := kt_4 (List.mem_of_getElem? (i := 207) (by decide +kernel)) rfl
theorem kw_300 : Cond.code yX11_line cX11_line 4 (some .boolean) ∈ lw_all := kt_4 (List.mem_of_getElem? (i := 208) rfl) rfl
theorem kw_301 : Cond.methodLink RL 77 yL_step ∈ lw_all := kt_2 (List.mem_of_getElem? (i := 143) (by decide +kernel)) rfl
theorem kw_302 : Cond.static yL_step ∈ lw_all := kt_2 (List.mem_of_getElem? (i := 144) (by decide +kernel)) rfl
theorem kw_303 : Cond.codeWith yL_step cL_step 4 (some .int) [(0, 9, 12, 13)] ∈ lw_all := kt_2 (List.mem_of_getElem? (i := 145) rfl) rfl
theorem kw_304 : Cond.methodLink RL 35 yX10_step ∈ lw_all := kt_2 (List.mem_of_getElem? (i := 146) (by decide +kernel)) rfl
theorem kw_305 : Cond.instanceMethod yX10_step ∈ lw_all := kt_2 (List.mem_of_getElem? (i := 147) (by decide +kernel)) rfl
theorem kw_306 : Cond.selects RX10 yX10_step yX10_step ∈ lw_all := kt_2 (List.mem_of_getElem? (i := 148) (by decide +kernel)) rfl
theorem kw_307 : Cond.code yX10_step cX10_step 5 (some .int) ∈ lw_all := kt_2 (List.mem_of_getElem? (i := 149) rfl) rfl
theorem kw_308 : Cond.methodLink RX10 98 yX5_advance ∈ lw_all := kt_2 (List.mem_of_getElem? (i := 151) (by decide +kernel)) rfl
theorem kw_309 : Cond.instanceMethod yX5_advance ∈ lw_all := kt_2 (List.mem_of_getElem? (i := 152) (by decide +kernel)) rfl
theorem kw_310 : Cond.selects RX5 yX5_advance yX5_advance ∈ lw_all := kt_2 (List.mem_of_getElem? (i := 153) (by decide +kernel)) rfl
theorem kw_311 : Cond.code yX5_advance cX5_advance 2 (some .int) ∈ lw_all := kt_2 (List.mem_of_getElem? (i := 154) rfl) rfl
theorem kw_312 : Cond.methodLink RX5 67 yX6_begin ∈ lw_all := kt_2 (List.mem_of_getElem? (i := 155) (by decide +kernel)) rfl
theorem kw_313 : Cond.instanceMethod yX6_begin ∈ lw_all := kt_2 (List.mem_of_getElem? (i := 156) (by decide +kernel)) rfl
theorem kw_314 : Cond.selects RX6 yX6_begin yX6_begin ∈ lw_all := kt_2 (List.mem_of_getElem? (i := 157) (by decide +kernel)) rfl
theorem kw_315 : Cond.code yX6_begin cX6_begin 1 none ∈ lw_all := kt_2 (List.mem_of_getElem? (i := 158) rfl) rfl
theorem kw_316 : Cond.methodLink RX6 47 yX6_behind ∈ lw_all := kt_2 (List.mem_of_getElem? (i := 159) (by decide +kernel)) rfl
theorem kw_317 : Cond.instanceMethod yX6_behind ∈ lw_all := kt_2 (List.mem_of_getElem? (i := 160) (by decide +kernel)) rfl
theorem kw_318 : Cond.selects RX6 yX6_behind yX6_behind ∈ lw_all := kt_2 (List.mem_of_getElem? (i := 161) (by decide +kernel)) rfl
theorem kw_319 : Cond.code yX6_behind cX6_behind 1 (some .int) ∈ lw_all := kt_2 (List.mem_of_getElem? (i := 162) rfl) rfl
theorem kw_320 : Cond.methodLink RX5 72 yX6_fiqAllowed ∈ lw_all := kt_2 (List.mem_of_getElem? (i := 163) (by decide +kernel)) rfl
theorem kw_321 : Cond.instanceMethod yX6_fiqAllowed ∈ lw_all := kt_2 (List.mem_of_getElem? (i := 164) (by decide +kernel)) rfl
theorem kw_322 : Cond.selects RX6 yX6_fiqAllowed yX6_fiqAllowed ∈ lw_all := kt_2 (List.mem_of_getElem? (i := 165) (by decide +kernel)) rfl
theorem kw_323 : Cond.code yX6_fiqAllowed cX6_fiqAllowed 1 (some .boolean) ∈ lw_all := kt_2 (List.mem_of_getElem? (i := 166) rfl) rfl
theorem kw_324 : Cond.methodLink RX5 76 yX6_irqAllowed ∈ lw_all := kt_2 (List.mem_of_getElem? (i := 167) (by decide +kernel)) rfl
theorem kw_325 : Cond.instanceMethod yX6_irqAllowed ∈ lw_all := kt_2 (List.mem_of_getElem? (i := 168) (by decide +kernel)) rfl
theorem kw_326 : Cond.selects RX6 yX6_irqAllowed yX6_irqAllowed ∈ lw_all := kt_2 (List.mem_of_getElem? (i := 169) (by decide +kernel)) rfl
theorem kw_327 : Cond.code yX6_irqAllowed cX6_irqAllowed 1 (some .boolean) ∈ lw_all := kt_2 (List.mem_of_getElem? (i := 170) rfl) rfl
theorem kw_328 : Cond.methodLink RX5 79 yX6_here ∈ lw_all := kt_2 (List.mem_of_getElem? (i := 171) (by decide +kernel)) rfl
theorem kw_329 : Cond.instanceMethod yX6_here ∈ lw_all := kt_2 (List.mem_of_getElem? (i := 172) (by decide +kernel)) rfl
theorem kw_330 : Cond.selects RX6 yX6_here yX6_here ∈ lw_all := kt_2 (List.mem_of_getElem? (i := 173) (by decide +kernel)) rfl
theorem kw_331 : Cond.code yX6_here cX6_here 1 (some .int) ∈ lw_all := kt_2 (List.mem_of_getElem? (i := 174) rfl) rfl
theorem kw_332 : Cond.methodLink RX5 83 yX4_holds ∈ lw_all := kt_2 (List.mem_of_getElem? (i := 175) (by decide +kernel)) rfl
theorem kw_333 : Cond.methodLink RX5 88 yX6_thumb ∈ lw_all := kt_2 (List.mem_of_getElem? (i := 176) (by decide +kernel)) rfl
theorem kw_334 : Cond.methodLink RX5 90 yX4_half ∈ lw_all := kt_2 (List.mem_of_getElem? (i := 177) (by decide +kernel)) rfl
theorem kw_335 : Cond.instanceMethod yX4_half ∈ lw_all := kt_2 (List.mem_of_getElem? (i := 178) (by decide +kernel)) rfl
theorem kw_336 : Cond.selects RX4 yX4_half yX4_half ∈ lw_all := kt_2 (List.mem_of_getElem? (i := 179) (by decide +kernel)) rfl
theorem kw_337 : Cond.code yX4_half cX4_half 2 (some .int) ∈ lw_all := kt_2 (List.mem_of_getElem? (i := 180) rfl) rfl
theorem kw_338 : Cond.constant RX4 20 (65535) ∈ lw_all := kt_2 (List.mem_of_getElem? (i := 182) (by decide +kernel)) rfl
theorem kw_339 : Cond.methodLink RX4 16 yX4_word ∈ lw_all := kt_2 (List.mem_of_getElem? (i := 181) (by decide +kernel)) rfl
theorem kw_340 : Cond.methodLink RX5 94 yX8_perform ∈ lw_all := kt_2 (List.mem_of_getElem? (i := 183) (by decide +kernel)) rfl
theorem kw_341 : Cond.instanceMethod yX8_perform ∈ lw_all := kt_2 (List.mem_of_getElem? (i := 184) (by decide +kernel)) rfl
theorem kw_342 : Cond.selects RX8 yX8_perform yX8_perform ∈ lw_all := kt_2 (List.mem_of_getElem? (i := 185) (by decide +kernel)) rfl
theorem kw_343 : Cond.code yX8_perform cX8_perform 2 (some .int) ∈ lw_all := kt_2 (List.mem_of_getElem? (i := 186) rfl) rfl
theorem kw_344 : Cond.methodLink RX8 27 yX2_four ∈ lw_all := kt_2 (List.mem_of_getElem? (i := 187) (by decide +kernel)) rfl
theorem kw_345 : Cond.static yX2_four ∈ lw_all := kt_2 (List.mem_of_getElem? (i := 188) (by decide +kernel)) rfl
theorem kw_346 : Cond.initialized RX2 ∈ lw_all := kt_1 (List.mem_of_getElem? (i := 16) (by decide +kernel)) rfl
theorem kw_347 : Cond.code yX2_four cX2_four 2 (some .int) ∈ lw_all := kt_2 (List.mem_of_getElem? (i := 189) rfl) rfl
theorem kw_348 : Cond.methodLink RX8 33 yX8_addOrSubtract ∈ lw_all := kt_2 (List.mem_of_getElem? (i := 190) (by decide +kernel)) rfl
theorem kw_349 : Cond.instanceMethod yX8_addOrSubtract ∈ lw_all := kt_2 (List.mem_of_getElem? (i := 192) (by decide +kernel)) rfl
theorem kw_350 : Cond.selects RX8 yX8_addOrSubtract yX8_addOrSubtract ∈ lw_all := ks_1 (q := (⟨"TwoSetMachine$ThumbSet", "addOrSubtract", "(I)I"⟩, 4)) (List.mem_of_getElem? (i := 2) rfl)
theorem kw_351 : Cond.code yX8_addOrSubtract cX8_addOrSubtract 5 (some .int) ∈ lw_all := kt_2 (List.mem_of_getElem? (i := 193) rfl) rfl
theorem kw_352 : Cond.methodLink RX8 80 yX2_three ∈ lw_all := kt_2 (List.mem_of_getElem? (i := 194) (by decide +kernel)) rfl
theorem kw_353 : Cond.static yX2_three ∈ lw_all := kt_2 (List.mem_of_getElem? (i := 195) (by decide +kernel)) rfl
theorem kw_354 : Cond.code yX2_three cX2_three 2 (some .int) ∈ lw_all := kt_2 (List.mem_of_getElem? (i := 196) rfl) rfl
theorem kw_355 : Cond.methodLink RX8 43 yX2_on ∈ lw_all := kt_2 (List.mem_of_getElem? (i := 197) (by decide +kernel)) rfl
theorem kw_356 : Cond.static yX2_on ∈ lw_all := kt_2 (List.mem_of_getElem? (i := 198) (by decide +kernel)) rfl
theorem kw_357 : Cond.code yX2_on cX2_on 2 (some .boolean) ∈ lw_all := kt_2 (List.mem_of_getElem? (i := 199) rfl) rfl
theorem kw_358 : Cond.methodLink RX8 83 yX6_read ∈ lw_all := kt_2 (List.mem_of_getElem? (i := 200) (by decide +kernel)) rfl
theorem kw_359 : Cond.instanceMethod yX6_read ∈ lw_all := kt_2 (List.mem_of_getElem? (i := 201) (by decide +kernel)) rfl
theorem kw_360 : Cond.selects RX6 yX6_read yX6_read ∈ lw_all := kt_2 (List.mem_of_getElem? (i := 202) (by decide +kernel)) rfl
theorem kw_361 : Cond.code yX6_read cX6_read 2 (some .int) ∈ lw_all := kt_2 (List.mem_of_getElem? (i := 203) rfl) rfl
theorem kw_362 : Cond.methodLink RX8 120 yX0_apply ∈ lw_all := kt_2 (List.mem_of_getElem? (i := 204) (by decide +kernel)) rfl
theorem kw_363 : Cond.instanceMethod yX0_apply ∈ lw_all := kt_2 (List.mem_of_getElem? (i := 205) (by decide +kernel)) rfl
theorem kw_364 : Cond.selects RX0 yX0_apply yX0_apply ∈ lw_all := kt_2 (List.mem_of_getElem? (i := 206) (by decide +kernel)) rfl
theorem kw_365 : Cond.code yX0_apply cX0_apply 6 none ∈ lw_all := kt_2 (List.mem_of_getElem? (i := 207) rfl) rfl
theorem kw_366 : Cond.methodLink RX0 25 yX6_carry ∈ lw_all := kt_2 (List.mem_of_getElem? (i := 208) (by decide +kernel)) rfl
theorem kw_367 : Cond.instanceMethod yX6_carry ∈ lw_all := kt_2 (List.mem_of_getElem? (i := 209) (by decide +kernel)) rfl
theorem kw_368 : Cond.selects RX6 yX6_carry yX6_carry ∈ lw_all := kt_2 (List.mem_of_getElem? (i := 210) (by decide +kernel)) rfl
theorem kw_369 : Cond.code yX6_carry cX6_carry 1 (some .int) ∈ lw_all := kt_2 (List.mem_of_getElem? (i := 211) rfl) rfl
theorem kw_370 : Cond.methodLink RX0 31 yX0_compute ∈ lw_all := kt_2 (List.mem_of_getElem? (i := 212) (by decide +kernel)) rfl
theorem kw_371 : Cond.instanceMethod yX0_compute ∈ lw_all := kt_2 (List.mem_of_getElem? (i := 213) (by decide +kernel)) rfl
theorem kw_372 : Cond.selects RX0 yX0_compute yX0_compute ∈ lw_all := kt_2 (List.mem_of_getElem? (i := 214) (by decide +kernel)) rfl
theorem kw_373 : Cond.code yX0_compute cX0_compute 5 (some .int) ∈ lw_all := kt_2 (List.mem_of_getElem? (i := 215) rfl) rfl
theorem kw_374 : Cond.methodLink RX0 17 yX0_logic ∈ lw_all := kt_2 (List.mem_of_getElem? (i := 216) (by decide +kernel)) rfl
theorem kw_375 : Cond.instanceMethod yX0_logic ∈ lw_all := kt_2 (List.mem_of_getElem? (i := 218) (by decide +kernel)) rfl
theorem kw_376 : Cond.selects RX0 yX0_logic yX0_logic ∈ lw_all := ks_1 (q := (⟨"TwoSetMachine$Alu", "logic", "(II)I"⟩, 2)) (List.mem_of_getElem? (i := 3) rfl)
theorem kw_377 : Cond.code yX0_logic cX0_logic 3 (some .int) ∈ lw_all := kt_2 (List.mem_of_getElem? (i := 219) rfl) rfl
theorem kw_378 : Cond.methodLink RX0 47 yX6_overflow ∈ lw_all := kt_2 (List.mem_of_getElem? (i := 220) (by decide +kernel)) rfl
theorem kw_379 : Cond.instanceMethod yX6_overflow ∈ lw_all := kt_2 (List.mem_of_getElem? (i := 221) (by decide +kernel)) rfl
theorem kw_380 : Cond.selects RX6 yX6_overflow yX6_overflow ∈ lw_all := kt_2 (List.mem_of_getElem? (i := 222) (by decide +kernel)) rfl
theorem kw_381 : Cond.code yX6_overflow cX6_overflow 1 (some .int) ∈ lw_all := kt_2 (List.mem_of_getElem? (i := 223) rfl) rfl
theorem kw_382 : Cond.methodLink RX0 50 yX0_keep ∈ lw_all := kt_2 (List.mem_of_getElem? (i := 224) (by decide +kernel)) rfl
theorem kw_383 : Cond.instanceMethod yX0_keep ∈ lw_all := kt_2 (List.mem_of_getElem? (i := 226) (by decide +kernel)) rfl
theorem kw_384 : Cond.selects RX0 yX0_keep yX0_keep ∈ lw_all := ks_1 (q := (⟨"TwoSetMachine$Alu", "keep", "(ZZII)V"⟩, 2)) (List.mem_of_getElem? (i := 4) rfl)
theorem kw_385 : Cond.code yX0_keep cX0_keep 5 none ∈ lw_all := kt_2 (List.mem_of_getElem? (i := 227) rfl) rfl
theorem kw_386 : Cond.constant RX0 56 (-2147483648) ∈ lw_all := kt_2 (List.mem_of_getElem? (i := 228) (by decide +kernel)) rfl
theorem kw_387 : Cond.constant RX0 57 (1073741824) ∈ lw_all := kt_2 (List.mem_of_getElem? (i := 229) (by decide +kernel)) rfl
theorem kw_388 : Cond.methodLink RX0 21 yX0_sum ∈ lw_all := kt_2 (List.mem_of_getElem? (i := 230) (by decide +kernel)) rfl
theorem kw_389 : Cond.instanceMethod yX0_sum ∈ lw_all := kt_2 (List.mem_of_getElem? (i := 232) (by decide +kernel)) rfl
theorem kw_390 : Cond.selects RX0 yX0_sum yX0_sum ∈ lw_all := ks_1 (q := (⟨"TwoSetMachine$Alu", "sum", "(III)I"⟩, 2)) (List.mem_of_getElem? (i := 5) rfl)
theorem kw_391 : Cond.code yX0_sum cX0_sum 8 (some .int) ∈ lw_all := kt_2 (List.mem_of_getElem? (i := 233) rfl) rfl
theorem kw_392 : Cond.constantLong RX0 54 (4294967295) ∈ lw_all := kt_2 (List.mem_of_getElem? (i := 234) (by decide +kernel)) rfl
theorem kw_393 : Cond.methodLink RX0 35 yX6_changeFlags ∈ lw_all := kt_2 (List.mem_of_getElem? (i := 235) (by decide +kernel)) rfl
theorem kw_394 : Cond.instanceMethod yX6_changeFlags ∈ lw_all := kt_2 (List.mem_of_getElem? (i := 236) (by decide +kernel)) rfl
theorem kw_395 : Cond.selects RX6 yX6_changeFlags yX6_changeFlags ∈ lw_all := kt_2 (List.mem_of_getElem? (i := 237) (by decide +kernel)) rfl
theorem kw_396 : Cond.code yX6_changeFlags cX6_changeFlags 2 none ∈ lw_all := kt_2 (List.mem_of_getElem? (i := 238) rfl) rfl
theorem kw_397 : Cond.constant RX6 56 (-268435456) ∈ lw_all := kt_2 (List.mem_of_getElem? (i := 239) (by decide +kernel)) rfl
theorem kw_398 : Cond.constant RX6 65 (268435455) ∈ lw_all := kt_3 (List.mem_of_getElem? (i := 0) (by decide +kernel)) rfl
theorem kw_399 : Cond.methodLink RX0 39 yX0_isTest ∈ lw_all := kt_3 (List.mem_of_getElem? (i := 1) (by decide +kernel)) rfl
theorem kw_400 : Cond.static yX0_isTest ∈ lw_all := kt_3 (List.mem_of_getElem? (i := 2) (by decide +kernel)) rfl
theorem kw_401 : Cond.code yX0_isTest cX0_isTest 1 (some .boolean) ∈ lw_all := kt_3 (List.mem_of_getElem? (i := 3) rfl) rfl
theorem kw_402 : Cond.methodLink RX0 43 yX6_write ∈ lw_all := kt_3 (List.mem_of_getElem? (i := 4) (by decide +kernel)) rfl
theorem kw_403 : Cond.instanceMethod yX6_write ∈ lw_all := kt_3 (List.mem_of_getElem? (i := 5) (by decide +kernel)) rfl
theorem kw_404 : Cond.selects RX6 yX6_write yX6_write ∈ lw_all := kt_3 (List.mem_of_getElem? (i := 6) (by decide +kernel)) rfl
theorem kw_405 : Cond.code yX6_write cX6_write 3 none ∈ lw_all := kt_3 (List.mem_of_getElem? (i := 7) rfl) rfl
theorem kw_406 : Cond.methodLink RX6 39 yX6_jump ∈ lw_all := kt_3 (List.mem_of_getElem? (i := 8) (by decide +kernel)) rfl
theorem kw_407 : Cond.methodLink RX6 43 yX6_hold ∈ lw_all := kt_3 (List.mem_of_getElem? (i := 9) (by decide +kernel)) rfl
theorem kw_408 : Cond.methodLink RX8 37 yX8_shiftByNumber ∈ lw_all := kt_3 (List.mem_of_getElem? (i := 10) (by decide +kernel)) rfl
theorem kw_409 : Cond.instanceMethod yX8_shiftByNumber ∈ lw_all := kt_3 (List.mem_of_getElem? (i := 12) (by decide +kernel)) rfl
theorem kw_410 : Cond.selects RX8 yX8_shiftByNumber yX8_shiftByNumber ∈ lw_all := ks_1 (q := (⟨"TwoSetMachine$ThumbSet", "shiftByNumber", "(I)I"⟩, 4)) (List.mem_of_getElem? (i := 6) rfl)
theorem kw_411 : Cond.code yX8_shiftByNumber cX8_shiftByNumber 5 (some .int) ∈ lw_all := kt_3 (List.mem_of_getElem? (i := 13) rfl) rfl
theorem kw_412 : Cond.methodLink RX8 88 yX2_five ∈ lw_all := kt_3 (List.mem_of_getElem? (i := 14) (by decide +kernel)) rfl
theorem kw_413 : Cond.static yX2_five ∈ lw_all := kt_3 (List.mem_of_getElem? (i := 15) (by decide +kernel)) rfl
theorem kw_414 : Cond.code yX2_five cX2_five 2 (some .int) ∈ lw_all := kt_3 (List.mem_of_getElem? (i := 16) rfl) rfl
theorem kw_415 : Cond.methodLink RX8 91 yX6_carry ∈ lw_all := kt_3 (List.mem_of_getElem? (i := 17) (by decide +kernel)) rfl
theorem kw_416 : Cond.methodLink RX8 95 yX7_shiftByNumber ∈ lw_all := kt_3 (List.mem_of_getElem? (i := 18) (by decide +kernel)) rfl
theorem kw_417 : Cond.instanceMethod yX7_shiftByNumber ∈ lw_all := kt_3 (List.mem_of_getElem? (i := 19) (by decide +kernel)) rfl
theorem kw_418 : Cond.selects RX7 yX7_shiftByNumber yX7_shiftByNumber ∈ lw_all := kt_3 (List.mem_of_getElem? (i := 20) (by decide +kernel)) rfl
theorem kw_419 : Cond.code yX7_shiftByNumber cX7_shiftByNumber 5 (some .int) ∈ lw_all := kt_3 (List.mem_of_getElem? (i := 21) rfl) rfl
theorem kw_420 : Cond.methodLink RX7 17 yX7_shift ∈ lw_all := kt_3 (List.mem_of_getElem? (i := 22) (by decide +kernel)) rfl
theorem kw_421 : Cond.instanceMethod yX7_shift ∈ lw_all := kt_3 (List.mem_of_getElem? (i := 23) (by decide +kernel)) rfl
theorem kw_422 : Cond.selects RX7 yX7_shift yX7_shift ∈ lw_all := kt_3 (List.mem_of_getElem? (i := 24) (by decide +kernel)) rfl
theorem kw_423 : Cond.code yX7_shift cX7_shift 6 (some .int) ∈ lw_all := kt_3 (List.mem_of_getElem? (i := 25) rfl) rfl
theorem kw_424 : Cond.methodLink RX7 13 yX7_turnRight ∈ lw_all := kt_3 (List.mem_of_getElem? (i := 26) (by decide +kernel)) rfl
theorem kw_425 : Cond.static yX7_turnRight ∈ lw_all := kt_3 (List.mem_of_getElem? (i := 27) (by decide +kernel)) rfl
theorem kw_426 : Cond.code yX7_turnRight cX7_turnRight 2 (some .int) ∈ lw_all := kt_3 (List.mem_of_getElem? (i := 28) rfl) rfl
theorem kw_427 : Cond.methodLink RX8 100 yX8_keepShifted ∈ lw_all := kt_3 (List.mem_of_getElem? (i := 29) (by decide +kernel)) rfl
theorem kw_428 : Cond.instanceMethod yX8_keepShifted ∈ lw_all := kt_3 (List.mem_of_getElem? (i := 31) (by decide +kernel)) rfl
theorem kw_429 : Cond.selects RX8 yX8_keepShifted yX8_keepShifted ∈ lw_all := ks_1 (q := (⟨"TwoSetMachine$ThumbSet", "keepShifted", "(II)I"⟩, 4)) (List.mem_of_getElem? (i := 7) rfl)
theorem kw_430 : Cond.code yX8_keepShifted cX8_keepShifted 3 (some .int) ∈ lw_all := kt_3 (List.mem_of_getElem? (i := 32) rfl) rfl
theorem kw_431 : Cond.methodLink RX8 105 yX7_carry ∈ lw_all := kt_3 (List.mem_of_getElem? (i := 33) (by decide +kernel)) rfl
theorem kw_432 : Cond.instanceMethod yX7_carry ∈ lw_all := kt_3 (List.mem_of_getElem? (i := 34) (by decide +kernel)) rfl
theorem kw_433 : Cond.selects RX7 yX7_carry yX7_carry ∈ lw_all := kt_3 (List.mem_of_getElem? (i := 35) (by decide +kernel)) rfl
theorem kw_434 : Cond.code yX7_carry cX7_carry 1 (some .int) ∈ lw_all := kt_3 (List.mem_of_getElem? (i := 36) rfl) rfl
theorem kw_435 : Cond.methodLink RX8 106 yX0_compute ∈ lw_all := kt_3 (List.mem_of_getElem? (i := 37) (by decide +kernel)) rfl
theorem kw_436 : Cond.methodLink RX8 109 yX0_flags ∈ lw_all := kt_3 (List.mem_of_getElem? (i := 38) (by decide +kernel)) rfl
theorem kw_437 : Cond.instanceMethod yX0_flags ∈ lw_all := kt_3 (List.mem_of_getElem? (i := 39) (by decide +kernel)) rfl
theorem kw_438 : Cond.selects RX0 yX0_flags yX0_flags ∈ lw_all := kt_3 (List.mem_of_getElem? (i := 40) (by decide +kernel)) rfl
theorem kw_439 : Cond.code yX0_flags cX0_flags 1 (some .int) ∈ lw_all := kt_3 (List.mem_of_getElem? (i := 41) rfl) rfl
theorem kw_440 : Cond.methodLink RX8 112 yX6_changeFlags ∈ lw_all := kt_3 (List.mem_of_getElem? (i := 42) (by decide +kernel)) rfl
theorem kw_441 : Cond.methodLink RX8 116 yX6_write ∈ lw_all := kt_3 (List.mem_of_getElem? (i := 43) (by decide +kernel)) rfl
theorem kw_442 : Cond.methodLink RX8 40 yX8_withNumber ∈ lw_all := kt_3 (List.mem_of_getElem? (i := 44) (by decide +kernel)) rfl
theorem kw_443 : Cond.instanceMethod yX8_withNumber ∈ lw_all := kt_3 (List.mem_of_getElem? (i := 46) (by decide +kernel)) rfl
theorem kw_444 : Cond.selects RX8 yX8_withNumber yX8_withNumber ∈ lw_all := ks_1 (q := (⟨"TwoSetMachine$ThumbSet", "withNumber", "(I)I"⟩, 4)) (List.mem_of_getElem? (i := 8) rfl)
theorem kw_445 : Cond.code yX8_withNumber cX8_withNumber 6 (some .int) ∈ lw_all := kt_3 (List.mem_of_getElem? (i := 47) rfl) rfl
theorem kw_446 : Cond.methodLink RX8 47 yX8_loadBesidePc ∈ lw_all := kt_3 (List.mem_of_getElem? (i := 48) (by decide +kernel)) rfl
theorem kw_447 : Cond.instanceMethod yX8_loadBesidePc ∈ lw_all := kt_3 (List.mem_of_getElem? (i := 50) (by decide +kernel)) rfl
theorem kw_448 : Cond.selects RX8 yX8_loadBesidePc yX8_loadBesidePc ∈ lw_all := ks_1 (q := (⟨"TwoSetMachine$ThumbSet", "loadBesidePc", "(I)I"⟩, 4)) (List.mem_of_getElem? (i := 9) rfl)
theorem kw_449 : Cond.code yX8_loadBesidePc cX8_loadBesidePc 3 (some .int) ∈ lw_all := kt_3 (List.mem_of_getElem? (i := 51) rfl) rfl
theorem kw_450 : Cond.methodLink RX8 136 yX8_wordOfPc ∈ lw_all := kt_3 (List.mem_of_getElem? (i := 52) (by decide +kernel)) rfl
theorem kw_451 : Cond.instanceMethod yX8_wordOfPc ∈ lw_all := kt_3 (List.mem_of_getElem? (i := 54) (by decide +kernel)) rfl
theorem kw_452 : Cond.selects RX8 yX8_wordOfPc yX8_wordOfPc ∈ lw_all := ks_1 (q := (⟨"TwoSetMachine$ThumbSet", "wordOfPc", "()I"⟩, 4)) (List.mem_of_getElem? (i := 10) rfl)
theorem kw_453 : Cond.code yX8_wordOfPc cX8_wordOfPc 1 (some .int) ∈ lw_all := kt_3 (List.mem_of_getElem? (i := 55) rfl) rfl
theorem kw_454 : Cond.methodLink RX8 141 yX9_plain ∈ lw_all := kt_3 (List.mem_of_getElem? (i := 56) (by decide +kernel)) rfl
theorem kw_455 : Cond.instanceMethod yX9_plain ∈ lw_all := kt_3 (List.mem_of_getElem? (i := 57) (by decide +kernel)) rfl
theorem kw_456 : Cond.selects RX9 yX9_plain yX9_plain ∈ lw_all := kt_3 (List.mem_of_getElem? (i := 58) (by decide +kernel)) rfl
theorem kw_457 : Cond.code yX9_plain cX9_plain 5 (some .int) ∈ lw_all := kt_3 (List.mem_of_getElem? (i := 59) rfl) rfl
theorem kw_458 : Cond.methodLink RX9 35 yX4_holds ∈ lw_all := kt_3 (List.mem_of_getElem? (i := 60) (by decide +kernel)) rfl
theorem kw_459 : Cond.methodLink RX9 43 yX4_load ∈ lw_all := kt_3 (List.mem_of_getElem? (i := 61) (by decide +kernel)) rfl
theorem kw_460 : Cond.instanceMethod yX4_load ∈ lw_all := kt_3 (List.mem_of_getElem? (i := 62) (by decide +kernel)) rfl
theorem kw_461 : Cond.selects RX4 yX4_load yX4_load ∈ lw_all := kt_3 (List.mem_of_getElem? (i := 63) (by decide +kernel)) rfl
theorem kw_462 : Cond.code yX4_load cX4_load 6 (some .int) ∈ lw_all := kt_3 (List.mem_of_getElem? (i := 64) rfl) rfl
theorem kw_463 : Cond.methodLink RX4 21 yX7_turnRight ∈ lw_all := kt_3 (List.mem_of_getElem? (i := 65) (by decide +kernel)) rfl
theorem kw_464 : Cond.methodLink RX9 49 yX6_write ∈ lw_all := kt_3 (List.mem_of_getElem? (i := 66) (by decide +kernel)) rfl
theorem kw_465 : Cond.methodLink RX9 25 yX6_read ∈ lw_all := kt_3 (List.mem_of_getElem? (i := 67) (by decide +kernel)) rfl
theorem kw_466 : Cond.methodLink RX9 53 yX4_store ∈ lw_all := kt_3 (List.mem_of_getElem? (i := 68) (by decide +kernel)) rfl
theorem kw_467 : Cond.instanceMethod yX4_store ∈ lw_all := kt_3 (List.mem_of_getElem? (i := 69) (by decide +kernel)) rfl
theorem kw_468 : Cond.selects RX4 yX4_store yX4_store ∈ lw_all := kt_3 (List.mem_of_getElem? (i := 70) (by decide +kernel)) rfl
theorem kw_469 : Cond.code yX4_store cX4_store 6 none ∈ lw_all := kt_3 (List.mem_of_getElem? (i := 71) rfl) rfl
theorem kw_470 : Cond.methodLink RX4 27 yX4_putWord ∈ lw_all := kt_3 (List.mem_of_getElem? (i := 72) (by decide +kernel)) rfl
theorem kw_471 : Cond.methodLink RX8 50 yX8_ofAllRegisters ∈ lw_all := kt_3 (List.mem_of_getElem? (i := 73) (by decide +kernel)) rfl
theorem kw_472 : Cond.instanceMethod yX8_ofAllRegisters ∈ lw_all := kt_3 (List.mem_of_getElem? (i := 75) (by decide +kernel)) rfl
theorem kw_473 : Cond.selects RX8 yX8_ofAllRegisters yX8_ofAllRegisters ∈ lw_all := ks_1 (q := (⟨"TwoSetMachine$ThumbSet", "ofAllRegisters", "(I)I"⟩, 4)) (List.mem_of_getElem? (i := 11) rfl)
theorem kw_474 : Cond.code yX8_ofAllRegisters cX8_ofAllRegisters 4 (some .int) ∈ lw_all := kt_3 (List.mem_of_getElem? (i := 76) rfl) rfl
theorem kw_475 : Cond.methodLink RX8 133 yX6_jumpAndChangeSet ∈ lw_all := kt_3 (List.mem_of_getElem? (i := 77) (by decide +kernel)) rfl
theorem kw_476 : Cond.instanceMethod yX6_jumpAndChangeSet ∈ lw_all := kt_3 (List.mem_of_getElem? (i := 78) (by decide +kernel)) rfl
theorem kw_477 : Cond.selects RX6 yX6_jumpAndChangeSet yX6_jumpAndChangeSet ∈ lw_all := kt_3 (List.mem_of_getElem? (i := 79) (by decide +kernel)) rfl
theorem kw_478 : Cond.code yX6_jumpAndChangeSet cX6_jumpAndChangeSet 2 none ∈ lw_all := kt_3 (List.mem_of_getElem? (i := 80) rfl) rfl
theorem kw_479 : Cond.methodLink RX8 53 yX8_ofTwoRegisters ∈ lw_all := kt_3 (List.mem_of_getElem? (i := 81) (by decide +kernel)) rfl
theorem kw_480 : Cond.instanceMethod yX8_ofTwoRegisters ∈ lw_all := kt_3 (List.mem_of_getElem? (i := 83) (by decide +kernel)) rfl
theorem kw_481 : Cond.selects RX8 yX8_ofTwoRegisters yX8_ofTwoRegisters ∈ lw_all := ks_1 (q := (⟨"TwoSetMachine$ThumbSet", "ofTwoRegisters", "(I)I"⟩, 4)) (List.mem_of_getElem? (i := 12) rfl)
theorem kw_482 : Cond.code yX8_ofTwoRegisters cX8_ofTwoRegisters 6 (some .int) ∈ lw_all := kt_3 (List.mem_of_getElem? (i := 84) rfl) rfl
theorem kw_483 : Cond.methodLink RX8 124 yX7_shift ∈ lw_all := kt_3 (List.mem_of_getElem? (i := 85) (by decide +kernel)) rfl
theorem kw_484 : Cond.methodLink RX8 127 yX0_flagsOfProduct ∈ lw_all := kt_3 (List.mem_of_getElem? (i := 86) (by decide +kernel)) rfl
theorem kw_485 : Cond.instanceMethod yX0_flagsOfProduct ∈ lw_all := kt_3 (List.mem_of_getElem? (i := 87) (by decide +kernel)) rfl
theorem kw_486 : Cond.selects RX0 yX0_flagsOfProduct yX0_flagsOfProduct ∈ lw_all := kt_3 (List.mem_of_getElem? (i := 88) (by decide +kernel)) rfl
theorem kw_487 : Cond.code yX0_flagsOfProduct cX0_flagsOfProduct 3 none ∈ lw_all := kt_3 (List.mem_of_getElem? (i := 89) rfl) rfl
theorem kw_488 : Cond.methodLink RX8 56 yX8_byRegisterOffset ∈ lw_all := kt_3 (List.mem_of_getElem? (i := 90) (by decide +kernel)) rfl
theorem kw_489 : Cond.instanceMethod yX8_byRegisterOffset ∈ lw_all := kt_3 (List.mem_of_getElem? (i := 92) (by decide +kernel)) rfl
theorem kw_490 : Cond.selects RX8 yX8_byRegisterOffset yX8_byRegisterOffset ∈ lw_all := ks_1 (q := (⟨"TwoSetMachine$ThumbSet", "byRegisterOffset", "(I)I"⟩, 4)) (List.mem_of_getElem? (i := 13) rfl)
theorem kw_491 : Cond.code yX8_byRegisterOffset cX8_byRegisterOffset 4 (some .int) ∈ lw_all := kt_3 (List.mem_of_getElem? (i := 93) rfl) rfl
theorem kw_492 : Cond.fieldLink RX8 147 "TwoSetMachine$ThumbSet" "KINDS_BY_REGISTER" "[I" ∈ lw_all := kt_3 (List.mem_of_getElem? (i := 94) (by decide +kernel)) rfl
theorem kw_493 : Cond.methodLink RX8 59 yX8_byNumberOffset ∈ lw_all := kt_3 (List.mem_of_getElem? (i := 96) (by decide +kernel)) rfl
theorem kw_494 : Cond.instanceMethod yX8_byNumberOffset ∈ lw_all := kt_3 (List.mem_of_getElem? (i := 98) (by decide +kernel)) rfl
theorem kw_495 : Cond.selects RX8 yX8_byNumberOffset yX8_byNumberOffset ∈ lw_all := ks_1 (q := (⟨"TwoSetMachine$ThumbSet", "byNumberOffset", "(I)I"⟩, 4)) (List.mem_of_getElem? (i := 14) rfl)
theorem kw_496 : Cond.code yX8_byNumberOffset cX8_byNumberOffset 6 (some .int) ∈ lw_all := kt_3 (List.mem_of_getElem? (i := 99) rfl) rfl
theorem kw_497 : Cond.methodLink RX8 62 yX8_besideSp ∈ lw_all := kt_3 (List.mem_of_getElem? (i := 100) (by decide +kernel)) rfl
theorem kw_498 : Cond.instanceMethod yX8_besideSp ∈ lw_all := kt_3 (List.mem_of_getElem? (i := 102) (by decide +kernel)) rfl
theorem kw_499 : Cond.selects RX8 yX8_besideSp yX8_besideSp ∈ lw_all := ks_1 (q := (⟨"TwoSetMachine$ThumbSet", "besideSp", "(I)I"⟩, 4)) (List.mem_of_getElem? (i := 15) rfl)
theorem kw_500 : Cond.code yX8_besideSp cX8_besideSp 3 (some .int) ∈ lw_all := kt_3 (List.mem_of_getElem? (i := 103) rfl) rfl
theorem kw_501 : Cond.methodLink RX8 65 yX8_addressOf ∈ lw_all := kt_3 (List.mem_of_getElem? (i := 104) (by decide +kernel)) rfl
theorem kw_502 : Cond.instanceMethod yX8_addressOf ∈ lw_all := kt_3 (List.mem_of_getElem? (i := 106) (by decide +kernel)) rfl
theorem kw_503 : Cond.selects RX8 yX8_addressOf yX8_addressOf ∈ lw_all := ks_2 (q := (⟨"TwoSetMachine$ThumbSet", "addressOf", "(I)I"⟩, 4)) (List.mem_of_getElem? (i := 0) rfl)
theorem kw_504 : Cond.code yX8_addressOf cX8_addressOf 3 (some .int) ∈ lw_all := kt_3 (List.mem_of_getElem? (i := 107) rfl) rfl
theorem kw_505 : Cond.methodLink RX8 68 yX8_stack ∈ lw_all := kt_3 (List.mem_of_getElem? (i := 108) (by decide +kernel)) rfl
theorem kw_506 : Cond.instanceMethod yX8_stack ∈ lw_all := kt_3 (List.mem_of_getElem? (i := 110) (by decide +kernel)) rfl
theorem kw_507 : Cond.selects RX8 yX8_stack yX8_stack ∈ lw_all := ks_2 (q := (⟨"TwoSetMachine$ThumbSet", "stack", "(I)I"⟩, 4)) (List.mem_of_getElem? (i := 1) rfl)
theorem kw_508 : Cond.code yX8_stack cX8_stack 4 (some .int) ∈ lw_all := kt_3 (List.mem_of_getElem? (i := 111) rfl) rfl
theorem kw_509 : Cond.constant RX8 151 (153944064) ∈ lw_all := kt_3 (List.mem_of_getElem? (i := 112) (by decide +kernel)) rfl
theorem kw_510 : Cond.constant RX8 153 (146604032) ∈ lw_all := kt_3 (List.mem_of_getElem? (i := 151) (by decide +kernel)) rfl
theorem kw_511 : Cond.constant RX8 154 (32768) ∈ lw_all := kt_3 (List.mem_of_getElem? (i := 152) (by decide +kernel)) rfl
theorem kw_512 : Cond.methodLink RX8 152 yX9_many ∈ lw_all := kt_3 (List.mem_of_getElem? (i := 113) (by decide +kernel)) rfl
theorem kw_513 : Cond.instanceMethod yX9_many ∈ lw_all := kt_3 (List.mem_of_getElem? (i := 114) (by decide +kernel)) rfl
theorem kw_514 : Cond.selects RX9 yX9_many yX9_many ∈ lw_all := kt_3 (List.mem_of_getElem? (i := 115) (by decide +kernel)) rfl
theorem kw_515 : Cond.code yX9_many cX9_many 8 (some .int) ∈ lw_all := kt_3 (List.mem_of_getElem? (i := 116) rfl) rfl
theorem kw_516 : Cond.constant RX9 57 (65535) ∈ lw_all := kt_3 (List.mem_of_getElem? (i := 117) (by decide +kernel)) rfl
theorem kw_517 : Cond.methodLink RX9 19 yX2_four ∈ lw_all := kt_3 (List.mem_of_getElem? (i := 118) (by decide +kernel)) rfl
theorem kw_518 : Cond.methodLink RX9 58 yJ6_bitCount_0f7a4 ∈ lw_all := kt_3 (List.mem_of_getElem? (i := 119) (by decide +kernel)) rfl
theorem kw_519 : Cond.static yJ6_bitCount_0f7a4 ∈ lw_all := kt_3 (List.mem_of_getElem? (i := 120) (by decide +kernel)) rfl
theorem kw_520 : Cond.initialized RJ6 ∈ lw_all := kt_1 (List.mem_of_getElem? (i := 17) (by decide +kernel)) rfl
theorem kw_521 : Cond.code yJ6_bitCount_0f7a4 cJ6_bitCount_0f7a4 1 (some .int) ∈ lw_all := kt_3 (List.mem_of_getElem? (i := 121) rfl) rfl
theorem kw_522 : Cond.constant RJ6 265 (1431655765) ∈ lw_all := kt_3 (List.mem_of_getElem? (i := 122) (by decide +kernel)) rfl
theorem kw_523 : Cond.constant RJ6 266 (858993459) ∈ lw_all := kt_3 (List.mem_of_getElem? (i := 123) (by decide +kernel)) rfl
theorem kw_524 : Cond.constant RJ6 267 (252645135) ∈ lw_all := kt_3 (List.mem_of_getElem? (i := 124) (by decide +kernel)) rfl
theorem kw_525 : Cond.methodLink RX9 31 yX2_on ∈ lw_all := kt_3 (List.mem_of_getElem? (i := 125) (by decide +kernel)) rfl
theorem kw_526 : Cond.methodLink RX9 63 yX9_loadMany ∈ lw_all := kt_3 (List.mem_of_getElem? (i := 126) (by decide +kernel)) rfl
theorem kw_527 : Cond.instanceMethod yX9_loadMany ∈ lw_all := kt_3 (List.mem_of_getElem? (i := 128) (by decide +kernel)) rfl
theorem kw_528 : Cond.selects RX9 yX9_loadMany yX9_loadMany ∈ lw_all := ks_2 (q := (⟨"TwoSetMachine$Transfers", "loadMany", "(IIII)I"⟩, 2)) (List.mem_of_getElem? (i := 2) rfl)
theorem kw_529 : Cond.code yX9_loadMany cX9_loadMany 11 (some .int) ∈ lw_all := kt_3 (List.mem_of_getElem? (i := 129) rfl) rfl
theorem kw_530 : Cond.methodLink RX9 71 yX6_bank ∈ lw_all := kt_3 (List.mem_of_getElem? (i := 130) (by decide +kernel)) rfl
theorem kw_531 : Cond.instanceMethod yX6_bank ∈ lw_all := kt_3 (List.mem_of_getElem? (i := 131) (by decide +kernel)) rfl
theorem kw_532 : Cond.selects RX6 yX6_bank yX6_bank ∈ lw_all := kt_3 (List.mem_of_getElem? (i := 132) (by decide +kernel)) rfl
theorem kw_533 : Cond.code yX6_bank cX6_bank 1 (some .int) ∈ lw_all := kt_3 (List.mem_of_getElem? (i := 133) rfl) rfl
theorem kw_534 : Cond.methodLink RX9 81 yX6_hold ∈ lw_all := kt_3 (List.mem_of_getElem? (i := 134) (by decide +kernel)) rfl
theorem kw_535 : Cond.methodLink RX9 84 yX4_word ∈ lw_all := kt_3 (List.mem_of_getElem? (i := 135) (by decide +kernel)) rfl
theorem kw_536 : Cond.methodLink RX9 87 yX6_spsrOrCpsr ∈ lw_all := kt_3 (List.mem_of_getElem? (i := 136) (by decide +kernel)) rfl
theorem kw_537 : Cond.instanceMethod yX6_spsrOrCpsr ∈ lw_all := kt_3 (List.mem_of_getElem? (i := 137) (by decide +kernel)) rfl
theorem kw_538 : Cond.selects RX6 yX6_spsrOrCpsr yX6_spsrOrCpsr ∈ lw_all := kt_3 (List.mem_of_getElem? (i := 138) (by decide +kernel)) rfl
theorem kw_539 : Cond.code yX6_spsrOrCpsr cX6_spsrOrCpsr 1 (some .int) ∈ lw_all := kt_3 (List.mem_of_getElem? (i := 139) rfl) rfl
theorem kw_540 : Cond.methodLink RX9 90 yX6_changeCpsr ∈ lw_all := kt_3 (List.mem_of_getElem? (i := 140) (by decide +kernel)) rfl
theorem kw_541 : Cond.methodLink RX9 94 yX6_jump ∈ lw_all := kt_3 (List.mem_of_getElem? (i := 141) (by decide +kernel)) rfl
theorem kw_542 : Cond.methodLink RX9 67 yX9_storeMany ∈ lw_all := kt_3 (List.mem_of_getElem? (i := 142) (by decide +kernel)) rfl
theorem kw_543 : Cond.instanceMethod yX9_storeMany ∈ lw_all := kt_3 (List.mem_of_getElem? (i := 144) (by decide +kernel)) rfl
theorem kw_544 : Cond.selects RX9 yX9_storeMany yX9_storeMany ∈ lw_all := ks_2 (q := (⟨"TwoSetMachine$Transfers", "storeMany", "(III)I"⟩, 2)) (List.mem_of_getElem? (i := 3) rfl)
theorem kw_545 : Cond.code yX9_storeMany cX9_storeMany 7 (some .int) ∈ lw_all := kt_3 (List.mem_of_getElem? (i := 145) rfl) rfl
theorem kw_546 : Cond.methodLink RX9 75 yX6_readLateIn ∈ lw_all := kt_3 (List.mem_of_getElem? (i := 146) (by decide +kernel)) rfl
theorem kw_547 : Cond.instanceMethod yX6_readLateIn ∈ lw_all := kt_3 (List.mem_of_getElem? (i := 147) (by decide +kernel)) rfl
theorem kw_548 : Cond.selects RX6 yX6_readLateIn yX6_readLateIn ∈ lw_all := kt_3 (List.mem_of_getElem? (i := 148) (by decide +kernel)) rfl
theorem kw_549 : Cond.code yX6_readLateIn cX6_readLateIn 3 (some .int) ∈ lw_all := kt_3 (List.mem_of_getElem? (i := 149) rfl) rfl
theorem kw_550 : Cond.methodLink RX9 78 yX4_putWord ∈ lw_all := kt_3 (List.mem_of_getElem? (i := 150) (by decide +kernel)) rfl
theorem kw_551 : Cond.methodLink RX8 71 yX8_many ∈ lw_all := kt_3 (List.mem_of_getElem? (i := 153) (by decide +kernel)) rfl
theorem kw_552 : Cond.instanceMethod yX8_many ∈ lw_all := kt_3 (List.mem_of_getElem? (i := 155) (by decide +kernel)) rfl
theorem kw_553 : Cond.selects RX8 yX8_many yX8_many ∈ lw_all := ks_2 (q := (⟨"TwoSetMachine$ThumbSet", "many", "(I)I"⟩, 4)) (List.mem_of_getElem? (i := 4) rfl)
theorem kw_554 : Cond.code yX8_many cX8_many 3 (some .int) ∈ lw_all := kt_3 (List.mem_of_getElem? (i := 156) rfl) rfl
theorem kw_555 : Cond.constant RX8 155 (145752064) ∈ lw_all := kt_3 (List.mem_of_getElem? (i := 157) (by decide +kernel)) rfl
theorem kw_556 : Cond.constant RX8 156 (144703488) ∈ lw_all := kt_3 (List.mem_of_getElem? (i := 158) (by decide +kernel)) rfl
theorem kw_557 : Cond.methodLink RX8 74 yX8_branchByCondition ∈ lw_all := kt_3 (List.mem_of_getElem? (i := 159) (by decide +kernel)) rfl
theorem kw_558 : Cond.instanceMethod yX8_branchByCondition ∈ lw_all := kt_3 (List.mem_of_getElem? (i := 161) (by decide +kernel)) rfl
theorem kw_559 : Cond.selects RX8 yX8_branchByCondition yX8_branchByCondition ∈ lw_all := ks_2 (q := (⟨"TwoSetMachine$ThumbSet", "branchByCondition", "(I)I"⟩, 4)) (List.mem_of_getElem? (i := 5) rfl)
theorem kw_560 : Cond.code yX8_branchByCondition cX8_branchByCondition 3 (some .int) ∈ lw_all := kt_3 (List.mem_of_getElem? (i := 162) rfl) rfl
theorem kw_561 : Cond.methodLink RX8 157 yX6_fits ∈ lw_all := kt_3 (List.mem_of_getElem? (i := 163) (by decide +kernel)) rfl
theorem kw_562 : Cond.instanceMethod yX6_fits ∈ lw_all := kt_3 (List.mem_of_getElem? (i := 164) (by decide +kernel)) rfl
theorem kw_563 : Cond.selects RX6 yX6_fits yX6_fits ∈ lw_all := kt_3 (List.mem_of_getElem? (i := 165) (by decide +kernel)) rfl
theorem kw_564 : Cond.code yX6_fits cX6_fits 7 (some .boolean) ∈ lw_all := kt_3 (List.mem_of_getElem? (i := 166) rfl) rfl
theorem kw_565 : Cond.methodLink RX6 66 yX2_on ∈ lw_all := kt_3 (List.mem_of_getElem? (i := 167) (by decide +kernel)) rfl
theorem kw_566 : Cond.methodLink RX8 161 yX6_jump ∈ lw_all := kt_3 (List.mem_of_getElem? (i := 168) (by decide +kernel)) rfl
theorem kw_567 : Cond.methodLink RX8 77 yX8_branch ∈ lw_all := kt_3 (List.mem_of_getElem? (i := 169) (by decide +kernel)) rfl
theorem kw_568 : Cond.instanceMethod yX8_branch ∈ lw_all := kt_3 (List.mem_of_getElem? (i := 171) (by decide +kernel)) rfl
theorem kw_569 : Cond.selects RX8 yX8_branch yX8_branch ∈ lw_all := ks_2 (q := (⟨"TwoSetMachine$ThumbSet", "branch", "(I)I"⟩, 4)) (List.mem_of_getElem? (i := 6) rfl)
theorem kw_570 : Cond.code yX8_branch cX8_branch 4 (some .int) ∈ lw_all := kt_3 (List.mem_of_getElem? (i := 172) rfl) rfl
theorem kw_571 : Cond.methodLink RX8 164 yX6_behind ∈ lw_all := kt_3 (List.mem_of_getElem? (i := 173) (by decide +kernel)) rfl
theorem kw_572 : Cond.methodLink RX5 97 yX4_word ∈ lw_all := kt_3 (List.mem_of_getElem? (i := 174) (by decide +kernel)) rfl
theorem kw_573 : Cond.methodLink RX5 100 yX1_perform ∈ lw_all := kt_3 (List.mem_of_getElem? (i := 175) (by decide +kernel)) rfl
theorem kw_574 : Cond.instanceMethod yX1_perform ∈ lw_all := kt_3 (List.mem_of_getElem? (i := 176) (by decide +kernel)) rfl
theorem kw_575 : Cond.selects RX1 yX1_perform yX1_perform ∈ lw_all := kt_3 (List.mem_of_getElem? (i := 177) (by decide +kernel)) rfl
theorem kw_576 : Cond.code yX1_perform cX1_perform 3 (some .int) ∈ lw_all := kt_3 (List.mem_of_getElem? (i := 178) rfl) rfl
theorem kw_577 : Cond.constant RX1 41 (268435440) ∈ lw_all := kt_3 (List.mem_of_getElem? (i := 181) (by decide +kernel)) rfl
theorem kw_578 : Cond.constant RX1 42 (19922704) ∈ lw_all := kt_3 (List.mem_of_getElem? (i := 182) (by decide +kernel)) rfl
theorem kw_579 : Cond.constant RX1 54 (251658480) ∈ lw_all := kt_3 (List.mem_of_getElem? (i := 186) (by decide +kernel)) rfl
theorem kw_580 : Cond.constant RX1 58 (263196656) ∈ lw_all := kt_3 (List.mem_of_getElem? (i := 201) (by decide +kernel)) rfl
theorem kw_581 : Cond.constant RX1 59 (16777360) ∈ lw_all := kt_3 (List.mem_of_getElem? (i := 202) (by decide +kernel)) rfl
theorem kw_582 : Cond.constant RX1 66 (264179711) ∈ lw_all := kt_3 (List.mem_of_getElem? (i := 224) (by decide +kernel)) rfl
theorem kw_583 : Cond.constant RX1 67 (17760256) ∈ lw_all := kt_3 (List.mem_of_getElem? (i := 225) (by decide +kernel)) rfl
theorem kw_584 : Cond.constant RX1 71 (263258096) ∈ lw_all := kt_3 (List.mem_of_getElem? (i := 232) (by decide +kernel)) rfl
theorem kw_585 : Cond.constant RX1 72 (18935808) ∈ lw_all := kt_3 (List.mem_of_getElem? (i := 233) (by decide +kernel)) rfl
theorem kw_586 : Cond.constant RX1 79 (263254016) ∈ lw_all := kt_4 (List.mem_of_getElem? (i := 39) (by decide +kernel)) rfl
theorem kw_587 : Cond.constant RX1 80 (52490240) ∈ lw_all := kt_4 (List.mem_of_getElem? (i := 40) (by decide +kernel)) rfl
theorem kw_588 : Cond.methodLink RX1 29 yX6_fits ∈ lw_all := kt_3 (List.mem_of_getElem? (i := 179) (by decide +kernel)) rfl
theorem kw_589 : Cond.methodLink RX1 35 yX2_three ∈ lw_all := kt_3 (List.mem_of_getElem? (i := 180) (by decide +kernel)) rfl
theorem kw_590 : Cond.methodLink RX1 43 yX2_four ∈ lw_all := kt_3 (List.mem_of_getElem? (i := 183) (by decide +kernel)) rfl
theorem kw_591 : Cond.methodLink RX1 46 yX6_read ∈ lw_all := kt_3 (List.mem_of_getElem? (i := 184) (by decide +kernel)) rfl
theorem kw_592 : Cond.methodLink RX1 50 yX6_jumpAndChangeSet ∈ lw_all := kt_3 (List.mem_of_getElem? (i := 185) (by decide +kernel)) rfl
theorem kw_593 : Cond.methodLink RX1 55 yX1_multiply ∈ lw_all := kt_3 (List.mem_of_getElem? (i := 187) (by decide +kernel)) rfl
theorem kw_594 : Cond.instanceMethod yX1_multiply ∈ lw_all := kt_3 (List.mem_of_getElem? (i := 189) (by decide +kernel)) rfl
theorem kw_595 : Cond.selects RX1 yX1_multiply yX1_multiply ∈ lw_all := ks_2 (q := (⟨"TwoSetMachine$ArmSet", "multiply", "(I)I"⟩, 4)) (List.mem_of_getElem? (i := 7) rfl)
theorem kw_596 : Cond.code yX1_multiply cX1_multiply 12 (some .int) ∈ lw_all := kt_3 (List.mem_of_getElem? (i := 190) rfl) rfl
theorem kw_597 : Cond.methodLink RX1 97 yX2_on ∈ lw_all := kt_3 (List.mem_of_getElem? (i := 191) (by decide +kernel)) rfl
theorem kw_598 : Cond.methodLink RX1 101 yX1_longProduct ∈ lw_all := kt_3 (List.mem_of_getElem? (i := 192) (by decide +kernel)) rfl
theorem kw_599 : Cond.static yX1_longProduct ∈ lw_all := kt_3 (List.mem_of_getElem? (i := 193) (by decide +kernel)) rfl
theorem kw_600 : Cond.code yX1_longProduct cX1_longProduct 3 (some .long) ∈ lw_all := kt_3 (List.mem_of_getElem? (i := 194) rfl) rfl
theorem kw_601 : Cond.constantLong RX1 119 (4294967295) ∈ lw_all := kt_3 (List.mem_of_getElem? (i := 195) (by decide +kernel)) rfl
theorem kw_602 : Cond.methodLink RX1 105 yX1_pair ∈ lw_all := kt_3 (List.mem_of_getElem? (i := 196) (by decide +kernel)) rfl
theorem kw_603 : Cond.static yX1_pair ∈ lw_all := kt_3 (List.mem_of_getElem? (i := 197) (by decide +kernel)) rfl
theorem kw_604 : Cond.code yX1_pair cX1_pair 2 (some .long) ∈ lw_all := kt_3 (List.mem_of_getElem? (i := 198) rfl) rfl
theorem kw_605 : Cond.methodLink RX1 109 yX6_write ∈ lw_all := kt_3 (List.mem_of_getElem? (i := 199) (by decide +kernel)) rfl
theorem kw_606 : Cond.methodLink RX1 113 yX0_flagsOfProduct ∈ lw_all := kt_3 (List.mem_of_getElem? (i := 200) (by decide +kernel)) rfl
theorem kw_607 : Cond.methodLink RX1 60 yX1_swap ∈ lw_all := kt_3 (List.mem_of_getElem? (i := 203) (by decide +kernel)) rfl
theorem kw_608 : Cond.instanceMethod yX1_swap ∈ lw_all := kt_3 (List.mem_of_getElem? (i := 205) (by decide +kernel)) rfl
theorem kw_609 : Cond.selects RX1 yX1_swap yX1_swap ∈ lw_all := ks_2 (q := (⟨"TwoSetMachine$ArmSet", "swap", "(I)I"⟩, 4)) (List.mem_of_getElem? (i := 8) rfl)
theorem kw_610 : Cond.code yX1_swap cX1_swap 5 (some .int) ∈ lw_all := kt_3 (List.mem_of_getElem? (i := 206) rfl) rfl
theorem kw_611 : Cond.methodLink RX1 123 yX9_swap ∈ lw_all := kt_3 (List.mem_of_getElem? (i := 207) (by decide +kernel)) rfl
theorem kw_612 : Cond.instanceMethod yX9_swap ∈ lw_all := kt_3 (List.mem_of_getElem? (i := 208) (by decide +kernel)) rfl
theorem kw_613 : Cond.selects RX9 yX9_swap yX9_swap ∈ lw_all := kt_3 (List.mem_of_getElem? (i := 209) (by decide +kernel)) rfl
theorem kw_614 : Cond.code yX9_swap cX9_swap 7 (some .int) ∈ lw_all := kt_3 (List.mem_of_getElem? (i := 210) rfl) rfl
theorem kw_615 : Cond.methodLink RX1 63 yX1_halves ∈ lw_all := kt_3 (List.mem_of_getElem? (i := 211) (by decide +kernel)) rfl
theorem kw_616 : Cond.instanceMethod yX1_halves ∈ lw_all := kt_3 (List.mem_of_getElem? (i := 213) (by decide +kernel)) rfl
theorem kw_617 : Cond.selects RX1 yX1_halves yX1_halves ∈ lw_all := ks_2 (q := (⟨"TwoSetMachine$ArmSet", "halves", "(I)I"⟩, 4)) (List.mem_of_getElem? (i := 9) rfl)
theorem kw_618 : Cond.code yX1_halves cX1_halves 7 (some .int) ∈ lw_all := kt_3 (List.mem_of_getElem? (i := 214) rfl) rfl
theorem kw_619 : Cond.methodLink RX1 126 yX9_indexed ∈ lw_all := kt_3 (List.mem_of_getElem? (i := 215) (by decide +kernel)) rfl
theorem kw_620 : Cond.instanceMethod yX9_indexed ∈ lw_all := kt_3 (List.mem_of_getElem? (i := 216) (by decide +kernel)) rfl
theorem kw_621 : Cond.selects RX9 yX9_indexed yX9_indexed ∈ lw_all := kt_3 (List.mem_of_getElem? (i := 217) (by decide +kernel)) rfl
theorem kw_622 : Cond.code yX9_indexed cX9_indexed 12 (some .int) ∈ lw_all := kt_3 (List.mem_of_getElem? (i := 218) rfl) rfl
theorem kw_623 : Cond.methodLink RX9 46 yX6_readLate ∈ lw_all := kt_3 (List.mem_of_getElem? (i := 219) (by decide +kernel)) rfl
theorem kw_624 : Cond.instanceMethod yX6_readLate ∈ lw_all := kt_3 (List.mem_of_getElem? (i := 220) (by decide +kernel)) rfl
theorem kw_625 : Cond.selects RX6 yX6_readLate yX6_readLate ∈ lw_all := kt_3 (List.mem_of_getElem? (i := 221) (by decide +kernel)) rfl
theorem kw_626 : Cond.code yX6_readLate cX6_readLate 2 (some .int) ∈ lw_all := kt_3 (List.mem_of_getElem? (i := 222) rfl) rfl
theorem kw_627 : Cond.methodLink RX6 35 yX6_readLateIn ∈ lw_all := kt_3 (List.mem_of_getElem? (i := 223) (by decide +kernel)) rfl
theorem kw_628 : Cond.methodLink RX1 68 yX1_readStatus ∈ lw_all := kt_3 (List.mem_of_getElem? (i := 226) (by decide +kernel)) rfl
theorem kw_629 : Cond.instanceMethod yX1_readStatus ∈ lw_all := kt_3 (List.mem_of_getElem? (i := 228) (by decide +kernel)) rfl
theorem kw_630 : Cond.selects RX1 yX1_readStatus yX1_readStatus ∈ lw_all := ks_2 (q := (⟨"TwoSetMachine$ArmSet", "readStatus", "(I)I"⟩, 4)) (List.mem_of_getElem? (i := 10) rfl)
theorem kw_631 : Cond.code yX1_readStatus cX1_readStatus 3 (some .int) ∈ lw_all := kt_3 (List.mem_of_getElem? (i := 229) rfl) rfl
theorem kw_632 : Cond.methodLink RX1 130 yX6_spsrOrCpsr ∈ lw_all := kt_3 (List.mem_of_getElem? (i := 230) (by decide +kernel)) rfl
theorem kw_633 : Cond.methodLink RX1 134 yX6_cpsr ∈ lw_all := kt_3 (List.mem_of_getElem? (i := 231) (by decide +kernel)) rfl
theorem kw_634 : Cond.methodLink RX1 73 yX1_writeStatus ∈ lw_all := kt_3 (List.mem_of_getElem? (i := 234) (by decide +kernel)) rfl
theorem kw_635 : Cond.instanceMethod yX1_writeStatus ∈ lw_all := kt_3 (List.mem_of_getElem? (i := 236) (by decide +kernel)) rfl
theorem kw_636 : Cond.selects RX1 yX1_writeStatus yX1_writeStatus ∈ lw_all := ks_2 (q := (⟨"TwoSetMachine$ArmSet", "writeStatus", "(II)I"⟩, 4)) (List.mem_of_getElem? (i := 11) rfl)
theorem kw_637 : Cond.code yX1_writeStatus cX1_writeStatus 4 (some .int) ∈ lw_all := kt_3 (List.mem_of_getElem? (i := 237) rfl) rfl
theorem kw_638 : Cond.constant RX1 137 (-268435456) ∈ lw_all := kt_3 (List.mem_of_getElem? (i := 238) (by decide +kernel)) rfl
theorem kw_639 : Cond.methodLink RX1 138 yX6_mixIntoSpsr ∈ lw_all := kt_3 (List.mem_of_getElem? (i := 239) (by decide +kernel)) rfl
theorem kw_640 : Cond.instanceMethod yX6_mixIntoSpsr ∈ lw_all := kt_4 (List.mem_of_getElem? (i := 0) (by decide +kernel)) rfl
theorem kw_641 : Cond.selects RX6 yX6_mixIntoSpsr yX6_mixIntoSpsr ∈ lw_all := kt_4 (List.mem_of_getElem? (i := 1) (by decide +kernel)) rfl
theorem kw_642 : Cond.code yX6_mixIntoSpsr cX6_mixIntoSpsr 3 none ∈ lw_all := kt_4 (List.mem_of_getElem? (i := 2) rfl) rfl
theorem kw_643 : Cond.methodLink RX6 61 yX6_changeSpsr ∈ lw_all := kt_4 (List.mem_of_getElem? (i := 3) (by decide +kernel)) rfl
theorem kw_644 : Cond.methodLink RX1 141 yX6_mixIntoCpsr ∈ lw_all := kt_4 (List.mem_of_getElem? (i := 4) (by decide +kernel)) rfl
theorem kw_645 : Cond.instanceMethod yX6_mixIntoCpsr ∈ lw_all := kt_4 (List.mem_of_getElem? (i := 5) (by decide +kernel)) rfl
theorem kw_646 : Cond.selects RX6 yX6_mixIntoCpsr yX6_mixIntoCpsr ∈ lw_all := kt_4 (List.mem_of_getElem? (i := 6) (by decide +kernel)) rfl
theorem kw_647 : Cond.code yX6_mixIntoCpsr cX6_mixIntoCpsr 5 none ∈ lw_all := kt_4 (List.mem_of_getElem? (i := 7) rfl) rfl
theorem kw_648 : Cond.constant RX6 57 (-268435233) ∈ lw_all := kt_4 (List.mem_of_getElem? (i := 8) (by decide +kernel)) rfl
theorem kw_649 : Cond.methodLink RX6 58 yX6_changeCpsr ∈ lw_all := kt_4 (List.mem_of_getElem? (i := 9) (by decide +kernel)) rfl
theorem kw_650 : Cond.methodLink RX1 76 yX1_data ∈ lw_all := kt_4 (List.mem_of_getElem? (i := 10) (by decide +kernel)) rfl
theorem kw_651 : Cond.instanceMethod yX1_data ∈ lw_all := kt_4 (List.mem_of_getElem? (i := 12) (by decide +kernel)) rfl
theorem kw_652 : Cond.selects RX1 yX1_data yX1_data ∈ lw_all := ks_2 (q := (⟨"TwoSetMachine$ArmSet", "data", "(I)I"⟩, 4)) (List.mem_of_getElem? (i := 12) rfl)
theorem kw_653 : Cond.code yX1_data cX1_data 11 (some .int) ∈ lw_all := kt_4 (List.mem_of_getElem? (i := 13) rfl) rfl
theorem kw_654 : Cond.constant RX1 147 (33554448) ∈ lw_all := kt_4 (List.mem_of_getElem? (i := 15) (by decide +kernel)) rfl
theorem kw_655 : Cond.methodLink RX1 144 yX0_isTest ∈ lw_all := kt_4 (List.mem_of_getElem? (i := 14) (by decide +kernel)) rfl
theorem kw_656 : Cond.methodLink RX1 148 yX6_carry ∈ lw_all := kt_4 (List.mem_of_getElem? (i := 16) (by decide +kernel)) rfl
theorem kw_657 : Cond.methodLink RX1 81 yX7_turnedNumber ∈ lw_all := kt_4 (List.mem_of_getElem? (i := 17) (by decide +kernel)) rfl
theorem kw_658 : Cond.instanceMethod yX7_turnedNumber ∈ lw_all := kt_4 (List.mem_of_getElem? (i := 18) (by decide +kernel)) rfl
theorem kw_659 : Cond.selects RX7 yX7_turnedNumber yX7_turnedNumber ∈ lw_all := kt_4 (List.mem_of_getElem? (i := 19) (by decide +kernel)) rfl
theorem kw_660 : Cond.code yX7_turnedNumber cX7_turnedNumber 3 (some .int) ∈ lw_all := kt_4 (List.mem_of_getElem? (i := 20) rfl) rfl
theorem kw_661 : Cond.methodLink RX7 21 yX2_four ∈ lw_all := kt_4 (List.mem_of_getElem? (i := 21) (by decide +kernel)) rfl
theorem kw_662 : Cond.methodLink RX1 151 yX1_shiftedByRegister ∈ lw_all := kt_4 (List.mem_of_getElem? (i := 22) (by decide +kernel)) rfl
theorem kw_663 : Cond.instanceMethod yX1_shiftedByRegister ∈ lw_all := kt_4 (List.mem_of_getElem? (i := 24) (by decide +kernel)) rfl
theorem kw_664 : Cond.selects RX1 yX1_shiftedByRegister yX1_shiftedByRegister ∈ lw_all := ks_2 (q := (⟨"TwoSetMachine$ArmSet", "shiftedByRegister", "(I)I"⟩, 4)) (List.mem_of_getElem? (i := 13) rfl)
theorem kw_665 : Cond.code yX1_shiftedByRegister cX1_shiftedByRegister 4 (some .int) ∈ lw_all := kt_4 (List.mem_of_getElem? (i := 25) rfl) rfl
theorem kw_666 : Cond.methodLink RX1 157 yX6_readLate ∈ lw_all := kt_4 (List.mem_of_getElem? (i := 26) (by decide +kernel)) rfl
theorem kw_667 : Cond.methodLink RX1 173 yX7_shift ∈ lw_all := kt_4 (List.mem_of_getElem? (i := 27) (by decide +kernel)) rfl
theorem kw_668 : Cond.methodLink RX1 154 yX1_shiftedByNumber ∈ lw_all := kt_4 (List.mem_of_getElem? (i := 28) (by decide +kernel)) rfl
theorem kw_669 : Cond.instanceMethod yX1_shiftedByNumber ∈ lw_all := kt_4 (List.mem_of_getElem? (i := 30) (by decide +kernel)) rfl
theorem kw_670 : Cond.selects RX1 yX1_shiftedByNumber yX1_shiftedByNumber ∈ lw_all := ks_2 (q := (⟨"TwoSetMachine$ArmSet", "shiftedByNumber", "(I)I"⟩, 4)) (List.mem_of_getElem? (i := 14) rfl)
theorem kw_671 : Cond.code yX1_shiftedByNumber cX1_shiftedByNumber 4 (some .int) ∈ lw_all := kt_4 (List.mem_of_getElem? (i := 31) rfl) rfl
theorem kw_672 : Cond.methodLink RX1 176 yX2_five ∈ lw_all := kt_4 (List.mem_of_getElem? (i := 32) (by decide +kernel)) rfl
theorem kw_673 : Cond.methodLink RX1 179 yX7_shiftByNumber ∈ lw_all := kt_4 (List.mem_of_getElem? (i := 33) (by decide +kernel)) rfl
theorem kw_674 : Cond.methodLink RX1 160 yX7_carry ∈ lw_all := kt_4 (List.mem_of_getElem? (i := 34) (by decide +kernel)) rfl
theorem kw_675 : Cond.methodLink RX1 161 yX0_compute ∈ lw_all := kt_4 (List.mem_of_getElem? (i := 35) (by decide +kernel)) rfl
theorem kw_676 : Cond.methodLink RX1 164 yX0_flags ∈ lw_all := kt_4 (List.mem_of_getElem? (i := 36) (by decide +kernel)) rfl
theorem kw_677 : Cond.methodLink RX1 167 yX6_changeFlags ∈ lw_all := kt_4 (List.mem_of_getElem? (i := 37) (by decide +kernel)) rfl
theorem kw_678 : Cond.methodLink RX1 170 yX6_changeCpsr ∈ lw_all := kt_4 (List.mem_of_getElem? (i := 38) (by decide +kernel)) rfl
theorem kw_679 : Cond.methodLink RX1 86 yX1_transfer ∈ lw_all := kt_4 (List.mem_of_getElem? (i := 41) (by decide +kernel)) rfl
theorem kw_680 : Cond.instanceMethod yX1_transfer ∈ lw_all := kt_4 (List.mem_of_getElem? (i := 43) (by decide +kernel)) rfl
theorem kw_681 : Cond.selects RX1 yX1_transfer yX1_transfer ∈ lw_all := ks_2 (q := (⟨"TwoSetMachine$ArmSet", "transfer", "(I)I"⟩, 4)) (List.mem_of_getElem? (i := 15) rfl)
theorem kw_682 : Cond.code yX1_transfer cX1_transfer 5 (some .int) ∈ lw_all := kt_4 (List.mem_of_getElem? (i := 44) rfl) rfl
theorem kw_683 : Cond.methodLink RX1 89 yX9_many ∈ lw_all := kt_4 (List.mem_of_getElem? (i := 45) (by decide +kernel)) rfl
theorem kw_684 : Cond.methodLink RX1 94 yX1_branch ∈ lw_all := kt_4 (List.mem_of_getElem? (i := 46) (by decide +kernel)) rfl
theorem kw_685 : Cond.instanceMethod yX1_branch ∈ lw_all := kt_4 (List.mem_of_getElem? (i := 48) (by decide +kernel)) rfl
theorem kw_686 : Cond.selects RX1 yX1_branch yX1_branch ∈ lw_all := ks_3 (q := (⟨"TwoSetMachine$ArmSet", "branch", "(I)I"⟩, 4)) (List.mem_of_getElem? (i := 0) rfl)
theorem kw_687 : Cond.code yX1_branch cX1_branch 2 (some .int) ∈ lw_all := kt_4 (List.mem_of_getElem? (i := 49) rfl) rfl
theorem kw_688 : Cond.methodLink RX1 182 yX6_behind ∈ lw_all := kt_4 (List.mem_of_getElem? (i := 50) (by decide +kernel)) rfl
theorem kw_689 : Cond.methodLink RX1 185 yX6_jump ∈ lw_all := kt_4 (List.mem_of_getElem? (i := 51) (by decide +kernel)) rfl
theorem kw_690 : Cond.methodLink RX10 101 yX5_take ∈ lw_all := kt_4 (List.mem_of_getElem? (i := 52) (by decide +kernel)) rfl
theorem kw_691 : Cond.instanceMethod yX5_take ∈ lw_all := kt_4 (List.mem_of_getElem? (i := 53) (by decide +kernel)) rfl
theorem kw_692 : Cond.selects RX5 yX5_take yX5_take ∈ lw_all := kt_4 (List.mem_of_getElem? (i := 54) (by decide +kernel)) rfl
theorem kw_693 : Cond.code yX5_take cX5_take 2 none ∈ lw_all := kt_4 (List.mem_of_getElem? (i := 55) rfl) rfl
theorem kw_694 : Cond.methodLink RX5 63 yX3_isKind ∈ lw_all := kt_4 (List.mem_of_getElem? (i := 56) (by decide +kernel)) rfl
theorem kw_695 : Cond.static yX3_isKind ∈ lw_all := kt_4 (List.mem_of_getElem? (i := 57) (by decide +kernel)) rfl
theorem kw_696 : Cond.initialized RX3 ∈ lw_all := kt_1 (List.mem_of_getElem? (i := 18) (by decide +kernel)) rfl
theorem kw_697 : Cond.code yX3_isKind cX3_isKind 1 (some .boolean) ∈ lw_all := kt_4 (List.mem_of_getElem? (i := 58) rfl) rfl
theorem kw_698 : Cond.methodLink RX5 101 yX6_enter ∈ lw_all := kt_4 (List.mem_of_getElem? (i := 59) (by decide +kernel)) rfl
theorem kw_699 : Cond.instanceMethod yX6_enter ∈ lw_all := kt_4 (List.mem_of_getElem? (i := 60) (by decide +kernel)) rfl
theorem kw_700 : Cond.selects RX6 yX6_enter yX6_enter ∈ lw_all := kt_4 (List.mem_of_getElem? (i := 61) (by decide +kernel)) rfl
theorem kw_701 : Cond.code yX6_enter cX6_enter 5 none ∈ lw_all := kt_4 (List.mem_of_getElem? (i := 62) rfl) rfl
theorem kw_702 : Cond.methodLink RX6 72 yX6_linkOf ∈ lw_all := kt_4 (List.mem_of_getElem? (i := 63) (by decide +kernel)) rfl
theorem kw_703 : Cond.instanceMethod yX6_linkOf ∈ lw_all := kt_4 (List.mem_of_getElem? (i := 65) (by decide +kernel)) rfl
theorem kw_704 : Cond.selects RX6 yX6_linkOf yX6_linkOf ∈ lw_all := ks_3 (q := (⟨"TwoSetMachine$Registers", "linkOf", "(I)I"⟩, 5)) (List.mem_of_getElem? (i := 1) rfl)
theorem kw_705 : Cond.code yX6_linkOf cX6_linkOf 2 (some .int) ∈ lw_all := kt_4 (List.mem_of_getElem? (i := 66) rfl) rfl
theorem kw_706 : Cond.methodLink RX6 77 yX3_modeOf ∈ lw_all := kt_4 (List.mem_of_getElem? (i := 67) (by decide +kernel)) rfl
theorem kw_707 : Cond.static yX3_modeOf ∈ lw_all := kt_4 (List.mem_of_getElem? (i := 68) (by decide +kernel)) rfl
theorem kw_708 : Cond.code yX3_modeOf cX3_modeOf 1 (some .int) ∈ lw_all := kt_4 (List.mem_of_getElem? (i := 69) rfl) rfl
theorem kw_709 : Cond.fieldLink RX3 13 "TwoSetMachine$Fault" "MODES" "[I" ∈ lw_all := kt_4 (List.mem_of_getElem? (i := 71) (by decide +kernel)) rfl
theorem kw_710 : Cond.methodLink RX3 9 yX3_isKind ∈ lw_all := kt_4 (List.mem_of_getElem? (i := 70) (by decide +kernel)) rfl
theorem kw_711 : Cond.methodLink RX6 80 yX6_write ∈ lw_all := kt_4 (List.mem_of_getElem? (i := 73) (by decide +kernel)) rfl
theorem kw_712 : Cond.methodLink RX6 83 yX3_vectorOf ∈ lw_all := kt_4 (List.mem_of_getElem? (i := 74) (by decide +kernel)) rfl
theorem kw_713 : Cond.static yX3_vectorOf ∈ lw_all := kt_4 (List.mem_of_getElem? (i := 75) (by decide +kernel)) rfl
theorem kw_714 : Cond.code yX3_vectorOf cX3_vectorOf 1 (some .int) ∈ lw_all := kt_4 (List.mem_of_getElem? (i := 76) rfl) rfl
theorem kw_715 : Cond.fieldLink RX3 17 "TwoSetMachine$Fault" "VECTORS" "[I" ∈ lw_all := kt_4 (List.mem_of_getElem? (i := 77) (by decide +kernel)) rfl
theorem kw_716 : Cond.methodLink RL 79 yX11_step ∈ lw_all := kt_4 (List.mem_of_getElem? (i := 209) (by decide +kernel)) rfl
theorem kw_717 : Cond.instanceMethod yX11_step ∈ lw_all := kt_4 (List.mem_of_getElem? (i := 210) (by decide +kernel)) rfl
theorem kw_718 : Cond.selects RX11 yX11_step yX11_step ∈ lw_all := kt_4 (List.mem_of_getElem? (i := 211) (by decide +kernel)) rfl
theorem kw_719 : Cond.code yX11_step cX11_step 4 (some .int) ∈ lw_all := kt_4 (List.mem_of_getElem? (i := 212) rfl) rfl
theorem kw_720 : Cond.methodLink RX11 118 yX11_go ∈ lw_all := kt_4 (List.mem_of_getElem? (i := 213) (by decide +kernel)) rfl
theorem kw_721 : Cond.instanceMethod yX11_go ∈ lw_all := kt_4 (List.mem_of_getElem? (i := 215) (by decide +kernel)) rfl
theorem kw_722 : Cond.selects RX11 yX11_go yX11_go ∈ lw_all := ks_3 (q := (⟨"TwoSetMachineModel", "go", "()Z"⟩, 14)) (List.mem_of_getElem? (i := 7) rfl)
theorem kw_723 : Cond.code yX11_go cX11_go 1 (some .boolean) ∈ lw_all := kt_4 (List.mem_of_getElem? (i := 216) rfl) rfl
theorem kw_724 : Cond.fieldLink RX11 89 "TwoSetMachineModel" "steps" "I" ∈ lw_all := kt_4 (List.mem_of_getElem? (i := 108) (by decide +kernel)) rfl
theorem kw_725 : Cond.fieldLink RX11 100 "TwoSetMachineModel" "length" "I" ∈ lw_all := kt_4 (List.mem_of_getElem? (i := 111) (by decide +kernel)) rfl
theorem kw_726 : Cond.fieldLink RX11 46 "TwoSetMachineModel" "here" "I" ∈ lw_all := kt_4 (List.mem_of_getElem? (i := 110) (by decide +kernel)) rfl
theorem kw_727 : Cond.fieldLink RX11 103 "TwoSetMachineModel" "fault" "I" ∈ lw_all := kt_4 (List.mem_of_getElem? (i := 112) (by decide +kernel)) rfl
theorem kw_728 : Cond.fieldLink RX11 62 "TwoSetMachineModel" "jumps" "Z" ∈ lw_all := kt_4 (List.mem_of_getElem? (i := 113) (by decide +kernel)) rfl
theorem kw_729 : Cond.methodLink RX11 92 yX11_is ∈ lw_all := kt_4 (List.mem_of_getElem? (i := 217) (by decide +kernel)) rfl
theorem kw_730 : Cond.instanceMethod yX11_is ∈ lw_all := kt_4 (List.mem_of_getElem? (i := 219) (by decide +kernel)) rfl
theorem kw_731 : Cond.selects RX11 yX11_is yX11_is ∈ lw_all := ks_3 (q := (⟨"TwoSetMachineModel", "is", "(I)Z"⟩, 14)) (List.mem_of_getElem? (i := 8) rfl)
theorem kw_732 : Cond.code yX11_is cX11_is 2 (some .boolean) ∈ lw_all := kt_4 (List.mem_of_getElem? (i := 220) rfl) rfl
theorem kw_733 : Cond.methodLink RX11 96 yX11_enter ∈ lw_all := kt_4 (List.mem_of_getElem? (i := 221) (by decide +kernel)) rfl
theorem kw_734 : Cond.instanceMethod yX11_enter ∈ lw_all := kt_4 (List.mem_of_getElem? (i := 223) (by decide +kernel)) rfl
theorem kw_735 : Cond.selects RX11 yX11_enter yX11_enter ∈ lw_all := ks_3 (q := (⟨"TwoSetMachineModel", "enter", "(II)V"⟩, 14)) (List.mem_of_getElem? (i := 9) rfl)
theorem kw_736 : Cond.code yX11_enter cX11_enter 5 none ∈ lw_all := kt_4 (List.mem_of_getElem? (i := 224) rfl) rfl
theorem kw_737 : Cond.methodLink RX11 106 yX11_isThere ∈ lw_all := kt_4 (List.mem_of_getElem? (i := 225) (by decide +kernel)) rfl
theorem kw_738 : Cond.static yX11_isThere ∈ lw_all := kt_4 (List.mem_of_getElem? (i := 226) (by decide +kernel)) rfl
theorem kw_739 : Cond.code yX11_isThere cX11_isThere 1 (some .boolean) ∈ lw_all := kt_4 (List.mem_of_getElem? (i := 227) rfl) rfl
theorem kw_740 : Cond.methodLink RX11 109 yX11_halfAt ∈ lw_all := kt_4 (List.mem_of_getElem? (i := 228) (by decide +kernel)) rfl
theorem kw_741 : Cond.instanceMethod yX11_halfAt ∈ lw_all := kt_4 (List.mem_of_getElem? (i := 230) (by decide +kernel)) rfl
theorem kw_742 : Cond.selects RX11 yX11_halfAt yX11_halfAt ∈ lw_all := ks_3 (q := (⟨"TwoSetMachineModel", "halfAt", "(I)I"⟩, 14)) (List.mem_of_getElem? (i := 10) rfl)
theorem kw_743 : Cond.code yX11_halfAt cX11_halfAt 2 (some .int) ∈ lw_all := kt_4 (List.mem_of_getElem? (i := 231) rfl) rfl
theorem kw_744 : Cond.constant RX11 121 (65535) ∈ lw_all := kt_4 (List.mem_of_getElem? (i := 232) (by decide +kernel)) rfl
theorem kw_745 : Cond.methodLink RX11 112 yX11_thumb ∈ lw_all := kt_4 (List.mem_of_getElem? (i := 233) (by decide +kernel)) rfl
theorem kw_746 : Cond.instanceMethod yX11_thumb ∈ lw_all := kt_4 (List.mem_of_getElem? (i := 235) (by decide +kernel)) rfl
theorem kw_747 : Cond.selects RX11 yX11_thumb yX11_thumb ∈ lw_all := ks_3 (q := (⟨"TwoSetMachineModel", "thumb", "(I)V"⟩, 14)) (List.mem_of_getElem? (i := 11) rfl)
theorem kw_748 : Cond.code yX11_thumb cX11_thumb 10 none ∈ lw_all := kt_4 (List.mem_of_getElem? (i := 236) rfl) rfl
theorem kw_749 : Cond.methodLink RX11 245 yX11_early ∈ lw_all := kt_4 (List.mem_of_getElem? (i := 237) (by decide +kernel)) rfl
theorem kw_750 : Cond.instanceMethod yX11_early ∈ lw_all := kt_4 (List.mem_of_getElem? (i := 239) (by decide +kernel)) rfl
theorem kw_751 : Cond.selects RX11 yX11_early yX11_early ∈ lw_all := ks_3 (q := (⟨"TwoSetMachineModel", "early", "(IIIII)V"⟩, 14)) (List.mem_of_getElem? (i := 12) rfl)
theorem kw_752 : Cond.code yX11_early cX11_early 8 none ∈ lw_all := kt_5 (List.mem_of_getElem? (i := 0) rfl) rfl
theorem kw_753 : Cond.methodLink RX11 49 yX11_at ∈ lw_all := kt_5 (List.mem_of_getElem? (i := 1) (by decide +kernel)) rfl
theorem kw_754 : Cond.instanceMethod yX11_at ∈ lw_all := kt_5 (List.mem_of_getElem? (i := 3) (by decide +kernel)) rfl
theorem kw_755 : Cond.selects RX11 yX11_at yX11_at ∈ lw_all := ks_3 (q := (⟨"TwoSetMachineModel", "at", "(I)I"⟩, 14)) (List.mem_of_getElem? (i := 13) rfl)
theorem kw_756 : Cond.code yX11_at cX11_at 2 (some .int) ∈ lw_all := kt_5 (List.mem_of_getElem? (i := 4) rfl) rfl
theorem kw_757 : Cond.methodLink RX11 178 yX11_shiftBy ∈ lw_all := kt_5 (List.mem_of_getElem? (i := 5) (by decide +kernel)) rfl
theorem kw_758 : Cond.instanceMethod yX11_shiftBy ∈ lw_all := kt_5 (List.mem_of_getElem? (i := 7) (by decide +kernel)) rfl
theorem kw_759 : Cond.selects RX11 yX11_shiftBy yX11_shiftBy ∈ lw_all := ks_3 (q := (⟨"TwoSetMachineModel", "shiftBy", "(III)I"⟩, 14)) (List.mem_of_getElem? (i := 14) rfl)
theorem kw_760 : Cond.code yX11_shiftBy cX11_shiftBy 5 (some .int) ∈ lw_all := kt_5 (List.mem_of_getElem? (i := 8) rfl) rfl
theorem kw_761 : Cond.constant RX11 71 (-2147483648) ∈ lw_all := kt_5 (List.mem_of_getElem? (i := 13) (by decide +kernel)) rfl
theorem kw_762 : Cond.fieldLink RX11 138 "TwoSetMachineModel" "carry" "Z" ∈ lw_all := kt_4 (List.mem_of_getElem? (i := 114) (by decide +kernel)) rfl
theorem kw_763 : Cond.methodLink RX11 141 yX11_shift ∈ lw_all := kt_5 (List.mem_of_getElem? (i := 9) (by decide +kernel)) rfl
theorem kw_764 : Cond.instanceMethod yX11_shift ∈ lw_all := kt_5 (List.mem_of_getElem? (i := 11) (by decide +kernel)) rfl
theorem kw_765 : Cond.selects RX11 yX11_shift yX11_shift ∈ lw_all := ks_3 (q := (⟨"TwoSetMachineModel", "shift", "(III)I"⟩, 14)) (List.mem_of_getElem? (i := 15) rfl)
theorem kw_766 : Cond.code yX11_shift cX11_shift 7 (some .int) ∈ lw_all := kt_5 (List.mem_of_getElem? (i := 12) rfl) rfl
theorem kw_767 : Cond.methodLink RX11 184 yX11_finish ∈ lw_all := kt_5 (List.mem_of_getElem? (i := 14) (by decide +kernel)) rfl
theorem kw_768 : Cond.instanceMethod yX11_finish ∈ lw_all := kt_5 (List.mem_of_getElem? (i := 16) (by decide +kernel)) rfl
theorem kw_769 : Cond.selects RX11 yX11_finish yX11_finish ∈ lw_all := ks_4 (q := (⟨"TwoSetMachineModel", "finish", "(IIIIZ)V"⟩, 14)) (List.mem_of_getElem? (i := 0) rfl)
theorem kw_770 : Cond.code yX11_finish cX11_finish 7 none ∈ lw_all := kt_5 (List.mem_of_getElem? (i := 17) rfl) rfl
theorem kw_771 : Cond.fieldLink RX11 147 "TwoSetMachineModel" "over" "Z" ∈ lw_all := kt_4 (List.mem_of_getElem? (i := 115) (by decide +kernel)) rfl
theorem kw_772 : Cond.methodLink RX11 156 yX11_operate ∈ lw_all := kt_5 (List.mem_of_getElem? (i := 18) (by decide +kernel)) rfl
theorem kw_773 : Cond.instanceMethod yX11_operate ∈ lw_all := kt_5 (List.mem_of_getElem? (i := 20) (by decide +kernel)) rfl
theorem kw_774 : Cond.selects RX11 yX11_operate yX11_operate ∈ lw_all := ks_4 (q := (⟨"TwoSetMachineModel", "operate", "(III)I"⟩, 14)) (List.mem_of_getElem? (i := 1) rfl)
theorem kw_775 : Cond.code yX11_operate cX11_operate 4 (some .int) ∈ lw_all := kt_5 (List.mem_of_getElem? (i := 21) rfl) rfl
theorem kw_776 : Cond.methodLink RX11 150 yX11_sum ∈ lw_all := kt_5 (List.mem_of_getElem? (i := 22) (by decide +kernel)) rfl
theorem kw_777 : Cond.instanceMethod yX11_sum ∈ lw_all := kt_5 (List.mem_of_getElem? (i := 24) (by decide +kernel)) rfl
theorem kw_778 : Cond.selects RX11 yX11_sum yX11_sum ∈ lw_all := ks_4 (q := (⟨"TwoSetMachineModel", "sum", "(III)I"⟩, 14)) (List.mem_of_getElem? (i := 2) rfl)
theorem kw_779 : Cond.code yX11_sum cX11_sum 8 (some .int) ∈ lw_all := kt_5 (List.mem_of_getElem? (i := 25) rfl) rfl
theorem kw_780 : Cond.constantLong RX11 145 (4294967295) ∈ lw_all := kt_5 (List.mem_of_getElem? (i := 26) (by decide +kernel)) rfl
theorem kw_781 : Cond.methodLink RX11 153 yX11_carryIn ∈ lw_all := kt_5 (List.mem_of_getElem? (i := 27) (by decide +kernel)) rfl
theorem kw_782 : Cond.instanceMethod yX11_carryIn ∈ lw_all := kt_5 (List.mem_of_getElem? (i := 29) (by decide +kernel)) rfl
theorem kw_783 : Cond.selects RX11 yX11_carryIn yX11_carryIn ∈ lw_all := ks_4 (q := (⟨"TwoSetMachineModel", "carryIn", "()I"⟩, 14)) (List.mem_of_getElem? (i := 3) rfl)
theorem kw_784 : Cond.code yX11_carryIn cX11_carryIn 1 (some .int) ∈ lw_all := kt_5 (List.mem_of_getElem? (i := 30) rfl) rfl
theorem kw_785 : Cond.methodLink RX11 159 yX11_setFlags ∈ lw_all := kt_5 (List.mem_of_getElem? (i := 31) (by decide +kernel)) rfl
theorem kw_786 : Cond.instanceMethod yX11_setFlags ∈ lw_all := kt_5 (List.mem_of_getElem? (i := 33) (by decide +kernel)) rfl
theorem kw_787 : Cond.selects RX11 yX11_setFlags yX11_setFlags ∈ lw_all := ks_4 (q := (⟨"TwoSetMachineModel", "setFlags", "(I)V"⟩, 14)) (List.mem_of_getElem? (i := 4) rfl)
theorem kw_788 : Cond.code yX11_setFlags cX11_setFlags 2 none ∈ lw_all := kt_5 (List.mem_of_getElem? (i := 34) rfl) rfl
theorem kw_789 : Cond.constant RX11 70 (1073741823) ∈ lw_all := kt_5 (List.mem_of_getElem? (i := 35) (by decide +kernel)) rfl
theorem kw_790 : Cond.constant RX11 72 (1073741824) ∈ lw_all := kt_5 (List.mem_of_getElem? (i := 36) (by decide +kernel)) rfl
theorem kw_791 : Cond.methodLink RX11 162 yX11_setCarry ∈ lw_all := kt_5 (List.mem_of_getElem? (i := 37) (by decide +kernel)) rfl
theorem kw_792 : Cond.instanceMethod yX11_setCarry ∈ lw_all := kt_5 (List.mem_of_getElem? (i := 39) (by decide +kernel)) rfl
theorem kw_793 : Cond.selects RX11 yX11_setCarry yX11_setCarry ∈ lw_all := ks_4 (q := (⟨"TwoSetMachineModel", "setCarry", "(Z)V"⟩, 14)) (List.mem_of_getElem? (i := 5) rfl)
theorem kw_794 : Cond.code yX11_setCarry cX11_setCarry 2 none ∈ lw_all := kt_5 (List.mem_of_getElem? (i := 40) rfl) rfl
theorem kw_795 : Cond.constant RX11 73 (-536870913) ∈ lw_all := kt_5 (List.mem_of_getElem? (i := 41) (by decide +kernel)) rfl
theorem kw_796 : Cond.constant RX11 74 (536870912) ∈ lw_all := kt_5 (List.mem_of_getElem? (i := 42) (by decide +kernel)) rfl
theorem kw_797 : Cond.methodLink RX11 166 yX11_isSum ∈ lw_all := kt_5 (List.mem_of_getElem? (i := 43) (by decide +kernel)) rfl
theorem kw_798 : Cond.static yX11_isSum ∈ lw_all := kt_5 (List.mem_of_getElem? (i := 44) (by decide +kernel)) rfl
theorem kw_799 : Cond.code yX11_isSum cX11_isSum 1 (some .boolean) ∈ lw_all := kt_5 (List.mem_of_getElem? (i := 45) rfl) rfl
theorem kw_800 : Cond.methodLink RX11 169 yX11_setOver ∈ lw_all := kt_5 (List.mem_of_getElem? (i := 46) (by decide +kernel)) rfl
theorem kw_801 : Cond.instanceMethod yX11_setOver ∈ lw_all := kt_5 (List.mem_of_getElem? (i := 48) (by decide +kernel)) rfl
theorem kw_802 : Cond.selects RX11 yX11_setOver yX11_setOver ∈ lw_all := ks_4 (q := (⟨"TwoSetMachineModel", "setOver", "(Z)V"⟩, 14)) (List.mem_of_getElem? (i := 6) rfl)
theorem kw_803 : Cond.code yX11_setOver cX11_setOver 2 none ∈ lw_all := kt_5 (List.mem_of_getElem? (i := 49) rfl) rfl
theorem kw_804 : Cond.constant RX11 75 (-268435457) ∈ lw_all := kt_5 (List.mem_of_getElem? (i := 50) (by decide +kernel)) rfl
theorem kw_805 : Cond.constant RX11 76 (268435456) ∈ lw_all := kt_5 (List.mem_of_getElem? (i := 51) (by decide +kernel)) rfl
theorem kw_806 : Cond.methodLink RX11 135 yX11_put ∈ lw_all := kt_5 (List.mem_of_getElem? (i := 52) (by decide +kernel)) rfl
theorem kw_807 : Cond.instanceMethod yX11_put ∈ lw_all := kt_5 (List.mem_of_getElem? (i := 54) (by decide +kernel)) rfl
theorem kw_808 : Cond.selects RX11 yX11_put yX11_put ∈ lw_all := ks_4 (q := (⟨"TwoSetMachineModel", "put", "(II)V"⟩, 14)) (List.mem_of_getElem? (i := 7) rfl)
theorem kw_809 : Cond.code yX11_put cX11_put 3 none ∈ lw_all := kt_5 (List.mem_of_getElem? (i := 55) rfl) rfl
theorem kw_810 : Cond.methodLink RX11 249 yX11_numbers ∈ lw_all := kt_5 (List.mem_of_getElem? (i := 56) (by decide +kernel)) rfl
theorem kw_811 : Cond.instanceMethod yX11_numbers ∈ lw_all := kt_5 (List.mem_of_getElem? (i := 58) (by decide +kernel)) rfl
theorem kw_812 : Cond.selects RX11 yX11_numbers yX11_numbers ∈ lw_all := ks_4 (q := (⟨"TwoSetMachineModel", "numbers", "(III)V"⟩, 14)) (List.mem_of_getElem? (i := 8) rfl)
theorem kw_813 : Cond.code yX11_numbers cX11_numbers 4 none ∈ lw_all := kt_5 (List.mem_of_getElem? (i := 59) rfl) rfl
theorem kw_814 : Cond.methodLink RX11 252 yX11_operations ∈ lw_all := kt_5 (List.mem_of_getElem? (i := 60) (by decide +kernel)) rfl
theorem kw_815 : Cond.instanceMethod yX11_operations ∈ lw_all := kt_5 (List.mem_of_getElem? (i := 62) (by decide +kernel)) rfl
theorem kw_816 : Cond.selects RX11 yX11_operations yX11_operations ∈ lw_all := ks_4 (q := (⟨"TwoSetMachineModel", "operations", "(III)V"⟩, 14)) (List.mem_of_getElem? (i := 9) rfl)
theorem kw_817 : Cond.code yX11_operations cX11_operations 6 none ∈ lw_all := kt_5 (List.mem_of_getElem? (i := 63) rfl) rfl
theorem kw_818 : Cond.methodLink RX11 255 yX11_highOnes ∈ lw_all := kt_5 (List.mem_of_getElem? (i := 64) (by decide +kernel)) rfl
theorem kw_819 : Cond.instanceMethod yX11_highOnes ∈ lw_all := kt_5 (List.mem_of_getElem? (i := 66) (by decide +kernel)) rfl
theorem kw_820 : Cond.selects RX11 yX11_highOnes yX11_highOnes ∈ lw_all := ks_4 (q := (⟨"TwoSetMachineModel", "highOnes", "(I)V"⟩, 14)) (List.mem_of_getElem? (i := 10) rfl)
theorem kw_821 : Cond.code yX11_highOnes cX11_highOnes 5 none ∈ lw_all := kt_5 (List.mem_of_getElem? (i := 67) rfl) rfl
theorem kw_822 : Cond.methodLink RX11 172 yX11_undefined ∈ lw_all := kt_5 (List.mem_of_getElem? (i := 68) (by decide +kernel)) rfl
theorem kw_823 : Cond.instanceMethod yX11_undefined ∈ lw_all := kt_5 (List.mem_of_getElem? (i := 70) (by decide +kernel)) rfl
theorem kw_824 : Cond.selects RX11 yX11_undefined yX11_undefined ∈ lw_all := ks_4 (q := (⟨"TwoSetMachineModel", "undefined", "()V"⟩, 14)) (List.mem_of_getElem? (i := 11) rfl)
theorem kw_825 : Cond.code yX11_undefined cX11_undefined 1 none ∈ lw_all := kt_5 (List.mem_of_getElem? (i := 71) rfl) rfl
theorem kw_826 : Cond.methodLink RX11 193 yX11_value ∈ lw_all := kt_5 (List.mem_of_getElem? (i := 72) (by decide +kernel)) rfl
theorem kw_827 : Cond.instanceMethod yX11_value ∈ lw_all := kt_5 (List.mem_of_getElem? (i := 74) (by decide +kernel)) rfl
theorem kw_828 : Cond.selects RX11 yX11_value yX11_value ∈ lw_all := ks_4 (q := (⟨"TwoSetMachineModel", "value", "(I)I"⟩, 14)) (List.mem_of_getElem? (i := 12) rfl)
theorem kw_829 : Cond.code yX11_value cX11_value 2 (some .int) ∈ lw_all := kt_5 (List.mem_of_getElem? (i := 75) rfl) rfl
theorem kw_830 : Cond.methodLink RX11 56 yX11_operand ∈ lw_all := kt_5 (List.mem_of_getElem? (i := 76) (by decide +kernel)) rfl
theorem kw_831 : Cond.instanceMethod yX11_operand ∈ lw_all := kt_5 (List.mem_of_getElem? (i := 78) (by decide +kernel)) rfl
theorem kw_832 : Cond.selects RX11 yX11_operand yX11_operand ∈ lw_all := ks_4 (q := (⟨"TwoSetMachineModel", "operand", "(II)I"⟩, 14)) (List.mem_of_getElem? (i := 13) rfl)
theorem kw_833 : Cond.code yX11_operand cX11_operand 3 (some .int) ∈ lw_all := kt_5 (List.mem_of_getElem? (i := 79) rfl) rfl
theorem kw_834 : Cond.methodLink RX11 196 yX11_exchange ∈ lw_all := kt_5 (List.mem_of_getElem? (i := 80) (by decide +kernel)) rfl
theorem kw_835 : Cond.instanceMethod yX11_exchange ∈ lw_all := kt_5 (List.mem_of_getElem? (i := 82) (by decide +kernel)) rfl
theorem kw_836 : Cond.selects RX11 yX11_exchange yX11_exchange ∈ lw_all := ks_4 (q := (⟨"TwoSetMachineModel", "exchange", "(I)V"⟩, 14)) (List.mem_of_getElem? (i := 14) rfl)
theorem kw_837 : Cond.code yX11_exchange cX11_exchange 2 none ∈ lw_all := kt_5 (List.mem_of_getElem? (i := 83) rfl) rfl
theorem kw_838 : Cond.methodLink RX11 227 yX11_transfer ∈ lw_all := kt_5 (List.mem_of_getElem? (i := 84) (by decide +kernel)) rfl
theorem kw_839 : Cond.instanceMethod yX11_transfer ∈ lw_all := kt_5 (List.mem_of_getElem? (i := 86) (by decide +kernel)) rfl
theorem kw_840 : Cond.selects RX11 yX11_transfer yX11_transfer ∈ lw_all := ks_4 (q := (⟨"TwoSetMachineModel", "transfer", "(ZIIIII)V"⟩, 14)) (List.mem_of_getElem? (i := 15) rfl)
theorem kw_841 : Cond.code yX11_transfer cX11_transfer 8 none ∈ lw_all := kt_5 (List.mem_of_getElem? (i := 87) rfl) rfl
theorem kw_842 : Cond.methodLink RX11 128 yX11_loaded ∈ lw_all := kt_5 (List.mem_of_getElem? (i := 88) (by decide +kernel)) rfl
theorem kw_843 : Cond.instanceMethod yX11_loaded ∈ lw_all := kt_5 (List.mem_of_getElem? (i := 90) (by decide +kernel)) rfl
theorem kw_844 : Cond.selects RX11 yX11_loaded yX11_loaded ∈ lw_all := ks_5 (q := (⟨"TwoSetMachineModel", "loaded", "(II)I"⟩, 14)) (List.mem_of_getElem? (i := 0) rfl)
theorem kw_845 : Cond.code yX11_loaded cX11_loaded 4 (some .int) ∈ lw_all := kt_5 (List.mem_of_getElem? (i := 91) rfl) rfl
theorem kw_846 : Cond.methodLink RX11 122 yX11_wordAt ∈ lw_all := kt_5 (List.mem_of_getElem? (i := 92) (by decide +kernel)) rfl
theorem kw_847 : Cond.instanceMethod yX11_wordAt ∈ lw_all := kt_5 (List.mem_of_getElem? (i := 94) (by decide +kernel)) rfl
theorem kw_848 : Cond.selects RX11 yX11_wordAt yX11_wordAt ∈ lw_all := ks_5 (q := (⟨"TwoSetMachineModel", "wordAt", "(I)I"⟩, 14)) (List.mem_of_getElem? (i := 1) rfl)
theorem kw_849 : Cond.code yX11_wordAt cX11_wordAt 4 (some .int) ∈ lw_all := kt_5 (List.mem_of_getElem? (i := 95) rfl) rfl
theorem kw_850 : Cond.methodLink RX11 125 yX11_byteAt ∈ lw_all := kt_5 (List.mem_of_getElem? (i := 96) (by decide +kernel)) rfl
theorem kw_851 : Cond.instanceMethod yX11_byteAt ∈ lw_all := kt_5 (List.mem_of_getElem? (i := 98) (by decide +kernel)) rfl
theorem kw_852 : Cond.selects RX11 yX11_byteAt yX11_byteAt ∈ lw_all := ks_5 (q := (⟨"TwoSetMachineModel", "byteAt", "(I)I"⟩, 14)) (List.mem_of_getElem? (i := 2) rfl)
theorem kw_853 : Cond.code yX11_byteAt cX11_byteAt 2 (some .int) ∈ lw_all := kt_5 (List.mem_of_getElem? (i := 99) rfl) rfl
theorem kw_854 : Cond.methodLink RX11 131 yX11_storeAt ∈ lw_all := kt_5 (List.mem_of_getElem? (i := 100) (by decide +kernel)) rfl
theorem kw_855 : Cond.instanceMethod yX11_storeAt ∈ lw_all := kt_5 (List.mem_of_getElem? (i := 102) (by decide +kernel)) rfl
theorem kw_856 : Cond.selects RX11 yX11_storeAt yX11_storeAt ∈ lw_all := ks_5 (q := (⟨"TwoSetMachineModel", "storeAt", "(III)V"⟩, 14)) (List.mem_of_getElem? (i := 3) rfl)
theorem kw_857 : Cond.code yX11_storeAt cX11_storeAt 6 none ∈ lw_all := kt_5 (List.mem_of_getElem? (i := 103) rfl) rfl
theorem kw_858 : Cond.methodLink RX11 258 yX11_byRegisters ∈ lw_all := kt_5 (List.mem_of_getElem? (i := 104) (by decide +kernel)) rfl
theorem kw_859 : Cond.instanceMethod yX11_byRegisters ∈ lw_all := kt_5 (List.mem_of_getElem? (i := 106) (by decide +kernel)) rfl
theorem kw_860 : Cond.selects RX11 yX11_byRegisters yX11_byRegisters ∈ lw_all := ks_5 (q := (⟨"TwoSetMachineModel", "byRegisters", "(III)V"⟩, 14)) (List.mem_of_getElem? (i := 4) rfl)
theorem kw_861 : Cond.code yX11_byRegisters cX11_byRegisters 6 none ∈ lw_all := kt_5 (List.mem_of_getElem? (i := 107) rfl) rfl
theorem kw_862 : Cond.methodLink RX11 261 yX11_stack ∈ lw_all := kt_5 (List.mem_of_getElem? (i := 108) (by decide +kernel)) rfl
theorem kw_863 : Cond.instanceMethod yX11_stack ∈ lw_all := kt_5 (List.mem_of_getElem? (i := 110) (by decide +kernel)) rfl
theorem kw_864 : Cond.selects RX11 yX11_stack yX11_stack ∈ lw_all := ks_5 (q := (⟨"TwoSetMachineModel", "stack", "(I)V"⟩, 14)) (List.mem_of_getElem? (i := 5) rfl)
theorem kw_865 : Cond.code yX11_stack cX11_stack 5 none ∈ lw_all := kt_5 (List.mem_of_getElem? (i := 111) rfl) rfl
theorem kw_866 : Cond.constant RX11 270 (32768) ∈ lw_all := kt_5 (List.mem_of_getElem? (i := 135) (by decide +kernel)) rfl
theorem kw_867 : Cond.methodLink RX11 220 yX11_many ∈ lw_all := kt_5 (List.mem_of_getElem? (i := 112) (by decide +kernel)) rfl
theorem kw_868 : Cond.instanceMethod yX11_many ∈ lw_all := kt_5 (List.mem_of_getElem? (i := 114) (by decide +kernel)) rfl
theorem kw_869 : Cond.selects RX11 yX11_many yX11_many ∈ lw_all := ks_5 (q := (⟨"TwoSetMachineModel", "many", "(ZIIZZZZ)V"⟩, 14)) (List.mem_of_getElem? (i := 6) rfl)
theorem kw_870 : Cond.code yX11_many cX11_many 14 none ∈ lw_all := kt_5 (List.mem_of_getElem? (i := 115) rfl) rfl
theorem kw_871 : Cond.methodLink RX11 235 yX11_countOf ∈ lw_all := kt_5 (List.mem_of_getElem? (i := 116) (by decide +kernel)) rfl
theorem kw_872 : Cond.static yX11_countOf ∈ lw_all := kt_5 (List.mem_of_getElem? (i := 117) (by decide +kernel)) rfl
theorem kw_873 : Cond.code yX11_countOf cX11_countOf 3 (some .int) ∈ lw_all := kt_5 (List.mem_of_getElem? (i := 118) rfl) rfl
theorem kw_874 : Cond.methodLink RX11 238 yX11_nth ∈ lw_all := kt_5 (List.mem_of_getElem? (i := 119) (by decide +kernel)) rfl
theorem kw_875 : Cond.instanceMethod yX11_nth ∈ lw_all := kt_5 (List.mem_of_getElem? (i := 121) (by decide +kernel)) rfl
theorem kw_876 : Cond.selects RX11 yX11_nth yX11_nth ∈ lw_all := ks_5 (q := (⟨"TwoSetMachineModel", "nth", "(III)I"⟩, 14)) (List.mem_of_getElem? (i := 7) rfl)
theorem kw_877 : Cond.code yX11_nth cX11_nth 6 (some .int) ∈ lw_all := kt_5 (List.mem_of_getElem? (i := 122) rfl) rfl
theorem kw_878 : Cond.methodLink RX11 241 yX11_loadAll ∈ lw_all := kt_5 (List.mem_of_getElem? (i := 123) (by decide +kernel)) rfl
theorem kw_879 : Cond.instanceMethod yX11_loadAll ∈ lw_all := kt_5 (List.mem_of_getElem? (i := 125) (by decide +kernel)) rfl
theorem kw_880 : Cond.selects RX11 yX11_loadAll yX11_loadAll ∈ lw_all := ks_5 (q := (⟨"TwoSetMachineModel", "loadAll", "(IIIZ)V"⟩, 14)) (List.mem_of_getElem? (i := 8) rfl)
theorem kw_881 : Cond.code yX11_loadAll cX11_loadAll 7 none ∈ lw_all := kt_5 (List.mem_of_getElem? (i := 126) rfl) rfl
theorem kw_882 : Cond.methodLink RX11 67 yX11_hasSaved ∈ lw_all := kt_5 (List.mem_of_getElem? (i := 127) (by decide +kernel)) rfl
theorem kw_883 : Cond.instanceMethod yX11_hasSaved ∈ lw_all := kt_5 (List.mem_of_getElem? (i := 129) (by decide +kernel)) rfl
theorem kw_884 : Cond.selects RX11 yX11_hasSaved yX11_hasSaved ∈ lw_all := ks_5 (q := (⟨"TwoSetMachineModel", "hasSaved", "()Z"⟩, 14)) (List.mem_of_getElem? (i := 9) rfl)
theorem kw_885 : Cond.code yX11_hasSaved cX11_hasSaved 1 (some .boolean) ∈ lw_all := kt_5 (List.mem_of_getElem? (i := 130) rfl) rfl
theorem kw_886 : Cond.methodLink RX11 181 yX11_kept ∈ lw_all := kt_5 (List.mem_of_getElem? (i := 131) (by decide +kernel)) rfl
theorem kw_887 : Cond.instanceMethod yX11_kept ∈ lw_all := kt_5 (List.mem_of_getElem? (i := 133) (by decide +kernel)) rfl
theorem kw_888 : Cond.selects RX11 yX11_kept yX11_kept ∈ lw_all := ks_5 (q := (⟨"TwoSetMachineModel", "kept", "()I"⟩, 14)) (List.mem_of_getElem? (i := 10) rfl)
theorem kw_889 : Cond.code yX11_kept cX11_kept 1 (some .int) ∈ lw_all := kt_5 (List.mem_of_getElem? (i := 134) rfl) rfl
theorem kw_890 : Cond.methodLink RX11 264 yX11_conditional ∈ lw_all := kt_5 (List.mem_of_getElem? (i := 136) (by decide +kernel)) rfl
theorem kw_891 : Cond.instanceMethod yX11_conditional ∈ lw_all := kt_5 (List.mem_of_getElem? (i := 138) (by decide +kernel)) rfl
theorem kw_892 : Cond.selects RX11 yX11_conditional yX11_conditional ∈ lw_all := ks_5 (q := (⟨"TwoSetMachineModel", "conditional", "(II)V"⟩, 14)) (List.mem_of_getElem? (i := 11) rfl)
theorem kw_893 : Cond.code yX11_conditional cX11_conditional 3 none ∈ lw_all := kt_5 (List.mem_of_getElem? (i := 139) rfl) rfl
theorem kw_894 : Cond.methodLink RX11 188 yX11_isSo ∈ lw_all := kt_5 (List.mem_of_getElem? (i := 140) (by decide +kernel)) rfl
theorem kw_895 : Cond.instanceMethod yX11_isSo ∈ lw_all := kt_5 (List.mem_of_getElem? (i := 142) (by decide +kernel)) rfl
theorem kw_896 : Cond.selects RX11 yX11_isSo yX11_isSo ∈ lw_all := ks_5 (q := (⟨"TwoSetMachineModel", "isSo", "(I)Z"⟩, 14)) (List.mem_of_getElem? (i := 12) rfl)
theorem kw_897 : Cond.code yX11_isSo cX11_isSo 5 (some .boolean) ∈ lw_all := kt_5 (List.mem_of_getElem? (i := 143) rfl) rfl
theorem kw_898 : Cond.methodLink RX11 267 yX11_far ∈ lw_all := kt_5 (List.mem_of_getElem? (i := 144) (by decide +kernel)) rfl
theorem kw_899 : Cond.instanceMethod yX11_far ∈ lw_all := kt_5 (List.mem_of_getElem? (i := 146) (by decide +kernel)) rfl
theorem kw_900 : Cond.selects RX11 yX11_far yX11_far ∈ lw_all := ks_5 (q := (⟨"TwoSetMachineModel", "far", "(I)V"⟩, 14)) (List.mem_of_getElem? (i := 13) rfl)
theorem kw_901 : Cond.code yX11_far cX11_far 5 none ∈ lw_all := kt_5 (List.mem_of_getElem? (i := 147) rfl) rfl
theorem kw_902 : Cond.methodLink RX11 115 yX11_arm ∈ lw_all := kt_5 (List.mem_of_getElem? (i := 148) (by decide +kernel)) rfl
theorem kw_903 : Cond.instanceMethod yX11_arm ∈ lw_all := kt_5 (List.mem_of_getElem? (i := 150) (by decide +kernel)) rfl
theorem kw_904 : Cond.selects RX11 yX11_arm yX11_arm ∈ lw_all := ks_5 (q := (⟨"TwoSetMachineModel", "arm", "(I)V"⟩, 14)) (List.mem_of_getElem? (i := 14) rfl)
theorem kw_905 : Cond.code yX11_arm cX11_arm 4 none ∈ lw_all := kt_5 (List.mem_of_getElem? (i := 151) rfl) rfl
theorem kw_906 : Cond.constant RX11 191 (16777215) ∈ lw_all := kt_5 (List.mem_of_getElem? (i := 152) (by decide +kernel)) rfl
theorem kw_907 : Cond.constant RX11 192 (1245169) ∈ lw_all := kt_5 (List.mem_of_getElem? (i := 153) (by decide +kernel)) rfl
theorem kw_908 : Cond.methodLink RX11 199 yX11_multiply ∈ lw_all := kt_5 (List.mem_of_getElem? (i := 154) (by decide +kernel)) rfl
theorem kw_909 : Cond.instanceMethod yX11_multiply ∈ lw_all := kt_5 (List.mem_of_getElem? (i := 156) (by decide +kernel)) rfl
theorem kw_910 : Cond.selects RX11 yX11_multiply yX11_multiply ∈ lw_all := ks_5 (q := (⟨"TwoSetMachineModel", "multiply", "(I)V"⟩, 14)) (List.mem_of_getElem? (i := 15) rfl)
theorem kw_911 : Cond.code yX11_multiply cX11_multiply 15 none ∈ lw_all := kt_5 (List.mem_of_getElem? (i := 157) rfl) rfl
theorem kw_912 : Cond.methodLink RX11 202 yX11_swap ∈ lw_all := kt_5 (List.mem_of_getElem? (i := 158) (by decide +kernel)) rfl
theorem kw_913 : Cond.instanceMethod yX11_swap ∈ lw_all := kt_5 (List.mem_of_getElem? (i := 160) (by decide +kernel)) rfl
theorem kw_914 : Cond.selects RX11 yX11_swap yX11_swap ∈ lw_all := ks_6 (q := (⟨"TwoSetMachineModel", "swap", "(I)V"⟩, 14)) (List.mem_of_getElem? (i := 0) rfl)
theorem kw_915 : Cond.code yX11_swap cX11_swap 8 none ∈ lw_all := kt_5 (List.mem_of_getElem? (i := 161) rfl) rfl
theorem kw_916 : Cond.methodLink RX11 205 yX11_halves ∈ lw_all := kt_5 (List.mem_of_getElem? (i := 162) (by decide +kernel)) rfl
theorem kw_917 : Cond.instanceMethod yX11_halves ∈ lw_all := kt_5 (List.mem_of_getElem? (i := 164) (by decide +kernel)) rfl
theorem kw_918 : Cond.selects RX11 yX11_halves yX11_halves ∈ lw_all := ks_6 (q := (⟨"TwoSetMachineModel", "halves", "(I)V"⟩, 14)) (List.mem_of_getElem? (i := 1) rfl)
theorem kw_919 : Cond.code yX11_halves cX11_halves 5 none ∈ lw_all := kt_5 (List.mem_of_getElem? (i := 165) rfl) rfl
theorem kw_920 : Cond.methodLink RX11 231 yX11_indexed ∈ lw_all := kt_5 (List.mem_of_getElem? (i := 166) (by decide +kernel)) rfl
theorem kw_921 : Cond.instanceMethod yX11_indexed ∈ lw_all := kt_5 (List.mem_of_getElem? (i := 168) (by decide +kernel)) rfl
theorem kw_922 : Cond.selects RX11 yX11_indexed yX11_indexed ∈ lw_all := ks_6 (q := (⟨"TwoSetMachineModel", "indexed", "(III)V"⟩, 14)) (List.mem_of_getElem? (i := 2) rfl)
theorem kw_923 : Cond.code yX11_indexed cX11_indexed 9 none ∈ lw_all := kt_5 (List.mem_of_getElem? (i := 169) rfl) rfl
theorem kw_924 : Cond.methodLink RX11 208 yX11_isStatus ∈ lw_all := kt_5 (List.mem_of_getElem? (i := 170) (by decide +kernel)) rfl
theorem kw_925 : Cond.static yX11_isStatus ∈ lw_all := kt_5 (List.mem_of_getElem? (i := 171) (by decide +kernel)) rfl
theorem kw_926 : Cond.code yX11_isStatus cX11_isStatus 2 (some .boolean) ∈ lw_all := kt_5 (List.mem_of_getElem? (i := 172) rfl) rfl
theorem kw_927 : Cond.methodLink RX11 211 yX11_toStatus ∈ lw_all := kt_5 (List.mem_of_getElem? (i := 173) (by decide +kernel)) rfl
theorem kw_928 : Cond.instanceMethod yX11_toStatus ∈ lw_all := kt_5 (List.mem_of_getElem? (i := 175) (by decide +kernel)) rfl
theorem kw_929 : Cond.selects RX11 yX11_toStatus yX11_toStatus ∈ lw_all := ks_6 (q := (⟨"TwoSetMachineModel", "toStatus", "(I)V"⟩, 14)) (List.mem_of_getElem? (i := 3) rfl)
theorem kw_930 : Cond.code yX11_toStatus cX11_toStatus 5 none ∈ lw_all := kt_5 (List.mem_of_getElem? (i := 176) rfl) rfl
theorem kw_931 : Cond.constant RX11 234 (-268435456) ∈ lw_all := kt_5 (List.mem_of_getElem? (i := 181) (by decide +kernel)) rfl
theorem kw_932 : Cond.methodLink RX11 175 yX11_turnedNumber ∈ lw_all := kt_5 (List.mem_of_getElem? (i := 177) (by decide +kernel)) rfl
theorem kw_933 : Cond.instanceMethod yX11_turnedNumber ∈ lw_all := kt_5 (List.mem_of_getElem? (i := 179) (by decide +kernel)) rfl
theorem kw_934 : Cond.selects RX11 yX11_turnedNumber yX11_turnedNumber ∈ lw_all := ks_6 (q := (⟨"TwoSetMachineModel", "turnedNumber", "(I)I"⟩, 14)) (List.mem_of_getElem? (i := 4) rfl)
theorem kw_935 : Cond.code yX11_turnedNumber cX11_turnedNumber 3 (some .int) ∈ lw_all := kt_5 (List.mem_of_getElem? (i := 180) rfl) rfl
theorem kw_936 : Cond.methodLink RX11 214 yX11_data ∈ lw_all := kt_5 (List.mem_of_getElem? (i := 182) (by decide +kernel)) rfl
theorem kw_937 : Cond.instanceMethod yX11_data ∈ lw_all := kt_5 (List.mem_of_getElem? (i := 184) (by decide +kernel)) rfl
theorem kw_938 : Cond.selects RX11 yX11_data yX11_data ∈ lw_all := ks_6 (q := (⟨"TwoSetMachineModel", "data", "(I)V"⟩, 14)) (List.mem_of_getElem? (i := 5) rfl)
theorem kw_939 : Cond.code yX11_data cX11_data 11 none ∈ lw_all := kt_5 (List.mem_of_getElem? (i := 185) rfl) rfl
theorem kw_940 : Cond.methodLink RX11 217 yX11_single ∈ lw_all := kt_5 (List.mem_of_getElem? (i := 186) (by decide +kernel)) rfl
theorem kw_941 : Cond.instanceMethod yX11_single ∈ lw_all := kt_5 (List.mem_of_getElem? (i := 188) (by decide +kernel)) rfl
theorem kw_942 : Cond.selects RX11 yX11_single yX11_single ∈ lw_all := ks_6 (q := (⟨"TwoSetMachineModel", "single", "(I)V"⟩, 14)) (List.mem_of_getElem? (i := 6) rfl)
theorem kw_943 : Cond.code yX11_single cX11_single 3 none ∈ lw_all := kt_5 (List.mem_of_getElem? (i := 189) rfl) rfl
theorem kw_944 : Cond.methodLink RX11 224 yX11_branch ∈ lw_all := kt_5 (List.mem_of_getElem? (i := 190) (by decide +kernel)) rfl
theorem kw_945 : Cond.instanceMethod yX11_branch ∈ lw_all := kt_5 (List.mem_of_getElem? (i := 192) (by decide +kernel)) rfl
theorem kw_946 : Cond.selects RX11 yX11_branch yX11_branch ∈ lw_all := ks_6 (q := (⟨"TwoSetMachineModel", "branch", "(I)V"⟩, 14)) (List.mem_of_getElem? (i := 7) rfl)
theorem kw_947 : Cond.code yX11_branch cX11_branch 2 none ∈ lw_all := kt_5 (List.mem_of_getElem? (i := 193) rfl) rfl
theorem kw_948 : Cond.methodLink RL 80 yL_count ∈ lw_all := kt_4 (List.mem_of_getElem? (i := 79) (by decide +kernel)) rfl
theorem kw_949 : Cond.static yL_count ∈ lw_all := kt_4 (List.mem_of_getElem? (i := 80) (by decide +kernel)) rfl
theorem kw_950 : Cond.codeWith yL_count cL_count 4 (some .int) [(0, 9, 12, 15)] ∈ lw_all := kt_4 (List.mem_of_getElem? (i := 81) rfl) rfl
theorem kw_951 : Cond.methodLink RL 38 yX10_count ∈ lw_all := kt_4 (List.mem_of_getElem? (i := 82) (by decide +kernel)) rfl
theorem kw_952 : Cond.instanceMethod yX10_count ∈ lw_all := kt_4 (List.mem_of_getElem? (i := 83) (by decide +kernel)) rfl
theorem kw_953 : Cond.selects RX10 yX10_count yX10_count ∈ lw_all := kt_4 (List.mem_of_getElem? (i := 84) (by decide +kernel)) rfl
theorem kw_954 : Cond.code yX10_count cX10_count 2 (some .int) ∈ lw_all := kt_4 (List.mem_of_getElem? (i := 85) rfl) rfl
theorem kw_955 : Cond.methodLink RX10 106 yX5_steps ∈ lw_all := kt_4 (List.mem_of_getElem? (i := 87) (by decide +kernel)) rfl
theorem kw_956 : Cond.instanceMethod yX5_steps ∈ lw_all := kt_4 (List.mem_of_getElem? (i := 88) (by decide +kernel)) rfl
theorem kw_957 : Cond.selects RX5 yX5_steps yX5_steps ∈ lw_all := kt_4 (List.mem_of_getElem? (i := 89) (by decide +kernel)) rfl
theorem kw_958 : Cond.code yX5_steps cX5_steps 1 (some .int) ∈ lw_all := kt_4 (List.mem_of_getElem? (i := 90) rfl) rfl
theorem kw_959 : Cond.methodLink RX10 109 yX5_faultsOf ∈ lw_all := kt_4 (List.mem_of_getElem? (i := 91) (by decide +kernel)) rfl
theorem kw_960 : Cond.instanceMethod yX5_faultsOf ∈ lw_all := kt_4 (List.mem_of_getElem? (i := 92) (by decide +kernel)) rfl
theorem kw_961 : Cond.selects RX5 yX5_faultsOf yX5_faultsOf ∈ lw_all := kt_4 (List.mem_of_getElem? (i := 93) (by decide +kernel)) rfl
theorem kw_962 : Cond.code yX5_faultsOf cX5_faultsOf 2 (some .int) ∈ lw_all := kt_4 (List.mem_of_getElem? (i := 94) rfl) rfl
theorem kw_963 : Cond.methodLink RL 82 yX11_count ∈ lw_all := kt_5 (List.mem_of_getElem? (i := 194) (by decide +kernel)) rfl
theorem kw_964 : Cond.instanceMethod yX11_count ∈ lw_all := kt_5 (List.mem_of_getElem? (i := 195) (by decide +kernel)) rfl
theorem kw_965 : Cond.selects RX11 yX11_count yX11_count ∈ lw_all := kt_5 (List.mem_of_getElem? (i := 196) (by decide +kernel)) rfl
theorem kw_966 : Cond.code yX11_count cX11_count 2 (some .int) ∈ lw_all := kt_5 (List.mem_of_getElem? (i := 197) rfl) rfl
theorem ku_0 : ∀ w ∈ wsX00, w ∈ lw_all := by
  intro w h
  exact List.mem_filter.mpr ⟨(show ∀ w ∈ wsX00, w ∈ lw_tbl by decide +kernel) w h, (show ∀ w ∈ wsX00, goodWord w = true by decide +kernel) w h⟩
theorem ku_1 : ∀ w ∈ wsX10, w ∈ lw_all := by
  intro w h
  exact List.mem_filter.mpr ⟨(show ∀ w ∈ wsX10, w ∈ lw_tbl by decide +kernel) w h, (show ∀ w ∈ wsX10, goodWord w = true by decide +kernel) w h⟩
theorem ku_2 : ∀ w ∈ wsX20, w ∈ lw_all := by
  intro w h
  exact List.mem_filter.mpr ⟨(show ∀ w ∈ wsX20, w ∈ lw_tbl by decide +kernel) w h, (show ∀ w ∈ wsX20, goodWord w = true by decide +kernel) w h⟩
theorem ku_3 : ∀ w ∈ wsX30, w ∈ lw_all := by
  intro w h
  exact List.mem_filter.mpr ⟨(show ∀ w ∈ wsX30, w ∈ lw_tbl by decide +kernel) w h, (show ∀ w ∈ wsX30, goodWord w = true by decide +kernel) w h⟩
theorem ku_4 : ∀ w ∈ wsX40, w ∈ lw_all := by
  intro w h
  exact List.mem_filter.mpr ⟨(show ∀ w ∈ wsX40, w ∈ lw_tbl by decide +kernel) w h, (show ∀ w ∈ wsX40, goodWord w = true by decide +kernel) w h⟩
theorem ku_5 : ∀ w ∈ wsX50, w ∈ lw_all := by
  intro w h
  exact List.mem_filter.mpr ⟨(show ∀ w ∈ wsX50, w ∈ lw_tbl by decide +kernel) w h, (show ∀ w ∈ wsX50, goodWord w = true by decide +kernel) w h⟩
theorem ku_6 : ∀ w ∈ wsX60, w ∈ lw_all := by
  intro w h
  exact List.mem_filter.mpr ⟨(show ∀ w ∈ wsX60, w ∈ lw_tbl by decide +kernel) w h, (show ∀ w ∈ wsX60, goodWord w = true by decide +kernel) w h⟩
theorem ku_7 : ∀ w ∈ wsX70, w ∈ lw_all := by
  intro w h
  exact List.mem_filter.mpr ⟨(show ∀ w ∈ wsX70, w ∈ lw_tbl by decide +kernel) w h, (show ∀ w ∈ wsX70, goodWord w = true by decide +kernel) w h⟩
theorem ku_8 : ∀ w ∈ wsX80, w ∈ lw_all := by
  intro w h
  exact List.mem_filter.mpr ⟨(show ∀ w ∈ wsX80, w ∈ lw_tbl by decide +kernel) w h, (show ∀ w ∈ wsX80, goodWord w = true by decide +kernel) w h⟩
theorem ku_9 : ∀ w ∈ wsX90, w ∈ lw_all := by
  intro w h
  exact List.mem_filter.mpr ⟨(show ∀ w ∈ wsX90, w ∈ lw_tbl by decide +kernel) w h, (show ∀ w ∈ wsX90, goodWord w = true by decide +kernel) w h⟩
theorem ku_10 : ∀ w ∈ wsX100, w ∈ lw_all := by
  intro w h
  exact List.mem_filter.mpr ⟨(show ∀ w ∈ wsX100, w ∈ lw_tbl by decide +kernel) w h, (show ∀ w ∈ wsX100, goodWord w = true by decide +kernel) w h⟩
theorem ku_11 : ∀ w ∈ wsX110, w ∈ lw_all := by
  intro w h
  exact List.mem_filter.mpr ⟨(show ∀ w ∈ wsX110, w ∈ lw_tbl by decide +kernel) w h, (show ∀ w ∈ wsX110, goodWord w = true by decide +kernel) w h⟩
abbrev vwCl : List vw_C := [(RX0, TX0, 2), (RX1, TX1, 4), (RX4, TX4, 1), (RX5, TX5, 8), (RX6, TX6, 5), (RX7, TX7, 1), (RX8, TX8, 4), (RX9, TX9, 2), (RX10, TX10, 3), (RX11, TX11, 14)]
end
section
section KC
variable {p : Program} {l : Launch} {e : Env} {R : Room} {s : State} {m : MethodId} {args : Array Value} {below : List Frame} {meth : Method} {c : Code} {H : Heap} {locs : List Loc} {cells slots : Nat} {Q : State → Prop}
variable {S : Type} {D : va_G} {cl : List vw_C} {tys : List (ClassId × FieldType)} {Z : (Nat → Prop) → State → Heap → Prop} {w : S → va_W} {A : Nat → Prop} {σ : S}
def b01 (b : Bool) : Int32 := if b = true then 1 else 0
theorem b01_t : b01 true = 1 := rfl
theorem b01_f : b01 false = 0 := rfl
theorem b01_nar (b : Bool) : narrow .boolean (.int (b01 b)) = .int (b01 b) := by cases b <;> rfl
theorem b01_fit (b : Bool) : fits .boolean (.int (b01 b)) = true := by cases b <;> rfl
theorem b01_eq0 {b : Bool} : b01 b = 0 ↔ ¬ b = true := by cases b <;> decide
theorem b01_dec {c : Prop} [Decidable c] : b01 (decide c) = if c then 1 else 0 := by unfold b01; by_cases h : c <;> simp [h]
/-- what holds where a method begins: the world as σ has it, the classes, the statics -/
def kc_Pre (D : va_G) (cl : List vw_C) (tys : List (ClassId × FieldType)) (Z : (Nat → Prop) → State → Heap → Prop) (w : S → va_W) (σ : S) (sz : Nat) : State → Prop := fun U => U.heap.size = sz ∧ va_P D cl (w σ) U.heap ∧ va_K D cl tys U ∧ va_D (fun _ => True) (w σ) ∧ Z (va_A (w σ) sz) U U.heap
def kc_Post (D : va_G) (cl : List vw_C) (tys : List (ClassId × FieldType)) (w : S → va_W) (σ : S) (sz : Nat) : S → State → Prop := fun u t => va_P D cl (w u) t.heap ∧ va_K D cl tys t ∧ va_D (va_A (w σ) sz) (w u)
/-- statics stay as they are where the world's own cells alone change -/
def kc_Zok (Z : (Nat → Prop) → State → Heap → Prop) : Prop := ∀ (A A' : Nat → Prop) (U U' : State) (H H' : Heap), Z A U H → U.WarmedH U'.vm → (∀ q : Nat, q < H.size → ¬ A q → H'[q]? = H[q]?) → (∀ q, A' q → A q) → Z A' U' H'
/-- the contracts: an answer and a new state; a new state alone; an answer of a method that touches no heap -/
def KB (l : Launch) (y : MethodName) (ws : List Cond) (rm : Room) (D : va_G) (cl : List vw_C) (tys : List (ClassId × FieldType)) (Z : (Nat → Prop) → State → Heap → Prop) (w : S → va_W) (av : List Value) (σ : S) (q : Int32 × S) : Prop :=
  ∀ sz : Nat, Met l y ws rm (va_Pc av (kc_Pre D cl tys Z w σ sz)) (va_Qi (fun r1 u1 => r1 = q.1 ∧ u1 = q.2) (kc_Post D cl tys w σ sz) (va_A (w σ) sz)) 0 0 (va_A (w σ) sz)
def KV (l : Launch) (y : MethodName) (ws : List Cond) (rm : Room) (D : va_G) (cl : List vw_C) (tys : List (ClassId × FieldType)) (Z : (Nat → Prop) → State → Heap → Prop) (w : S → va_W) (av : List Value) (σ : S) (u : S) : Prop :=
  ∀ sz : Nat, Met l y ws rm (va_Pc av (kc_Pre D cl tys Z w σ sz)) (va_Qv (fun u1 => u1 = u) (kc_Post D cl tys w σ sz) (va_A (w σ) sz)) 0 0 (va_A (w σ) sz)
def KPi (l : Launch) (y : MethodName) (ws : List Cond) (rm : Room) (av : List Value) (r : Int32) : Prop :=
  Met l y ws rm (va_Pc av (fun _ => True)) (fun _ st o t => o = .returned (some (.int r)) ∧ t.heap = st.heap) 0 0 (fun _ => False)
def KPl (l : Launch) (y : MethodName) (ws : List Cond) (rm : Room) (av : List Value) (r : Int64) : Prop :=
  Met l y ws rm (va_Pc av (fun _ => True)) (fun _ st o t => o = .returned (some (.long r)) ∧ t.heap = st.heap) 0 0 (fun _ => False)
theorem kc_free (hD : va_D A (w σ)) (hS : va_S A s.heap H locs) (hA : ∀ q, s.heap.size ≤ q → A q) : ∀ q, va_A (w σ) H.size q → A q := by
  intro q h
  rcases h with ⟨k, e, h⟩ | h
  · exact hD.2 k (q, e) h
  · exact hA q (Nat.le_trans hS.1 h)
theorem kc_blind (hZ : kc_Zok Z) (av : List Value) (sz : Nat) : FrameBlind (va_Pc av (kc_Pre D cl tys Z w σ sz)) := fun a U g mk q => by
  obtain ⟨q0, q1, qP, qK, qD, qZ⟩ := q
  exact ⟨q0, q1, qP, va_K.moved (u := U) (U := U.calling g mk a) (Vm.Alike.refl U.vm) qK, qD, hZ _ _ U (U.calling g mk a) _ _ qZ (State.WarmedH.refl U) (fun _ _ _ => rfl) (fun _ h => h)⟩
theorem kc_start (hZk : kc_Zok Z) (hK : va_K D cl tys s) (hP : va_P D cl (w σ) H) (hD : va_D A (w σ)) (hS : va_S A s.heap H locs) (hA : ∀ q, s.heap.size ≤ q → A q) (hZ : Z A s s.heap) : ∀ U : State, U.heap = H → s.WarmedH U.vm → kc_Pre D cl tys Z w σ H.size U := fun U hU hW =>
  ⟨by rw [hU], by rw [hU]; exact hP, va_K.moved hW.alike hK, hD.weaken (fun _ _ _ _ => trivial), hZk _ _ _ _ _ _ hZ hW (by rw [hU]; exact hS.2.1) (kc_free hD hS hA)⟩

theorem kc_after {pc : Nat} {ls : Array Slot} {st0 rest : List Value} {a : Array Value} {q : Int32 × S} (hr : va_Run p l e R s m args below meth c H locs cells slots 0 0 (F0 m pc ls st0) rest (va_Qi (fun r1 u1 => r1 = q.1 ∧ u1 = q.2) (kc_Post D cl tys w σ H.size) (va_A (w σ) H.size) a) (va_A (w σ) H.size)) (hD : va_D A (w σ)) (hS : va_S A s.heap H locs) (hA : ∀ q, s.heap.size ≤ q → A q)
    (kk : ∀ (H1 : Heap) (locs1 : List Loc), va_P D cl (w q.2) H1 → va_D A (w q.2) → va_S A s.heap H1 locs1 → W p l e R s m args below meth c H1 locs1 cells slots Q (F0 m (pc + 3) ls (.int q.1 :: rest))) : W p l e R s m args below meth c H locs cells slots Q (F0 m pc ls st0) := by
  have hF := kc_free hD hS hA
  refine va_calli hr hS (fun q _ h => hF q h) hF (fun r u t H1 locs1 ht hvm hw hB hz1 hk1 hS1 => ?_)
  obtain ⟨rfl, rfl⟩ := hw
  obtain ⟨hP1, hK1, hD1⟩ := hB
  rw [ht] at hP1
  exact kk H1 locs1 hP1 (hD1.weaken (fun _ _ _ h => hF _ h)) hS1
theorem kc_afterv {pc : Nat} {ls : Array Slot} {st0 rest : List Value} {a : Array Value} {v : S} (hr : va_Run p l e R s m args below meth c H locs cells slots 0 0 (F0 m pc ls st0) rest (va_Qv (fun u1 => u1 = v) (kc_Post D cl tys w σ H.size) (va_A (w σ) H.size) a) (va_A (w σ) H.size)) (hD : va_D A (w σ)) (hS : va_S A s.heap H locs) (hA : ∀ q, s.heap.size ≤ q → A q)
    (kk : ∀ (H1 : Heap) (locs1 : List Loc), va_P D cl (w v) H1 → va_D A (w v) → va_S A s.heap H1 locs1 → W p l e R s m args below meth c H1 locs1 cells slots Q (F0 m (pc + 3) ls rest)) : W p l e R s m args below meth c H locs cells slots Q (F0 m pc ls st0) := by
  have hF := kc_free hD hS hA
  refine va_callv hr hS (fun q _ h => hF q h) hF (fun u t H1 locs1 ht hvm hw hB hz1 hk1 hS1 => ?_)
  obtain rfl := hw
  obtain ⟨hP1, hK1, hD1⟩ := hB
  rw [ht] at hP1
  exact kk H1 locs1 hP1 (hD1.weaken (fun _ _ _ h => hF _ h)) hS1

theorem kc_Vb {y : MethodName} {ws1 : List Cond} {rm1 : Room} {bytes cc : ByteArray} {maxL nL n index pc : Nat} {ret : Option FieldType} {Ts : List Cond} {own C host : String} {b : Addr} {As rest st0 : List Value} {ls : Array Slot} {q : Int32 × S} (hM : KB l y ws1 rm1 D cl tys Z w (.ref b :: As) σ q) (F : CallFix p m c cc nL s args Ts own) (cw : CallW R s args own C index y bytes maxL ret ws1 rm1 0 0 n) (hrec : ∃ cellB : Cell, H[b]? = some cellB ∧ cellB.vm.isStatics = false ∧ s.vm.findClass C = some cellB.cls) (hZk : kc_Zok Z) (hK : va_K D cl tys s) (hP : va_P D cl (w σ) H) (hD : va_D A (w σ)) (hS : va_S A s.heap H locs) (hA : ∀ q, s.heap.size ≤ q → A q) (hZ : Z A s s.heap) (hn : As.length = n) (hsize : ls.size = nL) (hstack : st0 = As.reverse ++ .ref b :: rest) (hroom : (rest.map fun v => v.category).sum ≤ 8) (hdg : decode cc pc = .ok (.invokevirtual index, 3)) (hf : cells + 0 ≤ R.cells ∧ slots + 0 ≤ R.slots)
    (kk : ∀ (H1 : Heap) (locs1 : List Loc), va_P D cl (w q.2) H1 → va_D A (w q.2) → va_S A s.heap H1 locs1 → W p l e R s m args below meth c H1 locs1 cells slots Q (F0 m (pc + 3) ls (.int q.1 :: rest))) : W p l e R s m args below meth c H locs cells slots Q (F0 m pc ls st0) :=
  kc_after (va_runV (g := F0 m pc ls st0) F (hM H.size) cw ⟨kc_blind hZk _ _, hrec, fun U hU hW => ⟨rfl, kc_start hZk hK hP hD hS hA hZ U hU hW⟩⟩ rfl hn hsize hstack (lv_room hroom) hdg hf) hD hS hA kk
theorem kc_Vr {y : MethodName} {ws1 : List Cond} {rm1 : Room} {bytes cc : ByteArray} {maxL nL n index pc : Nat} {ret : Option FieldType} {Ts : List Cond} {own C host : String} {b : Addr} {As rest st0 : List Value} {ls : Array Slot} {v : Int32} (hM : KB l y ws1 rm1 D cl tys Z w (.ref b :: As) σ (v, σ)) (F : CallFix p m c cc nL s args Ts own) (cw : CallW R s args own C index y bytes maxL ret ws1 rm1 0 0 n) (hrec : ∃ cellB : Cell, H[b]? = some cellB ∧ cellB.vm.isStatics = false ∧ s.vm.findClass C = some cellB.cls) (hZk : kc_Zok Z) (hK : va_K D cl tys s) (hP : va_P D cl (w σ) H) (hD : va_D A (w σ)) (hS : va_S A s.heap H locs) (hA : ∀ q, s.heap.size ≤ q → A q) (hZ : Z A s s.heap) (hn : As.length = n) (hsize : ls.size = nL) (hstack : st0 = As.reverse ++ .ref b :: rest) (hroom : (rest.map fun v => v.category).sum ≤ 8) (hdg : decode cc pc = .ok (.invokevirtual index, 3)) (hf : cells + 0 ≤ R.cells ∧ slots + 0 ≤ R.slots)
    (kk : ∀ (H1 : Heap) (locs1 : List Loc), va_P D cl (w σ) H1 → va_D A (w σ) → va_S A s.heap H1 locs1 → W p l e R s m args below meth c H1 locs1 cells slots Q (F0 m (pc + 3) ls (.int v :: rest))) : W p l e R s m args below meth c H locs cells slots Q (F0 m pc ls st0) :=
  kc_after (va_runV (g := F0 m pc ls st0) F (hM H.size) cw ⟨kc_blind hZk _ _, hrec, fun U hU hW => ⟨rfl, kc_start hZk hK hP hD hS hA hZ U hU hW⟩⟩ rfl hn hsize hstack (lv_room hroom) hdg hf) hD hS hA kk
theorem kc_Vv {y : MethodName} {ws1 : List Cond} {rm1 : Room} {bytes cc : ByteArray} {maxL nL n index pc : Nat} {ret : Option FieldType} {Ts : List Cond} {own C host : String} {b : Addr} {As rest st0 : List Value} {ls : Array Slot} {v : S} (hM : KV l y ws1 rm1 D cl tys Z w (.ref b :: As) σ v) (F : CallFix p m c cc nL s args Ts own) (cw : CallW R s args own C index y bytes maxL ret ws1 rm1 0 0 n) (hrec : ∃ cellB : Cell, H[b]? = some cellB ∧ cellB.vm.isStatics = false ∧ s.vm.findClass C = some cellB.cls) (hZk : kc_Zok Z) (hK : va_K D cl tys s) (hP : va_P D cl (w σ) H) (hD : va_D A (w σ)) (hS : va_S A s.heap H locs) (hA : ∀ q, s.heap.size ≤ q → A q) (hZ : Z A s s.heap) (hn : As.length = n) (hsize : ls.size = nL) (hstack : st0 = As.reverse ++ .ref b :: rest) (hroom : (rest.map fun v => v.category).sum ≤ 8) (hdg : decode cc pc = .ok (.invokevirtual index, 3)) (hf : cells + 0 ≤ R.cells ∧ slots + 0 ≤ R.slots)
    (kk : ∀ (H1 : Heap) (locs1 : List Loc), va_P D cl (w v) H1 → va_D A (w v) → va_S A s.heap H1 locs1 → W p l e R s m args below meth c H1 locs1 cells slots Q (F0 m (pc + 3) ls rest)) : W p l e R s m args below meth c H locs cells slots Q (F0 m pc ls st0) :=
  kc_afterv (va_runV (g := F0 m pc ls st0) F (hM H.size) cw ⟨kc_blind hZk _ _, hrec, fun U hU hW => ⟨rfl, kc_start hZk hK hP hD hS hA hZ U hU hW⟩⟩ rfl hn hsize hstack (lv_room hroom) hdg hf) hD hS hA kk
theorem kc_VNb {y : MethodName} {ws1 : List Cond} {rm1 : Room} {bytes cc : ByteArray} {maxL nL n index pc : Nat} {ret : Option FieldType} {Ts : List Cond} {own C host : String} {b : Addr} {As rest st0 : List Value} {ls : Array Slot} {q : Int32 × S} (hM : KB l y ws1 rm1 D cl tys Z w (.ref b :: As) σ q) (F : CallFix p m c cc nL s args Ts own) (cw : va_CN R s args own index y host bytes maxL ret ws1 rm1 0 0 n ∧ (Cond.instanceMethod y).before args s = true ∧ (Cond.selects C y y).before args s = true) (hrec : ∃ cellB : Cell, H[b]? = some cellB ∧ cellB.vm.isStatics = false ∧ s.vm.findClass C = some cellB.cls) (hZk : kc_Zok Z) (hK : va_K D cl tys s) (hP : va_P D cl (w σ) H) (hD : va_D A (w σ)) (hS : va_S A s.heap H locs) (hA : ∀ q, s.heap.size ≤ q → A q) (hZ : Z A s s.heap) (hn : As.length = n) (hsize : ls.size = nL) (hstack : st0 = As.reverse ++ .ref b :: rest) (hroom : (rest.map fun v => v.category).sum ≤ 8) (hdg : decode cc pc = .ok (.invokevirtual index, 3)) (hf : cells + 0 ≤ R.cells ∧ slots + 0 ≤ R.slots)
    (kk : ∀ (H1 : Heap) (locs1 : List Loc), va_P D cl (w q.2) H1 → va_D A (w q.2) → va_S A s.heap H1 locs1 → W p l e R s m args below meth c H1 locs1 cells slots Q (F0 m (pc + 3) ls (.int q.1 :: rest))) : W p l e R s m args below meth c H locs cells slots Q (F0 m pc ls st0) :=
  kc_after (va_runVN (g := F0 m pc ls st0) F (hM H.size) cw ⟨kc_blind hZk _ _, hrec, fun U hU hW => ⟨rfl, kc_start hZk hK hP hD hS hA hZ U hU hW⟩⟩ rfl hn hsize hstack (lv_room hroom) hdg hf) hD hS hA kk
theorem kc_VNr {y : MethodName} {ws1 : List Cond} {rm1 : Room} {bytes cc : ByteArray} {maxL nL n index pc : Nat} {ret : Option FieldType} {Ts : List Cond} {own C host : String} {b : Addr} {As rest st0 : List Value} {ls : Array Slot} {v : Int32} (hM : KB l y ws1 rm1 D cl tys Z w (.ref b :: As) σ (v, σ)) (F : CallFix p m c cc nL s args Ts own) (cw : va_CN R s args own index y host bytes maxL ret ws1 rm1 0 0 n ∧ (Cond.instanceMethod y).before args s = true ∧ (Cond.selects C y y).before args s = true) (hrec : ∃ cellB : Cell, H[b]? = some cellB ∧ cellB.vm.isStatics = false ∧ s.vm.findClass C = some cellB.cls) (hZk : kc_Zok Z) (hK : va_K D cl tys s) (hP : va_P D cl (w σ) H) (hD : va_D A (w σ)) (hS : va_S A s.heap H locs) (hA : ∀ q, s.heap.size ≤ q → A q) (hZ : Z A s s.heap) (hn : As.length = n) (hsize : ls.size = nL) (hstack : st0 = As.reverse ++ .ref b :: rest) (hroom : (rest.map fun v => v.category).sum ≤ 8) (hdg : decode cc pc = .ok (.invokevirtual index, 3)) (hf : cells + 0 ≤ R.cells ∧ slots + 0 ≤ R.slots)
    (kk : ∀ (H1 : Heap) (locs1 : List Loc), va_P D cl (w σ) H1 → va_D A (w σ) → va_S A s.heap H1 locs1 → W p l e R s m args below meth c H1 locs1 cells slots Q (F0 m (pc + 3) ls (.int v :: rest))) : W p l e R s m args below meth c H locs cells slots Q (F0 m pc ls st0) :=
  kc_after (va_runVN (g := F0 m pc ls st0) F (hM H.size) cw ⟨kc_blind hZk _ _, hrec, fun U hU hW => ⟨rfl, kc_start hZk hK hP hD hS hA hZ U hU hW⟩⟩ rfl hn hsize hstack (lv_room hroom) hdg hf) hD hS hA kk
theorem kc_VNv {y : MethodName} {ws1 : List Cond} {rm1 : Room} {bytes cc : ByteArray} {maxL nL n index pc : Nat} {ret : Option FieldType} {Ts : List Cond} {own C host : String} {b : Addr} {As rest st0 : List Value} {ls : Array Slot} {v : S} (hM : KV l y ws1 rm1 D cl tys Z w (.ref b :: As) σ v) (F : CallFix p m c cc nL s args Ts own) (cw : va_CN R s args own index y host bytes maxL ret ws1 rm1 0 0 n ∧ (Cond.instanceMethod y).before args s = true ∧ (Cond.selects C y y).before args s = true) (hrec : ∃ cellB : Cell, H[b]? = some cellB ∧ cellB.vm.isStatics = false ∧ s.vm.findClass C = some cellB.cls) (hZk : kc_Zok Z) (hK : va_K D cl tys s) (hP : va_P D cl (w σ) H) (hD : va_D A (w σ)) (hS : va_S A s.heap H locs) (hA : ∀ q, s.heap.size ≤ q → A q) (hZ : Z A s s.heap) (hn : As.length = n) (hsize : ls.size = nL) (hstack : st0 = As.reverse ++ .ref b :: rest) (hroom : (rest.map fun v => v.category).sum ≤ 8) (hdg : decode cc pc = .ok (.invokevirtual index, 3)) (hf : cells + 0 ≤ R.cells ∧ slots + 0 ≤ R.slots)
    (kk : ∀ (H1 : Heap) (locs1 : List Loc), va_P D cl (w v) H1 → va_D A (w v) → va_S A s.heap H1 locs1 → W p l e R s m args below meth c H1 locs1 cells slots Q (F0 m (pc + 3) ls rest)) : W p l e R s m args below meth c H locs cells slots Q (F0 m pc ls st0) :=
  kc_afterv (va_runVN (g := F0 m pc ls st0) F (hM H.size) cw ⟨kc_blind hZk _ _, hrec, fun U hU hW => ⟨rfl, kc_start hZk hK hP hD hS hA hZ U hU hW⟩⟩ rfl hn hsize hstack (lv_room hroom) hdg hf) hD hS hA kk
theorem kc_Sb {y : MethodName} {ws1 : List Cond} {rm1 : Room} {bytes cc : ByteArray} {maxL nL n index pc : Nat} {ret : Option FieldType} {Ts : List Cond} {own C host : String} {b : Addr} {As rest st0 : List Value} {ls : Array Slot} {q : Int32 × S} (hM : KB l y ws1 rm1 D cl tys Z w As σ q) (F : CallFix p m c cc nL s args Ts own) (cw : CallB R s args own index y bytes maxL ret ws1 rm1 0 0 n ∧ (Cond.static y).before args s = true) (hZk : kc_Zok Z) (hK : va_K D cl tys s) (hP : va_P D cl (w σ) H) (hD : va_D A (w σ)) (hS : va_S A s.heap H locs) (hA : ∀ q, s.heap.size ≤ q → A q) (hZ : Z A s s.heap) (hn : As.length = n) (hsize : ls.size = nL) (hstack : st0 = As.reverse ++ rest) (hroom : (rest.map fun v => v.category).sum ≤ 8) (hdg : decode cc pc = .ok (.invokestatic index, 3)) (hf : cells + 0 ≤ R.cells ∧ slots + 0 ≤ R.slots)
    (kk : ∀ (H1 : Heap) (locs1 : List Loc), va_P D cl (w q.2) H1 → va_D A (w q.2) → va_S A s.heap H1 locs1 → W p l e R s m args below meth c H1 locs1 cells slots Q (F0 m (pc + 3) ls (.int q.1 :: rest))) : W p l e R s m args below meth c H locs cells slots Q (F0 m pc ls st0) :=
  kc_after (va_runS (g := F0 m pc ls st0) F (hM H.size) cw ⟨kc_blind hZk _ _, fun U hU hW => ⟨rfl, kc_start hZk hK hP hD hS hA hZ U hU hW⟩⟩ rfl hn hsize hstack (lv_room hroom) hdg hf) hD hS hA kk
theorem kc_Sr {y : MethodName} {ws1 : List Cond} {rm1 : Room} {bytes cc : ByteArray} {maxL nL n index pc : Nat} {ret : Option FieldType} {Ts : List Cond} {own C host : String} {b : Addr} {As rest st0 : List Value} {ls : Array Slot} {v : Int32} (hM : KB l y ws1 rm1 D cl tys Z w As σ (v, σ)) (F : CallFix p m c cc nL s args Ts own) (cw : CallB R s args own index y bytes maxL ret ws1 rm1 0 0 n ∧ (Cond.static y).before args s = true) (hZk : kc_Zok Z) (hK : va_K D cl tys s) (hP : va_P D cl (w σ) H) (hD : va_D A (w σ)) (hS : va_S A s.heap H locs) (hA : ∀ q, s.heap.size ≤ q → A q) (hZ : Z A s s.heap) (hn : As.length = n) (hsize : ls.size = nL) (hstack : st0 = As.reverse ++ rest) (hroom : (rest.map fun v => v.category).sum ≤ 8) (hdg : decode cc pc = .ok (.invokestatic index, 3)) (hf : cells + 0 ≤ R.cells ∧ slots + 0 ≤ R.slots)
    (kk : ∀ (H1 : Heap) (locs1 : List Loc), va_P D cl (w σ) H1 → va_D A (w σ) → va_S A s.heap H1 locs1 → W p l e R s m args below meth c H1 locs1 cells slots Q (F0 m (pc + 3) ls (.int v :: rest))) : W p l e R s m args below meth c H locs cells slots Q (F0 m pc ls st0) :=
  kc_after (va_runS (g := F0 m pc ls st0) F (hM H.size) cw ⟨kc_blind hZk _ _, fun U hU hW => ⟨rfl, kc_start hZk hK hP hD hS hA hZ U hU hW⟩⟩ rfl hn hsize hstack (lv_room hroom) hdg hf) hD hS hA kk
theorem kc_Sv {y : MethodName} {ws1 : List Cond} {rm1 : Room} {bytes cc : ByteArray} {maxL nL n index pc : Nat} {ret : Option FieldType} {Ts : List Cond} {own C host : String} {b : Addr} {As rest st0 : List Value} {ls : Array Slot} {v : S} (hM : KV l y ws1 rm1 D cl tys Z w As σ v) (F : CallFix p m c cc nL s args Ts own) (cw : CallB R s args own index y bytes maxL ret ws1 rm1 0 0 n ∧ (Cond.static y).before args s = true) (hZk : kc_Zok Z) (hK : va_K D cl tys s) (hP : va_P D cl (w σ) H) (hD : va_D A (w σ)) (hS : va_S A s.heap H locs) (hA : ∀ q, s.heap.size ≤ q → A q) (hZ : Z A s s.heap) (hn : As.length = n) (hsize : ls.size = nL) (hstack : st0 = As.reverse ++ rest) (hroom : (rest.map fun v => v.category).sum ≤ 8) (hdg : decode cc pc = .ok (.invokestatic index, 3)) (hf : cells + 0 ≤ R.cells ∧ slots + 0 ≤ R.slots)
    (kk : ∀ (H1 : Heap) (locs1 : List Loc), va_P D cl (w v) H1 → va_D A (w v) → va_S A s.heap H1 locs1 → W p l e R s m args below meth c H1 locs1 cells slots Q (F0 m (pc + 3) ls rest)) : W p l e R s m args below meth c H locs cells slots Q (F0 m pc ls st0) :=
  kc_afterv (va_runS (g := F0 m pc ls st0) F (hM H.size) cw ⟨kc_blind hZk _ _, fun U hU hW => ⟨rfl, kc_start hZk hK hP hD hS hA hZ U hU hW⟩⟩ rfl hn hsize hstack (lv_room hroom) hdg hf) hD hS hA kk
theorem kc_SNb {y : MethodName} {ws1 : List Cond} {rm1 : Room} {bytes cc : ByteArray} {maxL nL n index pc : Nat} {ret : Option FieldType} {Ts : List Cond} {own C host : String} {b : Addr} {As rest st0 : List Value} {ls : Array Slot} {q : Int32 × S} (hM : KB l y ws1 rm1 D cl tys Z w As σ q) (F : CallFix p m c cc nL s args Ts own) (cw : va_CN R s args own index y host bytes maxL ret ws1 rm1 0 0 n ∧ (Cond.static y).before args s = true ∧ True) (hZk : kc_Zok Z) (hK : va_K D cl tys s) (hP : va_P D cl (w σ) H) (hD : va_D A (w σ)) (hS : va_S A s.heap H locs) (hA : ∀ q, s.heap.size ≤ q → A q) (hZ : Z A s s.heap) (hn : As.length = n) (hsize : ls.size = nL) (hstack : st0 = As.reverse ++ rest) (hroom : (rest.map fun v => v.category).sum ≤ 8) (hdg : decode cc pc = .ok (.invokestatic index, 3)) (hf : cells + 0 ≤ R.cells ∧ slots + 0 ≤ R.slots)
    (kk : ∀ (H1 : Heap) (locs1 : List Loc), va_P D cl (w q.2) H1 → va_D A (w q.2) → va_S A s.heap H1 locs1 → W p l e R s m args below meth c H1 locs1 cells slots Q (F0 m (pc + 3) ls (.int q.1 :: rest))) : W p l e R s m args below meth c H locs cells slots Q (F0 m pc ls st0) :=
  kc_after (va_runSN (g := F0 m pc ls st0) F (hM H.size) cw ⟨kc_blind hZk _ _, fun U hU hW => ⟨rfl, kc_start hZk hK hP hD hS hA hZ U hU hW⟩⟩ rfl hn hsize hstack (lv_room hroom) hdg hf) hD hS hA kk
theorem kc_SNr {y : MethodName} {ws1 : List Cond} {rm1 : Room} {bytes cc : ByteArray} {maxL nL n index pc : Nat} {ret : Option FieldType} {Ts : List Cond} {own C host : String} {b : Addr} {As rest st0 : List Value} {ls : Array Slot} {v : Int32} (hM : KB l y ws1 rm1 D cl tys Z w As σ (v, σ)) (F : CallFix p m c cc nL s args Ts own) (cw : va_CN R s args own index y host bytes maxL ret ws1 rm1 0 0 n ∧ (Cond.static y).before args s = true ∧ True) (hZk : kc_Zok Z) (hK : va_K D cl tys s) (hP : va_P D cl (w σ) H) (hD : va_D A (w σ)) (hS : va_S A s.heap H locs) (hA : ∀ q, s.heap.size ≤ q → A q) (hZ : Z A s s.heap) (hn : As.length = n) (hsize : ls.size = nL) (hstack : st0 = As.reverse ++ rest) (hroom : (rest.map fun v => v.category).sum ≤ 8) (hdg : decode cc pc = .ok (.invokestatic index, 3)) (hf : cells + 0 ≤ R.cells ∧ slots + 0 ≤ R.slots)
    (kk : ∀ (H1 : Heap) (locs1 : List Loc), va_P D cl (w σ) H1 → va_D A (w σ) → va_S A s.heap H1 locs1 → W p l e R s m args below meth c H1 locs1 cells slots Q (F0 m (pc + 3) ls (.int v :: rest))) : W p l e R s m args below meth c H locs cells slots Q (F0 m pc ls st0) :=
  kc_after (va_runSN (g := F0 m pc ls st0) F (hM H.size) cw ⟨kc_blind hZk _ _, fun U hU hW => ⟨rfl, kc_start hZk hK hP hD hS hA hZ U hU hW⟩⟩ rfl hn hsize hstack (lv_room hroom) hdg hf) hD hS hA kk
theorem kc_SNv {y : MethodName} {ws1 : List Cond} {rm1 : Room} {bytes cc : ByteArray} {maxL nL n index pc : Nat} {ret : Option FieldType} {Ts : List Cond} {own C host : String} {b : Addr} {As rest st0 : List Value} {ls : Array Slot} {v : S} (hM : KV l y ws1 rm1 D cl tys Z w As σ v) (F : CallFix p m c cc nL s args Ts own) (cw : va_CN R s args own index y host bytes maxL ret ws1 rm1 0 0 n ∧ (Cond.static y).before args s = true ∧ True) (hZk : kc_Zok Z) (hK : va_K D cl tys s) (hP : va_P D cl (w σ) H) (hD : va_D A (w σ)) (hS : va_S A s.heap H locs) (hA : ∀ q, s.heap.size ≤ q → A q) (hZ : Z A s s.heap) (hn : As.length = n) (hsize : ls.size = nL) (hstack : st0 = As.reverse ++ rest) (hroom : (rest.map fun v => v.category).sum ≤ 8) (hdg : decode cc pc = .ok (.invokestatic index, 3)) (hf : cells + 0 ≤ R.cells ∧ slots + 0 ≤ R.slots)
    (kk : ∀ (H1 : Heap) (locs1 : List Loc), va_P D cl (w v) H1 → va_D A (w v) → va_S A s.heap H1 locs1 → W p l e R s m args below meth c H1 locs1 cells slots Q (F0 m (pc + 3) ls rest)) : W p l e R s m args below meth c H locs cells slots Q (F0 m pc ls st0) :=
  kc_afterv (va_runSN (g := F0 m pc ls st0) F (hM H.size) cw ⟨kc_blind hZk _ _, fun U hU hW => ⟨rfl, kc_start hZk hK hP hD hS hA hZ U hU hW⟩⟩ rfl hn hsize hstack (lv_room hroom) hdg hf) hD hS hA kk
theorem kp_Si {y : MethodName} {ws1 : List Cond} {rm1 : Room} {bytes cc : ByteArray} {maxL nL n index pc : Nat} {ret : Option FieldType} {Ts : List Cond} {own C host : String} {b : Addr} {As rest st0 : List Value} {ls : Array Slot} {v : Int32} (hM : KPi l y ws1 rm1 As v) (F : CallFix p m c cc nL s args Ts own) (cw : CallB R s args own index y bytes maxL ret ws1 rm1 0 0 n ∧ (Cond.static y).before args s = true) (hn : As.length = n) (hsize : ls.size = nL) (hstack : st0 = As.reverse ++ rest) (hroom : (rest.map fun v => v.category).sum ≤ 8) (hdg : decode cc pc = .ok (.invokestatic index, 3)) (hf : cells + 0 ≤ R.cells ∧ slots + 0 ≤ R.slots)
    (kk : W p l e R s m args below meth c H locs cells slots Q (F0 m (pc + 3) ls (.int v :: rest))) : W p l e R s m args below meth c H locs cells slots Q (F0 m pc ls st0) := by
  intro T hT X
  obtain ⟨v1, st₀, t, T', L, h0, X', hL, e1, e2, ⟨hv, hh⟩, st⟩ := va_runS (g := F0 m pc ls st0) F hM cw ⟨fun a U g mk q => q, fun U hU hW => ⟨rfl, trivial⟩⟩ rfl hn hsize hstack (lv_room hroom) hdg hf T hT X
  have hL0 : L = [] := by
    cases L with
    | nil => rfl
    | cons x xs => exact (hL x List.mem_cons_self).elim
  subst hL0
  rw [List.append_nil] at X'
  cases hv
  obtain ⟨t2, a1, b1⟩ := kk T' (by rw [e1, hh, h0]) X'
  exact ⟨t2, st t2 a1, b1⟩
theorem kp_Sl {y : MethodName} {ws1 : List Cond} {rm1 : Room} {bytes cc : ByteArray} {maxL nL n index pc : Nat} {ret : Option FieldType} {Ts : List Cond} {own C host : String} {b : Addr} {As rest st0 : List Value} {ls : Array Slot} {v : Int64} (hM : KPl l y ws1 rm1 As v) (F : CallFix p m c cc nL s args Ts own) (cw : CallB R s args own index y bytes maxL ret ws1 rm1 0 0 n ∧ (Cond.static y).before args s = true) (hn : As.length = n) (hsize : ls.size = nL) (hstack : st0 = As.reverse ++ rest) (hroom : (rest.map fun v => v.category).sum ≤ 8) (hdg : decode cc pc = .ok (.invokestatic index, 3)) (hf : cells + 0 ≤ R.cells ∧ slots + 0 ≤ R.slots)
    (kk : W p l e R s m args below meth c H locs cells slots Q (F0 m (pc + 3) ls (.long v :: rest))) : W p l e R s m args below meth c H locs cells slots Q (F0 m pc ls st0) := by
  intro T hT X
  obtain ⟨v1, st₀, t, T', L, h0, X', hL, e1, e2, ⟨hv, hh⟩, st⟩ := va_runS (g := F0 m pc ls st0) F hM cw ⟨fun a U g mk q => q, fun U hU hW => ⟨rfl, trivial⟩⟩ rfl hn hsize hstack (lv_room hroom) hdg hf T hT X
  have hL0 : L = [] := by
    cases L with
    | nil => rfl
    | cons x xs => exact (hL x List.mem_cons_self).elim
  subst hL0
  rw [List.append_nil] at X'
  cases hv
  obtain ⟨t2, a1, b1⟩ := kk T' (by rw [e1, hh, h0]) X'
  exact ⟨t2, st t2 a1, b1⟩
theorem kp_SNi {y : MethodName} {ws1 : List Cond} {rm1 : Room} {bytes cc : ByteArray} {maxL nL n index pc : Nat} {ret : Option FieldType} {Ts : List Cond} {own C host : String} {b : Addr} {As rest st0 : List Value} {ls : Array Slot} {v : Int32} (hM : KPi l y ws1 rm1 As v) (F : CallFix p m c cc nL s args Ts own) (cw : va_CN R s args own index y host bytes maxL ret ws1 rm1 0 0 n ∧ (Cond.static y).before args s = true ∧ True) (hn : As.length = n) (hsize : ls.size = nL) (hstack : st0 = As.reverse ++ rest) (hroom : (rest.map fun v => v.category).sum ≤ 8) (hdg : decode cc pc = .ok (.invokestatic index, 3)) (hf : cells + 0 ≤ R.cells ∧ slots + 0 ≤ R.slots)
    (kk : W p l e R s m args below meth c H locs cells slots Q (F0 m (pc + 3) ls (.int v :: rest))) : W p l e R s m args below meth c H locs cells slots Q (F0 m pc ls st0) := by
  intro T hT X
  obtain ⟨v1, st₀, t, T', L, h0, X', hL, e1, e2, ⟨hv, hh⟩, st⟩ := va_runSN (g := F0 m pc ls st0) F hM cw ⟨fun a U g mk q => q, fun U hU hW => ⟨rfl, trivial⟩⟩ rfl hn hsize hstack (lv_room hroom) hdg hf T hT X
  have hL0 : L = [] := by
    cases L with
    | nil => rfl
    | cons x xs => exact (hL x List.mem_cons_self).elim
  subst hL0
  rw [List.append_nil] at X'
  cases hv
  obtain ⟨t2, a1, b1⟩ := kk T' (by rw [e1, hh, h0]) X'
  exact ⟨t2, st t2 a1, b1⟩
theorem kp_SNl {y : MethodName} {ws1 : List Cond} {rm1 : Room} {bytes cc : ByteArray} {maxL nL n index pc : Nat} {ret : Option FieldType} {Ts : List Cond} {own C host : String} {b : Addr} {As rest st0 : List Value} {ls : Array Slot} {v : Int64} (hM : KPl l y ws1 rm1 As v) (F : CallFix p m c cc nL s args Ts own) (cw : va_CN R s args own index y host bytes maxL ret ws1 rm1 0 0 n ∧ (Cond.static y).before args s = true ∧ True) (hn : As.length = n) (hsize : ls.size = nL) (hstack : st0 = As.reverse ++ rest) (hroom : (rest.map fun v => v.category).sum ≤ 8) (hdg : decode cc pc = .ok (.invokestatic index, 3)) (hf : cells + 0 ≤ R.cells ∧ slots + 0 ≤ R.slots)
    (kk : W p l e R s m args below meth c H locs cells slots Q (F0 m (pc + 3) ls (.long v :: rest))) : W p l e R s m args below meth c H locs cells slots Q (F0 m pc ls st0) := by
  intro T hT X
  obtain ⟨v1, st₀, t, T', L, h0, X', hL, e1, e2, ⟨hv, hh⟩, st⟩ := va_runSN (g := F0 m pc ls st0) F hM cw ⟨fun a U g mk q => q, fun U hU hW => ⟨rfl, trivial⟩⟩ rfl hn hsize hstack (lv_room hroom) hdg hf T hT X
  have hL0 : L = [] := by
    cases L with
    | nil => rfl
    | cons x xs => exact (hL x List.mem_cons_self).elim
  subst hL0
  rw [List.append_nil] at X'
  cases hv
  obtain ⟨t2, a1, b1⟩ := kk T' (by rw [e1, hh, h0]) X'
  exact ⟨t2, st t2 a1, b1⟩
theorem kc_in_b {y : MethodName} {ws ws' : List Cond} {rm : Room} {cc : ByteArray} {maxL : Nat} {av : List Value} {q : Int32 × S} (hy : plainName y.cls = true) (hw : ws = Cond.code y cc maxL (some .int) :: ws') (hn : (lg_sl av).length ≤ maxL)
    (body : ∀ (p : Program) (e : Env) (s : State) (m : MethodId) (args : Array Value) (below : List Frame) (meth : Method) (c : Code) (A : Nat → Prop) (Q : State → Prop) (ls : Array Slot), p.tables.exec = Jvm.exec → c.code = cc → c.maxLocals = maxL → s.vm.findClass y.cls = some m.cls → (∀ x ∈ ws, x.before args s = true) → va_K D cl tys s → va_P D cl (w σ) s.heap → va_D A (w σ) → (∀ q, s.heap.size ≤ q → A q) → va_S A s.heap s.heap [] → Z A s s.heap → lv_has ls maxL (lv_args 0 av) →
      (∀ (r : Int32) (u : S) (H1 : Heap) (locs1 : List Loc) (pc : Nat) (ls : Array Slot), q = (r, u) → va_P D cl (w u) H1 → va_D A (w u) → va_S A s.heap H1 locs1 → decode cc pc = .ok (.ireturn, 1) → W p l e rm s m args below meth c H1 locs1 0 0 Q (F0 m pc ls [.int r])) →
      W p l e rm s m args below meth c s.heap [] 0 0 Q (F0 m 0 ls [])) : KB l y ws rm D cl tys Z w av σ q := by
  intro sz
  refine Met.ofW (cc := cc) (maxL := maxL) (ret := (some .int)) hy hw ?_
  intro p e s m args below meth c s₁ B hml hv
  obtain ⟨rfl, hsz, hP, hK, hD0, hZ⟩ := hv
  have hx := B.exec
  have hb := B.bytes
  have hr := B.returns
  have hts := atoms_spec (ws := ws) B.pre
  have hown : s.vm.findClass y.cls = some m.cls := findClass_of_methodNamed B.named
  have hlocks := B.notSynchronized
  subst hsz
  have hD := hD0.self (sz := s.heap.size)
  have hA : ∀ q : Nat, s.heap.size ≤ q → va_A (w σ) s.heap.size q := fun q h => Or.inr h
  have hS : va_S (va_A (w σ) s.heap.size) s.heap s.heap [] := va_S.rf
  have hl := lv_entry av (n := maxL) hn
  rw [lg_entry_eq]
  refine body p e s m _ below meth c _ _ _ hx hb hml hown hts hK hP hD hA hS hZ hl ?_
  intro r u H1 locs1 pc ls hq hP1 hD1 hS1 hdg
  subst hq
  exact W.iret (v := r) hx hb hr (fun t ht hW => ⟨⟨r, u, rfl, ⟨rfl, rfl⟩, by rw [ht]; exact hP1, va_K.moved hW.alike hK, hD1⟩, hS1.F ht⟩) hS1.2.2 hdg
theorem kc_in_z {y : MethodName} {ws ws' : List Cond} {rm : Room} {cc : ByteArray} {maxL : Nat} {av : List Value} {q : Bool × S} (hy : plainName y.cls = true) (hw : ws = Cond.code y cc maxL (some .boolean) :: ws') (hn : (lg_sl av).length ≤ maxL)
    (body : ∀ (p : Program) (e : Env) (s : State) (m : MethodId) (args : Array Value) (below : List Frame) (meth : Method) (c : Code) (A : Nat → Prop) (Q : State → Prop) (ls : Array Slot), p.tables.exec = Jvm.exec → c.code = cc → c.maxLocals = maxL → s.vm.findClass y.cls = some m.cls → (∀ x ∈ ws, x.before args s = true) → va_K D cl tys s → va_P D cl (w σ) s.heap → va_D A (w σ) → (∀ q, s.heap.size ≤ q → A q) → va_S A s.heap s.heap [] → Z A s s.heap → lv_has ls maxL (lv_args 0 av) →
      (∀ (r : Bool) (u : S) (H1 : Heap) (locs1 : List Loc) (pc : Nat) (ls : Array Slot), q = (r, u) → va_P D cl (w u) H1 → va_D A (w u) → va_S A s.heap H1 locs1 → decode cc pc = .ok (.ireturn, 1) → W p l e rm s m args below meth c H1 locs1 0 0 Q (F0 m pc ls [.int (b01 r)])) →
      W p l e rm s m args below meth c s.heap [] 0 0 Q (F0 m 0 ls [])) : KB l y ws rm D cl tys Z w av σ (b01 q.1, q.2) := by
  intro sz
  refine Met.ofW (cc := cc) (maxL := maxL) (ret := (some .boolean)) hy hw ?_
  intro p e s m args below meth c s₁ B hml hv
  obtain ⟨rfl, hsz, hP, hK, hD0, hZ⟩ := hv
  have hx := B.exec
  have hb := B.bytes
  have hr := B.returns
  have hts := atoms_spec (ws := ws) B.pre
  have hown : s.vm.findClass y.cls = some m.cls := findClass_of_methodNamed B.named
  have hlocks := B.notSynchronized
  subst hsz
  have hD := hD0.self (sz := s.heap.size)
  have hA : ∀ q : Nat, s.heap.size ≤ q → va_A (w σ) s.heap.size q := fun q h => Or.inr h
  have hS : va_S (va_A (w σ) s.heap.size) s.heap s.heap [] := va_S.rf
  have hl := lv_entry av (n := maxL) hn
  rw [lg_entry_eq]
  refine body p e s m _ below meth c _ _ _ hx hb hml hown hts hK hP hD hA hS hZ hl ?_
  intro r u H1 locs1 pc ls hq hP1 hD1 hS1 hdg
  subst hq
  exact W.zret (v := b01 r) hx hb hr (b01_nar r) (fun t ht hW => ⟨⟨b01 r, u, rfl, ⟨rfl, rfl⟩, by rw [ht]; exact hP1, va_K.moved hW.alike hK, hD1⟩, hS1.F ht⟩) hS1.2.2 hdg
theorem kc_in_r {y : MethodName} {ws ws' : List Cond} {rm : Room} {cc : ByteArray} {maxL : Nat} {av : List Value} {q : Int32} (hy : plainName y.cls = true) (hw : ws = Cond.code y cc maxL (some .int) :: ws') (hn : (lg_sl av).length ≤ maxL)
    (body : ∀ (p : Program) (e : Env) (s : State) (m : MethodId) (args : Array Value) (below : List Frame) (meth : Method) (c : Code) (A : Nat → Prop) (Q : State → Prop) (ls : Array Slot), p.tables.exec = Jvm.exec → c.code = cc → c.maxLocals = maxL → s.vm.findClass y.cls = some m.cls → (∀ x ∈ ws, x.before args s = true) → va_K D cl tys s → va_P D cl (w σ) s.heap → va_D A (w σ) → (∀ q, s.heap.size ≤ q → A q) → va_S A s.heap s.heap [] → Z A s s.heap → lv_has ls maxL (lv_args 0 av) →
      (∀ (r : Int32) (H1 : Heap) (locs1 : List Loc) (pc : Nat) (ls : Array Slot), q = r → va_P D cl (w σ) H1 → va_D A (w σ) → va_S A s.heap H1 locs1 → decode cc pc = .ok (.ireturn, 1) → W p l e rm s m args below meth c H1 locs1 0 0 Q (F0 m pc ls [.int r])) →
      W p l e rm s m args below meth c s.heap [] 0 0 Q (F0 m 0 ls [])) : KB l y ws rm D cl tys Z w av σ (q, σ) := by
  intro sz
  refine Met.ofW (cc := cc) (maxL := maxL) (ret := (some .int)) hy hw ?_
  intro p e s m args below meth c s₁ B hml hv
  obtain ⟨rfl, hsz, hP, hK, hD0, hZ⟩ := hv
  have hx := B.exec
  have hb := B.bytes
  have hr := B.returns
  have hts := atoms_spec (ws := ws) B.pre
  have hown : s.vm.findClass y.cls = some m.cls := findClass_of_methodNamed B.named
  have hlocks := B.notSynchronized
  subst hsz
  have hD := hD0.self (sz := s.heap.size)
  have hA : ∀ q : Nat, s.heap.size ≤ q → va_A (w σ) s.heap.size q := fun q h => Or.inr h
  have hS : va_S (va_A (w σ) s.heap.size) s.heap s.heap [] := va_S.rf
  have hl := lv_entry av (n := maxL) hn
  rw [lg_entry_eq]
  refine body p e s m _ below meth c _ _ _ hx hb hml hown hts hK hP hD hA hS hZ hl ?_
  intro r H1 locs1 pc ls hq hP1 hD1 hS1 hdg
  subst hq
  exact W.iret (v := q) hx hb hr (fun t ht hW => ⟨⟨q, σ, rfl, ⟨rfl, rfl⟩, by rw [ht]; exact hP1, va_K.moved hW.alike hK, hD1⟩, hS1.F ht⟩) hS1.2.2 hdg
theorem kc_in_y {y : MethodName} {ws ws' : List Cond} {rm : Room} {cc : ByteArray} {maxL : Nat} {av : List Value} {q : Bool} (hy : plainName y.cls = true) (hw : ws = Cond.code y cc maxL (some .boolean) :: ws') (hn : (lg_sl av).length ≤ maxL)
    (body : ∀ (p : Program) (e : Env) (s : State) (m : MethodId) (args : Array Value) (below : List Frame) (meth : Method) (c : Code) (A : Nat → Prop) (Q : State → Prop) (ls : Array Slot), p.tables.exec = Jvm.exec → c.code = cc → c.maxLocals = maxL → s.vm.findClass y.cls = some m.cls → (∀ x ∈ ws, x.before args s = true) → va_K D cl tys s → va_P D cl (w σ) s.heap → va_D A (w σ) → (∀ q, s.heap.size ≤ q → A q) → va_S A s.heap s.heap [] → Z A s s.heap → lv_has ls maxL (lv_args 0 av) →
      (∀ (r : Bool) (H1 : Heap) (locs1 : List Loc) (pc : Nat) (ls : Array Slot), q = r → va_P D cl (w σ) H1 → va_D A (w σ) → va_S A s.heap H1 locs1 → decode cc pc = .ok (.ireturn, 1) → W p l e rm s m args below meth c H1 locs1 0 0 Q (F0 m pc ls [.int (b01 r)])) →
      W p l e rm s m args below meth c s.heap [] 0 0 Q (F0 m 0 ls [])) : KB l y ws rm D cl tys Z w av σ (b01 q, σ) := by
  intro sz
  refine Met.ofW (cc := cc) (maxL := maxL) (ret := (some .boolean)) hy hw ?_
  intro p e s m args below meth c s₁ B hml hv
  obtain ⟨rfl, hsz, hP, hK, hD0, hZ⟩ := hv
  have hx := B.exec
  have hb := B.bytes
  have hr := B.returns
  have hts := atoms_spec (ws := ws) B.pre
  have hown : s.vm.findClass y.cls = some m.cls := findClass_of_methodNamed B.named
  have hlocks := B.notSynchronized
  subst hsz
  have hD := hD0.self (sz := s.heap.size)
  have hA : ∀ q : Nat, s.heap.size ≤ q → va_A (w σ) s.heap.size q := fun q h => Or.inr h
  have hS : va_S (va_A (w σ) s.heap.size) s.heap s.heap [] := va_S.rf
  have hl := lv_entry av (n := maxL) hn
  rw [lg_entry_eq]
  refine body p e s m _ below meth c _ _ _ hx hb hml hown hts hK hP hD hA hS hZ hl ?_
  intro r H1 locs1 pc ls hq hP1 hD1 hS1 hdg
  subst hq
  exact W.zret (v := b01 q) hx hb hr (b01_nar q) (fun t ht hW => ⟨⟨b01 q, σ, rfl, ⟨rfl, rfl⟩, by rw [ht]; exact hP1, va_K.moved hW.alike hK, hD1⟩, hS1.F ht⟩) hS1.2.2 hdg
theorem kc_in_v {y : MethodName} {ws ws' : List Cond} {rm : Room} {cc : ByteArray} {maxL : Nat} {av : List Value} {q : S} (hy : plainName y.cls = true) (hw : ws = Cond.code y cc maxL none :: ws') (hn : (lg_sl av).length ≤ maxL)
    (body : ∀ (p : Program) (e : Env) (s : State) (m : MethodId) (args : Array Value) (below : List Frame) (meth : Method) (c : Code) (A : Nat → Prop) (Q : State → Prop) (ls : Array Slot), p.tables.exec = Jvm.exec → c.code = cc → c.maxLocals = maxL → s.vm.findClass y.cls = some m.cls → (∀ x ∈ ws, x.before args s = true) → va_K D cl tys s → va_P D cl (w σ) s.heap → va_D A (w σ) → (∀ q, s.heap.size ≤ q → A q) → va_S A s.heap s.heap [] → Z A s s.heap → lv_has ls maxL (lv_args 0 av) →
      (∀ (u : S) (H1 : Heap) (locs1 : List Loc) (pc : Nat) (ls : Array Slot), q = u → va_P D cl (w u) H1 → va_D A (w u) → va_S A s.heap H1 locs1 → decode cc pc = .ok (.return_, 1) → W p l e rm s m args below meth c H1 locs1 0 0 Q (F0 m pc ls [])) →
      W p l e rm s m args below meth c s.heap [] 0 0 Q (F0 m 0 ls [])) : KV l y ws rm D cl tys Z w av σ q := by
  intro sz
  refine Met.ofW (cc := cc) (maxL := maxL) (ret := none) hy hw ?_
  intro p e s m args below meth c s₁ B hml hv
  obtain ⟨rfl, hsz, hP, hK, hD0, hZ⟩ := hv
  have hx := B.exec
  have hb := B.bytes
  have hr := B.returns
  have hts := atoms_spec (ws := ws) B.pre
  have hown : s.vm.findClass y.cls = some m.cls := findClass_of_methodNamed B.named
  have hlocks := B.notSynchronized
  subst hsz
  have hD := hD0.self (sz := s.heap.size)
  have hA : ∀ q : Nat, s.heap.size ≤ q → va_A (w σ) s.heap.size q := fun q h => Or.inr h
  have hS : va_S (va_A (w σ) s.heap.size) s.heap s.heap [] := va_S.rf
  have hl := lv_entry av (n := maxL) hn
  rw [lg_entry_eq]
  refine body p e s m _ below meth c _ _ _ hx hb hml hown hts hK hP hD hA hS hZ hl ?_
  intro u H1 locs1 pc ls hq hP1 hD1 hS1 hdg
  subst hq
  exact W.vret hx hb hr (fun t ht hW => ⟨⟨q, rfl, rfl, by rw [ht]; exact hP1, va_K.moved hW.alike hK, hD1⟩, hS1.F ht⟩) hS1.2.2 hdg
theorem kp_in_i {y : MethodName} {ws ws' : List Cond} {rm : Room} {cc : ByteArray} {maxL : Nat} {av : List Value} {q : Int32} (hy : plainName y.cls = true) (hw : ws = Cond.code y cc maxL (some .int) :: ws') (hn : (lg_sl av).length ≤ maxL)
    (body : ∀ (p : Program) (e : Env) (s : State) (m : MethodId) (args : Array Value) (below : List Frame) (meth : Method) (c : Code) (Q : State → Prop) (ls : Array Slot), p.tables.exec = Jvm.exec → c.code = cc → c.maxLocals = maxL → s.vm.findClass y.cls = some m.cls → (∀ x ∈ ws, x.before args s = true) → lv_has ls maxL (lv_args 0 av) →
      (∀ (r : Int32) (pc : Nat) (ls : Array Slot), q = r → decode cc pc = .ok (.ireturn, 1) → W p l e rm s m args below meth c s.heap [] 0 0 Q (F0 m pc ls [.int r])) →
      W p l e rm s m args below meth c s.heap [] 0 0 Q (F0 m 0 ls [])) : KPi l y ws rm av q := by
  refine Met.ofW (cc := cc) (maxL := maxL) (ret := (some .int)) hy hw ?_
  intro p e s m args below meth c s₁ B hml hv
  obtain ⟨rfl, -⟩ := hv
  have hx := B.exec
  have hb := B.bytes
  have hr := B.returns
  have hts := atoms_spec (ws := ws) B.pre
  have hown : s.vm.findClass y.cls = some m.cls := findClass_of_methodNamed B.named
  have hlocks := B.notSynchronized
  have hl := lv_entry av (n := maxL) hn
  rw [lg_entry_eq]
  refine body p e s m _ below meth c _ _ hx hb hml hown hts hl ?_
  intro r pc ls hq hdg
  subst hq
  exact W.iret (v := q) hx hb hr (fun t ht hW => ⟨rfl, ht⟩) (fun _ h => by cases h) hdg
theorem kp_in_z {y : MethodName} {ws ws' : List Cond} {rm : Room} {cc : ByteArray} {maxL : Nat} {av : List Value} {q : Bool} (hy : plainName y.cls = true) (hw : ws = Cond.code y cc maxL (some .boolean) :: ws') (hn : (lg_sl av).length ≤ maxL)
    (body : ∀ (p : Program) (e : Env) (s : State) (m : MethodId) (args : Array Value) (below : List Frame) (meth : Method) (c : Code) (Q : State → Prop) (ls : Array Slot), p.tables.exec = Jvm.exec → c.code = cc → c.maxLocals = maxL → s.vm.findClass y.cls = some m.cls → (∀ x ∈ ws, x.before args s = true) → lv_has ls maxL (lv_args 0 av) →
      (∀ (r : Bool) (pc : Nat) (ls : Array Slot), q = r → decode cc pc = .ok (.ireturn, 1) → W p l e rm s m args below meth c s.heap [] 0 0 Q (F0 m pc ls [.int (b01 r)])) →
      W p l e rm s m args below meth c s.heap [] 0 0 Q (F0 m 0 ls [])) : KPi l y ws rm av (b01 q) := by
  refine Met.ofW (cc := cc) (maxL := maxL) (ret := (some .boolean)) hy hw ?_
  intro p e s m args below meth c s₁ B hml hv
  obtain ⟨rfl, -⟩ := hv
  have hx := B.exec
  have hb := B.bytes
  have hr := B.returns
  have hts := atoms_spec (ws := ws) B.pre
  have hown : s.vm.findClass y.cls = some m.cls := findClass_of_methodNamed B.named
  have hlocks := B.notSynchronized
  have hl := lv_entry av (n := maxL) hn
  rw [lg_entry_eq]
  refine body p e s m _ below meth c _ _ hx hb hml hown hts hl ?_
  intro r pc ls hq hdg
  subst hq
  exact W.zret (v := b01 q) hx hb hr (b01_nar q) (fun t ht hW => ⟨rfl, ht⟩) (fun _ h => by cases h) hdg
theorem kp_in_l {y : MethodName} {ws ws' : List Cond} {rm : Room} {cc : ByteArray} {maxL : Nat} {av : List Value} {q : Int64} (hy : plainName y.cls = true) (hw : ws = Cond.code y cc maxL (some .long) :: ws') (hn : (lg_sl av).length ≤ maxL)
    (body : ∀ (p : Program) (e : Env) (s : State) (m : MethodId) (args : Array Value) (below : List Frame) (meth : Method) (c : Code) (Q : State → Prop) (ls : Array Slot), p.tables.exec = Jvm.exec → c.code = cc → c.maxLocals = maxL → s.vm.findClass y.cls = some m.cls → (∀ x ∈ ws, x.before args s = true) → lv_has ls maxL (lv_args 0 av) →
      (∀ (r : Int64) (pc : Nat) (ls : Array Slot), q = r → decode cc pc = .ok (.lreturn, 1) → W p l e rm s m args below meth c s.heap [] 0 0 Q (F0 m pc ls [.long r])) →
      W p l e rm s m args below meth c s.heap [] 0 0 Q (F0 m 0 ls [])) : KPl l y ws rm av q := by
  refine Met.ofW (cc := cc) (maxL := maxL) (ret := (some .long)) hy hw ?_
  intro p e s m args below meth c s₁ B hml hv
  obtain ⟨rfl, -⟩ := hv
  have hx := B.exec
  have hb := B.bytes
  have hr := B.returns
  have hts := atoms_spec (ws := ws) B.pre
  have hown : s.vm.findClass y.cls = some m.cls := findClass_of_methodNamed B.named
  have hlocks := B.notSynchronized
  have hl := lv_entry av (n := maxL) hn
  rw [lg_entry_eq]
  refine body p e s m _ below meth c _ _ hx hb hml hown hts hl ?_
  intro r pc ls hq hdg
  subst hq
  exact W.lret (v := q) hx hb hr (fun t ht hW => ⟨rfl, ht⟩) (fun _ h => by cases h) hdg
/-- booleans as 0 and 1 on the stack -/
theorem kz_t {c0 : Prop} [Decidable c0] {pc : Nat} {ls : Array Slot} {rest : List Value} (h : c0) (J : W p l e R s m args below meth c H locs cells slots Q (F0 m pc ls (.int (b01 (decide c0)) :: rest))) : W p l e R s m args below meth c H locs cells slots Q (F0 m pc ls (.int 1 :: rest)) := by
  rw [decide_eq_true h] at J; exact J
theorem kz_f {c0 : Prop} [Decidable c0] {pc : Nat} {ls : Array Slot} {rest : List Value} (h : ¬ c0) (J : W p l e R s m args below meth c H locs cells slots Q (F0 m pc ls (.int (b01 (decide c0)) :: rest))) : W p l e R s m args below meth c H locs cells slots Q (F0 m pc ls (.int 0 :: rest)) := by
  rw [decide_eq_false h] at J; exact J
theorem kz_eq {cc : ByteArray} {pc tgt : Nat} {ls : Array Slot} {rest : List Value} (hexec : p.tables.exec = Jvm.exec) (hb : c.code = cc) {x : Bool} {off : Int} (hdg : decode cc pc = .ok (.ifCond .eq off, 3)) (ht : (pc : Int) + off = (tgt : Int))
    (kt : ¬ x = true → W p l e R s m args below meth c H locs cells slots Q (F0 m tgt ls rest)) (kf : x = true → W p l e R s m args below meth c H locs cells slots Q (F0 m (pc + 3) ls rest)) : W p l e R s m args below meth c H locs cells slots Q (F0 m pc ls (.int (b01 x) :: rest)) :=
  lv_if_eq hexec hb hdg ht (fun h => kt (b01_eq0.mp h)) (fun h => kf (Classical.byContradiction fun q => h (b01_eq0.mpr q)))
theorem kz_ne {cc : ByteArray} {pc tgt : Nat} {ls : Array Slot} {rest : List Value} (hexec : p.tables.exec = Jvm.exec) (hb : c.code = cc) {x : Bool} {off : Int} (hdg : decode cc pc = .ok (.ifCond .ne off, 3)) (ht : (pc : Int) + off = (tgt : Int))
    (kt : x = true → W p l e R s m args below meth c H locs cells slots Q (F0 m tgt ls rest)) (kf : ¬ x = true → W p l e R s m args below meth c H locs cells slots Q (F0 m (pc + 3) ls rest)) : W p l e R s m args below meth c H locs cells slots Q (F0 m pc ls (.int (b01 x) :: rest)) :=
  lv_if_ne hexec hb hdg ht (fun h => kt (Classical.byContradiction fun q => h (b01_eq0.mpr q))) (fun h => kf (b01_eq0.mp h))
theorem kz_dP0 {P : Prop} [Decidable P] {cc : ByteArray} {pc tgt M : Nat} {off2 : Int} {ls : Array Slot} {rest st0 : List Value} (hbr : (P → W p l e R s m args below meth c H locs cells slots Q (F0 m tgt ls rest)) → (¬ P → W p l e R s m args below meth c H locs cells slots Q (F0 m (pc + 3) ls rest)) → W p l e R s m args below meth c H locs cells slots Q (F0 m pc ls st0)) (hexec : p.tables.exec = Jvm.exec) (hb : c.code = cc) (d2 : decode cc (pc + 3) = .ok (.iconst 1, 1)) (d3 : decode cc (pc + 3 + 1) = .ok (.goto off2, 3)) (ht : ((pc + 3 + 1 : Nat) : Int) + off2 = (M : Int)) (d4 : decode cc tgt = .ok (.iconst 0, 1)) (hM : tgt + 1 = M)
    (k : W p l e R s m args below meth c H locs cells slots Q (F0 m M ls (.int (b01 (decide (¬ P))) :: rest))) : W p l e R s m args below meth c H locs cells slots Q (F0 m pc ls st0) := by
  subst hM
  refine hbr (fun h => ?_) (fun h => ?_)
  · refine lv_iconst (v := 0) hexec hb d4 (by decide) ?_
    exact kz_f (c0 := ¬ P) (fun q => q h) k
  · refine lv_iconst (v := 1) hexec hb d2 (by decide) ?_
    refine lv_goto hexec hb d3 ht ?_
    exact kz_t (c0 := ¬ P) (h) k
theorem kz_dP1 {P : Prop} [Decidable P] {cc : ByteArray} {pc tgt M : Nat} {off2 : Int} {ls : Array Slot} {rest st0 : List Value} (hbr : (P → W p l e R s m args below meth c H locs cells slots Q (F0 m tgt ls rest)) → (¬ P → W p l e R s m args below meth c H locs cells slots Q (F0 m (pc + 3) ls rest)) → W p l e R s m args below meth c H locs cells slots Q (F0 m pc ls st0)) (hexec : p.tables.exec = Jvm.exec) (hb : c.code = cc) (d2 : decode cc (pc + 3) = .ok (.iconst 0, 1)) (d3 : decode cc (pc + 3 + 1) = .ok (.goto off2, 3)) (ht : ((pc + 3 + 1 : Nat) : Int) + off2 = (M : Int)) (d4 : decode cc tgt = .ok (.iconst 1, 1)) (hM : tgt + 1 = M)
    (k : W p l e R s m args below meth c H locs cells slots Q (F0 m M ls (.int (b01 (decide (P))) :: rest))) : W p l e R s m args below meth c H locs cells slots Q (F0 m pc ls st0) := by
  subst hM
  refine hbr (fun h => ?_) (fun h => ?_)
  · refine lv_iconst (v := 1) hexec hb d4 (by decide) ?_
    exact kz_t (c0 := P) (h) k
  · refine lv_iconst (v := 0) hexec hb d2 (by decide) ?_
    refine lv_goto hexec hb d3 ht ?_
    exact kz_f (c0 := P) h k
theorem kz_dN0 {P : Prop} [Decidable P] {cc : ByteArray} {pc tgt M : Nat} {off2 : Int} {ls : Array Slot} {rest st0 : List Value} (hbr : (¬ P → W p l e R s m args below meth c H locs cells slots Q (F0 m tgt ls rest)) → (P → W p l e R s m args below meth c H locs cells slots Q (F0 m (pc + 3) ls rest)) → W p l e R s m args below meth c H locs cells slots Q (F0 m pc ls st0)) (hexec : p.tables.exec = Jvm.exec) (hb : c.code = cc) (d2 : decode cc (pc + 3) = .ok (.iconst 1, 1)) (d3 : decode cc (pc + 3 + 1) = .ok (.goto off2, 3)) (ht : ((pc + 3 + 1 : Nat) : Int) + off2 = (M : Int)) (d4 : decode cc tgt = .ok (.iconst 0, 1)) (hM : tgt + 1 = M)
    (k : W p l e R s m args below meth c H locs cells slots Q (F0 m M ls (.int (b01 (decide (P))) :: rest))) : W p l e R s m args below meth c H locs cells slots Q (F0 m pc ls st0) := by
  subst hM
  refine hbr (fun h => ?_) (fun h => ?_)
  · refine lv_iconst (v := 0) hexec hb d4 (by decide) ?_
    exact kz_f (c0 := P) h k
  · refine lv_iconst (v := 1) hexec hb d2 (by decide) ?_
    refine lv_goto hexec hb d3 ht ?_
    exact kz_t (c0 := P) (h) k
theorem kz_dN1 {P : Prop} [Decidable P] {cc : ByteArray} {pc tgt M : Nat} {off2 : Int} {ls : Array Slot} {rest st0 : List Value} (hbr : (¬ P → W p l e R s m args below meth c H locs cells slots Q (F0 m tgt ls rest)) → (P → W p l e R s m args below meth c H locs cells slots Q (F0 m (pc + 3) ls rest)) → W p l e R s m args below meth c H locs cells slots Q (F0 m pc ls st0)) (hexec : p.tables.exec = Jvm.exec) (hb : c.code = cc) (d2 : decode cc (pc + 3) = .ok (.iconst 0, 1)) (d3 : decode cc (pc + 3 + 1) = .ok (.goto off2, 3)) (ht : ((pc + 3 + 1 : Nat) : Int) + off2 = (M : Int)) (d4 : decode cc tgt = .ok (.iconst 1, 1)) (hM : tgt + 1 = M)
    (k : W p l e R s m args below meth c H locs cells slots Q (F0 m M ls (.int (b01 (decide (¬ P))) :: rest))) : W p l e R s m args below meth c H locs cells slots Q (F0 m pc ls st0) := by
  subst hM
  refine hbr (fun h => ?_) (fun h => ?_)
  · refine lv_iconst (v := 1) hexec hb d4 (by decide) ?_
    exact kz_t (c0 := ¬ P) (h) k
  · refine lv_iconst (v := 0) hexec hb d2 (by decide) ?_
    refine lv_goto hexec hb d3 ht ?_
    exact kz_f (c0 := ¬ P) (fun q => q h) k
theorem ksw_n {x : Int32} : ∀ k ∈ ([] : List Int32), ¬ x = k := fun k h => by cases h
theorem ksw_c {x a : Int32} {l : List Int32} (h : ¬ x = a) (t : ∀ k ∈ l, ¬ x = k) : ∀ k ∈ (a :: l), ¬ x = k := fun k hk => by
  rcases List.mem_cons.mp hk with rfl | q
  · exact h
  · exact t k q
theorem ksw_dflt {cc : ByteArray} {pc tgt : Nat} {ls : Array Slot} {rest : List Value} (hexec : p.tables.exec = Jvm.exec) (hb : c.code = cc) {dflt lo hi : Int} {offs : Array Int} {len : Nat} {x : Int32} (hdg : decode cc pc = .ok (.tableswitch dflt lo hi offs, len)) (live : List Int32) (hne : ∀ k ∈ live, ¬ x = k)
    (hcov : ∀ j, j < (hi - lo + 1).toNat → (∃ k ∈ live, k.toInt = lo + (j : Int)) ∨ offs[j]? = some dflt) (ht : (pc : Int) + dflt = (tgt : Int)) (k : W p l e R s m args below meth c H locs cells slots Q (F0 m tgt ls rest)) : W p l e R s m args below meth c H locs cells slots Q (F0 m pc ls (.int x :: rest)) := by
  by_cases h1 : x.toInt < lo
  · exact lv_tableOut hexec hb hdg (Or.inl h1) ht k
  · by_cases h2 : hi < x.toInt
    · exact lv_tableOut hexec hb hdg (Or.inr h2) ht k
    · rcases hcov (x.toInt - lo).toNat (by omega) with ⟨k1, hk, hk2⟩ | h
      · exact absurd (Int32.toInt_inj.mp (by rw [hk2]; omega)) (hne k1 hk)
      · exact lv_tableIn hexec hb hdg h1 h2 h ht k
end KC
end
