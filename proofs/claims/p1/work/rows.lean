section
-- ===== PART A: goes FIRST, ahead of the names: the tables' words, and 'selects' of the private methods out of them =====
/-- a private method of a class that the tables say can be made, by its rows of tables_1 -/
def lw_okq (q : MethodName × Nat) : Prop := (q.1.cls ≠ "java/lang/invoke/MethodHandle" ∧ q.1.cls ≠ "java/lang/invoke/VarHandle") ∧ Cond.instantiable q.1.cls q.2 ∈ tables_1 ∧ Cond.privateMethod q.1 ∈ tables_1 ∧ Cond.instanceMethod q.1 ∈ tables_1
theorem lw_p0 : lw_okq (⟨"LittleMix$Operations", "learn", "(IILjava/lang/String;)V"⟩, 1) := ⟨⟨by decide +kernel, by decide +kernel⟩, List.mem_of_getElem? (i := 141) (by decide +kernel), List.mem_of_getElem? (i := 148) (by decide +kernel), List.mem_of_getElem? (i := 149) (by decide +kernel)⟩
theorem lw_p1 : lw_okq (⟨"LittleMix", "punch", "(I)V"⟩, 6) := ⟨⟨by decide +kernel, by decide +kernel⟩, List.mem_of_getElem? (i := 23) (by decide +kernel), List.mem_of_getElem? (i := 405) (by decide +kernel), List.mem_of_getElem? (i := 406) (by decide +kernel)⟩
theorem lw_p2 : lw_okq (⟨"LittleMix$Line", "findEnd", "(II)V"⟩, 7) := ⟨⟨by decide +kernel, by decide +kernel⟩, List.mem_of_getElem? (i := 135) (by decide +kernel), List.mem_of_getElem? (i := 429) (by decide +kernel), List.mem_of_getElem? (i := 430) (by decide +kernel)⟩
theorem lw_p3 : lw_okq (⟨"LittleMix$Line", "behindBlanks", "(I)I"⟩, 7) := ⟨⟨by decide +kernel, by decide +kernel⟩, List.mem_of_getElem? (i := 135) (by decide +kernel), List.mem_of_getElem? (i := 442) (by decide +kernel), List.mem_of_getElem? (i := 443) (by decide +kernel)⟩
theorem lw_p4 : lw_okq (⟨"LittleMix$Line", "blankFrom", "(I)I"⟩, 7) := ⟨⟨by decide +kernel, by decide +kernel⟩, List.mem_of_getElem? (i := 135) (by decide +kernel), List.mem_of_getElem? (i := 446) (by decide +kernel), List.mem_of_getElem? (i := 447) (by decide +kernel)⟩
theorem lw_p5 : lw_okq (⟨"LittleMix$Assembler", "gather", "(Z)Z"⟩, 10) := ⟨⟨by decide +kernel, by decide +kernel⟩, List.mem_of_getElem? (i := 69) (by decide +kernel), List.mem_of_getElem? (i := 458) (by decide +kernel), List.mem_of_getElem? (i := 459) (by decide +kernel)⟩
theorem lw_p6 : lw_okq (⟨"LittleMix$Assembler", "here", "()I"⟩, 10) := ⟨⟨by decide +kernel, by decide +kernel⟩, List.mem_of_getElem? (i := 69) (by decide +kernel), List.mem_of_getElem? (i := 465) (by decide +kernel), List.mem_of_getElem? (i := 466) (by decide +kernel)⟩
theorem lw_p7 : lw_okq (⟨"LittleMix$Sum", "readTerm", "()V"⟩, 11) := ⟨⟨by decide +kernel, by decide +kernel⟩, List.mem_of_getElem? (i := 245) (by decide +kernel), List.mem_of_getElem? (i := 477) (by decide +kernel), List.mem_of_getElem? (i := 478) (by decide +kernel)⟩
theorem lw_p8 : lw_okq (⟨"LittleMix$Sum", "readName", "(Z)V"⟩, 11) := ⟨⟨by decide +kernel, by decide +kernel⟩, List.mem_of_getElem? (i := 245) (by decide +kernel), List.mem_of_getElem? (i := 482) (by decide +kernel), List.mem_of_getElem? (i := 483) (by decide +kernel)⟩
theorem lw_p9 : lw_okq (⟨"LittleMix$Sum", "readHexadecimal", "()V"⟩, 11) := ⟨⟨by decide +kernel, by decide +kernel⟩, List.mem_of_getElem? (i := 245) (by decide +kernel), List.mem_of_getElem? (i := 564) (by decide +kernel), List.mem_of_getElem? (i := 565) (by decide +kernel)⟩
theorem lw_p10 : lw_okq (⟨"LittleMix$Sum", "readCharacter", "()V"⟩, 11) := ⟨⟨by decide +kernel, by decide +kernel⟩, List.mem_of_getElem? (i := 245) (by decide +kernel), List.mem_of_getElem? (i := 571) (by decide +kernel), List.mem_of_getElem? (i := 572) (by decide +kernel)⟩
theorem lw_p11 : lw_okq (⟨"LittleMix$Sum", "readDecimal", "()V"⟩, 11) := ⟨⟨by decide +kernel, by decide +kernel⟩, List.mem_of_getElem? (i := 245) (by decide +kernel), List.mem_of_getElem? (i := 575) (by decide +kernel), List.mem_of_getElem? (i := 576) (by decide +kernel)⟩
theorem lw_p12 : lw_okq (⟨"LittleMix$Sum", "turnIntoRegister", "(Z)V"⟩, 11) := ⟨⟨by decide +kernel, by decide +kernel⟩, List.mem_of_getElem? (i := 245) (by decide +kernel), List.mem_of_getElem? (i := 581) (by decide +kernel), List.mem_of_getElem? (i := 582) (by decide +kernel)⟩
theorem lw_p13 : lw_okq (⟨"LittleMix$Sum", "addTerm", "(ZZ)V"⟩, 11) := ⟨⟨by decide +kernel, by decide +kernel⟩, List.mem_of_getElem? (i := 245) (by decide +kernel), List.mem_of_getElem? (i := 586) (by decide +kernel), List.mem_of_getElem? (i := 587) (by decide +kernel)⟩
theorem lw_p14 : lw_okq (⟨"LittleMix$Sum", "behindOperand", "()I"⟩, 11) := ⟨⟨by decide +kernel, by decide +kernel⟩, List.mem_of_getElem? (i := 245) (by decide +kernel), List.mem_of_getElem? (i := 590) (by decide +kernel), List.mem_of_getElem? (i := 591) (by decide +kernel)⟩
theorem lw_p15 : lw_okq (⟨"LittleMix$Assembler", "survey", "()Z"⟩, 10) := ⟨⟨by decide +kernel, by decide +kernel⟩, List.mem_of_getElem? (i := 69) (by decide +kernel), List.mem_of_getElem? (i := 617) (by decide +kernel), List.mem_of_getElem? (i := 618) (by decide +kernel)⟩
def lw_privs_1 : List (MethodName × Nat) := [(⟨"LittleMix$Operations", "learn", "(IILjava/lang/String;)V"⟩, 1), (⟨"LittleMix", "punch", "(I)V"⟩, 6), (⟨"LittleMix$Line", "findEnd", "(II)V"⟩, 7), (⟨"LittleMix$Line", "behindBlanks", "(I)I"⟩, 7), (⟨"LittleMix$Line", "blankFrom", "(I)I"⟩, 7), (⟨"LittleMix$Assembler", "gather", "(Z)Z"⟩, 10), (⟨"LittleMix$Assembler", "here", "()I"⟩, 10), (⟨"LittleMix$Sum", "readTerm", "()V"⟩, 11), (⟨"LittleMix$Sum", "readName", "(Z)V"⟩, 11), (⟨"LittleMix$Sum", "readHexadecimal", "()V"⟩, 11), (⟨"LittleMix$Sum", "readCharacter", "()V"⟩, 11), (⟨"LittleMix$Sum", "readDecimal", "()V"⟩, 11), (⟨"LittleMix$Sum", "turnIntoRegister", "(Z)V"⟩, 11), (⟨"LittleMix$Sum", "addTerm", "(ZZ)V"⟩, 11), (⟨"LittleMix$Sum", "behindOperand", "()I"⟩, 11), (⟨"LittleMix$Assembler", "survey", "()Z"⟩, 10)]
theorem lw_r1 : ∀ q ∈ lw_privs_1, lw_okq q := List.forall_mem_cons.mpr ⟨lw_p0, List.forall_mem_cons.mpr ⟨lw_p1, List.forall_mem_cons.mpr ⟨lw_p2, List.forall_mem_cons.mpr ⟨lw_p3, List.forall_mem_cons.mpr ⟨lw_p4, List.forall_mem_cons.mpr ⟨lw_p5, List.forall_mem_cons.mpr ⟨lw_p6, List.forall_mem_cons.mpr ⟨lw_p7, List.forall_mem_cons.mpr ⟨lw_p8, List.forall_mem_cons.mpr ⟨lw_p9, List.forall_mem_cons.mpr ⟨lw_p10, List.forall_mem_cons.mpr ⟨lw_p11, List.forall_mem_cons.mpr ⟨lw_p12, List.forall_mem_cons.mpr ⟨lw_p13, List.forall_mem_cons.mpr ⟨lw_p14, List.forall_mem_cons.mpr ⟨lw_p15, fun _ h => absurd h List.not_mem_nil⟩⟩⟩⟩⟩⟩⟩⟩⟩⟩⟩⟩⟩⟩⟩⟩
theorem lw_p16 : lw_okq (⟨"LittleMix$Assembler", "locates", "()Z"⟩, 10) := ⟨⟨by decide +kernel, by decide +kernel⟩, List.mem_of_getElem? (i := 69) (by decide +kernel), List.mem_of_getElem? (i := 621) (by decide +kernel), List.mem_of_getElem? (i := 622) (by decide +kernel)⟩
theorem lw_p17 : lw_okq (⟨"LittleMix$Assembler", "goOn", "()V"⟩, 10) := ⟨⟨by decide +kernel, by decide +kernel⟩, List.mem_of_getElem? (i := 69) (by decide +kernel), List.mem_of_getElem? (i := 632) (by decide +kernel), List.mem_of_getElem? (i := 633) (by decide +kernel)⟩
theorem lw_p18 : lw_okq (⟨"LittleMix$Assembler", "emit", "()Z"⟩, 10) := ⟨⟨by decide +kernel, by decide +kernel⟩, List.mem_of_getElem? (i := 69) (by decide +kernel), List.mem_of_getElem? (i := 636) (by decide +kernel), List.mem_of_getElem? (i := 637) (by decide +kernel)⟩
theorem lw_p19 : lw_okq (⟨"LittleMix$Operands", "withLast", "(IIJJ)Z"⟩, 6) := ⟨⟨by decide +kernel, by decide +kernel⟩, List.mem_of_getElem? (i := 75) (by decide +kernel), List.mem_of_getElem? (i := 647) (by decide +kernel), List.mem_of_getElem? (i := 648) (by decide +kernel)⟩
theorem lw_p20 : lw_okq (⟨"LittleMix$Operands", "make", "(IJJ)Z"⟩, 6) := ⟨⟨by decide +kernel, by decide +kernel⟩, List.mem_of_getElem? (i := 75) (by decide +kernel), List.mem_of_getElem? (i := 651) (by decide +kernel), List.mem_of_getElem? (i := 652) (by decide +kernel)⟩
theorem lw_p21 : lw_okq (⟨"LittleMix$Operands", "isNumber", "(II)Z"⟩, 6) := ⟨⟨by decide +kernel, by decide +kernel⟩, List.mem_of_getElem? (i := 75) (by decide +kernel), List.mem_of_getElem? (i := 655) (by decide +kernel), List.mem_of_getElem? (i := 656) (by decide +kernel)⟩
theorem lw_p22 : lw_okq (⟨"LittleMix$Operands", "encodeNegation", "(I)Z"⟩, 6) := ⟨⟨by decide +kernel, by decide +kernel⟩, List.mem_of_getElem? (i := 75) (by decide +kernel), List.mem_of_getElem? (i := 659) (by decide +kernel), List.mem_of_getElem? (i := 660) (by decide +kernel)⟩
theorem lw_p23 : lw_okq (⟨"LittleMix$Operands", "withPlace", "(IIJI)Z"⟩, 6) := ⟨⟨by decide +kernel, by decide +kernel⟩, List.mem_of_getElem? (i := 75) (by decide +kernel), List.mem_of_getElem? (i := 664) (by decide +kernel), List.mem_of_getElem? (i := 665) (by decide +kernel)⟩
theorem lw_p24 : lw_okq (⟨"LittleMix$Operands", "isSpecial", "(I)Z"⟩, 6) := ⟨⟨by decide +kernel, by decide +kernel⟩, List.mem_of_getElem? (i := 75) (by decide +kernel), List.mem_of_getElem? (i := 671) (by decide +kernel), List.mem_of_getElem? (i := 672) (by decide +kernel)⟩
theorem lw_p25 : lw_okq (⟨"LittleMix$Operands", "encodeBytes", "(I)Z"⟩, 6) := ⟨⟨by decide +kernel, by decide +kernel⟩, List.mem_of_getElem? (i := 75) (by decide +kernel), List.mem_of_getElem? (i := 678) (by decide +kernel), List.mem_of_getElem? (i := 679) (by decide +kernel)⟩
theorem lw_p26 : lw_okq (⟨"LittleMix$Registers", "clearFrom", "(II)V"⟩, 6) := ⟨⟨by decide +kernel, by decide +kernel⟩, List.mem_of_getElem? (i := 43) (by decide +kernel), List.mem_of_getElem? (i := 702) (by decide +kernel), List.mem_of_getElem? (i := 703) (by decide +kernel)⟩
theorem lw_p27 : lw_okq (⟨"LittleMix$Machine", "step", "()V"⟩, 16) := ⟨⟨by decide +kernel, by decide +kernel⟩, List.mem_of_getElem? (i := 322) (by decide +kernel), List.mem_of_getElem? (i := 746) (by decide +kernel), List.mem_of_getElem? (i := 747) (by decide +kernel)⟩
theorem lw_p28 : lw_okq (⟨"LittleMix$Machine", "decode", "()V"⟩, 16) := ⟨⟨by decide +kernel, by decide +kernel⟩, List.mem_of_getElem? (i := 322) (by decide +kernel), List.mem_of_getElem? (i := 751) (by decide +kernel), List.mem_of_getElem? (i := 752) (by decide +kernel)⟩
theorem lw_p29 : lw_okq (⟨"LittleMix$Machine", "execute", "()I"⟩, 16) := ⟨⟨by decide +kernel, by decide +kernel⟩, List.mem_of_getElem? (i := 322) (by decide +kernel), List.mem_of_getElem? (i := 765) (by decide +kernel), List.mem_of_getElem? (i := 766) (by decide +kernel)⟩
theorem lw_p30 : lw_okq (⟨"LittleMix$Machine", "access", "()I"⟩, 16) := ⟨⟨by decide +kernel, by decide +kernel⟩, List.mem_of_getElem? (i := 322) (by decide +kernel), List.mem_of_getElem? (i := 769) (by decide +kernel), List.mem_of_getElem? (i := 770) (by decide +kernel)⟩
theorem lw_p31 : lw_okq (⟨"LittleMix$Machine", "withSign", "(JI)J"⟩, 16) := ⟨⟨by decide +kernel, by decide +kernel⟩, List.mem_of_getElem? (i := 322) (by decide +kernel), List.mem_of_getElem? (i := 774) (by decide +kernel), List.mem_of_getElem? (i := 775) (by decide +kernel)⟩
def lw_privs_2 : List (MethodName × Nat) := [(⟨"LittleMix$Assembler", "locates", "()Z"⟩, 10), (⟨"LittleMix$Assembler", "goOn", "()V"⟩, 10), (⟨"LittleMix$Assembler", "emit", "()Z"⟩, 10), (⟨"LittleMix$Operands", "withLast", "(IIJJ)Z"⟩, 6), (⟨"LittleMix$Operands", "make", "(IJJ)Z"⟩, 6), (⟨"LittleMix$Operands", "isNumber", "(II)Z"⟩, 6), (⟨"LittleMix$Operands", "encodeNegation", "(I)Z"⟩, 6), (⟨"LittleMix$Operands", "withPlace", "(IIJI)Z"⟩, 6), (⟨"LittleMix$Operands", "isSpecial", "(I)Z"⟩, 6), (⟨"LittleMix$Operands", "encodeBytes", "(I)Z"⟩, 6), (⟨"LittleMix$Registers", "clearFrom", "(II)V"⟩, 6), (⟨"LittleMix$Machine", "step", "()V"⟩, 16), (⟨"LittleMix$Machine", "decode", "()V"⟩, 16), (⟨"LittleMix$Machine", "execute", "()I"⟩, 16), (⟨"LittleMix$Machine", "access", "()I"⟩, 16), (⟨"LittleMix$Machine", "withSign", "(JI)J"⟩, 16)]
theorem lw_r2 : ∀ q ∈ lw_privs_2, lw_okq q := List.forall_mem_cons.mpr ⟨lw_p16, List.forall_mem_cons.mpr ⟨lw_p17, List.forall_mem_cons.mpr ⟨lw_p18, List.forall_mem_cons.mpr ⟨lw_p19, List.forall_mem_cons.mpr ⟨lw_p20, List.forall_mem_cons.mpr ⟨lw_p21, List.forall_mem_cons.mpr ⟨lw_p22, List.forall_mem_cons.mpr ⟨lw_p23, List.forall_mem_cons.mpr ⟨lw_p24, List.forall_mem_cons.mpr ⟨lw_p25, List.forall_mem_cons.mpr ⟨lw_p26, List.forall_mem_cons.mpr ⟨lw_p27, List.forall_mem_cons.mpr ⟨lw_p28, List.forall_mem_cons.mpr ⟨lw_p29, List.forall_mem_cons.mpr ⟨lw_p30, List.forall_mem_cons.mpr ⟨lw_p31, fun _ h => absurd h List.not_mem_nil⟩⟩⟩⟩⟩⟩⟩⟩⟩⟩⟩⟩⟩⟩⟩⟩
theorem lw_p32 : lw_okq (⟨"LittleMix$Machine", "overflowIf", "(Z)V"⟩, 16) := ⟨⟨by decide +kernel, by decide +kernel⟩, List.mem_of_getElem? (i := 322) (by decide +kernel), List.mem_of_getElem? (i := 782) (by decide +kernel), List.mem_of_getElem? (i := 783) (by decide +kernel)⟩
theorem lw_p33 : lw_okq (⟨"LittleMix$Machine", "control", "()I"⟩, 16) := ⟨⟨by decide +kernel, by decide +kernel⟩, List.mem_of_getElem? (i := 322) (by decide +kernel), List.mem_of_getElem? (i := 787) (by decide +kernel), List.mem_of_getElem? (i := 788) (by decide +kernel)⟩
theorem lw_p34 : lw_okq (⟨"LittleMix$Machine", "placeFromHere", "(II)J"⟩, 16) := ⟨⟨by decide +kernel, by decide +kernel⟩, List.mem_of_getElem? (i := 322) (by decide +kernel), List.mem_of_getElem? (i := 793) (by decide +kernel), List.mem_of_getElem? (i := 794) (by decide +kernel)⟩
theorem lw_p35 : lw_okq (⟨"LittleMix$Machine", "pushAndJump", "()I"⟩, 16) := ⟨⟨by decide +kernel, by decide +kernel⟩, List.mem_of_getElem? (i := 322) (by decide +kernel), List.mem_of_getElem? (i := 797) (by decide +kernel), List.mem_of_getElem? (i := 798) (by decide +kernel)⟩
theorem lw_p36 : lw_okq (⟨"LittleMix$Machine", "target", "()J"⟩, 16) := ⟨⟨by decide +kernel, by decide +kernel⟩, List.mem_of_getElem? (i := 322) (by decide +kernel), List.mem_of_getElem? (i := 811) (by decide +kernel), List.mem_of_getElem? (i := 812) (by decide +kernel)⟩
theorem lw_p37 : lw_okq (⟨"LittleMix$Machine", "putSpecial", "()I"⟩, 16) := ⟨⟨by decide +kernel, by decide +kernel⟩, List.mem_of_getElem? (i := 322) (by decide +kernel), List.mem_of_getElem? (i := 817) (by decide +kernel), List.mem_of_getElem? (i := 818) (by decide +kernel)⟩
theorem lw_p38 : lw_okq (⟨"LittleMix$Machine", "popAndReturn", "()I"⟩, 16) := ⟨⟨by decide +kernel, by decide +kernel⟩, List.mem_of_getElem? (i := 322) (by decide +kernel), List.mem_of_getElem? (i := 830) (by decide +kernel), List.mem_of_getElem? (i := 831) (by decide +kernel)⟩
theorem lw_p39 : lw_okq (⟨"LittleMix$Machine", "getSpecial", "()I"⟩, 16) := ⟨⟨by decide +kernel, by decide +kernel⟩, List.mem_of_getElem? (i := 322) (by decide +kernel), List.mem_of_getElem? (i := 843) (by decide +kernel), List.mem_of_getElem? (i := 844) (by decide +kernel)⟩
theorem lw_p40 : lw_okq (⟨"LittleMix$Machine", "trip", "(I)V"⟩, 16) := ⟨⟨by decide +kernel, by decide +kernel⟩, List.mem_of_getElem? (i := 322) (by decide +kernel), List.mem_of_getElem? (i := 847) (by decide +kernel), List.mem_of_getElem? (i := 848) (by decide +kernel)⟩
theorem lw_p41 : lw_okq (⟨"LittleMix$Machine", "multiplied", "()J"⟩, 16) := ⟨⟨by decide +kernel, by decide +kernel⟩, List.mem_of_getElem? (i := 322) (by decide +kernel), List.mem_of_getElem? (i := 853) (by decide +kernel), List.mem_of_getElem? (i := 854) (by decide +kernel)⟩
theorem lw_p42 : lw_okq (⟨"LittleMix$Machine", "divided", "()J"⟩, 16) := ⟨⟨by decide +kernel, by decide +kernel⟩, List.mem_of_getElem? (i := 322) (by decide +kernel), List.mem_of_getElem? (i := 865) (by decide +kernel), List.mem_of_getElem? (i := 866) (by decide +kernel)⟩
theorem lw_p43 : lw_okq (⟨"LittleMix$Machine", "dividedWithoutSigns", "()J"⟩, 16) := ⟨⟨by decide +kernel, by decide +kernel⟩, List.mem_of_getElem? (i := 322) (by decide +kernel), List.mem_of_getElem? (i := 876) (by decide +kernel), List.mem_of_getElem? (i := 877) (by decide +kernel)⟩
theorem lw_p44 : lw_okq (⟨"LittleMix$Machine", "added", "()J"⟩, 16) := ⟨⟨by decide +kernel, by decide +kernel⟩, List.mem_of_getElem? (i := 322) (by decide +kernel), List.mem_of_getElem? (i := 888) (by decide +kernel), List.mem_of_getElem? (i := 889) (by decide +kernel)⟩
theorem lw_p45 : lw_okq (⟨"LittleMix$Machine", "subtracted", "()J"⟩, 16) := ⟨⟨by decide +kernel, by decide +kernel⟩, List.mem_of_getElem? (i := 322) (by decide +kernel), List.mem_of_getElem? (i := 892) (by decide +kernel), List.mem_of_getElem? (i := 893) (by decide +kernel)⟩
theorem lw_p46 : lw_okq (⟨"LittleMix$Machine", "shifted", "()J"⟩, 16) := ⟨⟨by decide +kernel, by decide +kernel⟩, List.mem_of_getElem? (i := 322) (by decide +kernel), List.mem_of_getElem? (i := 899) (by decide +kernel), List.mem_of_getElem? (i := 900) (by decide +kernel)⟩
theorem lw_p47 : lw_okq (⟨"LittleMix$Machine", "branch", "()V"⟩, 16) := ⟨⟨by decide +kernel, by decide +kernel⟩, List.mem_of_getElem? (i := 322) (by decide +kernel), List.mem_of_getElem? (i := 904) (by decide +kernel), List.mem_of_getElem? (i := 905) (by decide +kernel)⟩
def lw_privs_3 : List (MethodName × Nat) := [(⟨"LittleMix$Machine", "overflowIf", "(Z)V"⟩, 16), (⟨"LittleMix$Machine", "control", "()I"⟩, 16), (⟨"LittleMix$Machine", "placeFromHere", "(II)J"⟩, 16), (⟨"LittleMix$Machine", "pushAndJump", "()I"⟩, 16), (⟨"LittleMix$Machine", "target", "()J"⟩, 16), (⟨"LittleMix$Machine", "putSpecial", "()I"⟩, 16), (⟨"LittleMix$Machine", "popAndReturn", "()I"⟩, 16), (⟨"LittleMix$Machine", "getSpecial", "()I"⟩, 16), (⟨"LittleMix$Machine", "trip", "(I)V"⟩, 16), (⟨"LittleMix$Machine", "multiplied", "()J"⟩, 16), (⟨"LittleMix$Machine", "divided", "()J"⟩, 16), (⟨"LittleMix$Machine", "dividedWithoutSigns", "()J"⟩, 16), (⟨"LittleMix$Machine", "added", "()J"⟩, 16), (⟨"LittleMix$Machine", "subtracted", "()J"⟩, 16), (⟨"LittleMix$Machine", "shifted", "()J"⟩, 16), (⟨"LittleMix$Machine", "branch", "()V"⟩, 16)]
theorem lw_r3 : ∀ q ∈ lw_privs_3, lw_okq q := List.forall_mem_cons.mpr ⟨lw_p32, List.forall_mem_cons.mpr ⟨lw_p33, List.forall_mem_cons.mpr ⟨lw_p34, List.forall_mem_cons.mpr ⟨lw_p35, List.forall_mem_cons.mpr ⟨lw_p36, List.forall_mem_cons.mpr ⟨lw_p37, List.forall_mem_cons.mpr ⟨lw_p38, List.forall_mem_cons.mpr ⟨lw_p39, List.forall_mem_cons.mpr ⟨lw_p40, List.forall_mem_cons.mpr ⟨lw_p41, List.forall_mem_cons.mpr ⟨lw_p42, List.forall_mem_cons.mpr ⟨lw_p43, List.forall_mem_cons.mpr ⟨lw_p44, List.forall_mem_cons.mpr ⟨lw_p45, List.forall_mem_cons.mpr ⟨lw_p46, List.forall_mem_cons.mpr ⟨lw_p47, fun _ h => absurd h List.not_mem_nil⟩⟩⟩⟩⟩⟩⟩⟩⟩⟩⟩⟩⟩⟩⟩⟩
theorem lw_p48 : lw_okq (⟨"LittleMix$Machine", "choose", "()V"⟩, 16) := ⟨⟨by decide +kernel, by decide +kernel⟩, List.mem_of_getElem? (i := 322) (by decide +kernel), List.mem_of_getElem? (i := 911) (by decide +kernel), List.mem_of_getElem? (i := 912) (by decide +kernel)⟩
theorem lw_p49 : lw_okq (⟨"LittleMix$Machine", "combined", "()J"⟩, 16) := ⟨⟨by decide +kernel, by decide +kernel⟩, List.mem_of_getElem? (i := 322) (by decide +kernel), List.mem_of_getElem? (i := 915) (by decide +kernel), List.mem_of_getElem? (i := 916) (by decide +kernel)⟩
theorem lw_p50 : lw_okq (⟨"LittleMix$Machine", "scattered", "()J"⟩, 16) := ⟨⟨by decide +kernel, by decide +kernel⟩, List.mem_of_getElem? (i := 322) (by decide +kernel), List.mem_of_getElem? (i := 919) (by decide +kernel), List.mem_of_getElem? (i := 920) (by decide +kernel)⟩
theorem lw_p51 : lw_okq (⟨"LittleMix$Machine", "widened", "()J"⟩, 16) := ⟨⟨by decide +kernel, by decide +kernel⟩, List.mem_of_getElem? (i := 322) (by decide +kernel), List.mem_of_getElem? (i := 937) (by decide +kernel), List.mem_of_getElem? (i := 938) (by decide +kernel)⟩
theorem lw_p52 : lw_okq (⟨"LittleMix$Machine", "happen", "()V"⟩, 16) := ⟨⟨by decide +kernel, by decide +kernel⟩, List.mem_of_getElem? (i := 322) (by decide +kernel), List.mem_of_getElem? (i := 942) (by decide +kernel), List.mem_of_getElem? (i := 943) (by decide +kernel)⟩
theorem lw_p53 : lw_okq (⟨"LittleMixModel", "setBack", "()V"⟩, 44) := ⟨⟨by decide +kernel, by decide +kernel⟩, List.mem_of_getElem? (i := 968) (by decide +kernel), List.mem_of_getElem? (i := 974) (by decide +kernel), List.mem_of_getElem? (i := 975) (by decide +kernel)⟩
theorem lw_p54 : lw_okq (⟨"LittleMixModel", "first", "()I"⟩, 44) := ⟨⟨by decide +kernel, by decide +kernel⟩, List.mem_of_getElem? (i := 968) (by decide +kernel), List.mem_of_getElem? (i := 1120) (by decide +kernel), List.mem_of_getElem? (i := 1121) (by decide +kernel)⟩
theorem lw_p55 : lw_okq (⟨"LittleMixModel", "line", "(I)I"⟩, 44) := ⟨⟨by decide +kernel, by decide +kernel⟩, List.mem_of_getElem? (i := 968) (by decide +kernel), List.mem_of_getElem? (i := 1124) (by decide +kernel), List.mem_of_getElem? (i := 1125) (by decide +kernel)⟩
theorem lw_p56 : lw_okq (⟨"LittleMixModel", "at", "(I)I"⟩, 44) := ⟨⟨by decide +kernel, by decide +kernel⟩, List.mem_of_getElem? (i := 968) (by decide +kernel), List.mem_of_getElem? (i := 1128) (by decide +kernel), List.mem_of_getElem? (i := 1129) (by decide +kernel)⟩
theorem lw_p57 : lw_okq (⟨"LittleMixModel", "word", "(I)I"⟩, 44) := ⟨⟨by decide +kernel, by decide +kernel⟩, List.mem_of_getElem? (i := 968) (by decide +kernel), List.mem_of_getElem? (i := 1135) (by decide +kernel), List.mem_of_getElem? (i := 1136) (by decide +kernel)⟩
theorem lw_p58 : lw_okq (⟨"LittleMixModel", "blanks", "(I)I"⟩, 44) := ⟨⟨by decide +kernel, by decide +kernel⟩, List.mem_of_getElem? (i := 968) (by decide +kernel), List.mem_of_getElem? (i := 1142) (by decide +kernel), List.mem_of_getElem? (i := 1143) (by decide +kernel)⟩
theorem lw_p59 : lw_okq (⟨"LittleMixModel", "operation", "(II)Z"⟩, 44) := ⟨⟨by decide +kernel, by decide +kernel⟩, List.mem_of_getElem? (i := 968) (by decide +kernel), List.mem_of_getElem? (i := 1146) (by decide +kernel), List.mem_of_getElem? (i := 1147) (by decide +kernel)⟩
theorem lw_p60 : lw_okq (⟨"LittleMixModel", "among", "(IILjava/lang/String;)I"⟩, 44) := ⟨⟨by decide +kernel, by decide +kernel⟩, List.mem_of_getElem? (i := 968) (by decide +kernel), List.mem_of_getElem? (i := 1151) (by decide +kernel), List.mem_of_getElem? (i := 1152) (by decide +kernel)⟩
theorem lw_p61 : lw_okq (⟨"LittleMixModel", "withCondition", "(II)Z"⟩, 44) := ⟨⟨by decide +kernel, by decide +kernel⟩, List.mem_of_getElem? (i := 968) (by decide +kernel), List.mem_of_getElem? (i := 1164) (by decide +kernel), List.mem_of_getElem? (i := 1165) (by decide +kernel)⟩
theorem lw_p62 : lw_okq (⟨"LittleMixModel", "is", "(IILjava/lang/String;)Z"⟩, 44) := ⟨⟨by decide +kernel, by decide +kernel⟩, List.mem_of_getElem? (i := 968) (by decide +kernel), List.mem_of_getElem? (i := 1169) (by decide +kernel), List.mem_of_getElem? (i := 1170) (by decide +kernel)⟩
theorem lw_p63 : lw_okq (⟨"LittleMixModel", "count", "()I"⟩, 44) := ⟨⟨by decide +kernel, by decide +kernel⟩, List.mem_of_getElem? (i := 968) (by decide +kernel), List.mem_of_getElem? (i := 1175) (by decide +kernel), List.mem_of_getElem? (i := 1176) (by decide +kernel)⟩
def lw_privs_4 : List (MethodName × Nat) := [(⟨"LittleMix$Machine", "choose", "()V"⟩, 16), (⟨"LittleMix$Machine", "combined", "()J"⟩, 16), (⟨"LittleMix$Machine", "scattered", "()J"⟩, 16), (⟨"LittleMix$Machine", "widened", "()J"⟩, 16), (⟨"LittleMix$Machine", "happen", "()V"⟩, 16), (⟨"LittleMixModel", "setBack", "()V"⟩, 44), (⟨"LittleMixModel", "first", "()I"⟩, 44), (⟨"LittleMixModel", "line", "(I)I"⟩, 44), (⟨"LittleMixModel", "at", "(I)I"⟩, 44), (⟨"LittleMixModel", "word", "(I)I"⟩, 44), (⟨"LittleMixModel", "blanks", "(I)I"⟩, 44), (⟨"LittleMixModel", "operation", "(II)Z"⟩, 44), (⟨"LittleMixModel", "among", "(IILjava/lang/String;)I"⟩, 44), (⟨"LittleMixModel", "withCondition", "(II)Z"⟩, 44), (⟨"LittleMixModel", "is", "(IILjava/lang/String;)Z"⟩, 44), (⟨"LittleMixModel", "count", "()I"⟩, 44)]
theorem lw_r4 : ∀ q ∈ lw_privs_4, lw_okq q := List.forall_mem_cons.mpr ⟨lw_p48, List.forall_mem_cons.mpr ⟨lw_p49, List.forall_mem_cons.mpr ⟨lw_p50, List.forall_mem_cons.mpr ⟨lw_p51, List.forall_mem_cons.mpr ⟨lw_p52, List.forall_mem_cons.mpr ⟨lw_p53, List.forall_mem_cons.mpr ⟨lw_p54, List.forall_mem_cons.mpr ⟨lw_p55, List.forall_mem_cons.mpr ⟨lw_p56, List.forall_mem_cons.mpr ⟨lw_p57, List.forall_mem_cons.mpr ⟨lw_p58, List.forall_mem_cons.mpr ⟨lw_p59, List.forall_mem_cons.mpr ⟨lw_p60, List.forall_mem_cons.mpr ⟨lw_p61, List.forall_mem_cons.mpr ⟨lw_p62, List.forall_mem_cons.mpr ⟨lw_p63, fun _ h => absurd h List.not_mem_nil⟩⟩⟩⟩⟩⟩⟩⟩⟩⟩⟩⟩⟩⟩⟩⟩
theorem lw_p64 : lw_okq (⟨"LittleMixModel", "expression", "(IJ)I"⟩, 44) := ⟨⟨by decide +kernel, by decide +kernel⟩, List.mem_of_getElem? (i := 968) (by decide +kernel), List.mem_of_getElem? (i := 1179) (by decide +kernel), List.mem_of_getElem? (i := 1180) (by decide +kernel)⟩
theorem lw_p65 : lw_okq (⟨"LittleMixModel", "term", "(IJ)I"⟩, 44) := ⟨⟨by decide +kernel, by decide +kernel⟩, List.mem_of_getElem? (i := 968) (by decide +kernel), List.mem_of_getElem? (i := 1183) (by decide +kernel), List.mem_of_getElem? (i := 1184) (by decide +kernel)⟩
theorem lw_p66 : lw_okq (⟨"LittleMixModel", "decimal", "(I)I"⟩, 44) := ⟨⟨by decide +kernel, by decide +kernel⟩, List.mem_of_getElem? (i := 968) (by decide +kernel), List.mem_of_getElem? (i := 1187) (by decide +kernel), List.mem_of_getElem? (i := 1188) (by decide +kernel)⟩
theorem lw_p67 : lw_okq (⟨"LittleMixModel", "labelNamed", "(II)I"⟩, 44) := ⟨⟨by decide +kernel, by decide +kernel⟩, List.mem_of_getElem? (i := 968) (by decide +kernel), List.mem_of_getElem? (i := 1197) (by decide +kernel), List.mem_of_getElem? (i := 1198) (by decide +kernel)⟩
theorem lw_p68 : lw_okq (⟨"LittleMixModel", "specialNamed", "(II)I"⟩, 44) := ⟨⟨by decide +kernel, by decide +kernel⟩, List.mem_of_getElem? (i := 968) (by decide +kernel), List.mem_of_getElem? (i := 1201) (by decide +kernel), List.mem_of_getElem? (i := 1202) (by decide +kernel)⟩
theorem lw_p69 : lw_okq (⟨"LittleMixModel", "operand", "(IJ)V"⟩, 44) := ⟨⟨by decide +kernel, by decide +kernel⟩, List.mem_of_getElem? (i := 968) (by decide +kernel), List.mem_of_getElem? (i := 1212) (by decide +kernel), List.mem_of_getElem? (i := 1213) (by decide +kernel)⟩
theorem lw_p70 : lw_okq (⟨"LittleMixModel", "after", "(I)I"⟩, 44) := ⟨⟨by decide +kernel, by decide +kernel⟩, List.mem_of_getElem? (i := 968) (by decide +kernel), List.mem_of_getElem? (i := 1217) (by decide +kernel), List.mem_of_getElem? (i := 1218) (by decide +kernel)⟩
theorem lw_p71 : lw_okq (⟨"LittleMixModel", "second", "()I"⟩, 44) := ⟨⟨by decide +kernel, by decide +kernel⟩, List.mem_of_getElem? (i := 968) (by decide +kernel), List.mem_of_getElem? (i := 1221) (by decide +kernel), List.mem_of_getElem? (i := 1222) (by decide +kernel)⟩
theorem lw_p72 : lw_okq (⟨"LittleMixModel", "put", "(IJI)V"⟩, 44) := ⟨⟨by decide +kernel, by decide +kernel⟩, List.mem_of_getElem? (i := 968) (by decide +kernel), List.mem_of_getElem? (i := 1225) (by decide +kernel), List.mem_of_getElem? (i := 1226) (by decide +kernel)⟩
theorem lw_p73 : lw_okq (⟨"LittleMixModel", "instruction", "(II)Z"⟩, 44) := ⟨⟨by decide +kernel, by decide +kernel⟩, List.mem_of_getElem? (i := 968) (by decide +kernel), List.mem_of_getElem? (i := 1229) (by decide +kernel), List.mem_of_getElem? (i := 1230) (by decide +kernel)⟩
theorem lw_p74 : lw_okq (⟨"LittleMixModel", "isRegister", "(II)Z"⟩, 44) := ⟨⟨by decide +kernel, by decide +kernel⟩, List.mem_of_getElem? (i := 968) (by decide +kernel), List.mem_of_getElem? (i := 1233) (by decide +kernel), List.mem_of_getElem? (i := 1234) (by decide +kernel)⟩
theorem lw_p75 : lw_okq (⟨"LittleMixModel", "isNumber", "(IIJ)Z"⟩, 44) := ⟨⟨by decide +kernel, by decide +kernel⟩, List.mem_of_getElem? (i := 968) (by decide +kernel), List.mem_of_getElem? (i := 1237) (by decide +kernel), List.mem_of_getElem? (i := 1238) (by decide +kernel)⟩
theorem lw_p76 : lw_okq (⟨"LittleMixModel", "isPlace", "(III)Z"⟩, 44) := ⟨⟨by decide +kernel, by decide +kernel⟩, List.mem_of_getElem? (i := 968) (by decide +kernel), List.mem_of_getElem? (i := 1241) (by decide +kernel), List.mem_of_getElem? (i := 1242) (by decide +kernel)⟩
theorem lw_p77 : lw_okq (⟨"LittleMixModel", "isEither", "(II)Z"⟩, 44) := ⟨⟨by decide +kernel, by decide +kernel⟩, List.mem_of_getElem? (i := 968) (by decide +kernel), List.mem_of_getElem? (i := 1260) (by decide +kernel), List.mem_of_getElem? (i := 1261) (by decide +kernel)⟩
theorem lw_p78 : lw_okq (⟨"LittleMixModel", "step", "()I"⟩, 44) := ⟨⟨by decide +kernel, by decide +kernel⟩, List.mem_of_getElem? (i := 968) (by decide +kernel), List.mem_of_getElem? (i := 1289) (by decide +kernel), List.mem_of_getElem? (i := 1290) (by decide +kernel)⟩
theorem lw_p79 : lw_okq (⟨"LittleMixModel", "isOp", "(I)Z"⟩, 44) := ⟨⟨by decide +kernel, by decide +kernel⟩, List.mem_of_getElem? (i := 968) (by decide +kernel), List.mem_of_getElem? (i := 1294) (by decide +kernel), List.mem_of_getElem? (i := 1295) (by decide +kernel)⟩
def lw_privs_5 : List (MethodName × Nat) := [(⟨"LittleMixModel", "expression", "(IJ)I"⟩, 44), (⟨"LittleMixModel", "term", "(IJ)I"⟩, 44), (⟨"LittleMixModel", "decimal", "(I)I"⟩, 44), (⟨"LittleMixModel", "labelNamed", "(II)I"⟩, 44), (⟨"LittleMixModel", "specialNamed", "(II)I"⟩, 44), (⟨"LittleMixModel", "operand", "(IJ)V"⟩, 44), (⟨"LittleMixModel", "after", "(I)I"⟩, 44), (⟨"LittleMixModel", "second", "()I"⟩, 44), (⟨"LittleMixModel", "put", "(IJI)V"⟩, 44), (⟨"LittleMixModel", "instruction", "(II)Z"⟩, 44), (⟨"LittleMixModel", "isRegister", "(II)Z"⟩, 44), (⟨"LittleMixModel", "isNumber", "(IIJ)Z"⟩, 44), (⟨"LittleMixModel", "isPlace", "(III)Z"⟩, 44), (⟨"LittleMixModel", "isEither", "(II)Z"⟩, 44), (⟨"LittleMixModel", "step", "()I"⟩, 44), (⟨"LittleMixModel", "isOp", "(I)Z"⟩, 44)]
theorem lw_r5 : ∀ q ∈ lw_privs_5, lw_okq q := List.forall_mem_cons.mpr ⟨lw_p64, List.forall_mem_cons.mpr ⟨lw_p65, List.forall_mem_cons.mpr ⟨lw_p66, List.forall_mem_cons.mpr ⟨lw_p67, List.forall_mem_cons.mpr ⟨lw_p68, List.forall_mem_cons.mpr ⟨lw_p69, List.forall_mem_cons.mpr ⟨lw_p70, List.forall_mem_cons.mpr ⟨lw_p71, List.forall_mem_cons.mpr ⟨lw_p72, List.forall_mem_cons.mpr ⟨lw_p73, List.forall_mem_cons.mpr ⟨lw_p74, List.forall_mem_cons.mpr ⟨lw_p75, List.forall_mem_cons.mpr ⟨lw_p76, List.forall_mem_cons.mpr ⟨lw_p77, List.forall_mem_cons.mpr ⟨lw_p78, List.forall_mem_cons.mpr ⟨lw_p79, fun _ h => absurd h List.not_mem_nil⟩⟩⟩⟩⟩⟩⟩⟩⟩⟩⟩⟩⟩⟩⟩⟩
theorem lw_p80 : lw_okq (⟨"LittleMixModel", "get", "(I)J"⟩, 44) := ⟨⟨by decide +kernel, by decide +kernel⟩, List.mem_of_getElem? (i := 968) (by decide +kernel), List.mem_of_getElem? (i := 1298) (by decide +kernel), List.mem_of_getElem? (i := 1299) (by decide +kernel)⟩
theorem lw_p81 : lw_okq (⟨"LittleMixModel", "memoryStep", "(IIJJ)I"⟩, 44) := ⟨⟨by decide +kernel, by decide +kernel⟩, List.mem_of_getElem? (i := 968) (by decide +kernel), List.mem_of_getElem? (i := 1302) (by decide +kernel), List.mem_of_getElem? (i := 1303) (by decide +kernel)⟩
theorem lw_p82 : lw_okq (⟨"LittleMixModel", "set", "(IJ)V"⟩, 44) := ⟨⟨by decide +kernel, by decide +kernel⟩, List.mem_of_getElem? (i := 968) (by decide +kernel), List.mem_of_getElem? (i := 1306) (by decide +kernel), List.mem_of_getElem? (i := 1307) (by decide +kernel)⟩
theorem lw_p83 : lw_okq (⟨"LittleMixModel", "events", "(IJJ)V"⟩, 44) := ⟨⟨by decide +kernel, by decide +kernel⟩, List.mem_of_getElem? (i := 968) (by decide +kernel), List.mem_of_getElem? (i := 1310) (by decide +kernel), List.mem_of_getElem? (i := 1311) (by decide +kernel)⟩
theorem lw_p84 : lw_okq (⟨"LittleMixModel", "sum", "(JJZ)J"⟩, 44) := ⟨⟨by decide +kernel, by decide +kernel⟩, List.mem_of_getElem? (i := 968) (by decide +kernel), List.mem_of_getElem? (i := 1314) (by decide +kernel), List.mem_of_getElem? (i := 1315) (by decide +kernel)⟩
theorem lw_p85 : lw_okq (⟨"LittleMixModel", "reckon", "(IJJ)J"⟩, 44) := ⟨⟨by decide +kernel, by decide +kernel⟩, List.mem_of_getElem? (i := 968) (by decide +kernel), List.mem_of_getElem? (i := 1318) (by decide +kernel), List.mem_of_getElem? (i := 1319) (by decide +kernel)⟩
theorem lw_p86 : lw_okq (⟨"LittleMixModel", "product", "(JJ)J"⟩, 44) := ⟨⟨by decide +kernel, by decide +kernel⟩, List.mem_of_getElem? (i := 968) (by decide +kernel), List.mem_of_getElem? (i := 1322) (by decide +kernel), List.mem_of_getElem? (i := 1323) (by decide +kernel)⟩
theorem lw_p87 : lw_okq (⟨"LittleMixModel", "multiply", "(JJ)J"⟩, 44) := ⟨⟨by decide +kernel, by decide +kernel⟩, List.mem_of_getElem? (i := 968) (by decide +kernel), List.mem_of_getElem? (i := 1326) (by decide +kernel), List.mem_of_getElem? (i := 1327) (by decide +kernel)⟩
theorem lw_p88 : lw_okq (⟨"LittleMixModel", "quotient", "(JJ)J"⟩, 44) := ⟨⟨by decide +kernel, by decide +kernel⟩, List.mem_of_getElem? (i := 968) (by decide +kernel), List.mem_of_getElem? (i := 1338) (by decide +kernel), List.mem_of_getElem? (i := 1339) (by decide +kernel)⟩
theorem lw_p89 : lw_okq (⟨"LittleMixModel", "divide", "(JJJ)J"⟩, 44) := ⟨⟨by decide +kernel, by decide +kernel⟩, List.mem_of_getElem? (i := 968) (by decide +kernel), List.mem_of_getElem? (i := 1343) (by decide +kernel), List.mem_of_getElem? (i := 1344) (by decide +kernel)⟩
theorem lw_p90 : lw_okq (⟨"LittleMixModel", "unsignedQuotient", "(JJ)J"⟩, 44) := ⟨⟨by decide +kernel, by decide +kernel⟩, List.mem_of_getElem? (i := 968) (by decide +kernel), List.mem_of_getElem? (i := 1347) (by decide +kernel), List.mem_of_getElem? (i := 1348) (by decide +kernel)⟩
theorem lw_p91 : lw_okq (⟨"LittleMixModel", "left", "(JJZ)J"⟩, 44) := ⟨⟨by decide +kernel, by decide +kernel⟩, List.mem_of_getElem? (i := 968) (by decide +kernel), List.mem_of_getElem? (i := 1351) (by decide +kernel), List.mem_of_getElem? (i := 1352) (by decide +kernel)⟩
theorem lw_p92 : lw_okq (⟨"LittleMixModel", "logic", "(IJJ)J"⟩, 44) := ⟨⟨by decide +kernel, by decide +kernel⟩, List.mem_of_getElem? (i := 968) (by decide +kernel), List.mem_of_getElem? (i := 1359) (by decide +kernel), List.mem_of_getElem? (i := 1360) (by decide +kernel)⟩
theorem lw_p93 : lw_okq (⟨"LittleMixModel", "away", "(III)J"⟩, 44) := ⟨⟨by decide +kernel, by decide +kernel⟩, List.mem_of_getElem? (i := 968) (by decide +kernel), List.mem_of_getElem? (i := 1372) (by decide +kernel), List.mem_of_getElem? (i := 1373) (by decide +kernel)⟩
theorem lw_p94 : lw_okq (⟨"LittleMixModel", "wide", "(IIJ)V"⟩, 44) := ⟨⟨by decide +kernel, by decide +kernel⟩, List.mem_of_getElem? (i := 968) (by decide +kernel), List.mem_of_getElem? (i := 1376) (by decide +kernel), List.mem_of_getElem? (i := 1377) (by decide +kernel)⟩
theorem lw_p95 : lw_okq (⟨"LittleMixModel", "push", "(I)Z"⟩, 44) := ⟨⟨by decide +kernel, by decide +kernel⟩, List.mem_of_getElem? (i := 968) (by decide +kernel), List.mem_of_getElem? (i := 1381) (by decide +kernel), List.mem_of_getElem? (i := 1382) (by decide +kernel)⟩
def lw_privs_6 : List (MethodName × Nat) := [(⟨"LittleMixModel", "get", "(I)J"⟩, 44), (⟨"LittleMixModel", "memoryStep", "(IIJJ)I"⟩, 44), (⟨"LittleMixModel", "set", "(IJ)V"⟩, 44), (⟨"LittleMixModel", "events", "(IJJ)V"⟩, 44), (⟨"LittleMixModel", "sum", "(JJZ)J"⟩, 44), (⟨"LittleMixModel", "reckon", "(IJJ)J"⟩, 44), (⟨"LittleMixModel", "product", "(JJ)J"⟩, 44), (⟨"LittleMixModel", "multiply", "(JJ)J"⟩, 44), (⟨"LittleMixModel", "quotient", "(JJ)J"⟩, 44), (⟨"LittleMixModel", "divide", "(JJJ)J"⟩, 44), (⟨"LittleMixModel", "unsignedQuotient", "(JJ)J"⟩, 44), (⟨"LittleMixModel", "left", "(JJZ)J"⟩, 44), (⟨"LittleMixModel", "logic", "(IJJ)J"⟩, 44), (⟨"LittleMixModel", "away", "(III)J"⟩, 44), (⟨"LittleMixModel", "wide", "(IIJ)V"⟩, 44), (⟨"LittleMixModel", "push", "(I)Z"⟩, 44)]
theorem lw_r6 : ∀ q ∈ lw_privs_6, lw_okq q := List.forall_mem_cons.mpr ⟨lw_p80, List.forall_mem_cons.mpr ⟨lw_p81, List.forall_mem_cons.mpr ⟨lw_p82, List.forall_mem_cons.mpr ⟨lw_p83, List.forall_mem_cons.mpr ⟨lw_p84, List.forall_mem_cons.mpr ⟨lw_p85, List.forall_mem_cons.mpr ⟨lw_p86, List.forall_mem_cons.mpr ⟨lw_p87, List.forall_mem_cons.mpr ⟨lw_p88, List.forall_mem_cons.mpr ⟨lw_p89, List.forall_mem_cons.mpr ⟨lw_p90, List.forall_mem_cons.mpr ⟨lw_p91, List.forall_mem_cons.mpr ⟨lw_p92, List.forall_mem_cons.mpr ⟨lw_p93, List.forall_mem_cons.mpr ⟨lw_p94, List.forall_mem_cons.mpr ⟨lw_p95, fun _ h => absurd h List.not_mem_nil⟩⟩⟩⟩⟩⟩⟩⟩⟩⟩⟩⟩⟩⟩⟩⟩
theorem lw_p96 : lw_okq (⟨"LittleMixModel", "putSpecial", "(IJ)V"⟩, 44) := ⟨⟨by decide +kernel, by decide +kernel⟩, List.mem_of_getElem? (i := 968) (by decide +kernel), List.mem_of_getElem? (i := 1385) (by decide +kernel), List.mem_of_getElem? (i := 1386) (by decide +kernel)⟩
theorem lw_p97 : lw_okq (⟨"LittleMixModel", "pop", "(I)V"⟩, 44) := ⟨⟨by decide +kernel, by decide +kernel⟩, List.mem_of_getElem? (i := 968) (by decide +kernel), List.mem_of_getElem? (i := 1391) (by decide +kernel), List.mem_of_getElem? (i := 1392) (by decide +kernel)⟩
theorem lw_p98 : lw_okq (⟨"LittleMixModel", "getSpecial", "(I)J"⟩, 44) := ⟨⟨by decide +kernel, by decide +kernel⟩, List.mem_of_getElem? (i := 968) (by decide +kernel), List.mem_of_getElem? (i := 1395) (by decide +kernel), List.mem_of_getElem? (i := 1396) (by decide +kernel)⟩
theorem lw_p99 : lw_okq (⟨"LittleMixModel", "trip", "(JJJJ)J"⟩, 44) := ⟨⟨by decide +kernel, by decide +kernel⟩, List.mem_of_getElem? (i := 968) (by decide +kernel), List.mem_of_getElem? (i := 1399) (by decide +kernel), List.mem_of_getElem? (i := 1400) (by decide +kernel)⟩
def lw_privs_7 : List (MethodName × Nat) := [(⟨"LittleMixModel", "putSpecial", "(IJ)V"⟩, 44), (⟨"LittleMixModel", "pop", "(I)V"⟩, 44), (⟨"LittleMixModel", "getSpecial", "(I)J"⟩, 44), (⟨"LittleMixModel", "trip", "(JJJJ)J"⟩, 44)]
theorem lw_r7 : ∀ q ∈ lw_privs_7, lw_okq q := List.forall_mem_cons.mpr ⟨lw_p96, List.forall_mem_cons.mpr ⟨lw_p97, List.forall_mem_cons.mpr ⟨lw_p98, List.forall_mem_cons.mpr ⟨lw_p99, fun _ h => absurd h List.not_mem_nil⟩⟩⟩⟩
def lw_privs : List (MethodName × Nat) := lw_privs_1 ++ (lw_privs_2 ++ (lw_privs_3 ++ (lw_privs_4 ++ (lw_privs_5 ++ (lw_privs_6 ++ (lw_privs_7))))))
def lw_tbl : List Cond := k2_sels lw_privs ++ tables_1
theorem lw_privs_ok : ∀ q ∈ lw_privs, lw_okq q := by
  show ∀ q ∈ lw_privs_1 ++ (lw_privs_2 ++ (lw_privs_3 ++ (lw_privs_4 ++ (lw_privs_5 ++ (lw_privs_6 ++ (lw_privs_7)))))), lw_okq q
  exact List.forall_mem_append.mpr ⟨lw_r1, List.forall_mem_append.mpr ⟨lw_r2, List.forall_mem_append.mpr ⟨lw_r3, List.forall_mem_append.mpr ⟨lw_r4, List.forall_mem_append.mpr ⟨lw_r5, List.forall_mem_append.mpr ⟨lw_r6, lw_r7⟩⟩⟩⟩⟩⟩
end
section
def R_Mix : String := "LittleMix"
def T_Mix : u_T := fun k => match k with
  | 0 => ("LittleMix", "length", "I", false)
  | 1 => ("LittleMix", "tape", "[C", true)
  | 2 => ("LittleMix", "memory", "LLittleMix$Memory;", true)
  | 3 => ("LittleMix", "registers", "LLittleMix$Registers;", true)
  | 4 => ("LittleMix", "assembler", "LLittleMix$Assembler;", true)
  | _ => ("LittleMix", "machine", "LLittleMix$Machine;", true)
def t_Mix : Nat → FieldType := fun k => match k with
  | 0 => .int
  | 1 => .array (.char)
  | 2 => .object "LittleMix$Memory"
  | 3 => .object "LittleMix$Registers"
  | 4 => .object "LittleMix$Assembler"
  | _ => .object "LittleMix$Machine"
abbrev f0_Mix : List Value := [.int 0, .null, .null, .null, .null, .null]
theorem n_Mix : ∀ a, a < 6 → ∀ b, b < 6 → a ≠ b → (T_Mix a).2.1 ≠ (T_Mix b).2.1 := by decide +kernel
theorem t_Mix_ok : ∀ k, k < 6 → parseFieldDescriptor (T_Mix k).2.2.1 = some (t_Mix k) := by decide +kernel
theorem f0_Mix_ok : ∀ j, j < 6 → defaultValue (t_Mix j) = vp_V f0_Mix j := by decide +kernel
def R_Mem : String := "LittleMix$Memory"
def T_Mem : u_T := fun k => match k with
  | _ => ("LittleMix$Memory", "octas", "[J", true)
def t_Mem : Nat → FieldType := fun k => match k with
  | _ => .array (.long)
abbrev f0_Mem : List Value := [.null]
theorem n_Mem : ∀ a, a < 1 → ∀ b, b < 1 → a ≠ b → (T_Mem a).2.1 ≠ (T_Mem b).2.1 := by decide +kernel
theorem t_Mem_ok : ∀ k, k < 1 → parseFieldDescriptor (T_Mem k).2.2.1 = some (t_Mem k) := by decide +kernel
theorem f0_Mem_ok : ∀ j, j < 1 → defaultValue (t_Mem j) = vp_V f0_Mem j := by decide +kernel
def R_Reg : String := "LittleMix$Registers"
def T_Reg : u_T := fun k => match k with
  | 0 => ("LittleMix$Registers", "depth", "I", false)
  | 1 => ("LittleMix$Registers", "local", "I", false)
  | 2 => ("LittleMix$Registers", "global", "I", false)
  | 3 => ("LittleMix$Registers", "general", "[J", true)
  | 4 => ("LittleMix$Registers", "specials", "[J", true)
  | _ => ("LittleMix$Registers", "stack", "[J", true)
def t_Reg : Nat → FieldType := fun k => match k with
  | 0 => .int
  | 1 => .int
  | 2 => .int
  | 3 => .array (.long)
  | 4 => .array (.long)
  | _ => .array (.long)
abbrev f0_Reg : List Value := [.int 0, .int 0, .int 0, .null, .null, .null]
theorem n_Reg : ∀ a, a < 6 → ∀ b, b < 6 → a ≠ b → (T_Reg a).2.1 ≠ (T_Reg b).2.1 := by decide +kernel
theorem t_Reg_ok : ∀ k, k < 6 → parseFieldDescriptor (T_Reg k).2.2.1 = some (t_Reg k) := by decide +kernel
theorem f0_Reg_ok : ∀ j, j < 6 → defaultValue (t_Reg j) = vp_V f0_Reg j := by decide +kernel
def R_Opn : String := "LittleMix$Operations"
def T_Opn : u_T := fun k => match k with
  | _ => ("LittleMix$Operations", "names", "[J", true)
def t_Opn : Nat → FieldType := fun k => match k with
  | _ => .array (.long)
abbrev f0_Opn : List Value := [.null]
theorem n_Opn : ∀ a, a < 1 → ∀ b, b < 1 → a ≠ b → (T_Opn a).2.1 ≠ (T_Opn b).2.1 := by decide +kernel
theorem t_Opn_ok : ∀ k, k < 1 → parseFieldDescriptor (T_Opn k).2.2.1 = some (t_Opn k) := by decide +kernel
theorem f0_Opn_ok : ∀ j, j < 1 → defaultValue (t_Opn j) = vp_V f0_Opn j := by decide +kernel
def R_Lin : String := "LittleMix$Line"
def T_Lin : u_T := fun k => match k with
  | 0 => ("LittleMix$Line", "labelAt", "I", false)
  | 1 => ("LittleMix$Line", "labelSize", "I", false)
  | 2 => ("LittleMix$Line", "operation", "I", false)
  | 3 => ("LittleMix$Line", "operandsAt", "I", false)
  | 4 => ("LittleMix$Line", "end", "I", false)
  | 5 => ("LittleMix$Line", "text", "[C", true)
  | _ => ("LittleMix$Line", "operations", "LLittleMix$Operations;", true)
def t_Lin : Nat → FieldType := fun k => match k with
  | 0 => .int
  | 1 => .int
  | 2 => .int
  | 3 => .int
  | 4 => .int
  | 5 => .array (.char)
  | _ => .object "LittleMix$Operations"
abbrev f0_Lin : List Value := [.int 0, .int 0, .int 0, .int 0, .int 0, .null, .null]
theorem n_Lin : ∀ a, a < 7 → ∀ b, b < 7 → a ≠ b → (T_Lin a).2.1 ≠ (T_Lin b).2.1 := by decide +kernel
theorem t_Lin_ok : ∀ k, k < 7 → parseFieldDescriptor (T_Lin k).2.2.1 = some (t_Lin k) := by decide +kernel
theorem f0_Lin_ok : ∀ j, j < 7 → defaultValue (t_Lin j) = vp_V f0_Lin j := by decide +kernel
def R_Lab : String := "LittleMix$Labels"
def T_Lab : u_T := fun k => match k with
  | 0 => ("LittleMix$Labels", "count", "I", false)
  | 1 => ("LittleMix$Labels", "text", "[C", true)
  | 2 => ("LittleMix$Labels", "starts", "[I", true)
  | 3 => ("LittleMix$Labels", "sizes", "[I", true)
  | 4 => ("LittleMix$Labels", "values", "[J", true)
  | _ => ("LittleMix$Labels", "registers", "[Z", true)
def t_Lab : Nat → FieldType := fun k => match k with
  | 0 => .int
  | 1 => .array (.char)
  | 2 => .array (.int)
  | 3 => .array (.int)
  | 4 => .array (.long)
  | _ => .array (.boolean)
abbrev f0_Lab : List Value := [.int 0, .null, .null, .null, .null, .null]
theorem n_Lab : ∀ a, a < 6 → ∀ b, b < 6 → a ≠ b → (T_Lab a).2.1 ≠ (T_Lab b).2.1 := by decide +kernel
theorem t_Lab_ok : ∀ k, k < 6 → parseFieldDescriptor (T_Lab k).2.2.1 = some (t_Lab k) := by decide +kernel
theorem f0_Lab_ok : ∀ j, j < 6 → defaultValue (t_Lab j) = vp_V f0_Lab j := by decide +kernel
def R_Sum : String := "LittleMix$Sum"
def T_Sum : u_T := fun k => match k with
  | 0 => ("LittleMix$Sum", "at", "I", false)
  | 1 => ("LittleMix$Sum", "end", "I", false)
  | 2 => ("LittleMix$Sum", "here", "J", false)
  | 3 => ("LittleMix$Sum", "readable", "Z", false)
  | 4 => ("LittleMix$Sum", "termIsRegister", "Z", false)
  | 5 => ("LittleMix$Sum", "term", "J", false)
  | 6 => ("LittleMix$Sum", "right", "Z", false)
  | 7 => ("LittleMix$Sum", "isRegister", "Z", false)
  | 8 => ("LittleMix$Sum", "value", "J", false)
  | 9 => ("LittleMix$Sum", "text", "[C", true)
  | _ => ("LittleMix$Sum", "labels", "LLittleMix$Labels;", true)
def t_Sum : Nat → FieldType := fun k => match k with
  | 0 => .int
  | 1 => .int
  | 2 => .long
  | 3 => .boolean
  | 4 => .boolean
  | 5 => .long
  | 6 => .boolean
  | 7 => .boolean
  | 8 => .long
  | 9 => .array (.char)
  | _ => .object "LittleMix$Labels"
abbrev f0_Sum : List Value := [.int 0, .int 0, .long 0, .int 0, .int 0, .long 0, .int 0, .int 0, .long 0, .null, .null]
theorem n_Sum : ∀ a, a < 11 → ∀ b, b < 11 → a ≠ b → (T_Sum a).2.1 ≠ (T_Sum b).2.1 := by decide +kernel
theorem t_Sum_ok : ∀ k, k < 11 → parseFieldDescriptor (T_Sum k).2.2.1 = some (t_Sum k) := by decide +kernel
theorem f0_Sum_ok : ∀ j, j < 11 → defaultValue (t_Sum j) = vp_V f0_Sum j := by decide +kernel
def R_Opd : String := "LittleMix$Operands"
def T_Opd : u_T := fun k => match k with
  | 0 => ("LittleMix$Operands", "right", "Z", false)
  | 1 => ("LittleMix$Operands", "anyRegister", "Z", false)
  | 2 => ("LittleMix$Operands", "count", "I", false)
  | 3 => ("LittleMix$Operands", "word", "I", false)
  | 4 => ("LittleMix$Operands", "values", "[J", true)
  | _ => ("LittleMix$Operands", "registers", "[Z", true)
def t_Opd : Nat → FieldType := fun k => match k with
  | 0 => .boolean
  | 1 => .boolean
  | 2 => .int
  | 3 => .int
  | 4 => .array (.long)
  | _ => .array (.boolean)
abbrev f0_Opd : List Value := [.int 0, .int 0, .int 0, .int 0, .null, .null]
theorem n_Opd : ∀ a, a < 6 → ∀ b, b < 6 → a ≠ b → (T_Opd a).2.1 ≠ (T_Opd b).2.1 := by decide +kernel
theorem t_Opd_ok : ∀ k, k < 6 → parseFieldDescriptor (T_Opd k).2.2.1 = some (t_Opd k) := by decide +kernel
theorem f0_Opd_ok : ∀ j, j < 6 → defaultValue (t_Opd j) = vp_V f0_Opd j := by decide +kernel
def R_Asm : String := "LittleMix$Assembler"
def T_Asm : u_T := fun k => match k with
  | 0 => ("LittleMix$Assembler", "answered", "I", false)
  | 1 => ("LittleMix$Assembler", "illLine", "I", false)
  | 2 => ("LittleMix$Assembler", "place", "I", false)
  | 3 => ("LittleMix$Assembler", "filled", "I", false)
  | 4 => ("LittleMix$Assembler", "labels", "LLittleMix$Labels;", true)
  | 5 => ("LittleMix$Assembler", "line", "LLittleMix$Line;", true)
  | 6 => ("LittleMix$Assembler", "sum", "LLittleMix$Sum;", true)
  | 7 => ("LittleMix$Assembler", "operands", "LLittleMix$Operands;", true)
  | 8 => ("LittleMix$Assembler", "answers", "[J", true)
  | _ => ("LittleMix$Assembler", "image", "LLittleMix$Memory;", true)
def t_Asm : Nat → FieldType := fun k => match k with
  | 0 => .int
  | 1 => .int
  | 2 => .int
  | 3 => .int
  | 4 => .object "LittleMix$Labels"
  | 5 => .object "LittleMix$Line"
  | 6 => .object "LittleMix$Sum"
  | 7 => .object "LittleMix$Operands"
  | 8 => .array (.long)
  | _ => .object "LittleMix$Memory"
abbrev f0_Asm : List Value := [.int 0, .int 0, .int 0, .int 0, .null, .null, .null, .null, .null, .null]
theorem n_Asm : ∀ a, a < 10 → ∀ b, b < 10 → a ≠ b → (T_Asm a).2.1 ≠ (T_Asm b).2.1 := by decide +kernel
theorem t_Asm_ok : ∀ k, k < 10 → parseFieldDescriptor (T_Asm k).2.2.1 = some (t_Asm k) := by decide +kernel
theorem f0_Asm_ok : ∀ j, j < 10 → defaultValue (t_Asm j) = vp_V f0_Asm j := by decide +kernel
def R_Mac : String := "LittleMix$Machine"
def T_Mac : u_T := fun k => match k with
  | 0 => ("LittleMix$Machine", "at", "J", false)
  | 1 => ("LittleMix$Machine", "stop", "I", false)
  | 2 => ("LittleMix$Machine", "oops", "I", false)
  | 3 => ("LittleMix$Machine", "mems", "I", false)
  | 4 => ("LittleMix$Machine", "word", "I", false)
  | 5 => ("LittleMix$Machine", "op", "I", false)
  | 6 => ("LittleMix$Machine", "x", "I", false)
  | 7 => ("LittleMix$Machine", "y", "I", false)
  | 8 => ("LittleMix$Machine", "z", "I", false)
  | 9 => ("LittleMix$Machine", "left", "J", false)
  | 10 => ("LittleMix$Machine", "right", "J", false)
  | 11 => ("LittleMix$Machine", "next", "J", false)
  | 12 => ("LittleMix$Machine", "cost", "I", false)
  | 13 => ("LittleMix$Machine", "event", "I", false)
  | 14 => ("LittleMix$Machine", "memory", "LLittleMix$Memory;", true)
  | _ => ("LittleMix$Machine", "registers", "LLittleMix$Registers;", true)
def t_Mac : Nat → FieldType := fun k => match k with
  | 0 => .long
  | 1 => .int
  | 2 => .int
  | 3 => .int
  | 4 => .int
  | 5 => .int
  | 6 => .int
  | 7 => .int
  | 8 => .int
  | 9 => .long
  | 10 => .long
  | 11 => .long
  | 12 => .int
  | 13 => .int
  | 14 => .object "LittleMix$Memory"
  | _ => .object "LittleMix$Registers"
abbrev f0_Mac : List Value := [.long 0, .int 0, .int 0, .int 0, .int 0, .int 0, .int 0, .int 0, .int 0, .long 0, .long 0, .long 0, .int 0, .int 0, .null, .null]
theorem n_Mac : ∀ a, a < 16 → ∀ b, b < 16 → a ≠ b → (T_Mac a).2.1 ≠ (T_Mac b).2.1 := by decide +kernel
theorem t_Mac_ok : ∀ k, k < 16 → parseFieldDescriptor (T_Mac k).2.2.1 = some (t_Mac k) := by decide +kernel
theorem f0_Mac_ok : ∀ j, j < 16 → defaultValue (t_Mac j) = vp_V f0_Mac j := by decide +kernel
def R_Mod : String := "LittleMixModel"
def T_Mod : u_T := fun k => match k with
  | 0 => ("LittleMixModel", "code", "I", false)
  | 1 => ("LittleMixModel", "taped", "I", false)
  | 2 => ("LittleMixModel", "size", "I", false)
  | 3 => ("LittleMixModel", "illAt", "I", false)
  | 4 => ("LittleMixModel", "labels", "I", false)
  | 5 => ("LittleMixModel", "keptCount", "I", false)
  | 6 => ("LittleMixModel", "stacked", "I", false)
  | 7 => ("LittleMixModel", "local", "I", false)
  | 8 => ("LittleMixModel", "global", "I", false)
  | 9 => ("LittleMixModel", "oops", "I", false)
  | 10 => ("LittleMixModel", "mems", "I", false)
  | 11 => ("LittleMixModel", "stop", "I", false)
  | 12 => ("LittleMixModel", "next", "J", false)
  | 13 => ("LittleMixModel", "value", "J", false)
  | 14 => ("LittleMixModel", "register", "Z", false)
  | 15 => ("LittleMixModel", "right", "Z", false)
  | 16 => ("LittleMixModel", "term", "J", false)
  | 17 => ("LittleMixModel", "termRegister", "Z", false)
  | 18 => ("LittleMixModel", "labelFrom", "I", false)
  | 19 => ("LittleMixModel", "labelTo", "I", false)
  | 20 => ("LittleMixModel", "form", "I", false)
  | 21 => ("LittleMixModel", "base", "I", false)
  | 22 => ("LittleMixModel", "operands", "I", false)
  | 23 => ("LittleMixModel", "each", "I", false)
  | 24 => ("LittleMixModel", "xyz", "I", false)
  | 25 => ("LittleMixModel", "upper", "J", false)
  | 26 => ("LittleMixModel", "rest", "J", false)
  | 27 => ("LittleMixModel", "event", "I", false)
  | 28 => ("LittleMixModel", "eventY", "J", false)
  | 29 => ("LittleMixModel", "eventZ", "J", false)
  | 30 => ("LittleMixModel", "executed", "J", false)
  | 31 => ("LittleMixModel", "tape", "[I", true)
  | 32 => ("LittleMixModel", "text", "[I", true)
  | 33 => ("LittleMixModel", "labelAt", "[I", true)
  | 34 => ("LittleMixModel", "labelLength", "[I", true)
  | 35 => ("LittleMixModel", "labelIs", "[J", true)
  | 36 => ("LittleMixModel", "labelRegister", "[Z", true)
  | 37 => ("LittleMixModel", "kept", "[J", true)
  | 38 => ("LittleMixModel", "memory", "[I", true)
  | 39 => ("LittleMixModel", "made", "[I", true)
  | 40 => ("LittleMixModel", "\x72", "[J", true)
  | 41 => ("LittleMixModel", "special", "[J", true)
  | 42 => ("LittleMixModel", "stack", "[J", true)
  | _ => ("LittleMixModel", "aside", "[J", true)
def t_Mod : Nat → FieldType := fun k => match k with
  | 0 => .int
  | 1 => .int
  | 2 => .int
  | 3 => .int
  | 4 => .int
  | 5 => .int
  | 6 => .int
  | 7 => .int
  | 8 => .int
  | 9 => .int
  | 10 => .int
  | 11 => .int
  | 12 => .long
  | 13 => .long
  | 14 => .boolean
  | 15 => .boolean
  | 16 => .long
  | 17 => .boolean
  | 18 => .int
  | 19 => .int
  | 20 => .int
  | 21 => .int
  | 22 => .int
  | 23 => .int
  | 24 => .int
  | 25 => .long
  | 26 => .long
  | 27 => .int
  | 28 => .long
  | 29 => .long
  | 30 => .long
  | 31 => .array (.int)
  | 32 => .array (.int)
  | 33 => .array (.int)
  | 34 => .array (.int)
  | 35 => .array (.long)
  | 36 => .array (.boolean)
  | 37 => .array (.long)
  | 38 => .array (.int)
  | 39 => .array (.int)
  | 40 => .array (.long)
  | 41 => .array (.long)
  | 42 => .array (.long)
  | _ => .array (.long)
abbrev f0_Mod : List Value := [.int 0, .int 0, .int 0, .int 0, .int 0, .int 0, .int 0, .int 0, .int 0, .int 0, .int 0, .int 0, .long 0, .long 0, .int 0, .int 0, .long 0, .int 0, .int 0, .int 0, .int 0, .int 0, .int 0, .int 0, .int 0, .long 0, .long 0, .int 0, .long 0, .long 0, .long 0, .null, .null, .null, .null, .null, .null, .null, .null, .null, .null, .null, .null, .null]
theorem n_Mod : ∀ a, a < 44 → ∀ b, b < 44 → a ≠ b → (T_Mod a).2.1 ≠ (T_Mod b).2.1 := by decide +kernel
theorem t_Mod_ok : ∀ k, k < 44 → parseFieldDescriptor (T_Mod k).2.2.1 = some (t_Mod k) := by decide +kernel
theorem f0_Mod_ok : ∀ j, j < 44 → defaultValue (t_Mod j) = vp_V f0_Mod j := by decide +kernel
abbrev mx_cl : List vw_C := [(R_Mix, T_Mix, 6), (R_Mem, T_Mem, 1), (R_Reg, T_Reg, 6), (R_Opn, T_Opn, 1), (R_Lin, T_Lin, 7), (R_Lab, T_Lab, 6), (R_Sum, T_Sum, 11), (R_Opd, T_Opd, 6), (R_Asm, T_Asm, 10), (R_Mac, T_Mac, 16), (R_Mod, T_Mod, 44)]
def mx_nS : Nat := 14
def mx_own : List String := ["LittleMix$Operations", "LittleMix$Operations", "LittleMix$Operations", "LittleMix$Operations", "LittleMix$Operations", "LittleMix$Operations", "LittleMix$Operations", "LittleMix$Operations", "LittleMix$Operations", "LittleMix$Operations", "LittleMix$Operations", "LittleMix$Operations", "LittleMix$Operations", "LittleMix$Operations"]
def mx_idx : List Nat := [15, 21, 23, 25, 27, 29, 31, 33, 35, 37, 39, 41, 43, 45]
def mx_tx : List String := ["TRAP", "MUL MULU DIV DIVU ADD ADDU SUB SUBU 2ADDU 4ADDU 8ADDU 16ADDU CMP CMPU NEG NEGU SL SLU SR SRU", "BN BZ BP BOD BNN BNZ BNP BEV PBN PBZ PBP PBOD PBNN PBNZ PBNP PBEV", "CSN CSZ CSP CSOD CSNN CSNZ CSNP CSEV ZSN ZSZ ZSP ZSOD ZSNN ZSNZ ZSNP ZSEV", "LDB LDBU LDW LDWU LDT LDTU LDO", "STB STBU STW STWU STT STTU STO", "STCO", "OR ORN NOR XOR AND ANDN NAND NXOR BDIF WDIF TDIF ODIF MUX SADD MOR MXOR", "SETH SETMH SETML SETL INCH INCMH INCML INCL", "ORH ORMH ORML ORL ANDNH ANDNMH ANDNML ANDNL", "JMP PUSHJ GETA PUT POP", "RESUME", "SWYM GET TRIP", "IS LOC BYTE WYDE TETRA OCTA"]
def mx_len : List Nat := [4, 92, 65, 73, 30, 30, 4, 71, 43, 43, 22, 6, 13, 27]
def mx_byt : List (List Int32) := [[84, 82, 65, 80], [77, 85, 76, 32, 77, 85, 76, 85, 32, 68, 73, 86, 32, 68, 73, 86, 85, 32, 65, 68, 68, 32, 65, 68, 68, 85, 32, 83, 85, 66, 32, 83, 85, 66, 85, 32, 50, 65, 68, 68, 85, 32, 52, 65, 68, 68, 85, 32, 56, 65, 68, 68, 85, 32, 49, 54, 65, 68, 68, 85, 32, 67, 77, 80, 32, 67, 77, 80, 85, 32, 78, 69, 71, 32, 78, 69, 71, 85, 32, 83, 76, 32, 83, 76, 85, 32, 83, 82, 32, 83, 82, 85], [66, 78, 32, 66, 90, 32, 66, 80, 32, 66, 79, 68, 32, 66, 78, 78, 32, 66, 78, 90, 32, 66, 78, 80, 32, 66, 69, 86, 32, 80, 66, 78, 32, 80, 66, 90, 32, 80, 66, 80, 32, 80, 66, 79, 68, 32, 80, 66, 78, 78, 32, 80, 66, 78, 90, 32, 80, 66, 78, 80, 32, 80, 66, 69, 86], [67, 83, 78, 32, 67, 83, 90, 32, 67, 83, 80, 32, 67, 83, 79, 68, 32, 67, 83, 78, 78, 32, 67, 83, 78, 90, 32, 67, 83, 78, 80, 32, 67, 83, 69, 86, 32, 90, 83, 78, 32, 90, 83, 90, 32, 90, 83, 80, 32, 90, 83, 79, 68, 32, 90, 83, 78, 78, 32, 90, 83, 78, 90, 32, 90, 83, 78, 80, 32, 90, 83, 69, 86], [76, 68, 66, 32, 76, 68, 66, 85, 32, 76, 68, 87, 32, 76, 68, 87, 85, 32, 76, 68, 84, 32, 76, 68, 84, 85, 32, 76, 68, 79], [83, 84, 66, 32, 83, 84, 66, 85, 32, 83, 84, 87, 32, 83, 84, 87, 85, 32, 83, 84, 84, 32, 83, 84, 84, 85, 32, 83, 84, 79], [83, 84, 67, 79], [79, 82, 32, 79, 82, 78, 32, 78, 79, 82, 32, 88, 79, 82, 32, 65, 78, 68, 32, 65, 78, 68, 78, 32, 78, 65, 78, 68, 32, 78, 88, 79, 82, 32, 66, 68, 73, 70, 32, 87, 68, 73, 70, 32, 84, 68, 73, 70, 32, 79, 68, 73, 70, 32, 77, 85, 88, 32, 83, 65, 68, 68, 32, 77, 79, 82, 32, 77, 88, 79, 82], [83, 69, 84, 72, 32, 83, 69, 84, 77, 72, 32, 83, 69, 84, 77, 76, 32, 83, 69, 84, 76, 32, 73, 78, 67, 72, 32, 73, 78, 67, 77, 72, 32, 73, 78, 67, 77, 76, 32, 73, 78, 67, 76], [79, 82, 72, 32, 79, 82, 77, 72, 32, 79, 82, 77, 76, 32, 79, 82, 76, 32, 65, 78, 68, 78, 72, 32, 65, 78, 68, 78, 77, 72, 32, 65, 78, 68, 78, 77, 76, 32, 65, 78, 68, 78, 76], [74, 77, 80, 32, 80, 85, 83, 72, 74, 32, 71, 69, 84, 65, 32, 80, 85, 84, 32, 80, 79, 80], [82, 69, 83, 85, 77, 69], [83, 87, 89, 77, 32, 71, 69, 84, 32, 84, 82, 73, 80], [73, 83, 32, 76, 79, 67, 32, 66, 89, 84, 69, 32, 87, 89, 68, 69, 32, 84, 69, 84, 82, 65, 32, 79, 67, 84, 65]]
theorem mx_len_lt : ∀ i, i < mx_nS → mx_len.getD i 0 < 2 ^ 31 := by decide
abbrev b_Asm_answer : ByteArray := prog_3_method_2_code
abbrev b_Asm_init : ByteArray := prog_3_method_1_code
abbrev b_Asm_translate : ByteArray := prog_3_method_3_code
abbrev b_Lab_clear : ByteArray := prog_4_method_2_code
abbrev b_Lab_init : ByteArray := prog_4_method_1_code
abbrev b_Lab_tell : ByteArray := prog_4_method_7_code
abbrev b_Lin_init : ByteArray := prog_5_method_1_code
abbrev b_LittleMixLaw_law : ByteArray := code
abbrev b_Mac_decode : ByteArray := prog_6_method_5_code
abbrev b_Mac_execute : ByteArray := prog_6_method_8_code
abbrev b_Mac_go : ByteArray := prog_6_method_3_code
abbrev b_Mac_init : ByteArray := prog_6_method_1_code
abbrev b_Mac_setBack : ByteArray := prog_6_method_2_code
abbrev b_Mac_step : ByteArray := prog_6_method_4_code
abbrev b_Mem_become : ByteArray := prog_7_method_7_code
abbrev b_Mem_clear : ByteArray := prog_7_method_6_code
abbrev b_Mem_holds : ByteArray := prog_7_method_2_code
abbrev b_Mem_init : ByteArray := prog_7_method_1_code
abbrev b_Mem_instruction : ByteArray := prog_7_method_5_code
abbrev b_Mem_mask : ByteArray := prog_7_method_9_code
abbrev b_Mem_read : ByteArray := prog_7_method_3_code
abbrev b_Mem_shift : ByteArray := prog_7_method_8_code
abbrev b_Mem_write : ByteArray := prog_7_method_4_code
abbrev b_Mix_assemble : ByteArray := prog_1_method_4_code
abbrev b_Mix_back : ByteArray := prog_1_method_9_code
abbrev b_Mix_byteAt : ByteArray := prog_1_method_7_code
abbrev b_Mix_feed : ByteArray := prog_1_method_2_code
abbrev b_Mix_illAt : ByteArray := prog_1_method_5_code
abbrev b_Mix_init : ByteArray := prog_1_method_1_code
abbrev b_Mix_label : ByteArray := prog_1_method_6_code
abbrev b_Mix_place : ByteArray := prog_1_method_14_code
abbrev b_Mix_punch : ByteArray := prog_1_method_3_code
abbrev b_Mix_register : ByteArray := prog_1_method_12_code
abbrev b_Mix_run : ByteArray := prog_1_method_10_code
abbrev b_Mix_special : ByteArray := prog_1_method_13_code
abbrev b_Mix_stopped : ByteArray := prog_1_method_11_code
abbrev b_Mix_store : ByteArray := prog_1_method_8_code
abbrev b_Mix_taken : ByteArray := prog_1_method_15_code
abbrev b_Mod_assemble : ByteArray := prog_14_method_35_code
abbrev b_Mod_back : ByteArray := prog_14_method_40_code
abbrev b_Mod_byteAt : ByteArray := prog_14_method_38_code
abbrev b_Mod_feed : ByteArray := prog_14_method_4_code
abbrev b_Mod_first : ByteArray := prog_14_method_27_code
abbrev b_Mod_get : ByteArray := prog_14_method_41_code
abbrev b_Mod_getSpecial : ByteArray := prog_14_method_43_code
abbrev b_Mod_illAt : ByteArray := prog_14_method_36_code
abbrev b_Mod_init : ByteArray := prog_14_method_1_code
abbrev b_Mod_isOp : ByteArray := prog_14_method_60_code
abbrev b_Mod_isSpecial : ByteArray := prog_14_method_13_code
abbrev b_Mod_label : ByteArray := prog_14_method_37_code
abbrev b_Mod_place : ByteArray := prog_14_method_72_code
abbrev b_Mod_register : ByteArray := prog_14_method_70_code
abbrev b_Mod_run : ByteArray := prog_14_method_68_code
abbrev b_Mod_second : ByteArray := prog_14_method_29_code
abbrev b_Mod_setBack : ByteArray := prog_14_method_3_code
abbrev b_Mod_special : ByteArray := prog_14_method_71_code
abbrev b_Mod_step : ByteArray := prog_14_method_61_code
abbrev b_Mod_stopped : ByteArray := prog_14_method_69_code
abbrev b_Mod_store : ByteArray := prog_14_method_39_code
abbrev b_Mod_taken : ByteArray := prog_14_method_73_code
abbrev b_Opd_init : ByteArray := prog_8_method_1_code
abbrev b_Opn_init : ByteArray := prog_9_method_1_code
abbrev b_Opn_learn : ByteArray := prog_9_method_2_code
abbrev b_Preconditions_checkIndex : ByteArray := prog_22_method_11_code
abbrev b_Reg_clearFrom : ByteArray := prog_10_method_3_code
abbrev b_Reg_get : ByteArray := prog_10_method_6_code
abbrev b_Reg_init : ByteArray := prog_10_method_1_code
abbrev b_Reg_read : ByteArray := prog_10_method_4_code
abbrev b_Reg_reset : ByteArray := prog_10_method_2_code
abbrev b_StringLatin1_charAt : ByteArray := prog_19_method_2_code
abbrev b_String_charAt : ByteArray := prog_18_method_56_code
abbrev b_String_checkIndex : ByteArray := prog_18_method_155_code
abbrev b_String_coder : ByteArray := prog_18_method_152_code
abbrev b_String_isLatin1 : ByteArray := prog_18_method_154_code
abbrev b_String_length : ByteArray := prog_18_method_54_code
abbrev b_Sum_init : ByteArray := prog_12_method_1_code
abbrev y_Asm_answer : MethodName := ⟨"LittleMix$Assembler", "answer", "(I)J"⟩
abbrev y_Asm_init : MethodName := ⟨"LittleMix$Assembler", "<init>", "([C)V"⟩
abbrev y_Asm_translate : MethodName := ⟨"LittleMix$Assembler", "translate", "(I)Z"⟩
abbrev y_Lab_clear : MethodName := ⟨"LittleMix$Labels", "clear", "()V"⟩
abbrev y_Lab_init : MethodName := ⟨"LittleMix$Labels", "<init>", "([C)V"⟩
abbrev y_Lab_tell : MethodName := ⟨"LittleMix$Labels", "tell", "([J)I"⟩
abbrev y_Lin_init : MethodName := ⟨"LittleMix$Line", "<init>", "([C)V"⟩
abbrev y_Mac_decode : MethodName := ⟨"LittleMix$Machine", "decode", "()V"⟩
abbrev y_Mac_execute : MethodName := ⟨"LittleMix$Machine", "execute", "()I"⟩
abbrev y_Mac_go : MethodName := ⟨"LittleMix$Machine", "go", "(I)I"⟩
abbrev y_Mac_init : MethodName := ⟨"LittleMix$Machine", "<init>", "(LLittleMix$Memory;LLittleMix$Registers;)V"⟩
abbrev y_Mac_setBack : MethodName := ⟨"LittleMix$Machine", "setBack", "()V"⟩
abbrev y_Mac_step : MethodName := ⟨"LittleMix$Machine", "step", "()V"⟩
abbrev y_Mem_become : MethodName := ⟨"LittleMix$Memory", "become", "(LLittleMix$Memory;)V"⟩
abbrev y_Mem_clear : MethodName := ⟨"LittleMix$Memory", "clear", "()V"⟩
abbrev y_Mem_holds : MethodName := ⟨"LittleMix$Memory", "holds", "(JI)Z"⟩
abbrev y_Mem_init : MethodName := ⟨"LittleMix$Memory", "<init>", "()V"⟩
abbrev y_Mem_instruction : MethodName := ⟨"LittleMix$Memory", "instruction", "(J)I"⟩
abbrev y_Mem_mask : MethodName := ⟨"LittleMix$Memory", "mask", "(I)J"⟩
abbrev y_Mem_read : MethodName := ⟨"LittleMix$Memory", "read", "(JI)J"⟩
abbrev y_Mem_shift : MethodName := ⟨"LittleMix$Memory", "shift", "(JI)I"⟩
abbrev y_Mem_write : MethodName := ⟨"LittleMix$Memory", "write", "(JIJ)V"⟩
abbrev y_Mix_assemble : MethodName := ⟨"LittleMix", "assemble", "(I)I"⟩
abbrev y_Mix_back : MethodName := ⟨"LittleMix", "back", "()V"⟩
abbrev y_Mix_byteAt : MethodName := ⟨"LittleMix", "byteAt", "(I)I"⟩
abbrev y_Mix_feed : MethodName := ⟨"LittleMix", "feed", "(IIIII)Z"⟩
abbrev y_Mix_illAt : MethodName := ⟨"LittleMix", "illAt", "()I"⟩
abbrev y_Mix_init : MethodName := ⟨"LittleMix", "<init>", "()V"⟩
abbrev y_Mix_label : MethodName := ⟨"LittleMix", "label", "(I)J"⟩
abbrev y_Mix_place : MethodName := ⟨"LittleMix", "place", "()J"⟩
abbrev y_Mix_punch : MethodName := ⟨"LittleMix", "punch", "(I)V"⟩
abbrev y_Mix_register : MethodName := ⟨"LittleMix", "register", "(I)J"⟩
abbrev y_Mix_run : MethodName := ⟨"LittleMix", "run", "(I)I"⟩
abbrev y_Mix_special : MethodName := ⟨"LittleMix", "special", "(I)J"⟩
abbrev y_Mix_stopped : MethodName := ⟨"LittleMix", "stopped", "()I"⟩
abbrev y_Mix_store : MethodName := ⟨"LittleMix", "store", "(III)Z"⟩
abbrev y_Mix_taken : MethodName := ⟨"LittleMix", "taken", "(I)I"⟩
abbrev y_Mod_assemble : MethodName := ⟨"LittleMixModel", "assemble", "(I)I"⟩
abbrev y_Mod_back : MethodName := ⟨"LittleMixModel", "back", "()V"⟩
abbrev y_Mod_byteAt : MethodName := ⟨"LittleMixModel", "byteAt", "(I)I"⟩
abbrev y_Mod_feed : MethodName := ⟨"LittleMixModel", "feed", "(IIIII)Z"⟩
abbrev y_Mod_first : MethodName := ⟨"LittleMixModel", "first", "()I"⟩
abbrev y_Mod_get : MethodName := ⟨"LittleMixModel", "get", "(I)J"⟩
abbrev y_Mod_getSpecial : MethodName := ⟨"LittleMixModel", "getSpecial", "(I)J"⟩
abbrev y_Mod_illAt : MethodName := ⟨"LittleMixModel", "illAt", "()I"⟩
abbrev y_Mod_init : MethodName := ⟨"LittleMixModel", "<init>", "()V"⟩
abbrev y_Mod_isOp : MethodName := ⟨"LittleMixModel", "isOp", "(I)Z"⟩
abbrev y_Mod_isSpecial : MethodName := ⟨"LittleMixModel", "isSpecial", "(J)Z"⟩
abbrev y_Mod_label : MethodName := ⟨"LittleMixModel", "label", "(I)J"⟩
abbrev y_Mod_place : MethodName := ⟨"LittleMixModel", "place", "()J"⟩
abbrev y_Mod_register : MethodName := ⟨"LittleMixModel", "register", "(I)J"⟩
abbrev y_Mod_run : MethodName := ⟨"LittleMixModel", "run", "(I)I"⟩
abbrev y_Mod_second : MethodName := ⟨"LittleMixModel", "second", "()I"⟩
abbrev y_Mod_setBack : MethodName := ⟨"LittleMixModel", "setBack", "()V"⟩
abbrev y_Mod_special : MethodName := ⟨"LittleMixModel", "special", "(I)J"⟩
abbrev y_Mod_step : MethodName := ⟨"LittleMixModel", "step", "()I"⟩
abbrev y_Mod_stopped : MethodName := ⟨"LittleMixModel", "stopped", "()I"⟩
abbrev y_Mod_store : MethodName := ⟨"LittleMixModel", "store", "(III)Z"⟩
abbrev y_Mod_taken : MethodName := ⟨"LittleMixModel", "taken", "(I)I"⟩
abbrev y_Opd_init : MethodName := ⟨"LittleMix$Operands", "<init>", "()V"⟩
abbrev y_Opn_init : MethodName := ⟨"LittleMix$Operations", "<init>", "()V"⟩
abbrev y_Opn_learn : MethodName := ⟨"LittleMix$Operations", "learn", "(IILjava/lang/String;)V"⟩
abbrev y_Preconditions_checkIndex : MethodName := ⟨"jdk/internal/util/Preconditions", "checkIndex", "(IILjava/util/function/BiFunction;)I"⟩
abbrev y_Reg_clearFrom : MethodName := ⟨"LittleMix$Registers", "clearFrom", "(II)V"⟩
abbrev y_Reg_get : MethodName := ⟨"LittleMix$Registers", "get", "(I)J"⟩
abbrev y_Reg_init : MethodName := ⟨"LittleMix$Registers", "<init>", "()V"⟩
abbrev y_Reg_read : MethodName := ⟨"LittleMix$Registers", "read", "(I)J"⟩
abbrev y_Reg_reset : MethodName := ⟨"LittleMix$Registers", "reset", "()V"⟩
abbrev y_StringLatin1_charAt : MethodName := ⟨"java/lang/StringLatin1", "charAt", "([BI)C"⟩
abbrev y_String_charAt : MethodName := ⟨"java/lang/String", "charAt", "(I)C"⟩
abbrev y_String_checkIndex : MethodName := ⟨"java/lang/String", "checkIndex", "(II)V"⟩
abbrev y_String_coder : MethodName := ⟨"java/lang/String", "coder", "()B"⟩
abbrev y_String_isLatin1 : MethodName := ⟨"java/lang/String", "isLatin1", "()Z"⟩
abbrev y_String_length : MethodName := ⟨"java/lang/String", "length", "()I"⟩
abbrev y_Sum_init : MethodName := ⟨"LittleMix$Sum", "<init>", "([CLLittleMix$Labels;)V"⟩
theorem p_Mix_init : y_Mix_init.cls ≠ "java/lang/invoke/MethodHandle" ∧ y_Mix_init.cls ≠ "java/lang/invoke/VarHandle" ∧ (parseMethodDescriptor y_Mix_init.desc).map (fun d => d.parameters.length) = some 0 := by decide +kernel
theorem p_Mix_assemble : y_Mix_assemble.cls ≠ "java/lang/invoke/MethodHandle" ∧ y_Mix_assemble.cls ≠ "java/lang/invoke/VarHandle" ∧ (parseMethodDescriptor y_Mix_assemble.desc).map (fun d => d.parameters.length) = some 1 := by decide +kernel
theorem p_Mix_back : y_Mix_back.cls ≠ "java/lang/invoke/MethodHandle" ∧ y_Mix_back.cls ≠ "java/lang/invoke/VarHandle" ∧ (parseMethodDescriptor y_Mix_back.desc).map (fun d => d.parameters.length) = some 0 := by decide +kernel
theorem p_Mix_byteAt : y_Mix_byteAt.cls ≠ "java/lang/invoke/MethodHandle" ∧ y_Mix_byteAt.cls ≠ "java/lang/invoke/VarHandle" ∧ (parseMethodDescriptor y_Mix_byteAt.desc).map (fun d => d.parameters.length) = some 1 := by decide +kernel
theorem p_Mix_feed : y_Mix_feed.cls ≠ "java/lang/invoke/MethodHandle" ∧ y_Mix_feed.cls ≠ "java/lang/invoke/VarHandle" ∧ (parseMethodDescriptor y_Mix_feed.desc).map (fun d => d.parameters.length) = some 5 := by decide +kernel
theorem p_Mix_illAt : y_Mix_illAt.cls ≠ "java/lang/invoke/MethodHandle" ∧ y_Mix_illAt.cls ≠ "java/lang/invoke/VarHandle" ∧ (parseMethodDescriptor y_Mix_illAt.desc).map (fun d => d.parameters.length) = some 0 := by decide +kernel
theorem p_Mix_label : y_Mix_label.cls ≠ "java/lang/invoke/MethodHandle" ∧ y_Mix_label.cls ≠ "java/lang/invoke/VarHandle" ∧ (parseMethodDescriptor y_Mix_label.desc).map (fun d => d.parameters.length) = some 1 := by decide +kernel
theorem p_Mix_place : y_Mix_place.cls ≠ "java/lang/invoke/MethodHandle" ∧ y_Mix_place.cls ≠ "java/lang/invoke/VarHandle" ∧ (parseMethodDescriptor y_Mix_place.desc).map (fun d => d.parameters.length) = some 0 := by decide +kernel
theorem p_Mix_punch : y_Mix_punch.cls ≠ "java/lang/invoke/MethodHandle" ∧ y_Mix_punch.cls ≠ "java/lang/invoke/VarHandle" ∧ (parseMethodDescriptor y_Mix_punch.desc).map (fun d => d.parameters.length) = some 1 := by decide +kernel
theorem p_Mix_register : y_Mix_register.cls ≠ "java/lang/invoke/MethodHandle" ∧ y_Mix_register.cls ≠ "java/lang/invoke/VarHandle" ∧ (parseMethodDescriptor y_Mix_register.desc).map (fun d => d.parameters.length) = some 1 := by decide +kernel
theorem p_Mix_run : y_Mix_run.cls ≠ "java/lang/invoke/MethodHandle" ∧ y_Mix_run.cls ≠ "java/lang/invoke/VarHandle" ∧ (parseMethodDescriptor y_Mix_run.desc).map (fun d => d.parameters.length) = some 1 := by decide +kernel
theorem p_Mix_special : y_Mix_special.cls ≠ "java/lang/invoke/MethodHandle" ∧ y_Mix_special.cls ≠ "java/lang/invoke/VarHandle" ∧ (parseMethodDescriptor y_Mix_special.desc).map (fun d => d.parameters.length) = some 1 := by decide +kernel
theorem p_Mix_stopped : y_Mix_stopped.cls ≠ "java/lang/invoke/MethodHandle" ∧ y_Mix_stopped.cls ≠ "java/lang/invoke/VarHandle" ∧ (parseMethodDescriptor y_Mix_stopped.desc).map (fun d => d.parameters.length) = some 0 := by decide +kernel
theorem p_Mix_store : y_Mix_store.cls ≠ "java/lang/invoke/MethodHandle" ∧ y_Mix_store.cls ≠ "java/lang/invoke/VarHandle" ∧ (parseMethodDescriptor y_Mix_store.desc).map (fun d => d.parameters.length) = some 3 := by decide +kernel
theorem p_Mix_taken : y_Mix_taken.cls ≠ "java/lang/invoke/MethodHandle" ∧ y_Mix_taken.cls ≠ "java/lang/invoke/VarHandle" ∧ (parseMethodDescriptor y_Mix_taken.desc).map (fun d => d.parameters.length) = some 1 := by decide +kernel
theorem p_Asm_init : y_Asm_init.cls ≠ "java/lang/invoke/MethodHandle" ∧ y_Asm_init.cls ≠ "java/lang/invoke/VarHandle" ∧ (parseMethodDescriptor y_Asm_init.desc).map (fun d => d.parameters.length) = some 1 := by decide +kernel
theorem p_Asm_answer : y_Asm_answer.cls ≠ "java/lang/invoke/MethodHandle" ∧ y_Asm_answer.cls ≠ "java/lang/invoke/VarHandle" ∧ (parseMethodDescriptor y_Asm_answer.desc).map (fun d => d.parameters.length) = some 1 := by decide +kernel
theorem p_Asm_translate : y_Asm_translate.cls ≠ "java/lang/invoke/MethodHandle" ∧ y_Asm_translate.cls ≠ "java/lang/invoke/VarHandle" ∧ (parseMethodDescriptor y_Asm_translate.desc).map (fun d => d.parameters.length) = some 1 := by decide +kernel
theorem p_Lab_init : y_Lab_init.cls ≠ "java/lang/invoke/MethodHandle" ∧ y_Lab_init.cls ≠ "java/lang/invoke/VarHandle" ∧ (parseMethodDescriptor y_Lab_init.desc).map (fun d => d.parameters.length) = some 1 := by decide +kernel
theorem p_Lab_clear : y_Lab_clear.cls ≠ "java/lang/invoke/MethodHandle" ∧ y_Lab_clear.cls ≠ "java/lang/invoke/VarHandle" ∧ (parseMethodDescriptor y_Lab_clear.desc).map (fun d => d.parameters.length) = some 0 := by decide +kernel
theorem p_Lab_tell : y_Lab_tell.cls ≠ "java/lang/invoke/MethodHandle" ∧ y_Lab_tell.cls ≠ "java/lang/invoke/VarHandle" ∧ (parseMethodDescriptor y_Lab_tell.desc).map (fun d => d.parameters.length) = some 1 := by decide +kernel
theorem p_Lin_init : y_Lin_init.cls ≠ "java/lang/invoke/MethodHandle" ∧ y_Lin_init.cls ≠ "java/lang/invoke/VarHandle" ∧ (parseMethodDescriptor y_Lin_init.desc).map (fun d => d.parameters.length) = some 1 := by decide +kernel
theorem p_Mac_init : y_Mac_init.cls ≠ "java/lang/invoke/MethodHandle" ∧ y_Mac_init.cls ≠ "java/lang/invoke/VarHandle" ∧ (parseMethodDescriptor y_Mac_init.desc).map (fun d => d.parameters.length) = some 2 := by decide +kernel
theorem p_Mac_decode : y_Mac_decode.cls ≠ "java/lang/invoke/MethodHandle" ∧ y_Mac_decode.cls ≠ "java/lang/invoke/VarHandle" ∧ (parseMethodDescriptor y_Mac_decode.desc).map (fun d => d.parameters.length) = some 0 := by decide +kernel
theorem p_Mac_execute : y_Mac_execute.cls ≠ "java/lang/invoke/MethodHandle" ∧ y_Mac_execute.cls ≠ "java/lang/invoke/VarHandle" ∧ (parseMethodDescriptor y_Mac_execute.desc).map (fun d => d.parameters.length) = some 0 := by decide +kernel
theorem p_Mac_go : y_Mac_go.cls ≠ "java/lang/invoke/MethodHandle" ∧ y_Mac_go.cls ≠ "java/lang/invoke/VarHandle" ∧ (parseMethodDescriptor y_Mac_go.desc).map (fun d => d.parameters.length) = some 1 := by decide +kernel
theorem p_Mac_setBack : y_Mac_setBack.cls ≠ "java/lang/invoke/MethodHandle" ∧ y_Mac_setBack.cls ≠ "java/lang/invoke/VarHandle" ∧ (parseMethodDescriptor y_Mac_setBack.desc).map (fun d => d.parameters.length) = some 0 := by decide +kernel
theorem p_Mac_step : y_Mac_step.cls ≠ "java/lang/invoke/MethodHandle" ∧ y_Mac_step.cls ≠ "java/lang/invoke/VarHandle" ∧ (parseMethodDescriptor y_Mac_step.desc).map (fun d => d.parameters.length) = some 0 := by decide +kernel
theorem p_Mem_init : y_Mem_init.cls ≠ "java/lang/invoke/MethodHandle" ∧ y_Mem_init.cls ≠ "java/lang/invoke/VarHandle" ∧ (parseMethodDescriptor y_Mem_init.desc).map (fun d => d.parameters.length) = some 0 := by decide +kernel
theorem p_Mem_become : y_Mem_become.cls ≠ "java/lang/invoke/MethodHandle" ∧ y_Mem_become.cls ≠ "java/lang/invoke/VarHandle" ∧ (parseMethodDescriptor y_Mem_become.desc).map (fun d => d.parameters.length) = some 1 := by decide +kernel
theorem p_Mem_clear : y_Mem_clear.cls ≠ "java/lang/invoke/MethodHandle" ∧ y_Mem_clear.cls ≠ "java/lang/invoke/VarHandle" ∧ (parseMethodDescriptor y_Mem_clear.desc).map (fun d => d.parameters.length) = some 0 := by decide +kernel
theorem p_Mem_holds : y_Mem_holds.cls ≠ "java/lang/invoke/MethodHandle" ∧ y_Mem_holds.cls ≠ "java/lang/invoke/VarHandle" ∧ (parseMethodDescriptor y_Mem_holds.desc).map (fun d => d.parameters.length) = some 2 := by decide +kernel
theorem p_Mem_instruction : y_Mem_instruction.cls ≠ "java/lang/invoke/MethodHandle" ∧ y_Mem_instruction.cls ≠ "java/lang/invoke/VarHandle" ∧ (parseMethodDescriptor y_Mem_instruction.desc).map (fun d => d.parameters.length) = some 1 := by decide +kernel
theorem p_Mem_mask : y_Mem_mask.cls ≠ "java/lang/invoke/MethodHandle" ∧ y_Mem_mask.cls ≠ "java/lang/invoke/VarHandle" ∧ (parseMethodDescriptor y_Mem_mask.desc).map (fun d => d.parameters.length) = some 1 := by decide +kernel
theorem p_Mem_read : y_Mem_read.cls ≠ "java/lang/invoke/MethodHandle" ∧ y_Mem_read.cls ≠ "java/lang/invoke/VarHandle" ∧ (parseMethodDescriptor y_Mem_read.desc).map (fun d => d.parameters.length) = some 2 := by decide +kernel
theorem p_Mem_shift : y_Mem_shift.cls ≠ "java/lang/invoke/MethodHandle" ∧ y_Mem_shift.cls ≠ "java/lang/invoke/VarHandle" ∧ (parseMethodDescriptor y_Mem_shift.desc).map (fun d => d.parameters.length) = some 2 := by decide +kernel
theorem p_Mem_write : y_Mem_write.cls ≠ "java/lang/invoke/MethodHandle" ∧ y_Mem_write.cls ≠ "java/lang/invoke/VarHandle" ∧ (parseMethodDescriptor y_Mem_write.desc).map (fun d => d.parameters.length) = some 3 := by decide +kernel
theorem p_Opd_init : y_Opd_init.cls ≠ "java/lang/invoke/MethodHandle" ∧ y_Opd_init.cls ≠ "java/lang/invoke/VarHandle" ∧ (parseMethodDescriptor y_Opd_init.desc).map (fun d => d.parameters.length) = some 0 := by decide +kernel
theorem p_Opn_init : y_Opn_init.cls ≠ "java/lang/invoke/MethodHandle" ∧ y_Opn_init.cls ≠ "java/lang/invoke/VarHandle" ∧ (parseMethodDescriptor y_Opn_init.desc).map (fun d => d.parameters.length) = some 0 := by decide +kernel
theorem p_Opn_learn : y_Opn_learn.cls ≠ "java/lang/invoke/MethodHandle" ∧ y_Opn_learn.cls ≠ "java/lang/invoke/VarHandle" ∧ (parseMethodDescriptor y_Opn_learn.desc).map (fun d => d.parameters.length) = some 3 := by decide +kernel
theorem p_Reg_init : y_Reg_init.cls ≠ "java/lang/invoke/MethodHandle" ∧ y_Reg_init.cls ≠ "java/lang/invoke/VarHandle" ∧ (parseMethodDescriptor y_Reg_init.desc).map (fun d => d.parameters.length) = some 0 := by decide +kernel
theorem p_Reg_clearFrom : y_Reg_clearFrom.cls ≠ "java/lang/invoke/MethodHandle" ∧ y_Reg_clearFrom.cls ≠ "java/lang/invoke/VarHandle" ∧ (parseMethodDescriptor y_Reg_clearFrom.desc).map (fun d => d.parameters.length) = some 2 := by decide +kernel
theorem p_Reg_get : y_Reg_get.cls ≠ "java/lang/invoke/MethodHandle" ∧ y_Reg_get.cls ≠ "java/lang/invoke/VarHandle" ∧ (parseMethodDescriptor y_Reg_get.desc).map (fun d => d.parameters.length) = some 1 := by decide +kernel
theorem p_Reg_read : y_Reg_read.cls ≠ "java/lang/invoke/MethodHandle" ∧ y_Reg_read.cls ≠ "java/lang/invoke/VarHandle" ∧ (parseMethodDescriptor y_Reg_read.desc).map (fun d => d.parameters.length) = some 1 := by decide +kernel
theorem p_Reg_reset : y_Reg_reset.cls ≠ "java/lang/invoke/MethodHandle" ∧ y_Reg_reset.cls ≠ "java/lang/invoke/VarHandle" ∧ (parseMethodDescriptor y_Reg_reset.desc).map (fun d => d.parameters.length) = some 0 := by decide +kernel
theorem p_Sum_init : y_Sum_init.cls ≠ "java/lang/invoke/MethodHandle" ∧ y_Sum_init.cls ≠ "java/lang/invoke/VarHandle" ∧ (parseMethodDescriptor y_Sum_init.desc).map (fun d => d.parameters.length) = some 2 := by decide +kernel
theorem p_Mod_init : y_Mod_init.cls ≠ "java/lang/invoke/MethodHandle" ∧ y_Mod_init.cls ≠ "java/lang/invoke/VarHandle" ∧ (parseMethodDescriptor y_Mod_init.desc).map (fun d => d.parameters.length) = some 0 := by decide +kernel
theorem p_Mod_assemble : y_Mod_assemble.cls ≠ "java/lang/invoke/MethodHandle" ∧ y_Mod_assemble.cls ≠ "java/lang/invoke/VarHandle" ∧ (parseMethodDescriptor y_Mod_assemble.desc).map (fun d => d.parameters.length) = some 1 := by decide +kernel
theorem p_Mod_back : y_Mod_back.cls ≠ "java/lang/invoke/MethodHandle" ∧ y_Mod_back.cls ≠ "java/lang/invoke/VarHandle" ∧ (parseMethodDescriptor y_Mod_back.desc).map (fun d => d.parameters.length) = some 0 := by decide +kernel
theorem p_Mod_byteAt : y_Mod_byteAt.cls ≠ "java/lang/invoke/MethodHandle" ∧ y_Mod_byteAt.cls ≠ "java/lang/invoke/VarHandle" ∧ (parseMethodDescriptor y_Mod_byteAt.desc).map (fun d => d.parameters.length) = some 1 := by decide +kernel
theorem p_Mod_feed : y_Mod_feed.cls ≠ "java/lang/invoke/MethodHandle" ∧ y_Mod_feed.cls ≠ "java/lang/invoke/VarHandle" ∧ (parseMethodDescriptor y_Mod_feed.desc).map (fun d => d.parameters.length) = some 5 := by decide +kernel
theorem p_Mod_first : y_Mod_first.cls ≠ "java/lang/invoke/MethodHandle" ∧ y_Mod_first.cls ≠ "java/lang/invoke/VarHandle" ∧ (parseMethodDescriptor y_Mod_first.desc).map (fun d => d.parameters.length) = some 0 := by decide +kernel
theorem p_Mod_get : y_Mod_get.cls ≠ "java/lang/invoke/MethodHandle" ∧ y_Mod_get.cls ≠ "java/lang/invoke/VarHandle" ∧ (parseMethodDescriptor y_Mod_get.desc).map (fun d => d.parameters.length) = some 1 := by decide +kernel
theorem p_Mod_getSpecial : y_Mod_getSpecial.cls ≠ "java/lang/invoke/MethodHandle" ∧ y_Mod_getSpecial.cls ≠ "java/lang/invoke/VarHandle" ∧ (parseMethodDescriptor y_Mod_getSpecial.desc).map (fun d => d.parameters.length) = some 1 := by decide +kernel
theorem p_Mod_illAt : y_Mod_illAt.cls ≠ "java/lang/invoke/MethodHandle" ∧ y_Mod_illAt.cls ≠ "java/lang/invoke/VarHandle" ∧ (parseMethodDescriptor y_Mod_illAt.desc).map (fun d => d.parameters.length) = some 0 := by decide +kernel
theorem p_Mod_isOp : y_Mod_isOp.cls ≠ "java/lang/invoke/MethodHandle" ∧ y_Mod_isOp.cls ≠ "java/lang/invoke/VarHandle" ∧ (parseMethodDescriptor y_Mod_isOp.desc).map (fun d => d.parameters.length) = some 1 := by decide +kernel
theorem p_Mod_isSpecial : y_Mod_isSpecial.cls ≠ "java/lang/invoke/MethodHandle" ∧ y_Mod_isSpecial.cls ≠ "java/lang/invoke/VarHandle" ∧ (parseMethodDescriptor y_Mod_isSpecial.desc).map (fun d => d.parameters.length) = some 1 := by decide +kernel
theorem p_Mod_label : y_Mod_label.cls ≠ "java/lang/invoke/MethodHandle" ∧ y_Mod_label.cls ≠ "java/lang/invoke/VarHandle" ∧ (parseMethodDescriptor y_Mod_label.desc).map (fun d => d.parameters.length) = some 1 := by decide +kernel
theorem p_Mod_place : y_Mod_place.cls ≠ "java/lang/invoke/MethodHandle" ∧ y_Mod_place.cls ≠ "java/lang/invoke/VarHandle" ∧ (parseMethodDescriptor y_Mod_place.desc).map (fun d => d.parameters.length) = some 0 := by decide +kernel
theorem p_Mod_register : y_Mod_register.cls ≠ "java/lang/invoke/MethodHandle" ∧ y_Mod_register.cls ≠ "java/lang/invoke/VarHandle" ∧ (parseMethodDescriptor y_Mod_register.desc).map (fun d => d.parameters.length) = some 1 := by decide +kernel
theorem p_Mod_run : y_Mod_run.cls ≠ "java/lang/invoke/MethodHandle" ∧ y_Mod_run.cls ≠ "java/lang/invoke/VarHandle" ∧ (parseMethodDescriptor y_Mod_run.desc).map (fun d => d.parameters.length) = some 1 := by decide +kernel
theorem p_Mod_second : y_Mod_second.cls ≠ "java/lang/invoke/MethodHandle" ∧ y_Mod_second.cls ≠ "java/lang/invoke/VarHandle" ∧ (parseMethodDescriptor y_Mod_second.desc).map (fun d => d.parameters.length) = some 0 := by decide +kernel
theorem p_Mod_setBack : y_Mod_setBack.cls ≠ "java/lang/invoke/MethodHandle" ∧ y_Mod_setBack.cls ≠ "java/lang/invoke/VarHandle" ∧ (parseMethodDescriptor y_Mod_setBack.desc).map (fun d => d.parameters.length) = some 0 := by decide +kernel
theorem p_Mod_special : y_Mod_special.cls ≠ "java/lang/invoke/MethodHandle" ∧ y_Mod_special.cls ≠ "java/lang/invoke/VarHandle" ∧ (parseMethodDescriptor y_Mod_special.desc).map (fun d => d.parameters.length) = some 1 := by decide +kernel
theorem p_Mod_step : y_Mod_step.cls ≠ "java/lang/invoke/MethodHandle" ∧ y_Mod_step.cls ≠ "java/lang/invoke/VarHandle" ∧ (parseMethodDescriptor y_Mod_step.desc).map (fun d => d.parameters.length) = some 0 := by decide +kernel
theorem p_Mod_stopped : y_Mod_stopped.cls ≠ "java/lang/invoke/MethodHandle" ∧ y_Mod_stopped.cls ≠ "java/lang/invoke/VarHandle" ∧ (parseMethodDescriptor y_Mod_stopped.desc).map (fun d => d.parameters.length) = some 0 := by decide +kernel
theorem p_Mod_store : y_Mod_store.cls ≠ "java/lang/invoke/MethodHandle" ∧ y_Mod_store.cls ≠ "java/lang/invoke/VarHandle" ∧ (parseMethodDescriptor y_Mod_store.desc).map (fun d => d.parameters.length) = some 3 := by decide +kernel
theorem p_Mod_taken : y_Mod_taken.cls ≠ "java/lang/invoke/MethodHandle" ∧ y_Mod_taken.cls ≠ "java/lang/invoke/VarHandle" ∧ (parseMethodDescriptor y_Mod_taken.desc).map (fun d => d.parameters.length) = some 1 := by decide +kernel
theorem p_String_charAt : y_String_charAt.cls ≠ "java/lang/invoke/MethodHandle" ∧ y_String_charAt.cls ≠ "java/lang/invoke/VarHandle" ∧ (parseMethodDescriptor y_String_charAt.desc).map (fun d => d.parameters.length) = some 1 := by decide +kernel
theorem p_String_checkIndex : y_String_checkIndex.cls ≠ "java/lang/invoke/MethodHandle" ∧ y_String_checkIndex.cls ≠ "java/lang/invoke/VarHandle" ∧ (parseMethodDescriptor y_String_checkIndex.desc).map (fun d => d.parameters.length) = some 2 := by decide +kernel
theorem p_String_coder : y_String_coder.cls ≠ "java/lang/invoke/MethodHandle" ∧ y_String_coder.cls ≠ "java/lang/invoke/VarHandle" ∧ (parseMethodDescriptor y_String_coder.desc).map (fun d => d.parameters.length) = some 0 := by decide +kernel
theorem p_String_isLatin1 : y_String_isLatin1.cls ≠ "java/lang/invoke/MethodHandle" ∧ y_String_isLatin1.cls ≠ "java/lang/invoke/VarHandle" ∧ (parseMethodDescriptor y_String_isLatin1.desc).map (fun d => d.parameters.length) = some 0 := by decide +kernel
theorem p_String_length : y_String_length.cls ≠ "java/lang/invoke/MethodHandle" ∧ y_String_length.cls ≠ "java/lang/invoke/VarHandle" ∧ (parseMethodDescriptor y_String_length.desc).map (fun d => d.parameters.length) = some 0 := by decide +kernel
theorem p_StringLatin1_charAt : y_StringLatin1_charAt.cls ≠ "java/lang/invoke/MethodHandle" ∧ y_StringLatin1_charAt.cls ≠ "java/lang/invoke/VarHandle" ∧ (parseMethodDescriptor y_StringLatin1_charAt.desc).map (fun d => d.parameters.length) = some 2 := by decide +kernel
theorem p_Preconditions_checkIndex : y_Preconditions_checkIndex.cls ≠ "java/lang/invoke/MethodHandle" ∧ y_Preconditions_checkIndex.cls ≠ "java/lang/invoke/VarHandle" ∧ (parseMethodDescriptor y_Preconditions_checkIndex.desc).map (fun d => d.parameters.length) = some 3 := by decide +kernel
end
section
/-! what all contracts here share: the tables' words, the nest's words, the arrays' classes, the literals -/
abbrev mx_K : Type := va_G × (Nat × Nat × Nat × Nat) × (Nat → Nat) × (Nat → Nat)
abbrev mx_ty (K : mx_K) : List (ClassId × FieldType) := [(K.2.1.1, .long), (K.2.1.2.1, .int), (K.2.1.2.2.1, .char), (K.2.1.2.2.2, .boolean)]
def mx_isNest : Cond → Bool
  | .fieldLinkNest .. => true
  | .methodLinkNest .. => true
  | _ => false
def mx_Ns : List Cond := tables_1.filter mx_isNest
def mx_N (U : State) : Prop := ∀ w ∈ mx_Ns, va_Nw w U
theorem mx_N.warm {s U : State} (hW : s.WarmedH U.vm) (h : mx_N s) : mx_N U := by
  intro w hw
  have h1 := h w hw
  have h2 : mx_isNest w = true := (List.mem_filter.mp hw).2
  cases w <;> first | exact va_Nw.warmF hW h1 | exact va_Nw.warmM hW h1 | (simp [mx_isNest] at h2)
theorem mx_N.same {s U : State} (hv : s.vm = U.vm) (h : mx_N s) : mx_N U := by
  intro w hw
  have h2 : mx_isNest w = true := (List.mem_filter.mp hw).2
  exact va_Nw.same (by cases w <;> first | rfl | (simp [mx_isNest] at h2)) hv (h w hw)
def mx_T : List Cond := lw_tbl.filter goodWord
theorem mx_good {w : Cond} (h : w ∈ mx_T) : GoodIn mx_T (w :: mx_T) := by
  intro v hv
  have hv : v ∈ mx_T := by
    rcases List.mem_cons.mp hv with rfl | hv
    · exact h
    · exact hv
  exact ⟨hv, good_of_word (List.mem_filter.mp hv).2⟩
/-- the literals: what they hold, where the pools have them; and one switch of the library -/
def mx_S (K : mx_K) (A : Nat → Prop) (U : State) (H : Heap) : Prop := ∀ i : Nat, i < mx_nS → va_O "java/lang/String" (K.2.2.1 i) A U H ∧ va_OF "java/lang/String" "coder" "B" (.int 0) (K.2.2.1 i) A U H ∧ va_OF "java/lang/String" "value" "[B" (.ref (K.2.2.2 i)) (K.2.2.1 i) A U H ∧ va_T .byte (K.2.2.2 i) (mx_len.getD i 0) (fun j => .int ((mx_byt.getD i []).getD j 0)) A U H
def mx_E (K : mx_K) (A : Nat → Prop) (U : State) (H : Heap) : Prop :=
  mx_S K A U H ∧ (∀ i : Nat, i < mx_nS → vk_R (mx_own.getD i "") (mx_idx.getD i 0) (mx_tx.getD i "") (K.2.2.1 i) U) ∧ va_Z "java/lang/String" "COMPACT_STRINGS" "Z" (.int 1) A U H ∧ va_Zq "jdk/internal/util/Preconditions" "SIOOBE_FORMATTER" "Ljava/util/function/BiFunction;" A U H
theorem mx_S.moved {K : mx_K} {A : Nat → Prop} {u U : State} {H : Heap} (hvm : u.vm.Alike U.vm) (h : mx_S K A u H) : mx_S K A U H := fun i hi => ⟨va_O.moved hvm (h i hi).1, va_OF.moved hvm (h i hi).2.1, va_OF.moved hvm (h i hi).2.2.1, va_T.moved hvm (h i hi).2.2.2⟩
theorem mx_S.kept {K : mx_K} {A : Nat → Prop} {U : State} {H H1 : Heap} (h : mx_S K A U H) (hq : ∀ a : Nat, a < H.size → ¬ A a → H1[a]? = H[a]?) : mx_S K A U H1 := fun i hi => ⟨(h i hi).1.kept hq, (h i hi).2.1.kept hq, (h i hi).2.2.1.kept hq, (h i hi).2.2.2.kept hq⟩
theorem mx_S.narrow {K : mx_K} {A B : Nat → Prop} {U : State} {H : Heap} (h : mx_S K A U H) (hAB : ∀ q, B q → A q) : mx_S K B U H := fun i hi => ⟨(h i hi).1.narrow hAB, (h i hi).2.1.narrow hAB, (h i hi).2.2.1.narrow hAB, (h i hi).2.2.2.narrow hAB⟩
theorem mx_E.warm {K : mx_K} {A : Nat → Prop} {s U : State} {H : Heap} (hW : s.WarmedH U.vm) (h : mx_E K A s H) : mx_E K A U H := ⟨h.1.moved hW.alike, fun i hi => (h.2.1 i hi).warm hW, h.2.2.1.moved hW.alike, h.2.2.2.moved hW.alike⟩
theorem mx_E.same {K : mx_K} {A : Nat → Prop} {s U : State} {H : Heap} (hv : U.vm = s.vm) (h : mx_E K A s H) : mx_E K A U H := ⟨h.1.moved (by rw [hv]; exact Vm.Alike.refl _), fun i hi => (h.2.1 i hi).same hv, h.2.2.1.moved (by rw [hv]; exact Vm.Alike.refl _), h.2.2.2.moved (by rw [hv]; exact Vm.Alike.refl _)⟩
theorem mx_E.kept {K : mx_K} {A : Nat → Prop} {U : State} {H H1 : Heap} (h : mx_E K A U H) (hq : ∀ a : Nat, a < H.size → ¬ A a → H1[a]? = H[a]?) : mx_E K A U H1 := ⟨h.1.kept hq, h.2.1, h.2.2.1.kept hq, h.2.2.2.kept hq⟩
theorem mx_E.narrow {K : mx_K} {A B : Nat → Prop} {U : State} {H : Heap} (h : mx_E K A U H) (hAB : ∀ q, B q → A q) : mx_E K B U H := ⟨h.1.narrow hAB, h.2.1, h.2.2.1.narrow hAB, h.2.2.2.narrow hAB⟩
theorem mx_recvS {K : mx_K} {A : Nat → Prop} {s : State} {H : Heap} {locs : List Loc} {i : Nat} (hE : mx_E K A s s.heap) (hi : i < mx_nS) (hS : va_S A s.heap H locs) : ∃ cell : Cell, H[K.2.2.1 i]? = some cell ∧ cell.vm.isStatics = false ∧ s.vm.findClass "java/lang/String" = some cell.cls := by
  obtain ⟨cell, h1, h2, h3, -⟩ := (hE.1 i hi).1.kept hS.2.1
  exact ⟨cell, h1, h2, h3⟩
/-- what stands fixed over a method's body -/
def mx_F (p : Program) (s : State) (m : MethodId) (args : Array Value) (c : Code) (cc : ByteArray) (nL : Nat) (own : String) (K : mx_K) (A : Nat → Prop) : Prop :=
  p.tables.exec = Jvm.exec ∧ c.code = cc ∧ c.maxLocals = nL ∧ s.vm.findClass own = some m.cls ∧ (∀ w ∈ mx_T, w.before args s = true) ∧ va_K K.1 mx_cl (mx_ty K) s ∧ mx_N s ∧ mx_E K A s s.heap ∧ ∀ q, s.heap.size ≤ q → A q
/-- a method's start -/
def mx_P (K : mx_K) (wc : va_W) (sz : Nat) (U : State) : Prop := U.heap.size = sz ∧ va_P K.1 mx_cl wc U.heap ∧ va_D (fun _ => True) wc ∧ va_K K.1 mx_cl (mx_ty K) U ∧ mx_N U ∧ mx_E K (va_A wc sz) U U.heap
abbrev mx_B (K : mx_K) (A : Nat → Prop) {S : Type} (w1 : S → va_W) (u : S) (t : State) : Prop := va_P K.1 mx_cl (w1 u) t.heap ∧ va_D A (w1 u)
abbrev mx_V (l : Launch) (y : MethodName) (b : ByteArray) (mL : Nat) (rm : Room) (K : mx_K) (av : List Value) (wc : va_W) (sz : Nat) {S : Type} (post : S → Prop) (w1 : S → va_W) : Prop :=
  Met l y (Cond.code y b mL none :: mx_T) rm (va_Pc av (mx_P K wc sz)) (va_Qv post (mx_B K (va_A wc sz) w1) (va_A wc sz)) rm.cells rm.slots (va_A wc sz)
abbrev mx_I (l : Launch) (y : MethodName) (b : ByteArray) (mL : Nat) (ty : FieldType) (rm : Room) (K : mx_K) (av : List Value) (wc : va_W) (sz : Nat) {S : Type} (post : Int32 → S → Prop) (w1 : S → va_W) : Prop :=
  Met l y (Cond.code y b mL (some ty) :: mx_T) rm (va_Pc av (mx_P K wc sz)) (va_Qi post (mx_B K (va_A wc sz) w1) (va_A wc sz)) rm.cells rm.slots (va_A wc sz)
abbrev mx_L (l : Launch) (y : MethodName) (b : ByteArray) (mL : Nat) (rm : Room) (K : mx_K) (av : List Value) (wc : va_W) (sz : Nat) {S : Type} (post : Int64 → S → Prop) (w1 : S → va_W) : Prop :=
  Met l y (Cond.code y b mL (some .long) :: mx_T) rm (va_Pc av (mx_P K wc sz)) (va_Ql post (mx_B K (va_A wc sz) w1) (va_A wc sz)) rm.cells rm.slots (va_A wc sz)
/-- a body's beginning -/
theorem mx_of {l : Launch} {y : MethodName} {b : ByteArray} {mL : Nat} {ret : Option FieldType} {rm : Room} {K : mx_K} {av : List Value} {wc : va_W} {sz : Nat} {Qc : Array Value → State → Outcome → State → Prop} {mc ms : Nat} (hy : plainName y.cls = true) (hlen : (lg_sl av).length ≤ mL)
    (body : ∀ (p : Program) (e : Env) (s : State) (m : MethodId) (below : List Frame) (meth : Method) (c : Code) (A : Nat → Prop) (ls : Array Slot) (H : Heap) (locs : List Loc), va_A wc sz = A → mx_F p s m av.toArray c b mL y.cls K A → meth.sig.returnType = ret → meth.locks = false → meth.name = y.name → s.heap.size = sz → va_P K.1 mx_cl wc H → va_D A wc → va_S A s.heap H locs → lv_has ls mL (lv_args 0 av) →
      W p l e rm s m av.toArray below meth c H locs 0 0 (MQ below Qc av.toArray s mc ms A) (F0 m 0 ls [])) :
    Met l y (Cond.code y b mL ret :: mx_T) rm (va_Pc av (mx_P K wc sz)) Qc mc ms (va_A wc sz) := by
  refine Met.ofW (cc := b) (maxL := mL) (ret := ret) hy rfl ?_
  intro p e s m args below meth c s₁ B hml hv
  obtain ⟨rfl, hsz, hP, hD0, hK, hN, hE⟩ := hv
  have hts := atoms_spec (ws := Cond.code y b mL ret :: mx_T) B.pre
  have hown : s.vm.findClass y.cls = some m.cls := findClass_of_methodNamed B.named
  have hl := lv_entry av (n := mL) hlen
  rw [lg_entry_eq]
  exact body p e s m below meth c _ _ _ _ rfl ⟨B.exec, B.bytes, hml, hown, fun w h => hts w (List.mem_cons_of_mem _ h), hK, hN, hE, fun q h => Or.inr (by rw [← hsz]; exact h)⟩ B.returns B.notSynchronized (name_of_methodNamed B.named B.method).1 hsz hP hD0.self va_S.rf hl
theorem mx_updJ0 (k : Nat) : vp_updL (fun _ => 0) k 0 = fun _ => 0 := by
  funext j
  simp [vp_updL]
theorem mx_updI0 (k : Nat) : upd (fun _ => 0) k 0 = fun _ => 0 := by
  funext j
  simp [upd]
theorem mx_inc (k : Nat) : nI k + Int32.ofInt 1 = nI (k + 1) := by
  rw [show Int32.ofInt 1 = 1 from by decide]
  exact nI_1 k
section MXR
variable {p : Program} {l : Launch} {e : Env} {R : Room} {s : State} {m : MethodId} {args : Array Value} {below : List Frame} {meth : Method} {c : Code} {H : Heap} {locs : List Loc} {cells slots : Nat} {Q : State → Prop}
variable {cc : ByteArray} {nL : Nat} {own : String} {K : mx_K} {A : Nat → Prop} {pc : Nat} {ls : Array Slot} {rest st0 : List Value}
variable {y : MethodName} {b : ByteArray} {mL : Nat} {ret : Option FieldType} {rm : Room} {wc ws wr : va_W} {Qc : Array Value → State → Outcome → State → Prop} {n index a mc ms : Nat} {As : List Value}
/-- the callee's start out of the caller's world -/
theorem mx_pre (F : mx_F p s m args c cc nL own K A) (hP : va_P K.1 mx_cl ws H) (hD : va_D A ws) (hS : va_S A s.heap H locs) (isC : List Nat) (hC : isC.map (fun i => ws[i]?) = wc.map some) (hnC : va_nd isC = true) (av : List Value) :
    FrameBlind (va_Pc av (mx_P K wc H.size)) ∧ ∀ U : State, U.heap = H → s.WarmedH U.vm → va_Pc av (mx_P K wc H.size) av.toArray U := by
  obtain ⟨hx, hb, hml, hown, hT, hK, hN, hE, hA⟩ := F
  refine ⟨fun a U g mk q => ?_, fun U hU hW => ?_⟩
  · obtain ⟨q0, q1, qP, qD, qK, qN, qE⟩ := q
    exact ⟨q0, q1, qP, qD, va_K.moved (u := U) (U := U.calling g mk a) (Vm.Alike.refl U.vm) qK, mx_N.same (s := U) (U := U.calling g mk a) rfl qN, mx_E.same (s := U) (U := U.calling g mk a) rfl qE⟩
  · have hF := va_free (wc := wc) hD hS hA isC hC
    have hw : isC.filterMap (fun i => ws[i]?) = wc := by
      have h1 : (isC.map (fun i => ws[i]?)).filterMap id = (wc.map some).filterMap id := by rw [hC]
      simpa [List.filterMap_map] using h1
    refine ⟨rfl, by rw [hU], by rw [hU]; exact hP.sub isC hw, (hD.sub isC hnC hC).weaken (fun _ _ _ _ => trivial), va_K.moved hW.alike hK, hN.warm hW, ?_⟩
    rw [hU]
    exact ((hE.kept hS.2.1).narrow hF).warm hW
/-- a call's link: plain, or of the nest -/
def mx_lk (own : String) (index : Nat) (y : MethodName) : Prop := Cond.methodLink own index y ∈ mx_T ∨ ∃ host : String, Cond.methodLinkNest own index y host ∈ mx_Ns
theorem mx_runV (F : mx_F p s m args c cc nL own K A) (hM : Met l y (Cond.code y b mL ret :: mx_T) rm (va_Pc (.ref a :: As) (mx_P K wc H.size)) Qc mc ms (va_A wc H.size)) (hcode : Cond.code y b mL ret ∈ mx_T) (hl : mx_lk own index y) (hi : Cond.instanceMethod y ∈ mx_T) (hsel : Cond.selects y.cls y y ∈ mx_T) (hini : Cond.initialized y.cls ∈ mx_T)
    (hd : y.cls ≠ "java/lang/invoke/MethodHandle" ∧ y.cls ≠ "java/lang/invoke/VarHandle" ∧ (parseMethodDescriptor y.desc).map (fun d => d.parameters.length) = some n) (hrc : rm.cells = mc) (hrs : rm.slots = ms) (hP : va_P K.1 mx_cl ws H) (hD : va_D A ws) (hS : va_S A s.heap H locs) (isC : List Nat) (hC : isC.map (fun i => ws[i]?) = wc.map some) (hnC : va_nd isC = true)
    (hrecv : ∃ cell : Cell, H[a]? = some cell ∧ cell.vm.isStatics = false ∧ s.vm.findClass y.cls = some cell.cls) (hn : As.length = n) (hsize : ls.size = nL) (hstack : st0 = As.reverse ++ .ref a :: rest) (hroom : (rest.map fun v => v.category).sum ≤ 8) (hR : rm.frames + 1 ≤ R.frames ∧ 8 + (mL + 11) + rm.locals ≤ R.locals) (hf : cells + mc ≤ R.cells ∧ slots + ms ≤ R.slots) (hdg : decode cc pc = .ok (.invokevirtual index, 3)) :
    va_Run p l e R s m args below meth c H locs cells slots mc ms (F0 m pc ls st0) rest (Qc (Value.ref a :: As).toArray) (va_A wc H.size) := by
  obtain ⟨hbl, hpr⟩ := mx_pre F hP hD hS isC hC hnC (.ref a :: As)
  obtain ⟨hx, hb, hml, hown, hT, hK, hN, hE, hA⟩ := F
  rcases hl with hl | ⟨host, hl⟩
  · exact va_runV (C := y.cls) (ret := ret) (n := n) ⟨hx, hb, hml, hown, hT⟩ hM ⟨callB_of n hT (mx_good hcode) rfl hrc hrs (hT _ hini) (hT _ hl) hd hR, hT _ hi, hT _ hsel⟩ ⟨hbl, hrecv, hpr⟩ rfl hn hsize hstack (lv_room hroom) hdg hf
  · exact va_runVN (C := y.cls) (ret := ret) (n := n) ⟨hx, hb, hml, hown, hT⟩ hM ⟨va_cnB n hT (mx_good hcode) rfl hrc hrs (hN _ hl) (hT _ hini) hd hR, hT _ hi, hT _ hsel⟩ ⟨hbl, hrecv, hpr⟩ rfl hn hsize hstack (lv_room hroom) hdg hf
theorem mx_runS (F : mx_F p s m args c cc nL own K A) (hM : Met l y (Cond.code y b mL ret :: mx_T) rm (va_Pc As (mx_P K wc H.size)) Qc mc ms (va_A wc H.size)) (hcode : Cond.code y b mL ret ∈ mx_T) (hl : mx_lk own index y) (hi : Cond.static y ∈ mx_T) (hini : Cond.initialized y.cls ∈ mx_T)
    (hd : y.cls ≠ "java/lang/invoke/MethodHandle" ∧ y.cls ≠ "java/lang/invoke/VarHandle" ∧ (parseMethodDescriptor y.desc).map (fun d => d.parameters.length) = some n) (hrc : rm.cells = mc) (hrs : rm.slots = ms) (hP : va_P K.1 mx_cl ws H) (hD : va_D A ws) (hS : va_S A s.heap H locs) (isC : List Nat) (hC : isC.map (fun i => ws[i]?) = wc.map some) (hnC : va_nd isC = true)
    (hn : As.length = n) (hsize : ls.size = nL) (hstack : st0 = As.reverse ++ rest) (hroom : (rest.map fun v => v.category).sum ≤ 8) (hR : rm.frames + 1 ≤ R.frames ∧ 8 + (mL + 11) + rm.locals ≤ R.locals) (hf : cells + mc ≤ R.cells ∧ slots + ms ≤ R.slots) (hdg : decode cc pc = .ok (.invokestatic index, 3)) :
    va_Run p l e R s m args below meth c H locs cells slots mc ms (F0 m pc ls st0) rest (Qc As.toArray) (va_A wc H.size) := by
  obtain ⟨hbl, hpr⟩ := mx_pre F hP hD hS isC hC hnC As
  obtain ⟨hx, hb, hml, hown, hT, hK, hN, hE, hA⟩ := F
  rcases hl with hl | ⟨host, hl⟩
  · exact va_runS (ret := ret) (n := n) ⟨hx, hb, hml, hown, hT⟩ hM ⟨callB_of n hT (mx_good hcode) rfl hrc hrs (hT _ hini) (hT _ hl) hd hR, hT _ hi⟩ ⟨hbl, hpr⟩ rfl hn hsize hstack (lv_room hroom) hdg hf
  · exact va_runSN (ret := ret) (n := n) ⟨hx, hb, hml, hown, hT⟩ hM ⟨va_cnB n hT (mx_good hcode) rfl hrc hrs (hN _ hl) (hT _ hini) hd hR, hT _ hi, trivial⟩ ⟨hbl, hpr⟩ rfl hn hsize hstack (lv_room hroom) hdg hf
theorem mx_runI (F : mx_F p s m args c cc nL own K A) (hM : Met l y (Cond.code y b mL none :: mx_T) rm (va_Pc (.ref a :: As) (mx_P K wc H.size)) Qc mc ms (va_A wc H.size)) (hcode : Cond.code y b mL none ∈ mx_T) (hl : mx_lk own index y) (hi : Cond.instanceMethod y ∈ mx_T) (hy1 : y.name = "<init>") (hini : Cond.initialized y.cls ∈ mx_T)
    (hd : y.cls ≠ "java/lang/invoke/MethodHandle" ∧ y.cls ≠ "java/lang/invoke/VarHandle" ∧ (parseMethodDescriptor y.desc).map (fun d => d.parameters.length) = some n) (hrc : rm.cells = mc) (hrs : rm.slots = ms) (hP : va_P K.1 mx_cl ws H) (hD : va_D A ws) (hS : va_S A s.heap H locs) (isC : List Nat) (hC : isC.map (fun i => ws[i]?) = wc.map some) (hnC : va_nd isC = true)
    (hn : As.length = n) (hsize : ls.size = nL) (hstack : st0 = As.reverse ++ .ref a :: rest) (hroom : (rest.map fun v => v.category).sum ≤ 8) (hR : rm.frames + 1 ≤ R.frames ∧ 8 + (mL + 11) + rm.locals ≤ R.locals) (hf : cells + mc ≤ R.cells ∧ slots + ms ≤ R.slots) (hdg : decode cc pc = .ok (.invokespecial index, 3)) :
    va_Run p l e R s m args below meth c H locs cells slots mc ms (F0 m pc ls st0) rest (Qc (Value.ref a :: As).toArray) (va_A wc H.size) := by
  obtain ⟨hbl, hpr⟩ := mx_pre F hP hD hS isC hC hnC (.ref a :: As)
  obtain ⟨hx, hb, hml, hown, hT, hK, hN, hE, hA⟩ := F
  rcases hl with hl | ⟨host, hl⟩
  · exact va_runI (n := n) ⟨hx, hb, hml, hown, hT⟩ hM ⟨callB_of n hT (mx_good hcode) rfl hrc hrs (hT _ hini) (hT _ hl) hd hR, hy1, hT _ hi⟩ ⟨hbl, hpr⟩ rfl hn hsize hstack (lv_room hroom) hdg hf
  · exact va_runIN (n := n) ⟨hx, hb, hml, hown, hT⟩ hM ⟨va_cnB n hT (mx_good hcode) rfl hrc hrs (hN _ hl) (hT _ hini) hd hR, hy1, hT _ hi⟩ ⟨hbl, hpr⟩ rfl hn hsize hstack (lv_room hroom) hdg hf
variable {av : Array Value} {S : Type} {w1 : S → va_W}
/-- behind a call -/
theorem mx_cv {post : S → Prop} (F : mx_F p s m args c cc nL own K A) (hr : va_Run p l e R s m args below meth c H locs cells slots mc ms (F0 m pc ls st0) rest (va_Qv post (mx_B K (va_A wc H.size) w1) (va_A wc H.size) av) (va_A wc H.size)) (hP : va_P K.1 mx_cl ws H) (hD : va_D A ws) (hS : va_S A s.heap H locs) (isC isR : List Nat) (hC : isC.map (fun i => ws[i]?) = wc.map some) (hR : isR.map (fun i => ws[i]?) = wr.map some) (hn : va_nd isR = true) (hdis : ∀ i ∈ isR, i ∉ isC)
    (kk : ∀ (u : S) (H1 : Heap) (locs1 : List Loc), post u → va_P K.1 mx_cl (wr ++ w1 u) H1 → va_D A (wr ++ w1 u) → va_S A s.heap H1 locs1 → W p l e R s m args below meth c H1 locs1 (cells + mc) (slots + ms) Q (F0 m (pc + 3) ls rest)) : W p l e R s m args below meth c H locs cells slots Q (F0 m pc ls st0) := by
  obtain ⟨hx, hb, hml, hown, hT, hK, hN, hE, hA⟩ := F
  have hF := va_free (wc := wc) hD hS hA isC hC
  refine va_callv hr hS (fun q _ h => hF q h) hF (fun u t H1 locs1 ht hvm hpost hB hz1 hk1 hS1 => ?_)
  obtain ⟨hP1, hD1⟩ := hB
  rw [ht] at hP1
  obtain ⟨hP2, hD2⟩ := va_join hP hD isC isR hC hR hn hdis hk1 hF hP1 hD1
  exact kk u H1 locs1 hpost hP2 hD2 hS1
theorem mx_ci {post : Int32 → S → Prop} (F : mx_F p s m args c cc nL own K A) (hr : va_Run p l e R s m args below meth c H locs cells slots mc ms (F0 m pc ls st0) rest (va_Qi post (mx_B K (va_A wc H.size) w1) (va_A wc H.size) av) (va_A wc H.size)) (hP : va_P K.1 mx_cl ws H) (hD : va_D A ws) (hS : va_S A s.heap H locs) (isC isR : List Nat) (hC : isC.map (fun i => ws[i]?) = wc.map some) (hR : isR.map (fun i => ws[i]?) = wr.map some) (hn : va_nd isR = true) (hdis : ∀ i ∈ isR, i ∉ isC)
    (kk : ∀ (r : Int32) (u : S) (H1 : Heap) (locs1 : List Loc), post r u → va_P K.1 mx_cl (wr ++ w1 u) H1 → va_D A (wr ++ w1 u) → va_S A s.heap H1 locs1 → W p l e R s m args below meth c H1 locs1 (cells + mc) (slots + ms) Q (F0 m (pc + 3) ls (.int r :: rest))) : W p l e R s m args below meth c H locs cells slots Q (F0 m pc ls st0) := by
  obtain ⟨hx, hb, hml, hown, hT, hK, hN, hE, hA⟩ := F
  have hF := va_free (wc := wc) hD hS hA isC hC
  refine va_calli hr hS (fun q _ h => hF q h) hF (fun r u t H1 locs1 ht hvm hpost hB hz1 hk1 hS1 => ?_)
  obtain ⟨hP1, hD1⟩ := hB
  rw [ht] at hP1
  obtain ⟨hP2, hD2⟩ := va_join hP hD isC isR hC hR hn hdis hk1 hF hP1 hD1
  exact kk r u H1 locs1 hpost hP2 hD2 hS1
theorem mx_cj {post : Int64 → S → Prop} (F : mx_F p s m args c cc nL own K A) (hr : va_Run p l e R s m args below meth c H locs cells slots mc ms (F0 m pc ls st0) rest (va_Ql post (mx_B K (va_A wc H.size) w1) (va_A wc H.size) av) (va_A wc H.size)) (hP : va_P K.1 mx_cl ws H) (hD : va_D A ws) (hS : va_S A s.heap H locs) (isC isR : List Nat) (hC : isC.map (fun i => ws[i]?) = wc.map some) (hR : isR.map (fun i => ws[i]?) = wr.map some) (hn : va_nd isR = true) (hdis : ∀ i ∈ isR, i ∉ isC)
    (kk : ∀ (r : Int64) (u : S) (H1 : Heap) (locs1 : List Loc), post r u → va_P K.1 mx_cl (wr ++ w1 u) H1 → va_D A (wr ++ w1 u) → va_S A s.heap H1 locs1 → W p l e R s m args below meth c H1 locs1 (cells + mc) (slots + ms) Q (F0 m (pc + 3) ls (.long r :: rest))) : W p l e R s m args below meth c H locs cells slots Q (F0 m pc ls st0) := by
  obtain ⟨hx, hb, hml, hown, hT, hK, hN, hE, hA⟩ := F
  have hF := va_free (wc := wc) hD hS hA isC hC
  refine va_calll hr hS (fun q _ h => hF q h) hF (fun r u t H1 locs1 ht hvm hpost hB hz1 hk1 hS1 => ?_)
  obtain ⟨hP1, hD1⟩ := hB
  rw [ht] at hP1
  obtain ⟨hP2, hD2⟩ := va_join hP hD isC isR hC hR hn hdis hk1 hF hP1 hD1
  exact kk r u H1 locs1 hpost hP2 hD2 hS1
/-- a new array: its class is the one that is known -/
theorem mx_newa (F : mx_F p s m args c cc nL own K A) {atype : ArrayType} {ty : FieldType} {cA : ClassId} (hw : Cond.arrayClass ty ∈ mx_T) (hty : newarray.typeOf atype = ty) (t0 : Nat) (ht : (mx_ty K)[t0]? = some (cA, ty)) (hP : va_P K.1 mx_cl ws H) (hD : va_D A ws) (hS : va_S A s.heap H locs)
    {n : Int32} {N' : Nat} {a0 : vp_A} (ha : ∀ cA : ClassId, vp_cell cA a0 = arrV cA N' (fun _ => defaultValue ty)) (hn : ¬ n < 0) (hN : n.toNatClampNeg = N') (hbytes : N' * componentBytes ty ≤ 536870912) (hcells : cells + 1 ≤ R.cells) (hslots : slots + N' ≤ R.slots) (hdg : decode cc pc = .ok (.newarray atype, 2)) (hob : ∀ C : String, ¬ ty = .object C)
    (kk : ∀ (q : Nat) (H1 : Heap), va_P K.1 mx_cl (ws ++ [(q, .inl (cA, a0))]) H1 → va_D A (ws ++ [(q, .inl (cA, a0))]) → va_S A s.heap H1 locs → W p l e R s m args below meth c H1 locs (cells + 1) (slots + N') Q (F0 m (pc + 2) ls (.ref q :: rest))) : W p l e R s m args below meth c H locs cells slots Q (F0 m pc ls (.int n :: rest)) := by
  obtain ⟨hx, hb, hml, hown, hT, hK, hN0, hE, hA⟩ := F
  refine va_newa hx hb (by rw [hty]; exact hT _ hw) hty hK hP hD hS hA ha hn hN hbytes hcells hslots hdg (fun q cB H1 hK1 hP1 hD1 hS1 => ?_)
  have e1 := (hK.2 t0 _ ht).2
  have e2 := (hK1.2 (mx_ty K).length (cB, ty) (by simp)).2
  have e3 : cB = cA := by
    cases ty <;> first | (exact absurd rfl (hob _)) | exact Option.some.inj (e2.symm.trans e1)
  subst e3
  exact kk q H1 hP1 hD1 hS1
/-- ends -/
theorem mx_rv {post : S → Prop} (F : mx_F p s m args c cc nL own K A) (hr : meth.sig.returnType = none) (hlk : meth.locks = false) (hP : va_P K.1 mx_cl ws H) (hD : va_D A ws) (hS : va_S A s.heap H locs) (u : S) (is : List Nat) (h2 : is.map (fun i => ws[i]?) = (w1 u).map some) (hnd : va_nd is = true) (hp : post u) (hc : cells ≤ mc) (hs : slots ≤ ms) (hdg : decode cc pc = .ok (.return_, 1)) :
    W p l e R s m args below meth c H locs cells slots (MQ below (va_Qv post (mx_B K A w1) A) args s mc ms A) (F0 m pc ls []) := by
  obtain ⟨hx, hb, hml, hown, hT, hK, hN, hE, hA⟩ := F
  have hw : is.filterMap (fun i => ws[i]?) = w1 u := by
    have h1 : (is.map (fun i => ws[i]?)).filterMap id = ((w1 u).map some).filterMap id := by rw [h2]
    simpa [List.filterMap_map] using h1
  have hP9 := hP.sub is hw
  have hD9 := hD.sub is hnd h2
  refine W.widen (k := mc) (n := ms) hc hs ?_
  exact W.vret hx hb hr (fun t ht hW => ⟨⟨u, rfl, hp, by rw [ht]; exact hP9, hD9⟩, hS.F ht⟩) hS.2.2 hdg hlk
theorem mx_ri {post : Int32 → S → Prop} {v : Int32} {ty : FieldType} (F : mx_F p s m args c cc nL own K A) (hr : meth.sig.returnType = some ty) (hlk : meth.locks = false) (hnr : narrow ty (.int v) = .int v) (hP : va_P K.1 mx_cl ws H) (hD : va_D A ws) (hS : va_S A s.heap H locs) (u : S) (is : List Nat) (h2 : is.map (fun i => ws[i]?) = (w1 u).map some) (hnd : va_nd is = true) (hp : post v u) (hc : cells ≤ mc) (hs : slots ≤ ms) (hdg : decode cc pc = .ok (.ireturn, 1)) :
    W p l e R s m args below meth c H locs cells slots (MQ below (va_Qi post (mx_B K A w1) A) args s mc ms A) (F0 m pc ls [.int v]) := by
  obtain ⟨hx, hb, hml, hown, hT, hK, hN, hE, hA⟩ := F
  have hw : is.filterMap (fun i => ws[i]?) = w1 u := by
    have h1 : (is.map (fun i => ws[i]?)).filterMap id = ((w1 u).map some).filterMap id := by rw [h2]
    simpa [List.filterMap_map] using h1
  have hP9 := hP.sub is hw
  have hD9 := hD.sub is hnd h2
  refine W.widen (k := mc) (n := ms) hc hs ?_
  exact W.zret hx hb hr hnr (fun t ht hW => ⟨⟨v, u, rfl, hp, by rw [ht]; exact hP9, hD9⟩, hS.F ht⟩) hS.2.2 hdg hlk
theorem mx_rl {post : Int64 → S → Prop} {v : Int64} (F : mx_F p s m args c cc nL own K A) (hr : meth.sig.returnType = some .long) (hlk : meth.locks = false) (hP : va_P K.1 mx_cl ws H) (hD : va_D A ws) (hS : va_S A s.heap H locs) (u : S) (is : List Nat) (h2 : is.map (fun i => ws[i]?) = (w1 u).map some) (hnd : va_nd is = true) (hp : post v u) (hc : cells ≤ mc) (hs : slots ≤ ms) (hdg : decode cc pc = .ok (.lreturn, 1)) :
    W p l e R s m args below meth c H locs cells slots (MQ below (va_Ql post (mx_B K A w1) A) args s mc ms A) (F0 m pc ls [.long v]) := by
  obtain ⟨hx, hb, hml, hown, hT, hK, hN, hE, hA⟩ := F
  have hw : is.filterMap (fun i => ws[i]?) = w1 u := by
    have h1 : (is.map (fun i => ws[i]?)).filterMap id = ((w1 u).map some).filterMap id := by rw [h2]
    simpa [List.filterMap_map] using h1
  have hP9 := hP.sub is hw
  have hD9 := hD.sub is hnd h2
  refine W.widen (k := mc) (n := ms) hc hs ?_
  exact W.lret hx hb hr (fun t ht hW => ⟨⟨v, u, rfl, hp, by rw [ht]; exact hP9, hD9⟩, hS.F ht⟩) hS.2.2 hdg hlk
end MXR
end
section
theorem k_1 : (Jvm.Cond.initialized "LittleMix") ∈ mx_T := List.mem_filter.mpr ⟨List.mem_append_right _ ((List.mem_append_left _ (List.mem_of_getElem? (l := tables_1_1) (i := 1) (by decide +kernel)))), rfl⟩
theorem k_2 : (Jvm.Cond.initialized "LittleMix$Memory") ∈ mx_T := List.mem_filter.mpr ⟨List.mem_append_right _ ((List.mem_append_left _ (List.mem_of_getElem? (l := tables_1_1) (i := 2) (by decide +kernel)))), rfl⟩
theorem k_3 : (Jvm.Cond.initialized "LittleMix$Registers") ∈ mx_T := List.mem_filter.mpr ⟨List.mem_append_right _ ((List.mem_append_left _ (List.mem_of_getElem? (l := tables_1_1) (i := 3) (by decide +kernel)))), rfl⟩
theorem k_4 : (Jvm.Cond.initialized "LittleMix$Assembler") ∈ mx_T := List.mem_filter.mpr ⟨List.mem_append_right _ ((List.mem_append_left _ (List.mem_of_getElem? (l := tables_1_1) (i := 4) (by decide +kernel)))), rfl⟩
theorem k_5 : (Jvm.Cond.initialized "LittleMix$Operands") ∈ mx_T := List.mem_filter.mpr ⟨List.mem_append_right _ ((List.mem_append_left _ (List.mem_of_getElem? (l := tables_1_1) (i := 5) (by decide +kernel)))), rfl⟩
theorem k_6 : (Jvm.Cond.initialized "LittleMix$Labels") ∈ mx_T := List.mem_filter.mpr ⟨List.mem_append_right _ ((List.mem_append_left _ (List.mem_of_getElem? (l := tables_1_1) (i := 6) (by decide +kernel)))), rfl⟩
theorem k_7 : (Jvm.Cond.initialized "LittleMix$Line") ∈ mx_T := List.mem_filter.mpr ⟨List.mem_append_right _ ((List.mem_append_left _ (List.mem_of_getElem? (l := tables_1_1) (i := 7) (by decide +kernel)))), rfl⟩
theorem k_8 : (Jvm.Cond.initialized "LittleMix$Operations") ∈ mx_T := List.mem_filter.mpr ⟨List.mem_append_right _ ((List.mem_append_left _ (List.mem_of_getElem? (l := tables_1_1) (i := 8) (by decide +kernel)))), rfl⟩
theorem k_9 : (Jvm.Cond.initialized "java/lang/String") ∈ mx_T := List.mem_filter.mpr ⟨List.mem_append_right _ ((List.mem_append_left _ (List.mem_of_getElem? (l := tables_1_1) (i := 9) (by decide +kernel)))), rfl⟩
theorem k_10 : (Jvm.Cond.initialized "java/lang/StringLatin1") ∈ mx_T := List.mem_filter.mpr ⟨List.mem_append_right _ ((List.mem_append_left _ (List.mem_of_getElem? (l := tables_1_1) (i := 10) (by decide +kernel)))), rfl⟩
theorem k_11 : (Jvm.Cond.initialized "jdk/internal/util/Preconditions") ∈ mx_T := List.mem_filter.mpr ⟨List.mem_append_right _ ((List.mem_append_left _ (List.mem_of_getElem? (l := tables_1_1) (i := 11) (by decide +kernel)))), rfl⟩
theorem k_13 : (Jvm.Cond.initialized "LittleMix$Sum") ∈ mx_T := List.mem_filter.mpr ⟨List.mem_append_right _ ((List.mem_append_left _ (List.mem_of_getElem? (l := tables_1_1) (i := 13) (by decide +kernel)))), rfl⟩
theorem k_14 : (Jvm.Cond.initialized "LittleMix$Machine") ∈ mx_T := List.mem_filter.mpr ⟨List.mem_append_right _ ((List.mem_append_left _ (List.mem_of_getElem? (l := tables_1_1) (i := 14) (by decide +kernel)))), rfl⟩
theorem k_15 : (Jvm.Cond.initialized "LittleMixModel") ∈ mx_T := List.mem_filter.mpr ⟨List.mem_append_right _ ((List.mem_append_left _ (List.mem_of_getElem? (l := tables_1_1) (i := 15) (by decide +kernel)))), rfl⟩
theorem k_19 : (Jvm.Cond.initialized "java/lang/System") ∈ mx_T := List.mem_filter.mpr ⟨List.mem_append_right _ ((List.mem_append_left _ (List.mem_of_getElem? (l := tables_1_1) (i := 19) (by decide +kernel)))), rfl⟩
theorem k_22 : (Jvm.Cond.classLink "LittleMixLaw" (7 : Nat) "LittleMix") ∈ mx_T := List.mem_filter.mpr ⟨List.mem_append_right _ ((List.mem_append_left _ (List.mem_of_getElem? (l := tables_1_1) (i := 22) (by decide +kernel)))), rfl⟩
theorem k_23 : (Jvm.Cond.instantiable "LittleMix" (6 : Nat)) ∈ mx_T := List.mem_filter.mpr ⟨List.mem_append_right _ ((List.mem_append_left _ (List.mem_of_getElem? (l := tables_1_1) (i := 23) (by decide +kernel)))), rfl⟩
theorem k_24 : (Jvm.Cond.methodLink "LittleMixLaw" (9 : Nat) ({ cls := "LittleMix", name := "<init>", desc := "()V" } : Jvm.MethodName)) ∈ mx_T := List.mem_filter.mpr ⟨List.mem_append_right _ ((List.mem_append_left _ (List.mem_of_getElem? (l := tables_1_1) (i := 24) (by decide +kernel)))), rfl⟩
theorem k_25 : (Jvm.Cond.instanceMethod ({ cls := "LittleMix", name := "<init>", desc := "()V" } : Jvm.MethodName)) ∈ mx_T := List.mem_filter.mpr ⟨List.mem_append_right _ ((List.mem_append_left _ (List.mem_of_getElem? (l := tables_1_1) (i := 25) (by decide +kernel)))), rfl⟩
theorem k_26 : (Jvm.Cond.code ({ cls := "LittleMix", name := "<init>", desc := "()V" } : Jvm.MethodName) prog_1_method_1_code (1 : Nat) (Option.none : Option Jvm.ClassFile.FieldType)) ∈ mx_T := List.mem_filter.mpr ⟨List.mem_append_right _ ((List.mem_append_left _ (List.mem_of_getElem? (l := tables_1_1) (i := 26) rfl))), rfl⟩
theorem k_27 : (Jvm.Cond.methodLink "LittleMix" (1 : Nat) ({ cls := "java/lang/Object", name := "<init>", desc := "()V" } : Jvm.MethodName)) ∈ mx_T := List.mem_filter.mpr ⟨List.mem_append_right _ ((List.mem_append_left _ (List.mem_of_getElem? (l := tables_1_1) (i := 27) (by decide +kernel)))), rfl⟩
theorem k_28 : (Jvm.Cond.instanceMethod ({ cls := "java/lang/Object", name := "<init>", desc := "()V" } : Jvm.MethodName)) ∈ mx_T := List.mem_filter.mpr ⟨List.mem_append_right _ ((List.mem_append_left _ (List.mem_of_getElem? (l := tables_1_1) (i := 28) (by decide +kernel)))), rfl⟩
theorem k_29 : (Jvm.Cond.code ({ cls := "java/lang/Object", name := "<init>", desc := "()V" } : Jvm.MethodName) object_method_1_code (1 : Nat) (Option.none : Option Jvm.ClassFile.FieldType)) ∈ mx_T := List.mem_filter.mpr ⟨List.mem_append_right _ ((List.mem_append_left _ (List.mem_of_getElem? (l := tables_1_1) (i := 29) rfl))), rfl⟩
theorem k_30 : (Jvm.Cond.classLink "LittleMix" (13 : Nat) "LittleMix$Memory") ∈ mx_T := List.mem_filter.mpr ⟨List.mem_append_right _ ((List.mem_append_left _ (List.mem_of_getElem? (l := tables_1_1) (i := 30) (by decide +kernel)))), rfl⟩
theorem k_31 : (Jvm.Cond.instantiable "LittleMix$Memory" (1 : Nat)) ∈ mx_T := List.mem_filter.mpr ⟨List.mem_append_right _ ((List.mem_append_left _ (List.mem_of_getElem? (l := tables_1_1) (i := 31) (by decide +kernel)))), rfl⟩
theorem k_32 : (Jvm.Cond.methodLinkNest "LittleMix" (15 : Nat) ({ cls := "LittleMix$Memory", name := "<init>", desc := "()V" } : Jvm.MethodName) "LittleMix") ∈ mx_Ns := List.mem_filter.mpr ⟨(List.mem_append_left _ (List.mem_of_getElem? (l := tables_1_1) (i := 32) (by decide +kernel))), rfl⟩
theorem k_33 : (Jvm.Cond.instanceMethod ({ cls := "LittleMix$Memory", name := "<init>", desc := "()V" } : Jvm.MethodName)) ∈ mx_T := List.mem_filter.mpr ⟨List.mem_append_right _ ((List.mem_append_left _ (List.mem_of_getElem? (l := tables_1_1) (i := 33) (by decide +kernel)))), rfl⟩
theorem k_34 : (Jvm.Cond.code ({ cls := "LittleMix$Memory", name := "<init>", desc := "()V" } : Jvm.MethodName) prog_7_method_1_code (1 : Nat) (Option.none : Option Jvm.ClassFile.FieldType)) ∈ mx_T := List.mem_filter.mpr ⟨List.mem_append_right _ ((List.mem_append_left _ (List.mem_of_getElem? (l := tables_1_1) (i := 34) rfl))), rfl⟩
theorem k_35 : (Jvm.Cond.methodLink "LittleMix$Memory" (1 : Nat) ({ cls := "java/lang/Object", name := "<init>", desc := "()V" } : Jvm.MethodName)) ∈ mx_T := List.mem_filter.mpr ⟨List.mem_append_right _ ((List.mem_append_left _ (List.mem_of_getElem? (l := tables_1_1) (i := 35) (by decide +kernel)))), rfl⟩
theorem k_36 : (Jvm.Cond.fieldLink "LittleMix$Memory" (9 : Nat) "LittleMix$Memory" "octas" "[J") ∈ mx_T := List.mem_filter.mpr ⟨List.mem_append_right _ ((List.mem_append_left _ (List.mem_of_getElem? (l := tables_1_1) (i := 36) (by decide +kernel)))), rfl⟩
theorem k_40 : (Jvm.Cond.arrayClass Jvm.ClassFile.FieldType.char) ∈ mx_T := List.mem_filter.mpr ⟨List.mem_append_right _ ((List.mem_append_left _ (List.mem_of_getElem? (l := tables_1_1) (i := 40) (by decide +kernel)))), rfl⟩
theorem k_41 : (Jvm.Cond.arrayClass Jvm.ClassFile.FieldType.long) ∈ mx_T := List.mem_filter.mpr ⟨List.mem_append_right _ ((List.mem_append_left _ (List.mem_of_getElem? (l := tables_1_1) (i := 41) (by decide +kernel)))), rfl⟩
theorem k_42 : (Jvm.Cond.classLink "LittleMix" (20 : Nat) "LittleMix$Registers") ∈ mx_T := List.mem_filter.mpr ⟨List.mem_append_right _ ((List.mem_append_left _ (List.mem_of_getElem? (l := tables_1_1) (i := 42) (by decide +kernel)))), rfl⟩
theorem k_43 : (Jvm.Cond.instantiable "LittleMix$Registers" (6 : Nat)) ∈ mx_T := List.mem_filter.mpr ⟨List.mem_append_right _ ((List.mem_append_left _ (List.mem_of_getElem? (l := tables_1_1) (i := 43) (by decide +kernel)))), rfl⟩
theorem k_44 : (Jvm.Cond.methodLinkNest "LittleMix" (22 : Nat) ({ cls := "LittleMix$Registers", name := "<init>", desc := "()V" } : Jvm.MethodName) "LittleMix") ∈ mx_Ns := List.mem_filter.mpr ⟨(List.mem_append_left _ (List.mem_of_getElem? (l := tables_1_1) (i := 44) (by decide +kernel))), rfl⟩
theorem k_45 : (Jvm.Cond.instanceMethod ({ cls := "LittleMix$Registers", name := "<init>", desc := "()V" } : Jvm.MethodName)) ∈ mx_T := List.mem_filter.mpr ⟨List.mem_append_right _ ((List.mem_append_left _ (List.mem_of_getElem? (l := tables_1_1) (i := 45) (by decide +kernel)))), rfl⟩
theorem k_46 : (Jvm.Cond.code ({ cls := "LittleMix$Registers", name := "<init>", desc := "()V" } : Jvm.MethodName) prog_10_method_1_code (1 : Nat) (Option.none : Option Jvm.ClassFile.FieldType)) ∈ mx_T := List.mem_filter.mpr ⟨List.mem_append_right _ ((List.mem_append_left _ (List.mem_of_getElem? (l := tables_1_1) (i := 46) rfl))), rfl⟩
theorem k_47 : (Jvm.Cond.methodLink "LittleMix$Registers" (1 : Nat) ({ cls := "java/lang/Object", name := "<init>", desc := "()V" } : Jvm.MethodName)) ∈ mx_T := List.mem_filter.mpr ⟨List.mem_append_right _ ((List.mem_append_left _ (List.mem_of_getElem? (l := tables_1_1) (i := 47) (by decide +kernel)))), rfl⟩
theorem k_48 : (Jvm.Cond.fieldLink "LittleMix$Registers" (9 : Nat) "LittleMix$Registers" "general" "[J") ∈ mx_T := List.mem_filter.mpr ⟨List.mem_append_right _ ((List.mem_append_left _ (List.mem_of_getElem? (l := tables_1_1) (i := 48) (by decide +kernel)))), rfl⟩
theorem k_49 : (Jvm.Cond.fieldLink "LittleMix$Registers" (15 : Nat) "LittleMix$Registers" "specials" "[J") ∈ mx_T := List.mem_filter.mpr ⟨List.mem_append_right _ ((List.mem_append_left _ (List.mem_of_getElem? (l := tables_1_1) (i := 49) (by decide +kernel)))), rfl⟩
theorem k_50 : (Jvm.Cond.fieldLink "LittleMix$Registers" (18 : Nat) "LittleMix$Registers" "stack" "[J") ∈ mx_T := List.mem_filter.mpr ⟨List.mem_append_right _ ((List.mem_append_left _ (List.mem_of_getElem? (l := tables_1_1) (i := 50) (by decide +kernel)))), rfl⟩
theorem k_51 : (Jvm.Cond.fieldLink "LittleMix$Registers" (29 : Nat) "LittleMix$Registers" "depth" "I") ∈ mx_T := List.mem_filter.mpr ⟨List.mem_append_right _ ((List.mem_append_left _ (List.mem_of_getElem? (l := tables_1_1) (i := 51) (by decide +kernel)))), rfl⟩
theorem k_52 : (Jvm.Cond.fieldLinkNest "LittleMix" (110 : Nat) "LittleMix$Registers" "depth" "I" "LittleMix") ∈ mx_Ns := List.mem_filter.mpr ⟨(List.mem_append_left _ (List.mem_of_getElem? (l := tables_1_1) (i := 52) (by decide +kernel))), rfl⟩
theorem k_53 : (Jvm.Cond.fieldLink "LittleMix$Registers" (32 : Nat) "LittleMix$Registers" "local" "I") ∈ mx_T := List.mem_filter.mpr ⟨List.mem_append_right _ ((List.mem_append_left _ (List.mem_of_getElem? (l := tables_1_1) (i := 53) (by decide +kernel)))), rfl⟩
theorem k_54 : (Jvm.Cond.fieldLink "LittleMix$Registers" (21 : Nat) "LittleMix$Registers" "global" "I") ∈ mx_T := List.mem_filter.mpr ⟨List.mem_append_right _ ((List.mem_append_left _ (List.mem_of_getElem? (l := tables_1_1) (i := 54) (by decide +kernel)))), rfl⟩
theorem k_68 : (Jvm.Cond.classLink "LittleMix" (27 : Nat) "LittleMix$Assembler") ∈ mx_T := List.mem_filter.mpr ⟨List.mem_append_right _ ((List.mem_append_left _ (List.mem_of_getElem? (l := tables_1_1) (i := 68) (by decide +kernel)))), rfl⟩
theorem k_69 : (Jvm.Cond.instantiable "LittleMix$Assembler" (10 : Nat)) ∈ mx_T := List.mem_filter.mpr ⟨List.mem_append_right _ ((List.mem_append_left _ (List.mem_of_getElem? (l := tables_1_1) (i := 69) (by decide +kernel)))), rfl⟩
theorem k_70 : (Jvm.Cond.methodLink "LittleMix" (29 : Nat) ({ cls := "LittleMix$Assembler", name := "<init>", desc := "([C)V" } : Jvm.MethodName)) ∈ mx_T := List.mem_filter.mpr ⟨List.mem_append_right _ ((List.mem_append_left _ (List.mem_of_getElem? (l := tables_1_1) (i := 70) (by decide +kernel)))), rfl⟩
theorem k_71 : (Jvm.Cond.instanceMethod ({ cls := "LittleMix$Assembler", name := "<init>", desc := "([C)V" } : Jvm.MethodName)) ∈ mx_T := List.mem_filter.mpr ⟨List.mem_append_right _ ((List.mem_append_left _ (List.mem_of_getElem? (l := tables_1_1) (i := 71) (by decide +kernel)))), rfl⟩
theorem k_72 : (Jvm.Cond.code ({ cls := "LittleMix$Assembler", name := "<init>", desc := "([C)V" } : Jvm.MethodName) prog_3_method_1_code (2 : Nat) (Option.none : Option Jvm.ClassFile.FieldType)) ∈ mx_T := List.mem_filter.mpr ⟨List.mem_append_right _ ((List.mem_append_left _ (List.mem_of_getElem? (l := tables_1_1) (i := 72) rfl))), rfl⟩
theorem k_73 : (Jvm.Cond.methodLink "LittleMix$Assembler" (3 : Nat) ({ cls := "java/lang/Object", name := "<init>", desc := "()V" } : Jvm.MethodName)) ∈ mx_T := List.mem_filter.mpr ⟨List.mem_append_right _ ((List.mem_append_left _ (List.mem_of_getElem? (l := tables_1_1) (i := 73) (by decide +kernel)))), rfl⟩
theorem k_74 : (Jvm.Cond.classLink "LittleMix$Assembler" (9 : Nat) "LittleMix$Operands") ∈ mx_T := List.mem_filter.mpr ⟨List.mem_append_right _ ((List.mem_append_left _ (List.mem_of_getElem? (l := tables_1_1) (i := 74) (by decide +kernel)))), rfl⟩
theorem k_75 : (Jvm.Cond.instantiable "LittleMix$Operands" (6 : Nat)) ∈ mx_T := List.mem_filter.mpr ⟨List.mem_append_right _ ((List.mem_append_left _ (List.mem_of_getElem? (l := tables_1_1) (i := 75) (by decide +kernel)))), rfl⟩
theorem k_76 : (Jvm.Cond.methodLinkNest "LittleMix$Assembler" (11 : Nat) ({ cls := "LittleMix$Operands", name := "<init>", desc := "()V" } : Jvm.MethodName) "LittleMix") ∈ mx_Ns := List.mem_filter.mpr ⟨(List.mem_append_left _ (List.mem_of_getElem? (l := tables_1_1) (i := 76) (by decide +kernel))), rfl⟩
theorem k_77 : (Jvm.Cond.instanceMethod ({ cls := "LittleMix$Operands", name := "<init>", desc := "()V" } : Jvm.MethodName)) ∈ mx_T := List.mem_filter.mpr ⟨List.mem_append_right _ ((List.mem_append_left _ (List.mem_of_getElem? (l := tables_1_1) (i := 77) (by decide +kernel)))), rfl⟩
theorem k_78 : (Jvm.Cond.code ({ cls := "LittleMix$Operands", name := "<init>", desc := "()V" } : Jvm.MethodName) prog_8_method_1_code (1 : Nat) (Option.none : Option Jvm.ClassFile.FieldType)) ∈ mx_T := List.mem_filter.mpr ⟨List.mem_append_right _ ((List.mem_append_left _ (List.mem_of_getElem? (l := tables_1_1) (i := 78) rfl))), rfl⟩
theorem k_79 : (Jvm.Cond.methodLink "LittleMix$Operands" (1 : Nat) ({ cls := "java/lang/Object", name := "<init>", desc := "()V" } : Jvm.MethodName)) ∈ mx_T := List.mem_filter.mpr ⟨List.mem_append_right _ ((List.mem_append_left _ (List.mem_of_getElem? (l := tables_1_1) (i := 79) (by decide +kernel)))), rfl⟩
theorem k_80 : (Jvm.Cond.fieldLink "LittleMix$Operands" (9 : Nat) "LittleMix$Operands" "values" "[J") ∈ mx_T := List.mem_filter.mpr ⟨List.mem_append_right _ ((List.mem_append_left _ (List.mem_of_getElem? (l := tables_1_1) (i := 80) (by decide +kernel)))), rfl⟩
theorem k_82 : (Jvm.Cond.fieldLink "LittleMix$Operands" (13 : Nat) "LittleMix$Operands" "registers" "[Z") ∈ mx_T := List.mem_filter.mpr ⟨List.mem_append_right _ ((List.mem_append_left _ (List.mem_of_getElem? (l := tables_1_1) (i := 82) (by decide +kernel)))), rfl⟩
theorem k_105 : (Jvm.Cond.arrayClass Jvm.ClassFile.FieldType.boolean) ∈ mx_T := List.mem_filter.mpr ⟨List.mem_append_right _ ((List.mem_append_left _ (List.mem_of_getElem? (l := tables_1_1) (i := 105) (by decide +kernel)))), rfl⟩
theorem k_106 : (Jvm.Cond.classLink "LittleMix$Assembler" (24 : Nat) "LittleMix$Memory") ∈ mx_T := List.mem_filter.mpr ⟨List.mem_append_right _ ((List.mem_append_left _ (List.mem_of_getElem? (l := tables_1_1) (i := 106) (by decide +kernel)))), rfl⟩
theorem k_107 : (Jvm.Cond.methodLinkNest "LittleMix$Assembler" (26 : Nat) ({ cls := "LittleMix$Memory", name := "<init>", desc := "()V" } : Jvm.MethodName) "LittleMix") ∈ mx_Ns := List.mem_filter.mpr ⟨(List.mem_append_left _ (List.mem_of_getElem? (l := tables_1_1) (i := 107) (by decide +kernel))), rfl⟩
theorem k_108 : (Jvm.Cond.classLink "LittleMix$Assembler" (18 : Nat) "LittleMix$Labels") ∈ mx_T := List.mem_filter.mpr ⟨List.mem_append_right _ ((List.mem_append_left _ (List.mem_of_getElem? (l := tables_1_1) (i := 108) (by decide +kernel)))), rfl⟩
theorem k_109 : (Jvm.Cond.instantiable "LittleMix$Labels" (6 : Nat)) ∈ mx_T := List.mem_filter.mpr ⟨List.mem_append_right _ ((List.mem_append_left _ (List.mem_of_getElem? (l := tables_1_1) (i := 109) (by decide +kernel)))), rfl⟩
theorem k_110 : (Jvm.Cond.methodLink "LittleMix$Assembler" (35 : Nat) ({ cls := "LittleMix$Labels", name := "<init>", desc := "([C)V" } : Jvm.MethodName)) ∈ mx_T := List.mem_filter.mpr ⟨List.mem_append_right _ ((List.mem_append_left _ (List.mem_of_getElem? (l := tables_1_1) (i := 110) (by decide +kernel)))), rfl⟩
theorem k_111 : (Jvm.Cond.instanceMethod ({ cls := "LittleMix$Labels", name := "<init>", desc := "([C)V" } : Jvm.MethodName)) ∈ mx_T := List.mem_filter.mpr ⟨List.mem_append_right _ ((List.mem_append_left _ (List.mem_of_getElem? (l := tables_1_1) (i := 111) (by decide +kernel)))), rfl⟩
theorem k_112 : (Jvm.Cond.code ({ cls := "LittleMix$Labels", name := "<init>", desc := "([C)V" } : Jvm.MethodName) prog_4_method_1_code (2 : Nat) (Option.none : Option Jvm.ClassFile.FieldType)) ∈ mx_T := List.mem_filter.mpr ⟨List.mem_append_right _ ((List.mem_append_left _ (List.mem_of_getElem? (l := tables_1_1) (i := 112) rfl))), rfl⟩
theorem k_113 : (Jvm.Cond.methodLink "LittleMix$Labels" (3 : Nat) ({ cls := "java/lang/Object", name := "<init>", desc := "()V" } : Jvm.MethodName)) ∈ mx_T := List.mem_filter.mpr ⟨List.mem_append_right _ ((List.mem_append_left _ (List.mem_of_getElem? (l := tables_1_1) (i := 113) (by decide +kernel)))), rfl⟩
theorem k_114 : (Jvm.Cond.fieldLink "LittleMix$Labels" (26 : Nat) "LittleMix$Labels" "text" "[C") ∈ mx_T := List.mem_filter.mpr ⟨List.mem_append_right _ ((List.mem_append_left _ (List.mem_of_getElem? (l := tables_1_1) (i := 114) (by decide +kernel)))), rfl⟩
theorem k_115 : (Jvm.Cond.fieldLink "LittleMix$Labels" (11 : Nat) "LittleMix$Labels" "starts" "[I") ∈ mx_T := List.mem_filter.mpr ⟨List.mem_append_right _ ((List.mem_append_left _ (List.mem_of_getElem? (l := tables_1_1) (i := 115) (by decide +kernel)))), rfl⟩
theorem k_116 : (Jvm.Cond.fieldLink "LittleMix$Labels" (15 : Nat) "LittleMix$Labels" "sizes" "[I") ∈ mx_T := List.mem_filter.mpr ⟨List.mem_append_right _ ((List.mem_append_left _ (List.mem_of_getElem? (l := tables_1_1) (i := 116) (by decide +kernel)))), rfl⟩
theorem k_117 : (Jvm.Cond.fieldLink "LittleMix$Labels" (18 : Nat) "LittleMix$Labels" "values" "[J") ∈ mx_T := List.mem_filter.mpr ⟨List.mem_append_right _ ((List.mem_append_left _ (List.mem_of_getElem? (l := tables_1_1) (i := 117) (by decide +kernel)))), rfl⟩
theorem k_118 : (Jvm.Cond.fieldLink "LittleMix$Labels" (22 : Nat) "LittleMix$Labels" "registers" "[Z") ∈ mx_T := List.mem_filter.mpr ⟨List.mem_append_right _ ((List.mem_append_left _ (List.mem_of_getElem? (l := tables_1_1) (i := 118) (by decide +kernel)))), rfl⟩
theorem k_119 : (Jvm.Cond.fieldLink "LittleMix$Labels" (30 : Nat) "LittleMix$Labels" "count" "I") ∈ mx_T := List.mem_filter.mpr ⟨List.mem_append_right _ ((List.mem_append_left _ (List.mem_of_getElem? (l := tables_1_1) (i := 119) (by decide +kernel)))), rfl⟩
theorem k_133 : (Jvm.Cond.arrayClass Jvm.ClassFile.FieldType.int) ∈ mx_T := List.mem_filter.mpr ⟨List.mem_append_right _ ((List.mem_append_left _ (List.mem_of_getElem? (l := tables_1_1) (i := 133) (by decide +kernel)))), rfl⟩
theorem k_134 : (Jvm.Cond.classLink "LittleMix$Assembler" (42 : Nat) "LittleMix$Line") ∈ mx_T := List.mem_filter.mpr ⟨List.mem_append_right _ ((List.mem_append_left _ (List.mem_of_getElem? (l := tables_1_1) (i := 134) (by decide +kernel)))), rfl⟩
theorem k_135 : (Jvm.Cond.instantiable "LittleMix$Line" (7 : Nat)) ∈ mx_T := List.mem_filter.mpr ⟨List.mem_append_right _ ((List.mem_append_left _ (List.mem_of_getElem? (l := tables_1_1) (i := 135) (by decide +kernel)))), rfl⟩
theorem k_136 : (Jvm.Cond.methodLink "LittleMix$Assembler" (44 : Nat) ({ cls := "LittleMix$Line", name := "<init>", desc := "([C)V" } : Jvm.MethodName)) ∈ mx_T := List.mem_filter.mpr ⟨List.mem_append_right _ ((List.mem_append_left _ (List.mem_of_getElem? (l := tables_1_1) (i := 136) (by decide +kernel)))), rfl⟩
theorem k_137 : (Jvm.Cond.instanceMethod ({ cls := "LittleMix$Line", name := "<init>", desc := "([C)V" } : Jvm.MethodName)) ∈ mx_T := List.mem_filter.mpr ⟨List.mem_append_right _ ((List.mem_append_left _ (List.mem_of_getElem? (l := tables_1_1) (i := 137) (by decide +kernel)))), rfl⟩
theorem k_138 : (Jvm.Cond.code ({ cls := "LittleMix$Line", name := "<init>", desc := "([C)V" } : Jvm.MethodName) prog_5_method_1_code (2 : Nat) (Option.none : Option Jvm.ClassFile.FieldType)) ∈ mx_T := List.mem_filter.mpr ⟨List.mem_append_right _ ((List.mem_append_left _ (List.mem_of_getElem? (l := tables_1_1) (i := 138) rfl))), rfl⟩
theorem k_139 : (Jvm.Cond.methodLink "LittleMix$Line" (3 : Nat) ({ cls := "java/lang/Object", name := "<init>", desc := "()V" } : Jvm.MethodName)) ∈ mx_T := List.mem_filter.mpr ⟨List.mem_append_right _ ((List.mem_append_left _ (List.mem_of_getElem? (l := tables_1_1) (i := 139) (by decide +kernel)))), rfl⟩
theorem k_140 : (Jvm.Cond.classLink "LittleMix$Line" (9 : Nat) "LittleMix$Operations") ∈ mx_T := List.mem_filter.mpr ⟨List.mem_append_right _ ((List.mem_append_left _ (List.mem_of_getElem? (l := tables_1_1) (i := 140) (by decide +kernel)))), rfl⟩
theorem k_141 : (Jvm.Cond.instantiable "LittleMix$Operations" (1 : Nat)) ∈ mx_T := List.mem_filter.mpr ⟨List.mem_append_right _ ((List.mem_append_left _ (List.mem_of_getElem? (l := tables_1_1) (i := 141) (by decide +kernel)))), rfl⟩
theorem k_142 : (Jvm.Cond.methodLink "LittleMix$Line" (11 : Nat) ({ cls := "LittleMix$Operations", name := "<init>", desc := "()V" } : Jvm.MethodName)) ∈ mx_T := List.mem_filter.mpr ⟨List.mem_append_right _ ((List.mem_append_left _ (List.mem_of_getElem? (l := tables_1_1) (i := 142) (by decide +kernel)))), rfl⟩
theorem k_143 : (Jvm.Cond.instanceMethod ({ cls := "LittleMix$Operations", name := "<init>", desc := "()V" } : Jvm.MethodName)) ∈ mx_T := List.mem_filter.mpr ⟨List.mem_append_right _ ((List.mem_append_left _ (List.mem_of_getElem? (l := tables_1_1) (i := 143) (by decide +kernel)))), rfl⟩
theorem k_144 : (Jvm.Cond.code ({ cls := "LittleMix$Operations", name := "<init>", desc := "()V" } : Jvm.MethodName) prog_9_method_1_code (1 : Nat) (Option.none : Option Jvm.ClassFile.FieldType)) ∈ mx_T := List.mem_filter.mpr ⟨List.mem_append_right _ ((List.mem_append_left _ (List.mem_of_getElem? (l := tables_1_1) (i := 144) rfl))), rfl⟩
theorem k_145 : (Jvm.Cond.methodLink "LittleMix$Operations" (3 : Nat) ({ cls := "java/lang/Object", name := "<init>", desc := "()V" } : Jvm.MethodName)) ∈ mx_T := List.mem_filter.mpr ⟨List.mem_append_right _ ((List.mem_append_left _ (List.mem_of_getElem? (l := tables_1_1) (i := 145) (by decide +kernel)))), rfl⟩
theorem k_146 : (Jvm.Cond.stringRef "LittleMix$Operations" (15 : Nat) "TRAP") ∈ lw_tbl := List.mem_append_right _ ((List.mem_append_left _ (List.mem_of_getElem? (l := tables_1_1) (i := 146) (by decide +kernel))))
theorem k_147 : (Jvm.Cond.methodLink "LittleMix$Operations" (17 : Nat) ({ cls := "LittleMix$Operations", name := "learn", desc := "(IILjava/lang/String;)V" } : Jvm.MethodName)) ∈ mx_T := List.mem_filter.mpr ⟨List.mem_append_right _ ((List.mem_append_left _ (List.mem_of_getElem? (l := tables_1_1) (i := 147) (by decide +kernel)))), rfl⟩
theorem k_149 : (Jvm.Cond.instanceMethod ({ cls := "LittleMix$Operations", name := "learn", desc := "(IILjava/lang/String;)V" } : Jvm.MethodName)) ∈ mx_T := List.mem_filter.mpr ⟨List.mem_append_right _ ((List.mem_append_left _ (List.mem_of_getElem? (l := tables_1_1) (i := 149) (by decide +kernel)))), rfl⟩
theorem k_150 : (Jvm.Cond.code ({ cls := "LittleMix$Operations", name := "learn", desc := "(IILjava/lang/String;)V" } : Jvm.MethodName) prog_9_method_2_code (7 : Nat) (Option.none : Option Jvm.ClassFile.FieldType)) ∈ mx_T := List.mem_filter.mpr ⟨List.mem_append_right _ ((List.mem_append_left _ (List.mem_of_getElem? (l := tables_1_1) (i := 150) rfl))), rfl⟩
theorem k_151 : (Jvm.Cond.methodLink "LittleMix$Operations" (47 : Nat) ({ cls := "java/lang/String", name := "length", desc := "()I" } : Jvm.MethodName)) ∈ mx_T := List.mem_filter.mpr ⟨List.mem_append_right _ ((List.mem_append_left _ (List.mem_of_getElem? (l := tables_1_1) (i := 151) (by decide +kernel)))), rfl⟩
theorem k_152 : (Jvm.Cond.instanceMethod ({ cls := "java/lang/String", name := "length", desc := "()I" } : Jvm.MethodName)) ∈ mx_T := List.mem_filter.mpr ⟨List.mem_append_right _ ((List.mem_append_left _ (List.mem_of_getElem? (l := tables_1_1) (i := 152) (by decide +kernel)))), rfl⟩
theorem k_153 : (Jvm.Cond.selects "java/lang/String" ({ cls := "java/lang/String", name := "length", desc := "()I" } : Jvm.MethodName) ({ cls := "java/lang/String", name := "length", desc := "()I" } : Jvm.MethodName)) ∈ mx_T := List.mem_filter.mpr ⟨List.mem_append_right _ ((List.mem_append_left _ (List.mem_of_getElem? (l := tables_1_1) (i := 153) (by decide +kernel)))), rfl⟩
theorem k_154 : (Jvm.Cond.code ({ cls := "java/lang/String", name := "length", desc := "()I" } : Jvm.MethodName) prog_18_method_54_code (1 : Nat) (Option.some Jvm.ClassFile.FieldType.int)) ∈ mx_T := List.mem_filter.mpr ⟨List.mem_append_right _ ((List.mem_append_left _ (List.mem_of_getElem? (l := tables_1_1) (i := 154) rfl))), rfl⟩
theorem k_155 : (Jvm.Cond.methodLink "java/lang/String" (335 : Nat) ({ cls := "java/lang/String", name := "coder", desc := "()B" } : Jvm.MethodName)) ∈ mx_T := List.mem_filter.mpr ⟨List.mem_append_right _ ((List.mem_append_left _ (List.mem_of_getElem? (l := tables_1_1) (i := 155) (by decide +kernel)))), rfl⟩
theorem k_156 : (Jvm.Cond.instanceMethod ({ cls := "java/lang/String", name := "coder", desc := "()B" } : Jvm.MethodName)) ∈ mx_T := List.mem_filter.mpr ⟨List.mem_append_right _ ((List.mem_append_left _ (List.mem_of_getElem? (l := tables_1_1) (i := 156) (by decide +kernel)))), rfl⟩
theorem k_157 : (Jvm.Cond.selects "java/lang/String" ({ cls := "java/lang/String", name := "coder", desc := "()B" } : Jvm.MethodName) ({ cls := "java/lang/String", name := "coder", desc := "()B" } : Jvm.MethodName)) ∈ mx_T := List.mem_filter.mpr ⟨List.mem_append_right _ ((List.mem_append_left _ (List.mem_of_getElem? (l := tables_1_1) (i := 157) (by decide +kernel)))), rfl⟩
theorem k_158 : (Jvm.Cond.code ({ cls := "java/lang/String", name := "coder", desc := "()B" } : Jvm.MethodName) prog_18_method_152_code (1 : Nat) (Option.some Jvm.ClassFile.FieldType.byte)) ∈ mx_T := List.mem_filter.mpr ⟨List.mem_append_right _ ((List.mem_append_left _ (List.mem_of_getElem? (l := tables_1_1) (i := 158) rfl))), rfl⟩
theorem k_159 : (Jvm.Cond.fieldLink "java/lang/String" (38 : Nat) "java/lang/String" "COMPACT_STRINGS" "Z") ∈ mx_T := List.mem_filter.mpr ⟨List.mem_append_right _ ((List.mem_append_left _ (List.mem_of_getElem? (l := tables_1_1) (i := 159) (by decide +kernel)))), rfl⟩
theorem k_160 : (Jvm.Cond.laysStatic "java/lang/String" "COMPACT_STRINGS" "Z") ∈ lw_tbl := List.mem_append_right _ ((List.mem_append_left _ (List.mem_of_getElem? (l := tables_1_1) (i := 160) (by decide +kernel))))
theorem k_161 : (Jvm.Cond.methodLink "LittleMix$Operations" (53 : Nat) ({ cls := "java/lang/String", name := "charAt", desc := "(I)C" } : Jvm.MethodName)) ∈ mx_T := List.mem_filter.mpr ⟨List.mem_append_right _ ((List.mem_append_left _ (List.mem_of_getElem? (l := tables_1_1) (i := 161) (by decide +kernel)))), rfl⟩
theorem k_162 : (Jvm.Cond.instanceMethod ({ cls := "java/lang/String", name := "charAt", desc := "(I)C" } : Jvm.MethodName)) ∈ mx_T := List.mem_filter.mpr ⟨List.mem_append_right _ ((List.mem_append_left _ (List.mem_of_getElem? (l := tables_1_1) (i := 162) (by decide +kernel)))), rfl⟩
theorem k_163 : (Jvm.Cond.selects "java/lang/String" ({ cls := "java/lang/String", name := "charAt", desc := "(I)C" } : Jvm.MethodName) ({ cls := "java/lang/String", name := "charAt", desc := "(I)C" } : Jvm.MethodName)) ∈ mx_T := List.mem_filter.mpr ⟨List.mem_append_right _ ((List.mem_append_left _ (List.mem_of_getElem? (l := tables_1_1) (i := 163) (by decide +kernel)))), rfl⟩
theorem k_164 : (Jvm.Cond.code ({ cls := "java/lang/String", name := "charAt", desc := "(I)C" } : Jvm.MethodName) prog_18_method_56_code (2 : Nat) (Option.some Jvm.ClassFile.FieldType.char)) ∈ mx_T := List.mem_filter.mpr ⟨List.mem_append_right _ ((List.mem_append_left _ (List.mem_of_getElem? (l := tables_1_1) (i := 164) rfl))), rfl⟩
theorem k_165 : (Jvm.Cond.methodLink "java/lang/String" (492 : Nat) ({ cls := "java/lang/String", name := "isLatin1", desc := "()Z" } : Jvm.MethodName)) ∈ mx_T := List.mem_filter.mpr ⟨List.mem_append_right _ ((List.mem_append_left _ (List.mem_of_getElem? (l := tables_1_1) (i := 165) (by decide +kernel)))), rfl⟩
theorem k_166 : (Jvm.Cond.instanceMethod ({ cls := "java/lang/String", name := "isLatin1", desc := "()Z" } : Jvm.MethodName)) ∈ mx_T := List.mem_filter.mpr ⟨List.mem_append_right _ ((List.mem_append_left _ (List.mem_of_getElem? (l := tables_1_1) (i := 166) (by decide +kernel)))), rfl⟩
theorem k_167 : (Jvm.Cond.selects "java/lang/String" ({ cls := "java/lang/String", name := "isLatin1", desc := "()Z" } : Jvm.MethodName) ({ cls := "java/lang/String", name := "isLatin1", desc := "()Z" } : Jvm.MethodName)) ∈ mx_T := List.mem_filter.mpr ⟨List.mem_append_right _ ((List.mem_append_left _ (List.mem_of_getElem? (l := tables_1_1) (i := 167) (by decide +kernel)))), rfl⟩
theorem k_168 : (Jvm.Cond.code ({ cls := "java/lang/String", name := "isLatin1", desc := "()Z" } : Jvm.MethodName) prog_18_method_154_code (1 : Nat) (Option.some Jvm.ClassFile.FieldType.boolean)) ∈ mx_T := List.mem_filter.mpr ⟨List.mem_append_right _ ((List.mem_append_left _ (List.mem_of_getElem? (l := tables_1_1) (i := 168) rfl))), rfl⟩
theorem k_169 : (Jvm.Cond.methodLink "java/lang/String" (495 : Nat) ({ cls := "java/lang/StringLatin1", name := "charAt", desc := "([BI)C" } : Jvm.MethodName)) ∈ mx_T := List.mem_filter.mpr ⟨List.mem_append_right _ ((List.mem_append_left _ (List.mem_of_getElem? (l := tables_1_1) (i := 169) (by decide +kernel)))), rfl⟩
theorem k_170 : (Jvm.Cond.static ({ cls := "java/lang/StringLatin1", name := "charAt", desc := "([BI)C" } : Jvm.MethodName)) ∈ mx_T := List.mem_filter.mpr ⟨List.mem_append_right _ ((List.mem_append_left _ (List.mem_of_getElem? (l := tables_1_1) (i := 170) (by decide +kernel)))), rfl⟩
theorem k_171 : (Jvm.Cond.code ({ cls := "java/lang/StringLatin1", name := "charAt", desc := "([BI)C" } : Jvm.MethodName) prog_19_method_2_code (2 : Nat) (Option.some Jvm.ClassFile.FieldType.char)) ∈ mx_T := List.mem_filter.mpr ⟨List.mem_append_right _ ((List.mem_append_left _ (List.mem_of_getElem? (l := tables_1_1) (i := 171) rfl))), rfl⟩
theorem k_172 : (Jvm.Cond.methodLink "java/lang/StringLatin1" (9 : Nat) ({ cls := "java/lang/String", name := "checkIndex", desc := "(II)V" } : Jvm.MethodName)) ∈ mx_T := List.mem_filter.mpr ⟨List.mem_append_right _ ((List.mem_append_left _ (List.mem_of_getElem? (l := tables_1_1) (i := 172) (by decide +kernel)))), rfl⟩
theorem k_173 : (Jvm.Cond.static ({ cls := "java/lang/String", name := "checkIndex", desc := "(II)V" } : Jvm.MethodName)) ∈ mx_T := List.mem_filter.mpr ⟨List.mem_append_right _ ((List.mem_append_left _ (List.mem_of_getElem? (l := tables_1_1) (i := 173) (by decide +kernel)))), rfl⟩
theorem k_174 : (Jvm.Cond.code ({ cls := "java/lang/String", name := "checkIndex", desc := "(II)V" } : Jvm.MethodName) prog_18_method_155_code (2 : Nat) (Option.none : Option Jvm.ClassFile.FieldType)) ∈ mx_T := List.mem_filter.mpr ⟨List.mem_append_right _ ((List.mem_append_left _ (List.mem_of_getElem? (l := tables_1_1) (i := 174) rfl))), rfl⟩
theorem k_175 : (Jvm.Cond.fieldLink "java/lang/String" (1053 : Nat) "jdk/internal/util/Preconditions" "SIOOBE_FORMATTER" "Ljava/util/function/BiFunction;") ∈ mx_T := List.mem_filter.mpr ⟨List.mem_append_right _ ((List.mem_append_left _ (List.mem_of_getElem? (l := tables_1_1) (i := 175) (by decide +kernel)))), rfl⟩
theorem k_176 : (Jvm.Cond.laysStatic "jdk/internal/util/Preconditions" "SIOOBE_FORMATTER" "Ljava/util/function/BiFunction;") ∈ lw_tbl := List.mem_append_right _ ((List.mem_append_left _ (List.mem_of_getElem? (l := tables_1_1) (i := 176) (by decide +kernel))))
theorem k_177 : (Jvm.Cond.methodLink "java/lang/String" (1059 : Nat) ({ cls := "jdk/internal/util/Preconditions", name := "checkIndex", desc := "(IILjava/util/function/BiFunction;)I" } : Jvm.MethodName)) ∈ mx_T := List.mem_filter.mpr ⟨List.mem_append_right _ ((List.mem_append_left _ (List.mem_of_getElem? (l := tables_1_1) (i := 177) (by decide +kernel)))), rfl⟩
theorem k_178 : (Jvm.Cond.static ({ cls := "jdk/internal/util/Preconditions", name := "checkIndex", desc := "(IILjava/util/function/BiFunction;)I" } : Jvm.MethodName)) ∈ mx_T := List.mem_filter.mpr ⟨List.mem_append_right _ ((List.mem_append_left _ (List.mem_of_getElem? (l := tables_1_1) (i := 178) (by decide +kernel)))), rfl⟩
theorem k_179 : (Jvm.Cond.code ({ cls := "jdk/internal/util/Preconditions", name := "checkIndex", desc := "(IILjava/util/function/BiFunction;)I" } : Jvm.MethodName) prog_22_method_11_code (3 : Nat) (Option.some Jvm.ClassFile.FieldType.int)) ∈ mx_T := List.mem_filter.mpr ⟨List.mem_append_right _ ((List.mem_append_left _ (List.mem_of_getElem? (l := tables_1_1) (i := 179) rfl))), rfl⟩
theorem k_199 : (Jvm.Cond.stringRef "LittleMix$Operations" (21 : Nat) "MUL MULU DIV DIVU ADD ADDU SUB SUBU 2ADDU 4ADDU 8ADDU 16ADDU CMP CMPU NEG NEGU SL SLU SR SRU") ∈ lw_tbl := List.mem_append_right _ ((List.mem_append_left _ (List.mem_of_getElem? (l := tables_1_1) (i := 199) (by decide +kernel))))
theorem k_200 : (Jvm.Cond.stringRef "LittleMix$Operations" (23 : Nat) "BN BZ BP BOD BNN BNZ BNP BEV PBN PBZ PBP PBOD PBNN PBNZ PBNP PBEV") ∈ lw_tbl := List.mem_append_right _ ((List.mem_append_left _ (List.mem_of_getElem? (l := tables_1_1) (i := 200) (by decide +kernel))))
theorem k_201 : (Jvm.Cond.stringRef "LittleMix$Operations" (25 : Nat) "CSN CSZ CSP CSOD CSNN CSNZ CSNP CSEV ZSN ZSZ ZSP ZSOD ZSNN ZSNZ ZSNP ZSEV") ∈ lw_tbl := List.mem_append_right _ ((List.mem_append_left _ (List.mem_of_getElem? (l := tables_1_1) (i := 201) (by decide +kernel))))
theorem k_202 : (Jvm.Cond.stringRef "LittleMix$Operations" (27 : Nat) "LDB LDBU LDW LDWU LDT LDTU LDO") ∈ lw_tbl := List.mem_append_right _ ((List.mem_append_left _ (List.mem_of_getElem? (l := tables_1_1) (i := 202) (by decide +kernel))))
theorem k_203 : (Jvm.Cond.stringRef "LittleMix$Operations" (29 : Nat) "STB STBU STW STWU STT STTU STO") ∈ lw_tbl := List.mem_append_right _ ((List.mem_append_left _ (List.mem_of_getElem? (l := tables_1_1) (i := 203) (by decide +kernel))))
theorem k_204 : (Jvm.Cond.stringRef "LittleMix$Operations" (31 : Nat) "STCO") ∈ lw_tbl := List.mem_append_right _ ((List.mem_append_left _ (List.mem_of_getElem? (l := tables_1_1) (i := 204) (by decide +kernel))))
theorem k_205 : (Jvm.Cond.stringRef "LittleMix$Operations" (33 : Nat) "OR ORN NOR XOR AND ANDN NAND NXOR BDIF WDIF TDIF ODIF MUX SADD MOR MXOR") ∈ lw_tbl := List.mem_append_right _ ((List.mem_append_left _ (List.mem_of_getElem? (l := tables_1_1) (i := 205) (by decide +kernel))))
theorem k_206 : (Jvm.Cond.stringRef "LittleMix$Operations" (35 : Nat) "SETH SETMH SETML SETL INCH INCMH INCML INCL") ∈ lw_tbl := List.mem_append_right _ ((List.mem_append_left _ (List.mem_of_getElem? (l := tables_1_1) (i := 206) (by decide +kernel))))
theorem k_207 : (Jvm.Cond.stringRef "LittleMix$Operations" (37 : Nat) "ORH ORMH ORML ORL ANDNH ANDNMH ANDNML ANDNL") ∈ lw_tbl := List.mem_append_right _ ((List.mem_append_left _ (List.mem_of_getElem? (l := tables_1_1) (i := 207) (by decide +kernel))))
theorem k_208 : (Jvm.Cond.stringRef "LittleMix$Operations" (39 : Nat) "JMP PUSHJ GETA PUT POP") ∈ lw_tbl := List.mem_append_right _ ((List.mem_append_left _ (List.mem_of_getElem? (l := tables_1_1) (i := 208) (by decide +kernel))))
theorem k_209 : (Jvm.Cond.stringRef "LittleMix$Operations" (41 : Nat) "RESUME") ∈ lw_tbl := List.mem_append_right _ ((List.mem_append_left _ (List.mem_of_getElem? (l := tables_1_1) (i := 209) (by decide +kernel))))
theorem k_210 : (Jvm.Cond.stringRef "LittleMix$Operations" (43 : Nat) "SWYM GET TRIP") ∈ lw_tbl := List.mem_append_right _ ((List.mem_append_left _ (List.mem_of_getElem? (l := tables_1_1) (i := 210) (by decide +kernel))))
theorem k_211 : (Jvm.Cond.stringRef "LittleMix$Operations" (45 : Nat) "IS LOC BYTE WYDE TETRA OCTA") ∈ lw_tbl := List.mem_append_right _ ((List.mem_append_left _ (List.mem_of_getElem? (l := tables_1_1) (i := 211) (by decide +kernel))))
theorem k_212 : (Jvm.Cond.fieldLink "LittleMix$Operations" (11 : Nat) "LittleMix$Operations" "names" "[J") ∈ mx_T := List.mem_filter.mpr ⟨List.mem_append_right _ ((List.mem_append_left _ (List.mem_of_getElem? (l := tables_1_1) (i := 212) (by decide +kernel)))), rfl⟩
theorem k_217 : (Jvm.Cond.fieldLink "LittleMix$Line" (18 : Nat) "LittleMix$Line" "text" "[C") ∈ mx_T := List.mem_filter.mpr ⟨List.mem_append_right _ ((List.mem_append_left _ (List.mem_of_getElem? (l := tables_1_1) (i := 217) (by decide +kernel)))), rfl⟩
theorem k_218 : (Jvm.Cond.fieldLink "LittleMix$Line" (12 : Nat) "LittleMix$Line" "operations" "LLittleMix$Operations;") ∈ mx_T := List.mem_filter.mpr ⟨List.mem_append_right _ ((List.mem_append_left _ (List.mem_of_getElem? (l := tables_1_1) (i := 218) (by decide +kernel)))), rfl⟩
theorem k_244 : (Jvm.Cond.classLink "LittleMix$Assembler" (49 : Nat) "LittleMix$Sum") ∈ mx_T := List.mem_filter.mpr ⟨List.mem_append_right _ ((List.mem_append_right _ (List.mem_append_left _ (List.mem_of_getElem? (l := tables_1_2) (i := 4) (by decide +kernel))))), rfl⟩
theorem k_245 : (Jvm.Cond.instantiable "LittleMix$Sum" (11 : Nat)) ∈ mx_T := List.mem_filter.mpr ⟨List.mem_append_right _ ((List.mem_append_right _ (List.mem_append_left _ (List.mem_of_getElem? (l := tables_1_2) (i := 5) (by decide +kernel))))), rfl⟩
theorem k_246 : (Jvm.Cond.methodLink "LittleMix$Assembler" (51 : Nat) ({ cls := "LittleMix$Sum", name := "<init>", desc := "([CLLittleMix$Labels;)V" } : Jvm.MethodName)) ∈ mx_T := List.mem_filter.mpr ⟨List.mem_append_right _ ((List.mem_append_right _ (List.mem_append_left _ (List.mem_of_getElem? (l := tables_1_2) (i := 6) (by decide +kernel))))), rfl⟩
theorem k_247 : (Jvm.Cond.instanceMethod ({ cls := "LittleMix$Sum", name := "<init>", desc := "([CLLittleMix$Labels;)V" } : Jvm.MethodName)) ∈ mx_T := List.mem_filter.mpr ⟨List.mem_append_right _ ((List.mem_append_right _ (List.mem_append_left _ (List.mem_of_getElem? (l := tables_1_2) (i := 7) (by decide +kernel))))), rfl⟩
theorem k_248 : (Jvm.Cond.code ({ cls := "LittleMix$Sum", name := "<init>", desc := "([CLLittleMix$Labels;)V" } : Jvm.MethodName) prog_12_method_1_code (3 : Nat) (Option.none : Option Jvm.ClassFile.FieldType)) ∈ mx_T := List.mem_filter.mpr ⟨List.mem_append_right _ ((List.mem_append_right _ (List.mem_append_left _ (List.mem_of_getElem? (l := tables_1_2) (i := 8) rfl)))), rfl⟩
theorem k_249 : (Jvm.Cond.methodLink "LittleMix$Sum" (3 : Nat) ({ cls := "java/lang/Object", name := "<init>", desc := "()V" } : Jvm.MethodName)) ∈ mx_T := List.mem_filter.mpr ⟨List.mem_append_right _ ((List.mem_append_right _ (List.mem_append_left _ (List.mem_of_getElem? (l := tables_1_2) (i := 9) (by decide +kernel))))), rfl⟩
theorem k_250 : (Jvm.Cond.fieldLink "LittleMix$Sum" (9 : Nat) "LittleMix$Sum" "text" "[C") ∈ mx_T := List.mem_filter.mpr ⟨List.mem_append_right _ ((List.mem_append_right _ (List.mem_append_left _ (List.mem_of_getElem? (l := tables_1_2) (i := 10) (by decide +kernel))))), rfl⟩
theorem k_251 : (Jvm.Cond.fieldLink "LittleMix$Sum" (15 : Nat) "LittleMix$Sum" "labels" "LLittleMix$Labels;") ∈ mx_T := List.mem_filter.mpr ⟨List.mem_append_right _ ((List.mem_append_right _ (List.mem_append_left _ (List.mem_of_getElem? (l := tables_1_2) (i := 11) (by decide +kernel))))), rfl⟩
theorem k_288 : (Jvm.Cond.fieldLink "LittleMix$Assembler" (38 : Nat) "LittleMix$Assembler" "labels" "LLittleMix$Labels;") ∈ mx_T := List.mem_filter.mpr ⟨List.mem_append_right _ ((List.mem_append_right _ (List.mem_append_left _ (List.mem_of_getElem? (l := tables_1_2) (i := 48) (by decide +kernel))))), rfl⟩
theorem k_289 : (Jvm.Cond.fieldLink "LittleMix$Assembler" (45 : Nat) "LittleMix$Assembler" "line" "LLittleMix$Line;") ∈ mx_T := List.mem_filter.mpr ⟨List.mem_append_right _ ((List.mem_append_right _ (List.mem_append_left _ (List.mem_of_getElem? (l := tables_1_2) (i := 49) (by decide +kernel))))), rfl⟩
theorem k_290 : (Jvm.Cond.fieldLink "LittleMix$Assembler" (54 : Nat) "LittleMix$Assembler" "sum" "LLittleMix$Sum;") ∈ mx_T := List.mem_filter.mpr ⟨List.mem_append_right _ ((List.mem_append_right _ (List.mem_append_left _ (List.mem_of_getElem? (l := tables_1_2) (i := 50) (by decide +kernel))))), rfl⟩
theorem k_291 : (Jvm.Cond.fieldLink "LittleMix$Assembler" (12 : Nat) "LittleMix$Assembler" "operands" "LLittleMix$Operands;") ∈ mx_T := List.mem_filter.mpr ⟨List.mem_append_right _ ((List.mem_append_right _ (List.mem_append_left _ (List.mem_of_getElem? (l := tables_1_2) (i := 51) (by decide +kernel))))), rfl⟩
theorem k_292 : (Jvm.Cond.fieldLink "LittleMix$Assembler" (20 : Nat) "LittleMix$Assembler" "answers" "[J") ∈ mx_T := List.mem_filter.mpr ⟨List.mem_append_right _ ((List.mem_append_right _ (List.mem_append_left _ (List.mem_of_getElem? (l := tables_1_2) (i := 52) (by decide +kernel))))), rfl⟩
theorem k_293 : (Jvm.Cond.fieldLink "LittleMix$Assembler" (27 : Nat) "LittleMix$Assembler" "image" "LLittleMix$Memory;") ∈ mx_T := List.mem_filter.mpr ⟨List.mem_append_right _ ((List.mem_append_right _ (List.mem_append_left _ (List.mem_of_getElem? (l := tables_1_2) (i := 53) (by decide +kernel))))), rfl⟩
theorem k_294 : (Jvm.Cond.fieldLinkNest "LittleMix" (57 : Nat) "LittleMix$Assembler" "image" "LLittleMix$Memory;" "LittleMix") ∈ mx_Ns := List.mem_filter.mpr ⟨(List.mem_append_right _ (List.mem_append_left _ (List.mem_of_getElem? (l := tables_1_2) (i := 54) (by decide +kernel)))), rfl⟩
theorem k_295 : (Jvm.Cond.fieldLink "LittleMix$Assembler" (58 : Nat) "LittleMix$Assembler" "answered" "I") ∈ mx_T := List.mem_filter.mpr ⟨List.mem_append_right _ ((List.mem_append_right _ (List.mem_append_left _ (List.mem_of_getElem? (l := tables_1_2) (i := 55) (by decide +kernel))))), rfl⟩
theorem k_296 : (Jvm.Cond.fieldLink "LittleMix$Assembler" (31 : Nat) "LittleMix$Assembler" "illLine" "I") ∈ mx_T := List.mem_filter.mpr ⟨List.mem_append_right _ ((List.mem_append_right _ (List.mem_append_left _ (List.mem_of_getElem? (l := tables_1_2) (i := 56) (by decide +kernel))))), rfl⟩
theorem k_297 : (Jvm.Cond.fieldLinkNest "LittleMix" (67 : Nat) "LittleMix$Assembler" "illLine" "I" "LittleMix") ∈ mx_Ns := List.mem_filter.mpr ⟨(List.mem_append_right _ (List.mem_append_left _ (List.mem_of_getElem? (l := tables_1_2) (i := 57) (by decide +kernel)))), rfl⟩
theorem k_298 : (Jvm.Cond.fieldLink "LittleMix$Assembler" (67 : Nat) "LittleMix$Assembler" "place" "I") ∈ mx_T := List.mem_filter.mpr ⟨List.mem_append_right _ ((List.mem_append_right _ (List.mem_append_left _ (List.mem_of_getElem? (l := tables_1_2) (i := 58) (by decide +kernel))))), rfl⟩
theorem k_299 : (Jvm.Cond.fieldLink "LittleMix$Assembler" (70 : Nat) "LittleMix$Assembler" "filled" "I") ∈ mx_T := List.mem_filter.mpr ⟨List.mem_append_right _ ((List.mem_append_right _ (List.mem_append_left _ (List.mem_of_getElem? (l := tables_1_2) (i := 59) (by decide +kernel))))), rfl⟩
theorem k_321 : (Jvm.Cond.classLink "LittleMix" (36 : Nat) "LittleMix$Machine") ∈ mx_T := List.mem_filter.mpr ⟨List.mem_append_right _ ((List.mem_append_right _ (List.mem_append_left _ (List.mem_of_getElem? (l := tables_1_2) (i := 81) (by decide +kernel))))), rfl⟩
theorem k_322 : (Jvm.Cond.instantiable "LittleMix$Machine" (16 : Nat)) ∈ mx_T := List.mem_filter.mpr ⟨List.mem_append_right _ ((List.mem_append_right _ (List.mem_append_left _ (List.mem_of_getElem? (l := tables_1_2) (i := 82) (by decide +kernel))))), rfl⟩
theorem k_323 : (Jvm.Cond.methodLink "LittleMix" (38 : Nat) ({ cls := "LittleMix$Machine", name := "<init>", desc := "(LLittleMix$Memory;LLittleMix$Registers;)V" } : Jvm.MethodName)) ∈ mx_T := List.mem_filter.mpr ⟨List.mem_append_right _ ((List.mem_append_right _ (List.mem_append_left _ (List.mem_of_getElem? (l := tables_1_2) (i := 83) (by decide +kernel))))), rfl⟩
theorem k_324 : (Jvm.Cond.instanceMethod ({ cls := "LittleMix$Machine", name := "<init>", desc := "(LLittleMix$Memory;LLittleMix$Registers;)V" } : Jvm.MethodName)) ∈ mx_T := List.mem_filter.mpr ⟨List.mem_append_right _ ((List.mem_append_right _ (List.mem_append_left _ (List.mem_of_getElem? (l := tables_1_2) (i := 84) (by decide +kernel))))), rfl⟩
theorem k_325 : (Jvm.Cond.code ({ cls := "LittleMix$Machine", name := "<init>", desc := "(LLittleMix$Memory;LLittleMix$Registers;)V" } : Jvm.MethodName) prog_6_method_1_code (3 : Nat) (Option.none : Option Jvm.ClassFile.FieldType)) ∈ mx_T := List.mem_filter.mpr ⟨List.mem_append_right _ ((List.mem_append_right _ (List.mem_append_left _ (List.mem_of_getElem? (l := tables_1_2) (i := 85) rfl)))), rfl⟩
theorem k_326 : (Jvm.Cond.methodLink "LittleMix$Machine" (1 : Nat) ({ cls := "java/lang/Object", name := "<init>", desc := "()V" } : Jvm.MethodName)) ∈ mx_T := List.mem_filter.mpr ⟨List.mem_append_right _ ((List.mem_append_right _ (List.mem_append_left _ (List.mem_of_getElem? (l := tables_1_2) (i := 86) (by decide +kernel))))), rfl⟩
theorem k_327 : (Jvm.Cond.constantLong "LittleMix$Machine" (17 : Nat) (256 : Int64)) ∈ mx_T := List.mem_filter.mpr ⟨List.mem_append_right _ ((List.mem_append_right _ (List.mem_append_left _ (List.mem_of_getElem? (l := tables_1_2) (i := 87) (by decide +kernel))))), rfl⟩
theorem k_328 : (Jvm.Cond.fieldLink "LittleMix$Machine" (7 : Nat) "LittleMix$Machine" "memory" "LLittleMix$Memory;") ∈ mx_T := List.mem_filter.mpr ⟨List.mem_append_right _ ((List.mem_append_right _ (List.mem_append_left _ (List.mem_of_getElem? (l := tables_1_2) (i := 88) (by decide +kernel))))), rfl⟩
theorem k_329 : (Jvm.Cond.fieldLink "LittleMix$Machine" (13 : Nat) "LittleMix$Machine" "registers" "LLittleMix$Registers;") ∈ mx_T := List.mem_filter.mpr ⟨List.mem_append_right _ ((List.mem_append_right _ (List.mem_append_left _ (List.mem_of_getElem? (l := tables_1_2) (i := 89) (by decide +kernel))))), rfl⟩
theorem k_330 : (Jvm.Cond.fieldLink "LittleMix$Machine" (19 : Nat) "LittleMix$Machine" "at" "J") ∈ mx_T := List.mem_filter.mpr ⟨List.mem_append_right _ ((List.mem_append_right _ (List.mem_append_left _ (List.mem_of_getElem? (l := tables_1_2) (i := 90) (by decide +kernel))))), rfl⟩
theorem k_331 : (Jvm.Cond.fieldLinkNest "LittleMix" (100 : Nat) "LittleMix$Machine" "at" "J" "LittleMix") ∈ mx_Ns := List.mem_filter.mpr ⟨(List.mem_append_right _ (List.mem_append_left _ (List.mem_of_getElem? (l := tables_1_2) (i := 91) (by decide +kernel)))), rfl⟩
theorem k_332 : (Jvm.Cond.fieldLink "LittleMix$Machine" (28 : Nat) "LittleMix$Machine" "stop" "I") ∈ mx_T := List.mem_filter.mpr ⟨List.mem_append_right _ ((List.mem_append_right _ (List.mem_append_left _ (List.mem_of_getElem? (l := tables_1_2) (i := 92) (by decide +kernel))))), rfl⟩
theorem k_333 : (Jvm.Cond.fieldLinkNest "LittleMix" (92 : Nat) "LittleMix$Machine" "stop" "I" "LittleMix") ∈ mx_Ns := List.mem_filter.mpr ⟨(List.mem_append_right _ (List.mem_append_left _ (List.mem_of_getElem? (l := tables_1_2) (i := 93) (by decide +kernel)))), rfl⟩
theorem k_334 : (Jvm.Cond.fieldLink "LittleMix$Machine" (32 : Nat) "LittleMix$Machine" "oops" "I") ∈ mx_T := List.mem_filter.mpr ⟨List.mem_append_right _ ((List.mem_append_right _ (List.mem_append_left _ (List.mem_of_getElem? (l := tables_1_2) (i := 94) (by decide +kernel))))), rfl⟩
theorem k_335 : (Jvm.Cond.fieldLinkNest "LittleMix" (104 : Nat) "LittleMix$Machine" "oops" "I" "LittleMix") ∈ mx_Ns := List.mem_filter.mpr ⟨(List.mem_append_right _ (List.mem_append_left _ (List.mem_of_getElem? (l := tables_1_2) (i := 95) (by decide +kernel)))), rfl⟩
theorem k_336 : (Jvm.Cond.fieldLink "LittleMix$Machine" (35 : Nat) "LittleMix$Machine" "mems" "I") ∈ mx_T := List.mem_filter.mpr ⟨List.mem_append_right _ ((List.mem_append_right _ (List.mem_append_left _ (List.mem_of_getElem? (l := tables_1_2) (i := 96) (by decide +kernel))))), rfl⟩
theorem k_337 : (Jvm.Cond.fieldLinkNest "LittleMix" (107 : Nat) "LittleMix$Machine" "mems" "I" "LittleMix") ∈ mx_Ns := List.mem_filter.mpr ⟨(List.mem_append_right _ (List.mem_append_left _ (List.mem_of_getElem? (l := tables_1_2) (i := 97) (by decide +kernel)))), rfl⟩
theorem k_338 : (Jvm.Cond.fieldLink "LittleMix$Machine" (70 : Nat) "LittleMix$Machine" "word" "I") ∈ mx_T := List.mem_filter.mpr ⟨List.mem_append_right _ ((List.mem_append_right _ (List.mem_append_left _ (List.mem_of_getElem? (l := tables_1_2) (i := 98) (by decide +kernel))))), rfl⟩
theorem k_339 : (Jvm.Cond.fieldLink "LittleMix$Machine" (73 : Nat) "LittleMix$Machine" "op" "I") ∈ mx_T := List.mem_filter.mpr ⟨List.mem_append_right _ ((List.mem_append_right _ (List.mem_append_left _ (List.mem_of_getElem? (l := tables_1_2) (i := 99) (by decide +kernel))))), rfl⟩
theorem k_340 : (Jvm.Cond.fieldLink "LittleMix$Machine" (76 : Nat) "LittleMix$Machine" "x" "I") ∈ mx_T := List.mem_filter.mpr ⟨List.mem_append_right _ ((List.mem_append_right _ (List.mem_append_left _ (List.mem_of_getElem? (l := tables_1_2) (i := 100) (by decide +kernel))))), rfl⟩
theorem k_341 : (Jvm.Cond.fieldLink "LittleMix$Machine" (79 : Nat) "LittleMix$Machine" "y" "I") ∈ mx_T := List.mem_filter.mpr ⟨List.mem_append_right _ ((List.mem_append_right _ (List.mem_append_left _ (List.mem_of_getElem? (l := tables_1_2) (i := 101) (by decide +kernel))))), rfl⟩
theorem k_342 : (Jvm.Cond.fieldLink "LittleMix$Machine" (82 : Nat) "LittleMix$Machine" "z" "I") ∈ mx_T := List.mem_filter.mpr ⟨List.mem_append_right _ ((List.mem_append_right _ (List.mem_append_left _ (List.mem_of_getElem? (l := tables_1_2) (i := 102) (by decide +kernel))))), rfl⟩
theorem k_343 : (Jvm.Cond.fieldLink "LittleMix$Machine" (89 : Nat) "LittleMix$Machine" "left" "J") ∈ mx_T := List.mem_filter.mpr ⟨List.mem_append_right _ ((List.mem_append_right _ (List.mem_append_left _ (List.mem_of_getElem? (l := tables_1_2) (i := 103) (by decide +kernel))))), rfl⟩
theorem k_344 : (Jvm.Cond.fieldLink "LittleMix$Machine" (92 : Nat) "LittleMix$Machine" "right" "J") ∈ mx_T := List.mem_filter.mpr ⟨List.mem_append_right _ ((List.mem_append_right _ (List.mem_append_left _ (List.mem_of_getElem? (l := tables_1_2) (i := 104) (by decide +kernel))))), rfl⟩
theorem k_345 : (Jvm.Cond.fieldLink "LittleMix$Machine" (60 : Nat) "LittleMix$Machine" "next" "J") ∈ mx_T := List.mem_filter.mpr ⟨List.mem_append_right _ ((List.mem_append_right _ (List.mem_append_left _ (List.mem_of_getElem? (l := tables_1_2) (i := 105) (by decide +kernel))))), rfl⟩
theorem k_346 : (Jvm.Cond.fieldLink "LittleMix$Machine" (63 : Nat) "LittleMix$Machine" "cost" "I") ∈ mx_T := List.mem_filter.mpr ⟨List.mem_append_right _ ((List.mem_append_right _ (List.mem_append_left _ (List.mem_of_getElem? (l := tables_1_2) (i := 106) (by decide +kernel))))), rfl⟩
theorem k_347 : (Jvm.Cond.fieldLink "LittleMix$Machine" (54 : Nat) "LittleMix$Machine" "event" "I") ∈ mx_T := List.mem_filter.mpr ⟨List.mem_append_right _ ((List.mem_append_right _ (List.mem_append_left _ (List.mem_of_getElem? (l := tables_1_2) (i := 107) (by decide +kernel))))), rfl⟩
theorem k_381 : (Jvm.Cond.fieldLink "LittleMix" (9 : Nat) "LittleMix" "tape" "[C") ∈ mx_T := List.mem_filter.mpr ⟨List.mem_append_right _ ((List.mem_append_right _ (List.mem_append_left _ (List.mem_of_getElem? (l := tables_1_2) (i := 141) (by decide +kernel))))), rfl⟩
theorem k_382 : (Jvm.Cond.fieldLink "LittleMix" (16 : Nat) "LittleMix" "memory" "LLittleMix$Memory;") ∈ mx_T := List.mem_filter.mpr ⟨List.mem_append_right _ ((List.mem_append_right _ (List.mem_append_left _ (List.mem_of_getElem? (l := tables_1_2) (i := 142) (by decide +kernel))))), rfl⟩
theorem k_383 : (Jvm.Cond.fieldLink "LittleMix" (23 : Nat) "LittleMix" "registers" "LLittleMix$Registers;") ∈ mx_T := List.mem_filter.mpr ⟨List.mem_append_right _ ((List.mem_append_right _ (List.mem_append_left _ (List.mem_of_getElem? (l := tables_1_2) (i := 143) (by decide +kernel))))), rfl⟩
theorem k_384 : (Jvm.Cond.fieldLink "LittleMix" (32 : Nat) "LittleMix" "assembler" "LLittleMix$Assembler;") ∈ mx_T := List.mem_filter.mpr ⟨List.mem_append_right _ ((List.mem_append_right _ (List.mem_append_left _ (List.mem_of_getElem? (l := tables_1_2) (i := 144) (by decide +kernel))))), rfl⟩
theorem k_385 : (Jvm.Cond.fieldLink "LittleMix" (41 : Nat) "LittleMix" "machine" "LLittleMix$Machine;") ∈ mx_T := List.mem_filter.mpr ⟨List.mem_append_right _ ((List.mem_append_right _ (List.mem_append_left _ (List.mem_of_getElem? (l := tables_1_2) (i := 145) (by decide +kernel))))), rfl⟩
theorem k_386 : (Jvm.Cond.fieldLink "LittleMix" (45 : Nat) "LittleMix" "length" "I") ∈ mx_T := List.mem_filter.mpr ⟨List.mem_append_right _ ((List.mem_append_right _ (List.mem_append_left _ (List.mem_of_getElem? (l := tables_1_2) (i := 146) (by decide +kernel))))), rfl⟩
theorem k_400 : (Jvm.Cond.methodLink "LittleMixLaw" (13 : Nat) ({ cls := "LittleMix", name := "feed", desc := "(IIIII)Z" } : Jvm.MethodName)) ∈ mx_T := List.mem_filter.mpr ⟨List.mem_append_right _ ((List.mem_append_right _ (List.mem_append_left _ (List.mem_of_getElem? (l := tables_1_2) (i := 160) (by decide +kernel))))), rfl⟩
theorem k_401 : (Jvm.Cond.instanceMethod ({ cls := "LittleMix", name := "feed", desc := "(IIIII)Z" } : Jvm.MethodName)) ∈ mx_T := List.mem_filter.mpr ⟨List.mem_append_right _ ((List.mem_append_right _ (List.mem_append_left _ (List.mem_of_getElem? (l := tables_1_2) (i := 161) (by decide +kernel))))), rfl⟩
theorem k_402 : (Jvm.Cond.selects "LittleMix" ({ cls := "LittleMix", name := "feed", desc := "(IIIII)Z" } : Jvm.MethodName) ({ cls := "LittleMix", name := "feed", desc := "(IIIII)Z" } : Jvm.MethodName)) ∈ mx_T := List.mem_filter.mpr ⟨List.mem_append_right _ ((List.mem_append_right _ (List.mem_append_left _ (List.mem_of_getElem? (l := tables_1_2) (i := 162) (by decide +kernel))))), rfl⟩
theorem k_403 : (Jvm.Cond.code ({ cls := "LittleMix", name := "feed", desc := "(IIIII)Z" } : Jvm.MethodName) prog_1_method_2_code (6 : Nat) (Option.some Jvm.ClassFile.FieldType.boolean)) ∈ mx_T := List.mem_filter.mpr ⟨List.mem_append_right _ ((List.mem_append_right _ (List.mem_append_left _ (List.mem_of_getElem? (l := tables_1_2) (i := 163) rfl)))), rfl⟩
theorem k_404 : (Jvm.Cond.methodLink "LittleMix" (49 : Nat) ({ cls := "LittleMix", name := "punch", desc := "(I)V" } : Jvm.MethodName)) ∈ mx_T := List.mem_filter.mpr ⟨List.mem_append_right _ ((List.mem_append_right _ (List.mem_append_left _ (List.mem_of_getElem? (l := tables_1_2) (i := 164) (by decide +kernel))))), rfl⟩
theorem k_406 : (Jvm.Cond.instanceMethod ({ cls := "LittleMix", name := "punch", desc := "(I)V" } : Jvm.MethodName)) ∈ mx_T := List.mem_filter.mpr ⟨List.mem_append_right _ ((List.mem_append_right _ (List.mem_append_left _ (List.mem_of_getElem? (l := tables_1_2) (i := 166) (by decide +kernel))))), rfl⟩
theorem k_407 : (Jvm.Cond.code ({ cls := "LittleMix", name := "punch", desc := "(I)V" } : Jvm.MethodName) prog_1_method_3_code (3 : Nat) (Option.none : Option Jvm.ClassFile.FieldType)) ∈ mx_T := List.mem_filter.mpr ⟨List.mem_append_right _ ((List.mem_append_right _ (List.mem_append_left _ (List.mem_of_getElem? (l := tables_1_2) (i := 167) rfl)))), rfl⟩
theorem k_408 : (Jvm.Cond.methodLink "LittleMixLaw" (18 : Nat) ({ cls := "LittleMix", name := "assemble", desc := "(I)I" } : Jvm.MethodName)) ∈ mx_T := List.mem_filter.mpr ⟨List.mem_append_right _ ((List.mem_append_right _ (List.mem_append_left _ (List.mem_of_getElem? (l := tables_1_2) (i := 168) (by decide +kernel))))), rfl⟩
theorem k_409 : (Jvm.Cond.instanceMethod ({ cls := "LittleMix", name := "assemble", desc := "(I)I" } : Jvm.MethodName)) ∈ mx_T := List.mem_filter.mpr ⟨List.mem_append_right _ ((List.mem_append_right _ (List.mem_append_left _ (List.mem_of_getElem? (l := tables_1_2) (i := 169) (by decide +kernel))))), rfl⟩
theorem k_410 : (Jvm.Cond.selects "LittleMix" ({ cls := "LittleMix", name := "assemble", desc := "(I)I" } : Jvm.MethodName) ({ cls := "LittleMix", name := "assemble", desc := "(I)I" } : Jvm.MethodName)) ∈ mx_T := List.mem_filter.mpr ⟨List.mem_append_right _ ((List.mem_append_right _ (List.mem_append_left _ (List.mem_of_getElem? (l := tables_1_2) (i := 170) (by decide +kernel))))), rfl⟩
theorem k_411 : (Jvm.Cond.code ({ cls := "LittleMix", name := "assemble", desc := "(I)I" } : Jvm.MethodName) prog_1_method_4_code (2 : Nat) (Option.some Jvm.ClassFile.FieldType.int)) ∈ mx_T := List.mem_filter.mpr ⟨List.mem_append_right _ ((List.mem_append_right _ (List.mem_append_left _ (List.mem_of_getElem? (l := tables_1_2) (i := 171) rfl)))), rfl⟩
theorem k_412 : (Jvm.Cond.methodLink "LittleMix" (53 : Nat) ({ cls := "LittleMix$Assembler", name := "translate", desc := "(I)Z" } : Jvm.MethodName)) ∈ mx_T := List.mem_filter.mpr ⟨List.mem_append_right _ ((List.mem_append_right _ (List.mem_append_left _ (List.mem_of_getElem? (l := tables_1_2) (i := 172) (by decide +kernel))))), rfl⟩
theorem k_413 : (Jvm.Cond.instanceMethod ({ cls := "LittleMix$Assembler", name := "translate", desc := "(I)Z" } : Jvm.MethodName)) ∈ mx_T := List.mem_filter.mpr ⟨List.mem_append_right _ ((List.mem_append_right _ (List.mem_append_left _ (List.mem_of_getElem? (l := tables_1_2) (i := 173) (by decide +kernel))))), rfl⟩
theorem k_414 : (Jvm.Cond.selects "LittleMix$Assembler" ({ cls := "LittleMix$Assembler", name := "translate", desc := "(I)Z" } : Jvm.MethodName) ({ cls := "LittleMix$Assembler", name := "translate", desc := "(I)Z" } : Jvm.MethodName)) ∈ mx_T := List.mem_filter.mpr ⟨List.mem_append_right _ ((List.mem_append_right _ (List.mem_append_left _ (List.mem_of_getElem? (l := tables_1_2) (i := 174) (by decide +kernel))))), rfl⟩
theorem k_415 : (Jvm.Cond.code ({ cls := "LittleMix$Assembler", name := "translate", desc := "(I)Z" } : Jvm.MethodName) prog_3_method_3_code (7 : Nat) (Option.some Jvm.ClassFile.FieldType.boolean)) ∈ mx_T := List.mem_filter.mpr ⟨List.mem_append_right _ ((List.mem_append_right _ (List.mem_append_left _ (List.mem_of_getElem? (l := tables_1_2) (i := 175) rfl)))), rfl⟩
theorem k_416 : (Jvm.Cond.methodLink "LittleMix$Assembler" (63 : Nat) ({ cls := "LittleMix$Labels", name := "clear", desc := "()V" } : Jvm.MethodName)) ∈ mx_T := List.mem_filter.mpr ⟨List.mem_append_right _ ((List.mem_append_right _ (List.mem_append_left _ (List.mem_of_getElem? (l := tables_1_2) (i := 176) (by decide +kernel))))), rfl⟩
theorem k_417 : (Jvm.Cond.instanceMethod ({ cls := "LittleMix$Labels", name := "clear", desc := "()V" } : Jvm.MethodName)) ∈ mx_T := List.mem_filter.mpr ⟨List.mem_append_right _ ((List.mem_append_right _ (List.mem_append_left _ (List.mem_of_getElem? (l := tables_1_2) (i := 177) (by decide +kernel))))), rfl⟩
theorem k_418 : (Jvm.Cond.selects "LittleMix$Labels" ({ cls := "LittleMix$Labels", name := "clear", desc := "()V" } : Jvm.MethodName) ({ cls := "LittleMix$Labels", name := "clear", desc := "()V" } : Jvm.MethodName)) ∈ mx_T := List.mem_filter.mpr ⟨List.mem_append_right _ ((List.mem_append_right _ (List.mem_append_left _ (List.mem_of_getElem? (l := tables_1_2) (i := 178) (by decide +kernel))))), rfl⟩
theorem k_419 : (Jvm.Cond.code ({ cls := "LittleMix$Labels", name := "clear", desc := "()V" } : Jvm.MethodName) prog_4_method_2_code (1 : Nat) (Option.none : Option Jvm.ClassFile.FieldType)) ∈ mx_T := List.mem_filter.mpr ⟨List.mem_append_right _ ((List.mem_append_right _ (List.mem_append_left _ (List.mem_of_getElem? (l := tables_1_2) (i := 179) rfl)))), rfl⟩
theorem k_420 : (Jvm.Cond.methodLink "LittleMix$Assembler" (66 : Nat) ({ cls := "LittleMix$Memory", name := "clear", desc := "()V" } : Jvm.MethodName)) ∈ mx_T := List.mem_filter.mpr ⟨List.mem_append_right _ ((List.mem_append_right _ (List.mem_append_left _ (List.mem_of_getElem? (l := tables_1_2) (i := 180) (by decide +kernel))))), rfl⟩
theorem k_421 : (Jvm.Cond.instanceMethod ({ cls := "LittleMix$Memory", name := "clear", desc := "()V" } : Jvm.MethodName)) ∈ mx_T := List.mem_filter.mpr ⟨List.mem_append_right _ ((List.mem_append_right _ (List.mem_append_left _ (List.mem_of_getElem? (l := tables_1_2) (i := 181) (by decide +kernel))))), rfl⟩
theorem k_422 : (Jvm.Cond.selects "LittleMix$Memory" ({ cls := "LittleMix$Memory", name := "clear", desc := "()V" } : Jvm.MethodName) ({ cls := "LittleMix$Memory", name := "clear", desc := "()V" } : Jvm.MethodName)) ∈ mx_T := List.mem_filter.mpr ⟨List.mem_append_right _ ((List.mem_append_right _ (List.mem_append_left _ (List.mem_of_getElem? (l := tables_1_2) (i := 182) (by decide +kernel))))), rfl⟩
theorem k_423 : (Jvm.Cond.code ({ cls := "LittleMix$Memory", name := "clear", desc := "()V" } : Jvm.MethodName) prog_7_method_6_code (2 : Nat) (Option.none : Option Jvm.ClassFile.FieldType)) ∈ mx_T := List.mem_filter.mpr ⟨List.mem_append_right _ ((List.mem_append_right _ (List.mem_append_left _ (List.mem_of_getElem? (l := tables_1_2) (i := 183) rfl)))), rfl⟩
theorem k_601 : (Jvm.Cond.instanceMethod ({ cls := "LittleMix$Memory", name := "write", desc := "(JIJ)V" } : Jvm.MethodName)) ∈ mx_T := List.mem_filter.mpr ⟨List.mem_append_right _ ((List.mem_append_right _ (List.mem_append_right _ (List.mem_append_left _ (List.mem_of_getElem? (l := tables_1_3) (i := 121) (by decide +kernel)))))), rfl⟩
theorem k_602 : (Jvm.Cond.selects "LittleMix$Memory" ({ cls := "LittleMix$Memory", name := "write", desc := "(JIJ)V" } : Jvm.MethodName) ({ cls := "LittleMix$Memory", name := "write", desc := "(JIJ)V" } : Jvm.MethodName)) ∈ mx_T := List.mem_filter.mpr ⟨List.mem_append_right _ ((List.mem_append_right _ (List.mem_append_right _ (List.mem_append_left _ (List.mem_of_getElem? (l := tables_1_3) (i := 122) (by decide +kernel)))))), rfl⟩
theorem k_603 : (Jvm.Cond.code ({ cls := "LittleMix$Memory", name := "write", desc := "(JIJ)V" } : Jvm.MethodName) prog_7_method_4_code (8 : Nat) (Option.none : Option Jvm.ClassFile.FieldType)) ∈ mx_T := List.mem_filter.mpr ⟨List.mem_append_right _ ((List.mem_append_right _ (List.mem_append_right _ (List.mem_append_left _ (List.mem_of_getElem? (l := tables_1_3) (i := 123) rfl))))), rfl⟩
theorem k_604 : (Jvm.Cond.methodLink "LittleMix$Memory" (13 : Nat) ({ cls := "LittleMix$Memory", name := "holds", desc := "(JI)Z" } : Jvm.MethodName)) ∈ mx_T := List.mem_filter.mpr ⟨List.mem_append_right _ ((List.mem_append_right _ (List.mem_append_right _ (List.mem_append_left _ (List.mem_of_getElem? (l := tables_1_3) (i := 124) (by decide +kernel)))))), rfl⟩
theorem k_605 : (Jvm.Cond.instanceMethod ({ cls := "LittleMix$Memory", name := "holds", desc := "(JI)Z" } : Jvm.MethodName)) ∈ mx_T := List.mem_filter.mpr ⟨List.mem_append_right _ ((List.mem_append_right _ (List.mem_append_right _ (List.mem_append_left _ (List.mem_of_getElem? (l := tables_1_3) (i := 125) (by decide +kernel)))))), rfl⟩
theorem k_606 : (Jvm.Cond.selects "LittleMix$Memory" ({ cls := "LittleMix$Memory", name := "holds", desc := "(JI)Z" } : Jvm.MethodName) ({ cls := "LittleMix$Memory", name := "holds", desc := "(JI)Z" } : Jvm.MethodName)) ∈ mx_T := List.mem_filter.mpr ⟨List.mem_append_right _ ((List.mem_append_right _ (List.mem_append_right _ (List.mem_append_left _ (List.mem_of_getElem? (l := tables_1_3) (i := 126) (by decide +kernel)))))), rfl⟩
theorem k_607 : (Jvm.Cond.code ({ cls := "LittleMix$Memory", name := "holds", desc := "(JI)Z" } : Jvm.MethodName) prog_7_method_2_code (4 : Nat) (Option.some Jvm.ClassFile.FieldType.boolean)) ∈ mx_T := List.mem_filter.mpr ⟨List.mem_append_right _ ((List.mem_append_right _ (List.mem_append_right _ (List.mem_append_left _ (List.mem_of_getElem? (l := tables_1_3) (i := 127) rfl))))), rfl⟩
theorem k_608 : (Jvm.Cond.methodLink "LittleMix$Memory" (17 : Nat) ({ cls := "LittleMix$Memory", name := "shift", desc := "(JI)I" } : Jvm.MethodName)) ∈ mx_T := List.mem_filter.mpr ⟨List.mem_append_right _ ((List.mem_append_right _ (List.mem_append_right _ (List.mem_append_left _ (List.mem_of_getElem? (l := tables_1_3) (i := 128) (by decide +kernel)))))), rfl⟩
theorem k_609 : (Jvm.Cond.static ({ cls := "LittleMix$Memory", name := "shift", desc := "(JI)I" } : Jvm.MethodName)) ∈ mx_T := List.mem_filter.mpr ⟨List.mem_append_right _ ((List.mem_append_right _ (List.mem_append_right _ (List.mem_append_left _ (List.mem_of_getElem? (l := tables_1_3) (i := 129) (by decide +kernel)))))), rfl⟩
theorem k_610 : (Jvm.Cond.code ({ cls := "LittleMix$Memory", name := "shift", desc := "(JI)I" } : Jvm.MethodName) prog_7_method_8_code (3 : Nat) (Option.some Jvm.ClassFile.FieldType.int)) ∈ mx_T := List.mem_filter.mpr ⟨List.mem_append_right _ ((List.mem_append_right _ (List.mem_append_right _ (List.mem_append_left _ (List.mem_of_getElem? (l := tables_1_3) (i := 130) rfl))))), rfl⟩
theorem k_611 : (Jvm.Cond.constantLong "LittleMix$Memory" (37 : Nat) (7 : Int64)) ∈ mx_T := List.mem_filter.mpr ⟨List.mem_append_right _ ((List.mem_append_right _ (List.mem_append_right _ (List.mem_append_left _ (List.mem_of_getElem? (l := tables_1_3) (i := 131) (by decide +kernel)))))), rfl⟩
theorem k_612 : (Jvm.Cond.methodLink "LittleMix$Memory" (21 : Nat) ({ cls := "LittleMix$Memory", name := "mask", desc := "(I)J" } : Jvm.MethodName)) ∈ mx_T := List.mem_filter.mpr ⟨List.mem_append_right _ ((List.mem_append_right _ (List.mem_append_right _ (List.mem_append_left _ (List.mem_of_getElem? (l := tables_1_3) (i := 132) (by decide +kernel)))))), rfl⟩
theorem k_613 : (Jvm.Cond.static ({ cls := "LittleMix$Memory", name := "mask", desc := "(I)J" } : Jvm.MethodName)) ∈ mx_T := List.mem_filter.mpr ⟨List.mem_append_right _ ((List.mem_append_right _ (List.mem_append_right _ (List.mem_append_left _ (List.mem_of_getElem? (l := tables_1_3) (i := 133) (by decide +kernel)))))), rfl⟩
theorem k_614 : (Jvm.Cond.code ({ cls := "LittleMix$Memory", name := "mask", desc := "(I)J" } : Jvm.MethodName) prog_7_method_9_code (1 : Nat) (Option.some Jvm.ClassFile.FieldType.long)) ∈ mx_T := List.mem_filter.mpr ⟨List.mem_append_right _ ((List.mem_append_right _ (List.mem_append_right _ (List.mem_append_left _ (List.mem_of_getElem? (l := tables_1_3) (i := 134) rfl))))), rfl⟩
theorem k_615 : (Jvm.Cond.constantLong "LittleMix$Memory" (25 : Nat) (-1 : Int64)) ∈ mx_T := List.mem_filter.mpr ⟨List.mem_append_right _ ((List.mem_append_right _ (List.mem_append_right _ (List.mem_append_left _ (List.mem_of_getElem? (l := tables_1_3) (i := 135) (by decide +kernel)))))), rfl⟩
theorem k_681 : (Jvm.Cond.methodLink "LittleMix$Assembler" (94 : Nat) ({ cls := "LittleMix$Labels", name := "tell", desc := "([J)I" } : Jvm.MethodName)) ∈ mx_T := List.mem_filter.mpr ⟨List.mem_append_right _ ((List.mem_append_right _ (List.mem_append_right _ (List.mem_append_left _ (List.mem_of_getElem? (l := tables_1_3) (i := 201) (by decide +kernel)))))), rfl⟩
theorem k_682 : (Jvm.Cond.instanceMethod ({ cls := "LittleMix$Labels", name := "tell", desc := "([J)I" } : Jvm.MethodName)) ∈ mx_T := List.mem_filter.mpr ⟨List.mem_append_right _ ((List.mem_append_right _ (List.mem_append_right _ (List.mem_append_left _ (List.mem_of_getElem? (l := tables_1_3) (i := 202) (by decide +kernel)))))), rfl⟩
theorem k_683 : (Jvm.Cond.selects "LittleMix$Labels" ({ cls := "LittleMix$Labels", name := "tell", desc := "([J)I" } : Jvm.MethodName) ({ cls := "LittleMix$Labels", name := "tell", desc := "([J)I" } : Jvm.MethodName)) ∈ mx_T := List.mem_filter.mpr ⟨List.mem_append_right _ ((List.mem_append_right _ (List.mem_append_right _ (List.mem_append_left _ (List.mem_of_getElem? (l := tables_1_3) (i := 203) (by decide +kernel)))))), rfl⟩
theorem k_684 : (Jvm.Cond.code ({ cls := "LittleMix$Labels", name := "tell", desc := "([J)I" } : Jvm.MethodName) prog_4_method_7_code (3 : Nat) (Option.some Jvm.ClassFile.FieldType.int)) ∈ mx_T := List.mem_filter.mpr ⟨List.mem_append_right _ ((List.mem_append_right _ (List.mem_append_right _ (List.mem_append_left _ (List.mem_of_getElem? (l := tables_1_3) (i := 204) rfl))))), rfl⟩
theorem k_686 : (Jvm.Cond.methodLink "LittleMix" (60 : Nat) ({ cls := "LittleMix$Memory", name := "become", desc := "(LLittleMix$Memory;)V" } : Jvm.MethodName)) ∈ mx_T := List.mem_filter.mpr ⟨List.mem_append_right _ ((List.mem_append_right _ (List.mem_append_right _ (List.mem_append_left _ (List.mem_of_getElem? (l := tables_1_3) (i := 206) (by decide +kernel)))))), rfl⟩
theorem k_687 : (Jvm.Cond.instanceMethod ({ cls := "LittleMix$Memory", name := "become", desc := "(LLittleMix$Memory;)V" } : Jvm.MethodName)) ∈ mx_T := List.mem_filter.mpr ⟨List.mem_append_right _ ((List.mem_append_right _ (List.mem_append_right _ (List.mem_append_left _ (List.mem_of_getElem? (l := tables_1_3) (i := 207) (by decide +kernel)))))), rfl⟩
theorem k_688 : (Jvm.Cond.selects "LittleMix$Memory" ({ cls := "LittleMix$Memory", name := "become", desc := "(LLittleMix$Memory;)V" } : Jvm.MethodName) ({ cls := "LittleMix$Memory", name := "become", desc := "(LLittleMix$Memory;)V" } : Jvm.MethodName)) ∈ mx_T := List.mem_filter.mpr ⟨List.mem_append_right _ ((List.mem_append_right _ (List.mem_append_right _ (List.mem_append_left _ (List.mem_of_getElem? (l := tables_1_3) (i := 208) (by decide +kernel)))))), rfl⟩
theorem k_689 : (Jvm.Cond.code ({ cls := "LittleMix$Memory", name := "become", desc := "(LLittleMix$Memory;)V" } : Jvm.MethodName) prog_7_method_7_code (2 : Nat) (Option.none : Option Jvm.ClassFile.FieldType)) ∈ mx_T := List.mem_filter.mpr ⟨List.mem_append_right _ ((List.mem_append_right _ (List.mem_append_right _ (List.mem_append_left _ (List.mem_of_getElem? (l := tables_1_3) (i := 209) rfl))))), rfl⟩
theorem k_690 : (Jvm.Cond.methodLink "LittleMix$Memory" (31 : Nat) ({ cls := "java/lang/System", name := "arraycopy", desc := "(Ljava/lang/Object;ILjava/lang/Object;II)V" } : Jvm.MethodName)) ∈ mx_T := List.mem_filter.mpr ⟨List.mem_append_right _ ((List.mem_append_right _ (List.mem_append_right _ (List.mem_append_left _ (List.mem_of_getElem? (l := tables_1_3) (i := 210) (by decide +kernel)))))), rfl⟩
theorem k_691 : (Jvm.Cond.static ({ cls := "java/lang/System", name := "arraycopy", desc := "(Ljava/lang/Object;ILjava/lang/Object;II)V" } : Jvm.MethodName)) ∈ mx_T := List.mem_filter.mpr ⟨List.mem_append_right _ ((List.mem_append_right _ (List.mem_append_right _ (List.mem_append_left _ (List.mem_of_getElem? (l := tables_1_3) (i := 211) (by decide +kernel)))))), rfl⟩
theorem k_692 : (Jvm.Cond.native ({ cls := "java/lang/System", name := "arraycopy", desc := "(Ljava/lang/Object;ILjava/lang/Object;II)V" } : Jvm.MethodName)) ∈ mx_T := List.mem_filter.mpr ⟨List.mem_append_right _ ((List.mem_append_right _ (List.mem_append_right _ (List.mem_append_left _ (List.mem_of_getElem? (l := tables_1_3) (i := 212) (by decide +kernel)))))), rfl⟩
theorem k_693 : (Jvm.Cond.methodLink "LittleMix" (64 : Nat) ({ cls := "LittleMix$Machine", name := "setBack", desc := "()V" } : Jvm.MethodName)) ∈ mx_T := List.mem_filter.mpr ⟨List.mem_append_right _ ((List.mem_append_right _ (List.mem_append_right _ (List.mem_append_left _ (List.mem_of_getElem? (l := tables_1_3) (i := 213) (by decide +kernel)))))), rfl⟩
theorem k_694 : (Jvm.Cond.instanceMethod ({ cls := "LittleMix$Machine", name := "setBack", desc := "()V" } : Jvm.MethodName)) ∈ mx_T := List.mem_filter.mpr ⟨List.mem_append_right _ ((List.mem_append_right _ (List.mem_append_right _ (List.mem_append_left _ (List.mem_of_getElem? (l := tables_1_3) (i := 214) (by decide +kernel)))))), rfl⟩
theorem k_695 : (Jvm.Cond.selects "LittleMix$Machine" ({ cls := "LittleMix$Machine", name := "setBack", desc := "()V" } : Jvm.MethodName) ({ cls := "LittleMix$Machine", name := "setBack", desc := "()V" } : Jvm.MethodName)) ∈ mx_T := List.mem_filter.mpr ⟨List.mem_append_right _ ((List.mem_append_right _ (List.mem_append_right _ (List.mem_append_left _ (List.mem_of_getElem? (l := tables_1_3) (i := 215) (by decide +kernel)))))), rfl⟩
theorem k_696 : (Jvm.Cond.code ({ cls := "LittleMix$Machine", name := "setBack", desc := "()V" } : Jvm.MethodName) prog_6_method_2_code (1 : Nat) (Option.none : Option Jvm.ClassFile.FieldType)) ∈ mx_T := List.mem_filter.mpr ⟨List.mem_append_right _ ((List.mem_append_right _ (List.mem_append_right _ (List.mem_append_left _ (List.mem_of_getElem? (l := tables_1_3) (i := 216) rfl))))), rfl⟩
theorem k_697 : (Jvm.Cond.methodLink "LittleMix$Machine" (23 : Nat) ({ cls := "LittleMix$Registers", name := "reset", desc := "()V" } : Jvm.MethodName)) ∈ mx_T := List.mem_filter.mpr ⟨List.mem_append_right _ ((List.mem_append_right _ (List.mem_append_right _ (List.mem_append_left _ (List.mem_of_getElem? (l := tables_1_3) (i := 217) (by decide +kernel)))))), rfl⟩
theorem k_698 : (Jvm.Cond.instanceMethod ({ cls := "LittleMix$Registers", name := "reset", desc := "()V" } : Jvm.MethodName)) ∈ mx_T := List.mem_filter.mpr ⟨List.mem_append_right _ ((List.mem_append_right _ (List.mem_append_right _ (List.mem_append_left _ (List.mem_of_getElem? (l := tables_1_3) (i := 218) (by decide +kernel)))))), rfl⟩
theorem k_699 : (Jvm.Cond.selects "LittleMix$Registers" ({ cls := "LittleMix$Registers", name := "reset", desc := "()V" } : Jvm.MethodName) ({ cls := "LittleMix$Registers", name := "reset", desc := "()V" } : Jvm.MethodName)) ∈ mx_T := List.mem_filter.mpr ⟨List.mem_append_right _ ((List.mem_append_right _ (List.mem_append_right _ (List.mem_append_left _ (List.mem_of_getElem? (l := tables_1_3) (i := 219) (by decide +kernel)))))), rfl⟩
theorem k_700 : (Jvm.Cond.code ({ cls := "LittleMix$Registers", name := "reset", desc := "()V" } : Jvm.MethodName) prog_10_method_2_code (2 : Nat) (Option.none : Option Jvm.ClassFile.FieldType)) ∈ mx_T := List.mem_filter.mpr ⟨List.mem_append_right _ ((List.mem_append_right _ (List.mem_append_right _ (List.mem_append_left _ (List.mem_of_getElem? (l := tables_1_3) (i := 220) rfl))))), rfl⟩
theorem k_701 : (Jvm.Cond.methodLink "LittleMix$Registers" (25 : Nat) ({ cls := "LittleMix$Registers", name := "clearFrom", desc := "(II)V" } : Jvm.MethodName)) ∈ mx_T := List.mem_filter.mpr ⟨List.mem_append_right _ ((List.mem_append_right _ (List.mem_append_right _ (List.mem_append_left _ (List.mem_of_getElem? (l := tables_1_3) (i := 221) (by decide +kernel)))))), rfl⟩
theorem k_703 : (Jvm.Cond.instanceMethod ({ cls := "LittleMix$Registers", name := "clearFrom", desc := "(II)V" } : Jvm.MethodName)) ∈ mx_T := List.mem_filter.mpr ⟨List.mem_append_right _ ((List.mem_append_right _ (List.mem_append_right _ (List.mem_append_left _ (List.mem_of_getElem? (l := tables_1_3) (i := 223) (by decide +kernel)))))), rfl⟩
theorem k_704 : (Jvm.Cond.code ({ cls := "LittleMix$Registers", name := "clearFrom", desc := "(II)V" } : Jvm.MethodName) prog_10_method_3_code (4 : Nat) (Option.none : Option Jvm.ClassFile.FieldType)) ∈ mx_T := List.mem_filter.mpr ⟨List.mem_append_right _ ((List.mem_append_right _ (List.mem_append_right _ (List.mem_append_left _ (List.mem_of_getElem? (l := tables_1_3) (i := 224) rfl))))), rfl⟩
theorem k_705 : (Jvm.Cond.methodLink "LittleMixLaw" (23 : Nat) ({ cls := "LittleMix", name := "illAt", desc := "()I" } : Jvm.MethodName)) ∈ mx_T := List.mem_filter.mpr ⟨List.mem_append_right _ ((List.mem_append_right _ (List.mem_append_right _ (List.mem_append_left _ (List.mem_of_getElem? (l := tables_1_3) (i := 225) (by decide +kernel)))))), rfl⟩
theorem k_706 : (Jvm.Cond.instanceMethod ({ cls := "LittleMix", name := "illAt", desc := "()I" } : Jvm.MethodName)) ∈ mx_T := List.mem_filter.mpr ⟨List.mem_append_right _ ((List.mem_append_right _ (List.mem_append_right _ (List.mem_append_left _ (List.mem_of_getElem? (l := tables_1_3) (i := 226) (by decide +kernel)))))), rfl⟩
theorem k_707 : (Jvm.Cond.selects "LittleMix" ({ cls := "LittleMix", name := "illAt", desc := "()I" } : Jvm.MethodName) ({ cls := "LittleMix", name := "illAt", desc := "()I" } : Jvm.MethodName)) ∈ mx_T := List.mem_filter.mpr ⟨List.mem_append_right _ ((List.mem_append_right _ (List.mem_append_right _ (List.mem_append_left _ (List.mem_of_getElem? (l := tables_1_3) (i := 227) (by decide +kernel)))))), rfl⟩
theorem k_708 : (Jvm.Cond.code ({ cls := "LittleMix", name := "illAt", desc := "()I" } : Jvm.MethodName) prog_1_method_5_code (1 : Nat) (Option.some Jvm.ClassFile.FieldType.int)) ∈ mx_T := List.mem_filter.mpr ⟨List.mem_append_right _ ((List.mem_append_right _ (List.mem_append_right _ (List.mem_append_left _ (List.mem_of_getElem? (l := tables_1_3) (i := 228) rfl))))), rfl⟩
theorem k_709 : (Jvm.Cond.methodLink "LittleMixLaw" (28 : Nat) ({ cls := "LittleMix", name := "label", desc := "(I)J" } : Jvm.MethodName)) ∈ mx_T := List.mem_filter.mpr ⟨List.mem_append_right _ ((List.mem_append_right _ (List.mem_append_right _ (List.mem_append_left _ (List.mem_of_getElem? (l := tables_1_3) (i := 229) (by decide +kernel)))))), rfl⟩
theorem k_710 : (Jvm.Cond.instanceMethod ({ cls := "LittleMix", name := "label", desc := "(I)J" } : Jvm.MethodName)) ∈ mx_T := List.mem_filter.mpr ⟨List.mem_append_right _ ((List.mem_append_right _ (List.mem_append_right _ (List.mem_append_left _ (List.mem_of_getElem? (l := tables_1_3) (i := 230) (by decide +kernel)))))), rfl⟩
theorem k_711 : (Jvm.Cond.selects "LittleMix" ({ cls := "LittleMix", name := "label", desc := "(I)J" } : Jvm.MethodName) ({ cls := "LittleMix", name := "label", desc := "(I)J" } : Jvm.MethodName)) ∈ mx_T := List.mem_filter.mpr ⟨List.mem_append_right _ ((List.mem_append_right _ (List.mem_append_right _ (List.mem_append_left _ (List.mem_of_getElem? (l := tables_1_3) (i := 231) (by decide +kernel)))))), rfl⟩
theorem k_712 : (Jvm.Cond.code ({ cls := "LittleMix", name := "label", desc := "(I)J" } : Jvm.MethodName) prog_1_method_6_code (2 : Nat) (Option.some Jvm.ClassFile.FieldType.long)) ∈ mx_T := List.mem_filter.mpr ⟨List.mem_append_right _ ((List.mem_append_right _ (List.mem_append_right _ (List.mem_append_left _ (List.mem_of_getElem? (l := tables_1_3) (i := 232) rfl))))), rfl⟩
theorem k_713 : (Jvm.Cond.methodLink "LittleMix" (70 : Nat) ({ cls := "LittleMix$Assembler", name := "answer", desc := "(I)J" } : Jvm.MethodName)) ∈ mx_T := List.mem_filter.mpr ⟨List.mem_append_right _ ((List.mem_append_right _ (List.mem_append_right _ (List.mem_append_left _ (List.mem_of_getElem? (l := tables_1_3) (i := 233) (by decide +kernel)))))), rfl⟩
theorem k_714 : (Jvm.Cond.instanceMethod ({ cls := "LittleMix$Assembler", name := "answer", desc := "(I)J" } : Jvm.MethodName)) ∈ mx_T := List.mem_filter.mpr ⟨List.mem_append_right _ ((List.mem_append_right _ (List.mem_append_right _ (List.mem_append_left _ (List.mem_of_getElem? (l := tables_1_3) (i := 234) (by decide +kernel)))))), rfl⟩
theorem k_715 : (Jvm.Cond.selects "LittleMix$Assembler" ({ cls := "LittleMix$Assembler", name := "answer", desc := "(I)J" } : Jvm.MethodName) ({ cls := "LittleMix$Assembler", name := "answer", desc := "(I)J" } : Jvm.MethodName)) ∈ mx_T := List.mem_filter.mpr ⟨List.mem_append_right _ ((List.mem_append_right _ (List.mem_append_right _ (List.mem_append_left _ (List.mem_of_getElem? (l := tables_1_3) (i := 235) (by decide +kernel)))))), rfl⟩
theorem k_716 : (Jvm.Cond.code ({ cls := "LittleMix$Assembler", name := "answer", desc := "(I)J" } : Jvm.MethodName) prog_3_method_2_code (2 : Nat) (Option.some Jvm.ClassFile.FieldType.long)) ∈ mx_T := List.mem_filter.mpr ⟨List.mem_append_right _ ((List.mem_append_right _ (List.mem_append_right _ (List.mem_append_left _ (List.mem_of_getElem? (l := tables_1_3) (i := 236) rfl))))), rfl⟩
theorem k_717 : (Jvm.Cond.constantLong "LittleMix$Assembler" (61 : Nat) (-1 : Int64)) ∈ mx_T := List.mem_filter.mpr ⟨List.mem_append_right _ ((List.mem_append_right _ (List.mem_append_right _ (List.mem_append_left _ (List.mem_of_getElem? (l := tables_1_3) (i := 237) (by decide +kernel)))))), rfl⟩
theorem k_718 : (Jvm.Cond.methodLink "LittleMixLaw" (33 : Nat) ({ cls := "LittleMix", name := "byteAt", desc := "(I)I" } : Jvm.MethodName)) ∈ mx_T := List.mem_filter.mpr ⟨List.mem_append_right _ ((List.mem_append_right _ (List.mem_append_right _ (List.mem_append_left _ (List.mem_of_getElem? (l := tables_1_3) (i := 238) (by decide +kernel)))))), rfl⟩
theorem k_719 : (Jvm.Cond.instanceMethod ({ cls := "LittleMix", name := "byteAt", desc := "(I)I" } : Jvm.MethodName)) ∈ mx_T := List.mem_filter.mpr ⟨List.mem_append_right _ ((List.mem_append_right _ (List.mem_append_right _ (List.mem_append_left _ (List.mem_of_getElem? (l := tables_1_3) (i := 239) (by decide +kernel)))))), rfl⟩
theorem k_720 : (Jvm.Cond.selects "LittleMix" ({ cls := "LittleMix", name := "byteAt", desc := "(I)I" } : Jvm.MethodName) ({ cls := "LittleMix", name := "byteAt", desc := "(I)I" } : Jvm.MethodName)) ∈ mx_T := List.mem_filter.mpr ⟨List.mem_append_right _ ((List.mem_append_right _ (List.mem_append_right _ (List.mem_append_right _ (List.mem_append_left _ (List.mem_of_getElem? (l := tables_1_4) (i := 0) (by decide +kernel))))))), rfl⟩
theorem k_721 : (Jvm.Cond.code ({ cls := "LittleMix", name := "byteAt", desc := "(I)I" } : Jvm.MethodName) prog_1_method_7_code (2 : Nat) (Option.some Jvm.ClassFile.FieldType.int)) ∈ mx_T := List.mem_filter.mpr ⟨List.mem_append_right _ ((List.mem_append_right _ (List.mem_append_right _ (List.mem_append_right _ (List.mem_append_left _ (List.mem_of_getElem? (l := tables_1_4) (i := 1) rfl)))))), rfl⟩
theorem k_722 : (Jvm.Cond.methodLink "LittleMix" (74 : Nat) ({ cls := "LittleMix$Memory", name := "holds", desc := "(JI)Z" } : Jvm.MethodName)) ∈ mx_T := List.mem_filter.mpr ⟨List.mem_append_right _ ((List.mem_append_right _ (List.mem_append_right _ (List.mem_append_right _ (List.mem_append_left _ (List.mem_of_getElem? (l := tables_1_4) (i := 2) (by decide +kernel))))))), rfl⟩
theorem k_723 : (Jvm.Cond.methodLink "LittleMix" (78 : Nat) ({ cls := "LittleMix$Memory", name := "read", desc := "(JI)J" } : Jvm.MethodName)) ∈ mx_T := List.mem_filter.mpr ⟨List.mem_append_right _ ((List.mem_append_right _ (List.mem_append_right _ (List.mem_append_right _ (List.mem_append_left _ (List.mem_of_getElem? (l := tables_1_4) (i := 3) (by decide +kernel))))))), rfl⟩
theorem k_724 : (Jvm.Cond.instanceMethod ({ cls := "LittleMix$Memory", name := "read", desc := "(JI)J" } : Jvm.MethodName)) ∈ mx_T := List.mem_filter.mpr ⟨List.mem_append_right _ ((List.mem_append_right _ (List.mem_append_right _ (List.mem_append_right _ (List.mem_append_left _ (List.mem_of_getElem? (l := tables_1_4) (i := 4) (by decide +kernel))))))), rfl⟩
theorem k_725 : (Jvm.Cond.selects "LittleMix$Memory" ({ cls := "LittleMix$Memory", name := "read", desc := "(JI)J" } : Jvm.MethodName) ({ cls := "LittleMix$Memory", name := "read", desc := "(JI)J" } : Jvm.MethodName)) ∈ mx_T := List.mem_filter.mpr ⟨List.mem_append_right _ ((List.mem_append_right _ (List.mem_append_right _ (List.mem_append_right _ (List.mem_append_left _ (List.mem_of_getElem? (l := tables_1_4) (i := 5) (by decide +kernel))))))), rfl⟩
theorem k_726 : (Jvm.Cond.code ({ cls := "LittleMix$Memory", name := "read", desc := "(JI)J" } : Jvm.MethodName) prog_7_method_3_code (4 : Nat) (Option.some Jvm.ClassFile.FieldType.long)) ∈ mx_T := List.mem_filter.mpr ⟨List.mem_append_right _ ((List.mem_append_right _ (List.mem_append_right _ (List.mem_append_right _ (List.mem_append_left _ (List.mem_of_getElem? (l := tables_1_4) (i := 6) rfl)))))), rfl⟩
theorem k_727 : (Jvm.Cond.methodLink "LittleMixLaw" (37 : Nat) ({ cls := "LittleMix", name := "store", desc := "(III)Z" } : Jvm.MethodName)) ∈ mx_T := List.mem_filter.mpr ⟨List.mem_append_right _ ((List.mem_append_right _ (List.mem_append_right _ (List.mem_append_right _ (List.mem_append_left _ (List.mem_of_getElem? (l := tables_1_4) (i := 7) (by decide +kernel))))))), rfl⟩
theorem k_728 : (Jvm.Cond.instanceMethod ({ cls := "LittleMix", name := "store", desc := "(III)Z" } : Jvm.MethodName)) ∈ mx_T := List.mem_filter.mpr ⟨List.mem_append_right _ ((List.mem_append_right _ (List.mem_append_right _ (List.mem_append_right _ (List.mem_append_left _ (List.mem_of_getElem? (l := tables_1_4) (i := 8) (by decide +kernel))))))), rfl⟩
theorem k_729 : (Jvm.Cond.selects "LittleMix" ({ cls := "LittleMix", name := "store", desc := "(III)Z" } : Jvm.MethodName) ({ cls := "LittleMix", name := "store", desc := "(III)Z" } : Jvm.MethodName)) ∈ mx_T := List.mem_filter.mpr ⟨List.mem_append_right _ ((List.mem_append_right _ (List.mem_append_right _ (List.mem_append_right _ (List.mem_append_left _ (List.mem_of_getElem? (l := tables_1_4) (i := 9) (by decide +kernel))))))), rfl⟩
theorem k_730 : (Jvm.Cond.code ({ cls := "LittleMix", name := "store", desc := "(III)Z" } : Jvm.MethodName) prog_1_method_8_code (4 : Nat) (Option.some Jvm.ClassFile.FieldType.boolean)) ∈ mx_T := List.mem_filter.mpr ⟨List.mem_append_right _ ((List.mem_append_right _ (List.mem_append_right _ (List.mem_append_right _ (List.mem_append_left _ (List.mem_of_getElem? (l := tables_1_4) (i := 10) rfl)))))), rfl⟩
theorem k_731 : (Jvm.Cond.constantLong "LittleMix" (82 : Nat) (4294967295 : Int64)) ∈ mx_T := List.mem_filter.mpr ⟨List.mem_append_right _ ((List.mem_append_right _ (List.mem_append_right _ (List.mem_append_right _ (List.mem_append_left _ (List.mem_of_getElem? (l := tables_1_4) (i := 11) (by decide +kernel))))))), rfl⟩
theorem k_732 : (Jvm.Cond.methodLink "LittleMix" (84 : Nat) ({ cls := "LittleMix$Memory", name := "write", desc := "(JIJ)V" } : Jvm.MethodName)) ∈ mx_T := List.mem_filter.mpr ⟨List.mem_append_right _ ((List.mem_append_right _ (List.mem_append_right _ (List.mem_append_right _ (List.mem_append_left _ (List.mem_of_getElem? (l := tables_1_4) (i := 12) (by decide +kernel))))))), rfl⟩
theorem k_733 : (Jvm.Cond.methodLink "LittleMixLaw" (42 : Nat) ({ cls := "LittleMix", name := "back", desc := "()V" } : Jvm.MethodName)) ∈ mx_T := List.mem_filter.mpr ⟨List.mem_append_right _ ((List.mem_append_right _ (List.mem_append_right _ (List.mem_append_right _ (List.mem_append_left _ (List.mem_of_getElem? (l := tables_1_4) (i := 13) (by decide +kernel))))))), rfl⟩
theorem k_734 : (Jvm.Cond.instanceMethod ({ cls := "LittleMix", name := "back", desc := "()V" } : Jvm.MethodName)) ∈ mx_T := List.mem_filter.mpr ⟨List.mem_append_right _ ((List.mem_append_right _ (List.mem_append_right _ (List.mem_append_right _ (List.mem_append_left _ (List.mem_of_getElem? (l := tables_1_4) (i := 14) (by decide +kernel))))))), rfl⟩
theorem k_735 : (Jvm.Cond.selects "LittleMix" ({ cls := "LittleMix", name := "back", desc := "()V" } : Jvm.MethodName) ({ cls := "LittleMix", name := "back", desc := "()V" } : Jvm.MethodName)) ∈ mx_T := List.mem_filter.mpr ⟨List.mem_append_right _ ((List.mem_append_right _ (List.mem_append_right _ (List.mem_append_right _ (List.mem_append_left _ (List.mem_of_getElem? (l := tables_1_4) (i := 15) (by decide +kernel))))))), rfl⟩
theorem k_736 : (Jvm.Cond.code ({ cls := "LittleMix", name := "back", desc := "()V" } : Jvm.MethodName) prog_1_method_9_code (1 : Nat) (Option.none : Option Jvm.ClassFile.FieldType)) ∈ mx_T := List.mem_filter.mpr ⟨List.mem_append_right _ ((List.mem_append_right _ (List.mem_append_right _ (List.mem_append_right _ (List.mem_append_left _ (List.mem_of_getElem? (l := tables_1_4) (i := 16) rfl)))))), rfl⟩
theorem k_737 : (Jvm.Cond.methodLink "LittleMixLaw" (46 : Nat) ({ cls := "LittleMix", name := "run", desc := "(I)I" } : Jvm.MethodName)) ∈ mx_T := List.mem_filter.mpr ⟨List.mem_append_right _ ((List.mem_append_right _ (List.mem_append_right _ (List.mem_append_right _ (List.mem_append_left _ (List.mem_of_getElem? (l := tables_1_4) (i := 17) (by decide +kernel))))))), rfl⟩
theorem k_738 : (Jvm.Cond.instanceMethod ({ cls := "LittleMix", name := "run", desc := "(I)I" } : Jvm.MethodName)) ∈ mx_T := List.mem_filter.mpr ⟨List.mem_append_right _ ((List.mem_append_right _ (List.mem_append_right _ (List.mem_append_right _ (List.mem_append_left _ (List.mem_of_getElem? (l := tables_1_4) (i := 18) (by decide +kernel))))))), rfl⟩
theorem k_739 : (Jvm.Cond.selects "LittleMix" ({ cls := "LittleMix", name := "run", desc := "(I)I" } : Jvm.MethodName) ({ cls := "LittleMix", name := "run", desc := "(I)I" } : Jvm.MethodName)) ∈ mx_T := List.mem_filter.mpr ⟨List.mem_append_right _ ((List.mem_append_right _ (List.mem_append_right _ (List.mem_append_right _ (List.mem_append_left _ (List.mem_of_getElem? (l := tables_1_4) (i := 19) (by decide +kernel))))))), rfl⟩
theorem k_740 : (Jvm.Cond.code ({ cls := "LittleMix", name := "run", desc := "(I)I" } : Jvm.MethodName) prog_1_method_10_code (2 : Nat) (Option.some Jvm.ClassFile.FieldType.int)) ∈ mx_T := List.mem_filter.mpr ⟨List.mem_append_right _ ((List.mem_append_right _ (List.mem_append_right _ (List.mem_append_right _ (List.mem_append_left _ (List.mem_of_getElem? (l := tables_1_4) (i := 20) rfl)))))), rfl⟩
theorem k_741 : (Jvm.Cond.methodLink "LittleMix" (88 : Nat) ({ cls := "LittleMix$Machine", name := "go", desc := "(I)I" } : Jvm.MethodName)) ∈ mx_T := List.mem_filter.mpr ⟨List.mem_append_right _ ((List.mem_append_right _ (List.mem_append_right _ (List.mem_append_right _ (List.mem_append_left _ (List.mem_of_getElem? (l := tables_1_4) (i := 21) (by decide +kernel))))))), rfl⟩
theorem k_742 : (Jvm.Cond.instanceMethod ({ cls := "LittleMix$Machine", name := "go", desc := "(I)I" } : Jvm.MethodName)) ∈ mx_T := List.mem_filter.mpr ⟨List.mem_append_right _ ((List.mem_append_right _ (List.mem_append_right _ (List.mem_append_right _ (List.mem_append_left _ (List.mem_of_getElem? (l := tables_1_4) (i := 22) (by decide +kernel))))))), rfl⟩
theorem k_743 : (Jvm.Cond.selects "LittleMix$Machine" ({ cls := "LittleMix$Machine", name := "go", desc := "(I)I" } : Jvm.MethodName) ({ cls := "LittleMix$Machine", name := "go", desc := "(I)I" } : Jvm.MethodName)) ∈ mx_T := List.mem_filter.mpr ⟨List.mem_append_right _ ((List.mem_append_right _ (List.mem_append_right _ (List.mem_append_right _ (List.mem_append_left _ (List.mem_of_getElem? (l := tables_1_4) (i := 23) (by decide +kernel))))))), rfl⟩
theorem k_744 : (Jvm.Cond.code ({ cls := "LittleMix$Machine", name := "go", desc := "(I)I" } : Jvm.MethodName) prog_6_method_3_code (4 : Nat) (Option.some Jvm.ClassFile.FieldType.int)) ∈ mx_T := List.mem_filter.mpr ⟨List.mem_append_right _ ((List.mem_append_right _ (List.mem_append_right _ (List.mem_append_right _ (List.mem_append_left _ (List.mem_of_getElem? (l := tables_1_4) (i := 24) rfl)))))), rfl⟩
theorem k_745 : (Jvm.Cond.methodLink "LittleMix$Machine" (38 : Nat) ({ cls := "LittleMix$Machine", name := "step", desc := "()V" } : Jvm.MethodName)) ∈ mx_T := List.mem_filter.mpr ⟨List.mem_append_right _ ((List.mem_append_right _ (List.mem_append_right _ (List.mem_append_right _ (List.mem_append_left _ (List.mem_of_getElem? (l := tables_1_4) (i := 25) (by decide +kernel))))))), rfl⟩
theorem k_747 : (Jvm.Cond.instanceMethod ({ cls := "LittleMix$Machine", name := "step", desc := "()V" } : Jvm.MethodName)) ∈ mx_T := List.mem_filter.mpr ⟨List.mem_append_right _ ((List.mem_append_right _ (List.mem_append_right _ (List.mem_append_right _ (List.mem_append_left _ (List.mem_of_getElem? (l := tables_1_4) (i := 27) (by decide +kernel))))))), rfl⟩
theorem k_748 : (Jvm.Cond.code ({ cls := "LittleMix$Machine", name := "step", desc := "()V" } : Jvm.MethodName) prog_6_method_4_code (1 : Nat) (Option.none : Option Jvm.ClassFile.FieldType)) ∈ mx_T := List.mem_filter.mpr ⟨List.mem_append_right _ ((List.mem_append_right _ (List.mem_append_right _ (List.mem_append_right _ (List.mem_append_left _ (List.mem_of_getElem? (l := tables_1_4) (i := 28) rfl)))))), rfl⟩
theorem k_749 : (Jvm.Cond.methodLink "LittleMix$Machine" (41 : Nat) ({ cls := "LittleMix$Memory", name := "holds", desc := "(JI)Z" } : Jvm.MethodName)) ∈ mx_T := List.mem_filter.mpr ⟨List.mem_append_right _ ((List.mem_append_right _ (List.mem_append_right _ (List.mem_append_right _ (List.mem_append_left _ (List.mem_of_getElem? (l := tables_1_4) (i := 29) (by decide +kernel))))))), rfl⟩
theorem k_750 : (Jvm.Cond.methodLink "LittleMix$Machine" (47 : Nat) ({ cls := "LittleMix$Machine", name := "decode", desc := "()V" } : Jvm.MethodName)) ∈ mx_T := List.mem_filter.mpr ⟨List.mem_append_right _ ((List.mem_append_right _ (List.mem_append_right _ (List.mem_append_right _ (List.mem_append_left _ (List.mem_of_getElem? (l := tables_1_4) (i := 30) (by decide +kernel))))))), rfl⟩
theorem k_752 : (Jvm.Cond.instanceMethod ({ cls := "LittleMix$Machine", name := "decode", desc := "()V" } : Jvm.MethodName)) ∈ mx_T := List.mem_filter.mpr ⟨List.mem_append_right _ ((List.mem_append_right _ (List.mem_append_right _ (List.mem_append_right _ (List.mem_append_left _ (List.mem_of_getElem? (l := tables_1_4) (i := 32) (by decide +kernel))))))), rfl⟩
theorem k_753 : (Jvm.Cond.code ({ cls := "LittleMix$Machine", name := "decode", desc := "()V" } : Jvm.MethodName) prog_6_method_5_code (1 : Nat) (Option.none : Option Jvm.ClassFile.FieldType)) ∈ mx_T := List.mem_filter.mpr ⟨List.mem_append_right _ ((List.mem_append_right _ (List.mem_append_right _ (List.mem_append_right _ (List.mem_append_left _ (List.mem_of_getElem? (l := tables_1_4) (i := 33) rfl)))))), rfl⟩
theorem k_754 : (Jvm.Cond.methodLink "LittleMix$Machine" (66 : Nat) ({ cls := "LittleMix$Memory", name := "instruction", desc := "(J)I" } : Jvm.MethodName)) ∈ mx_T := List.mem_filter.mpr ⟨List.mem_append_right _ ((List.mem_append_right _ (List.mem_append_right _ (List.mem_append_right _ (List.mem_append_left _ (List.mem_of_getElem? (l := tables_1_4) (i := 34) (by decide +kernel))))))), rfl⟩
theorem k_755 : (Jvm.Cond.instanceMethod ({ cls := "LittleMix$Memory", name := "instruction", desc := "(J)I" } : Jvm.MethodName)) ∈ mx_T := List.mem_filter.mpr ⟨List.mem_append_right _ ((List.mem_append_right _ (List.mem_append_right _ (List.mem_append_right _ (List.mem_append_left _ (List.mem_of_getElem? (l := tables_1_4) (i := 35) (by decide +kernel))))))), rfl⟩
theorem k_756 : (Jvm.Cond.selects "LittleMix$Memory" ({ cls := "LittleMix$Memory", name := "instruction", desc := "(J)I" } : Jvm.MethodName) ({ cls := "LittleMix$Memory", name := "instruction", desc := "(J)I" } : Jvm.MethodName)) ∈ mx_T := List.mem_filter.mpr ⟨List.mem_append_right _ ((List.mem_append_right _ (List.mem_append_right _ (List.mem_append_right _ (List.mem_append_left _ (List.mem_of_getElem? (l := tables_1_4) (i := 36) (by decide +kernel))))))), rfl⟩
theorem k_757 : (Jvm.Cond.code ({ cls := "LittleMix$Memory", name := "instruction", desc := "(J)I" } : Jvm.MethodName) prog_7_method_5_code (5 : Nat) (Option.some Jvm.ClassFile.FieldType.int)) ∈ mx_T := List.mem_filter.mpr ⟨List.mem_append_right _ ((List.mem_append_right _ (List.mem_append_right _ (List.mem_append_right _ (List.mem_append_left _ (List.mem_of_getElem? (l := tables_1_4) (i := 37) rfl)))))), rfl⟩
theorem k_758 : (Jvm.Cond.methodLink "LittleMix$Memory" (27 : Nat) ({ cls := "LittleMix$Memory", name := "read", desc := "(JI)J" } : Jvm.MethodName)) ∈ mx_T := List.mem_filter.mpr ⟨List.mem_append_right _ ((List.mem_append_right _ (List.mem_append_right _ (List.mem_append_right _ (List.mem_append_left _ (List.mem_of_getElem? (l := tables_1_4) (i := 38) (by decide +kernel))))))), rfl⟩
theorem k_759 : (Jvm.Cond.methodLink "LittleMix$Machine" (85 : Nat) ({ cls := "LittleMix$Registers", name := "read", desc := "(I)J" } : Jvm.MethodName)) ∈ mx_T := List.mem_filter.mpr ⟨List.mem_append_right _ ((List.mem_append_right _ (List.mem_append_right _ (List.mem_append_right _ (List.mem_append_left _ (List.mem_of_getElem? (l := tables_1_4) (i := 39) (by decide +kernel))))))), rfl⟩
theorem k_760 : (Jvm.Cond.instanceMethod ({ cls := "LittleMix$Registers", name := "read", desc := "(I)J" } : Jvm.MethodName)) ∈ mx_T := List.mem_filter.mpr ⟨List.mem_append_right _ ((List.mem_append_right _ (List.mem_append_right _ (List.mem_append_right _ (List.mem_append_left _ (List.mem_of_getElem? (l := tables_1_4) (i := 40) (by decide +kernel))))))), rfl⟩
theorem k_761 : (Jvm.Cond.selects "LittleMix$Registers" ({ cls := "LittleMix$Registers", name := "read", desc := "(I)J" } : Jvm.MethodName) ({ cls := "LittleMix$Registers", name := "read", desc := "(I)J" } : Jvm.MethodName)) ∈ mx_T := List.mem_filter.mpr ⟨List.mem_append_right _ ((List.mem_append_right _ (List.mem_append_right _ (List.mem_append_right _ (List.mem_append_left _ (List.mem_of_getElem? (l := tables_1_4) (i := 41) (by decide +kernel))))))), rfl⟩
theorem k_762 : (Jvm.Cond.code ({ cls := "LittleMix$Registers", name := "read", desc := "(I)J" } : Jvm.MethodName) prog_10_method_4_code (2 : Nat) (Option.some Jvm.ClassFile.FieldType.long)) ∈ mx_T := List.mem_filter.mpr ⟨List.mem_append_right _ ((List.mem_append_right _ (List.mem_append_right _ (List.mem_append_right _ (List.mem_append_left _ (List.mem_of_getElem? (l := tables_1_4) (i := 42) rfl)))))), rfl⟩
theorem k_763 : (Jvm.Cond.constantLong "LittleMix$Machine" (95 : Nat) (4 : Int64)) ∈ mx_T := List.mem_filter.mpr ⟨List.mem_append_right _ ((List.mem_append_right _ (List.mem_append_right _ (List.mem_append_right _ (List.mem_append_left _ (List.mem_of_getElem? (l := tables_1_4) (i := 43) (by decide +kernel))))))), rfl⟩
theorem k_764 : (Jvm.Cond.methodLink "LittleMix$Machine" (50 : Nat) ({ cls := "LittleMix$Machine", name := "execute", desc := "()I" } : Jvm.MethodName)) ∈ mx_T := List.mem_filter.mpr ⟨List.mem_append_right _ ((List.mem_append_right _ (List.mem_append_right _ (List.mem_append_right _ (List.mem_append_left _ (List.mem_of_getElem? (l := tables_1_4) (i := 44) (by decide +kernel))))))), rfl⟩
theorem k_766 : (Jvm.Cond.instanceMethod ({ cls := "LittleMix$Machine", name := "execute", desc := "()I" } : Jvm.MethodName)) ∈ mx_T := List.mem_filter.mpr ⟨List.mem_append_right _ ((List.mem_append_right _ (List.mem_append_right _ (List.mem_append_right _ (List.mem_append_left _ (List.mem_of_getElem? (l := tables_1_4) (i := 46) (by decide +kernel))))))), rfl⟩
theorem k_767 : (Jvm.Cond.code ({ cls := "LittleMix$Machine", name := "execute", desc := "()I" } : Jvm.MethodName) prog_6_method_8_code (1 : Nat) (Option.some Jvm.ClassFile.FieldType.int)) ∈ mx_T := List.mem_filter.mpr ⟨List.mem_append_right _ ((List.mem_append_right _ (List.mem_append_right _ (List.mem_append_right _ (List.mem_append_left _ (List.mem_of_getElem? (l := tables_1_4) (i := 47) rfl)))))), rfl⟩
theorem k_839 : (Jvm.Cond.instanceMethod ({ cls := "LittleMix$Registers", name := "get", desc := "(I)J" } : Jvm.MethodName)) ∈ mx_T := List.mem_filter.mpr ⟨List.mem_append_right _ ((List.mem_append_right _ (List.mem_append_right _ (List.mem_append_right _ (List.mem_append_left _ (List.mem_of_getElem? (l := tables_1_4) (i := 119) (by decide +kernel))))))), rfl⟩
theorem k_840 : (Jvm.Cond.selects "LittleMix$Registers" ({ cls := "LittleMix$Registers", name := "get", desc := "(I)J" } : Jvm.MethodName) ({ cls := "LittleMix$Registers", name := "get", desc := "(I)J" } : Jvm.MethodName)) ∈ mx_T := List.mem_filter.mpr ⟨List.mem_append_right _ ((List.mem_append_right _ (List.mem_append_right _ (List.mem_append_right _ (List.mem_append_left _ (List.mem_of_getElem? (l := tables_1_4) (i := 120) (by decide +kernel))))))), rfl⟩
theorem k_841 : (Jvm.Cond.code ({ cls := "LittleMix$Registers", name := "get", desc := "(I)J" } : Jvm.MethodName) prog_10_method_6_code (2 : Nat) (Option.some Jvm.ClassFile.FieldType.long)) ∈ mx_T := List.mem_filter.mpr ⟨List.mem_append_right _ ((List.mem_append_right _ (List.mem_append_right _ (List.mem_append_right _ (List.mem_append_left _ (List.mem_of_getElem? (l := tables_1_4) (i := 121) rfl)))))), rfl⟩
theorem k_945 : (Jvm.Cond.methodLink "LittleMixLaw" (50 : Nat) ({ cls := "LittleMix", name := "stopped", desc := "()I" } : Jvm.MethodName)) ∈ mx_T := List.mem_filter.mpr ⟨List.mem_append_right _ ((List.mem_append_right _ (List.mem_append_right _ (List.mem_append_right _ (List.mem_append_left _ (List.mem_of_getElem? (l := tables_1_4) (i := 225) (by decide +kernel))))))), rfl⟩
theorem k_946 : (Jvm.Cond.instanceMethod ({ cls := "LittleMix", name := "stopped", desc := "()I" } : Jvm.MethodName)) ∈ mx_T := List.mem_filter.mpr ⟨List.mem_append_right _ ((List.mem_append_right _ (List.mem_append_right _ (List.mem_append_right _ (List.mem_append_left _ (List.mem_of_getElem? (l := tables_1_4) (i := 226) (by decide +kernel))))))), rfl⟩
theorem k_947 : (Jvm.Cond.selects "LittleMix" ({ cls := "LittleMix", name := "stopped", desc := "()I" } : Jvm.MethodName) ({ cls := "LittleMix", name := "stopped", desc := "()I" } : Jvm.MethodName)) ∈ mx_T := List.mem_filter.mpr ⟨List.mem_append_right _ ((List.mem_append_right _ (List.mem_append_right _ (List.mem_append_right _ (List.mem_append_left _ (List.mem_of_getElem? (l := tables_1_4) (i := 227) (by decide +kernel))))))), rfl⟩
theorem k_948 : (Jvm.Cond.code ({ cls := "LittleMix", name := "stopped", desc := "()I" } : Jvm.MethodName) prog_1_method_11_code (1 : Nat) (Option.some Jvm.ClassFile.FieldType.int)) ∈ mx_T := List.mem_filter.mpr ⟨List.mem_append_right _ ((List.mem_append_right _ (List.mem_append_right _ (List.mem_append_right _ (List.mem_append_left _ (List.mem_of_getElem? (l := tables_1_4) (i := 228) rfl)))))), rfl⟩
theorem k_949 : (Jvm.Cond.methodLink "LittleMixLaw" (54 : Nat) ({ cls := "LittleMix", name := "register", desc := "(I)J" } : Jvm.MethodName)) ∈ mx_T := List.mem_filter.mpr ⟨List.mem_append_right _ ((List.mem_append_right _ (List.mem_append_right _ (List.mem_append_right _ (List.mem_append_left _ (List.mem_of_getElem? (l := tables_1_4) (i := 229) (by decide +kernel))))))), rfl⟩
theorem k_950 : (Jvm.Cond.instanceMethod ({ cls := "LittleMix", name := "register", desc := "(I)J" } : Jvm.MethodName)) ∈ mx_T := List.mem_filter.mpr ⟨List.mem_append_right _ ((List.mem_append_right _ (List.mem_append_right _ (List.mem_append_right _ (List.mem_append_left _ (List.mem_of_getElem? (l := tables_1_4) (i := 230) (by decide +kernel))))))), rfl⟩
theorem k_951 : (Jvm.Cond.selects "LittleMix" ({ cls := "LittleMix", name := "register", desc := "(I)J" } : Jvm.MethodName) ({ cls := "LittleMix", name := "register", desc := "(I)J" } : Jvm.MethodName)) ∈ mx_T := List.mem_filter.mpr ⟨List.mem_append_right _ ((List.mem_append_right _ (List.mem_append_right _ (List.mem_append_right _ (List.mem_append_left _ (List.mem_of_getElem? (l := tables_1_4) (i := 231) (by decide +kernel))))))), rfl⟩
theorem k_952 : (Jvm.Cond.code ({ cls := "LittleMix", name := "register", desc := "(I)J" } : Jvm.MethodName) prog_1_method_12_code (2 : Nat) (Option.some Jvm.ClassFile.FieldType.long)) ∈ mx_T := List.mem_filter.mpr ⟨List.mem_append_right _ ((List.mem_append_right _ (List.mem_append_right _ (List.mem_append_right _ (List.mem_append_left _ (List.mem_of_getElem? (l := tables_1_4) (i := 232) rfl)))))), rfl⟩
theorem k_953 : (Jvm.Cond.methodLink "LittleMix" (95 : Nat) ({ cls := "LittleMix$Registers", name := "read", desc := "(I)J" } : Jvm.MethodName)) ∈ mx_T := List.mem_filter.mpr ⟨List.mem_append_right _ ((List.mem_append_right _ (List.mem_append_right _ (List.mem_append_right _ (List.mem_append_left _ (List.mem_of_getElem? (l := tables_1_4) (i := 233) (by decide +kernel))))))), rfl⟩
theorem k_954 : (Jvm.Cond.methodLink "LittleMixLaw" (58 : Nat) ({ cls := "LittleMix", name := "special", desc := "(I)J" } : Jvm.MethodName)) ∈ mx_T := List.mem_filter.mpr ⟨List.mem_append_right _ ((List.mem_append_right _ (List.mem_append_right _ (List.mem_append_right _ (List.mem_append_left _ (List.mem_of_getElem? (l := tables_1_4) (i := 234) (by decide +kernel))))))), rfl⟩
theorem k_955 : (Jvm.Cond.instanceMethod ({ cls := "LittleMix", name := "special", desc := "(I)J" } : Jvm.MethodName)) ∈ mx_T := List.mem_filter.mpr ⟨List.mem_append_right _ ((List.mem_append_right _ (List.mem_append_right _ (List.mem_append_right _ (List.mem_append_left _ (List.mem_of_getElem? (l := tables_1_4) (i := 235) (by decide +kernel))))))), rfl⟩
theorem k_956 : (Jvm.Cond.selects "LittleMix" ({ cls := "LittleMix", name := "special", desc := "(I)J" } : Jvm.MethodName) ({ cls := "LittleMix", name := "special", desc := "(I)J" } : Jvm.MethodName)) ∈ mx_T := List.mem_filter.mpr ⟨List.mem_append_right _ ((List.mem_append_right _ (List.mem_append_right _ (List.mem_append_right _ (List.mem_append_left _ (List.mem_of_getElem? (l := tables_1_4) (i := 236) (by decide +kernel))))))), rfl⟩
theorem k_957 : (Jvm.Cond.code ({ cls := "LittleMix", name := "special", desc := "(I)J" } : Jvm.MethodName) prog_1_method_13_code (2 : Nat) (Option.some Jvm.ClassFile.FieldType.long)) ∈ mx_T := List.mem_filter.mpr ⟨List.mem_append_right _ ((List.mem_append_right _ (List.mem_append_right _ (List.mem_append_right _ (List.mem_append_left _ (List.mem_of_getElem? (l := tables_1_4) (i := 237) rfl)))))), rfl⟩
theorem k_958 : (Jvm.Cond.methodLink "LittleMix" (97 : Nat) ({ cls := "LittleMix$Registers", name := "get", desc := "(I)J" } : Jvm.MethodName)) ∈ mx_T := List.mem_filter.mpr ⟨List.mem_append_right _ ((List.mem_append_right _ (List.mem_append_right _ (List.mem_append_right _ (List.mem_append_left _ (List.mem_of_getElem? (l := tables_1_4) (i := 238) (by decide +kernel))))))), rfl⟩
theorem k_959 : (Jvm.Cond.methodLink "LittleMixLaw" (62 : Nat) ({ cls := "LittleMix", name := "place", desc := "()J" } : Jvm.MethodName)) ∈ mx_T := List.mem_filter.mpr ⟨List.mem_append_right _ ((List.mem_append_right _ (List.mem_append_right _ (List.mem_append_right _ (List.mem_append_left _ (List.mem_of_getElem? (l := tables_1_4) (i := 239) (by decide +kernel))))))), rfl⟩
theorem k_960 : (Jvm.Cond.instanceMethod ({ cls := "LittleMix", name := "place", desc := "()J" } : Jvm.MethodName)) ∈ mx_T := List.mem_filter.mpr ⟨List.mem_append_right _ ((List.mem_append_right _ (List.mem_append_right _ (List.mem_append_right _ (List.mem_append_right _ (List.mem_append_left _ (List.mem_of_getElem? (l := tables_1_5) (i := 0) (by decide +kernel)))))))), rfl⟩
theorem k_961 : (Jvm.Cond.selects "LittleMix" ({ cls := "LittleMix", name := "place", desc := "()J" } : Jvm.MethodName) ({ cls := "LittleMix", name := "place", desc := "()J" } : Jvm.MethodName)) ∈ mx_T := List.mem_filter.mpr ⟨List.mem_append_right _ ((List.mem_append_right _ (List.mem_append_right _ (List.mem_append_right _ (List.mem_append_right _ (List.mem_append_left _ (List.mem_of_getElem? (l := tables_1_5) (i := 1) (by decide +kernel)))))))), rfl⟩
theorem k_962 : (Jvm.Cond.code ({ cls := "LittleMix", name := "place", desc := "()J" } : Jvm.MethodName) prog_1_method_14_code (1 : Nat) (Option.some Jvm.ClassFile.FieldType.long)) ∈ mx_T := List.mem_filter.mpr ⟨List.mem_append_right _ ((List.mem_append_right _ (List.mem_append_right _ (List.mem_append_right _ (List.mem_append_right _ (List.mem_append_left _ (List.mem_of_getElem? (l := tables_1_5) (i := 2) rfl))))))), rfl⟩
theorem k_963 : (Jvm.Cond.methodLink "LittleMixLaw" (67 : Nat) ({ cls := "LittleMix", name := "taken", desc := "(I)I" } : Jvm.MethodName)) ∈ mx_T := List.mem_filter.mpr ⟨List.mem_append_right _ ((List.mem_append_right _ (List.mem_append_right _ (List.mem_append_right _ (List.mem_append_right _ (List.mem_append_left _ (List.mem_of_getElem? (l := tables_1_5) (i := 3) (by decide +kernel)))))))), rfl⟩
theorem k_964 : (Jvm.Cond.instanceMethod ({ cls := "LittleMix", name := "taken", desc := "(I)I" } : Jvm.MethodName)) ∈ mx_T := List.mem_filter.mpr ⟨List.mem_append_right _ ((List.mem_append_right _ (List.mem_append_right _ (List.mem_append_right _ (List.mem_append_right _ (List.mem_append_left _ (List.mem_of_getElem? (l := tables_1_5) (i := 4) (by decide +kernel)))))))), rfl⟩
theorem k_965 : (Jvm.Cond.selects "LittleMix" ({ cls := "LittleMix", name := "taken", desc := "(I)I" } : Jvm.MethodName) ({ cls := "LittleMix", name := "taken", desc := "(I)I" } : Jvm.MethodName)) ∈ mx_T := List.mem_filter.mpr ⟨List.mem_append_right _ ((List.mem_append_right _ (List.mem_append_right _ (List.mem_append_right _ (List.mem_append_right _ (List.mem_append_left _ (List.mem_of_getElem? (l := tables_1_5) (i := 5) (by decide +kernel)))))))), rfl⟩
theorem k_966 : (Jvm.Cond.code ({ cls := "LittleMix", name := "taken", desc := "(I)I" } : Jvm.MethodName) prog_1_method_15_code (2 : Nat) (Option.some Jvm.ClassFile.FieldType.int)) ∈ mx_T := List.mem_filter.mpr ⟨List.mem_append_right _ ((List.mem_append_right _ (List.mem_append_right _ (List.mem_append_right _ (List.mem_append_right _ (List.mem_append_left _ (List.mem_of_getElem? (l := tables_1_5) (i := 6) rfl))))))), rfl⟩
theorem k_967 : (Jvm.Cond.classLink "LittleMixLaw" (10 : Nat) "LittleMixModel") ∈ mx_T := List.mem_filter.mpr ⟨List.mem_append_right _ ((List.mem_append_right _ (List.mem_append_right _ (List.mem_append_right _ (List.mem_append_right _ (List.mem_append_left _ (List.mem_of_getElem? (l := tables_1_5) (i := 7) (by decide +kernel)))))))), rfl⟩
theorem k_968 : (Jvm.Cond.instantiable "LittleMixModel" (44 : Nat)) ∈ mx_T := List.mem_filter.mpr ⟨List.mem_append_right _ ((List.mem_append_right _ (List.mem_append_right _ (List.mem_append_right _ (List.mem_append_right _ (List.mem_append_left _ (List.mem_of_getElem? (l := tables_1_5) (i := 8) (by decide +kernel)))))))), rfl⟩
theorem k_969 : (Jvm.Cond.methodLink "LittleMixLaw" (12 : Nat) ({ cls := "LittleMixModel", name := "<init>", desc := "()V" } : Jvm.MethodName)) ∈ mx_T := List.mem_filter.mpr ⟨List.mem_append_right _ ((List.mem_append_right _ (List.mem_append_right _ (List.mem_append_right _ (List.mem_append_right _ (List.mem_append_left _ (List.mem_of_getElem? (l := tables_1_5) (i := 9) (by decide +kernel)))))))), rfl⟩
theorem k_970 : (Jvm.Cond.instanceMethod ({ cls := "LittleMixModel", name := "<init>", desc := "()V" } : Jvm.MethodName)) ∈ mx_T := List.mem_filter.mpr ⟨List.mem_append_right _ ((List.mem_append_right _ (List.mem_append_right _ (List.mem_append_right _ (List.mem_append_right _ (List.mem_append_left _ (List.mem_of_getElem? (l := tables_1_5) (i := 10) (by decide +kernel)))))))), rfl⟩
theorem k_971 : (Jvm.Cond.code ({ cls := "LittleMixModel", name := "<init>", desc := "()V" } : Jvm.MethodName) prog_14_method_1_code (1 : Nat) (Option.none : Option Jvm.ClassFile.FieldType)) ∈ mx_T := List.mem_filter.mpr ⟨List.mem_append_right _ ((List.mem_append_right _ (List.mem_append_right _ (List.mem_append_right _ (List.mem_append_right _ (List.mem_append_left _ (List.mem_of_getElem? (l := tables_1_5) (i := 11) rfl))))))), rfl⟩
theorem k_972 : (Jvm.Cond.methodLink "LittleMixModel" (1 : Nat) ({ cls := "java/lang/Object", name := "<init>", desc := "()V" } : Jvm.MethodName)) ∈ mx_T := List.mem_filter.mpr ⟨List.mem_append_right _ ((List.mem_append_right _ (List.mem_append_right _ (List.mem_append_right _ (List.mem_append_right _ (List.mem_append_left _ (List.mem_of_getElem? (l := tables_1_5) (i := 12) (by decide +kernel)))))))), rfl⟩
theorem k_973 : (Jvm.Cond.methodLink "LittleMixModel" (55 : Nat) ({ cls := "LittleMixModel", name := "setBack", desc := "()V" } : Jvm.MethodName)) ∈ mx_T := List.mem_filter.mpr ⟨List.mem_append_right _ ((List.mem_append_right _ (List.mem_append_right _ (List.mem_append_right _ (List.mem_append_right _ (List.mem_append_left _ (List.mem_of_getElem? (l := tables_1_5) (i := 13) (by decide +kernel)))))))), rfl⟩
theorem k_975 : (Jvm.Cond.instanceMethod ({ cls := "LittleMixModel", name := "setBack", desc := "()V" } : Jvm.MethodName)) ∈ mx_T := List.mem_filter.mpr ⟨List.mem_append_right _ ((List.mem_append_right _ (List.mem_append_right _ (List.mem_append_right _ (List.mem_append_right _ (List.mem_append_left _ (List.mem_of_getElem? (l := tables_1_5) (i := 15) (by decide +kernel)))))))), rfl⟩
theorem k_976 : (Jvm.Cond.code ({ cls := "LittleMixModel", name := "setBack", desc := "()V" } : Jvm.MethodName) prog_14_method_3_code (2 : Nat) (Option.none : Option Jvm.ClassFile.FieldType)) ∈ mx_T := List.mem_filter.mpr ⟨List.mem_append_right _ ((List.mem_append_right _ (List.mem_append_right _ (List.mem_append_right _ (List.mem_append_right _ (List.mem_append_left _ (List.mem_of_getElem? (l := tables_1_5) (i := 16) rfl))))))), rfl⟩
theorem k_977 : (Jvm.Cond.constantLong "LittleMixModel" (79 : Nat) (256 : Int64)) ∈ mx_T := List.mem_filter.mpr ⟨List.mem_append_right _ ((List.mem_append_right _ (List.mem_append_right _ (List.mem_append_right _ (List.mem_append_right _ (List.mem_append_left _ (List.mem_of_getElem? (l := tables_1_5) (i := 17) (by decide +kernel)))))))), rfl⟩
theorem k_978 : (Jvm.Cond.fieldLink "LittleMixModel" (58 : Nat) "LittleMixModel" "code" "I") ∈ mx_T := List.mem_filter.mpr ⟨List.mem_append_right _ ((List.mem_append_right _ (List.mem_append_right _ (List.mem_append_right _ (List.mem_append_right _ (List.mem_append_left _ (List.mem_of_getElem? (l := tables_1_5) (i := 18) (by decide +kernel)))))))), rfl⟩
theorem k_979 : (Jvm.Cond.fieldLink "LittleMixModel" (7 : Nat) "LittleMixModel" "tape" "[I") ∈ mx_T := List.mem_filter.mpr ⟨List.mem_append_right _ ((List.mem_append_right _ (List.mem_append_right _ (List.mem_append_right _ (List.mem_append_right _ (List.mem_append_left _ (List.mem_of_getElem? (l := tables_1_5) (i := 19) (by decide +kernel)))))))), rfl⟩
theorem k_980 : (Jvm.Cond.fieldLink "LittleMixModel" (13 : Nat) "LittleMixModel" "text" "[I") ∈ mx_T := List.mem_filter.mpr ⟨List.mem_append_right _ ((List.mem_append_right _ (List.mem_append_right _ (List.mem_append_right _ (List.mem_append_right _ (List.mem_append_left _ (List.mem_of_getElem? (l := tables_1_5) (i := 20) (by decide +kernel)))))))), rfl⟩
theorem k_981 : (Jvm.Cond.fieldLink "LittleMixModel" (85 : Nat) "LittleMixModel" "taped" "I") ∈ mx_T := List.mem_filter.mpr ⟨List.mem_append_right _ ((List.mem_append_right _ (List.mem_append_right _ (List.mem_append_right _ (List.mem_append_right _ (List.mem_append_left _ (List.mem_of_getElem? (l := tables_1_5) (i := 21) (by decide +kernel)))))))), rfl⟩
theorem k_982 : (Jvm.Cond.fieldLink "LittleMixModel" (88 : Nat) "LittleMixModel" "size" "I") ∈ mx_T := List.mem_filter.mpr ⟨List.mem_append_right _ ((List.mem_append_right _ (List.mem_append_right _ (List.mem_append_right _ (List.mem_append_right _ (List.mem_append_left _ (List.mem_of_getElem? (l := tables_1_5) (i := 22) (by decide +kernel)))))))), rfl⟩
theorem k_983 : (Jvm.Cond.fieldLink "LittleMixModel" (16 : Nat) "LittleMixModel" "illAt" "I") ∈ mx_T := List.mem_filter.mpr ⟨List.mem_append_right _ ((List.mem_append_right _ (List.mem_append_right _ (List.mem_append_right _ (List.mem_append_right _ (List.mem_append_left _ (List.mem_of_getElem? (l := tables_1_5) (i := 23) (by decide +kernel)))))))), rfl⟩
theorem k_984 : (Jvm.Cond.fieldLink "LittleMixModel" (20 : Nat) "LittleMixModel" "labelAt" "[I") ∈ mx_T := List.mem_filter.mpr ⟨List.mem_append_right _ ((List.mem_append_right _ (List.mem_append_right _ (List.mem_append_right _ (List.mem_append_right _ (List.mem_append_left _ (List.mem_of_getElem? (l := tables_1_5) (i := 24) (by decide +kernel)))))))), rfl⟩
theorem k_985 : (Jvm.Cond.fieldLink "LittleMixModel" (23 : Nat) "LittleMixModel" "labelLength" "[I") ∈ mx_T := List.mem_filter.mpr ⟨List.mem_append_right _ ((List.mem_append_right _ (List.mem_append_right _ (List.mem_append_right _ (List.mem_append_right _ (List.mem_append_left _ (List.mem_of_getElem? (l := tables_1_5) (i := 25) (by decide +kernel)))))))), rfl⟩
theorem k_986 : (Jvm.Cond.fieldLink "LittleMixModel" (26 : Nat) "LittleMixModel" "labelIs" "[J") ∈ mx_T := List.mem_filter.mpr ⟨List.mem_append_right _ ((List.mem_append_right _ (List.mem_append_right _ (List.mem_append_right _ (List.mem_append_right _ (List.mem_append_left _ (List.mem_of_getElem? (l := tables_1_5) (i := 26) (by decide +kernel)))))))), rfl⟩
theorem k_987 : (Jvm.Cond.fieldLink "LittleMixModel" (30 : Nat) "LittleMixModel" "labelRegister" "[Z") ∈ mx_T := List.mem_filter.mpr ⟨List.mem_append_right _ ((List.mem_append_right _ (List.mem_append_right _ (List.mem_append_right _ (List.mem_append_right _ (List.mem_append_left _ (List.mem_of_getElem? (l := tables_1_5) (i := 27) (by decide +kernel)))))))), rfl⟩
theorem k_988 : (Jvm.Cond.fieldLink "LittleMixModel" (133 : Nat) "LittleMixModel" "labels" "I") ∈ mx_T := List.mem_filter.mpr ⟨List.mem_append_right _ ((List.mem_append_right _ (List.mem_append_right _ (List.mem_append_right _ (List.mem_append_right _ (List.mem_append_left _ (List.mem_of_getElem? (l := tables_1_5) (i := 28) (by decide +kernel)))))))), rfl⟩
theorem k_989 : (Jvm.Cond.fieldLink "LittleMixModel" (34 : Nat) "LittleMixModel" "kept" "[J") ∈ mx_T := List.mem_filter.mpr ⟨List.mem_append_right _ ((List.mem_append_right _ (List.mem_append_right _ (List.mem_append_right _ (List.mem_append_right _ (List.mem_append_left _ (List.mem_of_getElem? (l := tables_1_5) (i := 29) (by decide +kernel)))))))), rfl⟩
theorem k_990 : (Jvm.Cond.fieldLink "LittleMixModel" (298 : Nat) "LittleMixModel" "keptCount" "I") ∈ mx_T := List.mem_filter.mpr ⟨List.mem_append_right _ ((List.mem_append_right _ (List.mem_append_right _ (List.mem_append_right _ (List.mem_append_right _ (List.mem_append_left _ (List.mem_of_getElem? (l := tables_1_5) (i := 30) (by decide +kernel)))))))), rfl⟩
theorem k_991 : (Jvm.Cond.fieldLink "LittleMixModel" (37 : Nat) "LittleMixModel" "memory" "[I") ∈ mx_T := List.mem_filter.mpr ⟨List.mem_append_right _ ((List.mem_append_right _ (List.mem_append_right _ (List.mem_append_right _ (List.mem_append_right _ (List.mem_append_left _ (List.mem_of_getElem? (l := tables_1_5) (i := 31) (by decide +kernel)))))))), rfl⟩
theorem k_992 : (Jvm.Cond.fieldLink "LittleMixModel" (40 : Nat) "LittleMixModel" "made" "[I") ∈ mx_T := List.mem_filter.mpr ⟨List.mem_append_right _ ((List.mem_append_right _ (List.mem_append_right _ (List.mem_append_right _ (List.mem_append_right _ (List.mem_append_left _ (List.mem_of_getElem? (l := tables_1_5) (i := 32) (by decide +kernel)))))))), rfl⟩
theorem k_993 : (Jvm.Cond.fieldLink "LittleMixModel" (43 : Nat) "LittleMixModel" "\x72" "[J") ∈ mx_T := List.mem_filter.mpr ⟨List.mem_append_right _ ((List.mem_append_right _ (List.mem_append_right _ (List.mem_append_right _ (List.mem_append_right _ (List.mem_append_left _ (List.mem_of_getElem? (l := tables_1_5) (i := 33) (by decide +kernel)))))))), rfl⟩
theorem k_994 : (Jvm.Cond.fieldLink "LittleMixModel" (46 : Nat) "LittleMixModel" "special" "[J") ∈ mx_T := List.mem_filter.mpr ⟨List.mem_append_right _ ((List.mem_append_right _ (List.mem_append_right _ (List.mem_append_right _ (List.mem_append_right _ (List.mem_append_left _ (List.mem_of_getElem? (l := tables_1_5) (i := 34) (by decide +kernel)))))))), rfl⟩
theorem k_995 : (Jvm.Cond.fieldLink "LittleMixModel" (49 : Nat) "LittleMixModel" "stack" "[J") ∈ mx_T := List.mem_filter.mpr ⟨List.mem_append_right _ ((List.mem_append_right _ (List.mem_append_right _ (List.mem_append_right _ (List.mem_append_right _ (List.mem_append_left _ (List.mem_of_getElem? (l := tables_1_5) (i := 35) (by decide +kernel)))))))), rfl⟩
theorem k_996 : (Jvm.Cond.fieldLink "LittleMixModel" (52 : Nat) "LittleMixModel" "aside" "[J") ∈ mx_T := List.mem_filter.mpr ⟨List.mem_append_right _ ((List.mem_append_right _ (List.mem_append_right _ (List.mem_append_right _ (List.mem_append_right _ (List.mem_append_left _ (List.mem_of_getElem? (l := tables_1_5) (i := 36) (by decide +kernel)))))))), rfl⟩
theorem k_997 : (Jvm.Cond.fieldLink "LittleMixModel" (61 : Nat) "LittleMixModel" "stacked" "I") ∈ mx_T := List.mem_filter.mpr ⟨List.mem_append_right _ ((List.mem_append_right _ (List.mem_append_right _ (List.mem_append_right _ (List.mem_append_right _ (List.mem_append_left _ (List.mem_of_getElem? (l := tables_1_5) (i := 37) (by decide +kernel)))))))), rfl⟩
theorem k_998 : (Jvm.Cond.fieldLink "LittleMixModel" (64 : Nat) "LittleMixModel" "local" "I") ∈ mx_T := List.mem_filter.mpr ⟨List.mem_append_right _ ((List.mem_append_right _ (List.mem_append_right _ (List.mem_append_right _ (List.mem_append_right _ (List.mem_append_left _ (List.mem_of_getElem? (l := tables_1_5) (i := 38) (by decide +kernel)))))))), rfl⟩
theorem k_999 : (Jvm.Cond.fieldLink "LittleMixModel" (67 : Nat) "LittleMixModel" "global" "I") ∈ mx_T := List.mem_filter.mpr ⟨List.mem_append_right _ ((List.mem_append_right _ (List.mem_append_right _ (List.mem_append_right _ (List.mem_append_right _ (List.mem_append_left _ (List.mem_of_getElem? (l := tables_1_5) (i := 39) (by decide +kernel)))))))), rfl⟩
theorem k_1000 : (Jvm.Cond.fieldLink "LittleMixModel" (70 : Nat) "LittleMixModel" "oops" "I") ∈ mx_T := List.mem_filter.mpr ⟨List.mem_append_right _ ((List.mem_append_right _ (List.mem_append_right _ (List.mem_append_right _ (List.mem_append_right _ (List.mem_append_left _ (List.mem_of_getElem? (l := tables_1_5) (i := 40) (by decide +kernel)))))))), rfl⟩
theorem k_1001 : (Jvm.Cond.fieldLink "LittleMixModel" (73 : Nat) "LittleMixModel" "mems" "I") ∈ mx_T := List.mem_filter.mpr ⟨List.mem_append_right _ ((List.mem_append_right _ (List.mem_append_right _ (List.mem_append_right _ (List.mem_append_right _ (List.mem_append_left _ (List.mem_of_getElem? (l := tables_1_5) (i := 41) (by decide +kernel)))))))), rfl⟩
theorem k_1002 : (Jvm.Cond.fieldLink "LittleMixModel" (76 : Nat) "LittleMixModel" "stop" "I") ∈ mx_T := List.mem_filter.mpr ⟨List.mem_append_right _ ((List.mem_append_right _ (List.mem_append_right _ (List.mem_append_right _ (List.mem_append_right _ (List.mem_append_left _ (List.mem_of_getElem? (l := tables_1_5) (i := 42) (by decide +kernel)))))))), rfl⟩
theorem k_1003 : (Jvm.Cond.fieldLink "LittleMixModel" (81 : Nat) "LittleMixModel" "next" "J") ∈ mx_T := List.mem_filter.mpr ⟨List.mem_append_right _ ((List.mem_append_right _ (List.mem_append_right _ (List.mem_append_right _ (List.mem_append_right _ (List.mem_append_left _ (List.mem_of_getElem? (l := tables_1_5) (i := 43) (by decide +kernel)))))))), rfl⟩
theorem k_1111 : (Jvm.Cond.methodLink "LittleMixLaw" (17 : Nat) ({ cls := "LittleMixModel", name := "feed", desc := "(IIIII)Z" } : Jvm.MethodName)) ∈ mx_T := List.mem_filter.mpr ⟨List.mem_append_right _ ((List.mem_append_right _ (List.mem_append_right _ (List.mem_append_right _ (List.mem_append_right _ (List.mem_append_left _ (List.mem_of_getElem? (l := tables_1_5) (i := 151) (by decide +kernel)))))))), rfl⟩
theorem k_1112 : (Jvm.Cond.instanceMethod ({ cls := "LittleMixModel", name := "feed", desc := "(IIIII)Z" } : Jvm.MethodName)) ∈ mx_T := List.mem_filter.mpr ⟨List.mem_append_right _ ((List.mem_append_right _ (List.mem_append_right _ (List.mem_append_right _ (List.mem_append_right _ (List.mem_append_left _ (List.mem_of_getElem? (l := tables_1_5) (i := 152) (by decide +kernel)))))))), rfl⟩
theorem k_1113 : (Jvm.Cond.selects "LittleMixModel" ({ cls := "LittleMixModel", name := "feed", desc := "(IIIII)Z" } : Jvm.MethodName) ({ cls := "LittleMixModel", name := "feed", desc := "(IIIII)Z" } : Jvm.MethodName)) ∈ mx_T := List.mem_filter.mpr ⟨List.mem_append_right _ ((List.mem_append_right _ (List.mem_append_right _ (List.mem_append_right _ (List.mem_append_right _ (List.mem_append_left _ (List.mem_of_getElem? (l := tables_1_5) (i := 153) (by decide +kernel)))))))), rfl⟩
theorem k_1114 : (Jvm.Cond.code ({ cls := "LittleMixModel", name := "feed", desc := "(IIIII)Z" } : Jvm.MethodName) prog_14_method_4_code (8 : Nat) (Option.some Jvm.ClassFile.FieldType.boolean)) ∈ mx_T := List.mem_filter.mpr ⟨List.mem_append_right _ ((List.mem_append_right _ (List.mem_append_right _ (List.mem_append_right _ (List.mem_append_right _ (List.mem_append_left _ (List.mem_of_getElem? (l := tables_1_5) (i := 154) rfl))))))), rfl⟩
theorem k_1115 : (Jvm.Cond.methodLink "LittleMixLaw" (22 : Nat) ({ cls := "LittleMixModel", name := "assemble", desc := "(I)I" } : Jvm.MethodName)) ∈ mx_T := List.mem_filter.mpr ⟨List.mem_append_right _ ((List.mem_append_right _ (List.mem_append_right _ (List.mem_append_right _ (List.mem_append_right _ (List.mem_append_left _ (List.mem_of_getElem? (l := tables_1_5) (i := 155) (by decide +kernel)))))))), rfl⟩
theorem k_1116 : (Jvm.Cond.instanceMethod ({ cls := "LittleMixModel", name := "assemble", desc := "(I)I" } : Jvm.MethodName)) ∈ mx_T := List.mem_filter.mpr ⟨List.mem_append_right _ ((List.mem_append_right _ (List.mem_append_right _ (List.mem_append_right _ (List.mem_append_right _ (List.mem_append_left _ (List.mem_of_getElem? (l := tables_1_5) (i := 156) (by decide +kernel)))))))), rfl⟩
theorem k_1117 : (Jvm.Cond.selects "LittleMixModel" ({ cls := "LittleMixModel", name := "assemble", desc := "(I)I" } : Jvm.MethodName) ({ cls := "LittleMixModel", name := "assemble", desc := "(I)I" } : Jvm.MethodName)) ∈ mx_T := List.mem_filter.mpr ⟨List.mem_append_right _ ((List.mem_append_right _ (List.mem_append_right _ (List.mem_append_right _ (List.mem_append_right _ (List.mem_append_left _ (List.mem_of_getElem? (l := tables_1_5) (i := 157) (by decide +kernel)))))))), rfl⟩
theorem k_1118 : (Jvm.Cond.code ({ cls := "LittleMixModel", name := "assemble", desc := "(I)I" } : Jvm.MethodName) prog_14_method_35_code (3 : Nat) (Option.some Jvm.ClassFile.FieldType.int)) ∈ mx_T := List.mem_filter.mpr ⟨List.mem_append_right _ ((List.mem_append_right _ (List.mem_append_right _ (List.mem_append_right _ (List.mem_append_right _ (List.mem_append_left _ (List.mem_of_getElem? (l := tables_1_5) (i := 158) rfl))))))), rfl⟩
theorem k_1119 : (Jvm.Cond.methodLink "LittleMixModel" (292 : Nat) ({ cls := "LittleMixModel", name := "first", desc := "()I" } : Jvm.MethodName)) ∈ mx_T := List.mem_filter.mpr ⟨List.mem_append_right _ ((List.mem_append_right _ (List.mem_append_right _ (List.mem_append_right _ (List.mem_append_right _ (List.mem_append_left _ (List.mem_of_getElem? (l := tables_1_5) (i := 159) (by decide +kernel)))))))), rfl⟩
theorem k_1121 : (Jvm.Cond.instanceMethod ({ cls := "LittleMixModel", name := "first", desc := "()I" } : Jvm.MethodName)) ∈ mx_T := List.mem_filter.mpr ⟨List.mem_append_right _ ((List.mem_append_right _ (List.mem_append_right _ (List.mem_append_right _ (List.mem_append_right _ (List.mem_append_left _ (List.mem_of_getElem? (l := tables_1_5) (i := 161) (by decide +kernel)))))))), rfl⟩
theorem k_1122 : (Jvm.Cond.code ({ cls := "LittleMixModel", name := "first", desc := "()I" } : Jvm.MethodName) prog_14_method_27_code (10 : Nat) (Option.some Jvm.ClassFile.FieldType.int)) ∈ mx_T := List.mem_filter.mpr ⟨List.mem_append_right _ ((List.mem_append_right _ (List.mem_append_right _ (List.mem_append_right _ (List.mem_append_right _ (List.mem_append_left _ (List.mem_of_getElem? (l := tables_1_5) (i := 162) rfl))))))), rfl⟩
theorem k_1220 : (Jvm.Cond.methodLink "LittleMixModel" (295 : Nat) ({ cls := "LittleMixModel", name := "second", desc := "()I" } : Jvm.MethodName)) ∈ mx_T := List.mem_filter.mpr ⟨List.mem_append_right _ ((List.mem_append_right _ (List.mem_append_right _ (List.mem_append_right _ (List.mem_append_right _ (List.mem_append_right _ (List.mem_of_getElem? (l := tables_1_6) (i := 20) (by decide +kernel)))))))), rfl⟩
theorem k_1222 : (Jvm.Cond.instanceMethod ({ cls := "LittleMixModel", name := "second", desc := "()I" } : Jvm.MethodName)) ∈ mx_T := List.mem_filter.mpr ⟨List.mem_append_right _ ((List.mem_append_right _ (List.mem_append_right _ (List.mem_append_right _ (List.mem_append_right _ (List.mem_append_right _ (List.mem_of_getElem? (l := tables_1_6) (i := 22) (by decide +kernel)))))))), rfl⟩
theorem k_1223 : (Jvm.Cond.code ({ cls := "LittleMixModel", name := "second", desc := "()I" } : Jvm.MethodName) prog_14_method_29_code (7 : Nat) (Option.some Jvm.ClassFile.FieldType.int)) ∈ mx_T := List.mem_filter.mpr ⟨List.mem_append_right _ ((List.mem_append_right _ (List.mem_append_right _ (List.mem_append_right _ (List.mem_append_right _ (List.mem_append_right _ (List.mem_of_getElem? (l := tables_1_6) (i := 23) rfl))))))), rfl⟩
theorem k_1250 : (Jvm.Cond.methodLink "LittleMixModel" (285 : Nat) ({ cls := "LittleMixModel", name := "isSpecial", desc := "(J)Z" } : Jvm.MethodName)) ∈ mx_T := List.mem_filter.mpr ⟨List.mem_append_right _ ((List.mem_append_right _ (List.mem_append_right _ (List.mem_append_right _ (List.mem_append_right _ (List.mem_append_right _ (List.mem_of_getElem? (l := tables_1_6) (i := 50) (by decide +kernel)))))))), rfl⟩
theorem k_1251 : (Jvm.Cond.static ({ cls := "LittleMixModel", name := "isSpecial", desc := "(J)Z" } : Jvm.MethodName)) ∈ mx_T := List.mem_filter.mpr ⟨List.mem_append_right _ ((List.mem_append_right _ (List.mem_append_right _ (List.mem_append_right _ (List.mem_append_right _ (List.mem_append_right _ (List.mem_of_getElem? (l := tables_1_6) (i := 51) (by decide +kernel)))))))), rfl⟩
theorem k_1252 : (Jvm.Cond.code ({ cls := "LittleMixModel", name := "isSpecial", desc := "(J)Z" } : Jvm.MethodName) prog_14_method_13_code (2 : Nat) (Option.some Jvm.ClassFile.FieldType.boolean)) ∈ mx_T := List.mem_filter.mpr ⟨List.mem_append_right _ ((List.mem_append_right _ (List.mem_append_right _ (List.mem_append_right _ (List.mem_append_right _ (List.mem_append_right _ (List.mem_of_getElem? (l := tables_1_6) (i := 52) rfl))))))), rfl⟩
theorem k_1253 : (Jvm.Cond.constantLong "LittleMixModel" (112 : Nat) (2 : Int64)) ∈ mx_T := List.mem_filter.mpr ⟨List.mem_append_right _ ((List.mem_append_right _ (List.mem_append_right _ (List.mem_append_right _ (List.mem_append_right _ (List.mem_append_right _ (List.mem_of_getElem? (l := tables_1_6) (i := 53) (by decide +kernel)))))))), rfl⟩
theorem k_1254 : (Jvm.Cond.constantLong "LittleMixModel" (114 : Nat) (7 : Int64)) ∈ mx_T := List.mem_filter.mpr ⟨List.mem_append_right _ ((List.mem_append_right _ (List.mem_append_right _ (List.mem_append_right _ (List.mem_append_right _ (List.mem_append_right _ (List.mem_of_getElem? (l := tables_1_6) (i := 54) (by decide +kernel)))))))), rfl⟩
theorem k_1255 : (Jvm.Cond.constantLong "LittleMixModel" (116 : Nat) (18 : Int64)) ∈ mx_T := List.mem_filter.mpr ⟨List.mem_append_right _ ((List.mem_append_right _ (List.mem_append_right _ (List.mem_append_right _ (List.mem_append_right _ (List.mem_append_right _ (List.mem_of_getElem? (l := tables_1_6) (i := 55) (by decide +kernel)))))))), rfl⟩
theorem k_1256 : (Jvm.Cond.constantLong "LittleMixModel" (118 : Nat) (22 : Int64)) ∈ mx_T := List.mem_filter.mpr ⟨List.mem_append_right _ ((List.mem_append_right _ (List.mem_append_right _ (List.mem_append_right _ (List.mem_append_right _ (List.mem_append_right _ (List.mem_of_getElem? (l := tables_1_6) (i := 56) (by decide +kernel)))))))), rfl⟩
theorem k_1257 : (Jvm.Cond.constantLong "LittleMixModel" (120 : Nat) (23 : Int64)) ∈ mx_T := List.mem_filter.mpr ⟨List.mem_append_right _ ((List.mem_append_right _ (List.mem_append_right _ (List.mem_append_right _ (List.mem_append_right _ (List.mem_append_right _ (List.mem_of_getElem? (l := tables_1_6) (i := 57) (by decide +kernel)))))))), rfl⟩
theorem k_1258 : (Jvm.Cond.constantLong "LittleMixModel" (122 : Nat) (28 : Int64)) ∈ mx_T := List.mem_filter.mpr ⟨List.mem_append_right _ ((List.mem_append_right _ (List.mem_append_right _ (List.mem_append_right _ (List.mem_append_right _ (List.mem_append_right _ (List.mem_of_getElem? (l := tables_1_6) (i := 58) (by decide +kernel)))))))), rfl⟩
theorem k_1263 : (Jvm.Cond.methodLink "LittleMixLaw" (27 : Nat) ({ cls := "LittleMixModel", name := "illAt", desc := "()I" } : Jvm.MethodName)) ∈ mx_T := List.mem_filter.mpr ⟨List.mem_append_right _ ((List.mem_append_right _ (List.mem_append_right _ (List.mem_append_right _ (List.mem_append_right _ (List.mem_append_right _ (List.mem_of_getElem? (l := tables_1_6) (i := 63) (by decide +kernel)))))))), rfl⟩
theorem k_1264 : (Jvm.Cond.instanceMethod ({ cls := "LittleMixModel", name := "illAt", desc := "()I" } : Jvm.MethodName)) ∈ mx_T := List.mem_filter.mpr ⟨List.mem_append_right _ ((List.mem_append_right _ (List.mem_append_right _ (List.mem_append_right _ (List.mem_append_right _ (List.mem_append_right _ (List.mem_of_getElem? (l := tables_1_6) (i := 64) (by decide +kernel)))))))), rfl⟩
theorem k_1265 : (Jvm.Cond.selects "LittleMixModel" ({ cls := "LittleMixModel", name := "illAt", desc := "()I" } : Jvm.MethodName) ({ cls := "LittleMixModel", name := "illAt", desc := "()I" } : Jvm.MethodName)) ∈ mx_T := List.mem_filter.mpr ⟨List.mem_append_right _ ((List.mem_append_right _ (List.mem_append_right _ (List.mem_append_right _ (List.mem_append_right _ (List.mem_append_right _ (List.mem_of_getElem? (l := tables_1_6) (i := 65) (by decide +kernel)))))))), rfl⟩
theorem k_1266 : (Jvm.Cond.code ({ cls := "LittleMixModel", name := "illAt", desc := "()I" } : Jvm.MethodName) prog_14_method_36_code (1 : Nat) (Option.some Jvm.ClassFile.FieldType.int)) ∈ mx_T := List.mem_filter.mpr ⟨List.mem_append_right _ ((List.mem_append_right _ (List.mem_append_right _ (List.mem_append_right _ (List.mem_append_right _ (List.mem_append_right _ (List.mem_of_getElem? (l := tables_1_6) (i := 66) rfl))))))), rfl⟩
theorem k_1267 : (Jvm.Cond.methodLink "LittleMixLaw" (32 : Nat) ({ cls := "LittleMixModel", name := "label", desc := "(I)J" } : Jvm.MethodName)) ∈ mx_T := List.mem_filter.mpr ⟨List.mem_append_right _ ((List.mem_append_right _ (List.mem_append_right _ (List.mem_append_right _ (List.mem_append_right _ (List.mem_append_right _ (List.mem_of_getElem? (l := tables_1_6) (i := 67) (by decide +kernel)))))))), rfl⟩
theorem k_1268 : (Jvm.Cond.instanceMethod ({ cls := "LittleMixModel", name := "label", desc := "(I)J" } : Jvm.MethodName)) ∈ mx_T := List.mem_filter.mpr ⟨List.mem_append_right _ ((List.mem_append_right _ (List.mem_append_right _ (List.mem_append_right _ (List.mem_append_right _ (List.mem_append_right _ (List.mem_of_getElem? (l := tables_1_6) (i := 68) (by decide +kernel)))))))), rfl⟩
theorem k_1269 : (Jvm.Cond.selects "LittleMixModel" ({ cls := "LittleMixModel", name := "label", desc := "(I)J" } : Jvm.MethodName) ({ cls := "LittleMixModel", name := "label", desc := "(I)J" } : Jvm.MethodName)) ∈ mx_T := List.mem_filter.mpr ⟨List.mem_append_right _ ((List.mem_append_right _ (List.mem_append_right _ (List.mem_append_right _ (List.mem_append_right _ (List.mem_append_right _ (List.mem_of_getElem? (l := tables_1_6) (i := 69) (by decide +kernel)))))))), rfl⟩
theorem k_1270 : (Jvm.Cond.code ({ cls := "LittleMixModel", name := "label", desc := "(I)J" } : Jvm.MethodName) prog_14_method_37_code (2 : Nat) (Option.some Jvm.ClassFile.FieldType.long)) ∈ mx_T := List.mem_filter.mpr ⟨List.mem_append_right _ ((List.mem_append_right _ (List.mem_append_right _ (List.mem_append_right _ (List.mem_append_right _ (List.mem_append_right _ (List.mem_of_getElem? (l := tables_1_6) (i := 70) rfl))))))), rfl⟩
theorem k_1271 : (Jvm.Cond.constantLong "LittleMixModel" (301 : Nat) (-1 : Int64)) ∈ mx_T := List.mem_filter.mpr ⟨List.mem_append_right _ ((List.mem_append_right _ (List.mem_append_right _ (List.mem_append_right _ (List.mem_append_right _ (List.mem_append_right _ (List.mem_of_getElem? (l := tables_1_6) (i := 71) (by decide +kernel)))))))), rfl⟩
theorem k_1272 : (Jvm.Cond.methodLink "LittleMixLaw" (36 : Nat) ({ cls := "LittleMixModel", name := "byteAt", desc := "(I)I" } : Jvm.MethodName)) ∈ mx_T := List.mem_filter.mpr ⟨List.mem_append_right _ ((List.mem_append_right _ (List.mem_append_right _ (List.mem_append_right _ (List.mem_append_right _ (List.mem_append_right _ (List.mem_of_getElem? (l := tables_1_6) (i := 72) (by decide +kernel)))))))), rfl⟩
theorem k_1273 : (Jvm.Cond.instanceMethod ({ cls := "LittleMixModel", name := "byteAt", desc := "(I)I" } : Jvm.MethodName)) ∈ mx_T := List.mem_filter.mpr ⟨List.mem_append_right _ ((List.mem_append_right _ (List.mem_append_right _ (List.mem_append_right _ (List.mem_append_right _ (List.mem_append_right _ (List.mem_of_getElem? (l := tables_1_6) (i := 73) (by decide +kernel)))))))), rfl⟩
theorem k_1274 : (Jvm.Cond.selects "LittleMixModel" ({ cls := "LittleMixModel", name := "byteAt", desc := "(I)I" } : Jvm.MethodName) ({ cls := "LittleMixModel", name := "byteAt", desc := "(I)I" } : Jvm.MethodName)) ∈ mx_T := List.mem_filter.mpr ⟨List.mem_append_right _ ((List.mem_append_right _ (List.mem_append_right _ (List.mem_append_right _ (List.mem_append_right _ (List.mem_append_right _ (List.mem_of_getElem? (l := tables_1_6) (i := 74) (by decide +kernel)))))))), rfl⟩
theorem k_1275 : (Jvm.Cond.code ({ cls := "LittleMixModel", name := "byteAt", desc := "(I)I" } : Jvm.MethodName) prog_14_method_38_code (2 : Nat) (Option.some Jvm.ClassFile.FieldType.int)) ∈ mx_T := List.mem_filter.mpr ⟨List.mem_append_right _ ((List.mem_append_right _ (List.mem_append_right _ (List.mem_append_right _ (List.mem_append_right _ (List.mem_append_right _ (List.mem_of_getElem? (l := tables_1_6) (i := 75) rfl))))))), rfl⟩
theorem k_1276 : (Jvm.Cond.methodLink "LittleMixLaw" (41 : Nat) ({ cls := "LittleMixModel", name := "store", desc := "(III)Z" } : Jvm.MethodName)) ∈ mx_T := List.mem_filter.mpr ⟨List.mem_append_right _ ((List.mem_append_right _ (List.mem_append_right _ (List.mem_append_right _ (List.mem_append_right _ (List.mem_append_right _ (List.mem_of_getElem? (l := tables_1_6) (i := 76) (by decide +kernel)))))))), rfl⟩
theorem k_1277 : (Jvm.Cond.instanceMethod ({ cls := "LittleMixModel", name := "store", desc := "(III)Z" } : Jvm.MethodName)) ∈ mx_T := List.mem_filter.mpr ⟨List.mem_append_right _ ((List.mem_append_right _ (List.mem_append_right _ (List.mem_append_right _ (List.mem_append_right _ (List.mem_append_right _ (List.mem_of_getElem? (l := tables_1_6) (i := 77) (by decide +kernel)))))))), rfl⟩
theorem k_1278 : (Jvm.Cond.selects "LittleMixModel" ({ cls := "LittleMixModel", name := "store", desc := "(III)Z" } : Jvm.MethodName) ({ cls := "LittleMixModel", name := "store", desc := "(III)Z" } : Jvm.MethodName)) ∈ mx_T := List.mem_filter.mpr ⟨List.mem_append_right _ ((List.mem_append_right _ (List.mem_append_right _ (List.mem_append_right _ (List.mem_append_right _ (List.mem_append_right _ (List.mem_of_getElem? (l := tables_1_6) (i := 78) (by decide +kernel)))))))), rfl⟩
theorem k_1279 : (Jvm.Cond.code ({ cls := "LittleMixModel", name := "store", desc := "(III)Z" } : Jvm.MethodName) prog_14_method_39_code (5 : Nat) (Option.some Jvm.ClassFile.FieldType.boolean)) ∈ mx_T := List.mem_filter.mpr ⟨List.mem_append_right _ ((List.mem_append_right _ (List.mem_append_right _ (List.mem_append_right _ (List.mem_append_right _ (List.mem_append_right _ (List.mem_of_getElem? (l := tables_1_6) (i := 79) rfl))))))), rfl⟩
theorem k_1280 : (Jvm.Cond.methodLink "LittleMixLaw" (45 : Nat) ({ cls := "LittleMixModel", name := "back", desc := "()V" } : Jvm.MethodName)) ∈ mx_T := List.mem_filter.mpr ⟨List.mem_append_right _ ((List.mem_append_right _ (List.mem_append_right _ (List.mem_append_right _ (List.mem_append_right _ (List.mem_append_right _ (List.mem_of_getElem? (l := tables_1_6) (i := 80) (by decide +kernel)))))))), rfl⟩
theorem k_1281 : (Jvm.Cond.instanceMethod ({ cls := "LittleMixModel", name := "back", desc := "()V" } : Jvm.MethodName)) ∈ mx_T := List.mem_filter.mpr ⟨List.mem_append_right _ ((List.mem_append_right _ (List.mem_append_right _ (List.mem_append_right _ (List.mem_append_right _ (List.mem_append_right _ (List.mem_of_getElem? (l := tables_1_6) (i := 81) (by decide +kernel)))))))), rfl⟩
theorem k_1282 : (Jvm.Cond.selects "LittleMixModel" ({ cls := "LittleMixModel", name := "back", desc := "()V" } : Jvm.MethodName) ({ cls := "LittleMixModel", name := "back", desc := "()V" } : Jvm.MethodName)) ∈ mx_T := List.mem_filter.mpr ⟨List.mem_append_right _ ((List.mem_append_right _ (List.mem_append_right _ (List.mem_append_right _ (List.mem_append_right _ (List.mem_append_right _ (List.mem_of_getElem? (l := tables_1_6) (i := 82) (by decide +kernel)))))))), rfl⟩
theorem k_1283 : (Jvm.Cond.code ({ cls := "LittleMixModel", name := "back", desc := "()V" } : Jvm.MethodName) prog_14_method_40_code (1 : Nat) (Option.none : Option Jvm.ClassFile.FieldType)) ∈ mx_T := List.mem_filter.mpr ⟨List.mem_append_right _ ((List.mem_append_right _ (List.mem_append_right _ (List.mem_append_right _ (List.mem_append_right _ (List.mem_append_right _ (List.mem_of_getElem? (l := tables_1_6) (i := 83) rfl))))))), rfl⟩
theorem k_1284 : (Jvm.Cond.methodLink "LittleMixLaw" (49 : Nat) ({ cls := "LittleMixModel", name := "run", desc := "(I)I" } : Jvm.MethodName)) ∈ mx_T := List.mem_filter.mpr ⟨List.mem_append_right _ ((List.mem_append_right _ (List.mem_append_right _ (List.mem_append_right _ (List.mem_append_right _ (List.mem_append_right _ (List.mem_of_getElem? (l := tables_1_6) (i := 84) (by decide +kernel)))))))), rfl⟩
theorem k_1285 : (Jvm.Cond.instanceMethod ({ cls := "LittleMixModel", name := "run", desc := "(I)I" } : Jvm.MethodName)) ∈ mx_T := List.mem_filter.mpr ⟨List.mem_append_right _ ((List.mem_append_right _ (List.mem_append_right _ (List.mem_append_right _ (List.mem_append_right _ (List.mem_append_right _ (List.mem_of_getElem? (l := tables_1_6) (i := 85) (by decide +kernel)))))))), rfl⟩
theorem k_1286 : (Jvm.Cond.selects "LittleMixModel" ({ cls := "LittleMixModel", name := "run", desc := "(I)I" } : Jvm.MethodName) ({ cls := "LittleMixModel", name := "run", desc := "(I)I" } : Jvm.MethodName)) ∈ mx_T := List.mem_filter.mpr ⟨List.mem_append_right _ ((List.mem_append_right _ (List.mem_append_right _ (List.mem_append_right _ (List.mem_append_right _ (List.mem_append_right _ (List.mem_of_getElem? (l := tables_1_6) (i := 86) (by decide +kernel)))))))), rfl⟩
theorem k_1287 : (Jvm.Cond.code ({ cls := "LittleMixModel", name := "run", desc := "(I)I" } : Jvm.MethodName) prog_14_method_68_code (3 : Nat) (Option.some Jvm.ClassFile.FieldType.int)) ∈ mx_T := List.mem_filter.mpr ⟨List.mem_append_right _ ((List.mem_append_right _ (List.mem_append_right _ (List.mem_append_right _ (List.mem_append_right _ (List.mem_append_right _ (List.mem_of_getElem? (l := tables_1_6) (i := 87) rfl))))))), rfl⟩
theorem k_1288 : (Jvm.Cond.methodLink "LittleMixModel" (431 : Nat) ({ cls := "LittleMixModel", name := "step", desc := "()I" } : Jvm.MethodName)) ∈ mx_T := List.mem_filter.mpr ⟨List.mem_append_right _ ((List.mem_append_right _ (List.mem_append_right _ (List.mem_append_right _ (List.mem_append_right _ (List.mem_append_right _ (List.mem_of_getElem? (l := tables_1_6) (i := 88) (by decide +kernel)))))))), rfl⟩
theorem k_1290 : (Jvm.Cond.instanceMethod ({ cls := "LittleMixModel", name := "step", desc := "()I" } : Jvm.MethodName)) ∈ mx_T := List.mem_filter.mpr ⟨List.mem_append_right _ ((List.mem_append_right _ (List.mem_append_right _ (List.mem_append_right _ (List.mem_append_right _ (List.mem_append_right _ (List.mem_of_getElem? (l := tables_1_6) (i := 90) (by decide +kernel)))))))), rfl⟩
theorem k_1291 : (Jvm.Cond.code ({ cls := "LittleMixModel", name := "step", desc := "()I" } : Jvm.MethodName) prog_14_method_61_code (15 : Nat) (Option.some Jvm.ClassFile.FieldType.int)) ∈ mx_T := List.mem_filter.mpr ⟨List.mem_append_right _ ((List.mem_append_right _ (List.mem_append_right _ (List.mem_append_right _ (List.mem_append_right _ (List.mem_append_right _ (List.mem_of_getElem? (l := tables_1_6) (i := 91) rfl))))))), rfl⟩
theorem k_1292 : (Jvm.Cond.constantLong "LittleMixModel" (377 : Nat) (4092 : Int64)) ∈ mx_T := List.mem_filter.mpr ⟨List.mem_append_right _ ((List.mem_append_right _ (List.mem_append_right _ (List.mem_append_right _ (List.mem_append_right _ (List.mem_append_right _ (List.mem_of_getElem? (l := tables_1_6) (i := 92) (by decide +kernel)))))))), rfl⟩
theorem k_1293 : (Jvm.Cond.methodLink "LittleMixModel" (379 : Nat) ({ cls := "LittleMixModel", name := "isOp", desc := "(I)Z" } : Jvm.MethodName)) ∈ mx_T := List.mem_filter.mpr ⟨List.mem_append_right _ ((List.mem_append_right _ (List.mem_append_right _ (List.mem_append_right _ (List.mem_append_right _ (List.mem_append_right _ (List.mem_of_getElem? (l := tables_1_6) (i := 93) (by decide +kernel)))))))), rfl⟩
theorem k_1295 : (Jvm.Cond.instanceMethod ({ cls := "LittleMixModel", name := "isOp", desc := "(I)Z" } : Jvm.MethodName)) ∈ mx_T := List.mem_filter.mpr ⟨List.mem_append_right _ ((List.mem_append_right _ (List.mem_append_right _ (List.mem_append_right _ (List.mem_append_right _ (List.mem_append_right _ (List.mem_of_getElem? (l := tables_1_6) (i := 95) (by decide +kernel)))))))), rfl⟩
theorem k_1296 : (Jvm.Cond.code ({ cls := "LittleMixModel", name := "isOp", desc := "(I)Z" } : Jvm.MethodName) prog_14_method_60_code (2 : Nat) (Option.some Jvm.ClassFile.FieldType.boolean)) ∈ mx_T := List.mem_filter.mpr ⟨List.mem_append_right _ ((List.mem_append_right _ (List.mem_append_right _ (List.mem_append_right _ (List.mem_append_right _ (List.mem_append_right _ (List.mem_of_getElem? (l := tables_1_6) (i := 96) rfl))))))), rfl⟩
theorem k_1297 : (Jvm.Cond.methodLink "LittleMixModel" (385 : Nat) ({ cls := "LittleMixModel", name := "get", desc := "(I)J" } : Jvm.MethodName)) ∈ mx_T := List.mem_filter.mpr ⟨List.mem_append_right _ ((List.mem_append_right _ (List.mem_append_right _ (List.mem_append_right _ (List.mem_append_right _ (List.mem_append_right _ (List.mem_of_getElem? (l := tables_1_6) (i := 97) (by decide +kernel)))))))), rfl⟩
theorem k_1299 : (Jvm.Cond.instanceMethod ({ cls := "LittleMixModel", name := "get", desc := "(I)J" } : Jvm.MethodName)) ∈ mx_T := List.mem_filter.mpr ⟨List.mem_append_right _ ((List.mem_append_right _ (List.mem_append_right _ (List.mem_append_right _ (List.mem_append_right _ (List.mem_append_right _ (List.mem_of_getElem? (l := tables_1_6) (i := 99) (by decide +kernel)))))))), rfl⟩
theorem k_1300 : (Jvm.Cond.code ({ cls := "LittleMixModel", name := "get", desc := "(I)J" } : Jvm.MethodName) prog_14_method_41_code (2 : Nat) (Option.some Jvm.ClassFile.FieldType.long)) ∈ mx_T := List.mem_filter.mpr ⟨List.mem_append_right _ ((List.mem_append_right _ (List.mem_append_right _ (List.mem_append_right _ (List.mem_append_right _ (List.mem_append_right _ (List.mem_of_getElem? (l := tables_1_6) (i := 100) rfl))))))), rfl⟩
theorem k_1394 : (Jvm.Cond.methodLink "LittleMixModel" (422 : Nat) ({ cls := "LittleMixModel", name := "getSpecial", desc := "(I)J" } : Jvm.MethodName)) ∈ mx_T := List.mem_filter.mpr ⟨List.mem_append_right _ ((List.mem_append_right _ (List.mem_append_right _ (List.mem_append_right _ (List.mem_append_right _ (List.mem_append_right _ (List.mem_of_getElem? (l := tables_1_6) (i := 194) (by decide +kernel)))))))), rfl⟩
theorem k_1396 : (Jvm.Cond.instanceMethod ({ cls := "LittleMixModel", name := "getSpecial", desc := "(I)J" } : Jvm.MethodName)) ∈ mx_T := List.mem_filter.mpr ⟨List.mem_append_right _ ((List.mem_append_right _ (List.mem_append_right _ (List.mem_append_right _ (List.mem_append_right _ (List.mem_append_right _ (List.mem_of_getElem? (l := tables_1_6) (i := 196) (by decide +kernel)))))))), rfl⟩
theorem k_1397 : (Jvm.Cond.code ({ cls := "LittleMixModel", name := "getSpecial", desc := "(I)J" } : Jvm.MethodName) prog_14_method_43_code (2 : Nat) (Option.some Jvm.ClassFile.FieldType.long)) ∈ mx_T := List.mem_filter.mpr ⟨List.mem_append_right _ ((List.mem_append_right _ (List.mem_append_right _ (List.mem_append_right _ (List.mem_append_right _ (List.mem_append_right _ (List.mem_of_getElem? (l := tables_1_6) (i := 197) rfl))))))), rfl⟩
theorem k_1403 : (Jvm.Cond.methodLink "LittleMixLaw" (53 : Nat) ({ cls := "LittleMixModel", name := "stopped", desc := "()I" } : Jvm.MethodName)) ∈ mx_T := List.mem_filter.mpr ⟨List.mem_append_right _ ((List.mem_append_right _ (List.mem_append_right _ (List.mem_append_right _ (List.mem_append_right _ (List.mem_append_right _ (List.mem_of_getElem? (l := tables_1_6) (i := 203) (by decide +kernel)))))))), rfl⟩
theorem k_1404 : (Jvm.Cond.instanceMethod ({ cls := "LittleMixModel", name := "stopped", desc := "()I" } : Jvm.MethodName)) ∈ mx_T := List.mem_filter.mpr ⟨List.mem_append_right _ ((List.mem_append_right _ (List.mem_append_right _ (List.mem_append_right _ (List.mem_append_right _ (List.mem_append_right _ (List.mem_of_getElem? (l := tables_1_6) (i := 204) (by decide +kernel)))))))), rfl⟩
theorem k_1405 : (Jvm.Cond.selects "LittleMixModel" ({ cls := "LittleMixModel", name := "stopped", desc := "()I" } : Jvm.MethodName) ({ cls := "LittleMixModel", name := "stopped", desc := "()I" } : Jvm.MethodName)) ∈ mx_T := List.mem_filter.mpr ⟨List.mem_append_right _ ((List.mem_append_right _ (List.mem_append_right _ (List.mem_append_right _ (List.mem_append_right _ (List.mem_append_right _ (List.mem_of_getElem? (l := tables_1_6) (i := 205) (by decide +kernel)))))))), rfl⟩
theorem k_1406 : (Jvm.Cond.code ({ cls := "LittleMixModel", name := "stopped", desc := "()I" } : Jvm.MethodName) prog_14_method_69_code (1 : Nat) (Option.some Jvm.ClassFile.FieldType.int)) ∈ mx_T := List.mem_filter.mpr ⟨List.mem_append_right _ ((List.mem_append_right _ (List.mem_append_right _ (List.mem_append_right _ (List.mem_append_right _ (List.mem_append_right _ (List.mem_of_getElem? (l := tables_1_6) (i := 206) rfl))))))), rfl⟩
theorem k_1407 : (Jvm.Cond.methodLink "LittleMixLaw" (57 : Nat) ({ cls := "LittleMixModel", name := "register", desc := "(I)J" } : Jvm.MethodName)) ∈ mx_T := List.mem_filter.mpr ⟨List.mem_append_right _ ((List.mem_append_right _ (List.mem_append_right _ (List.mem_append_right _ (List.mem_append_right _ (List.mem_append_right _ (List.mem_of_getElem? (l := tables_1_6) (i := 207) (by decide +kernel)))))))), rfl⟩
theorem k_1408 : (Jvm.Cond.instanceMethod ({ cls := "LittleMixModel", name := "register", desc := "(I)J" } : Jvm.MethodName)) ∈ mx_T := List.mem_filter.mpr ⟨List.mem_append_right _ ((List.mem_append_right _ (List.mem_append_right _ (List.mem_append_right _ (List.mem_append_right _ (List.mem_append_right _ (List.mem_of_getElem? (l := tables_1_6) (i := 208) (by decide +kernel)))))))), rfl⟩
theorem k_1409 : (Jvm.Cond.selects "LittleMixModel" ({ cls := "LittleMixModel", name := "register", desc := "(I)J" } : Jvm.MethodName) ({ cls := "LittleMixModel", name := "register", desc := "(I)J" } : Jvm.MethodName)) ∈ mx_T := List.mem_filter.mpr ⟨List.mem_append_right _ ((List.mem_append_right _ (List.mem_append_right _ (List.mem_append_right _ (List.mem_append_right _ (List.mem_append_right _ (List.mem_of_getElem? (l := tables_1_6) (i := 209) (by decide +kernel)))))))), rfl⟩
theorem k_1410 : (Jvm.Cond.code ({ cls := "LittleMixModel", name := "register", desc := "(I)J" } : Jvm.MethodName) prog_14_method_70_code (2 : Nat) (Option.some Jvm.ClassFile.FieldType.long)) ∈ mx_T := List.mem_filter.mpr ⟨List.mem_append_right _ ((List.mem_append_right _ (List.mem_append_right _ (List.mem_append_right _ (List.mem_append_right _ (List.mem_append_right _ (List.mem_of_getElem? (l := tables_1_6) (i := 210) rfl))))))), rfl⟩
theorem k_1411 : (Jvm.Cond.methodLink "LittleMixLaw" (61 : Nat) ({ cls := "LittleMixModel", name := "special", desc := "(I)J" } : Jvm.MethodName)) ∈ mx_T := List.mem_filter.mpr ⟨List.mem_append_right _ ((List.mem_append_right _ (List.mem_append_right _ (List.mem_append_right _ (List.mem_append_right _ (List.mem_append_right _ (List.mem_of_getElem? (l := tables_1_6) (i := 211) (by decide +kernel)))))))), rfl⟩
theorem k_1412 : (Jvm.Cond.instanceMethod ({ cls := "LittleMixModel", name := "special", desc := "(I)J" } : Jvm.MethodName)) ∈ mx_T := List.mem_filter.mpr ⟨List.mem_append_right _ ((List.mem_append_right _ (List.mem_append_right _ (List.mem_append_right _ (List.mem_append_right _ (List.mem_append_right _ (List.mem_of_getElem? (l := tables_1_6) (i := 212) (by decide +kernel)))))))), rfl⟩
theorem k_1413 : (Jvm.Cond.selects "LittleMixModel" ({ cls := "LittleMixModel", name := "special", desc := "(I)J" } : Jvm.MethodName) ({ cls := "LittleMixModel", name := "special", desc := "(I)J" } : Jvm.MethodName)) ∈ mx_T := List.mem_filter.mpr ⟨List.mem_append_right _ ((List.mem_append_right _ (List.mem_append_right _ (List.mem_append_right _ (List.mem_append_right _ (List.mem_append_right _ (List.mem_of_getElem? (l := tables_1_6) (i := 213) (by decide +kernel)))))))), rfl⟩
theorem k_1414 : (Jvm.Cond.code ({ cls := "LittleMixModel", name := "special", desc := "(I)J" } : Jvm.MethodName) prog_14_method_71_code (2 : Nat) (Option.some Jvm.ClassFile.FieldType.long)) ∈ mx_T := List.mem_filter.mpr ⟨List.mem_append_right _ ((List.mem_append_right _ (List.mem_append_right _ (List.mem_append_right _ (List.mem_append_right _ (List.mem_append_right _ (List.mem_of_getElem? (l := tables_1_6) (i := 214) rfl))))))), rfl⟩
theorem k_1415 : (Jvm.Cond.methodLink "LittleMixLaw" (66 : Nat) ({ cls := "LittleMixModel", name := "place", desc := "()J" } : Jvm.MethodName)) ∈ mx_T := List.mem_filter.mpr ⟨List.mem_append_right _ ((List.mem_append_right _ (List.mem_append_right _ (List.mem_append_right _ (List.mem_append_right _ (List.mem_append_right _ (List.mem_of_getElem? (l := tables_1_6) (i := 215) (by decide +kernel)))))))), rfl⟩
theorem k_1416 : (Jvm.Cond.instanceMethod ({ cls := "LittleMixModel", name := "place", desc := "()J" } : Jvm.MethodName)) ∈ mx_T := List.mem_filter.mpr ⟨List.mem_append_right _ ((List.mem_append_right _ (List.mem_append_right _ (List.mem_append_right _ (List.mem_append_right _ (List.mem_append_right _ (List.mem_of_getElem? (l := tables_1_6) (i := 216) (by decide +kernel)))))))), rfl⟩
theorem k_1417 : (Jvm.Cond.selects "LittleMixModel" ({ cls := "LittleMixModel", name := "place", desc := "()J" } : Jvm.MethodName) ({ cls := "LittleMixModel", name := "place", desc := "()J" } : Jvm.MethodName)) ∈ mx_T := List.mem_filter.mpr ⟨List.mem_append_right _ ((List.mem_append_right _ (List.mem_append_right _ (List.mem_append_right _ (List.mem_append_right _ (List.mem_append_right _ (List.mem_of_getElem? (l := tables_1_6) (i := 217) (by decide +kernel)))))))), rfl⟩
theorem k_1418 : (Jvm.Cond.code ({ cls := "LittleMixModel", name := "place", desc := "()J" } : Jvm.MethodName) prog_14_method_72_code (1 : Nat) (Option.some Jvm.ClassFile.FieldType.long)) ∈ mx_T := List.mem_filter.mpr ⟨List.mem_append_right _ ((List.mem_append_right _ (List.mem_append_right _ (List.mem_append_right _ (List.mem_append_right _ (List.mem_append_right _ (List.mem_of_getElem? (l := tables_1_6) (i := 218) rfl))))))), rfl⟩
theorem k_1419 : (Jvm.Cond.methodLink "LittleMixLaw" (70 : Nat) ({ cls := "LittleMixModel", name := "taken", desc := "(I)I" } : Jvm.MethodName)) ∈ mx_T := List.mem_filter.mpr ⟨List.mem_append_right _ ((List.mem_append_right _ (List.mem_append_right _ (List.mem_append_right _ (List.mem_append_right _ (List.mem_append_right _ (List.mem_of_getElem? (l := tables_1_6) (i := 219) (by decide +kernel)))))))), rfl⟩
theorem k_1420 : (Jvm.Cond.instanceMethod ({ cls := "LittleMixModel", name := "taken", desc := "(I)I" } : Jvm.MethodName)) ∈ mx_T := List.mem_filter.mpr ⟨List.mem_append_right _ ((List.mem_append_right _ (List.mem_append_right _ (List.mem_append_right _ (List.mem_append_right _ (List.mem_append_right _ (List.mem_of_getElem? (l := tables_1_6) (i := 220) (by decide +kernel)))))))), rfl⟩
theorem k_1421 : (Jvm.Cond.selects "LittleMixModel" ({ cls := "LittleMixModel", name := "taken", desc := "(I)I" } : Jvm.MethodName) ({ cls := "LittleMixModel", name := "taken", desc := "(I)I" } : Jvm.MethodName)) ∈ mx_T := List.mem_filter.mpr ⟨List.mem_append_right _ ((List.mem_append_right _ (List.mem_append_right _ (List.mem_append_right _ (List.mem_append_right _ (List.mem_append_right _ (List.mem_of_getElem? (l := tables_1_6) (i := 221) (by decide +kernel)))))))), rfl⟩
theorem k_1422 : (Jvm.Cond.code ({ cls := "LittleMixModel", name := "taken", desc := "(I)I" } : Jvm.MethodName) prog_14_method_73_code (2 : Nat) (Option.some Jvm.ClassFile.FieldType.int)) ∈ mx_T := List.mem_filter.mpr ⟨List.mem_append_right _ ((List.mem_append_right _ (List.mem_append_right _ (List.mem_append_right _ (List.mem_append_right _ (List.mem_append_right _ (List.mem_of_getElem? (l := tables_1_6) (i := 222) rfl))))))), rfl⟩
theorem k_1423 : (Jvm.Cond.fieldLink "java/lang/String" (9 : Nat) "java/lang/String" "value" "[B") ∈ mx_T := List.mem_filter.mpr ⟨List.mem_append_right _ ((List.mem_append_right _ (List.mem_append_right _ (List.mem_append_right _ (List.mem_append_right _ (List.mem_append_right _ (List.mem_of_getElem? (l := tables_1_6) (i := 223) (by decide +kernel)))))))), rfl⟩
theorem k_1424 : (Jvm.Cond.fieldLink "java/lang/String" (15 : Nat) "java/lang/String" "coder" "B") ∈ mx_T := List.mem_filter.mpr ⟨List.mem_append_right _ ((List.mem_append_right _ (List.mem_append_right _ (List.mem_append_right _ (List.mem_append_right _ (List.mem_append_right _ (List.mem_of_getElem? (l := tables_1_6) (i := 224) (by decide +kernel)))))))), rfl⟩
theorem s_Opn_learn : Cond.selects y_Opn_learn.cls y_Opn_learn y_Opn_learn ∈ mx_T := List.mem_filter.mpr ⟨List.mem_append_left _ (by decide +kernel), by decide +kernel⟩
theorem s_Reg_clearFrom : Cond.selects y_Reg_clearFrom.cls y_Reg_clearFrom y_Reg_clearFrom ∈ mx_T := List.mem_filter.mpr ⟨List.mem_append_left _ (by decide +kernel), by decide +kernel⟩
theorem s_Mac_decode : Cond.selects y_Mac_decode.cls y_Mac_decode y_Mac_decode ∈ mx_T := List.mem_filter.mpr ⟨List.mem_append_left _ (by decide +kernel), by decide +kernel⟩
theorem s_Mac_execute : Cond.selects y_Mac_execute.cls y_Mac_execute y_Mac_execute ∈ mx_T := List.mem_filter.mpr ⟨List.mem_append_left _ (by decide +kernel), by decide +kernel⟩
theorem s_Mac_step : Cond.selects y_Mac_step.cls y_Mac_step y_Mac_step ∈ mx_T := List.mem_filter.mpr ⟨List.mem_append_left _ (by decide +kernel), by decide +kernel⟩
theorem s_Mix_punch : Cond.selects y_Mix_punch.cls y_Mix_punch y_Mix_punch ∈ mx_T := List.mem_filter.mpr ⟨List.mem_append_left _ (by decide +kernel), by decide +kernel⟩
theorem s_Mod_setBack : Cond.selects y_Mod_setBack.cls y_Mod_setBack y_Mod_setBack ∈ mx_T := List.mem_filter.mpr ⟨List.mem_append_left _ (by decide +kernel), by decide +kernel⟩
theorem s_Mod_first : Cond.selects y_Mod_first.cls y_Mod_first y_Mod_first ∈ mx_T := List.mem_filter.mpr ⟨List.mem_append_left _ (by decide +kernel), by decide +kernel⟩
theorem s_Mod_second : Cond.selects y_Mod_second.cls y_Mod_second y_Mod_second ∈ mx_T := List.mem_filter.mpr ⟨List.mem_append_left _ (by decide +kernel), by decide +kernel⟩
theorem s_Mod_isOp : Cond.selects y_Mod_isOp.cls y_Mod_isOp y_Mod_isOp ∈ mx_T := List.mem_filter.mpr ⟨List.mem_append_left _ (by decide +kernel), by decide +kernel⟩
theorem s_Mod_step : Cond.selects y_Mod_step.cls y_Mod_step y_Mod_step ∈ mx_T := List.mem_filter.mpr ⟨List.mem_append_left _ (by decide +kernel), by decide +kernel⟩
theorem s_Mod_get : Cond.selects y_Mod_get.cls y_Mod_get y_Mod_get ∈ mx_T := List.mem_filter.mpr ⟨List.mem_append_left _ (by decide +kernel), by decide +kernel⟩
theorem s_Mod_getSpecial : Cond.selects y_Mod_getSpecial.cls y_Mod_getSpecial y_Mod_getSpecial ∈ mx_T := List.mem_filter.mpr ⟨List.mem_append_left _ (by decide +kernel), by decide +kernel⟩
theorem in_Mix : ∀ w ∈ u_ws R_Mix T_Mix 6, w ∈ mx_T := by decide +kernel
theorem in_Mem : ∀ w ∈ u_ws R_Mem T_Mem 1, w ∈ mx_T := by decide +kernel
theorem in_Reg : ∀ w ∈ u_ws R_Reg T_Reg 6, w ∈ mx_T := by decide +kernel
theorem in_Opn : ∀ w ∈ u_ws R_Opn T_Opn 1, w ∈ mx_T := by decide +kernel
theorem in_Lin : ∀ w ∈ u_ws R_Lin T_Lin 7, w ∈ mx_T := by decide +kernel
theorem in_Lab : ∀ w ∈ u_ws R_Lab T_Lab 6, w ∈ mx_T := by decide +kernel
theorem in_Sum : ∀ w ∈ u_ws R_Sum T_Sum 11, w ∈ mx_T := by decide +kernel
theorem in_Opd : ∀ w ∈ u_ws R_Opd T_Opd 6, w ∈ mx_T := by decide +kernel
theorem in_Asm : ∀ w ∈ u_ws R_Asm T_Asm 10, w ∈ mx_T := by decide +kernel
theorem in_Mac : ∀ w ∈ u_ws R_Mac T_Mac 16, w ∈ mx_T := by decide +kernel
theorem in_Mod : ∀ w ∈ u_ws R_Mod T_Mod 44, w ∈ mx_T := by decide +kernel
end
section
theorem d_Mix_init_0 : decode b_Mix_init 0 = .ok (.aload_n 0, 1) := by decide +kernel
theorem d_Mix_init_1 : decode b_Mix_init 1 = .ok (.invokespecial 1, 3) := by decide +kernel
theorem d_Mix_init_4 : decode b_Mix_init 4 = .ok (.aload_n 0, 1) := by decide +kernel
theorem d_Mix_init_5 : decode b_Mix_init 5 = .ok (.sipush 1600, 3) := by decide +kernel
theorem d_Mix_init_8 : decode b_Mix_init 8 = .ok (.newarray .char, 2) := by decide +kernel
theorem d_Mix_init_10 : decode b_Mix_init 10 = .ok (.putfield 9, 3) := by decide +kernel
theorem d_Mix_init_13 : decode b_Mix_init 13 = .ok (.aload_n 0, 1) := by decide +kernel
theorem d_Mix_init_14 : decode b_Mix_init 14 = .ok (.new 13, 3) := by decide +kernel
theorem d_Mix_init_17 : decode b_Mix_init 17 = .ok (.dup, 1) := by decide +kernel
theorem d_Mix_init_18 : decode b_Mix_init 18 = .ok (.invokespecial 15, 3) := by decide +kernel
theorem d_Mix_init_21 : decode b_Mix_init 21 = .ok (.putfield 16, 3) := by decide +kernel
theorem d_Mix_init_24 : decode b_Mix_init 24 = .ok (.aload_n 0, 1) := by decide +kernel
theorem d_Mix_init_25 : decode b_Mix_init 25 = .ok (.new 20, 3) := by decide +kernel
theorem d_Mix_init_28 : decode b_Mix_init 28 = .ok (.dup, 1) := by decide +kernel
theorem d_Mix_init_29 : decode b_Mix_init 29 = .ok (.invokespecial 22, 3) := by decide +kernel
theorem d_Mix_init_32 : decode b_Mix_init 32 = .ok (.putfield 23, 3) := by decide +kernel
theorem d_Mix_init_35 : decode b_Mix_init 35 = .ok (.aload_n 0, 1) := by decide +kernel
theorem d_Mix_init_36 : decode b_Mix_init 36 = .ok (.new 27, 3) := by decide +kernel
theorem d_Mix_init_39 : decode b_Mix_init 39 = .ok (.dup, 1) := by decide +kernel
theorem d_Mix_init_40 : decode b_Mix_init 40 = .ok (.aload_n 0, 1) := by decide +kernel
theorem d_Mix_init_41 : decode b_Mix_init 41 = .ok (.getfield 9, 3) := by decide +kernel
theorem d_Mix_init_44 : decode b_Mix_init 44 = .ok (.invokespecial 29, 3) := by decide +kernel
theorem d_Mix_init_47 : decode b_Mix_init 47 = .ok (.putfield 32, 3) := by decide +kernel
theorem d_Mix_init_50 : decode b_Mix_init 50 = .ok (.aload_n 0, 1) := by decide +kernel
theorem d_Mix_init_51 : decode b_Mix_init 51 = .ok (.new 36, 3) := by decide +kernel
theorem d_Mix_init_54 : decode b_Mix_init 54 = .ok (.dup, 1) := by decide +kernel
theorem d_Mix_init_55 : decode b_Mix_init 55 = .ok (.aload_n 0, 1) := by decide +kernel
theorem d_Mix_init_56 : decode b_Mix_init 56 = .ok (.getfield 16, 3) := by decide +kernel
theorem d_Mix_init_59 : decode b_Mix_init 59 = .ok (.aload_n 0, 1) := by decide +kernel
theorem d_Mix_init_60 : decode b_Mix_init 60 = .ok (.getfield 23, 3) := by decide +kernel
theorem d_Mix_init_63 : decode b_Mix_init 63 = .ok (.invokespecial 38, 3) := by decide +kernel
theorem d_Mix_init_66 : decode b_Mix_init 66 = .ok (.putfield 41, 3) := by decide +kernel
theorem d_Mix_init_69 : decode b_Mix_init 69 = .ok (.return_, 1) := by decide +kernel
theorem d_Mix_assemble_0 : decode b_Mix_assemble 0 = .ok (.iload_n 1, 1) := by decide +kernel
theorem d_Mix_assemble_1 : decode b_Mix_assemble 1 = .ok (.ifCond .lt 11, 3) := by decide +kernel
theorem d_Mix_assemble_4 : decode b_Mix_assemble 4 = .ok (.iload_n 1, 1) := by decide +kernel
theorem d_Mix_assemble_5 : decode b_Mix_assemble 5 = .ok (.aload_n 0, 1) := by decide +kernel
theorem d_Mix_assemble_6 : decode b_Mix_assemble 6 = .ok (.getfield 45, 3) := by decide +kernel
theorem d_Mix_assemble_9 : decode b_Mix_assemble 9 = .ok (.if_icmp .le 5, 3) := by decide +kernel
theorem d_Mix_assemble_12 : decode b_Mix_assemble 12 = .ok (.iconst (-1), 1) := by decide +kernel
theorem d_Mix_assemble_13 : decode b_Mix_assemble 13 = .ok (.ireturn, 1) := by decide +kernel
theorem d_Mix_assemble_14 : decode b_Mix_assemble 14 = .ok (.aload_n 0, 1) := by decide +kernel
theorem d_Mix_assemble_15 : decode b_Mix_assemble 15 = .ok (.iconst 0, 1) := by decide +kernel
theorem d_Mix_assemble_16 : decode b_Mix_assemble 16 = .ok (.putfield 45, 3) := by decide +kernel
theorem d_Mix_assemble_19 : decode b_Mix_assemble 19 = .ok (.aload_n 0, 1) := by decide +kernel
theorem d_Mix_assemble_20 : decode b_Mix_assemble 20 = .ok (.getfield 32, 3) := by decide +kernel
theorem d_Mix_assemble_23 : decode b_Mix_assemble 23 = .ok (.iload_n 1, 1) := by decide +kernel
theorem d_Mix_assemble_24 : decode b_Mix_assemble 24 = .ok (.invokevirtual 53, 3) := by decide +kernel
theorem d_Mix_assemble_27 : decode b_Mix_assemble 27 = .ok (.ifCond .ne 5, 3) := by decide +kernel
theorem d_Mix_assemble_32 : decode b_Mix_assemble 32 = .ok (.aload_n 0, 1) := by decide +kernel
theorem d_Mix_assemble_33 : decode b_Mix_assemble 33 = .ok (.getfield 16, 3) := by decide +kernel
theorem d_Mix_assemble_36 : decode b_Mix_assemble 36 = .ok (.aload_n 0, 1) := by decide +kernel
theorem d_Mix_assemble_37 : decode b_Mix_assemble 37 = .ok (.getfield 32, 3) := by decide +kernel
theorem d_Mix_assemble_40 : decode b_Mix_assemble 40 = .ok (.getfield 57, 3) := by decide +kernel
theorem d_Mix_assemble_43 : decode b_Mix_assemble 43 = .ok (.invokevirtual 60, 3) := by decide +kernel
theorem d_Mix_assemble_46 : decode b_Mix_assemble 46 = .ok (.aload_n 0, 1) := by decide +kernel
theorem d_Mix_assemble_47 : decode b_Mix_assemble 47 = .ok (.getfield 41, 3) := by decide +kernel
theorem d_Mix_assemble_50 : decode b_Mix_assemble 50 = .ok (.invokevirtual 64, 3) := by decide +kernel
theorem d_Mix_assemble_53 : decode b_Mix_assemble 53 = .ok (.iconst 0, 1) := by decide +kernel
theorem d_Mix_assemble_54 : decode b_Mix_assemble 54 = .ok (.ireturn, 1) := by decide +kernel
theorem d_Mix_back_0 : decode b_Mix_back 0 = .ok (.aload_n 0, 1) := by decide +kernel
theorem d_Mix_back_1 : decode b_Mix_back 1 = .ok (.getfield 41, 3) := by decide +kernel
theorem d_Mix_back_4 : decode b_Mix_back 4 = .ok (.invokevirtual 64, 3) := by decide +kernel
theorem d_Mix_back_7 : decode b_Mix_back 7 = .ok (.return_, 1) := by decide +kernel
theorem d_Mix_byteAt_0 : decode b_Mix_byteAt 0 = .ok (.aload_n 0, 1) := by decide +kernel
theorem d_Mix_byteAt_1 : decode b_Mix_byteAt 1 = .ok (.getfield 16, 3) := by decide +kernel
theorem d_Mix_byteAt_4 : decode b_Mix_byteAt 4 = .ok (.iload_n 1, 1) := by decide +kernel
theorem d_Mix_byteAt_5 : decode b_Mix_byteAt 5 = .ok (.i2l, 1) := by decide +kernel
theorem d_Mix_byteAt_6 : decode b_Mix_byteAt 6 = .ok (.iconst 1, 1) := by decide +kernel
theorem d_Mix_byteAt_7 : decode b_Mix_byteAt 7 = .ok (.invokevirtual 74, 3) := by decide +kernel
theorem d_Mix_byteAt_10 : decode b_Mix_byteAt 10 = .ok (.ifCond .eq 17, 3) := by decide +kernel
theorem d_Mix_byteAt_13 : decode b_Mix_byteAt 13 = .ok (.aload_n 0, 1) := by decide +kernel
theorem d_Mix_byteAt_14 : decode b_Mix_byteAt 14 = .ok (.getfield 16, 3) := by decide +kernel
theorem d_Mix_byteAt_17 : decode b_Mix_byteAt 17 = .ok (.iload_n 1, 1) := by decide +kernel
theorem d_Mix_byteAt_18 : decode b_Mix_byteAt 18 = .ok (.i2l, 1) := by decide +kernel
theorem d_Mix_byteAt_19 : decode b_Mix_byteAt 19 = .ok (.iconst 1, 1) := by decide +kernel
theorem d_Mix_byteAt_20 : decode b_Mix_byteAt 20 = .ok (.invokevirtual 78, 3) := by decide +kernel
theorem d_Mix_byteAt_23 : decode b_Mix_byteAt 23 = .ok (.l2i, 1) := by decide +kernel
theorem d_Mix_byteAt_24 : decode b_Mix_byteAt 24 = .ok (.goto 4, 3) := by decide +kernel
theorem d_Mix_byteAt_27 : decode b_Mix_byteAt 27 = .ok (.iconst (-1), 1) := by decide +kernel
theorem d_Mix_byteAt_28 : decode b_Mix_byteAt 28 = .ok (.ireturn, 1) := by decide +kernel
theorem d_Mix_feed_0 : decode b_Mix_feed 0 = .ok (.aload_n 0, 1) := by decide +kernel
theorem d_Mix_feed_1 : decode b_Mix_feed 1 = .ok (.getfield 45, 3) := by decide +kernel
theorem d_Mix_feed_4 : decode b_Mix_feed 4 = .ok (.sipush 1580, 3) := by decide +kernel
theorem d_Mix_feed_7 : decode b_Mix_feed 7 = .ok (.if_icmp .le 5, 3) := by decide +kernel
theorem d_Mix_feed_12 : decode b_Mix_feed 12 = .ok (.aload_n 0, 1) := by decide +kernel
theorem d_Mix_feed_13 : decode b_Mix_feed 13 = .ok (.iload_n 1, 1) := by decide +kernel
theorem d_Mix_feed_14 : decode b_Mix_feed 14 = .ok (.invokevirtual 49, 3) := by decide +kernel
theorem d_Mix_feed_17 : decode b_Mix_feed 17 = .ok (.aload_n 0, 1) := by decide +kernel
theorem d_Mix_feed_18 : decode b_Mix_feed 18 = .ok (.iload_n 2, 1) := by decide +kernel
theorem d_Mix_feed_19 : decode b_Mix_feed 19 = .ok (.invokevirtual 49, 3) := by decide +kernel
theorem d_Mix_feed_22 : decode b_Mix_feed 22 = .ok (.aload_n 0, 1) := by decide +kernel
theorem d_Mix_feed_23 : decode b_Mix_feed 23 = .ok (.iload_n 3, 1) := by decide +kernel
theorem d_Mix_feed_24 : decode b_Mix_feed 24 = .ok (.invokevirtual 49, 3) := by decide +kernel
theorem d_Mix_feed_27 : decode b_Mix_feed 27 = .ok (.aload_n 0, 1) := by decide +kernel
theorem d_Mix_feed_28 : decode b_Mix_feed 28 = .ok (.iload 4, 2) := by decide +kernel
theorem d_Mix_feed_30 : decode b_Mix_feed 30 = .ok (.invokevirtual 49, 3) := by decide +kernel
theorem d_Mix_feed_33 : decode b_Mix_feed 33 = .ok (.aload_n 0, 1) := by decide +kernel
theorem d_Mix_feed_34 : decode b_Mix_feed 34 = .ok (.iload 5, 2) := by decide +kernel
theorem d_Mix_feed_36 : decode b_Mix_feed 36 = .ok (.invokevirtual 49, 3) := by decide +kernel
theorem d_Mix_feed_39 : decode b_Mix_feed 39 = .ok (.iconst 1, 1) := by decide +kernel
theorem d_Mix_feed_40 : decode b_Mix_feed 40 = .ok (.ireturn, 1) := by decide +kernel
theorem d_Mix_illAt_0 : decode b_Mix_illAt 0 = .ok (.aload_n 0, 1) := by decide +kernel
theorem d_Mix_illAt_1 : decode b_Mix_illAt 1 = .ok (.getfield 32, 3) := by decide +kernel
theorem d_Mix_illAt_4 : decode b_Mix_illAt 4 = .ok (.getfield 67, 3) := by decide +kernel
theorem d_Mix_illAt_7 : decode b_Mix_illAt 7 = .ok (.ireturn, 1) := by decide +kernel
theorem d_Mix_label_0 : decode b_Mix_label 0 = .ok (.aload_n 0, 1) := by decide +kernel
theorem d_Mix_label_1 : decode b_Mix_label 1 = .ok (.getfield 32, 3) := by decide +kernel
theorem d_Mix_label_4 : decode b_Mix_label 4 = .ok (.iload_n 1, 1) := by decide +kernel
theorem d_Mix_label_5 : decode b_Mix_label 5 = .ok (.invokevirtual 70, 3) := by decide +kernel
theorem d_Mix_label_8 : decode b_Mix_label 8 = .ok (.lreturn, 1) := by decide +kernel
theorem d_Mix_place_0 : decode b_Mix_place 0 = .ok (.aload_n 0, 1) := by decide +kernel
theorem d_Mix_place_1 : decode b_Mix_place 1 = .ok (.getfield 41, 3) := by decide +kernel
theorem d_Mix_place_4 : decode b_Mix_place 4 = .ok (.getfield 100, 3) := by decide +kernel
theorem d_Mix_place_7 : decode b_Mix_place 7 = .ok (.lreturn, 1) := by decide +kernel
theorem d_Mix_punch_0 : decode b_Mix_punch 0 = .ok (.bipush 24, 2) := by decide +kernel
theorem d_Mix_punch_2 : decode b_Mix_punch 2 = .ok (.istore_n 2, 1) := by decide +kernel
theorem d_Mix_punch_3 : decode b_Mix_punch 3 = .ok (.iload_n 2, 1) := by decide +kernel
theorem d_Mix_punch_4 : decode b_Mix_punch 4 = .ok (.ifCond .lt 48, 3) := by decide +kernel
theorem d_Mix_punch_7 : decode b_Mix_punch 7 = .ok (.aload_n 0, 1) := by decide +kernel
theorem d_Mix_punch_8 : decode b_Mix_punch 8 = .ok (.getfield 45, 3) := by decide +kernel
theorem d_Mix_punch_11 : decode b_Mix_punch 11 = .ok (.aload_n 0, 1) := by decide +kernel
theorem d_Mix_punch_12 : decode b_Mix_punch 12 = .ok (.getfield 9, 3) := by decide +kernel
theorem d_Mix_punch_15 : decode b_Mix_punch 15 = .ok (.arraylength, 1) := by decide +kernel
theorem d_Mix_punch_16 : decode b_Mix_punch 16 = .ok (.if_icmp .ge 30, 3) := by decide +kernel
theorem d_Mix_punch_19 : decode b_Mix_punch 19 = .ok (.aload_n 0, 1) := by decide +kernel
theorem d_Mix_punch_20 : decode b_Mix_punch 20 = .ok (.getfield 9, 3) := by decide +kernel
theorem d_Mix_punch_23 : decode b_Mix_punch 23 = .ok (.aload_n 0, 1) := by decide +kernel
theorem d_Mix_punch_24 : decode b_Mix_punch 24 = .ok (.getfield 45, 3) := by decide +kernel
theorem d_Mix_punch_27 : decode b_Mix_punch 27 = .ok (.iload_n 1, 1) := by decide +kernel
theorem d_Mix_punch_28 : decode b_Mix_punch 28 = .ok (.iload_n 2, 1) := by decide +kernel
theorem d_Mix_punch_29 : decode b_Mix_punch 29 = .ok (.iushr, 1) := by decide +kernel
theorem d_Mix_punch_30 : decode b_Mix_punch 30 = .ok (.sipush 255, 3) := by decide +kernel
theorem d_Mix_punch_33 : decode b_Mix_punch 33 = .ok (.iand, 1) := by decide +kernel
theorem d_Mix_punch_34 : decode b_Mix_punch 34 = .ok (.i2c, 1) := by decide +kernel
theorem d_Mix_punch_35 : decode b_Mix_punch 35 = .ok (.castore, 1) := by decide +kernel
theorem d_Mix_punch_36 : decode b_Mix_punch 36 = .ok (.aload_n 0, 1) := by decide +kernel
theorem d_Mix_punch_37 : decode b_Mix_punch 37 = .ok (.dup, 1) := by decide +kernel
theorem d_Mix_punch_38 : decode b_Mix_punch 38 = .ok (.getfield 45, 3) := by decide +kernel
theorem d_Mix_punch_41 : decode b_Mix_punch 41 = .ok (.iconst 1, 1) := by decide +kernel
theorem d_Mix_punch_42 : decode b_Mix_punch 42 = .ok (.iadd, 1) := by decide +kernel
theorem d_Mix_punch_43 : decode b_Mix_punch 43 = .ok (.putfield 45, 3) := by decide +kernel
theorem d_Mix_punch_46 : decode b_Mix_punch 46 = .ok (.iinc 2 (-8), 3) := by decide +kernel
theorem d_Mix_punch_49 : decode b_Mix_punch 49 = .ok (.goto (-46), 3) := by decide +kernel
theorem d_Mix_punch_52 : decode b_Mix_punch 52 = .ok (.return_, 1) := by decide +kernel
theorem d_Mix_register_0 : decode b_Mix_register 0 = .ok (.aload_n 0, 1) := by decide +kernel
theorem d_Mix_register_1 : decode b_Mix_register 1 = .ok (.getfield 23, 3) := by decide +kernel
theorem d_Mix_register_4 : decode b_Mix_register 4 = .ok (.iload_n 1, 1) := by decide +kernel
theorem d_Mix_register_5 : decode b_Mix_register 5 = .ok (.invokevirtual 95, 3) := by decide +kernel
theorem d_Mix_register_8 : decode b_Mix_register 8 = .ok (.lreturn, 1) := by decide +kernel
theorem d_Mix_run_0 : decode b_Mix_run 0 = .ok (.iload_n 1, 1) := by decide +kernel
theorem d_Mix_run_1 : decode b_Mix_run 1 = .ok (.ifCond .lt 10, 3) := by decide +kernel
theorem d_Mix_run_4 : decode b_Mix_run 4 = .ok (.iload_n 1, 1) := by decide +kernel
theorem d_Mix_run_5 : decode b_Mix_run 5 = .ok (.sipush 5000, 3) := by decide +kernel
theorem d_Mix_run_8 : decode b_Mix_run 8 = .ok (.if_icmp .le 7, 3) := by decide +kernel
theorem d_Mix_run_11 : decode b_Mix_run 11 = .ok (.iconst 0, 1) := by decide +kernel
theorem d_Mix_run_12 : decode b_Mix_run 12 = .ok (.goto 11, 3) := by decide +kernel
theorem d_Mix_run_15 : decode b_Mix_run 15 = .ok (.aload_n 0, 1) := by decide +kernel
theorem d_Mix_run_16 : decode b_Mix_run 16 = .ok (.getfield 41, 3) := by decide +kernel
theorem d_Mix_run_19 : decode b_Mix_run 19 = .ok (.iload_n 1, 1) := by decide +kernel
theorem d_Mix_run_20 : decode b_Mix_run 20 = .ok (.invokevirtual 88, 3) := by decide +kernel
theorem d_Mix_run_23 : decode b_Mix_run 23 = .ok (.ireturn, 1) := by decide +kernel
theorem d_Mix_special_0 : decode b_Mix_special 0 = .ok (.aload_n 0, 1) := by decide +kernel
theorem d_Mix_special_1 : decode b_Mix_special 1 = .ok (.getfield 23, 3) := by decide +kernel
theorem d_Mix_special_4 : decode b_Mix_special 4 = .ok (.iload_n 1, 1) := by decide +kernel
theorem d_Mix_special_5 : decode b_Mix_special 5 = .ok (.invokevirtual 97, 3) := by decide +kernel
theorem d_Mix_special_8 : decode b_Mix_special 8 = .ok (.lreturn, 1) := by decide +kernel
theorem d_Mix_stopped_0 : decode b_Mix_stopped 0 = .ok (.aload_n 0, 1) := by decide +kernel
theorem d_Mix_stopped_1 : decode b_Mix_stopped 1 = .ok (.getfield 41, 3) := by decide +kernel
theorem d_Mix_stopped_4 : decode b_Mix_stopped 4 = .ok (.getfield 92, 3) := by decide +kernel
theorem d_Mix_stopped_7 : decode b_Mix_stopped 7 = .ok (.ireturn, 1) := by decide +kernel
theorem d_Mix_store_0 : decode b_Mix_store 0 = .ok (.aload_n 0, 1) := by decide +kernel
theorem d_Mix_store_1 : decode b_Mix_store 1 = .ok (.getfield 16, 3) := by decide +kernel
theorem d_Mix_store_4 : decode b_Mix_store 4 = .ok (.iload_n 1, 1) := by decide +kernel
theorem d_Mix_store_5 : decode b_Mix_store 5 = .ok (.i2l, 1) := by decide +kernel
theorem d_Mix_store_6 : decode b_Mix_store 6 = .ok (.bipush 8, 2) := by decide +kernel
theorem d_Mix_store_8 : decode b_Mix_store 8 = .ok (.invokevirtual 74, 3) := by decide +kernel
theorem d_Mix_store_11 : decode b_Mix_store 11 = .ok (.ifCond .eq 10, 3) := by decide +kernel
theorem d_Mix_store_14 : decode b_Mix_store 14 = .ok (.iload_n 1, 1) := by decide +kernel
theorem d_Mix_store_15 : decode b_Mix_store 15 = .ok (.bipush 7, 2) := by decide +kernel
theorem d_Mix_store_17 : decode b_Mix_store 17 = .ok (.iand, 1) := by decide +kernel
theorem d_Mix_store_18 : decode b_Mix_store 18 = .ok (.ifCond .eq 5, 3) := by decide +kernel
theorem d_Mix_store_21 : decode b_Mix_store 21 = .ok (.iconst 0, 1) := by decide +kernel
theorem d_Mix_store_22 : decode b_Mix_store 22 = .ok (.ireturn, 1) := by decide +kernel
theorem d_Mix_store_23 : decode b_Mix_store 23 = .ok (.aload_n 0, 1) := by decide +kernel
theorem d_Mix_store_24 : decode b_Mix_store 24 = .ok (.getfield 16, 3) := by decide +kernel
theorem d_Mix_store_27 : decode b_Mix_store 27 = .ok (.iload_n 1, 1) := by decide +kernel
theorem d_Mix_store_28 : decode b_Mix_store 28 = .ok (.i2l, 1) := by decide +kernel
theorem d_Mix_store_29 : decode b_Mix_store 29 = .ok (.bipush 8, 2) := by decide +kernel
theorem d_Mix_store_31 : decode b_Mix_store 31 = .ok (.iload_n 2, 1) := by decide +kernel
theorem d_Mix_store_32 : decode b_Mix_store 32 = .ok (.i2l, 1) := by decide +kernel
theorem d_Mix_store_33 : decode b_Mix_store 33 = .ok (.bipush 32, 2) := by decide +kernel
theorem d_Mix_store_35 : decode b_Mix_store 35 = .ok (.lshl, 1) := by decide +kernel
theorem d_Mix_store_36 : decode b_Mix_store 36 = .ok (.iload_n 3, 1) := by decide +kernel
theorem d_Mix_store_37 : decode b_Mix_store 37 = .ok (.i2l, 1) := by decide +kernel
theorem d_Mix_store_38 : decode b_Mix_store 38 = .ok (.ldc2_w 82, 3) := by decide +kernel
theorem d_Mix_store_41 : decode b_Mix_store 41 = .ok (.land, 1) := by decide +kernel
theorem d_Mix_store_42 : decode b_Mix_store 42 = .ok (.lor, 1) := by decide +kernel
theorem d_Mix_store_43 : decode b_Mix_store 43 = .ok (.invokevirtual 84, 3) := by decide +kernel
theorem d_Mix_store_46 : decode b_Mix_store 46 = .ok (.iconst 1, 1) := by decide +kernel
theorem d_Mix_store_47 : decode b_Mix_store 47 = .ok (.ireturn, 1) := by decide +kernel
theorem d_Mix_taken_0 : decode b_Mix_taken 0 = .ok (.iload_n 1, 1) := by decide +kernel
theorem d_Mix_taken_1 : decode b_Mix_taken 1 = .ok (.tableswitch 51 0 2 #[27, 35, 43], 27) := by decide +kernel
theorem d_Mix_taken_28 : decode b_Mix_taken 28 = .ok (.aload_n 0, 1) := by decide +kernel
theorem d_Mix_taken_29 : decode b_Mix_taken 29 = .ok (.getfield 41, 3) := by decide +kernel
theorem d_Mix_taken_32 : decode b_Mix_taken 32 = .ok (.getfield 104, 3) := by decide +kernel
theorem d_Mix_taken_35 : decode b_Mix_taken 35 = .ok (.ireturn, 1) := by decide +kernel
theorem d_Mix_taken_36 : decode b_Mix_taken 36 = .ok (.aload_n 0, 1) := by decide +kernel
theorem d_Mix_taken_37 : decode b_Mix_taken 37 = .ok (.getfield 41, 3) := by decide +kernel
theorem d_Mix_taken_40 : decode b_Mix_taken 40 = .ok (.getfield 107, 3) := by decide +kernel
theorem d_Mix_taken_43 : decode b_Mix_taken 43 = .ok (.ireturn, 1) := by decide +kernel
theorem d_Mix_taken_44 : decode b_Mix_taken 44 = .ok (.aload_n 0, 1) := by decide +kernel
theorem d_Mix_taken_45 : decode b_Mix_taken 45 = .ok (.getfield 23, 3) := by decide +kernel
theorem d_Mix_taken_48 : decode b_Mix_taken 48 = .ok (.getfield 110, 3) := by decide +kernel
theorem d_Mix_taken_51 : decode b_Mix_taken 51 = .ok (.ireturn, 1) := by decide +kernel
theorem d_Mix_taken_52 : decode b_Mix_taken 52 = .ok (.iconst (-1), 1) := by decide +kernel
theorem d_Mix_taken_53 : decode b_Mix_taken 53 = .ok (.ireturn, 1) := by decide +kernel
theorem d_Asm_init_0 : decode b_Asm_init 0 = .ok (.aload_n 0, 1) := by decide +kernel
theorem d_Asm_init_1 : decode b_Asm_init 1 = .ok (.invokespecial 3, 3) := by decide +kernel
theorem d_Asm_init_4 : decode b_Asm_init 4 = .ok (.aload_n 0, 1) := by decide +kernel
theorem d_Asm_init_5 : decode b_Asm_init 5 = .ok (.new 9, 3) := by decide +kernel
theorem d_Asm_init_8 : decode b_Asm_init 8 = .ok (.dup, 1) := by decide +kernel
theorem d_Asm_init_9 : decode b_Asm_init 9 = .ok (.invokespecial 11, 3) := by decide +kernel
theorem d_Asm_init_12 : decode b_Asm_init 12 = .ok (.putfield 12, 3) := by decide +kernel
theorem d_Asm_init_15 : decode b_Asm_init 15 = .ok (.aload_n 0, 1) := by decide +kernel
theorem d_Asm_init_16 : decode b_Asm_init 16 = .ok (.bipush 40, 2) := by decide +kernel
theorem d_Asm_init_18 : decode b_Asm_init 18 = .ok (.newarray .long, 2) := by decide +kernel
theorem d_Asm_init_20 : decode b_Asm_init 20 = .ok (.putfield 20, 3) := by decide +kernel
theorem d_Asm_init_23 : decode b_Asm_init 23 = .ok (.aload_n 0, 1) := by decide +kernel
theorem d_Asm_init_24 : decode b_Asm_init 24 = .ok (.new 24, 3) := by decide +kernel
theorem d_Asm_init_27 : decode b_Asm_init 27 = .ok (.dup, 1) := by decide +kernel
theorem d_Asm_init_28 : decode b_Asm_init 28 = .ok (.invokespecial 26, 3) := by decide +kernel
theorem d_Asm_init_31 : decode b_Asm_init 31 = .ok (.putfield 27, 3) := by decide +kernel
theorem d_Asm_init_34 : decode b_Asm_init 34 = .ok (.aload_n 0, 1) := by decide +kernel
theorem d_Asm_init_35 : decode b_Asm_init 35 = .ok (.iconst (-1), 1) := by decide +kernel
theorem d_Asm_init_36 : decode b_Asm_init 36 = .ok (.putfield 31, 3) := by decide +kernel
theorem d_Asm_init_39 : decode b_Asm_init 39 = .ok (.aload_n 0, 1) := by decide +kernel
theorem d_Asm_init_40 : decode b_Asm_init 40 = .ok (.new 18, 3) := by decide +kernel
theorem d_Asm_init_43 : decode b_Asm_init 43 = .ok (.dup, 1) := by decide +kernel
theorem d_Asm_init_44 : decode b_Asm_init 44 = .ok (.aload_n 1, 1) := by decide +kernel
theorem d_Asm_init_45 : decode b_Asm_init 45 = .ok (.invokespecial 35, 3) := by decide +kernel
theorem d_Asm_init_48 : decode b_Asm_init 48 = .ok (.putfield 38, 3) := by decide +kernel
theorem d_Asm_init_51 : decode b_Asm_init 51 = .ok (.aload_n 0, 1) := by decide +kernel
theorem d_Asm_init_52 : decode b_Asm_init 52 = .ok (.new 42, 3) := by decide +kernel
theorem d_Asm_init_55 : decode b_Asm_init 55 = .ok (.dup, 1) := by decide +kernel
theorem d_Asm_init_56 : decode b_Asm_init 56 = .ok (.aload_n 1, 1) := by decide +kernel
theorem d_Asm_init_57 : decode b_Asm_init 57 = .ok (.invokespecial 44, 3) := by decide +kernel
theorem d_Asm_init_60 : decode b_Asm_init 60 = .ok (.putfield 45, 3) := by decide +kernel
theorem d_Asm_init_63 : decode b_Asm_init 63 = .ok (.aload_n 0, 1) := by decide +kernel
theorem d_Asm_init_64 : decode b_Asm_init 64 = .ok (.new 49, 3) := by decide +kernel
end
section
theorem d_Asm_init_67 : decode b_Asm_init 67 = .ok (.dup, 1) := by decide +kernel
theorem d_Asm_init_68 : decode b_Asm_init 68 = .ok (.aload_n 1, 1) := by decide +kernel
theorem d_Asm_init_69 : decode b_Asm_init 69 = .ok (.aload_n 0, 1) := by decide +kernel
theorem d_Asm_init_70 : decode b_Asm_init 70 = .ok (.getfield 38, 3) := by decide +kernel
theorem d_Asm_init_73 : decode b_Asm_init 73 = .ok (.invokespecial 51, 3) := by decide +kernel
theorem d_Asm_init_76 : decode b_Asm_init 76 = .ok (.putfield 54, 3) := by decide +kernel
theorem d_Asm_init_79 : decode b_Asm_init 79 = .ok (.return_, 1) := by decide +kernel
theorem d_Asm_answer_0 : decode b_Asm_answer 0 = .ok (.iload_n 1, 1) := by decide +kernel
theorem d_Asm_answer_1 : decode b_Asm_answer 1 = .ok (.ifCond .lt 29, 3) := by decide +kernel
theorem d_Asm_answer_4 : decode b_Asm_answer 4 = .ok (.iload_n 1, 1) := by decide +kernel
theorem d_Asm_answer_5 : decode b_Asm_answer 5 = .ok (.aload_n 0, 1) := by decide +kernel
theorem d_Asm_answer_6 : decode b_Asm_answer 6 = .ok (.getfield 58, 3) := by decide +kernel
theorem d_Asm_answer_9 : decode b_Asm_answer 9 = .ok (.if_icmp .ge 21, 3) := by decide +kernel
theorem d_Asm_answer_30 : decode b_Asm_answer 30 = .ok (.ldc2_w 61, 3) := by decide +kernel
theorem d_Asm_answer_33 : decode b_Asm_answer 33 = .ok (.lreturn, 1) := by decide +kernel
theorem d_Asm_translate_0 : decode b_Asm_translate 0 = .ok (.aload_n 0, 1) := by decide +kernel
theorem d_Asm_translate_1 : decode b_Asm_translate 1 = .ok (.getfield 38, 3) := by decide +kernel
theorem d_Asm_translate_4 : decode b_Asm_translate 4 = .ok (.invokevirtual 63, 3) := by decide +kernel
theorem d_Asm_translate_7 : decode b_Asm_translate 7 = .ok (.aload_n 0, 1) := by decide +kernel
theorem d_Asm_translate_8 : decode b_Asm_translate 8 = .ok (.getfield 27, 3) := by decide +kernel
theorem d_Asm_translate_11 : decode b_Asm_translate 11 = .ok (.invokevirtual 66, 3) := by decide +kernel
theorem d_Asm_translate_14 : decode b_Asm_translate 14 = .ok (.aload_n 0, 1) := by decide +kernel
theorem d_Asm_translate_15 : decode b_Asm_translate 15 = .ok (.iconst (-1), 1) := by decide +kernel
theorem d_Asm_translate_16 : decode b_Asm_translate 16 = .ok (.putfield 31, 3) := by decide +kernel
theorem d_Asm_translate_19 : decode b_Asm_translate 19 = .ok (.iconst 0, 1) := by decide +kernel
theorem d_Asm_translate_20 : decode b_Asm_translate 20 = .ok (.istore_n 2, 1) := by decide +kernel
theorem d_Asm_translate_21 : decode b_Asm_translate 21 = .ok (.iload_n 2, 1) := by decide +kernel
theorem d_Asm_translate_22 : decode b_Asm_translate 22 = .ok (.iconst 2, 1) := by decide +kernel
theorem d_Asm_translate_23 : decode b_Asm_translate 23 = .ok (.if_icmp .ge 160, 3) := by decide +kernel
theorem d_Asm_translate_26 : decode b_Asm_translate 26 = .ok (.aload_n 0, 1) := by decide +kernel
theorem d_Asm_translate_27 : decode b_Asm_translate 27 = .ok (.getfield 31, 3) := by decide +kernel
theorem d_Asm_translate_30 : decode b_Asm_translate 30 = .ok (.iconst (-1), 1) := by decide +kernel
theorem d_Asm_translate_31 : decode b_Asm_translate 31 = .ok (.if_icmp .ne 152, 3) := by decide +kernel
theorem d_Asm_translate_34 : decode b_Asm_translate 34 = .ok (.iload_n 2, 1) := by decide +kernel
theorem d_Asm_translate_35 : decode b_Asm_translate 35 = .ok (.ifCond .ne 7, 3) := by decide +kernel
theorem d_Asm_translate_38 : decode b_Asm_translate 38 = .ok (.iconst 1, 1) := by decide +kernel
theorem d_Asm_translate_39 : decode b_Asm_translate 39 = .ok (.goto 4, 3) := by decide +kernel
theorem d_Asm_translate_42 : decode b_Asm_translate 42 = .ok (.iconst 0, 1) := by decide +kernel
theorem d_Asm_translate_43 : decode b_Asm_translate 43 = .ok (.istore_n 3, 1) := by decide +kernel
theorem d_Asm_translate_44 : decode b_Asm_translate 44 = .ok (.aload_n 0, 1) := by decide +kernel
theorem d_Asm_translate_45 : decode b_Asm_translate 45 = .ok (.sipush 256, 3) := by decide +kernel
theorem d_Asm_translate_48 : decode b_Asm_translate 48 = .ok (.putfield 67, 3) := by decide +kernel
theorem d_Asm_translate_51 : decode b_Asm_translate 51 = .ok (.aload_n 0, 1) := by decide +kernel
theorem d_Asm_translate_52 : decode b_Asm_translate 52 = .ok (.iconst 0, 1) := by decide +kernel
theorem d_Asm_translate_53 : decode b_Asm_translate 53 = .ok (.putfield 70, 3) := by decide +kernel
theorem d_Asm_translate_56 : decode b_Asm_translate 56 = .ok (.iconst 0, 1) := by decide +kernel
theorem d_Asm_translate_57 : decode b_Asm_translate 57 = .ok (.istore 4, 2) := by decide +kernel
theorem d_Asm_translate_59 : decode b_Asm_translate 59 = .ok (.iconst 0, 1) := by decide +kernel
theorem d_Asm_translate_60 : decode b_Asm_translate 60 = .ok (.istore 5, 2) := by decide +kernel
theorem d_Asm_translate_62 : decode b_Asm_translate 62 = .ok (.iload 5, 2) := by decide +kernel
theorem d_Asm_translate_64 : decode b_Asm_translate 64 = .ok (.iload_n 1, 1) := by decide +kernel
theorem d_Asm_translate_65 : decode b_Asm_translate 65 = .ok (.if_icmp .ge 112, 3) := by decide +kernel
theorem d_Asm_translate_177 : decode b_Asm_translate 177 = .ok (.iinc 2 1, 3) := by decide +kernel
theorem d_Asm_translate_180 : decode b_Asm_translate 180 = .ok (.goto (-159), 3) := by decide +kernel
theorem d_Asm_translate_183 : decode b_Asm_translate 183 = .ok (.aload_n 0, 1) := by decide +kernel
theorem d_Asm_translate_184 : decode b_Asm_translate 184 = .ok (.getfield 31, 3) := by decide +kernel
theorem d_Asm_translate_187 : decode b_Asm_translate 187 = .ok (.iconst (-1), 1) := by decide +kernel
theorem d_Asm_translate_188 : decode b_Asm_translate 188 = .ok (.if_icmp .ne 18, 3) := by decide +kernel
theorem d_Asm_translate_191 : decode b_Asm_translate 191 = .ok (.aload_n 0, 1) := by decide +kernel
theorem d_Asm_translate_192 : decode b_Asm_translate 192 = .ok (.aload_n 0, 1) := by decide +kernel
theorem d_Asm_translate_193 : decode b_Asm_translate 193 = .ok (.getfield 38, 3) := by decide +kernel
theorem d_Asm_translate_196 : decode b_Asm_translate 196 = .ok (.aload_n 0, 1) := by decide +kernel
theorem d_Asm_translate_197 : decode b_Asm_translate 197 = .ok (.getfield 20, 3) := by decide +kernel
theorem d_Asm_translate_200 : decode b_Asm_translate 200 = .ok (.invokevirtual 94, 3) := by decide +kernel
theorem d_Asm_translate_203 : decode b_Asm_translate 203 = .ok (.putfield 58, 3) := by decide +kernel
theorem d_Asm_translate_206 : decode b_Asm_translate 206 = .ok (.aload_n 0, 1) := by decide +kernel
theorem d_Asm_translate_207 : decode b_Asm_translate 207 = .ok (.getfield 31, 3) := by decide +kernel
theorem d_Asm_translate_210 : decode b_Asm_translate 210 = .ok (.iconst (-1), 1) := by decide +kernel
theorem d_Asm_translate_211 : decode b_Asm_translate 211 = .ok (.if_icmp .ne 7, 3) := by decide +kernel
theorem d_Asm_translate_214 : decode b_Asm_translate 214 = .ok (.iconst 1, 1) := by decide +kernel
theorem d_Asm_translate_215 : decode b_Asm_translate 215 = .ok (.goto 4, 3) := by decide +kernel
theorem d_Asm_translate_219 : decode b_Asm_translate 219 = .ok (.ireturn, 1) := by decide +kernel
theorem d_Lab_init_0 : decode b_Lab_init 0 = .ok (.aload_n 0, 1) := by decide +kernel
theorem d_Lab_init_1 : decode b_Lab_init 1 = .ok (.invokespecial 3, 3) := by decide +kernel
theorem d_Lab_init_4 : decode b_Lab_init 4 = .ok (.aload_n 0, 1) := by decide +kernel
theorem d_Lab_init_5 : decode b_Lab_init 5 = .ok (.bipush 40, 2) := by decide +kernel
theorem d_Lab_init_7 : decode b_Lab_init 7 = .ok (.newarray .int, 2) := by decide +kernel
theorem d_Lab_init_9 : decode b_Lab_init 9 = .ok (.putfield 11, 3) := by decide +kernel
theorem d_Lab_init_12 : decode b_Lab_init 12 = .ok (.aload_n 0, 1) := by decide +kernel
theorem d_Lab_init_13 : decode b_Lab_init 13 = .ok (.bipush 40, 2) := by decide +kernel
theorem d_Lab_init_15 : decode b_Lab_init 15 = .ok (.newarray .int, 2) := by decide +kernel
theorem d_Lab_init_17 : decode b_Lab_init 17 = .ok (.putfield 15, 3) := by decide +kernel
theorem d_Lab_init_20 : decode b_Lab_init 20 = .ok (.aload_n 0, 1) := by decide +kernel
theorem d_Lab_init_21 : decode b_Lab_init 21 = .ok (.bipush 40, 2) := by decide +kernel
theorem d_Lab_init_23 : decode b_Lab_init 23 = .ok (.newarray .long, 2) := by decide +kernel
theorem d_Lab_init_25 : decode b_Lab_init 25 = .ok (.putfield 18, 3) := by decide +kernel
theorem d_Lab_init_28 : decode b_Lab_init 28 = .ok (.aload_n 0, 1) := by decide +kernel
theorem d_Lab_init_29 : decode b_Lab_init 29 = .ok (.bipush 40, 2) := by decide +kernel
theorem d_Lab_init_31 : decode b_Lab_init 31 = .ok (.newarray .boolean, 2) := by decide +kernel
theorem d_Lab_init_33 : decode b_Lab_init 33 = .ok (.putfield 22, 3) := by decide +kernel
theorem d_Lab_init_36 : decode b_Lab_init 36 = .ok (.aload_n 0, 1) := by decide +kernel
theorem d_Lab_init_37 : decode b_Lab_init 37 = .ok (.aload_n 1, 1) := by decide +kernel
theorem d_Lab_init_38 : decode b_Lab_init 38 = .ok (.putfield 26, 3) := by decide +kernel
theorem d_Lab_init_41 : decode b_Lab_init 41 = .ok (.return_, 1) := by decide +kernel
theorem d_Lab_clear_0 : decode b_Lab_clear 0 = .ok (.aload_n 0, 1) := by decide +kernel
theorem d_Lab_clear_1 : decode b_Lab_clear 1 = .ok (.iconst 0, 1) := by decide +kernel
theorem d_Lab_clear_2 : decode b_Lab_clear 2 = .ok (.putfield 30, 3) := by decide +kernel
theorem d_Lab_clear_5 : decode b_Lab_clear 5 = .ok (.return_, 1) := by decide +kernel
theorem d_Lab_tell_0 : decode b_Lab_tell 0 = .ok (.iconst 0, 1) := by decide +kernel
theorem d_Lab_tell_1 : decode b_Lab_tell 1 = .ok (.istore_n 2, 1) := by decide +kernel
theorem d_Lab_tell_2 : decode b_Lab_tell 2 = .ok (.iload_n 2, 1) := by decide +kernel
theorem d_Lab_tell_3 : decode b_Lab_tell 3 = .ok (.aload_n 0, 1) := by decide +kernel
theorem d_Lab_tell_4 : decode b_Lab_tell 4 = .ok (.getfield 30, 3) := by decide +kernel
theorem d_Lab_tell_7 : decode b_Lab_tell 7 = .ok (.if_icmp .ge 46, 3) := by decide +kernel
theorem d_Lab_tell_53 : decode b_Lab_tell 53 = .ok (.aload_n 0, 1) := by decide +kernel
theorem d_Lab_tell_54 : decode b_Lab_tell 54 = .ok (.getfield 30, 3) := by decide +kernel
theorem d_Lab_tell_57 : decode b_Lab_tell 57 = .ok (.ireturn, 1) := by decide +kernel
theorem d_Lin_init_0 : decode b_Lin_init 0 = .ok (.aload_n 0, 1) := by decide +kernel
theorem d_Lin_init_1 : decode b_Lin_init 1 = .ok (.invokespecial 3, 3) := by decide +kernel
theorem d_Lin_init_4 : decode b_Lin_init 4 = .ok (.aload_n 0, 1) := by decide +kernel
theorem d_Lin_init_5 : decode b_Lin_init 5 = .ok (.new 9, 3) := by decide +kernel
theorem d_Lin_init_8 : decode b_Lin_init 8 = .ok (.dup, 1) := by decide +kernel
theorem d_Lin_init_9 : decode b_Lin_init 9 = .ok (.invokespecial 11, 3) := by decide +kernel
theorem d_Lin_init_12 : decode b_Lin_init 12 = .ok (.putfield 12, 3) := by decide +kernel
theorem d_Lin_init_15 : decode b_Lin_init 15 = .ok (.aload_n 0, 1) := by decide +kernel
theorem d_Lin_init_16 : decode b_Lin_init 16 = .ok (.aload_n 1, 1) := by decide +kernel
theorem d_Lin_init_17 : decode b_Lin_init 17 = .ok (.putfield 18, 3) := by decide +kernel
theorem d_Lin_init_20 : decode b_Lin_init 20 = .ok (.return_, 1) := by decide +kernel
theorem d_Mac_init_0 : decode b_Mac_init 0 = .ok (.aload_n 0, 1) := by decide +kernel
theorem d_Mac_init_1 : decode b_Mac_init 1 = .ok (.invokespecial 1, 3) := by decide +kernel
theorem d_Mac_init_4 : decode b_Mac_init 4 = .ok (.aload_n 0, 1) := by decide +kernel
theorem d_Mac_init_5 : decode b_Mac_init 5 = .ok (.aload_n 1, 1) := by decide +kernel
theorem d_Mac_init_6 : decode b_Mac_init 6 = .ok (.putfield 7, 3) := by decide +kernel
theorem d_Mac_init_9 : decode b_Mac_init 9 = .ok (.aload_n 0, 1) := by decide +kernel
theorem d_Mac_init_10 : decode b_Mac_init 10 = .ok (.aload_n 2, 1) := by decide +kernel
theorem d_Mac_init_11 : decode b_Mac_init 11 = .ok (.putfield 13, 3) := by decide +kernel
theorem d_Mac_init_14 : decode b_Mac_init 14 = .ok (.aload_n 0, 1) := by decide +kernel
theorem d_Mac_init_15 : decode b_Mac_init 15 = .ok (.ldc2_w 17, 3) := by decide +kernel
theorem d_Mac_init_18 : decode b_Mac_init 18 = .ok (.putfield 19, 3) := by decide +kernel
theorem d_Mac_init_21 : decode b_Mac_init 21 = .ok (.return_, 1) := by decide +kernel
theorem d_Mac_decode_0 : decode b_Mac_decode 0 = .ok (.aload_n 0, 1) := by decide +kernel
theorem d_Mac_decode_1 : decode b_Mac_decode 1 = .ok (.aload_n 0, 1) := by decide +kernel
theorem d_Mac_decode_2 : decode b_Mac_decode 2 = .ok (.getfield 7, 3) := by decide +kernel
theorem d_Mac_decode_5 : decode b_Mac_decode 5 = .ok (.aload_n 0, 1) := by decide +kernel
theorem d_Mac_decode_6 : decode b_Mac_decode 6 = .ok (.getfield 19, 3) := by decide +kernel
theorem d_Mac_decode_9 : decode b_Mac_decode 9 = .ok (.invokevirtual 66, 3) := by decide +kernel
theorem d_Mac_decode_12 : decode b_Mac_decode 12 = .ok (.putfield 70, 3) := by decide +kernel
theorem d_Mac_decode_15 : decode b_Mac_decode 15 = .ok (.aload_n 0, 1) := by decide +kernel
theorem d_Mac_decode_16 : decode b_Mac_decode 16 = .ok (.aload_n 0, 1) := by decide +kernel
theorem d_Mac_decode_17 : decode b_Mac_decode 17 = .ok (.getfield 70, 3) := by decide +kernel
theorem d_Mac_decode_20 : decode b_Mac_decode 20 = .ok (.bipush 24, 2) := by decide +kernel
theorem d_Mac_decode_22 : decode b_Mac_decode 22 = .ok (.iushr, 1) := by decide +kernel
theorem d_Mac_decode_23 : decode b_Mac_decode 23 = .ok (.putfield 73, 3) := by decide +kernel
theorem d_Mac_decode_26 : decode b_Mac_decode 26 = .ok (.aload_n 0, 1) := by decide +kernel
theorem d_Mac_decode_27 : decode b_Mac_decode 27 = .ok (.aload_n 0, 1) := by decide +kernel
theorem d_Mac_decode_28 : decode b_Mac_decode 28 = .ok (.getfield 70, 3) := by decide +kernel
theorem d_Mac_decode_31 : decode b_Mac_decode 31 = .ok (.bipush 16, 2) := by decide +kernel
theorem d_Mac_decode_33 : decode b_Mac_decode 33 = .ok (.iushr, 1) := by decide +kernel
theorem d_Mac_decode_34 : decode b_Mac_decode 34 = .ok (.sipush 255, 3) := by decide +kernel
theorem d_Mac_decode_37 : decode b_Mac_decode 37 = .ok (.iand, 1) := by decide +kernel
theorem d_Mac_decode_38 : decode b_Mac_decode 38 = .ok (.putfield 76, 3) := by decide +kernel
theorem d_Mac_decode_41 : decode b_Mac_decode 41 = .ok (.aload_n 0, 1) := by decide +kernel
theorem d_Mac_decode_42 : decode b_Mac_decode 42 = .ok (.aload_n 0, 1) := by decide +kernel
theorem d_Mac_decode_43 : decode b_Mac_decode 43 = .ok (.getfield 70, 3) := by decide +kernel
theorem d_Mac_decode_46 : decode b_Mac_decode 46 = .ok (.bipush 8, 2) := by decide +kernel
theorem d_Mac_decode_48 : decode b_Mac_decode 48 = .ok (.iushr, 1) := by decide +kernel
theorem d_Mac_decode_49 : decode b_Mac_decode 49 = .ok (.sipush 255, 3) := by decide +kernel
theorem d_Mac_decode_52 : decode b_Mac_decode 52 = .ok (.iand, 1) := by decide +kernel
theorem d_Mac_decode_53 : decode b_Mac_decode 53 = .ok (.putfield 79, 3) := by decide +kernel
theorem d_Mac_decode_56 : decode b_Mac_decode 56 = .ok (.aload_n 0, 1) := by decide +kernel
theorem d_Mac_decode_57 : decode b_Mac_decode 57 = .ok (.aload_n 0, 1) := by decide +kernel
theorem d_Mac_decode_58 : decode b_Mac_decode 58 = .ok (.getfield 70, 3) := by decide +kernel
theorem d_Mac_decode_61 : decode b_Mac_decode 61 = .ok (.sipush 255, 3) := by decide +kernel
theorem d_Mac_decode_64 : decode b_Mac_decode 64 = .ok (.iand, 1) := by decide +kernel
theorem d_Mac_decode_65 : decode b_Mac_decode 65 = .ok (.putfield 82, 3) := by decide +kernel
theorem d_Mac_decode_68 : decode b_Mac_decode 68 = .ok (.aload_n 0, 1) := by decide +kernel
theorem d_Mac_decode_69 : decode b_Mac_decode 69 = .ok (.aload_n 0, 1) := by decide +kernel
theorem d_Mac_decode_70 : decode b_Mac_decode 70 = .ok (.getfield 13, 3) := by decide +kernel
theorem d_Mac_decode_73 : decode b_Mac_decode 73 = .ok (.aload_n 0, 1) := by decide +kernel
theorem d_Mac_decode_74 : decode b_Mac_decode 74 = .ok (.getfield 79, 3) := by decide +kernel
theorem d_Mac_decode_77 : decode b_Mac_decode 77 = .ok (.invokevirtual 85, 3) := by decide +kernel
theorem d_Mac_decode_80 : decode b_Mac_decode 80 = .ok (.putfield 89, 3) := by decide +kernel
theorem d_Mac_decode_83 : decode b_Mac_decode 83 = .ok (.aload_n 0, 1) := by decide +kernel
theorem d_Mac_decode_84 : decode b_Mac_decode 84 = .ok (.aload_n 0, 1) := by decide +kernel
theorem d_Mac_decode_85 : decode b_Mac_decode 85 = .ok (.getfield 73, 3) := by decide +kernel
theorem d_Mac_decode_88 : decode b_Mac_decode 88 = .ok (.iconst 1, 1) := by decide +kernel
theorem d_Mac_decode_89 : decode b_Mac_decode 89 = .ok (.iand, 1) := by decide +kernel
theorem d_Mac_decode_90 : decode b_Mac_decode 90 = .ok (.ifCond .ne 17, 3) := by decide +kernel
theorem d_Mac_decode_93 : decode b_Mac_decode 93 = .ok (.aload_n 0, 1) := by decide +kernel
theorem d_Mac_decode_94 : decode b_Mac_decode 94 = .ok (.getfield 13, 3) := by decide +kernel
theorem d_Mac_decode_97 : decode b_Mac_decode 97 = .ok (.aload_n 0, 1) := by decide +kernel
theorem d_Mac_decode_98 : decode b_Mac_decode 98 = .ok (.getfield 82, 3) := by decide +kernel
theorem d_Mac_decode_101 : decode b_Mac_decode 101 = .ok (.invokevirtual 85, 3) := by decide +kernel
theorem d_Mac_decode_104 : decode b_Mac_decode 104 = .ok (.goto 8, 3) := by decide +kernel
theorem d_Mac_decode_112 : decode b_Mac_decode 112 = .ok (.putfield 92, 3) := by decide +kernel
theorem d_Mac_decode_115 : decode b_Mac_decode 115 = .ok (.aload_n 0, 1) := by decide +kernel
theorem d_Mac_decode_116 : decode b_Mac_decode 116 = .ok (.aload_n 0, 1) := by decide +kernel
theorem d_Mac_decode_117 : decode b_Mac_decode 117 = .ok (.getfield 19, 3) := by decide +kernel
theorem d_Mac_decode_120 : decode b_Mac_decode 120 = .ok (.ldc2_w 95, 3) := by decide +kernel
theorem d_Mac_decode_123 : decode b_Mac_decode 123 = .ok (.ladd, 1) := by decide +kernel
theorem d_Mac_decode_124 : decode b_Mac_decode 124 = .ok (.putfield 60, 3) := by decide +kernel
theorem d_Mac_decode_127 : decode b_Mac_decode 127 = .ok (.aload_n 0, 1) := by decide +kernel
theorem d_Mac_decode_128 : decode b_Mac_decode 128 = .ok (.iconst 1, 1) := by decide +kernel
theorem d_Mac_decode_129 : decode b_Mac_decode 129 = .ok (.putfield 63, 3) := by decide +kernel
theorem d_Mac_decode_132 : decode b_Mac_decode 132 = .ok (.aload_n 0, 1) := by decide +kernel
theorem d_Mac_decode_133 : decode b_Mac_decode 133 = .ok (.iconst 0, 1) := by decide +kernel
theorem d_Mac_decode_134 : decode b_Mac_decode 134 = .ok (.putfield 54, 3) := by decide +kernel
theorem d_Mac_decode_137 : decode b_Mac_decode 137 = .ok (.return_, 1) := by decide +kernel
theorem d_Mac_execute_0 : decode b_Mac_execute 0 = .ok (.aload_n 0, 1) := by decide +kernel
theorem d_Mac_execute_1 : decode b_Mac_execute 1 = .ok (.getfield 73, 3) := by decide +kernel
theorem d_Mac_execute_4 : decode b_Mac_execute 4 = .ok (.ifCond .ne 23, 3) := by decide +kernel
theorem d_Mac_execute_7 : decode b_Mac_execute 7 = .ok (.aload_n 0, 1) := by decide +kernel
theorem d_Mac_execute_8 : decode b_Mac_execute 8 = .ok (.getfield 76, 3) := by decide +kernel
theorem d_Mac_execute_11 : decode b_Mac_execute 11 = .ok (.ifCond .ne 14, 3) := by decide +kernel
theorem d_Mac_execute_14 : decode b_Mac_execute 14 = .ok (.aload_n 0, 1) := by decide +kernel
theorem d_Mac_execute_15 : decode b_Mac_execute 15 = .ok (.getfield 79, 3) := by decide +kernel
theorem d_Mac_execute_18 : decode b_Mac_execute 18 = .ok (.ifCond .ne 7, 3) := by decide +kernel
theorem d_Mac_execute_21 : decode b_Mac_execute 21 = .ok (.iconst 5, 1) := by decide +kernel
theorem d_Mac_execute_22 : decode b_Mac_execute 22 = .ok (.goto 4, 3) := by decide +kernel
theorem d_Mac_execute_26 : decode b_Mac_execute 26 = .ok (.ireturn, 1) := by decide +kernel
theorem d_Mac_go_0 : decode b_Mac_go 0 = .ok (.iconst 0, 1) := by decide +kernel
theorem d_Mac_go_1 : decode b_Mac_go 1 = .ok (.istore_n 2, 1) := by decide +kernel
theorem d_Mac_go_2 : decode b_Mac_go 2 = .ok (.iconst 0, 1) := by decide +kernel
theorem d_Mac_go_3 : decode b_Mac_go 3 = .ok (.istore_n 3, 1) := by decide +kernel
theorem d_Mac_go_4 : decode b_Mac_go 4 = .ok (.iload_n 3, 1) := by decide +kernel
theorem d_Mac_go_5 : decode b_Mac_go 5 = .ok (.iload_n 1, 1) := by decide +kernel
theorem d_Mac_go_6 : decode b_Mac_go 6 = .ok (.if_icmp .ge 30, 3) := by decide +kernel
theorem d_Mac_go_9 : decode b_Mac_go 9 = .ok (.aload_n 0, 1) := by decide +kernel
theorem d_Mac_go_10 : decode b_Mac_go 10 = .ok (.getfield 28, 3) := by decide +kernel
theorem d_Mac_go_13 : decode b_Mac_go 13 = .ok (.ifCond .ne 23, 3) := by decide +kernel
theorem d_Mac_go_16 : decode b_Mac_go 16 = .ok (.aload_n 0, 1) := by decide +kernel
theorem d_Mac_go_17 : decode b_Mac_go 17 = .ok (.invokevirtual 38, 3) := by decide +kernel
theorem d_Mac_go_20 : decode b_Mac_go 20 = .ok (.aload_n 0, 1) := by decide +kernel
theorem d_Mac_go_21 : decode b_Mac_go 21 = .ok (.getfield 28, 3) := by decide +kernel
theorem d_Mac_go_24 : decode b_Mac_go 24 = .ok (.ifCond .ne 6, 3) := by decide +kernel
theorem d_Mac_go_30 : decode b_Mac_go 30 = .ok (.iinc 3 1, 3) := by decide +kernel
theorem d_Mac_go_33 : decode b_Mac_go 33 = .ok (.goto (-29), 3) := by decide +kernel
theorem d_Mac_go_36 : decode b_Mac_go 36 = .ok (.iload_n 2, 1) := by decide +kernel
theorem d_Mac_go_37 : decode b_Mac_go 37 = .ok (.ireturn, 1) := by decide +kernel
theorem d_Mac_setBack_0 : decode b_Mac_setBack 0 = .ok (.aload_n 0, 1) := by decide +kernel
theorem d_Mac_setBack_1 : decode b_Mac_setBack 1 = .ok (.getfield 13, 3) := by decide +kernel
theorem d_Mac_setBack_4 : decode b_Mac_setBack 4 = .ok (.invokevirtual 23, 3) := by decide +kernel
theorem d_Mac_setBack_7 : decode b_Mac_setBack 7 = .ok (.aload_n 0, 1) := by decide +kernel
theorem d_Mac_setBack_8 : decode b_Mac_setBack 8 = .ok (.ldc2_w 17, 3) := by decide +kernel
theorem d_Mac_setBack_11 : decode b_Mac_setBack 11 = .ok (.putfield 19, 3) := by decide +kernel
theorem d_Mac_setBack_14 : decode b_Mac_setBack 14 = .ok (.aload_n 0, 1) := by decide +kernel
theorem d_Mac_setBack_15 : decode b_Mac_setBack 15 = .ok (.iconst 0, 1) := by decide +kernel
theorem d_Mac_setBack_16 : decode b_Mac_setBack 16 = .ok (.putfield 28, 3) := by decide +kernel
theorem d_Mac_setBack_19 : decode b_Mac_setBack 19 = .ok (.aload_n 0, 1) := by decide +kernel
theorem d_Mac_setBack_20 : decode b_Mac_setBack 20 = .ok (.iconst 0, 1) := by decide +kernel
theorem d_Mac_setBack_21 : decode b_Mac_setBack 21 = .ok (.putfield 32, 3) := by decide +kernel
theorem d_Mac_setBack_24 : decode b_Mac_setBack 24 = .ok (.aload_n 0, 1) := by decide +kernel
theorem d_Mac_setBack_25 : decode b_Mac_setBack 25 = .ok (.iconst 0, 1) := by decide +kernel
theorem d_Mac_setBack_26 : decode b_Mac_setBack 26 = .ok (.putfield 35, 3) := by decide +kernel
theorem d_Mac_setBack_29 : decode b_Mac_setBack 29 = .ok (.return_, 1) := by decide +kernel
theorem d_Mac_step_0 : decode b_Mac_step 0 = .ok (.aload_n 0, 1) := by decide +kernel
theorem d_Mac_step_1 : decode b_Mac_step 1 = .ok (.getfield 7, 3) := by decide +kernel
theorem d_Mac_step_4 : decode b_Mac_step 4 = .ok (.aload_n 0, 1) := by decide +kernel
theorem d_Mac_step_5 : decode b_Mac_step 5 = .ok (.getfield 19, 3) := by decide +kernel
theorem d_Mac_step_8 : decode b_Mac_step 8 = .ok (.iconst 4, 1) := by decide +kernel
end
section
theorem d_Mac_step_9 : decode b_Mac_step 9 = .ok (.invokevirtual 41, 3) := by decide +kernel
theorem d_Mac_step_12 : decode b_Mac_step 12 = .ok (.ifCond .ne 9, 3) := by decide +kernel
theorem d_Mac_step_21 : decode b_Mac_step 21 = .ok (.aload_n 0, 1) := by decide +kernel
theorem d_Mac_step_22 : decode b_Mac_step 22 = .ok (.invokevirtual 47, 3) := by decide +kernel
theorem d_Mac_step_25 : decode b_Mac_step 25 = .ok (.aload_n 0, 1) := by decide +kernel
theorem d_Mac_step_26 : decode b_Mac_step 26 = .ok (.aload_n 0, 1) := by decide +kernel
theorem d_Mac_step_27 : decode b_Mac_step 27 = .ok (.invokevirtual 50, 3) := by decide +kernel
theorem d_Mac_step_30 : decode b_Mac_step 30 = .ok (.putfield 28, 3) := by decide +kernel
theorem d_Mac_step_33 : decode b_Mac_step 33 = .ok (.aload_n 0, 1) := by decide +kernel
theorem d_Mac_step_34 : decode b_Mac_step 34 = .ok (.getfield 28, 3) := by decide +kernel
theorem d_Mac_step_37 : decode b_Mac_step 37 = .ok (.ifCond .eq 4, 3) := by decide +kernel
theorem d_Mac_step_40 : decode b_Mac_step 40 = .ok (.return_, 1) := by decide +kernel
theorem d_Mem_init_0 : decode b_Mem_init 0 = .ok (.aload_n 0, 1) := by decide +kernel
theorem d_Mem_init_1 : decode b_Mem_init 1 = .ok (.invokespecial 1, 3) := by decide +kernel
theorem d_Mem_init_4 : decode b_Mem_init 4 = .ok (.aload_n 0, 1) := by decide +kernel
theorem d_Mem_init_5 : decode b_Mem_init 5 = .ok (.sipush 512, 3) := by decide +kernel
theorem d_Mem_init_8 : decode b_Mem_init 8 = .ok (.newarray .long, 2) := by decide +kernel
theorem d_Mem_init_10 : decode b_Mem_init 10 = .ok (.putfield 9, 3) := by decide +kernel
theorem d_Mem_init_13 : decode b_Mem_init 13 = .ok (.return_, 1) := by decide +kernel
theorem d_Mem_become_0 : decode b_Mem_become 0 = .ok (.aload_n 1, 1) := by decide +kernel
theorem d_Mem_become_1 : decode b_Mem_become 1 = .ok (.getfield 9, 3) := by decide +kernel
theorem d_Mem_become_4 : decode b_Mem_become 4 = .ok (.iconst 0, 1) := by decide +kernel
theorem d_Mem_become_5 : decode b_Mem_become 5 = .ok (.aload_n 0, 1) := by decide +kernel
theorem d_Mem_become_6 : decode b_Mem_become 6 = .ok (.getfield 9, 3) := by decide +kernel
theorem d_Mem_become_9 : decode b_Mem_become 9 = .ok (.iconst 0, 1) := by decide +kernel
theorem d_Mem_become_10 : decode b_Mem_become 10 = .ok (.aload_n 0, 1) := by decide +kernel
theorem d_Mem_become_11 : decode b_Mem_become 11 = .ok (.getfield 9, 3) := by decide +kernel
theorem d_Mem_become_14 : decode b_Mem_become 14 = .ok (.arraylength, 1) := by decide +kernel
theorem d_Mem_become_15 : decode b_Mem_become 15 = .ok (.invokestatic 31, 3) := by decide +kernel
theorem d_Mem_become_18 : decode b_Mem_become 18 = .ok (.return_, 1) := by decide +kernel
theorem d_Mem_clear_0 : decode b_Mem_clear 0 = .ok (.iconst 0, 1) := by decide +kernel
theorem d_Mem_clear_1 : decode b_Mem_clear 1 = .ok (.istore_n 1, 1) := by decide +kernel
theorem d_Mem_clear_2 : decode b_Mem_clear 2 = .ok (.iload_n 1, 1) := by decide +kernel
theorem d_Mem_clear_3 : decode b_Mem_clear 3 = .ok (.aload_n 0, 1) := by decide +kernel
theorem d_Mem_clear_4 : decode b_Mem_clear 4 = .ok (.getfield 9, 3) := by decide +kernel
theorem d_Mem_clear_7 : decode b_Mem_clear 7 = .ok (.arraylength, 1) := by decide +kernel
theorem d_Mem_clear_8 : decode b_Mem_clear 8 = .ok (.if_icmp .ge 16, 3) := by decide +kernel
theorem d_Mem_clear_11 : decode b_Mem_clear 11 = .ok (.aload_n 0, 1) := by decide +kernel
theorem d_Mem_clear_12 : decode b_Mem_clear 12 = .ok (.getfield 9, 3) := by decide +kernel
theorem d_Mem_clear_15 : decode b_Mem_clear 15 = .ok (.iload_n 1, 1) := by decide +kernel
theorem d_Mem_clear_16 : decode b_Mem_clear 16 = .ok (.lconst 0, 1) := by decide +kernel
theorem d_Mem_clear_17 : decode b_Mem_clear 17 = .ok (.lastore, 1) := by decide +kernel
theorem d_Mem_clear_18 : decode b_Mem_clear 18 = .ok (.iinc 1 1, 3) := by decide +kernel
theorem d_Mem_clear_21 : decode b_Mem_clear 21 = .ok (.goto (-19), 3) := by decide +kernel
theorem d_Mem_clear_24 : decode b_Mem_clear 24 = .ok (.return_, 1) := by decide +kernel
theorem d_Mem_holds_0 : decode b_Mem_holds 0 = .ok (.lload_n 1, 1) := by decide +kernel
theorem d_Mem_holds_1 : decode b_Mem_holds 1 = .ok (.lconst 0, 1) := by decide +kernel
theorem d_Mem_holds_2 : decode b_Mem_holds 2 = .ok (.lcmp, 1) := by decide +kernel
theorem d_Mem_holds_3 : decode b_Mem_holds 3 = .ok (.ifCond .lt 18, 3) := by decide +kernel
theorem d_Mem_holds_6 : decode b_Mem_holds 6 = .ok (.lload_n 1, 1) := by decide +kernel
theorem d_Mem_holds_7 : decode b_Mem_holds 7 = .ok (.sipush 4096, 3) := by decide +kernel
theorem d_Mem_holds_10 : decode b_Mem_holds 10 = .ok (.iload_n 3, 1) := by decide +kernel
theorem d_Mem_holds_11 : decode b_Mem_holds 11 = .ok (.isub, 1) := by decide +kernel
theorem d_Mem_holds_12 : decode b_Mem_holds 12 = .ok (.i2l, 1) := by decide +kernel
theorem d_Mem_holds_13 : decode b_Mem_holds 13 = .ok (.lcmp, 1) := by decide +kernel
theorem d_Mem_holds_14 : decode b_Mem_holds 14 = .ok (.ifCond .gt 7, 3) := by decide +kernel
theorem d_Mem_holds_17 : decode b_Mem_holds 17 = .ok (.iconst 1, 1) := by decide +kernel
theorem d_Mem_holds_18 : decode b_Mem_holds 18 = .ok (.goto 4, 3) := by decide +kernel
theorem d_Mem_holds_21 : decode b_Mem_holds 21 = .ok (.iconst 0, 1) := by decide +kernel
theorem d_Mem_holds_22 : decode b_Mem_holds 22 = .ok (.ireturn, 1) := by decide +kernel
theorem d_Mem_instruction_0 : decode b_Mem_instruction 0 = .ok (.iconst 0, 1) := by decide +kernel
theorem d_Mem_instruction_1 : decode b_Mem_instruction 1 = .ok (.istore_n 3, 1) := by decide +kernel
theorem d_Mem_instruction_2 : decode b_Mem_instruction 2 = .ok (.iconst 0, 1) := by decide +kernel
theorem d_Mem_instruction_3 : decode b_Mem_instruction 3 = .ok (.istore 4, 2) := by decide +kernel
theorem d_Mem_instruction_5 : decode b_Mem_instruction 5 = .ok (.iload 4, 2) := by decide +kernel
theorem d_Mem_instruction_7 : decode b_Mem_instruction 7 = .ok (.iconst 4, 1) := by decide +kernel
theorem d_Mem_instruction_8 : decode b_Mem_instruction 8 = .ok (.if_icmp .ge 26, 3) := by decide +kernel
theorem d_Mem_instruction_11 : decode b_Mem_instruction 11 = .ok (.iload_n 3, 1) := by decide +kernel
theorem d_Mem_instruction_12 : decode b_Mem_instruction 12 = .ok (.bipush 8, 2) := by decide +kernel
theorem d_Mem_instruction_14 : decode b_Mem_instruction 14 = .ok (.ishl, 1) := by decide +kernel
theorem d_Mem_instruction_15 : decode b_Mem_instruction 15 = .ok (.aload_n 0, 1) := by decide +kernel
theorem d_Mem_instruction_16 : decode b_Mem_instruction 16 = .ok (.lload_n 1, 1) := by decide +kernel
theorem d_Mem_instruction_17 : decode b_Mem_instruction 17 = .ok (.iload 4, 2) := by decide +kernel
theorem d_Mem_instruction_19 : decode b_Mem_instruction 19 = .ok (.i2l, 1) := by decide +kernel
theorem d_Mem_instruction_20 : decode b_Mem_instruction 20 = .ok (.ladd, 1) := by decide +kernel
theorem d_Mem_instruction_21 : decode b_Mem_instruction 21 = .ok (.iconst 1, 1) := by decide +kernel
theorem d_Mem_instruction_22 : decode b_Mem_instruction 22 = .ok (.invokevirtual 27, 3) := by decide +kernel
theorem d_Mem_instruction_25 : decode b_Mem_instruction 25 = .ok (.l2i, 1) := by decide +kernel
theorem d_Mem_instruction_26 : decode b_Mem_instruction 26 = .ok (.ior, 1) := by decide +kernel
theorem d_Mem_instruction_27 : decode b_Mem_instruction 27 = .ok (.istore_n 3, 1) := by decide +kernel
theorem d_Mem_instruction_28 : decode b_Mem_instruction 28 = .ok (.iinc 4 1, 3) := by decide +kernel
theorem d_Mem_instruction_31 : decode b_Mem_instruction 31 = .ok (.goto (-26), 3) := by decide +kernel
theorem d_Mem_instruction_34 : decode b_Mem_instruction 34 = .ok (.iload_n 3, 1) := by decide +kernel
theorem d_Mem_instruction_35 : decode b_Mem_instruction 35 = .ok (.ireturn, 1) := by decide +kernel
theorem d_Mem_mask_0 : decode b_Mem_mask 0 = .ok (.ldc2_w 25, 3) := by decide +kernel
theorem d_Mem_mask_3 : decode b_Mem_mask 3 = .ok (.bipush 64, 2) := by decide +kernel
theorem d_Mem_mask_5 : decode b_Mem_mask 5 = .ok (.bipush 8, 2) := by decide +kernel
theorem d_Mem_mask_7 : decode b_Mem_mask 7 = .ok (.iload_n 0, 1) := by decide +kernel
theorem d_Mem_mask_8 : decode b_Mem_mask 8 = .ok (.imul, 1) := by decide +kernel
theorem d_Mem_mask_9 : decode b_Mem_mask 9 = .ok (.isub, 1) := by decide +kernel
theorem d_Mem_mask_10 : decode b_Mem_mask 10 = .ok (.lushr, 1) := by decide +kernel
theorem d_Mem_mask_11 : decode b_Mem_mask 11 = .ok (.lreturn, 1) := by decide +kernel
theorem d_Mem_read_0 : decode b_Mem_read 0 = .ok (.aload_n 0, 1) := by decide +kernel
theorem d_Mem_read_1 : decode b_Mem_read 1 = .ok (.lload_n 1, 1) := by decide +kernel
theorem d_Mem_read_2 : decode b_Mem_read 2 = .ok (.iload_n 3, 1) := by decide +kernel
theorem d_Mem_read_3 : decode b_Mem_read 3 = .ok (.invokevirtual 13, 3) := by decide +kernel
theorem d_Mem_read_6 : decode b_Mem_read 6 = .ok (.ifCond .ne 5, 3) := by decide +kernel
theorem d_Mem_read_11 : decode b_Mem_read 11 = .ok (.aload_n 0, 1) := by decide +kernel
theorem d_Mem_read_12 : decode b_Mem_read 12 = .ok (.getfield 9, 3) := by decide +kernel
theorem d_Mem_read_15 : decode b_Mem_read 15 = .ok (.lload_n 1, 1) := by decide +kernel
theorem d_Mem_read_16 : decode b_Mem_read 16 = .ok (.iconst 3, 1) := by decide +kernel
theorem d_Mem_read_17 : decode b_Mem_read 17 = .ok (.lshr, 1) := by decide +kernel
theorem d_Mem_read_18 : decode b_Mem_read 18 = .ok (.l2i, 1) := by decide +kernel
theorem d_Mem_read_19 : decode b_Mem_read 19 = .ok (.laload, 1) := by decide +kernel
theorem d_Mem_read_20 : decode b_Mem_read 20 = .ok (.lload_n 1, 1) := by decide +kernel
theorem d_Mem_read_21 : decode b_Mem_read 21 = .ok (.iload_n 3, 1) := by decide +kernel
theorem d_Mem_read_22 : decode b_Mem_read 22 = .ok (.invokestatic 17, 3) := by decide +kernel
theorem d_Mem_read_25 : decode b_Mem_read 25 = .ok (.lushr, 1) := by decide +kernel
theorem d_Mem_read_26 : decode b_Mem_read 26 = .ok (.iload_n 3, 1) := by decide +kernel
theorem d_Mem_read_27 : decode b_Mem_read 27 = .ok (.invokestatic 21, 3) := by decide +kernel
theorem d_Mem_read_30 : decode b_Mem_read 30 = .ok (.land, 1) := by decide +kernel
theorem d_Mem_read_31 : decode b_Mem_read 31 = .ok (.lreturn, 1) := by decide +kernel
theorem d_Mem_shift_0 : decode b_Mem_shift 0 = .ok (.bipush 64, 2) := by decide +kernel
theorem d_Mem_shift_2 : decode b_Mem_shift 2 = .ok (.bipush 8, 2) := by decide +kernel
theorem d_Mem_shift_4 : decode b_Mem_shift 4 = .ok (.iload_n 2, 1) := by decide +kernel
theorem d_Mem_shift_5 : decode b_Mem_shift 5 = .ok (.imul, 1) := by decide +kernel
theorem d_Mem_shift_6 : decode b_Mem_shift 6 = .ok (.isub, 1) := by decide +kernel
theorem d_Mem_shift_7 : decode b_Mem_shift 7 = .ok (.bipush 8, 2) := by decide +kernel
theorem d_Mem_shift_9 : decode b_Mem_shift 9 = .ok (.lload_n 0, 1) := by decide +kernel
theorem d_Mem_shift_10 : decode b_Mem_shift 10 = .ok (.ldc2_w 37, 3) := by decide +kernel
theorem d_Mem_shift_13 : decode b_Mem_shift 13 = .ok (.land, 1) := by decide +kernel
theorem d_Mem_shift_14 : decode b_Mem_shift 14 = .ok (.iload_n 2, 1) := by decide +kernel
theorem d_Mem_shift_15 : decode b_Mem_shift 15 = .ok (.ineg, 1) := by decide +kernel
theorem d_Mem_shift_16 : decode b_Mem_shift 16 = .ok (.i2l, 1) := by decide +kernel
theorem d_Mem_shift_17 : decode b_Mem_shift 17 = .ok (.land, 1) := by decide +kernel
theorem d_Mem_shift_18 : decode b_Mem_shift 18 = .ok (.l2i, 1) := by decide +kernel
theorem d_Mem_shift_19 : decode b_Mem_shift 19 = .ok (.imul, 1) := by decide +kernel
theorem d_Mem_shift_20 : decode b_Mem_shift 20 = .ok (.isub, 1) := by decide +kernel
theorem d_Mem_shift_21 : decode b_Mem_shift 21 = .ok (.ireturn, 1) := by decide +kernel
theorem d_Mem_write_0 : decode b_Mem_write 0 = .ok (.aload_n 0, 1) := by decide +kernel
theorem d_Mem_write_1 : decode b_Mem_write 1 = .ok (.lload_n 1, 1) := by decide +kernel
theorem d_Mem_write_2 : decode b_Mem_write 2 = .ok (.iload_n 3, 1) := by decide +kernel
theorem d_Mem_write_3 : decode b_Mem_write 3 = .ok (.invokevirtual 13, 3) := by decide +kernel
theorem d_Mem_write_6 : decode b_Mem_write 6 = .ok (.ifCond .ne 4, 3) := by decide +kernel
theorem d_Mem_write_10 : decode b_Mem_write 10 = .ok (.lload_n 1, 1) := by decide +kernel
theorem d_Mem_write_11 : decode b_Mem_write 11 = .ok (.iconst 3, 1) := by decide +kernel
theorem d_Mem_write_12 : decode b_Mem_write 12 = .ok (.lshr, 1) := by decide +kernel
theorem d_Mem_write_13 : decode b_Mem_write 13 = .ok (.l2i, 1) := by decide +kernel
theorem d_Mem_write_14 : decode b_Mem_write 14 = .ok (.istore 6, 2) := by decide +kernel
theorem d_Mem_write_16 : decode b_Mem_write 16 = .ok (.lload_n 1, 1) := by decide +kernel
theorem d_Mem_write_17 : decode b_Mem_write 17 = .ok (.iload_n 3, 1) := by decide +kernel
theorem d_Mem_write_18 : decode b_Mem_write 18 = .ok (.invokestatic 17, 3) := by decide +kernel
theorem d_Mem_write_21 : decode b_Mem_write 21 = .ok (.istore 7, 2) := by decide +kernel
theorem d_Mem_write_23 : decode b_Mem_write 23 = .ok (.aload_n 0, 1) := by decide +kernel
theorem d_Mem_write_24 : decode b_Mem_write 24 = .ok (.getfield 9, 3) := by decide +kernel
theorem d_Mem_write_27 : decode b_Mem_write 27 = .ok (.iload 6, 2) := by decide +kernel
theorem d_Mem_write_29 : decode b_Mem_write 29 = .ok (.aload_n 0, 1) := by decide +kernel
theorem d_Mem_write_30 : decode b_Mem_write 30 = .ok (.getfield 9, 3) := by decide +kernel
theorem d_Mem_write_33 : decode b_Mem_write 33 = .ok (.iload 6, 2) := by decide +kernel
theorem d_Mem_write_35 : decode b_Mem_write 35 = .ok (.laload, 1) := by decide +kernel
theorem d_Mem_write_36 : decode b_Mem_write 36 = .ok (.iload_n 3, 1) := by decide +kernel
theorem d_Mem_write_37 : decode b_Mem_write 37 = .ok (.invokestatic 21, 3) := by decide +kernel
theorem d_Mem_write_40 : decode b_Mem_write 40 = .ok (.iload 7, 2) := by decide +kernel
theorem d_Mem_write_42 : decode b_Mem_write 42 = .ok (.lshl, 1) := by decide +kernel
theorem d_Mem_write_43 : decode b_Mem_write 43 = .ok (.ldc2_w 25, 3) := by decide +kernel
theorem d_Mem_write_46 : decode b_Mem_write 46 = .ok (.lxor, 1) := by decide +kernel
theorem d_Mem_write_47 : decode b_Mem_write 47 = .ok (.land, 1) := by decide +kernel
theorem d_Mem_write_48 : decode b_Mem_write 48 = .ok (.lload 4, 2) := by decide +kernel
theorem d_Mem_write_50 : decode b_Mem_write 50 = .ok (.iload_n 3, 1) := by decide +kernel
theorem d_Mem_write_51 : decode b_Mem_write 51 = .ok (.invokestatic 21, 3) := by decide +kernel
theorem d_Mem_write_54 : decode b_Mem_write 54 = .ok (.land, 1) := by decide +kernel
theorem d_Mem_write_55 : decode b_Mem_write 55 = .ok (.iload 7, 2) := by decide +kernel
theorem d_Mem_write_57 : decode b_Mem_write 57 = .ok (.lshl, 1) := by decide +kernel
theorem d_Mem_write_58 : decode b_Mem_write 58 = .ok (.lor, 1) := by decide +kernel
theorem d_Mem_write_59 : decode b_Mem_write 59 = .ok (.lastore, 1) := by decide +kernel
theorem d_Mem_write_60 : decode b_Mem_write 60 = .ok (.return_, 1) := by decide +kernel
theorem d_Opd_init_0 : decode b_Opd_init 0 = .ok (.aload_n 0, 1) := by decide +kernel
theorem d_Opd_init_1 : decode b_Opd_init 1 = .ok (.invokespecial 1, 3) := by decide +kernel
theorem d_Opd_init_4 : decode b_Opd_init 4 = .ok (.aload_n 0, 1) := by decide +kernel
theorem d_Opd_init_5 : decode b_Opd_init 5 = .ok (.iconst 3, 1) := by decide +kernel
theorem d_Opd_init_6 : decode b_Opd_init 6 = .ok (.newarray .long, 2) := by decide +kernel
theorem d_Opd_init_8 : decode b_Opd_init 8 = .ok (.putfield 9, 3) := by decide +kernel
theorem d_Opd_init_11 : decode b_Opd_init 11 = .ok (.aload_n 0, 1) := by decide +kernel
theorem d_Opd_init_12 : decode b_Opd_init 12 = .ok (.iconst 3, 1) := by decide +kernel
theorem d_Opd_init_13 : decode b_Opd_init 13 = .ok (.newarray .boolean, 2) := by decide +kernel
theorem d_Opd_init_15 : decode b_Opd_init 15 = .ok (.putfield 13, 3) := by decide +kernel
theorem d_Opd_init_18 : decode b_Opd_init 18 = .ok (.return_, 1) := by decide +kernel
theorem d_Opn_init_0 : decode b_Opn_init 0 = .ok (.aload_n 0, 1) := by decide +kernel
theorem d_Opn_init_1 : decode b_Opn_init 1 = .ok (.invokespecial 3, 3) := by decide +kernel
theorem d_Opn_init_4 : decode b_Opn_init 4 = .ok (.aload_n 0, 1) := by decide +kernel
theorem d_Opn_init_5 : decode b_Opn_init 5 = .ok (.sipush 262, 3) := by decide +kernel
theorem d_Opn_init_8 : decode b_Opn_init 8 = .ok (.newarray .long, 2) := by decide +kernel
theorem d_Opn_init_10 : decode b_Opn_init 10 = .ok (.putfield 11, 3) := by decide +kernel
theorem d_Opn_init_13 : decode b_Opn_init 13 = .ok (.aload_n 0, 1) := by decide +kernel
theorem d_Opn_init_14 : decode b_Opn_init 14 = .ok (.iconst 0, 1) := by decide +kernel
theorem d_Opn_init_15 : decode b_Opn_init 15 = .ok (.iconst 1, 1) := by decide +kernel
theorem d_Opn_init_16 : decode b_Opn_init 16 = .ok (.ldc 15, 2) := by decide +kernel
theorem d_Opn_init_18 : decode b_Opn_init 18 = .ok (.invokevirtual 17, 3) := by decide +kernel
theorem d_Opn_init_21 : decode b_Opn_init 21 = .ok (.aload_n 0, 1) := by decide +kernel
theorem d_Opn_init_22 : decode b_Opn_init 22 = .ok (.bipush 24, 2) := by decide +kernel
theorem d_Opn_init_24 : decode b_Opn_init 24 = .ok (.iconst 2, 1) := by decide +kernel
theorem d_Opn_init_25 : decode b_Opn_init 25 = .ok (.ldc 21, 2) := by decide +kernel
theorem d_Opn_init_27 : decode b_Opn_init 27 = .ok (.invokevirtual 17, 3) := by decide +kernel
theorem d_Opn_init_30 : decode b_Opn_init 30 = .ok (.aload_n 0, 1) := by decide +kernel
theorem d_Opn_init_31 : decode b_Opn_init 31 = .ok (.bipush 64, 2) := by decide +kernel
theorem d_Opn_init_33 : decode b_Opn_init 33 = .ok (.iconst 2, 1) := by decide +kernel
theorem d_Opn_init_34 : decode b_Opn_init 34 = .ok (.ldc 23, 2) := by decide +kernel
theorem d_Opn_init_36 : decode b_Opn_init 36 = .ok (.invokevirtual 17, 3) := by decide +kernel
theorem d_Opn_init_39 : decode b_Opn_init 39 = .ok (.aload_n 0, 1) := by decide +kernel
theorem d_Opn_init_40 : decode b_Opn_init 40 = .ok (.bipush 96, 2) := by decide +kernel
theorem d_Opn_init_42 : decode b_Opn_init 42 = .ok (.iconst 2, 1) := by decide +kernel
theorem d_Opn_init_43 : decode b_Opn_init 43 = .ok (.ldc 25, 2) := by decide +kernel
theorem d_Opn_init_45 : decode b_Opn_init 45 = .ok (.invokevirtual 17, 3) := by decide +kernel
theorem d_Opn_init_48 : decode b_Opn_init 48 = .ok (.aload_n 0, 1) := by decide +kernel
theorem d_Opn_init_49 : decode b_Opn_init 49 = .ok (.sipush 128, 3) := by decide +kernel
theorem d_Opn_init_52 : decode b_Opn_init 52 = .ok (.iconst 2, 1) := by decide +kernel
theorem d_Opn_init_53 : decode b_Opn_init 53 = .ok (.ldc 27, 2) := by decide +kernel
theorem d_Opn_init_55 : decode b_Opn_init 55 = .ok (.invokevirtual 17, 3) := by decide +kernel
theorem d_Opn_init_58 : decode b_Opn_init 58 = .ok (.aload_n 0, 1) := by decide +kernel
theorem d_Opn_init_59 : decode b_Opn_init 59 = .ok (.sipush 160, 3) := by decide +kernel
theorem d_Opn_init_62 : decode b_Opn_init 62 = .ok (.iconst 2, 1) := by decide +kernel
theorem d_Opn_init_63 : decode b_Opn_init 63 = .ok (.ldc 29, 2) := by decide +kernel
theorem d_Opn_init_65 : decode b_Opn_init 65 = .ok (.invokevirtual 17, 3) := by decide +kernel
theorem d_Opn_init_68 : decode b_Opn_init 68 = .ok (.aload_n 0, 1) := by decide +kernel
theorem d_Opn_init_69 : decode b_Opn_init 69 = .ok (.sipush 180, 3) := by decide +kernel
theorem d_Opn_init_72 : decode b_Opn_init 72 = .ok (.iconst 2, 1) := by decide +kernel
theorem d_Opn_init_73 : decode b_Opn_init 73 = .ok (.ldc 31, 2) := by decide +kernel
theorem d_Opn_init_75 : decode b_Opn_init 75 = .ok (.invokevirtual 17, 3) := by decide +kernel
theorem d_Opn_init_78 : decode b_Opn_init 78 = .ok (.aload_n 0, 1) := by decide +kernel
theorem d_Opn_init_79 : decode b_Opn_init 79 = .ok (.sipush 192, 3) := by decide +kernel
theorem d_Opn_init_82 : decode b_Opn_init 82 = .ok (.iconst 2, 1) := by decide +kernel
theorem d_Opn_init_83 : decode b_Opn_init 83 = .ok (.ldc 33, 2) := by decide +kernel
theorem d_Opn_init_85 : decode b_Opn_init 85 = .ok (.invokevirtual 17, 3) := by decide +kernel
theorem d_Opn_init_88 : decode b_Opn_init 88 = .ok (.aload_n 0, 1) := by decide +kernel
theorem d_Opn_init_89 : decode b_Opn_init 89 = .ok (.sipush 224, 3) := by decide +kernel
theorem d_Opn_init_92 : decode b_Opn_init 92 = .ok (.iconst 1, 1) := by decide +kernel
theorem d_Opn_init_93 : decode b_Opn_init 93 = .ok (.ldc 35, 2) := by decide +kernel
theorem d_Opn_init_95 : decode b_Opn_init 95 = .ok (.invokevirtual 17, 3) := by decide +kernel
theorem d_Opn_init_98 : decode b_Opn_init 98 = .ok (.aload_n 0, 1) := by decide +kernel
theorem d_Opn_init_99 : decode b_Opn_init 99 = .ok (.sipush 232, 3) := by decide +kernel
theorem d_Opn_init_102 : decode b_Opn_init 102 = .ok (.iconst 1, 1) := by decide +kernel
theorem d_Opn_init_103 : decode b_Opn_init 103 = .ok (.ldc 37, 2) := by decide +kernel
theorem d_Opn_init_105 : decode b_Opn_init 105 = .ok (.invokevirtual 17, 3) := by decide +kernel
theorem d_Opn_init_108 : decode b_Opn_init 108 = .ok (.aload_n 0, 1) := by decide +kernel
theorem d_Opn_init_109 : decode b_Opn_init 109 = .ok (.sipush 240, 3) := by decide +kernel
theorem d_Opn_init_112 : decode b_Opn_init 112 = .ok (.iconst 2, 1) := by decide +kernel
theorem d_Opn_init_113 : decode b_Opn_init 113 = .ok (.ldc 39, 2) := by decide +kernel
theorem d_Opn_init_115 : decode b_Opn_init 115 = .ok (.invokevirtual 17, 3) := by decide +kernel
theorem d_Opn_init_118 : decode b_Opn_init 118 = .ok (.aload_n 0, 1) := by decide +kernel
theorem d_Opn_init_119 : decode b_Opn_init 119 = .ok (.sipush 249, 3) := by decide +kernel
theorem d_Opn_init_122 : decode b_Opn_init 122 = .ok (.iconst 1, 1) := by decide +kernel
theorem d_Opn_init_123 : decode b_Opn_init 123 = .ok (.ldc 41, 2) := by decide +kernel
theorem d_Opn_init_125 : decode b_Opn_init 125 = .ok (.invokevirtual 17, 3) := by decide +kernel
theorem d_Opn_init_128 : decode b_Opn_init 128 = .ok (.aload_n 0, 1) := by decide +kernel
theorem d_Opn_init_129 : decode b_Opn_init 129 = .ok (.sipush 253, 3) := by decide +kernel
theorem d_Opn_init_132 : decode b_Opn_init 132 = .ok (.iconst 1, 1) := by decide +kernel
theorem d_Opn_init_133 : decode b_Opn_init 133 = .ok (.ldc 43, 2) := by decide +kernel
theorem d_Opn_init_135 : decode b_Opn_init 135 = .ok (.invokevirtual 17, 3) := by decide +kernel
theorem d_Opn_init_138 : decode b_Opn_init 138 = .ok (.aload_n 0, 1) := by decide +kernel
theorem d_Opn_init_139 : decode b_Opn_init 139 = .ok (.sipush 256, 3) := by decide +kernel
end
section
theorem d_Opn_init_142 : decode b_Opn_init 142 = .ok (.iconst 1, 1) := by decide +kernel
theorem d_Opn_init_143 : decode b_Opn_init 143 = .ok (.ldc 45, 2) := by decide +kernel
theorem d_Opn_init_145 : decode b_Opn_init 145 = .ok (.invokevirtual 17, 3) := by decide +kernel
theorem d_Opn_init_148 : decode b_Opn_init 148 = .ok (.return_, 1) := by decide +kernel
theorem d_Opn_learn_0 : decode b_Opn_learn 0 = .ok (.iload_n 1, 1) := by decide +kernel
theorem d_Opn_learn_1 : decode b_Opn_learn 1 = .ok (.istore 4, 2) := by decide +kernel
theorem d_Opn_learn_3 : decode b_Opn_learn 3 = .ok (.iconst 0, 1) := by decide +kernel
theorem d_Opn_learn_4 : decode b_Opn_learn 4 = .ok (.istore 5, 2) := by decide +kernel
theorem d_Opn_learn_6 : decode b_Opn_learn 6 = .ok (.iload 5, 2) := by decide +kernel
theorem d_Opn_learn_8 : decode b_Opn_learn 8 = .ok (.aload_n 3, 1) := by decide +kernel
theorem d_Opn_learn_9 : decode b_Opn_learn 9 = .ok (.invokevirtual 47, 3) := by decide +kernel
theorem d_Opn_learn_12 : decode b_Opn_learn 12 = .ok (.if_icmp .ge 64, 3) := by decide +kernel
theorem d_Opn_learn_15 : decode b_Opn_learn 15 = .ok (.iload 4, 2) := by decide +kernel
theorem d_Opn_learn_17 : decode b_Opn_learn 17 = .ok (.aload_n 0, 1) := by decide +kernel
theorem d_Opn_learn_18 : decode b_Opn_learn 18 = .ok (.getfield 11, 3) := by decide +kernel
theorem d_Opn_learn_21 : decode b_Opn_learn 21 = .ok (.arraylength, 1) := by decide +kernel
theorem d_Opn_learn_22 : decode b_Opn_learn 22 = .ok (.if_icmp .ge 54, 3) := by decide +kernel
theorem d_Opn_learn_25 : decode b_Opn_learn 25 = .ok (.aload_n 3, 1) := by decide +kernel
theorem d_Opn_learn_26 : decode b_Opn_learn 26 = .ok (.iload 5, 2) := by decide +kernel
theorem d_Opn_learn_28 : decode b_Opn_learn 28 = .ok (.invokevirtual 53, 3) := by decide +kernel
theorem d_Opn_learn_31 : decode b_Opn_learn 31 = .ok (.istore 6, 2) := by decide +kernel
theorem d_Opn_learn_33 : decode b_Opn_learn 33 = .ok (.iload 6, 2) := by decide +kernel
theorem d_Opn_learn_35 : decode b_Opn_learn 35 = .ok (.bipush 32, 2) := by decide +kernel
theorem d_Opn_learn_37 : decode b_Opn_learn 37 = .ok (.if_icmp .ne 12, 3) := by decide +kernel
theorem d_Opn_learn_40 : decode b_Opn_learn 40 = .ok (.iload 4, 2) := by decide +kernel
theorem d_Opn_learn_42 : decode b_Opn_learn 42 = .ok (.iload_n 2, 1) := by decide +kernel
theorem d_Opn_learn_43 : decode b_Opn_learn 43 = .ok (.iadd, 1) := by decide +kernel
theorem d_Opn_learn_44 : decode b_Opn_learn 44 = .ok (.istore 4, 2) := by decide +kernel
theorem d_Opn_learn_46 : decode b_Opn_learn 46 = .ok (.goto 24, 3) := by decide +kernel
theorem d_Opn_learn_49 : decode b_Opn_learn 49 = .ok (.aload_n 0, 1) := by decide +kernel
theorem d_Opn_learn_50 : decode b_Opn_learn 50 = .ok (.getfield 11, 3) := by decide +kernel
theorem d_Opn_learn_53 : decode b_Opn_learn 53 = .ok (.iload 4, 2) := by decide +kernel
theorem d_Opn_learn_55 : decode b_Opn_learn 55 = .ok (.aload_n 0, 1) := by decide +kernel
theorem d_Opn_learn_56 : decode b_Opn_learn 56 = .ok (.getfield 11, 3) := by decide +kernel
theorem d_Opn_learn_59 : decode b_Opn_learn 59 = .ok (.iload 4, 2) := by decide +kernel
theorem d_Opn_learn_61 : decode b_Opn_learn 61 = .ok (.laload, 1) := by decide +kernel
theorem d_Opn_learn_62 : decode b_Opn_learn 62 = .ok (.bipush 8, 2) := by decide +kernel
theorem d_Opn_learn_64 : decode b_Opn_learn 64 = .ok (.lshl, 1) := by decide +kernel
theorem d_Opn_learn_65 : decode b_Opn_learn 65 = .ok (.iload 6, 2) := by decide +kernel
theorem d_Opn_learn_67 : decode b_Opn_learn 67 = .ok (.i2l, 1) := by decide +kernel
theorem d_Opn_learn_68 : decode b_Opn_learn 68 = .ok (.lor, 1) := by decide +kernel
theorem d_Opn_learn_69 : decode b_Opn_learn 69 = .ok (.lastore, 1) := by decide +kernel
theorem d_Opn_learn_70 : decode b_Opn_learn 70 = .ok (.iinc 5 1, 3) := by decide +kernel
theorem d_Opn_learn_73 : decode b_Opn_learn 73 = .ok (.goto (-67), 3) := by decide +kernel
theorem d_Opn_learn_76 : decode b_Opn_learn 76 = .ok (.return_, 1) := by decide +kernel
theorem d_Reg_init_0 : decode b_Reg_init 0 = .ok (.aload_n 0, 1) := by decide +kernel
theorem d_Reg_init_1 : decode b_Reg_init 1 = .ok (.invokespecial 1, 3) := by decide +kernel
theorem d_Reg_init_4 : decode b_Reg_init 4 = .ok (.aload_n 0, 1) := by decide +kernel
theorem d_Reg_init_5 : decode b_Reg_init 5 = .ok (.sipush 256, 3) := by decide +kernel
theorem d_Reg_init_8 : decode b_Reg_init 8 = .ok (.newarray .long, 2) := by decide +kernel
theorem d_Reg_init_10 : decode b_Reg_init 10 = .ok (.putfield 9, 3) := by decide +kernel
theorem d_Reg_init_13 : decode b_Reg_init 13 = .ok (.aload_n 0, 1) := by decide +kernel
theorem d_Reg_init_14 : decode b_Reg_init 14 = .ok (.bipush 28, 2) := by decide +kernel
theorem d_Reg_init_16 : decode b_Reg_init 16 = .ok (.newarray .long, 2) := by decide +kernel
theorem d_Reg_init_18 : decode b_Reg_init 18 = .ok (.putfield 15, 3) := by decide +kernel
theorem d_Reg_init_21 : decode b_Reg_init 21 = .ok (.aload_n 0, 1) := by decide +kernel
theorem d_Reg_init_22 : decode b_Reg_init 22 = .ok (.sipush 300, 3) := by decide +kernel
theorem d_Reg_init_25 : decode b_Reg_init 25 = .ok (.newarray .long, 2) := by decide +kernel
theorem d_Reg_init_27 : decode b_Reg_init 27 = .ok (.putfield 18, 3) := by decide +kernel
theorem d_Reg_init_30 : decode b_Reg_init 30 = .ok (.aload_n 0, 1) := by decide +kernel
theorem d_Reg_init_31 : decode b_Reg_init 31 = .ok (.sipush 255, 3) := by decide +kernel
theorem d_Reg_init_34 : decode b_Reg_init 34 = .ok (.putfield 21, 3) := by decide +kernel
theorem d_Reg_init_37 : decode b_Reg_init 37 = .ok (.return_, 1) := by decide +kernel
theorem d_Reg_clearFrom_0 : decode b_Reg_clearFrom 0 = .ok (.iload_n 1, 1) := by decide +kernel
theorem d_Reg_clearFrom_1 : decode b_Reg_clearFrom 1 = .ok (.istore_n 3, 1) := by decide +kernel
theorem d_Reg_clearFrom_2 : decode b_Reg_clearFrom 2 = .ok (.iload_n 3, 1) := by decide +kernel
theorem d_Reg_clearFrom_3 : decode b_Reg_clearFrom 3 = .ok (.iload_n 2, 1) := by decide +kernel
theorem d_Reg_clearFrom_4 : decode b_Reg_clearFrom 4 = .ok (.if_icmp .ge 25, 3) := by decide +kernel
theorem d_Reg_clearFrom_7 : decode b_Reg_clearFrom 7 = .ok (.iload_n 3, 1) := by decide +kernel
theorem d_Reg_clearFrom_8 : decode b_Reg_clearFrom 8 = .ok (.aload_n 0, 1) := by decide +kernel
theorem d_Reg_clearFrom_9 : decode b_Reg_clearFrom 9 = .ok (.getfield 9, 3) := by decide +kernel
theorem d_Reg_clearFrom_12 : decode b_Reg_clearFrom 12 = .ok (.arraylength, 1) := by decide +kernel
theorem d_Reg_clearFrom_13 : decode b_Reg_clearFrom 13 = .ok (.if_icmp .ge 16, 3) := by decide +kernel
theorem d_Reg_clearFrom_16 : decode b_Reg_clearFrom 16 = .ok (.aload_n 0, 1) := by decide +kernel
theorem d_Reg_clearFrom_17 : decode b_Reg_clearFrom 17 = .ok (.getfield 9, 3) := by decide +kernel
theorem d_Reg_clearFrom_20 : decode b_Reg_clearFrom 20 = .ok (.iload_n 3, 1) := by decide +kernel
theorem d_Reg_clearFrom_21 : decode b_Reg_clearFrom 21 = .ok (.lconst 0, 1) := by decide +kernel
theorem d_Reg_clearFrom_22 : decode b_Reg_clearFrom 22 = .ok (.lastore, 1) := by decide +kernel
theorem d_Reg_clearFrom_23 : decode b_Reg_clearFrom 23 = .ok (.iinc 3 1, 3) := by decide +kernel
theorem d_Reg_clearFrom_26 : decode b_Reg_clearFrom 26 = .ok (.goto (-24), 3) := by decide +kernel
theorem d_Reg_clearFrom_29 : decode b_Reg_clearFrom 29 = .ok (.return_, 1) := by decide +kernel
theorem d_Reg_get_0 : decode b_Reg_get 0 = .ok (.iload_n 1, 1) := by decide +kernel
theorem d_Reg_get_1 : decode b_Reg_get 1 = .ok (.bipush 19, 2) := by decide +kernel
theorem d_Reg_get_3 : decode b_Reg_get 3 = .ok (.if_icmp .ne 9, 3) := by decide +kernel
theorem d_Reg_get_6 : decode b_Reg_get 6 = .ok (.aload_n 0, 1) := by decide +kernel
theorem d_Reg_get_7 : decode b_Reg_get 7 = .ok (.getfield 21, 3) := by decide +kernel
theorem d_Reg_get_10 : decode b_Reg_get 10 = .ok (.i2l, 1) := by decide +kernel
theorem d_Reg_get_11 : decode b_Reg_get 11 = .ok (.lreturn, 1) := by decide +kernel
theorem d_Reg_get_12 : decode b_Reg_get 12 = .ok (.iload_n 1, 1) := by decide +kernel
theorem d_Reg_get_13 : decode b_Reg_get 13 = .ok (.bipush 20, 2) := by decide +kernel
theorem d_Reg_get_15 : decode b_Reg_get 15 = .ok (.if_icmp .ne 9, 3) := by decide +kernel
theorem d_Reg_get_18 : decode b_Reg_get 18 = .ok (.aload_n 0, 1) := by decide +kernel
theorem d_Reg_get_19 : decode b_Reg_get 19 = .ok (.getfield 32, 3) := by decide +kernel
theorem d_Reg_get_22 : decode b_Reg_get 22 = .ok (.i2l, 1) := by decide +kernel
theorem d_Reg_get_23 : decode b_Reg_get 23 = .ok (.lreturn, 1) := by decide +kernel
theorem d_Reg_get_24 : decode b_Reg_get 24 = .ok (.iload_n 1, 1) := by decide +kernel
theorem d_Reg_get_25 : decode b_Reg_get 25 = .ok (.ifCond .lt 21, 3) := by decide +kernel
theorem d_Reg_get_28 : decode b_Reg_get 28 = .ok (.iload_n 1, 1) := by decide +kernel
theorem d_Reg_get_29 : decode b_Reg_get 29 = .ok (.aload_n 0, 1) := by decide +kernel
theorem d_Reg_get_30 : decode b_Reg_get 30 = .ok (.getfield 15, 3) := by decide +kernel
theorem d_Reg_get_33 : decode b_Reg_get 33 = .ok (.arraylength, 1) := by decide +kernel
theorem d_Reg_get_34 : decode b_Reg_get 34 = .ok (.if_icmp .ge 12, 3) := by decide +kernel
theorem d_Reg_get_37 : decode b_Reg_get 37 = .ok (.aload_n 0, 1) := by decide +kernel
theorem d_Reg_get_38 : decode b_Reg_get 38 = .ok (.getfield 15, 3) := by decide +kernel
theorem d_Reg_get_41 : decode b_Reg_get 41 = .ok (.iload_n 1, 1) := by decide +kernel
theorem d_Reg_get_42 : decode b_Reg_get 42 = .ok (.laload, 1) := by decide +kernel
theorem d_Reg_get_43 : decode b_Reg_get 43 = .ok (.goto 4, 3) := by decide +kernel
theorem d_Reg_get_46 : decode b_Reg_get 46 = .ok (.lconst 0, 1) := by decide +kernel
theorem d_Reg_get_47 : decode b_Reg_get 47 = .ok (.lreturn, 1) := by decide +kernel
theorem d_Reg_read_0 : decode b_Reg_read 0 = .ok (.iload_n 1, 1) := by decide +kernel
theorem d_Reg_read_1 : decode b_Reg_read 1 = .ok (.ifCond .lt 19, 3) := by decide +kernel
theorem d_Reg_read_4 : decode b_Reg_read 4 = .ok (.iload_n 1, 1) := by decide +kernel
theorem d_Reg_read_5 : decode b_Reg_read 5 = .ok (.sipush 255, 3) := by decide +kernel
theorem d_Reg_read_8 : decode b_Reg_read 8 = .ok (.if_icmp .gt 12, 3) := by decide +kernel
theorem d_Reg_read_11 : decode b_Reg_read 11 = .ok (.aload_n 0, 1) := by decide +kernel
theorem d_Reg_read_12 : decode b_Reg_read 12 = .ok (.getfield 9, 3) := by decide +kernel
theorem d_Reg_read_15 : decode b_Reg_read 15 = .ok (.iload_n 1, 1) := by decide +kernel
theorem d_Reg_read_16 : decode b_Reg_read 16 = .ok (.laload, 1) := by decide +kernel
theorem d_Reg_read_17 : decode b_Reg_read 17 = .ok (.goto 4, 3) := by decide +kernel
theorem d_Reg_read_20 : decode b_Reg_read 20 = .ok (.lconst 0, 1) := by decide +kernel
theorem d_Reg_read_21 : decode b_Reg_read 21 = .ok (.lreturn, 1) := by decide +kernel
theorem d_Reg_reset_0 : decode b_Reg_reset 0 = .ok (.aload_n 0, 1) := by decide +kernel
theorem d_Reg_reset_1 : decode b_Reg_reset 1 = .ok (.iconst 0, 1) := by decide +kernel
theorem d_Reg_reset_2 : decode b_Reg_reset 2 = .ok (.sipush 256, 3) := by decide +kernel
theorem d_Reg_reset_5 : decode b_Reg_reset 5 = .ok (.invokevirtual 25, 3) := by decide +kernel
theorem d_Reg_reset_8 : decode b_Reg_reset 8 = .ok (.iconst 0, 1) := by decide +kernel
theorem d_Reg_reset_9 : decode b_Reg_reset 9 = .ok (.istore_n 1, 1) := by decide +kernel
theorem d_Reg_reset_10 : decode b_Reg_reset 10 = .ok (.iload_n 1, 1) := by decide +kernel
theorem d_Reg_reset_11 : decode b_Reg_reset 11 = .ok (.aload_n 0, 1) := by decide +kernel
theorem d_Reg_reset_12 : decode b_Reg_reset 12 = .ok (.getfield 15, 3) := by decide +kernel
theorem d_Reg_reset_15 : decode b_Reg_reset 15 = .ok (.arraylength, 1) := by decide +kernel
theorem d_Reg_reset_16 : decode b_Reg_reset 16 = .ok (.if_icmp .ge 16, 3) := by decide +kernel
theorem d_Reg_reset_19 : decode b_Reg_reset 19 = .ok (.aload_n 0, 1) := by decide +kernel
theorem d_Reg_reset_20 : decode b_Reg_reset 20 = .ok (.getfield 15, 3) := by decide +kernel
theorem d_Reg_reset_23 : decode b_Reg_reset 23 = .ok (.iload_n 1, 1) := by decide +kernel
theorem d_Reg_reset_24 : decode b_Reg_reset 24 = .ok (.lconst 0, 1) := by decide +kernel
theorem d_Reg_reset_25 : decode b_Reg_reset 25 = .ok (.lastore, 1) := by decide +kernel
theorem d_Reg_reset_26 : decode b_Reg_reset 26 = .ok (.iinc 1 1, 3) := by decide +kernel
theorem d_Reg_reset_29 : decode b_Reg_reset 29 = .ok (.goto (-19), 3) := by decide +kernel
theorem d_Reg_reset_32 : decode b_Reg_reset 32 = .ok (.aload_n 0, 1) := by decide +kernel
theorem d_Reg_reset_33 : decode b_Reg_reset 33 = .ok (.iconst 0, 1) := by decide +kernel
theorem d_Reg_reset_34 : decode b_Reg_reset 34 = .ok (.putfield 29, 3) := by decide +kernel
theorem d_Reg_reset_37 : decode b_Reg_reset 37 = .ok (.aload_n 0, 1) := by decide +kernel
theorem d_Reg_reset_38 : decode b_Reg_reset 38 = .ok (.iconst 0, 1) := by decide +kernel
theorem d_Reg_reset_39 : decode b_Reg_reset 39 = .ok (.putfield 32, 3) := by decide +kernel
theorem d_Reg_reset_42 : decode b_Reg_reset 42 = .ok (.aload_n 0, 1) := by decide +kernel
theorem d_Reg_reset_43 : decode b_Reg_reset 43 = .ok (.sipush 255, 3) := by decide +kernel
theorem d_Reg_reset_46 : decode b_Reg_reset 46 = .ok (.putfield 21, 3) := by decide +kernel
theorem d_Reg_reset_49 : decode b_Reg_reset 49 = .ok (.return_, 1) := by decide +kernel
theorem d_Sum_init_0 : decode b_Sum_init 0 = .ok (.aload_n 0, 1) := by decide +kernel
theorem d_Sum_init_1 : decode b_Sum_init 1 = .ok (.invokespecial 3, 3) := by decide +kernel
theorem d_Sum_init_4 : decode b_Sum_init 4 = .ok (.aload_n 0, 1) := by decide +kernel
theorem d_Sum_init_5 : decode b_Sum_init 5 = .ok (.aload_n 1, 1) := by decide +kernel
theorem d_Sum_init_6 : decode b_Sum_init 6 = .ok (.putfield 9, 3) := by decide +kernel
theorem d_Sum_init_9 : decode b_Sum_init 9 = .ok (.aload_n 0, 1) := by decide +kernel
theorem d_Sum_init_10 : decode b_Sum_init 10 = .ok (.aload_n 2, 1) := by decide +kernel
theorem d_Sum_init_11 : decode b_Sum_init 11 = .ok (.putfield 15, 3) := by decide +kernel
theorem d_Sum_init_14 : decode b_Sum_init 14 = .ok (.return_, 1) := by decide +kernel
theorem d_LittleMixLaw_law_0 : decode b_LittleMixLaw_law 0 = .ok (.new 7, 3) := by decide +kernel
theorem d_LittleMixLaw_law_3 : decode b_LittleMixLaw_law 3 = .ok (.dup, 1) := by decide +kernel
theorem d_LittleMixLaw_law_4 : decode b_LittleMixLaw_law 4 = .ok (.invokespecial 9, 3) := by decide +kernel
theorem d_LittleMixLaw_law_7 : decode b_LittleMixLaw_law 7 = .ok (.astore_n 1, 1) := by decide +kernel
theorem d_LittleMixLaw_law_8 : decode b_LittleMixLaw_law 8 = .ok (.new 10, 3) := by decide +kernel
theorem d_LittleMixLaw_law_11 : decode b_LittleMixLaw_law 11 = .ok (.dup, 1) := by decide +kernel
theorem d_LittleMixLaw_law_12 : decode b_LittleMixLaw_law 12 = .ok (.invokespecial 12, 3) := by decide +kernel
theorem d_LittleMixLaw_law_15 : decode b_LittleMixLaw_law 15 = .ok (.astore_n 2, 1) := by decide +kernel
theorem d_LittleMixLaw_law_16 : decode b_LittleMixLaw_law 16 = .ok (.iconst 0, 1) := by decide +kernel
theorem d_LittleMixLaw_law_17 : decode b_LittleMixLaw_law 17 = .ok (.istore_n 3, 1) := by decide +kernel
theorem d_LittleMixLaw_law_18 : decode b_LittleMixLaw_law 18 = .ok (.iload_n 3, 1) := by decide +kernel
theorem d_LittleMixLaw_law_19 : decode b_LittleMixLaw_law 19 = .ok (.aload_n 0, 1) := by decide +kernel
theorem d_LittleMixLaw_law_20 : decode b_LittleMixLaw_law 20 = .ok (.arraylength, 1) := by decide +kernel
theorem d_LittleMixLaw_law_21 : decode b_LittleMixLaw_law 21 = .ok (.bipush 6, 2) := by decide +kernel
theorem d_LittleMixLaw_law_23 : decode b_LittleMixLaw_law 23 = .ok (.isub, 1) := by decide +kernel
theorem d_LittleMixLaw_law_24 : decode b_LittleMixLaw_law 24 = .ok (.if_icmp .gt 403, 3) := by decide +kernel
theorem d_LittleMixLaw_law_27 : decode b_LittleMixLaw_law 27 = .ok (.aload_n 0, 1) := by decide +kernel
theorem d_LittleMixLaw_law_28 : decode b_LittleMixLaw_law 28 = .ok (.iload_n 3, 1) := by decide +kernel
theorem d_LittleMixLaw_law_29 : decode b_LittleMixLaw_law 29 = .ok (.iaload, 1) := by decide +kernel
theorem d_LittleMixLaw_law_30 : decode b_LittleMixLaw_law 30 = .ok (.bipush 15, 2) := by decide +kernel
theorem d_LittleMixLaw_law_32 : decode b_LittleMixLaw_law 32 = .ok (.iand, 1) := by decide +kernel
theorem d_LittleMixLaw_law_33 : decode b_LittleMixLaw_law 33 = .ok (.tableswitch 388 0 12 #[67, 130, 153, 166, 190, 213, 256, 267, 290, 303, 327, 351, 365], 67) := by decide +kernel
theorem d_LittleMixLaw_law_100 : decode b_LittleMixLaw_law 100 = .ok (.aload_n 1, 1) := by decide +kernel
theorem d_LittleMixLaw_law_101 : decode b_LittleMixLaw_law 101 = .ok (.aload_n 0, 1) := by decide +kernel
theorem d_LittleMixLaw_law_102 : decode b_LittleMixLaw_law 102 = .ok (.iload_n 3, 1) := by decide +kernel
theorem d_LittleMixLaw_law_103 : decode b_LittleMixLaw_law 103 = .ok (.iconst 1, 1) := by decide +kernel
theorem d_LittleMixLaw_law_104 : decode b_LittleMixLaw_law 104 = .ok (.iadd, 1) := by decide +kernel
theorem d_LittleMixLaw_law_105 : decode b_LittleMixLaw_law 105 = .ok (.iaload, 1) := by decide +kernel
theorem d_LittleMixLaw_law_106 : decode b_LittleMixLaw_law 106 = .ok (.aload_n 0, 1) := by decide +kernel
theorem d_LittleMixLaw_law_107 : decode b_LittleMixLaw_law 107 = .ok (.iload_n 3, 1) := by decide +kernel
theorem d_LittleMixLaw_law_108 : decode b_LittleMixLaw_law 108 = .ok (.iconst 2, 1) := by decide +kernel
theorem d_LittleMixLaw_law_109 : decode b_LittleMixLaw_law 109 = .ok (.iadd, 1) := by decide +kernel
theorem d_LittleMixLaw_law_110 : decode b_LittleMixLaw_law 110 = .ok (.iaload, 1) := by decide +kernel
theorem d_LittleMixLaw_law_111 : decode b_LittleMixLaw_law 111 = .ok (.aload_n 0, 1) := by decide +kernel
theorem d_LittleMixLaw_law_112 : decode b_LittleMixLaw_law 112 = .ok (.iload_n 3, 1) := by decide +kernel
theorem d_LittleMixLaw_law_113 : decode b_LittleMixLaw_law 113 = .ok (.iconst 3, 1) := by decide +kernel
theorem d_LittleMixLaw_law_114 : decode b_LittleMixLaw_law 114 = .ok (.iadd, 1) := by decide +kernel
theorem d_LittleMixLaw_law_115 : decode b_LittleMixLaw_law 115 = .ok (.iaload, 1) := by decide +kernel
theorem d_LittleMixLaw_law_116 : decode b_LittleMixLaw_law 116 = .ok (.aload_n 0, 1) := by decide +kernel
theorem d_LittleMixLaw_law_117 : decode b_LittleMixLaw_law 117 = .ok (.iload_n 3, 1) := by decide +kernel
theorem d_LittleMixLaw_law_118 : decode b_LittleMixLaw_law 118 = .ok (.iconst 4, 1) := by decide +kernel
theorem d_LittleMixLaw_law_119 : decode b_LittleMixLaw_law 119 = .ok (.iadd, 1) := by decide +kernel
theorem d_LittleMixLaw_law_120 : decode b_LittleMixLaw_law 120 = .ok (.iaload, 1) := by decide +kernel
theorem d_LittleMixLaw_law_121 : decode b_LittleMixLaw_law 121 = .ok (.aload_n 0, 1) := by decide +kernel
theorem d_LittleMixLaw_law_122 : decode b_LittleMixLaw_law 122 = .ok (.iload_n 3, 1) := by decide +kernel
theorem d_LittleMixLaw_law_123 : decode b_LittleMixLaw_law 123 = .ok (.iconst 5, 1) := by decide +kernel
theorem d_LittleMixLaw_law_124 : decode b_LittleMixLaw_law 124 = .ok (.iadd, 1) := by decide +kernel
theorem d_LittleMixLaw_law_125 : decode b_LittleMixLaw_law 125 = .ok (.iaload, 1) := by decide +kernel
theorem d_LittleMixLaw_law_126 : decode b_LittleMixLaw_law 126 = .ok (.invokevirtual 13, 3) := by decide +kernel
theorem d_LittleMixLaw_law_129 : decode b_LittleMixLaw_law 129 = .ok (.aload_n 2, 1) := by decide +kernel
theorem d_LittleMixLaw_law_130 : decode b_LittleMixLaw_law 130 = .ok (.aload_n 0, 1) := by decide +kernel
theorem d_LittleMixLaw_law_131 : decode b_LittleMixLaw_law 131 = .ok (.iload_n 3, 1) := by decide +kernel
theorem d_LittleMixLaw_law_132 : decode b_LittleMixLaw_law 132 = .ok (.iconst 1, 1) := by decide +kernel
theorem d_LittleMixLaw_law_133 : decode b_LittleMixLaw_law 133 = .ok (.iadd, 1) := by decide +kernel
theorem d_LittleMixLaw_law_134 : decode b_LittleMixLaw_law 134 = .ok (.iaload, 1) := by decide +kernel
theorem d_LittleMixLaw_law_135 : decode b_LittleMixLaw_law 135 = .ok (.aload_n 0, 1) := by decide +kernel
theorem d_LittleMixLaw_law_136 : decode b_LittleMixLaw_law 136 = .ok (.iload_n 3, 1) := by decide +kernel
theorem d_LittleMixLaw_law_137 : decode b_LittleMixLaw_law 137 = .ok (.iconst 2, 1) := by decide +kernel
theorem d_LittleMixLaw_law_138 : decode b_LittleMixLaw_law 138 = .ok (.iadd, 1) := by decide +kernel
theorem d_LittleMixLaw_law_139 : decode b_LittleMixLaw_law 139 = .ok (.iaload, 1) := by decide +kernel
theorem d_LittleMixLaw_law_140 : decode b_LittleMixLaw_law 140 = .ok (.aload_n 0, 1) := by decide +kernel
theorem d_LittleMixLaw_law_141 : decode b_LittleMixLaw_law 141 = .ok (.iload_n 3, 1) := by decide +kernel
theorem d_LittleMixLaw_law_142 : decode b_LittleMixLaw_law 142 = .ok (.iconst 3, 1) := by decide +kernel
theorem d_LittleMixLaw_law_143 : decode b_LittleMixLaw_law 143 = .ok (.iadd, 1) := by decide +kernel
theorem d_LittleMixLaw_law_144 : decode b_LittleMixLaw_law 144 = .ok (.iaload, 1) := by decide +kernel
theorem d_LittleMixLaw_law_145 : decode b_LittleMixLaw_law 145 = .ok (.aload_n 0, 1) := by decide +kernel
theorem d_LittleMixLaw_law_146 : decode b_LittleMixLaw_law 146 = .ok (.iload_n 3, 1) := by decide +kernel
theorem d_LittleMixLaw_law_147 : decode b_LittleMixLaw_law 147 = .ok (.iconst 4, 1) := by decide +kernel
theorem d_LittleMixLaw_law_148 : decode b_LittleMixLaw_law 148 = .ok (.iadd, 1) := by decide +kernel
theorem d_LittleMixLaw_law_149 : decode b_LittleMixLaw_law 149 = .ok (.iaload, 1) := by decide +kernel
theorem d_LittleMixLaw_law_150 : decode b_LittleMixLaw_law 150 = .ok (.aload_n 0, 1) := by decide +kernel
theorem d_LittleMixLaw_law_151 : decode b_LittleMixLaw_law 151 = .ok (.iload_n 3, 1) := by decide +kernel
theorem d_LittleMixLaw_law_152 : decode b_LittleMixLaw_law 152 = .ok (.iconst 5, 1) := by decide +kernel
theorem d_LittleMixLaw_law_153 : decode b_LittleMixLaw_law 153 = .ok (.iadd, 1) := by decide +kernel
theorem d_LittleMixLaw_law_154 : decode b_LittleMixLaw_law 154 = .ok (.iaload, 1) := by decide +kernel
theorem d_LittleMixLaw_law_155 : decode b_LittleMixLaw_law 155 = .ok (.invokevirtual 17, 3) := by decide +kernel
theorem d_LittleMixLaw_law_158 : decode b_LittleMixLaw_law 158 = .ok (.if_icmp .eq 263, 3) := by decide +kernel
theorem d_LittleMixLaw_law_163 : decode b_LittleMixLaw_law 163 = .ok (.aload_n 1, 1) := by decide +kernel
theorem d_LittleMixLaw_law_164 : decode b_LittleMixLaw_law 164 = .ok (.aload_n 0, 1) := by decide +kernel
theorem d_LittleMixLaw_law_165 : decode b_LittleMixLaw_law 165 = .ok (.iload_n 3, 1) := by decide +kernel
theorem d_LittleMixLaw_law_166 : decode b_LittleMixLaw_law 166 = .ok (.iconst 1, 1) := by decide +kernel
theorem d_LittleMixLaw_law_167 : decode b_LittleMixLaw_law 167 = .ok (.iadd, 1) := by decide +kernel
theorem d_LittleMixLaw_law_168 : decode b_LittleMixLaw_law 168 = .ok (.iaload, 1) := by decide +kernel
theorem d_LittleMixLaw_law_169 : decode b_LittleMixLaw_law 169 = .ok (.invokevirtual 18, 3) := by decide +kernel
theorem d_LittleMixLaw_law_172 : decode b_LittleMixLaw_law 172 = .ok (.aload_n 2, 1) := by decide +kernel
theorem d_LittleMixLaw_law_173 : decode b_LittleMixLaw_law 173 = .ok (.aload_n 0, 1) := by decide +kernel
theorem d_LittleMixLaw_law_174 : decode b_LittleMixLaw_law 174 = .ok (.iload_n 3, 1) := by decide +kernel
theorem d_LittleMixLaw_law_175 : decode b_LittleMixLaw_law 175 = .ok (.iconst 1, 1) := by decide +kernel
theorem d_LittleMixLaw_law_176 : decode b_LittleMixLaw_law 176 = .ok (.iadd, 1) := by decide +kernel
theorem d_LittleMixLaw_law_177 : decode b_LittleMixLaw_law 177 = .ok (.iaload, 1) := by decide +kernel
theorem d_LittleMixLaw_law_178 : decode b_LittleMixLaw_law 178 = .ok (.invokevirtual 22, 3) := by decide +kernel
theorem d_LittleMixLaw_law_181 : decode b_LittleMixLaw_law 181 = .ok (.if_icmp .eq 240, 3) := by decide +kernel
end
section
theorem d_LittleMixLaw_law_186 : decode b_LittleMixLaw_law 186 = .ok (.aload_n 1, 1) := by decide +kernel
theorem d_LittleMixLaw_law_187 : decode b_LittleMixLaw_law 187 = .ok (.invokevirtual 23, 3) := by decide +kernel
theorem d_LittleMixLaw_law_190 : decode b_LittleMixLaw_law 190 = .ok (.aload_n 2, 1) := by decide +kernel
theorem d_LittleMixLaw_law_191 : decode b_LittleMixLaw_law 191 = .ok (.invokevirtual 27, 3) := by decide +kernel
theorem d_LittleMixLaw_law_194 : decode b_LittleMixLaw_law 194 = .ok (.if_icmp .eq 227, 3) := by decide +kernel
theorem d_LittleMixLaw_law_199 : decode b_LittleMixLaw_law 199 = .ok (.aload_n 1, 1) := by decide +kernel
theorem d_LittleMixLaw_law_200 : decode b_LittleMixLaw_law 200 = .ok (.aload_n 0, 1) := by decide +kernel
theorem d_LittleMixLaw_law_201 : decode b_LittleMixLaw_law 201 = .ok (.iload_n 3, 1) := by decide +kernel
theorem d_LittleMixLaw_law_202 : decode b_LittleMixLaw_law 202 = .ok (.iconst 1, 1) := by decide +kernel
theorem d_LittleMixLaw_law_203 : decode b_LittleMixLaw_law 203 = .ok (.iadd, 1) := by decide +kernel
theorem d_LittleMixLaw_law_204 : decode b_LittleMixLaw_law 204 = .ok (.iaload, 1) := by decide +kernel
theorem d_LittleMixLaw_law_205 : decode b_LittleMixLaw_law 205 = .ok (.invokevirtual 28, 3) := by decide +kernel
theorem d_LittleMixLaw_law_208 : decode b_LittleMixLaw_law 208 = .ok (.aload_n 2, 1) := by decide +kernel
theorem d_LittleMixLaw_law_209 : decode b_LittleMixLaw_law 209 = .ok (.aload_n 0, 1) := by decide +kernel
theorem d_LittleMixLaw_law_210 : decode b_LittleMixLaw_law 210 = .ok (.iload_n 3, 1) := by decide +kernel
theorem d_LittleMixLaw_law_211 : decode b_LittleMixLaw_law 211 = .ok (.iconst 1, 1) := by decide +kernel
theorem d_LittleMixLaw_law_212 : decode b_LittleMixLaw_law 212 = .ok (.iadd, 1) := by decide +kernel
theorem d_LittleMixLaw_law_213 : decode b_LittleMixLaw_law 213 = .ok (.iaload, 1) := by decide +kernel
theorem d_LittleMixLaw_law_214 : decode b_LittleMixLaw_law 214 = .ok (.invokevirtual 32, 3) := by decide +kernel
theorem d_LittleMixLaw_law_217 : decode b_LittleMixLaw_law 217 = .ok (.lcmp, 1) := by decide +kernel
theorem d_LittleMixLaw_law_218 : decode b_LittleMixLaw_law 218 = .ok (.ifCond .eq 203, 3) := by decide +kernel
theorem d_LittleMixLaw_law_223 : decode b_LittleMixLaw_law 223 = .ok (.aload_n 1, 1) := by decide +kernel
theorem d_LittleMixLaw_law_224 : decode b_LittleMixLaw_law 224 = .ok (.aload_n 0, 1) := by decide +kernel
theorem d_LittleMixLaw_law_225 : decode b_LittleMixLaw_law 225 = .ok (.iload_n 3, 1) := by decide +kernel
theorem d_LittleMixLaw_law_226 : decode b_LittleMixLaw_law 226 = .ok (.iconst 1, 1) := by decide +kernel
theorem d_LittleMixLaw_law_227 : decode b_LittleMixLaw_law 227 = .ok (.iadd, 1) := by decide +kernel
theorem d_LittleMixLaw_law_228 : decode b_LittleMixLaw_law 228 = .ok (.iaload, 1) := by decide +kernel
theorem d_LittleMixLaw_law_229 : decode b_LittleMixLaw_law 229 = .ok (.invokevirtual 33, 3) := by decide +kernel
theorem d_LittleMixLaw_law_232 : decode b_LittleMixLaw_law 232 = .ok (.aload_n 2, 1) := by decide +kernel
theorem d_LittleMixLaw_law_233 : decode b_LittleMixLaw_law 233 = .ok (.aload_n 0, 1) := by decide +kernel
theorem d_LittleMixLaw_law_234 : decode b_LittleMixLaw_law 234 = .ok (.iload_n 3, 1) := by decide +kernel
theorem d_LittleMixLaw_law_235 : decode b_LittleMixLaw_law 235 = .ok (.iconst 1, 1) := by decide +kernel
theorem d_LittleMixLaw_law_236 : decode b_LittleMixLaw_law 236 = .ok (.iadd, 1) := by decide +kernel
theorem d_LittleMixLaw_law_237 : decode b_LittleMixLaw_law 237 = .ok (.iaload, 1) := by decide +kernel
theorem d_LittleMixLaw_law_238 : decode b_LittleMixLaw_law 238 = .ok (.invokevirtual 36, 3) := by decide +kernel
theorem d_LittleMixLaw_law_241 : decode b_LittleMixLaw_law 241 = .ok (.if_icmp .eq 180, 3) := by decide +kernel
theorem d_LittleMixLaw_law_246 : decode b_LittleMixLaw_law 246 = .ok (.aload_n 1, 1) := by decide +kernel
theorem d_LittleMixLaw_law_247 : decode b_LittleMixLaw_law 247 = .ok (.aload_n 0, 1) := by decide +kernel
theorem d_LittleMixLaw_law_248 : decode b_LittleMixLaw_law 248 = .ok (.iload_n 3, 1) := by decide +kernel
theorem d_LittleMixLaw_law_249 : decode b_LittleMixLaw_law 249 = .ok (.iconst 1, 1) := by decide +kernel
theorem d_LittleMixLaw_law_250 : decode b_LittleMixLaw_law 250 = .ok (.iadd, 1) := by decide +kernel
theorem d_LittleMixLaw_law_251 : decode b_LittleMixLaw_law 251 = .ok (.iaload, 1) := by decide +kernel
theorem d_LittleMixLaw_law_252 : decode b_LittleMixLaw_law 252 = .ok (.aload_n 0, 1) := by decide +kernel
theorem d_LittleMixLaw_law_253 : decode b_LittleMixLaw_law 253 = .ok (.iload_n 3, 1) := by decide +kernel
theorem d_LittleMixLaw_law_254 : decode b_LittleMixLaw_law 254 = .ok (.iconst 2, 1) := by decide +kernel
theorem d_LittleMixLaw_law_255 : decode b_LittleMixLaw_law 255 = .ok (.iadd, 1) := by decide +kernel
theorem d_LittleMixLaw_law_256 : decode b_LittleMixLaw_law 256 = .ok (.iaload, 1) := by decide +kernel
theorem d_LittleMixLaw_law_257 : decode b_LittleMixLaw_law 257 = .ok (.aload_n 0, 1) := by decide +kernel
theorem d_LittleMixLaw_law_258 : decode b_LittleMixLaw_law 258 = .ok (.iload_n 3, 1) := by decide +kernel
theorem d_LittleMixLaw_law_259 : decode b_LittleMixLaw_law 259 = .ok (.iconst 3, 1) := by decide +kernel
theorem d_LittleMixLaw_law_260 : decode b_LittleMixLaw_law 260 = .ok (.iadd, 1) := by decide +kernel
theorem d_LittleMixLaw_law_261 : decode b_LittleMixLaw_law 261 = .ok (.iaload, 1) := by decide +kernel
theorem d_LittleMixLaw_law_262 : decode b_LittleMixLaw_law 262 = .ok (.invokevirtual 37, 3) := by decide +kernel
theorem d_LittleMixLaw_law_265 : decode b_LittleMixLaw_law 265 = .ok (.aload_n 2, 1) := by decide +kernel
theorem d_LittleMixLaw_law_266 : decode b_LittleMixLaw_law 266 = .ok (.aload_n 0, 1) := by decide +kernel
theorem d_LittleMixLaw_law_267 : decode b_LittleMixLaw_law 267 = .ok (.iload_n 3, 1) := by decide +kernel
theorem d_LittleMixLaw_law_268 : decode b_LittleMixLaw_law 268 = .ok (.iconst 1, 1) := by decide +kernel
theorem d_LittleMixLaw_law_269 : decode b_LittleMixLaw_law 269 = .ok (.iadd, 1) := by decide +kernel
theorem d_LittleMixLaw_law_270 : decode b_LittleMixLaw_law 270 = .ok (.iaload, 1) := by decide +kernel
theorem d_LittleMixLaw_law_271 : decode b_LittleMixLaw_law 271 = .ok (.aload_n 0, 1) := by decide +kernel
theorem d_LittleMixLaw_law_272 : decode b_LittleMixLaw_law 272 = .ok (.iload_n 3, 1) := by decide +kernel
theorem d_LittleMixLaw_law_273 : decode b_LittleMixLaw_law 273 = .ok (.iconst 2, 1) := by decide +kernel
theorem d_LittleMixLaw_law_274 : decode b_LittleMixLaw_law 274 = .ok (.iadd, 1) := by decide +kernel
theorem d_LittleMixLaw_law_275 : decode b_LittleMixLaw_law 275 = .ok (.iaload, 1) := by decide +kernel
theorem d_LittleMixLaw_law_276 : decode b_LittleMixLaw_law 276 = .ok (.aload_n 0, 1) := by decide +kernel
theorem d_LittleMixLaw_law_277 : decode b_LittleMixLaw_law 277 = .ok (.iload_n 3, 1) := by decide +kernel
theorem d_LittleMixLaw_law_278 : decode b_LittleMixLaw_law 278 = .ok (.iconst 3, 1) := by decide +kernel
theorem d_LittleMixLaw_law_279 : decode b_LittleMixLaw_law 279 = .ok (.iadd, 1) := by decide +kernel
theorem d_LittleMixLaw_law_280 : decode b_LittleMixLaw_law 280 = .ok (.iaload, 1) := by decide +kernel
theorem d_LittleMixLaw_law_281 : decode b_LittleMixLaw_law 281 = .ok (.invokevirtual 41, 3) := by decide +kernel
theorem d_LittleMixLaw_law_284 : decode b_LittleMixLaw_law 284 = .ok (.if_icmp .eq 137, 3) := by decide +kernel
theorem d_LittleMixLaw_law_289 : decode b_LittleMixLaw_law 289 = .ok (.aload_n 1, 1) := by decide +kernel
theorem d_LittleMixLaw_law_290 : decode b_LittleMixLaw_law 290 = .ok (.invokevirtual 42, 3) := by decide +kernel
theorem d_LittleMixLaw_law_293 : decode b_LittleMixLaw_law 293 = .ok (.aload_n 2, 1) := by decide +kernel
theorem d_LittleMixLaw_law_294 : decode b_LittleMixLaw_law 294 = .ok (.invokevirtual 45, 3) := by decide +kernel
theorem d_LittleMixLaw_law_297 : decode b_LittleMixLaw_law 297 = .ok (.goto 124, 3) := by decide +kernel
theorem d_LittleMixLaw_law_300 : decode b_LittleMixLaw_law 300 = .ok (.aload_n 1, 1) := by decide +kernel
theorem d_LittleMixLaw_law_301 : decode b_LittleMixLaw_law 301 = .ok (.aload_n 0, 1) := by decide +kernel
theorem d_LittleMixLaw_law_302 : decode b_LittleMixLaw_law 302 = .ok (.iload_n 3, 1) := by decide +kernel
theorem d_LittleMixLaw_law_303 : decode b_LittleMixLaw_law 303 = .ok (.iconst 1, 1) := by decide +kernel
theorem d_LittleMixLaw_law_304 : decode b_LittleMixLaw_law 304 = .ok (.iadd, 1) := by decide +kernel
theorem d_LittleMixLaw_law_305 : decode b_LittleMixLaw_law 305 = .ok (.iaload, 1) := by decide +kernel
theorem d_LittleMixLaw_law_306 : decode b_LittleMixLaw_law 306 = .ok (.invokevirtual 46, 3) := by decide +kernel
theorem d_LittleMixLaw_law_309 : decode b_LittleMixLaw_law 309 = .ok (.aload_n 2, 1) := by decide +kernel
theorem d_LittleMixLaw_law_310 : decode b_LittleMixLaw_law 310 = .ok (.aload_n 0, 1) := by decide +kernel
theorem d_LittleMixLaw_law_311 : decode b_LittleMixLaw_law 311 = .ok (.iload_n 3, 1) := by decide +kernel
theorem d_LittleMixLaw_law_312 : decode b_LittleMixLaw_law 312 = .ok (.iconst 1, 1) := by decide +kernel
theorem d_LittleMixLaw_law_313 : decode b_LittleMixLaw_law 313 = .ok (.iadd, 1) := by decide +kernel
theorem d_LittleMixLaw_law_314 : decode b_LittleMixLaw_law 314 = .ok (.iaload, 1) := by decide +kernel
theorem d_LittleMixLaw_law_315 : decode b_LittleMixLaw_law 315 = .ok (.invokevirtual 49, 3) := by decide +kernel
theorem d_LittleMixLaw_law_318 : decode b_LittleMixLaw_law 318 = .ok (.if_icmp .eq 103, 3) := by decide +kernel
theorem d_LittleMixLaw_law_323 : decode b_LittleMixLaw_law 323 = .ok (.aload_n 1, 1) := by decide +kernel
theorem d_LittleMixLaw_law_324 : decode b_LittleMixLaw_law 324 = .ok (.invokevirtual 50, 3) := by decide +kernel
theorem d_LittleMixLaw_law_327 : decode b_LittleMixLaw_law 327 = .ok (.aload_n 2, 1) := by decide +kernel
theorem d_LittleMixLaw_law_328 : decode b_LittleMixLaw_law 328 = .ok (.invokevirtual 53, 3) := by decide +kernel
theorem d_LittleMixLaw_law_331 : decode b_LittleMixLaw_law 331 = .ok (.if_icmp .eq 90, 3) := by decide +kernel
theorem d_LittleMixLaw_law_336 : decode b_LittleMixLaw_law 336 = .ok (.aload_n 1, 1) := by decide +kernel
theorem d_LittleMixLaw_law_337 : decode b_LittleMixLaw_law 337 = .ok (.aload_n 0, 1) := by decide +kernel
theorem d_LittleMixLaw_law_338 : decode b_LittleMixLaw_law 338 = .ok (.iload_n 3, 1) := by decide +kernel
theorem d_LittleMixLaw_law_339 : decode b_LittleMixLaw_law 339 = .ok (.iconst 1, 1) := by decide +kernel
theorem d_LittleMixLaw_law_340 : decode b_LittleMixLaw_law 340 = .ok (.iadd, 1) := by decide +kernel
theorem d_LittleMixLaw_law_341 : decode b_LittleMixLaw_law 341 = .ok (.iaload, 1) := by decide +kernel
theorem d_LittleMixLaw_law_342 : decode b_LittleMixLaw_law 342 = .ok (.invokevirtual 54, 3) := by decide +kernel
theorem d_LittleMixLaw_law_345 : decode b_LittleMixLaw_law 345 = .ok (.aload_n 2, 1) := by decide +kernel
theorem d_LittleMixLaw_law_346 : decode b_LittleMixLaw_law 346 = .ok (.aload_n 0, 1) := by decide +kernel
theorem d_LittleMixLaw_law_347 : decode b_LittleMixLaw_law 347 = .ok (.iload_n 3, 1) := by decide +kernel
theorem d_LittleMixLaw_law_348 : decode b_LittleMixLaw_law 348 = .ok (.iconst 1, 1) := by decide +kernel
theorem d_LittleMixLaw_law_349 : decode b_LittleMixLaw_law 349 = .ok (.iadd, 1) := by decide +kernel
theorem d_LittleMixLaw_law_350 : decode b_LittleMixLaw_law 350 = .ok (.iaload, 1) := by decide +kernel
theorem d_LittleMixLaw_law_351 : decode b_LittleMixLaw_law 351 = .ok (.invokevirtual 57, 3) := by decide +kernel
theorem d_LittleMixLaw_law_354 : decode b_LittleMixLaw_law 354 = .ok (.lcmp, 1) := by decide +kernel
theorem d_LittleMixLaw_law_355 : decode b_LittleMixLaw_law 355 = .ok (.ifCond .eq 66, 3) := by decide +kernel
theorem d_LittleMixLaw_law_360 : decode b_LittleMixLaw_law 360 = .ok (.aload_n 1, 1) := by decide +kernel
theorem d_LittleMixLaw_law_361 : decode b_LittleMixLaw_law 361 = .ok (.aload_n 0, 1) := by decide +kernel
theorem d_LittleMixLaw_law_362 : decode b_LittleMixLaw_law 362 = .ok (.iload_n 3, 1) := by decide +kernel
theorem d_LittleMixLaw_law_363 : decode b_LittleMixLaw_law 363 = .ok (.iconst 1, 1) := by decide +kernel
theorem d_LittleMixLaw_law_364 : decode b_LittleMixLaw_law 364 = .ok (.iadd, 1) := by decide +kernel
theorem d_LittleMixLaw_law_365 : decode b_LittleMixLaw_law 365 = .ok (.iaload, 1) := by decide +kernel
theorem d_LittleMixLaw_law_366 : decode b_LittleMixLaw_law 366 = .ok (.invokevirtual 58, 3) := by decide +kernel
theorem d_LittleMixLaw_law_369 : decode b_LittleMixLaw_law 369 = .ok (.aload_n 2, 1) := by decide +kernel
theorem d_LittleMixLaw_law_370 : decode b_LittleMixLaw_law 370 = .ok (.aload_n 0, 1) := by decide +kernel
theorem d_LittleMixLaw_law_371 : decode b_LittleMixLaw_law 371 = .ok (.iload_n 3, 1) := by decide +kernel
theorem d_LittleMixLaw_law_372 : decode b_LittleMixLaw_law 372 = .ok (.iconst 1, 1) := by decide +kernel
theorem d_LittleMixLaw_law_373 : decode b_LittleMixLaw_law 373 = .ok (.iadd, 1) := by decide +kernel
theorem d_LittleMixLaw_law_374 : decode b_LittleMixLaw_law 374 = .ok (.iaload, 1) := by decide +kernel
theorem d_LittleMixLaw_law_375 : decode b_LittleMixLaw_law 375 = .ok (.invokevirtual 61, 3) := by decide +kernel
theorem d_LittleMixLaw_law_378 : decode b_LittleMixLaw_law 378 = .ok (.lcmp, 1) := by decide +kernel
theorem d_LittleMixLaw_law_379 : decode b_LittleMixLaw_law 379 = .ok (.ifCond .eq 42, 3) := by decide +kernel
theorem d_LittleMixLaw_law_384 : decode b_LittleMixLaw_law 384 = .ok (.aload_n 1, 1) := by decide +kernel
theorem d_LittleMixLaw_law_385 : decode b_LittleMixLaw_law 385 = .ok (.invokevirtual 62, 3) := by decide +kernel
theorem d_LittleMixLaw_law_388 : decode b_LittleMixLaw_law 388 = .ok (.aload_n 2, 1) := by decide +kernel
theorem d_LittleMixLaw_law_389 : decode b_LittleMixLaw_law 389 = .ok (.invokevirtual 66, 3) := by decide +kernel
theorem d_LittleMixLaw_law_392 : decode b_LittleMixLaw_law 392 = .ok (.lcmp, 1) := by decide +kernel
theorem d_LittleMixLaw_law_393 : decode b_LittleMixLaw_law 393 = .ok (.ifCond .eq 28, 3) := by decide +kernel
theorem d_LittleMixLaw_law_398 : decode b_LittleMixLaw_law 398 = .ok (.aload_n 1, 1) := by decide +kernel
theorem d_LittleMixLaw_law_399 : decode b_LittleMixLaw_law 399 = .ok (.aload_n 0, 1) := by decide +kernel
theorem d_LittleMixLaw_law_400 : decode b_LittleMixLaw_law 400 = .ok (.iload_n 3, 1) := by decide +kernel
theorem d_LittleMixLaw_law_401 : decode b_LittleMixLaw_law 401 = .ok (.iconst 1, 1) := by decide +kernel
theorem d_LittleMixLaw_law_402 : decode b_LittleMixLaw_law 402 = .ok (.iadd, 1) := by decide +kernel
theorem d_LittleMixLaw_law_403 : decode b_LittleMixLaw_law 403 = .ok (.iaload, 1) := by decide +kernel
theorem d_LittleMixLaw_law_404 : decode b_LittleMixLaw_law 404 = .ok (.invokevirtual 67, 3) := by decide +kernel
theorem d_LittleMixLaw_law_407 : decode b_LittleMixLaw_law 407 = .ok (.aload_n 2, 1) := by decide +kernel
theorem d_LittleMixLaw_law_408 : decode b_LittleMixLaw_law 408 = .ok (.aload_n 0, 1) := by decide +kernel
theorem d_LittleMixLaw_law_409 : decode b_LittleMixLaw_law 409 = .ok (.iload_n 3, 1) := by decide +kernel
theorem d_LittleMixLaw_law_410 : decode b_LittleMixLaw_law 410 = .ok (.iconst 1, 1) := by decide +kernel
theorem d_LittleMixLaw_law_411 : decode b_LittleMixLaw_law 411 = .ok (.iadd, 1) := by decide +kernel
theorem d_LittleMixLaw_law_412 : decode b_LittleMixLaw_law 412 = .ok (.iaload, 1) := by decide +kernel
theorem d_LittleMixLaw_law_413 : decode b_LittleMixLaw_law 413 = .ok (.invokevirtual 70, 3) := by decide +kernel
theorem d_LittleMixLaw_law_416 : decode b_LittleMixLaw_law 416 = .ok (.if_icmp .eq 5, 3) := by decide +kernel
theorem d_LittleMixLaw_law_421 : decode b_LittleMixLaw_law 421 = .ok (.iinc 3 6, 3) := by decide +kernel
theorem d_LittleMixLaw_law_424 : decode b_LittleMixLaw_law 424 = .ok (.goto (-406), 3) := by decide +kernel
theorem d_LittleMixLaw_law_427 : decode b_LittleMixLaw_law 427 = .ok (.iconst 1, 1) := by decide +kernel
theorem d_LittleMixLaw_law_428 : decode b_LittleMixLaw_law 428 = .ok (.ireturn, 1) := by decide +kernel
theorem d_Mod_init_0 : decode b_Mod_init 0 = .ok (.aload_n 0, 1) := by decide +kernel
theorem d_Mod_init_1 : decode b_Mod_init 1 = .ok (.invokespecial 1, 3) := by decide +kernel
theorem d_Mod_init_4 : decode b_Mod_init 4 = .ok (.aload_n 0, 1) := by decide +kernel
theorem d_Mod_init_5 : decode b_Mod_init 5 = .ok (.sipush 1600, 3) := by decide +kernel
theorem d_Mod_init_8 : decode b_Mod_init 8 = .ok (.newarray .int, 2) := by decide +kernel
theorem d_Mod_init_10 : decode b_Mod_init 10 = .ok (.putfield 7, 3) := by decide +kernel
theorem d_Mod_init_13 : decode b_Mod_init 13 = .ok (.aload_n 0, 1) := by decide +kernel
theorem d_Mod_init_14 : decode b_Mod_init 14 = .ok (.sipush 1600, 3) := by decide +kernel
theorem d_Mod_init_17 : decode b_Mod_init 17 = .ok (.newarray .int, 2) := by decide +kernel
theorem d_Mod_init_19 : decode b_Mod_init 19 = .ok (.putfield 13, 3) := by decide +kernel
theorem d_Mod_init_22 : decode b_Mod_init 22 = .ok (.aload_n 0, 1) := by decide +kernel
theorem d_Mod_init_23 : decode b_Mod_init 23 = .ok (.iconst (-1), 1) := by decide +kernel
theorem d_Mod_init_24 : decode b_Mod_init 24 = .ok (.putfield 16, 3) := by decide +kernel
theorem d_Mod_init_27 : decode b_Mod_init 27 = .ok (.aload_n 0, 1) := by decide +kernel
theorem d_Mod_init_28 : decode b_Mod_init 28 = .ok (.bipush 41, 2) := by decide +kernel
theorem d_Mod_init_30 : decode b_Mod_init 30 = .ok (.newarray .int, 2) := by decide +kernel
theorem d_Mod_init_32 : decode b_Mod_init 32 = .ok (.putfield 20, 3) := by decide +kernel
theorem d_Mod_init_35 : decode b_Mod_init 35 = .ok (.aload_n 0, 1) := by decide +kernel
theorem d_Mod_init_36 : decode b_Mod_init 36 = .ok (.bipush 41, 2) := by decide +kernel
theorem d_Mod_init_38 : decode b_Mod_init 38 = .ok (.newarray .int, 2) := by decide +kernel
theorem d_Mod_init_40 : decode b_Mod_init 40 = .ok (.putfield 23, 3) := by decide +kernel
theorem d_Mod_init_43 : decode b_Mod_init 43 = .ok (.aload_n 0, 1) := by decide +kernel
theorem d_Mod_init_44 : decode b_Mod_init 44 = .ok (.bipush 41, 2) := by decide +kernel
theorem d_Mod_init_46 : decode b_Mod_init 46 = .ok (.newarray .long, 2) := by decide +kernel
theorem d_Mod_init_48 : decode b_Mod_init 48 = .ok (.putfield 26, 3) := by decide +kernel
theorem d_Mod_init_51 : decode b_Mod_init 51 = .ok (.aload_n 0, 1) := by decide +kernel
theorem d_Mod_init_52 : decode b_Mod_init 52 = .ok (.bipush 41, 2) := by decide +kernel
theorem d_Mod_init_54 : decode b_Mod_init 54 = .ok (.newarray .boolean, 2) := by decide +kernel
theorem d_Mod_init_56 : decode b_Mod_init 56 = .ok (.putfield 30, 3) := by decide +kernel
theorem d_Mod_init_59 : decode b_Mod_init 59 = .ok (.aload_n 0, 1) := by decide +kernel
theorem d_Mod_init_60 : decode b_Mod_init 60 = .ok (.bipush 40, 2) := by decide +kernel
theorem d_Mod_init_62 : decode b_Mod_init 62 = .ok (.newarray .long, 2) := by decide +kernel
theorem d_Mod_init_64 : decode b_Mod_init 64 = .ok (.putfield 34, 3) := by decide +kernel
theorem d_Mod_init_67 : decode b_Mod_init 67 = .ok (.aload_n 0, 1) := by decide +kernel
theorem d_Mod_init_68 : decode b_Mod_init 68 = .ok (.sipush 4096, 3) := by decide +kernel
theorem d_Mod_init_71 : decode b_Mod_init 71 = .ok (.newarray .int, 2) := by decide +kernel
theorem d_Mod_init_73 : decode b_Mod_init 73 = .ok (.putfield 37, 3) := by decide +kernel
theorem d_Mod_init_76 : decode b_Mod_init 76 = .ok (.aload_n 0, 1) := by decide +kernel
theorem d_Mod_init_77 : decode b_Mod_init 77 = .ok (.sipush 4096, 3) := by decide +kernel
theorem d_Mod_init_80 : decode b_Mod_init 80 = .ok (.newarray .int, 2) := by decide +kernel
theorem d_Mod_init_82 : decode b_Mod_init 82 = .ok (.putfield 40, 3) := by decide +kernel
theorem d_Mod_init_85 : decode b_Mod_init 85 = .ok (.aload_n 0, 1) := by decide +kernel
theorem d_Mod_init_86 : decode b_Mod_init 86 = .ok (.sipush 256, 3) := by decide +kernel
theorem d_Mod_init_89 : decode b_Mod_init 89 = .ok (.newarray .long, 2) := by decide +kernel
theorem d_Mod_init_91 : decode b_Mod_init 91 = .ok (.putfield 43, 3) := by decide +kernel
theorem d_Mod_init_94 : decode b_Mod_init 94 = .ok (.aload_n 0, 1) := by decide +kernel
theorem d_Mod_init_95 : decode b_Mod_init 95 = .ok (.bipush 32, 2) := by decide +kernel
theorem d_Mod_init_97 : decode b_Mod_init 97 = .ok (.newarray .long, 2) := by decide +kernel
theorem d_Mod_init_99 : decode b_Mod_init 99 = .ok (.putfield 46, 3) := by decide +kernel
theorem d_Mod_init_102 : decode b_Mod_init 102 = .ok (.aload_n 0, 1) := by decide +kernel
theorem d_Mod_init_103 : decode b_Mod_init 103 = .ok (.sipush 300, 3) := by decide +kernel
theorem d_Mod_init_106 : decode b_Mod_init 106 = .ok (.newarray .long, 2) := by decide +kernel
theorem d_Mod_init_108 : decode b_Mod_init 108 = .ok (.putfield 49, 3) := by decide +kernel
theorem d_Mod_init_111 : decode b_Mod_init 111 = .ok (.aload_n 0, 1) := by decide +kernel
theorem d_Mod_init_112 : decode b_Mod_init 112 = .ok (.sipush 600, 3) := by decide +kernel
theorem d_Mod_init_115 : decode b_Mod_init 115 = .ok (.newarray .long, 2) := by decide +kernel
theorem d_Mod_init_117 : decode b_Mod_init 117 = .ok (.putfield 52, 3) := by decide +kernel
theorem d_Mod_init_120 : decode b_Mod_init 120 = .ok (.aload_n 0, 1) := by decide +kernel
theorem d_Mod_init_121 : decode b_Mod_init 121 = .ok (.invokevirtual 55, 3) := by decide +kernel
theorem d_Mod_init_124 : decode b_Mod_init 124 = .ok (.return_, 1) := by decide +kernel
theorem d_Mod_assemble_0 : decode b_Mod_assemble 0 = .ok (.aload_n 0, 1) := by decide +kernel
theorem d_Mod_assemble_1 : decode b_Mod_assemble 1 = .ok (.iconst 0, 1) := by decide +kernel
theorem d_Mod_assemble_2 : decode b_Mod_assemble 2 = .ok (.putfield 58, 3) := by decide +kernel
theorem d_Mod_assemble_5 : decode b_Mod_assemble 5 = .ok (.iload_n 1, 1) := by decide +kernel
theorem d_Mod_assemble_6 : decode b_Mod_assemble 6 = .ok (.ifCond .lt 11, 3) := by decide +kernel
theorem d_Mod_assemble_9 : decode b_Mod_assemble 9 = .ok (.iload_n 1, 1) := by decide +kernel
theorem d_Mod_assemble_10 : decode b_Mod_assemble 10 = .ok (.aload_n 0, 1) := by decide +kernel
theorem d_Mod_assemble_11 : decode b_Mod_assemble 11 = .ok (.getfield 85, 3) := by decide +kernel
theorem d_Mod_assemble_14 : decode b_Mod_assemble 14 = .ok (.if_icmp .le 5, 3) := by decide +kernel
theorem d_Mod_assemble_17 : decode b_Mod_assemble 17 = .ok (.iconst (-1), 1) := by decide +kernel
theorem d_Mod_assemble_18 : decode b_Mod_assemble 18 = .ok (.ireturn, 1) := by decide +kernel
theorem d_Mod_assemble_19 : decode b_Mod_assemble 19 = .ok (.iconst 0, 1) := by decide +kernel
theorem d_Mod_assemble_20 : decode b_Mod_assemble 20 = .ok (.istore_n 2, 1) := by decide +kernel
theorem d_Mod_assemble_21 : decode b_Mod_assemble 21 = .ok (.iload_n 2, 1) := by decide +kernel
theorem d_Mod_assemble_22 : decode b_Mod_assemble 22 = .ok (.iload_n 1, 1) := by decide +kernel
theorem d_Mod_assemble_23 : decode b_Mod_assemble 23 = .ok (.if_icmp .ge 21, 3) := by decide +kernel
theorem d_Mod_assemble_44 : decode b_Mod_assemble 44 = .ok (.aload_n 0, 1) := by decide +kernel
theorem d_Mod_assemble_45 : decode b_Mod_assemble 45 = .ok (.iload_n 1, 1) := by decide +kernel
theorem d_Mod_assemble_46 : decode b_Mod_assemble 46 = .ok (.putfield 88, 3) := by decide +kernel
theorem d_Mod_assemble_49 : decode b_Mod_assemble 49 = .ok (.aload_n 0, 1) := by decide +kernel
theorem d_Mod_assemble_50 : decode b_Mod_assemble 50 = .ok (.iconst 0, 1) := by decide +kernel
theorem d_Mod_assemble_51 : decode b_Mod_assemble 51 = .ok (.putfield 85, 3) := by decide +kernel
theorem d_Mod_assemble_54 : decode b_Mod_assemble 54 = .ok (.aload_n 0, 1) := by decide +kernel
theorem d_Mod_assemble_55 : decode b_Mod_assemble 55 = .ok (.aload_n 0, 1) := by decide +kernel
theorem d_Mod_assemble_56 : decode b_Mod_assemble 56 = .ok (.invokevirtual 292, 3) := by decide +kernel
theorem d_Mod_assemble_59 : decode b_Mod_assemble 59 = .ok (.putfield 16, 3) := by decide +kernel
theorem d_Mod_assemble_62 : decode b_Mod_assemble 62 = .ok (.aload_n 0, 1) := by decide +kernel
theorem d_Mod_assemble_63 : decode b_Mod_assemble 63 = .ok (.getfield 16, 3) := by decide +kernel
theorem d_Mod_assemble_66 : decode b_Mod_assemble 66 = .ok (.iconst (-1), 1) := by decide +kernel
theorem d_Mod_assemble_67 : decode b_Mod_assemble 67 = .ok (.if_icmp .ne 11, 3) := by decide +kernel
theorem d_Mod_assemble_70 : decode b_Mod_assemble 70 = .ok (.aload_n 0, 1) := by decide +kernel
theorem d_Mod_assemble_71 : decode b_Mod_assemble 71 = .ok (.aload_n 0, 1) := by decide +kernel
theorem d_Mod_assemble_72 : decode b_Mod_assemble 72 = .ok (.invokevirtual 295, 3) := by decide +kernel
theorem d_Mod_assemble_75 : decode b_Mod_assemble 75 = .ok (.putfield 16, 3) := by decide +kernel
theorem d_Mod_assemble_78 : decode b_Mod_assemble 78 = .ok (.aload_n 0, 1) := by decide +kernel
theorem d_Mod_assemble_79 : decode b_Mod_assemble 79 = .ok (.getfield 16, 3) := by decide +kernel
theorem d_Mod_assemble_82 : decode b_Mod_assemble 82 = .ok (.iconst (-1), 1) := by decide +kernel
end
section
theorem d_Mod_assemble_83 : decode b_Mod_assemble 83 = .ok (.if_icmp .eq 5, 3) := by decide +kernel
theorem d_Mod_assemble_88 : decode b_Mod_assemble 88 = .ok (.aload_n 0, 1) := by decide +kernel
theorem d_Mod_assemble_89 : decode b_Mod_assemble 89 = .ok (.aload_n 0, 1) := by decide +kernel
theorem d_Mod_assemble_90 : decode b_Mod_assemble 90 = .ok (.getfield 133, 3) := by decide +kernel
theorem d_Mod_assemble_93 : decode b_Mod_assemble 93 = .ok (.putfield 298, 3) := by decide +kernel
theorem d_Mod_assemble_96 : decode b_Mod_assemble 96 = .ok (.iconst 0, 1) := by decide +kernel
theorem d_Mod_assemble_97 : decode b_Mod_assemble 97 = .ok (.istore_n 2, 1) := by decide +kernel
theorem d_Mod_assemble_98 : decode b_Mod_assemble 98 = .ok (.iload_n 2, 1) := by decide +kernel
theorem d_Mod_assemble_99 : decode b_Mod_assemble 99 = .ok (.aload_n 0, 1) := by decide +kernel
theorem d_Mod_assemble_100 : decode b_Mod_assemble 100 = .ok (.getfield 133, 3) := by decide +kernel
theorem d_Mod_assemble_103 : decode b_Mod_assemble 103 = .ok (.if_icmp .ge 43, 3) := by decide +kernel
theorem d_Mod_assemble_146 : decode b_Mod_assemble 146 = .ok (.iconst 0, 1) := by decide +kernel
theorem d_Mod_assemble_147 : decode b_Mod_assemble 147 = .ok (.istore_n 2, 1) := by decide +kernel
theorem d_Mod_assemble_148 : decode b_Mod_assemble 148 = .ok (.iload_n 2, 1) := by decide +kernel
theorem d_Mod_assemble_149 : decode b_Mod_assemble 149 = .ok (.sipush 4096, 3) := by decide +kernel
theorem d_Mod_assemble_152 : decode b_Mod_assemble 152 = .ok (.if_icmp .ge 21, 3) := by decide +kernel
theorem d_Mod_assemble_155 : decode b_Mod_assemble 155 = .ok (.aload_n 0, 1) := by decide +kernel
theorem d_Mod_assemble_156 : decode b_Mod_assemble 156 = .ok (.getfield 37, 3) := by decide +kernel
theorem d_Mod_assemble_159 : decode b_Mod_assemble 159 = .ok (.iload_n 2, 1) := by decide +kernel
theorem d_Mod_assemble_160 : decode b_Mod_assemble 160 = .ok (.aload_n 0, 1) := by decide +kernel
theorem d_Mod_assemble_161 : decode b_Mod_assemble 161 = .ok (.getfield 40, 3) := by decide +kernel
theorem d_Mod_assemble_164 : decode b_Mod_assemble 164 = .ok (.iload_n 2, 1) := by decide +kernel
theorem d_Mod_assemble_165 : decode b_Mod_assemble 165 = .ok (.iaload, 1) := by decide +kernel
theorem d_Mod_assemble_166 : decode b_Mod_assemble 166 = .ok (.iastore, 1) := by decide +kernel
theorem d_Mod_assemble_167 : decode b_Mod_assemble 167 = .ok (.iinc 2 1, 3) := by decide +kernel
theorem d_Mod_assemble_170 : decode b_Mod_assemble 170 = .ok (.goto (-22), 3) := by decide +kernel
theorem d_Mod_assemble_173 : decode b_Mod_assemble 173 = .ok (.aload_n 0, 1) := by decide +kernel
theorem d_Mod_assemble_174 : decode b_Mod_assemble 174 = .ok (.invokevirtual 55, 3) := by decide +kernel
theorem d_Mod_assemble_177 : decode b_Mod_assemble 177 = .ok (.iconst 0, 1) := by decide +kernel
theorem d_Mod_assemble_178 : decode b_Mod_assemble 178 = .ok (.ireturn, 1) := by decide +kernel
theorem d_Mod_back_0 : decode b_Mod_back 0 = .ok (.aload_n 0, 1) := by decide +kernel
theorem d_Mod_back_1 : decode b_Mod_back 1 = .ok (.iconst 0, 1) := by decide +kernel
theorem d_Mod_back_2 : decode b_Mod_back 2 = .ok (.putfield 58, 3) := by decide +kernel
theorem d_Mod_back_5 : decode b_Mod_back 5 = .ok (.aload_n 0, 1) := by decide +kernel
theorem d_Mod_back_6 : decode b_Mod_back 6 = .ok (.invokevirtual 55, 3) := by decide +kernel
theorem d_Mod_back_9 : decode b_Mod_back 9 = .ok (.return_, 1) := by decide +kernel
theorem d_Mod_byteAt_0 : decode b_Mod_byteAt 0 = .ok (.aload_n 0, 1) := by decide +kernel
theorem d_Mod_byteAt_1 : decode b_Mod_byteAt 1 = .ok (.iconst 0, 1) := by decide +kernel
theorem d_Mod_byteAt_2 : decode b_Mod_byteAt 2 = .ok (.putfield 58, 3) := by decide +kernel
theorem d_Mod_byteAt_5 : decode b_Mod_byteAt 5 = .ok (.iload_n 1, 1) := by decide +kernel
theorem d_Mod_byteAt_6 : decode b_Mod_byteAt 6 = .ok (.ifCond .lt 10, 3) := by decide +kernel
theorem d_Mod_byteAt_9 : decode b_Mod_byteAt 9 = .ok (.iload_n 1, 1) := by decide +kernel
theorem d_Mod_byteAt_10 : decode b_Mod_byteAt 10 = .ok (.sipush 4096, 3) := by decide +kernel
theorem d_Mod_byteAt_13 : decode b_Mod_byteAt 13 = .ok (.if_icmp .lt 7, 3) := by decide +kernel
theorem d_Mod_byteAt_16 : decode b_Mod_byteAt 16 = .ok (.iconst (-1), 1) := by decide +kernel
theorem d_Mod_byteAt_17 : decode b_Mod_byteAt 17 = .ok (.goto 9, 3) := by decide +kernel
theorem d_Mod_byteAt_20 : decode b_Mod_byteAt 20 = .ok (.aload_n 0, 1) := by decide +kernel
theorem d_Mod_byteAt_21 : decode b_Mod_byteAt 21 = .ok (.getfield 37, 3) := by decide +kernel
theorem d_Mod_byteAt_24 : decode b_Mod_byteAt 24 = .ok (.iload_n 1, 1) := by decide +kernel
theorem d_Mod_byteAt_25 : decode b_Mod_byteAt 25 = .ok (.iaload, 1) := by decide +kernel
theorem d_Mod_byteAt_26 : decode b_Mod_byteAt 26 = .ok (.ireturn, 1) := by decide +kernel
theorem d_Mod_feed_0 : decode b_Mod_feed 0 = .ok (.aload_n 0, 1) := by decide +kernel
theorem d_Mod_feed_1 : decode b_Mod_feed 1 = .ok (.iconst 0, 1) := by decide +kernel
theorem d_Mod_feed_2 : decode b_Mod_feed 2 = .ok (.putfield 58, 3) := by decide +kernel
theorem d_Mod_feed_5 : decode b_Mod_feed 5 = .ok (.aload_n 0, 1) := by decide +kernel
theorem d_Mod_feed_6 : decode b_Mod_feed 6 = .ok (.getfield 85, 3) := by decide +kernel
theorem d_Mod_feed_9 : decode b_Mod_feed 9 = .ok (.bipush 20, 2) := by decide +kernel
theorem d_Mod_feed_11 : decode b_Mod_feed 11 = .ok (.iadd, 1) := by decide +kernel
theorem d_Mod_feed_12 : decode b_Mod_feed 12 = .ok (.sipush 1600, 3) := by decide +kernel
theorem d_Mod_feed_15 : decode b_Mod_feed 15 = .ok (.if_icmp .le 5, 3) := by decide +kernel
theorem d_Mod_feed_20 : decode b_Mod_feed 20 = .ok (.iconst 0, 1) := by decide +kernel
theorem d_Mod_feed_21 : decode b_Mod_feed 21 = .ok (.istore 6, 2) := by decide +kernel
theorem d_Mod_feed_23 : decode b_Mod_feed 23 = .ok (.iload 6, 2) := by decide +kernel
theorem d_Mod_feed_25 : decode b_Mod_feed 25 = .ok (.bipush 20, 2) := by decide +kernel
theorem d_Mod_feed_27 : decode b_Mod_feed 27 = .ok (.if_icmp .ge 86, 3) := by decide +kernel
theorem d_Mod_feed_30 : decode b_Mod_feed 30 = .ok (.iload 6, 2) := by decide +kernel
theorem d_Mod_feed_32 : decode b_Mod_feed 32 = .ok (.iconst 4, 1) := by decide +kernel
theorem d_Mod_feed_33 : decode b_Mod_feed 33 = .ok (.if_icmp .ge 7, 3) := by decide +kernel
theorem d_Mod_feed_36 : decode b_Mod_feed 36 = .ok (.iload_n 1, 1) := by decide +kernel
theorem d_Mod_feed_37 : decode b_Mod_feed 37 = .ok (.goto 39, 3) := by decide +kernel
theorem d_Mod_feed_40 : decode b_Mod_feed 40 = .ok (.iload 6, 2) := by decide +kernel
theorem d_Mod_feed_42 : decode b_Mod_feed 42 = .ok (.bipush 8, 2) := by decide +kernel
theorem d_Mod_feed_44 : decode b_Mod_feed 44 = .ok (.if_icmp .ge 7, 3) := by decide +kernel
theorem d_Mod_feed_47 : decode b_Mod_feed 47 = .ok (.iload_n 2, 1) := by decide +kernel
theorem d_Mod_feed_48 : decode b_Mod_feed 48 = .ok (.goto 28, 3) := by decide +kernel
theorem d_Mod_feed_51 : decode b_Mod_feed 51 = .ok (.iload 6, 2) := by decide +kernel
theorem d_Mod_feed_53 : decode b_Mod_feed 53 = .ok (.bipush 12, 2) := by decide +kernel
theorem d_Mod_feed_55 : decode b_Mod_feed 55 = .ok (.if_icmp .ge 7, 3) := by decide +kernel
theorem d_Mod_feed_58 : decode b_Mod_feed 58 = .ok (.iload_n 3, 1) := by decide +kernel
theorem d_Mod_feed_59 : decode b_Mod_feed 59 = .ok (.goto 17, 3) := by decide +kernel
theorem d_Mod_feed_62 : decode b_Mod_feed 62 = .ok (.iload 6, 2) := by decide +kernel
theorem d_Mod_feed_64 : decode b_Mod_feed 64 = .ok (.bipush 16, 2) := by decide +kernel
theorem d_Mod_feed_66 : decode b_Mod_feed 66 = .ok (.if_icmp .ge 8, 3) := by decide +kernel
theorem d_Mod_feed_69 : decode b_Mod_feed 69 = .ok (.iload 4, 2) := by decide +kernel
theorem d_Mod_feed_71 : decode b_Mod_feed 71 = .ok (.goto 5, 3) := by decide +kernel
theorem d_Mod_feed_74 : decode b_Mod_feed 74 = .ok (.iload 5, 2) := by decide +kernel
theorem d_Mod_feed_76 : decode b_Mod_feed 76 = .ok (.istore 7, 2) := by decide +kernel
theorem d_Mod_feed_78 : decode b_Mod_feed 78 = .ok (.aload_n 0, 1) := by decide +kernel
theorem d_Mod_feed_79 : decode b_Mod_feed 79 = .ok (.getfield 7, 3) := by decide +kernel
theorem d_Mod_feed_82 : decode b_Mod_feed 82 = .ok (.aload_n 0, 1) := by decide +kernel
theorem d_Mod_feed_83 : decode b_Mod_feed 83 = .ok (.getfield 85, 3) := by decide +kernel
theorem d_Mod_feed_86 : decode b_Mod_feed 86 = .ok (.iload 6, 2) := by decide +kernel
theorem d_Mod_feed_88 : decode b_Mod_feed 88 = .ok (.iadd, 1) := by decide +kernel
theorem d_Mod_feed_89 : decode b_Mod_feed 89 = .ok (.iload 7, 2) := by decide +kernel
theorem d_Mod_feed_91 : decode b_Mod_feed 91 = .ok (.bipush 24, 2) := by decide +kernel
theorem d_Mod_feed_93 : decode b_Mod_feed 93 = .ok (.bipush 8, 2) := by decide +kernel
theorem d_Mod_feed_95 : decode b_Mod_feed 95 = .ok (.iload 6, 2) := by decide +kernel
theorem d_Mod_feed_97 : decode b_Mod_feed 97 = .ok (.iconst 4, 1) := by decide +kernel
theorem d_Mod_feed_98 : decode b_Mod_feed 98 = .ok (.irem, 1) := by decide +kernel
theorem d_Mod_feed_99 : decode b_Mod_feed 99 = .ok (.imul, 1) := by decide +kernel
theorem d_Mod_feed_100 : decode b_Mod_feed 100 = .ok (.isub, 1) := by decide +kernel
theorem d_Mod_feed_101 : decode b_Mod_feed 101 = .ok (.ishr, 1) := by decide +kernel
theorem d_Mod_feed_102 : decode b_Mod_feed 102 = .ok (.sipush 255, 3) := by decide +kernel
theorem d_Mod_feed_105 : decode b_Mod_feed 105 = .ok (.iand, 1) := by decide +kernel
theorem d_Mod_feed_106 : decode b_Mod_feed 106 = .ok (.iastore, 1) := by decide +kernel
theorem d_Mod_feed_107 : decode b_Mod_feed 107 = .ok (.iinc 6 1, 3) := by decide +kernel
theorem d_Mod_feed_110 : decode b_Mod_feed 110 = .ok (.goto (-87), 3) := by decide +kernel
theorem d_Mod_feed_113 : decode b_Mod_feed 113 = .ok (.aload_n 0, 1) := by decide +kernel
theorem d_Mod_feed_114 : decode b_Mod_feed 114 = .ok (.dup, 1) := by decide +kernel
theorem d_Mod_feed_115 : decode b_Mod_feed 115 = .ok (.getfield 85, 3) := by decide +kernel
theorem d_Mod_feed_118 : decode b_Mod_feed 118 = .ok (.bipush 20, 2) := by decide +kernel
theorem d_Mod_feed_120 : decode b_Mod_feed 120 = .ok (.iadd, 1) := by decide +kernel
theorem d_Mod_feed_121 : decode b_Mod_feed 121 = .ok (.putfield 85, 3) := by decide +kernel
theorem d_Mod_feed_124 : decode b_Mod_feed 124 = .ok (.iconst 1, 1) := by decide +kernel
theorem d_Mod_feed_125 : decode b_Mod_feed 125 = .ok (.ireturn, 1) := by decide +kernel
theorem d_Mod_first_0 : decode b_Mod_first 0 = .ok (.aload_n 0, 1) := by decide +kernel
theorem d_Mod_first_1 : decode b_Mod_first 1 = .ok (.iconst 0, 1) := by decide +kernel
theorem d_Mod_first_2 : decode b_Mod_first 2 = .ok (.putfield 133, 3) := by decide +kernel
theorem d_Mod_first_5 : decode b_Mod_first 5 = .ok (.sipush 256, 3) := by decide +kernel
theorem d_Mod_first_8 : decode b_Mod_first 8 = .ok (.istore_n 1, 1) := by decide +kernel
theorem d_Mod_first_9 : decode b_Mod_first 9 = .ok (.iconst 0, 1) := by decide +kernel
theorem d_Mod_first_10 : decode b_Mod_first 10 = .ok (.istore_n 2, 1) := by decide +kernel
theorem d_Mod_first_11 : decode b_Mod_first 11 = .ok (.iconst 0, 1) := by decide +kernel
theorem d_Mod_first_12 : decode b_Mod_first 12 = .ok (.istore_n 3, 1) := by decide +kernel
theorem d_Mod_first_13 : decode b_Mod_first 13 = .ok (.iconst 0, 1) := by decide +kernel
theorem d_Mod_first_14 : decode b_Mod_first 14 = .ok (.istore 4, 2) := by decide +kernel
theorem d_Mod_first_16 : decode b_Mod_first 16 = .ok (.iload 4, 2) := by decide +kernel
theorem d_Mod_first_18 : decode b_Mod_first 18 = .ok (.aload_n 0, 1) := by decide +kernel
theorem d_Mod_first_19 : decode b_Mod_first 19 = .ok (.getfield 88, 3) := by decide +kernel
theorem d_Mod_first_22 : decode b_Mod_first 22 = .ok (.if_icmp .ge 355, 3) := by decide +kernel
theorem d_Mod_first_377 : decode b_Mod_first 377 = .ok (.iconst (-1), 1) := by decide +kernel
theorem d_Mod_first_378 : decode b_Mod_first 378 = .ok (.ireturn, 1) := by decide +kernel
theorem d_Mod_get_0 : decode b_Mod_get 0 = .ok (.iload_n 1, 1) := by decide +kernel
theorem d_Mod_get_1 : decode b_Mod_get 1 = .ok (.aload_n 0, 1) := by decide +kernel
theorem d_Mod_get_2 : decode b_Mod_get 2 = .ok (.getfield 67, 3) := by decide +kernel
theorem d_Mod_get_5 : decode b_Mod_get 5 = .ok (.if_icmp .ge 11, 3) := by decide +kernel
theorem d_Mod_get_8 : decode b_Mod_get 8 = .ok (.iload_n 1, 1) := by decide +kernel
theorem d_Mod_get_9 : decode b_Mod_get 9 = .ok (.aload_n 0, 1) := by decide +kernel
theorem d_Mod_get_10 : decode b_Mod_get 10 = .ok (.getfield 64, 3) := by decide +kernel
theorem d_Mod_get_13 : decode b_Mod_get 13 = .ok (.if_icmp .ge 12, 3) := by decide +kernel
theorem d_Mod_get_16 : decode b_Mod_get 16 = .ok (.aload_n 0, 1) := by decide +kernel
theorem d_Mod_get_17 : decode b_Mod_get 17 = .ok (.getfield 43, 3) := by decide +kernel
theorem d_Mod_get_20 : decode b_Mod_get 20 = .ok (.iload_n 1, 1) := by decide +kernel
theorem d_Mod_get_21 : decode b_Mod_get 21 = .ok (.laload, 1) := by decide +kernel
theorem d_Mod_get_22 : decode b_Mod_get 22 = .ok (.goto 4, 3) := by decide +kernel
theorem d_Mod_get_25 : decode b_Mod_get 25 = .ok (.lconst 0, 1) := by decide +kernel
theorem d_Mod_get_26 : decode b_Mod_get 26 = .ok (.lreturn, 1) := by decide +kernel
theorem d_Mod_getSpecial_0 : decode b_Mod_getSpecial 0 = .ok (.iload_n 1, 1) := by decide +kernel
theorem d_Mod_getSpecial_1 : decode b_Mod_getSpecial 1 = .ok (.bipush 19, 2) := by decide +kernel
theorem d_Mod_getSpecial_3 : decode b_Mod_getSpecial 3 = .ok (.if_icmp .ne 11, 3) := by decide +kernel
theorem d_Mod_getSpecial_6 : decode b_Mod_getSpecial 6 = .ok (.aload_n 0, 1) := by decide +kernel
theorem d_Mod_getSpecial_7 : decode b_Mod_getSpecial 7 = .ok (.getfield 67, 3) := by decide +kernel
theorem d_Mod_getSpecial_10 : decode b_Mod_getSpecial 10 = .ok (.i2l, 1) := by decide +kernel
theorem d_Mod_getSpecial_11 : decode b_Mod_getSpecial 11 = .ok (.goto 23, 3) := by decide +kernel
theorem d_Mod_getSpecial_14 : decode b_Mod_getSpecial 14 = .ok (.iload_n 1, 1) := by decide +kernel
theorem d_Mod_getSpecial_15 : decode b_Mod_getSpecial 15 = .ok (.bipush 20, 2) := by decide +kernel
theorem d_Mod_getSpecial_17 : decode b_Mod_getSpecial 17 = .ok (.if_icmp .ne 11, 3) := by decide +kernel
theorem d_Mod_getSpecial_20 : decode b_Mod_getSpecial 20 = .ok (.aload_n 0, 1) := by decide +kernel
theorem d_Mod_getSpecial_21 : decode b_Mod_getSpecial 21 = .ok (.getfield 64, 3) := by decide +kernel
theorem d_Mod_getSpecial_24 : decode b_Mod_getSpecial 24 = .ok (.i2l, 1) := by decide +kernel
theorem d_Mod_getSpecial_25 : decode b_Mod_getSpecial 25 = .ok (.goto 9, 3) := by decide +kernel
theorem d_Mod_getSpecial_28 : decode b_Mod_getSpecial 28 = .ok (.aload_n 0, 1) := by decide +kernel
theorem d_Mod_getSpecial_29 : decode b_Mod_getSpecial 29 = .ok (.getfield 46, 3) := by decide +kernel
theorem d_Mod_getSpecial_32 : decode b_Mod_getSpecial 32 = .ok (.iload_n 1, 1) := by decide +kernel
theorem d_Mod_getSpecial_33 : decode b_Mod_getSpecial 33 = .ok (.laload, 1) := by decide +kernel
theorem d_Mod_getSpecial_34 : decode b_Mod_getSpecial 34 = .ok (.lreturn, 1) := by decide +kernel
theorem d_Mod_illAt_0 : decode b_Mod_illAt 0 = .ok (.aload_n 0, 1) := by decide +kernel
theorem d_Mod_illAt_1 : decode b_Mod_illAt 1 = .ok (.iconst 0, 1) := by decide +kernel
theorem d_Mod_illAt_2 : decode b_Mod_illAt 2 = .ok (.putfield 58, 3) := by decide +kernel
theorem d_Mod_illAt_5 : decode b_Mod_illAt 5 = .ok (.aload_n 0, 1) := by decide +kernel
theorem d_Mod_illAt_6 : decode b_Mod_illAt 6 = .ok (.getfield 16, 3) := by decide +kernel
theorem d_Mod_illAt_9 : decode b_Mod_illAt 9 = .ok (.ireturn, 1) := by decide +kernel
theorem d_Mod_isOp_0 : decode b_Mod_isOp 0 = .ok (.iload_n 1, 1) := by decide +kernel
theorem d_Mod_isOp_1 : decode b_Mod_isOp 1 = .ok (.ifCond .eq 65, 3) := by decide +kernel
theorem d_Mod_isOp_66 : decode b_Mod_isOp 66 = .ok (.iconst 1, 1) := by decide +kernel
theorem d_Mod_isOp_67 : decode b_Mod_isOp 67 = .ok (.goto 4, 3) := by decide +kernel
theorem d_Mod_isOp_71 : decode b_Mod_isOp 71 = .ok (.ireturn, 1) := by decide +kernel
theorem d_Mod_isSpecial_0 : decode b_Mod_isSpecial 0 = .ok (.lload_n 0, 1) := by decide +kernel
theorem d_Mod_isSpecial_1 : decode b_Mod_isSpecial 1 = .ok (.lconst 0, 1) := by decide +kernel
theorem d_Mod_isSpecial_2 : decode b_Mod_isSpecial 2 = .ok (.lcmp, 1) := by decide +kernel
theorem d_Mod_isSpecial_3 : decode b_Mod_isSpecial 3 = .ok (.ifCond .eq 57, 3) := by decide +kernel
theorem d_Mod_isSpecial_6 : decode b_Mod_isSpecial 6 = .ok (.lload_n 0, 1) := by decide +kernel
theorem d_Mod_isSpecial_7 : decode b_Mod_isSpecial 7 = .ok (.lconst 1, 1) := by decide +kernel
theorem d_Mod_isSpecial_8 : decode b_Mod_isSpecial 8 = .ok (.lcmp, 1) := by decide +kernel
theorem d_Mod_isSpecial_9 : decode b_Mod_isSpecial 9 = .ok (.ifCond .eq 51, 3) := by decide +kernel
theorem d_Mod_isSpecial_12 : decode b_Mod_isSpecial 12 = .ok (.lload_n 0, 1) := by decide +kernel
theorem d_Mod_isSpecial_13 : decode b_Mod_isSpecial 13 = .ok (.ldc2_w 112, 3) := by decide +kernel
theorem d_Mod_isSpecial_16 : decode b_Mod_isSpecial 16 = .ok (.lcmp, 1) := by decide +kernel
theorem d_Mod_isSpecial_17 : decode b_Mod_isSpecial 17 = .ok (.ifCond .le 11, 3) := by decide +kernel
theorem d_Mod_isSpecial_20 : decode b_Mod_isSpecial 20 = .ok (.lload_n 0, 1) := by decide +kernel
theorem d_Mod_isSpecial_21 : decode b_Mod_isSpecial 21 = .ok (.ldc2_w 114, 3) := by decide +kernel
theorem d_Mod_isSpecial_24 : decode b_Mod_isSpecial 24 = .ok (.lcmp, 1) := by decide +kernel
theorem d_Mod_isSpecial_25 : decode b_Mod_isSpecial 25 = .ok (.ifCond .lt 35, 3) := by decide +kernel
theorem d_Mod_isSpecial_28 : decode b_Mod_isSpecial 28 = .ok (.lload_n 0, 1) := by decide +kernel
theorem d_Mod_isSpecial_29 : decode b_Mod_isSpecial 29 = .ok (.ldc2_w 116, 3) := by decide +kernel
theorem d_Mod_isSpecial_32 : decode b_Mod_isSpecial 32 = .ok (.lcmp, 1) := by decide +kernel
theorem d_Mod_isSpecial_33 : decode b_Mod_isSpecial 33 = .ok (.ifCond .le 11, 3) := by decide +kernel
theorem d_Mod_isSpecial_36 : decode b_Mod_isSpecial 36 = .ok (.lload_n 0, 1) := by decide +kernel
theorem d_Mod_isSpecial_37 : decode b_Mod_isSpecial 37 = .ok (.ldc2_w 118, 3) := by decide +kernel
theorem d_Mod_isSpecial_40 : decode b_Mod_isSpecial 40 = .ok (.lcmp, 1) := by decide +kernel
theorem d_Mod_isSpecial_41 : decode b_Mod_isSpecial 41 = .ok (.ifCond .lt 19, 3) := by decide +kernel
theorem d_Mod_isSpecial_44 : decode b_Mod_isSpecial 44 = .ok (.lload_n 0, 1) := by decide +kernel
theorem d_Mod_isSpecial_45 : decode b_Mod_isSpecial 45 = .ok (.ldc2_w 120, 3) := by decide +kernel
theorem d_Mod_isSpecial_48 : decode b_Mod_isSpecial 48 = .ok (.lcmp, 1) := by decide +kernel
theorem d_Mod_isSpecial_49 : decode b_Mod_isSpecial 49 = .ok (.ifCond .le 15, 3) := by decide +kernel
theorem d_Mod_isSpecial_52 : decode b_Mod_isSpecial 52 = .ok (.lload_n 0, 1) := by decide +kernel
theorem d_Mod_isSpecial_53 : decode b_Mod_isSpecial 53 = .ok (.ldc2_w 122, 3) := by decide +kernel
theorem d_Mod_isSpecial_56 : decode b_Mod_isSpecial 56 = .ok (.lcmp, 1) := by decide +kernel
theorem d_Mod_isSpecial_57 : decode b_Mod_isSpecial 57 = .ok (.ifCond .ge 7, 3) := by decide +kernel
theorem d_Mod_isSpecial_60 : decode b_Mod_isSpecial 60 = .ok (.iconst 1, 1) := by decide +kernel
theorem d_Mod_isSpecial_61 : decode b_Mod_isSpecial 61 = .ok (.goto 4, 3) := by decide +kernel
theorem d_Mod_isSpecial_64 : decode b_Mod_isSpecial 64 = .ok (.iconst 0, 1) := by decide +kernel
theorem d_Mod_isSpecial_65 : decode b_Mod_isSpecial 65 = .ok (.ireturn, 1) := by decide +kernel
theorem d_Mod_label_0 : decode b_Mod_label 0 = .ok (.aload_n 0, 1) := by decide +kernel
theorem d_Mod_label_1 : decode b_Mod_label 1 = .ok (.iconst 0, 1) := by decide +kernel
theorem d_Mod_label_2 : decode b_Mod_label 2 = .ok (.putfield 58, 3) := by decide +kernel
theorem d_Mod_label_5 : decode b_Mod_label 5 = .ok (.iload_n 1, 1) := by decide +kernel
theorem d_Mod_label_6 : decode b_Mod_label 6 = .ok (.ifCond .lt 11, 3) := by decide +kernel
theorem d_Mod_label_9 : decode b_Mod_label 9 = .ok (.iload_n 1, 1) := by decide +kernel
theorem d_Mod_label_10 : decode b_Mod_label 10 = .ok (.aload_n 0, 1) := by decide +kernel
theorem d_Mod_label_11 : decode b_Mod_label 11 = .ok (.getfield 298, 3) := by decide +kernel
theorem d_Mod_label_14 : decode b_Mod_label 14 = .ok (.if_icmp .lt 9, 3) := by decide +kernel
theorem d_Mod_label_17 : decode b_Mod_label 17 = .ok (.ldc2_w 301, 3) := by decide +kernel
theorem d_Mod_label_20 : decode b_Mod_label 20 = .ok (.goto 9, 3) := by decide +kernel
theorem d_Mod_label_29 : decode b_Mod_label 29 = .ok (.lreturn, 1) := by decide +kernel
theorem d_Mod_place_0 : decode b_Mod_place 0 = .ok (.aload_n 0, 1) := by decide +kernel
theorem d_Mod_place_1 : decode b_Mod_place 1 = .ok (.iconst 0, 1) := by decide +kernel
theorem d_Mod_place_2 : decode b_Mod_place 2 = .ok (.putfield 58, 3) := by decide +kernel
theorem d_Mod_place_5 : decode b_Mod_place 5 = .ok (.aload_n 0, 1) := by decide +kernel
theorem d_Mod_place_6 : decode b_Mod_place 6 = .ok (.getfield 81, 3) := by decide +kernel
theorem d_Mod_place_9 : decode b_Mod_place 9 = .ok (.lreturn, 1) := by decide +kernel
theorem d_Mod_register_0 : decode b_Mod_register 0 = .ok (.aload_n 0, 1) := by decide +kernel
theorem d_Mod_register_1 : decode b_Mod_register 1 = .ok (.iconst 0, 1) := by decide +kernel
theorem d_Mod_register_2 : decode b_Mod_register 2 = .ok (.putfield 58, 3) := by decide +kernel
theorem d_Mod_register_5 : decode b_Mod_register 5 = .ok (.iload_n 1, 1) := by decide +kernel
theorem d_Mod_register_6 : decode b_Mod_register 6 = .ok (.ifCond .lt 10, 3) := by decide +kernel
theorem d_Mod_register_9 : decode b_Mod_register 9 = .ok (.iload_n 1, 1) := by decide +kernel
theorem d_Mod_register_10 : decode b_Mod_register 10 = .ok (.sipush 255, 3) := by decide +kernel
theorem d_Mod_register_13 : decode b_Mod_register 13 = .ok (.if_icmp .le 7, 3) := by decide +kernel
theorem d_Mod_register_16 : decode b_Mod_register 16 = .ok (.lconst 0, 1) := by decide +kernel
theorem d_Mod_register_17 : decode b_Mod_register 17 = .ok (.goto 8, 3) := by decide +kernel
theorem d_Mod_register_20 : decode b_Mod_register 20 = .ok (.aload_n 0, 1) := by decide +kernel
theorem d_Mod_register_21 : decode b_Mod_register 21 = .ok (.iload_n 1, 1) := by decide +kernel
theorem d_Mod_register_22 : decode b_Mod_register 22 = .ok (.invokevirtual 385, 3) := by decide +kernel
theorem d_Mod_register_25 : decode b_Mod_register 25 = .ok (.lreturn, 1) := by decide +kernel
theorem d_Mod_run_0 : decode b_Mod_run 0 = .ok (.aload_n 0, 1) := by decide +kernel
theorem d_Mod_run_1 : decode b_Mod_run 1 = .ok (.iconst 0, 1) := by decide +kernel
theorem d_Mod_run_2 : decode b_Mod_run 2 = .ok (.putfield 58, 3) := by decide +kernel
theorem d_Mod_run_5 : decode b_Mod_run 5 = .ok (.iload_n 1, 1) := by decide +kernel
theorem d_Mod_run_6 : decode b_Mod_run 6 = .ok (.ifCond .lt 10, 3) := by decide +kernel
end
section
theorem d_Mod_run_9 : decode b_Mod_run 9 = .ok (.iload_n 1, 1) := by decide +kernel
theorem d_Mod_run_10 : decode b_Mod_run 10 = .ok (.sipush 5000, 3) := by decide +kernel
theorem d_Mod_run_13 : decode b_Mod_run 13 = .ok (.if_icmp .le 5, 3) := by decide +kernel
theorem d_Mod_run_16 : decode b_Mod_run 16 = .ok (.iconst 0, 1) := by decide +kernel
theorem d_Mod_run_17 : decode b_Mod_run 17 = .ok (.ireturn, 1) := by decide +kernel
theorem d_Mod_run_18 : decode b_Mod_run 18 = .ok (.iconst 0, 1) := by decide +kernel
theorem d_Mod_run_19 : decode b_Mod_run 19 = .ok (.istore_n 2, 1) := by decide +kernel
theorem d_Mod_run_20 : decode b_Mod_run 20 = .ok (.iload_n 2, 1) := by decide +kernel
theorem d_Mod_run_21 : decode b_Mod_run 21 = .ok (.iload_n 1, 1) := by decide +kernel
theorem d_Mod_run_22 : decode b_Mod_run 22 = .ok (.if_icmp .ge 31, 3) := by decide +kernel
theorem d_Mod_run_25 : decode b_Mod_run 25 = .ok (.aload_n 0, 1) := by decide +kernel
theorem d_Mod_run_26 : decode b_Mod_run 26 = .ok (.getfield 76, 3) := by decide +kernel
theorem d_Mod_run_29 : decode b_Mod_run 29 = .ok (.ifCond .ne 24, 3) := by decide +kernel
theorem d_Mod_run_32 : decode b_Mod_run 32 = .ok (.aload_n 0, 1) := by decide +kernel
theorem d_Mod_run_33 : decode b_Mod_run 33 = .ok (.aload_n 0, 1) := by decide +kernel
theorem d_Mod_run_34 : decode b_Mod_run 34 = .ok (.invokevirtual 431, 3) := by decide +kernel
theorem d_Mod_run_37 : decode b_Mod_run 37 = .ok (.putfield 76, 3) := by decide +kernel
theorem d_Mod_run_40 : decode b_Mod_run 40 = .ok (.aload_n 0, 1) := by decide +kernel
theorem d_Mod_run_41 : decode b_Mod_run 41 = .ok (.getfield 76, 3) := by decide +kernel
theorem d_Mod_run_44 : decode b_Mod_run 44 = .ok (.ifCond .ne (-24), 3) := by decide +kernel
theorem d_Mod_run_53 : decode b_Mod_run 53 = .ok (.iload_n 2, 1) := by decide +kernel
theorem d_Mod_run_54 : decode b_Mod_run 54 = .ok (.ireturn, 1) := by decide +kernel
theorem d_Mod_second_0 : decode b_Mod_second 0 = .ok (.iconst 0, 1) := by decide +kernel
theorem d_Mod_second_1 : decode b_Mod_second 1 = .ok (.istore_n 1, 1) := by decide +kernel
theorem d_Mod_second_2 : decode b_Mod_second 2 = .ok (.iload_n 1, 1) := by decide +kernel
theorem d_Mod_second_3 : decode b_Mod_second 3 = .ok (.sipush 4096, 3) := by decide +kernel
theorem d_Mod_second_6 : decode b_Mod_second 6 = .ok (.if_icmp .ge 16, 3) := by decide +kernel
theorem d_Mod_second_9 : decode b_Mod_second 9 = .ok (.aload_n 0, 1) := by decide +kernel
theorem d_Mod_second_10 : decode b_Mod_second 10 = .ok (.getfield 40, 3) := by decide +kernel
theorem d_Mod_second_13 : decode b_Mod_second 13 = .ok (.iload_n 1, 1) := by decide +kernel
theorem d_Mod_second_14 : decode b_Mod_second 14 = .ok (.iconst 0, 1) := by decide +kernel
theorem d_Mod_second_15 : decode b_Mod_second 15 = .ok (.iastore, 1) := by decide +kernel
theorem d_Mod_second_16 : decode b_Mod_second 16 = .ok (.iinc 1 1, 3) := by decide +kernel
theorem d_Mod_second_19 : decode b_Mod_second 19 = .ok (.goto (-17), 3) := by decide +kernel
theorem d_Mod_second_22 : decode b_Mod_second 22 = .ok (.sipush 256, 3) := by decide +kernel
theorem d_Mod_second_25 : decode b_Mod_second 25 = .ok (.istore_n 1, 1) := by decide +kernel
theorem d_Mod_second_26 : decode b_Mod_second 26 = .ok (.iconst 0, 1) := by decide +kernel
theorem d_Mod_second_27 : decode b_Mod_second 27 = .ok (.istore_n 2, 1) := by decide +kernel
theorem d_Mod_second_28 : decode b_Mod_second 28 = .ok (.iconst 0, 1) := by decide +kernel
theorem d_Mod_second_29 : decode b_Mod_second 29 = .ok (.istore_n 3, 1) := by decide +kernel
theorem d_Mod_second_30 : decode b_Mod_second 30 = .ok (.iload_n 3, 1) := by decide +kernel
theorem d_Mod_second_31 : decode b_Mod_second 31 = .ok (.aload_n 0, 1) := by decide +kernel
theorem d_Mod_second_32 : decode b_Mod_second 32 = .ok (.getfield 88, 3) := by decide +kernel
theorem d_Mod_second_35 : decode b_Mod_second 35 = .ok (.if_icmp .ge 219, 3) := by decide +kernel
theorem d_Mod_second_254 : decode b_Mod_second 254 = .ok (.iconst (-1), 1) := by decide +kernel
theorem d_Mod_second_255 : decode b_Mod_second 255 = .ok (.ireturn, 1) := by decide +kernel
theorem d_Mod_setBack_0 : decode b_Mod_setBack 0 = .ok (.iconst 0, 1) := by decide +kernel
theorem d_Mod_setBack_1 : decode b_Mod_setBack 1 = .ok (.istore_n 1, 1) := by decide +kernel
theorem d_Mod_setBack_2 : decode b_Mod_setBack 2 = .ok (.iload_n 1, 1) := by decide +kernel
theorem d_Mod_setBack_3 : decode b_Mod_setBack 3 = .ok (.sipush 256, 3) := by decide +kernel
theorem d_Mod_setBack_6 : decode b_Mod_setBack 6 = .ok (.if_icmp .ge 16, 3) := by decide +kernel
theorem d_Mod_setBack_9 : decode b_Mod_setBack 9 = .ok (.aload_n 0, 1) := by decide +kernel
theorem d_Mod_setBack_10 : decode b_Mod_setBack 10 = .ok (.getfield 43, 3) := by decide +kernel
theorem d_Mod_setBack_13 : decode b_Mod_setBack 13 = .ok (.iload_n 1, 1) := by decide +kernel
theorem d_Mod_setBack_14 : decode b_Mod_setBack 14 = .ok (.lconst 0, 1) := by decide +kernel
theorem d_Mod_setBack_15 : decode b_Mod_setBack 15 = .ok (.lastore, 1) := by decide +kernel
theorem d_Mod_setBack_16 : decode b_Mod_setBack 16 = .ok (.iinc 1 1, 3) := by decide +kernel
theorem d_Mod_setBack_19 : decode b_Mod_setBack 19 = .ok (.goto (-17), 3) := by decide +kernel
theorem d_Mod_setBack_22 : decode b_Mod_setBack 22 = .ok (.iconst 0, 1) := by decide +kernel
theorem d_Mod_setBack_23 : decode b_Mod_setBack 23 = .ok (.istore_n 1, 1) := by decide +kernel
theorem d_Mod_setBack_24 : decode b_Mod_setBack 24 = .ok (.iload_n 1, 1) := by decide +kernel
theorem d_Mod_setBack_25 : decode b_Mod_setBack 25 = .ok (.bipush 32, 2) := by decide +kernel
theorem d_Mod_setBack_27 : decode b_Mod_setBack 27 = .ok (.if_icmp .ge 16, 3) := by decide +kernel
theorem d_Mod_setBack_30 : decode b_Mod_setBack 30 = .ok (.aload_n 0, 1) := by decide +kernel
theorem d_Mod_setBack_31 : decode b_Mod_setBack 31 = .ok (.getfield 46, 3) := by decide +kernel
theorem d_Mod_setBack_34 : decode b_Mod_setBack 34 = .ok (.iload_n 1, 1) := by decide +kernel
theorem d_Mod_setBack_35 : decode b_Mod_setBack 35 = .ok (.lconst 0, 1) := by decide +kernel
theorem d_Mod_setBack_36 : decode b_Mod_setBack 36 = .ok (.lastore, 1) := by decide +kernel
theorem d_Mod_setBack_37 : decode b_Mod_setBack 37 = .ok (.iinc 1 1, 3) := by decide +kernel
theorem d_Mod_setBack_40 : decode b_Mod_setBack 40 = .ok (.goto (-16), 3) := by decide +kernel
theorem d_Mod_setBack_43 : decode b_Mod_setBack 43 = .ok (.aload_n 0, 1) := by decide +kernel
theorem d_Mod_setBack_44 : decode b_Mod_setBack 44 = .ok (.iconst 0, 1) := by decide +kernel
theorem d_Mod_setBack_45 : decode b_Mod_setBack 45 = .ok (.putfield 61, 3) := by decide +kernel
theorem d_Mod_setBack_48 : decode b_Mod_setBack 48 = .ok (.aload_n 0, 1) := by decide +kernel
theorem d_Mod_setBack_49 : decode b_Mod_setBack 49 = .ok (.iconst 0, 1) := by decide +kernel
theorem d_Mod_setBack_50 : decode b_Mod_setBack 50 = .ok (.putfield 64, 3) := by decide +kernel
theorem d_Mod_setBack_53 : decode b_Mod_setBack 53 = .ok (.aload_n 0, 1) := by decide +kernel
theorem d_Mod_setBack_54 : decode b_Mod_setBack 54 = .ok (.sipush 255, 3) := by decide +kernel
theorem d_Mod_setBack_57 : decode b_Mod_setBack 57 = .ok (.putfield 67, 3) := by decide +kernel
theorem d_Mod_setBack_60 : decode b_Mod_setBack 60 = .ok (.aload_n 0, 1) := by decide +kernel
theorem d_Mod_setBack_61 : decode b_Mod_setBack 61 = .ok (.iconst 0, 1) := by decide +kernel
theorem d_Mod_setBack_62 : decode b_Mod_setBack 62 = .ok (.putfield 70, 3) := by decide +kernel
theorem d_Mod_setBack_65 : decode b_Mod_setBack 65 = .ok (.aload_n 0, 1) := by decide +kernel
theorem d_Mod_setBack_66 : decode b_Mod_setBack 66 = .ok (.iconst 0, 1) := by decide +kernel
theorem d_Mod_setBack_67 : decode b_Mod_setBack 67 = .ok (.putfield 73, 3) := by decide +kernel
theorem d_Mod_setBack_70 : decode b_Mod_setBack 70 = .ok (.aload_n 0, 1) := by decide +kernel
theorem d_Mod_setBack_71 : decode b_Mod_setBack 71 = .ok (.iconst 0, 1) := by decide +kernel
theorem d_Mod_setBack_72 : decode b_Mod_setBack 72 = .ok (.putfield 76, 3) := by decide +kernel
theorem d_Mod_setBack_75 : decode b_Mod_setBack 75 = .ok (.aload_n 0, 1) := by decide +kernel
theorem d_Mod_setBack_76 : decode b_Mod_setBack 76 = .ok (.ldc2_w 79, 3) := by decide +kernel
theorem d_Mod_setBack_79 : decode b_Mod_setBack 79 = .ok (.putfield 81, 3) := by decide +kernel
theorem d_Mod_setBack_82 : decode b_Mod_setBack 82 = .ok (.return_, 1) := by decide +kernel
theorem d_Mod_special_0 : decode b_Mod_special 0 = .ok (.aload_n 0, 1) := by decide +kernel
theorem d_Mod_special_1 : decode b_Mod_special 1 = .ok (.iconst 0, 1) := by decide +kernel
theorem d_Mod_special_2 : decode b_Mod_special 2 = .ok (.putfield 58, 3) := by decide +kernel
theorem d_Mod_special_5 : decode b_Mod_special 5 = .ok (.iload_n 1, 1) := by decide +kernel
theorem d_Mod_special_6 : decode b_Mod_special 6 = .ok (.i2l, 1) := by decide +kernel
theorem d_Mod_special_7 : decode b_Mod_special 7 = .ok (.invokestatic 285, 3) := by decide +kernel
theorem d_Mod_special_10 : decode b_Mod_special 10 = .ok (.ifCond .eq 11, 3) := by decide +kernel
theorem d_Mod_special_13 : decode b_Mod_special 13 = .ok (.aload_n 0, 1) := by decide +kernel
theorem d_Mod_special_14 : decode b_Mod_special 14 = .ok (.iload_n 1, 1) := by decide +kernel
theorem d_Mod_special_15 : decode b_Mod_special 15 = .ok (.invokevirtual 422, 3) := by decide +kernel
theorem d_Mod_special_18 : decode b_Mod_special 18 = .ok (.goto 4, 3) := by decide +kernel
theorem d_Mod_special_21 : decode b_Mod_special 21 = .ok (.lconst 0, 1) := by decide +kernel
theorem d_Mod_special_22 : decode b_Mod_special 22 = .ok (.lreturn, 1) := by decide +kernel
theorem d_Mod_step_0 : decode b_Mod_step 0 = .ok (.aload_n 0, 1) := by decide +kernel
theorem d_Mod_step_1 : decode b_Mod_step 1 = .ok (.getfield 81, 3) := by decide +kernel
theorem d_Mod_step_4 : decode b_Mod_step 4 = .ok (.lconst 0, 1) := by decide +kernel
theorem d_Mod_step_5 : decode b_Mod_step 5 = .ok (.lcmp, 1) := by decide +kernel
theorem d_Mod_step_6 : decode b_Mod_step 6 = .ok (.ifCond .lt 14, 3) := by decide +kernel
theorem d_Mod_step_9 : decode b_Mod_step 9 = .ok (.aload_n 0, 1) := by decide +kernel
theorem d_Mod_step_10 : decode b_Mod_step 10 = .ok (.getfield 81, 3) := by decide +kernel
theorem d_Mod_step_13 : decode b_Mod_step 13 = .ok (.ldc2_w 377, 3) := by decide +kernel
theorem d_Mod_step_16 : decode b_Mod_step 16 = .ok (.lcmp, 1) := by decide +kernel
theorem d_Mod_step_17 : decode b_Mod_step 17 = .ok (.ifCond .le 5, 3) := by decide +kernel
theorem d_Mod_step_22 : decode b_Mod_step 22 = .ok (.aload_n 0, 1) := by decide +kernel
theorem d_Mod_step_23 : decode b_Mod_step 23 = .ok (.getfield 81, 3) := by decide +kernel
theorem d_Mod_step_26 : decode b_Mod_step 26 = .ok (.l2i, 1) := by decide +kernel
theorem d_Mod_step_27 : decode b_Mod_step 27 = .ok (.istore_n 1, 1) := by decide +kernel
theorem d_Mod_step_28 : decode b_Mod_step 28 = .ok (.aload_n 0, 1) := by decide +kernel
theorem d_Mod_step_29 : decode b_Mod_step 29 = .ok (.getfield 37, 3) := by decide +kernel
theorem d_Mod_step_32 : decode b_Mod_step 32 = .ok (.iload_n 1, 1) := by decide +kernel
theorem d_Mod_step_33 : decode b_Mod_step 33 = .ok (.iaload, 1) := by decide +kernel
theorem d_Mod_step_34 : decode b_Mod_step 34 = .ok (.istore_n 2, 1) := by decide +kernel
theorem d_Mod_step_35 : decode b_Mod_step 35 = .ok (.aload_n 0, 1) := by decide +kernel
theorem d_Mod_step_36 : decode b_Mod_step 36 = .ok (.getfield 37, 3) := by decide +kernel
theorem d_Mod_step_39 : decode b_Mod_step 39 = .ok (.iload_n 1, 1) := by decide +kernel
theorem d_Mod_step_40 : decode b_Mod_step 40 = .ok (.iconst 1, 1) := by decide +kernel
theorem d_Mod_step_41 : decode b_Mod_step 41 = .ok (.iadd, 1) := by decide +kernel
theorem d_Mod_step_42 : decode b_Mod_step 42 = .ok (.iaload, 1) := by decide +kernel
theorem d_Mod_step_43 : decode b_Mod_step 43 = .ok (.istore_n 3, 1) := by decide +kernel
theorem d_Mod_step_44 : decode b_Mod_step 44 = .ok (.aload_n 0, 1) := by decide +kernel
theorem d_Mod_step_45 : decode b_Mod_step 45 = .ok (.getfield 37, 3) := by decide +kernel
theorem d_Mod_step_48 : decode b_Mod_step 48 = .ok (.iload_n 1, 1) := by decide +kernel
theorem d_Mod_step_49 : decode b_Mod_step 49 = .ok (.iconst 2, 1) := by decide +kernel
theorem d_Mod_step_50 : decode b_Mod_step 50 = .ok (.iadd, 1) := by decide +kernel
theorem d_Mod_step_51 : decode b_Mod_step 51 = .ok (.iaload, 1) := by decide +kernel
theorem d_Mod_step_52 : decode b_Mod_step 52 = .ok (.istore 4, 2) := by decide +kernel
theorem d_Mod_step_54 : decode b_Mod_step 54 = .ok (.aload_n 0, 1) := by decide +kernel
theorem d_Mod_step_55 : decode b_Mod_step 55 = .ok (.getfield 37, 3) := by decide +kernel
theorem d_Mod_step_58 : decode b_Mod_step 58 = .ok (.iload_n 1, 1) := by decide +kernel
theorem d_Mod_step_59 : decode b_Mod_step 59 = .ok (.iconst 3, 1) := by decide +kernel
theorem d_Mod_step_60 : decode b_Mod_step 60 = .ok (.iadd, 1) := by decide +kernel
theorem d_Mod_step_61 : decode b_Mod_step 61 = .ok (.iaload, 1) := by decide +kernel
theorem d_Mod_step_62 : decode b_Mod_step 62 = .ok (.istore 5, 2) := by decide +kernel
theorem d_Mod_step_64 : decode b_Mod_step 64 = .ok (.aload_n 0, 1) := by decide +kernel
theorem d_Mod_step_65 : decode b_Mod_step 65 = .ok (.iload_n 2, 1) := by decide +kernel
theorem d_Mod_step_66 : decode b_Mod_step 66 = .ok (.invokevirtual 379, 3) := by decide +kernel
theorem d_Mod_step_69 : decode b_Mod_step 69 = .ok (.ifCond .ne 5, 3) := by decide +kernel
theorem d_Mod_step_74 : decode b_Mod_step 74 = .ok (.iload_n 2, 1) := by decide +kernel
theorem d_Mod_step_75 : decode b_Mod_step 75 = .ok (.sipush 246, 3) := by decide +kernel
theorem d_Mod_step_78 : decode b_Mod_step 78 = .ok (.if_icmp .eq 10, 3) := by decide +kernel
theorem d_Mod_step_81 : decode b_Mod_step 81 = .ok (.iload_n 2, 1) := by decide +kernel
theorem d_Mod_step_82 : decode b_Mod_step 82 = .ok (.sipush 247, 3) := by decide +kernel
theorem d_Mod_step_85 : decode b_Mod_step 85 = .ok (.if_icmp .ne 11, 3) := by decide +kernel
theorem d_Mod_step_96 : decode b_Mod_step 96 = .ok (.iload_n 2, 1) := by decide +kernel
theorem d_Mod_step_97 : decode b_Mod_step 97 = .ok (.sipush 254, 3) := by decide +kernel
theorem d_Mod_step_100 : decode b_Mod_step 100 = .ok (.if_icmp .ne 14, 3) := by decide +kernel
theorem d_Mod_step_114 : decode b_Mod_step 114 = .ok (.iload_n 2, 1) := by decide +kernel
theorem d_Mod_step_115 : decode b_Mod_step 115 = .ok (.ifCond .ne 14, 3) := by decide +kernel
theorem d_Mod_step_118 : decode b_Mod_step 118 = .ok (.iload_n 3, 1) := by decide +kernel
theorem d_Mod_step_119 : decode b_Mod_step 119 = .ok (.ifCond .ne 10, 3) := by decide +kernel
theorem d_Mod_step_122 : decode b_Mod_step 122 = .ok (.iload 4, 2) := by decide +kernel
theorem d_Mod_step_124 : decode b_Mod_step 124 = .ok (.ifCond .ne 5, 3) := by decide +kernel
theorem d_Mod_step_127 : decode b_Mod_step 127 = .ok (.iconst 5, 1) := by decide +kernel
theorem d_Mod_step_128 : decode b_Mod_step 128 = .ok (.ireturn, 1) := by decide +kernel
theorem d_Mod_stopped_0 : decode b_Mod_stopped 0 = .ok (.aload_n 0, 1) := by decide +kernel
theorem d_Mod_stopped_1 : decode b_Mod_stopped 1 = .ok (.iconst 0, 1) := by decide +kernel
theorem d_Mod_stopped_2 : decode b_Mod_stopped 2 = .ok (.putfield 58, 3) := by decide +kernel
theorem d_Mod_stopped_5 : decode b_Mod_stopped 5 = .ok (.aload_n 0, 1) := by decide +kernel
theorem d_Mod_stopped_6 : decode b_Mod_stopped 6 = .ok (.getfield 76, 3) := by decide +kernel
theorem d_Mod_stopped_9 : decode b_Mod_stopped 9 = .ok (.ireturn, 1) := by decide +kernel
theorem d_Mod_store_0 : decode b_Mod_store 0 = .ok (.aload_n 0, 1) := by decide +kernel
theorem d_Mod_store_1 : decode b_Mod_store 1 = .ok (.iconst 0, 1) := by decide +kernel
theorem d_Mod_store_2 : decode b_Mod_store 2 = .ok (.putfield 58, 3) := by decide +kernel
theorem d_Mod_store_5 : decode b_Mod_store 5 = .ok (.iload_n 1, 1) := by decide +kernel
theorem d_Mod_store_6 : decode b_Mod_store 6 = .ok (.ifCond .lt 17, 3) := by decide +kernel
theorem d_Mod_store_9 : decode b_Mod_store 9 = .ok (.iload_n 1, 1) := by decide +kernel
theorem d_Mod_store_10 : decode b_Mod_store 10 = .ok (.sipush 4088, 3) := by decide +kernel
theorem d_Mod_store_13 : decode b_Mod_store 13 = .ok (.if_icmp .gt 10, 3) := by decide +kernel
theorem d_Mod_store_16 : decode b_Mod_store 16 = .ok (.iload_n 1, 1) := by decide +kernel
theorem d_Mod_store_17 : decode b_Mod_store 17 = .ok (.bipush 8, 2) := by decide +kernel
theorem d_Mod_store_19 : decode b_Mod_store 19 = .ok (.irem, 1) := by decide +kernel
theorem d_Mod_store_20 : decode b_Mod_store 20 = .ok (.ifCond .eq 5, 3) := by decide +kernel
theorem d_Mod_store_23 : decode b_Mod_store 23 = .ok (.iconst 0, 1) := by decide +kernel
theorem d_Mod_store_24 : decode b_Mod_store 24 = .ok (.ireturn, 1) := by decide +kernel
theorem d_Mod_store_25 : decode b_Mod_store 25 = .ok (.iconst 0, 1) := by decide +kernel
theorem d_Mod_store_26 : decode b_Mod_store 26 = .ok (.istore 4, 2) := by decide +kernel
theorem d_Mod_store_28 : decode b_Mod_store 28 = .ok (.iload 4, 2) := by decide +kernel
theorem d_Mod_store_30 : decode b_Mod_store 30 = .ok (.iconst 4, 1) := by decide +kernel
theorem d_Mod_store_31 : decode b_Mod_store 31 = .ok (.if_icmp .ge 57, 3) := by decide +kernel
theorem d_Mod_store_34 : decode b_Mod_store 34 = .ok (.aload_n 0, 1) := by decide +kernel
theorem d_Mod_store_35 : decode b_Mod_store 35 = .ok (.getfield 37, 3) := by decide +kernel
theorem d_Mod_store_38 : decode b_Mod_store 38 = .ok (.iload_n 1, 1) := by decide +kernel
theorem d_Mod_store_39 : decode b_Mod_store 39 = .ok (.iload 4, 2) := by decide +kernel
theorem d_Mod_store_41 : decode b_Mod_store 41 = .ok (.iadd, 1) := by decide +kernel
theorem d_Mod_store_42 : decode b_Mod_store 42 = .ok (.iload_n 2, 1) := by decide +kernel
theorem d_Mod_store_43 : decode b_Mod_store 43 = .ok (.bipush 24, 2) := by decide +kernel
theorem d_Mod_store_45 : decode b_Mod_store 45 = .ok (.bipush 8, 2) := by decide +kernel
theorem d_Mod_store_47 : decode b_Mod_store 47 = .ok (.iload 4, 2) := by decide +kernel
theorem d_Mod_store_49 : decode b_Mod_store 49 = .ok (.imul, 1) := by decide +kernel
theorem d_Mod_store_50 : decode b_Mod_store 50 = .ok (.isub, 1) := by decide +kernel
theorem d_Mod_store_51 : decode b_Mod_store 51 = .ok (.ishr, 1) := by decide +kernel
theorem d_Mod_store_52 : decode b_Mod_store 52 = .ok (.sipush 255, 3) := by decide +kernel
theorem d_Mod_store_55 : decode b_Mod_store 55 = .ok (.iand, 1) := by decide +kernel
theorem d_Mod_store_56 : decode b_Mod_store 56 = .ok (.iastore, 1) := by decide +kernel
theorem d_Mod_store_57 : decode b_Mod_store 57 = .ok (.aload_n 0, 1) := by decide +kernel
theorem d_Mod_store_58 : decode b_Mod_store 58 = .ok (.getfield 37, 3) := by decide +kernel
theorem d_Mod_store_61 : decode b_Mod_store 61 = .ok (.iload_n 1, 1) := by decide +kernel
theorem d_Mod_store_62 : decode b_Mod_store 62 = .ok (.iconst 4, 1) := by decide +kernel
theorem d_Mod_store_63 : decode b_Mod_store 63 = .ok (.iadd, 1) := by decide +kernel
theorem d_Mod_store_64 : decode b_Mod_store 64 = .ok (.iload 4, 2) := by decide +kernel
theorem d_Mod_store_66 : decode b_Mod_store 66 = .ok (.iadd, 1) := by decide +kernel
theorem d_Mod_store_67 : decode b_Mod_store 67 = .ok (.iload_n 3, 1) := by decide +kernel
theorem d_Mod_store_68 : decode b_Mod_store 68 = .ok (.bipush 24, 2) := by decide +kernel
theorem d_Mod_store_70 : decode b_Mod_store 70 = .ok (.bipush 8, 2) := by decide +kernel
theorem d_Mod_store_72 : decode b_Mod_store 72 = .ok (.iload 4, 2) := by decide +kernel
theorem d_Mod_store_74 : decode b_Mod_store 74 = .ok (.imul, 1) := by decide +kernel
theorem d_Mod_store_75 : decode b_Mod_store 75 = .ok (.isub, 1) := by decide +kernel
theorem d_Mod_store_76 : decode b_Mod_store 76 = .ok (.ishr, 1) := by decide +kernel
theorem d_Mod_store_77 : decode b_Mod_store 77 = .ok (.sipush 255, 3) := by decide +kernel
theorem d_Mod_store_80 : decode b_Mod_store 80 = .ok (.iand, 1) := by decide +kernel
theorem d_Mod_store_81 : decode b_Mod_store 81 = .ok (.iastore, 1) := by decide +kernel
theorem d_Mod_store_82 : decode b_Mod_store 82 = .ok (.iinc 4 1, 3) := by decide +kernel
theorem d_Mod_store_85 : decode b_Mod_store 85 = .ok (.goto (-57), 3) := by decide +kernel
theorem d_Mod_store_88 : decode b_Mod_store 88 = .ok (.iconst 1, 1) := by decide +kernel
theorem d_Mod_store_89 : decode b_Mod_store 89 = .ok (.ireturn, 1) := by decide +kernel
theorem d_Mod_taken_0 : decode b_Mod_taken 0 = .ok (.aload_n 0, 1) := by decide +kernel
theorem d_Mod_taken_1 : decode b_Mod_taken 1 = .ok (.iconst 0, 1) := by decide +kernel
theorem d_Mod_taken_2 : decode b_Mod_taken 2 = .ok (.putfield 58, 3) := by decide +kernel
theorem d_Mod_taken_5 : decode b_Mod_taken 5 = .ok (.iload_n 1, 1) := by decide +kernel
theorem d_Mod_taken_6 : decode b_Mod_taken 6 = .ok (.ifCond .ne 10, 3) := by decide +kernel
theorem d_Mod_taken_9 : decode b_Mod_taken 9 = .ok (.aload_n 0, 1) := by decide +kernel
theorem d_Mod_taken_10 : decode b_Mod_taken 10 = .ok (.getfield 70, 3) := by decide +kernel
theorem d_Mod_taken_13 : decode b_Mod_taken 13 = .ok (.goto 28, 3) := by decide +kernel
theorem d_Mod_taken_16 : decode b_Mod_taken 16 = .ok (.iload_n 1, 1) := by decide +kernel
theorem d_Mod_taken_17 : decode b_Mod_taken 17 = .ok (.iconst 1, 1) := by decide +kernel
theorem d_Mod_taken_18 : decode b_Mod_taken 18 = .ok (.if_icmp .ne 10, 3) := by decide +kernel
theorem d_Mod_taken_21 : decode b_Mod_taken 21 = .ok (.aload_n 0, 1) := by decide +kernel
theorem d_Mod_taken_22 : decode b_Mod_taken 22 = .ok (.getfield 73, 3) := by decide +kernel
theorem d_Mod_taken_25 : decode b_Mod_taken 25 = .ok (.goto 16, 3) := by decide +kernel
theorem d_Mod_taken_28 : decode b_Mod_taken 28 = .ok (.iload_n 1, 1) := by decide +kernel
theorem d_Mod_taken_29 : decode b_Mod_taken 29 = .ok (.iconst 2, 1) := by decide +kernel
theorem d_Mod_taken_30 : decode b_Mod_taken 30 = .ok (.if_icmp .ne 10, 3) := by decide +kernel
theorem d_Mod_taken_33 : decode b_Mod_taken 33 = .ok (.aload_n 0, 1) := by decide +kernel
theorem d_Mod_taken_34 : decode b_Mod_taken 34 = .ok (.getfield 61, 3) := by decide +kernel
theorem d_Mod_taken_37 : decode b_Mod_taken 37 = .ok (.goto 4, 3) := by decide +kernel
theorem d_Mod_taken_40 : decode b_Mod_taken 40 = .ok (.iconst (-1), 1) := by decide +kernel
theorem d_Mod_taken_41 : decode b_Mod_taken 41 = .ok (.ireturn, 1) := by decide +kernel
theorem d_String_charAt_0 : decode b_String_charAt 0 = .ok (.aload_n 0, 1) := by decide +kernel
end
section
theorem d_String_charAt_1 : decode b_String_charAt 1 = .ok (.invokevirtual 492, 3) := by decide +kernel
theorem d_String_charAt_4 : decode b_String_charAt 4 = .ok (.ifCond .eq 12, 3) := by decide +kernel
theorem d_String_charAt_7 : decode b_String_charAt 7 = .ok (.aload_n 0, 1) := by decide +kernel
theorem d_String_charAt_8 : decode b_String_charAt 8 = .ok (.getfield 9, 3) := by decide +kernel
theorem d_String_charAt_11 : decode b_String_charAt 11 = .ok (.iload_n 1, 1) := by decide +kernel
theorem d_String_charAt_12 : decode b_String_charAt 12 = .ok (.invokestatic 495, 3) := by decide +kernel
theorem d_String_charAt_15 : decode b_String_charAt 15 = .ok (.ireturn, 1) := by decide +kernel
theorem d_String_checkIndex_0 : decode b_String_checkIndex 0 = .ok (.iload_n 0, 1) := by decide +kernel
theorem d_String_checkIndex_1 : decode b_String_checkIndex 1 = .ok (.iload_n 1, 1) := by decide +kernel
theorem d_String_checkIndex_2 : decode b_String_checkIndex 2 = .ok (.getstatic 1053, 3) := by decide +kernel
theorem d_String_checkIndex_5 : decode b_String_checkIndex 5 = .ok (.invokestatic 1059, 3) := by decide +kernel
theorem d_String_checkIndex_8 : decode b_String_checkIndex 8 = .ok (.pop, 1) := by decide +kernel
theorem d_String_checkIndex_9 : decode b_String_checkIndex 9 = .ok (.return_, 1) := by decide +kernel
theorem d_String_coder_0 : decode b_String_coder 0 = .ok (.getstatic 38, 3) := by decide +kernel
theorem d_String_coder_3 : decode b_String_coder 3 = .ok (.ifCond .eq 10, 3) := by decide +kernel
theorem d_String_coder_6 : decode b_String_coder 6 = .ok (.aload_n 0, 1) := by decide +kernel
theorem d_String_coder_7 : decode b_String_coder 7 = .ok (.getfield 15, 3) := by decide +kernel
theorem d_String_coder_10 : decode b_String_coder 10 = .ok (.goto 4, 3) := by decide +kernel
theorem d_String_coder_14 : decode b_String_coder 14 = .ok (.ireturn, 1) := by decide +kernel
theorem d_String_isLatin1_0 : decode b_String_isLatin1 0 = .ok (.getstatic 38, 3) := by decide +kernel
theorem d_String_isLatin1_3 : decode b_String_isLatin1 3 = .ok (.ifCond .eq 14, 3) := by decide +kernel
theorem d_String_isLatin1_6 : decode b_String_isLatin1 6 = .ok (.aload_n 0, 1) := by decide +kernel
theorem d_String_isLatin1_7 : decode b_String_isLatin1 7 = .ok (.getfield 15, 3) := by decide +kernel
theorem d_String_isLatin1_10 : decode b_String_isLatin1 10 = .ok (.ifCond .ne 7, 3) := by decide +kernel
theorem d_String_isLatin1_13 : decode b_String_isLatin1 13 = .ok (.iconst 1, 1) := by decide +kernel
theorem d_String_isLatin1_14 : decode b_String_isLatin1 14 = .ok (.goto 4, 3) := by decide +kernel
theorem d_String_isLatin1_18 : decode b_String_isLatin1 18 = .ok (.ireturn, 1) := by decide +kernel
theorem d_String_length_0 : decode b_String_length 0 = .ok (.aload_n 0, 1) := by decide +kernel
theorem d_String_length_1 : decode b_String_length 1 = .ok (.getfield 9, 3) := by decide +kernel
theorem d_String_length_4 : decode b_String_length 4 = .ok (.arraylength, 1) := by decide +kernel
theorem d_String_length_5 : decode b_String_length 5 = .ok (.aload_n 0, 1) := by decide +kernel
theorem d_String_length_6 : decode b_String_length 6 = .ok (.invokevirtual 335, 3) := by decide +kernel
theorem d_String_length_9 : decode b_String_length 9 = .ok (.ishr, 1) := by decide +kernel
theorem d_String_length_10 : decode b_String_length 10 = .ok (.ireturn, 1) := by decide +kernel
theorem d_StringLatin1_charAt_0 : decode b_StringLatin1_charAt 0 = .ok (.iload_n 1, 1) := by decide +kernel
theorem d_StringLatin1_charAt_1 : decode b_StringLatin1_charAt 1 = .ok (.aload_n 0, 1) := by decide +kernel
theorem d_StringLatin1_charAt_2 : decode b_StringLatin1_charAt 2 = .ok (.arraylength, 1) := by decide +kernel
theorem d_StringLatin1_charAt_3 : decode b_StringLatin1_charAt 3 = .ok (.invokestatic 9, 3) := by decide +kernel
theorem d_StringLatin1_charAt_6 : decode b_StringLatin1_charAt 6 = .ok (.aload_n 0, 1) := by decide +kernel
theorem d_StringLatin1_charAt_7 : decode b_StringLatin1_charAt 7 = .ok (.iload_n 1, 1) := by decide +kernel
theorem d_StringLatin1_charAt_8 : decode b_StringLatin1_charAt 8 = .ok (.baload, 1) := by decide +kernel
theorem d_StringLatin1_charAt_9 : decode b_StringLatin1_charAt 9 = .ok (.sipush 255, 3) := by decide +kernel
theorem d_StringLatin1_charAt_12 : decode b_StringLatin1_charAt 12 = .ok (.iand, 1) := by decide +kernel
theorem d_StringLatin1_charAt_13 : decode b_StringLatin1_charAt 13 = .ok (.i2c, 1) := by decide +kernel
theorem d_StringLatin1_charAt_14 : decode b_StringLatin1_charAt 14 = .ok (.ireturn, 1) := by decide +kernel
theorem d_Preconditions_checkIndex_0 : decode b_Preconditions_checkIndex 0 = .ok (.iload_n 0, 1) := by decide +kernel
theorem d_Preconditions_checkIndex_1 : decode b_Preconditions_checkIndex 1 = .ok (.ifCond .lt 8, 3) := by decide +kernel
theorem d_Preconditions_checkIndex_4 : decode b_Preconditions_checkIndex 4 = .ok (.iload_n 0, 1) := by decide +kernel
theorem d_Preconditions_checkIndex_5 : decode b_Preconditions_checkIndex 5 = .ok (.iload_n 1, 1) := by decide +kernel
theorem d_Preconditions_checkIndex_6 : decode b_Preconditions_checkIndex 6 = .ok (.if_icmp .lt 10, 3) := by decide +kernel
theorem d_Preconditions_checkIndex_16 : decode b_Preconditions_checkIndex 16 = .ok (.iload_n 0, 1) := by decide +kernel
theorem d_Preconditions_checkIndex_17 : decode b_Preconditions_checkIndex 17 = .ok (.ireturn, 1) := by decide +kernel
end
section
/-! numbers that the calls on a fresh object answer -/
def mx_holds (a : Int64) (b : Int32) : Int32 := if ¬ a < 0 ∧ ¬ (4096 - b).toInt64 < a then 1 else 0
theorem mx_i0 : (0 : Int32).toInt = 0 := by decide
theorem mx_in {x : Int32} {N : Nat} (h0 : ¬ x < 0) (h : ¬ nI N ≤ x) (hN : N < 2 ^ 31) : vp_in x N := by
  obtain ⟨j, hj, rfl⟩ := nI_of h0
  rw [nI_leI hN hj] at h
  exact vp_in_nI (by omega) hN
theorem mx_lt {x : Int32} {a : Nat} (h : ¬ nI a < x) (ha : a + 1 < 2 ^ 31 := by decide) : ¬ nI (a + 1) ≤ x := by
  intro q
  rw [Int32.le_iff_toInt_le, nI_toInt ha] at q
  rw [Int32.lt_iff_toInt_lt, nI_toInt (by omega)] at h
  omega
theorem mx_lN0 : (0 : Int64) = lN 0 := rfl
theorem mx_h4096 {n : Nat} (hn : n ≤ 8) : ((4096 : Int32) - nI n).toInt64 = lN (4096 - n) := by
  have e : (4096 : Int32) - nI n = nI (4096 - n) := pk_sub (a := 4096) (b := n) (by omega)
  rw [e, nI_l (by omega)]
theorem mx_holds_in {n k : Nat} (hn : n ≤ 8) (hk : k + n ≤ 4096) : mx_holds (lN k) (nI n) = 1 := by
  unfold mx_holds
  rw [mx_h4096 hn, if_pos]
  refine ⟨?_, ?_⟩
  · rw [mx_lN0, lN_lt (by omega) (by omega)]; omega
  · rw [lN_lt (by omega) (by omega)]; omega
theorem mx_holds_of {x : Int32} {n : Nat} (hn : n ≤ 8) (h : ¬ mx_holds x.toInt64 (nI n) = 0) : ∃ k : Nat, k + n ≤ 4096 ∧ x = nI k := by
  unfold mx_holds at h
  by_cases hc : ¬ x.toInt64 < 0 ∧ ¬ ((4096 : Int32) - nI n).toInt64 < x.toInt64
  · obtain ⟨h1, h2⟩ := hc
    rw [mx_h4096 hn] at h2
    have h0 : ¬ x < 0 := by
      intro q
      apply h1
      rw [Int64.lt_iff_toInt_lt, Int32.toInt_toInt64]
      rw [Int32.lt_iff_toInt_lt] at q
      exact q
    obtain ⟨k, hk, rfl⟩ := nI_of h0
    rw [nI_l hk, lN_lt (by omega) hk] at h2
    exact ⟨k, by omega, rfl⟩
  · rw [if_neg hc] at h
    exact absurd rfl h
theorem pf_lI {a : Nat} (h : a < 2 ^ 63) : (lN a).toInt = (a : Int) := lg_ofNat_toInt h
theorem pf_shr {a d : Nat} {D : Int64} (hD : (D.toBitVec.smod 64).toNat = d) (h : a < 2 ^ 62) : lN a >>> D = lN (a / 2 ^ d) := by
  have hd : a / 2 ^ d ≤ a := Nat.div_le_self _ _
  apply Int64.toInt_inj.mp
  have e : (lN a >>> D).toInt = (lN a).toInt >>> d := by
    rw [← hD]
    exact BitVec.toInt_sshiftRight ..
  rw [e, Int.shiftRight_eq_div_pow, pf_lI (by omega), pf_lI (by omega)]
  rfl
theorem mx_sh3 {k : Nat} (hk : k < 2 ^ 31) : lN k >>> ((3 : Int32).toInt64 &&& 63) = lN (k / 8) := pf_shr (d := 3) (by decide) (by omega)
theorem mx_ushr0 (x : UInt64) : ((0 : Int64).toUInt64 >>> x).toInt64 = 0 := by
  have e : (0 : Int64).toUInt64 = 0 := rfl
  rw [e]
  have e2 : (0 : UInt64) >>> x = 0 := by
    apply UInt64.toNat_inj.mp
    simp
  rw [e2]
  rfl
theorem mx_land0 (x : Int64) : 0 &&& x = 0 := by simp
def mx_spec (k : Int32) : Int64 := if k = 19 then 255 else 0
theorem mx_spec_19 {k : Int32} (h : k = 19) : (255 : Int64) = mx_spec k := (if_pos h).symm
theorem mx_spec_no {k : Int32} (h : ¬ k = 19) : (0 : Int64) = mx_spec k := (if_neg h).symm
def mx_asm (n : Int32) : Int32 := if n = 0 then 0 else -1
theorem mx_asm_lt {n : Int32} (h : n < 0) : (-1 : Int32) = mx_asm n := (if_neg (fun q => absurd h (by rw [q]; decide))).symm
theorem mx_asm_gt {n : Int32} (h : ¬ n ≤ 0) : (-1 : Int32) = mx_asm n := (if_neg (fun q => h (by rw [q]; decide))).symm
theorem mx_asm_0 : (0 : Int32) = mx_asm 0 := rfl
theorem mx_n0 {n : Int32} (h1 : ¬ n < 0) (h2 : n ≤ 0) : n = 0 := by
  rw [Int32.lt_iff_toInt_lt, mx_i0] at h1
  rw [Int32.le_iff_toInt_le, mx_i0] at h2
  exact Int32.toInt_inj.mp (by rw [mx_i0]; omega)
def mx_byte (x : Int32) : Int32 := if 0 ≤ x.toInt ∧ x.toInt < 4096 then 0 else -1
theorem mx_byte_in {k : Nat} (h : k < 4096) : (0 : Int32) = mx_byte (nI k) := by
  unfold mx_byte
  rw [if_pos]
  rw [nI_toInt (by omega)]
  omega
theorem mx_i4096 : (4096 : Int32).toInt = 4096 := by decide
theorem mx_i4088 : (4088 : Int32).toInt = 4088 := by decide
theorem mx_byte_in2 {x : Int32} (h1 : ¬ x < 0) (h2 : x < 4096) : (0 : Int32) = mx_byte x := by
  rw [Int32.lt_iff_toInt_lt, mx_i0] at h1
  rw [Int32.lt_iff_toInt_lt, mx_i4096] at h2
  unfold mx_byte
  rw [if_pos ⟨by omega, by omega⟩]
theorem mx_byte_o1 {x : Int32} (h1 : x < 0) : (-1 : Int32) = mx_byte x := by
  rw [Int32.lt_iff_toInt_lt, mx_i0] at h1
  unfold mx_byte
  rw [if_neg (fun q => by omega)]
theorem mx_byte_o2 {x : Int32} (h2 : ¬ x < 4096) : (-1 : Int32) = mx_byte x := by
  rw [Int32.lt_iff_toInt_lt, mx_i4096] at h2
  unfold mx_byte
  rw [if_neg (fun q => by omega)]
theorem mx_byte_out {x : Int32} (h : mx_holds x.toInt64 1 = 0) : (-1 : Int32) = mx_byte x := by
  unfold mx_byte
  rw [if_neg]
  intro q
  obtain ⟨k, hk, rfl⟩ := nI_of (x := x) (by rw [Int32.lt_iff_toInt_lt, mx_i0]; omega)
  rw [nI_toInt hk] at q
  rw [nI_l hk, show mx_holds (lN k) 1 = 1 from mx_holds_in (n := 1) (by omega) (by omega)] at h
  exact absurd h (by decide)
def mx_store (x : Int32) : Int32 := if 0 ≤ x.toInt ∧ x.toInt ≤ 4088 ∧ x.toInt % 8 = 0 then 1 else 0
theorem mx_store_out {x : Int32} (h : mx_holds x.toInt64 8 = 0) : (0 : Int32) = mx_store x := by
  unfold mx_store
  rw [if_neg]
  intro q
  obtain ⟨k, hk, rfl⟩ := nI_of (x := x) (by rw [Int32.lt_iff_toInt_lt, mx_i0]; omega)
  rw [nI_toInt hk] at q
  rw [nI_l hk, show mx_holds (lN k) 8 = 1 from mx_holds_in (n := 8) (by omega) (by omega)] at h
  exact absurd h (by decide)
theorem mx_and7 {k : Nat} (hk : k < 4096) : nI k &&& 7 = nI (k % 8) := pk_andN (by omega) 3 (by decide)
theorem mx_store_odd {k : Nat} (hk : k + 8 ≤ 4096) (h : ¬ nI k &&& 7 = 0) : (0 : Int32) = mx_store (nI k) := by
  rw [mx_and7 (by omega)] at h
  have h2 : ¬ k % 8 = 0 := fun q => h (by rw [q]; rfl)
  unfold mx_store
  rw [if_neg]
  intro q
  rw [nI_toInt (by omega)] at q
  omega
theorem mx_store_in {k : Nat} (hk : k + 8 ≤ 4096) (h : nI k &&& 7 = 0) : (1 : Int32) = mx_store (nI k) := by
  rw [mx_and7 (by omega), show (0 : Int32) = nI 0 from rfl, nI_eq (by omega) (by omega)] at h
  unfold mx_store
  rw [if_pos]
  rw [nI_toInt (by omega)]
  omega
theorem mx_store_o1 {x : Int32} (h : x < 0) : (0 : Int32) = mx_store x := by
  rw [Int32.lt_iff_toInt_lt, mx_i0] at h
  unfold mx_store
  rw [if_neg (fun q => by omega)]
theorem mx_store_o2 {x : Int32} (h : 4088 < x) : (0 : Int32) = mx_store x := by
  rw [Int32.lt_iff_toInt_lt, mx_i4088] at h
  unfold mx_store
  rw [if_neg (fun q => by omega)]
theorem mx_rem8 {k : Nat} (hk : k ≤ 4088) : nI k - nI k / 8 * 8 = nI (k % 8) := pk_rem (a := k) (d := 8) (by omega) (by omega) (by omega)
theorem mx_store_o3 {k : Nat} (hk : k ≤ 4088) (h : ¬ nI k - nI k / 8 * 8 = 0) : (0 : Int32) = mx_store (nI k) := by
  rw [mx_rem8 hk] at h
  have h2 : ¬ k % 8 = 0 := fun q => h (by rw [q]; rfl)
  unfold mx_store
  rw [if_neg]
  intro q
  rw [nI_toInt (by omega)] at q
  omega
theorem mx_store_in2 {k : Nat} (hk : k ≤ 4088) (h : nI k - nI k / 8 * 8 = 0) : (1 : Int32) = mx_store (nI k) := by
  rw [mx_rem8 hk, show (0 : Int32) = nI 0 from rfl, nI_eq (by omega) (by omega)] at h
  unfold mx_store
  rw [if_pos]
  rw [nI_toInt (by omega)]
  omega
theorem mx_upto {x : Int32} {n : Nat} (hn : n < 2 ^ 31) (h1 : ¬ x < 0) (h2 : ¬ nI n < x) : ∃ k : Nat, k ≤ n ∧ x = nI k := by
  obtain ⟨k, hk, rfl⟩ := nI_of h1
  rw [nI_ltI hn hk] at h2
  exact ⟨k, by omega, rfl⟩
def mx_take (w : Int32) : Int32 := if w = 0 ∨ w = 1 ∨ w = 2 then 0 else -1
theorem mx_take3 (w : Int32) : w = 0 ∨ w = 1 ∨ w = 2 ∨ ((-1 : Int32) = mx_take w ∧ (w.toInt < 0 ∨ 2 < w.toInt)) := by
  by_cases h0 : w = 0
  · exact Or.inl h0
  by_cases h1 : w = 1
  · exact Or.inr (Or.inl h1)
  by_cases h2 : w = 2
  · exact Or.inr (Or.inr (Or.inl h2))
  refine Or.inr (Or.inr (Or.inr ⟨?_, ?_⟩))
  · unfold mx_take
    rw [if_neg (fun q => q.elim h0 (fun q => q.elim h1 h2))]
  · have e0 : ¬ w.toInt = 0 := fun q => h0 (Int32.toInt_inj.mp (by rw [q]; decide))
    have e1 : ¬ w.toInt = 1 := fun q => h1 (Int32.toInt_inj.mp (by rw [q]; decide))
    have e2 : ¬ w.toInt = 2 := fun q => h2 (Int32.toInt_inj.mp (by rw [q]; decide))
    omega
theorem mx_t0 : (0 : Int64).toInt = 0 := by decide
theorem mx_t1 : (1 : Int64).toInt = 1 := by decide
theorem mx_t2 : (2 : Int64).toInt = 2 := by decide
theorem mx_t7 : (7 : Int64).toInt = 7 := by decide
theorem mx_t18 : (18 : Int64).toInt = 18 := by decide
theorem mx_t22 : (22 : Int64).toInt = 22 := by decide
theorem mx_t23 : (23 : Int64).toInt = 23 := by decide
theorem mx_t28 : (28 : Int64).toInt = 28 := by decide
theorem mx_inT {x : Int32} {N : Nat} (h0 : 0 ≤ x.toInt) (h : x.toInt < N) : vp_in x N := vp_in_iff.mpr ⟨h0, h⟩
theorem mx_L6 : ∀ L : Nat, L < 6 → (nI L - 6) < 0 := by decide
theorem mx_sp1 {r k : Int32} (h : (r = 1 ∧ 0 ≤ k.toInt64.toInt ∧ k.toInt64.toInt < 28) ∨ (r = 0 ∧ ¬ k.toInt64.toInt = 19)) (h0 : ¬ r = 0) : 0 ≤ k.toInt ∧ k.toInt < 28 := by
  rw [Int32.toInt_toInt64] at h
  rcases h with h | h
  · exact h.2
  · exact absurd h.1 h0
theorem mx_sp0 {r k : Int32} (h : (r = 1 ∧ 0 ≤ k.toInt64.toInt ∧ k.toInt64.toInt < 28) ∨ (r = 0 ∧ ¬ k.toInt64.toInt = 19)) (h0 : r = 0) : ¬ k = 19 := by
  rw [Int32.toInt_toInt64] at h
  rcases h with h | h
  · rw [h0] at h
    exact absurd h.1 (by decide)
  · intro q
    apply h.2
    rw [q]
    decide
end
section
set_option maxHeartbeats 4000000 in
set_option maxRecDepth 100000 in
theorem c_Mem_init (l : Launch) (K : mx_K) (h0 : Nat) (sz : Nat) : mx_V l y_Mem_init b_Mem_init 1 { frames := 1, cells := 1, slots := 512, locals := 20 } K [.ref h0] [(h0, .inr (1, [.null]))] sz (fun u : Nat => True) (fun u : Nat => [(h0, .inr (1, [.ref u])), (u, .inl (K.2.1.1, 512, .inr (.inl (fun _ => 0))))]) := by
  refine mx_of (by decide) (Nat.le_of_ble_eq_true rfl) ?_
  intro p e s m below meth c A ls H locs hAe F hr hlk hin hsz hP hD hS hl
  rw [hAe]
  have hl : lv_has ls 1 [(0, .ref h0)] := hl
  obtain ⟨hx, hb, hml, hown, hT, hK, hN, hE, hA⟩ := id F
  refine lv_aload_n hx hb d_Mem_init_0 rfl (lv_at hl 0 rfl) ?_
  refine W.objInit hx hb hown (hT _ k_35) (hT _ k_28) (hT _ k_29) rfl (by rw [hml]; exact hl.1) rfl d_Mem_init_1 (by decide) (Nat.le_of_ble_eq_true rfl) ?_
  refine W.eq (g2 := F0 m 4 ls []) rfl ?_
  refine lv_aload_n hx hb d_Mem_init_4 rfl (lv_at hl 0 rfl) ?_
  refine lv_sipush (v := 512) hx hb d_Mem_init_5 (by decide) ?_
  refine mx_newa (a0 := (512, .inr (.inl (fun _ => 0)))) (N' := 512) F k_41 rfl 0 rfl hP hD hS (fun _ => rfl) (by decide) (by decide) (by decide) (by decide) (by decide) d_Mem_init_8 (fun _ h => by cases h) (fun q1 H hP hD hS => ?_)
  have hP : va_P K.1 mx_cl [(h0, .inr (1, [.null])), (q1, .inl (K.2.1.1, 512, .inr (.inl (fun _ => 0))))] H := hP
  have hD : va_D A [(h0, .inr (1, [.null])), (q1, .inl (K.2.1.1, 512, .inr (.inl (fun _ => 0))))] := hD
  refine W.cs (cells' := 1) (slots' := 512) rfl rfl ?_
  refine va_putF (D := K.1) (ci := 1) (v := .ref q1) (ty := (.array .long)) (C := R_Mem) (T := T_Mem) (N := 1) hx hb hT in_Mem t_Mem t_Mem_ok n_Mem hown hK hP hD hS 0 rfl rfl 0 (by decide) (hT _ k_36) (fun _ h9 => h9) rfl hin rfl (by decide +kernel) rfl rfl (Nat.le_of_ble_eq_true rfl) d_Mem_init_10 (fun H locs hP hD hS => ?_)
  have hP : va_P K.1 mx_cl [(h0, .inr (1, [.ref q1])), (q1, .inl (K.2.1.1, 512, .inr (.inl (fun _ => 0))))] H := hP
  have hD : va_D A [(h0, .inr (1, [.ref q1])), (q1, .inl (K.2.1.1, 512, .inr (.inl (fun _ => 0))))] := hD
  exact mx_rv F hr hlk hP hD hS (q1) [0, 1] rfl (by decide) trivial (by decide) (by decide) d_Mem_init_13
set_option maxHeartbeats 4000000 in
set_option maxRecDepth 100000 in
theorem c_Reg_init (l : Launch) (K : mx_K) (h0 : Nat) (sz : Nat) : mx_V l y_Reg_init b_Reg_init 1 { frames := 1, cells := 3, slots := 584, locals := 20 } K [.ref h0] [(h0, .inr (2, [.int 0, .int 0, .int 0, .null, .null, .null]))] sz (fun u : Nat × Nat × Nat => True) (fun u : Nat × Nat × Nat => [(h0, .inr (2, [.int 0, .int 0, .int 255, .ref u.1, .ref u.2.1, .ref u.2.2])), (u.1, .inl (K.2.1.1, 256, .inr (.inl (fun _ => 0)))), (u.2.1, .inl (K.2.1.1, 28, .inr (.inl (fun _ => 0)))), (u.2.2, .inl (K.2.1.1, 300, .inr (.inl (fun _ => 0))))]) := by
  refine mx_of (by decide) (Nat.le_of_ble_eq_true rfl) ?_
  intro p e s m below meth c A ls H locs hAe F hr hlk hin hsz hP hD hS hl
  rw [hAe]
  have hl : lv_has ls 1 [(0, .ref h0)] := hl
  obtain ⟨hx, hb, hml, hown, hT, hK, hN, hE, hA⟩ := id F
  refine lv_aload_n hx hb d_Reg_init_0 rfl (lv_at hl 0 rfl) ?_
  refine W.objInit hx hb hown (hT _ k_47) (hT _ k_28) (hT _ k_29) rfl (by rw [hml]; exact hl.1) rfl d_Reg_init_1 (by decide) (Nat.le_of_ble_eq_true rfl) ?_
  refine W.eq (g2 := F0 m 4 ls []) rfl ?_
  refine lv_aload_n hx hb d_Reg_init_4 rfl (lv_at hl 0 rfl) ?_
  refine lv_sipush (v := 256) hx hb d_Reg_init_5 (by decide) ?_
  refine mx_newa (a0 := (256, .inr (.inl (fun _ => 0)))) (N' := 256) F k_41 rfl 0 rfl hP hD hS (fun _ => rfl) (by decide) (by decide) (by decide) (by decide) (by decide) d_Reg_init_8 (fun _ h => by cases h) (fun q1 H hP hD hS => ?_)
  have hP : va_P K.1 mx_cl [(h0, .inr (2, [.int 0, .int 0, .int 0, .null, .null, .null])), (q1, .inl (K.2.1.1, 256, .inr (.inl (fun _ => 0))))] H := hP
  have hD : va_D A [(h0, .inr (2, [.int 0, .int 0, .int 0, .null, .null, .null])), (q1, .inl (K.2.1.1, 256, .inr (.inl (fun _ => 0))))] := hD
  refine W.cs (cells' := 1) (slots' := 256) rfl rfl ?_
  refine va_putF (D := K.1) (ci := 2) (v := .ref q1) (ty := (.array .long)) (C := R_Reg) (T := T_Reg) (N := 6) hx hb hT in_Reg t_Reg t_Reg_ok n_Reg hown hK hP hD hS 0 rfl rfl 3 (by decide) (hT _ k_48) (fun _ h9 => h9) rfl hin rfl (by decide +kernel) rfl rfl (Nat.le_of_ble_eq_true rfl) d_Reg_init_10 (fun H locs hP hD hS => ?_)
  have hP : va_P K.1 mx_cl [(h0, .inr (2, [.int 0, .int 0, .int 0, .ref q1, .null, .null])), (q1, .inl (K.2.1.1, 256, .inr (.inl (fun _ => 0))))] H := hP
  have hD : va_D A [(h0, .inr (2, [.int 0, .int 0, .int 0, .ref q1, .null, .null])), (q1, .inl (K.2.1.1, 256, .inr (.inl (fun _ => 0))))] := hD
  refine lv_aload_n hx hb d_Reg_init_13 rfl (lv_at hl 0 rfl) ?_
  refine lv_bipush (v := 28) hx hb d_Reg_init_14 (by decide) ?_
  refine mx_newa (a0 := (28, .inr (.inl (fun _ => 0)))) (N' := 28) F k_41 rfl 0 rfl hP hD hS (fun _ => rfl) (by decide) (by decide) (by decide) (by decide) (by decide) d_Reg_init_16 (fun _ h => by cases h) (fun q2 H hP hD hS => ?_)
  have hP : va_P K.1 mx_cl [(h0, .inr (2, [.int 0, .int 0, .int 0, .ref q1, .null, .null])), (q1, .inl (K.2.1.1, 256, .inr (.inl (fun _ => 0)))), (q2, .inl (K.2.1.1, 28, .inr (.inl (fun _ => 0))))] H := hP
  have hD : va_D A [(h0, .inr (2, [.int 0, .int 0, .int 0, .ref q1, .null, .null])), (q1, .inl (K.2.1.1, 256, .inr (.inl (fun _ => 0)))), (q2, .inl (K.2.1.1, 28, .inr (.inl (fun _ => 0))))] := hD
  refine W.cs (cells' := 2) (slots' := 284) rfl rfl ?_
  refine va_putF (D := K.1) (ci := 2) (v := .ref q2) (ty := (.array .long)) (C := R_Reg) (T := T_Reg) (N := 6) hx hb hT in_Reg t_Reg t_Reg_ok n_Reg hown hK hP hD hS 0 rfl rfl 4 (by decide) (hT _ k_49) (fun _ h9 => h9) rfl hin rfl (by decide +kernel) rfl rfl (Nat.le_of_ble_eq_true rfl) d_Reg_init_18 (fun H locs hP hD hS => ?_)
  have hP : va_P K.1 mx_cl [(h0, .inr (2, [.int 0, .int 0, .int 0, .ref q1, .ref q2, .null])), (q1, .inl (K.2.1.1, 256, .inr (.inl (fun _ => 0)))), (q2, .inl (K.2.1.1, 28, .inr (.inl (fun _ => 0))))] H := hP
  have hD : va_D A [(h0, .inr (2, [.int 0, .int 0, .int 0, .ref q1, .ref q2, .null])), (q1, .inl (K.2.1.1, 256, .inr (.inl (fun _ => 0)))), (q2, .inl (K.2.1.1, 28, .inr (.inl (fun _ => 0))))] := hD
  refine lv_aload_n hx hb d_Reg_init_21 rfl (lv_at hl 0 rfl) ?_
  refine lv_sipush (v := 300) hx hb d_Reg_init_22 (by decide) ?_
  refine mx_newa (a0 := (300, .inr (.inl (fun _ => 0)))) (N' := 300) F k_41 rfl 0 rfl hP hD hS (fun _ => rfl) (by decide) (by decide) (by decide) (by decide) (by decide) d_Reg_init_25 (fun _ h => by cases h) (fun q3 H hP hD hS => ?_)
  have hP : va_P K.1 mx_cl [(h0, .inr (2, [.int 0, .int 0, .int 0, .ref q1, .ref q2, .null])), (q1, .inl (K.2.1.1, 256, .inr (.inl (fun _ => 0)))), (q2, .inl (K.2.1.1, 28, .inr (.inl (fun _ => 0)))), (q3, .inl (K.2.1.1, 300, .inr (.inl (fun _ => 0))))] H := hP
  have hD : va_D A [(h0, .inr (2, [.int 0, .int 0, .int 0, .ref q1, .ref q2, .null])), (q1, .inl (K.2.1.1, 256, .inr (.inl (fun _ => 0)))), (q2, .inl (K.2.1.1, 28, .inr (.inl (fun _ => 0)))), (q3, .inl (K.2.1.1, 300, .inr (.inl (fun _ => 0))))] := hD
  refine W.cs (cells' := 3) (slots' := 584) rfl rfl ?_
  refine va_putF (D := K.1) (ci := 2) (v := .ref q3) (ty := (.array .long)) (C := R_Reg) (T := T_Reg) (N := 6) hx hb hT in_Reg t_Reg t_Reg_ok n_Reg hown hK hP hD hS 0 rfl rfl 5 (by decide) (hT _ k_50) (fun _ h9 => h9) rfl hin rfl (by decide +kernel) rfl rfl (Nat.le_of_ble_eq_true rfl) d_Reg_init_27 (fun H locs hP hD hS => ?_)
  have hP : va_P K.1 mx_cl [(h0, .inr (2, [.int 0, .int 0, .int 0, .ref q1, .ref q2, .ref q3])), (q1, .inl (K.2.1.1, 256, .inr (.inl (fun _ => 0)))), (q2, .inl (K.2.1.1, 28, .inr (.inl (fun _ => 0)))), (q3, .inl (K.2.1.1, 300, .inr (.inl (fun _ => 0))))] H := hP
  have hD : va_D A [(h0, .inr (2, [.int 0, .int 0, .int 0, .ref q1, .ref q2, .ref q3])), (q1, .inl (K.2.1.1, 256, .inr (.inl (fun _ => 0)))), (q2, .inl (K.2.1.1, 28, .inr (.inl (fun _ => 0)))), (q3, .inl (K.2.1.1, 300, .inr (.inl (fun _ => 0))))] := hD
  refine lv_aload_n hx hb d_Reg_init_30 rfl (lv_at hl 0 rfl) ?_
  refine lv_sipush (v := 255) hx hb d_Reg_init_31 (by decide) ?_
  refine va_put (D := K.1) (ci := 2) (v := .int 255) (ty := .int) (C := R_Reg) (T := T_Reg) (N := 6) hx hb hT in_Reg t_Reg t_Reg_ok n_Reg hown hK hP hD hS 0 rfl rfl 2 (by decide) (hT _ k_54) (fun _ h9 => h9) rfl (by decide +kernel) rfl rfl (Nat.le_of_ble_eq_true rfl) d_Reg_init_34 (fun H locs hP hD hS => ?_)
  have hP : va_P K.1 mx_cl [(h0, .inr (2, [.int 0, .int 0, .int 255, .ref q1, .ref q2, .ref q3])), (q1, .inl (K.2.1.1, 256, .inr (.inl (fun _ => 0)))), (q2, .inl (K.2.1.1, 28, .inr (.inl (fun _ => 0)))), (q3, .inl (K.2.1.1, 300, .inr (.inl (fun _ => 0))))] H := hP
  have hD : va_D A [(h0, .inr (2, [.int 0, .int 0, .int 255, .ref q1, .ref q2, .ref q3])), (q1, .inl (K.2.1.1, 256, .inr (.inl (fun _ => 0)))), (q2, .inl (K.2.1.1, 28, .inr (.inl (fun _ => 0)))), (q3, .inl (K.2.1.1, 300, .inr (.inl (fun _ => 0))))] := hD
  exact mx_rv F hr hlk hP hD hS (q1, q2, q3) [0, 1, 2, 3] rfl (by decide) trivial (by decide) (by decide) d_Reg_init_37
set_option maxHeartbeats 4000000 in
set_option maxRecDepth 100000 in
theorem c_Opd_init (l : Launch) (K : mx_K) (h0 : Nat) (sz : Nat) : mx_V l y_Opd_init b_Opd_init 1 { frames := 1, cells := 2, slots := 6, locals := 20 } K [.ref h0] [(h0, .inr (7, [.int 0, .int 0, .int 0, .int 0, .null, .null]))] sz (fun u : Nat × Nat => True) (fun u : Nat × Nat => [(h0, .inr (7, [.int 0, .int 0, .int 0, .int 0, .ref u.1, .ref u.2])), (u.1, .inl (K.2.1.1, 3, .inr (.inl (fun _ => 0)))), (u.2, .inl (K.2.1.2.2.2, 3, .inl (fun _ => 0)))]) := by
  refine mx_of (by decide) (Nat.le_of_ble_eq_true rfl) ?_
  intro p e s m below meth c A ls H locs hAe F hr hlk hin hsz hP hD hS hl
  rw [hAe]
  have hl : lv_has ls 1 [(0, .ref h0)] := hl
  obtain ⟨hx, hb, hml, hown, hT, hK, hN, hE, hA⟩ := id F
  refine lv_aload_n hx hb d_Opd_init_0 rfl (lv_at hl 0 rfl) ?_
  refine W.objInit hx hb hown (hT _ k_79) (hT _ k_28) (hT _ k_29) rfl (by rw [hml]; exact hl.1) rfl d_Opd_init_1 (by decide) (Nat.le_of_ble_eq_true rfl) ?_
  refine W.eq (g2 := F0 m 4 ls []) rfl ?_
  refine lv_aload_n hx hb d_Opd_init_4 rfl (lv_at hl 0 rfl) ?_
  refine lv_iconst (v := 3) hx hb d_Opd_init_5 (by decide) ?_
  refine mx_newa (a0 := (3, .inr (.inl (fun _ => 0)))) (N' := 3) F k_41 rfl 0 rfl hP hD hS (fun _ => rfl) (by decide) (by decide) (by decide) (by decide) (by decide) d_Opd_init_6 (fun _ h => by cases h) (fun q1 H hP hD hS => ?_)
  have hP : va_P K.1 mx_cl [(h0, .inr (7, [.int 0, .int 0, .int 0, .int 0, .null, .null])), (q1, .inl (K.2.1.1, 3, .inr (.inl (fun _ => 0))))] H := hP
  have hD : va_D A [(h0, .inr (7, [.int 0, .int 0, .int 0, .int 0, .null, .null])), (q1, .inl (K.2.1.1, 3, .inr (.inl (fun _ => 0))))] := hD
  refine W.cs (cells' := 1) (slots' := 3) rfl rfl ?_
  refine va_putF (D := K.1) (ci := 7) (v := .ref q1) (ty := (.array .long)) (C := R_Opd) (T := T_Opd) (N := 6) hx hb hT in_Opd t_Opd t_Opd_ok n_Opd hown hK hP hD hS 0 rfl rfl 4 (by decide) (hT _ k_80) (fun _ h9 => h9) rfl hin rfl (by decide +kernel) rfl rfl (Nat.le_of_ble_eq_true rfl) d_Opd_init_8 (fun H locs hP hD hS => ?_)
  have hP : va_P K.1 mx_cl [(h0, .inr (7, [.int 0, .int 0, .int 0, .int 0, .ref q1, .null])), (q1, .inl (K.2.1.1, 3, .inr (.inl (fun _ => 0))))] H := hP
  have hD : va_D A [(h0, .inr (7, [.int 0, .int 0, .int 0, .int 0, .ref q1, .null])), (q1, .inl (K.2.1.1, 3, .inr (.inl (fun _ => 0))))] := hD
  refine lv_aload_n hx hb d_Opd_init_11 rfl (lv_at hl 0 rfl) ?_
  refine lv_iconst (v := 3) hx hb d_Opd_init_12 (by decide) ?_
  refine mx_newa (a0 := (3, .inl (fun _ => 0))) (N' := 3) F k_105 rfl 3 rfl hP hD hS (fun _ => rfl) (by decide) (by decide) (by decide) (by decide) (by decide) d_Opd_init_13 (fun _ h => by cases h) (fun q2 H hP hD hS => ?_)
  have hP : va_P K.1 mx_cl [(h0, .inr (7, [.int 0, .int 0, .int 0, .int 0, .ref q1, .null])), (q1, .inl (K.2.1.1, 3, .inr (.inl (fun _ => 0)))), (q2, .inl (K.2.1.2.2.2, 3, .inl (fun _ => 0)))] H := hP
  have hD : va_D A [(h0, .inr (7, [.int 0, .int 0, .int 0, .int 0, .ref q1, .null])), (q1, .inl (K.2.1.1, 3, .inr (.inl (fun _ => 0)))), (q2, .inl (K.2.1.2.2.2, 3, .inl (fun _ => 0)))] := hD
  refine W.cs (cells' := 2) (slots' := 6) rfl rfl ?_
  refine va_putF (D := K.1) (ci := 7) (v := .ref q2) (ty := (.array .boolean)) (C := R_Opd) (T := T_Opd) (N := 6) hx hb hT in_Opd t_Opd t_Opd_ok n_Opd hown hK hP hD hS 0 rfl rfl 5 (by decide) (hT _ k_82) (fun _ h9 => h9) rfl hin rfl (by decide +kernel) rfl rfl (Nat.le_of_ble_eq_true rfl) d_Opd_init_15 (fun H locs hP hD hS => ?_)
  have hP : va_P K.1 mx_cl [(h0, .inr (7, [.int 0, .int 0, .int 0, .int 0, .ref q1, .ref q2])), (q1, .inl (K.2.1.1, 3, .inr (.inl (fun _ => 0)))), (q2, .inl (K.2.1.2.2.2, 3, .inl (fun _ => 0)))] H := hP
  have hD : va_D A [(h0, .inr (7, [.int 0, .int 0, .int 0, .int 0, .ref q1, .ref q2])), (q1, .inl (K.2.1.1, 3, .inr (.inl (fun _ => 0)))), (q2, .inl (K.2.1.2.2.2, 3, .inl (fun _ => 0)))] := hD
  exact mx_rv F hr hlk hP hD hS (q1, q2) [0, 1, 2] rfl (by decide) trivial (by decide) (by decide) d_Opd_init_18
set_option maxHeartbeats 4000000 in
set_option maxRecDepth 100000 in
theorem c_Lab_init (l : Launch) (K : mx_K) (h0 : Nat) (t : Nat) (sz : Nat) : mx_V l y_Lab_init b_Lab_init 2 { frames := 1, cells := 4, slots := 160, locals := 20 } K [.ref h0, .ref t] [(h0, .inr (5, [.int 0, .null, .null, .null, .null, .null]))] sz (fun u : Nat × Nat × Nat × Nat => True) (fun u : Nat × Nat × Nat × Nat => [(h0, .inr (5, [.int 0, .ref t, .ref u.1, .ref u.2.1, .ref u.2.2.1, .ref u.2.2.2])), (u.1, .inl (K.2.1.2.1, 40, .inl (fun _ => 0))), (u.2.1, .inl (K.2.1.2.1, 40, .inl (fun _ => 0))), (u.2.2.1, .inl (K.2.1.1, 40, .inr (.inl (fun _ => 0)))), (u.2.2.2, .inl (K.2.1.2.2.2, 40, .inl (fun _ => 0)))]) := by
  refine mx_of (by decide) (Nat.le_of_ble_eq_true rfl) ?_
  intro p e s m below meth c A ls H locs hAe F hr hlk hin hsz hP hD hS hl
  rw [hAe]
  have hl : lv_has ls 2 [(0, .ref h0), (1, .ref t)] := hl
  obtain ⟨hx, hb, hml, hown, hT, hK, hN, hE, hA⟩ := id F
  refine lv_aload_n hx hb d_Lab_init_0 rfl (lv_at hl 0 rfl) ?_
  refine W.objInit hx hb hown (hT _ k_113) (hT _ k_28) (hT _ k_29) rfl (by rw [hml]; exact hl.1) rfl d_Lab_init_1 (by decide) (Nat.le_of_ble_eq_true rfl) ?_
  refine W.eq (g2 := F0 m 4 ls []) rfl ?_
  refine lv_aload_n hx hb d_Lab_init_4 rfl (lv_at hl 0 rfl) ?_
  refine lv_bipush (v := 40) hx hb d_Lab_init_5 (by decide) ?_
  refine mx_newa (a0 := (40, .inl (fun _ => 0))) (N' := 40) F k_133 rfl 1 rfl hP hD hS (fun _ => rfl) (by decide) (by decide) (by decide) (by decide) (by decide) d_Lab_init_7 (fun _ h => by cases h) (fun q1 H hP hD hS => ?_)
  have hP : va_P K.1 mx_cl [(h0, .inr (5, [.int 0, .null, .null, .null, .null, .null])), (q1, .inl (K.2.1.2.1, 40, .inl (fun _ => 0)))] H := hP
  have hD : va_D A [(h0, .inr (5, [.int 0, .null, .null, .null, .null, .null])), (q1, .inl (K.2.1.2.1, 40, .inl (fun _ => 0)))] := hD
  refine W.cs (cells' := 1) (slots' := 40) rfl rfl ?_
  refine va_putF (D := K.1) (ci := 5) (v := .ref q1) (ty := (.array .int)) (C := R_Lab) (T := T_Lab) (N := 6) hx hb hT in_Lab t_Lab t_Lab_ok n_Lab hown hK hP hD hS 0 rfl rfl 2 (by decide) (hT _ k_115) (fun _ h9 => h9) rfl hin rfl (by decide +kernel) rfl rfl (Nat.le_of_ble_eq_true rfl) d_Lab_init_9 (fun H locs hP hD hS => ?_)
  have hP : va_P K.1 mx_cl [(h0, .inr (5, [.int 0, .null, .ref q1, .null, .null, .null])), (q1, .inl (K.2.1.2.1, 40, .inl (fun _ => 0)))] H := hP
  have hD : va_D A [(h0, .inr (5, [.int 0, .null, .ref q1, .null, .null, .null])), (q1, .inl (K.2.1.2.1, 40, .inl (fun _ => 0)))] := hD
  refine lv_aload_n hx hb d_Lab_init_12 rfl (lv_at hl 0 rfl) ?_
  refine lv_bipush (v := 40) hx hb d_Lab_init_13 (by decide) ?_
  refine mx_newa (a0 := (40, .inl (fun _ => 0))) (N' := 40) F k_133 rfl 1 rfl hP hD hS (fun _ => rfl) (by decide) (by decide) (by decide) (by decide) (by decide) d_Lab_init_15 (fun _ h => by cases h) (fun q2 H hP hD hS => ?_)
  have hP : va_P K.1 mx_cl [(h0, .inr (5, [.int 0, .null, .ref q1, .null, .null, .null])), (q1, .inl (K.2.1.2.1, 40, .inl (fun _ => 0))), (q2, .inl (K.2.1.2.1, 40, .inl (fun _ => 0)))] H := hP
  have hD : va_D A [(h0, .inr (5, [.int 0, .null, .ref q1, .null, .null, .null])), (q1, .inl (K.2.1.2.1, 40, .inl (fun _ => 0))), (q2, .inl (K.2.1.2.1, 40, .inl (fun _ => 0)))] := hD
  refine W.cs (cells' := 2) (slots' := 80) rfl rfl ?_
  refine va_putF (D := K.1) (ci := 5) (v := .ref q2) (ty := (.array .int)) (C := R_Lab) (T := T_Lab) (N := 6) hx hb hT in_Lab t_Lab t_Lab_ok n_Lab hown hK hP hD hS 0 rfl rfl 3 (by decide) (hT _ k_116) (fun _ h9 => h9) rfl hin rfl (by decide +kernel) rfl rfl (Nat.le_of_ble_eq_true rfl) d_Lab_init_17 (fun H locs hP hD hS => ?_)
  have hP : va_P K.1 mx_cl [(h0, .inr (5, [.int 0, .null, .ref q1, .ref q2, .null, .null])), (q1, .inl (K.2.1.2.1, 40, .inl (fun _ => 0))), (q2, .inl (K.2.1.2.1, 40, .inl (fun _ => 0)))] H := hP
  have hD : va_D A [(h0, .inr (5, [.int 0, .null, .ref q1, .ref q2, .null, .null])), (q1, .inl (K.2.1.2.1, 40, .inl (fun _ => 0))), (q2, .inl (K.2.1.2.1, 40, .inl (fun _ => 0)))] := hD
  refine lv_aload_n hx hb d_Lab_init_20 rfl (lv_at hl 0 rfl) ?_
  refine lv_bipush (v := 40) hx hb d_Lab_init_21 (by decide) ?_
  refine mx_newa (a0 := (40, .inr (.inl (fun _ => 0)))) (N' := 40) F k_41 rfl 0 rfl hP hD hS (fun _ => rfl) (by decide) (by decide) (by decide) (by decide) (by decide) d_Lab_init_23 (fun _ h => by cases h) (fun q3 H hP hD hS => ?_)
  have hP : va_P K.1 mx_cl [(h0, .inr (5, [.int 0, .null, .ref q1, .ref q2, .null, .null])), (q1, .inl (K.2.1.2.1, 40, .inl (fun _ => 0))), (q2, .inl (K.2.1.2.1, 40, .inl (fun _ => 0))), (q3, .inl (K.2.1.1, 40, .inr (.inl (fun _ => 0))))] H := hP
  have hD : va_D A [(h0, .inr (5, [.int 0, .null, .ref q1, .ref q2, .null, .null])), (q1, .inl (K.2.1.2.1, 40, .inl (fun _ => 0))), (q2, .inl (K.2.1.2.1, 40, .inl (fun _ => 0))), (q3, .inl (K.2.1.1, 40, .inr (.inl (fun _ => 0))))] := hD
  refine W.cs (cells' := 3) (slots' := 120) rfl rfl ?_
  refine va_putF (D := K.1) (ci := 5) (v := .ref q3) (ty := (.array .long)) (C := R_Lab) (T := T_Lab) (N := 6) hx hb hT in_Lab t_Lab t_Lab_ok n_Lab hown hK hP hD hS 0 rfl rfl 4 (by decide) (hT _ k_117) (fun _ h9 => h9) rfl hin rfl (by decide +kernel) rfl rfl (Nat.le_of_ble_eq_true rfl) d_Lab_init_25 (fun H locs hP hD hS => ?_)
  have hP : va_P K.1 mx_cl [(h0, .inr (5, [.int 0, .null, .ref q1, .ref q2, .ref q3, .null])), (q1, .inl (K.2.1.2.1, 40, .inl (fun _ => 0))), (q2, .inl (K.2.1.2.1, 40, .inl (fun _ => 0))), (q3, .inl (K.2.1.1, 40, .inr (.inl (fun _ => 0))))] H := hP
  have hD : va_D A [(h0, .inr (5, [.int 0, .null, .ref q1, .ref q2, .ref q3, .null])), (q1, .inl (K.2.1.2.1, 40, .inl (fun _ => 0))), (q2, .inl (K.2.1.2.1, 40, .inl (fun _ => 0))), (q3, .inl (K.2.1.1, 40, .inr (.inl (fun _ => 0))))] := hD
  refine lv_aload_n hx hb d_Lab_init_28 rfl (lv_at hl 0 rfl) ?_
  refine lv_bipush (v := 40) hx hb d_Lab_init_29 (by decide) ?_
  refine mx_newa (a0 := (40, .inl (fun _ => 0))) (N' := 40) F k_105 rfl 3 rfl hP hD hS (fun _ => rfl) (by decide) (by decide) (by decide) (by decide) (by decide) d_Lab_init_31 (fun _ h => by cases h) (fun q4 H hP hD hS => ?_)
  have hP : va_P K.1 mx_cl [(h0, .inr (5, [.int 0, .null, .ref q1, .ref q2, .ref q3, .null])), (q1, .inl (K.2.1.2.1, 40, .inl (fun _ => 0))), (q2, .inl (K.2.1.2.1, 40, .inl (fun _ => 0))), (q3, .inl (K.2.1.1, 40, .inr (.inl (fun _ => 0)))), (q4, .inl (K.2.1.2.2.2, 40, .inl (fun _ => 0)))] H := hP
  have hD : va_D A [(h0, .inr (5, [.int 0, .null, .ref q1, .ref q2, .ref q3, .null])), (q1, .inl (K.2.1.2.1, 40, .inl (fun _ => 0))), (q2, .inl (K.2.1.2.1, 40, .inl (fun _ => 0))), (q3, .inl (K.2.1.1, 40, .inr (.inl (fun _ => 0)))), (q4, .inl (K.2.1.2.2.2, 40, .inl (fun _ => 0)))] := hD
  refine W.cs (cells' := 4) (slots' := 160) rfl rfl ?_
  refine va_putF (D := K.1) (ci := 5) (v := .ref q4) (ty := (.array .boolean)) (C := R_Lab) (T := T_Lab) (N := 6) hx hb hT in_Lab t_Lab t_Lab_ok n_Lab hown hK hP hD hS 0 rfl rfl 5 (by decide) (hT _ k_118) (fun _ h9 => h9) rfl hin rfl (by decide +kernel) rfl rfl (Nat.le_of_ble_eq_true rfl) d_Lab_init_33 (fun H locs hP hD hS => ?_)
  have hP : va_P K.1 mx_cl [(h0, .inr (5, [.int 0, .null, .ref q1, .ref q2, .ref q3, .ref q4])), (q1, .inl (K.2.1.2.1, 40, .inl (fun _ => 0))), (q2, .inl (K.2.1.2.1, 40, .inl (fun _ => 0))), (q3, .inl (K.2.1.1, 40, .inr (.inl (fun _ => 0)))), (q4, .inl (K.2.1.2.2.2, 40, .inl (fun _ => 0)))] H := hP
  have hD : va_D A [(h0, .inr (5, [.int 0, .null, .ref q1, .ref q2, .ref q3, .ref q4])), (q1, .inl (K.2.1.2.1, 40, .inl (fun _ => 0))), (q2, .inl (K.2.1.2.1, 40, .inl (fun _ => 0))), (q3, .inl (K.2.1.1, 40, .inr (.inl (fun _ => 0)))), (q4, .inl (K.2.1.2.2.2, 40, .inl (fun _ => 0)))] := hD
  refine lv_aload_n hx hb d_Lab_init_36 rfl (lv_at hl 0 rfl) ?_
  refine lv_aload_n hx hb d_Lab_init_37 rfl (lv_at hl 1 rfl) ?_
  refine va_putF (D := K.1) (ci := 5) (v := .ref t) (ty := (.array .char)) (C := R_Lab) (T := T_Lab) (N := 6) hx hb hT in_Lab t_Lab t_Lab_ok n_Lab hown hK hP hD hS 0 rfl rfl 1 (by decide) (hT _ k_114) (fun _ h9 => h9) rfl hin rfl (by decide +kernel) rfl rfl (Nat.le_of_ble_eq_true rfl) d_Lab_init_38 (fun H locs hP hD hS => ?_)
  have hP : va_P K.1 mx_cl [(h0, .inr (5, [.int 0, .ref t, .ref q1, .ref q2, .ref q3, .ref q4])), (q1, .inl (K.2.1.2.1, 40, .inl (fun _ => 0))), (q2, .inl (K.2.1.2.1, 40, .inl (fun _ => 0))), (q3, .inl (K.2.1.1, 40, .inr (.inl (fun _ => 0)))), (q4, .inl (K.2.1.2.2.2, 40, .inl (fun _ => 0)))] H := hP
  have hD : va_D A [(h0, .inr (5, [.int 0, .ref t, .ref q1, .ref q2, .ref q3, .ref q4])), (q1, .inl (K.2.1.2.1, 40, .inl (fun _ => 0))), (q2, .inl (K.2.1.2.1, 40, .inl (fun _ => 0))), (q3, .inl (K.2.1.1, 40, .inr (.inl (fun _ => 0)))), (q4, .inl (K.2.1.2.2.2, 40, .inl (fun _ => 0)))] := hD
  exact mx_rv F hr hlk hP hD hS (q1, q2, q3, q4) [0, 1, 2, 3, 4] rfl (by decide) trivial (by decide) (by decide) d_Lab_init_41
set_option maxHeartbeats 4000000 in
set_option maxRecDepth 100000 in
theorem c_Sum_init (l : Launch) (K : mx_K) (h0 : Nat) (t : Nat) (b : Nat) (sz : Nat) : mx_V l y_Sum_init b_Sum_init 3 { frames := 1, cells := 0, slots := 0, locals := 20 } K [.ref h0, .ref t, .ref b] [(h0, .inr (6, [.int 0, .int 0, .long 0, .int 0, .int 0, .long 0, .int 0, .int 0, .long 0, .null, .null]))] sz (fun u : Unit => True) (fun u : Unit => [(h0, .inr (6, [.int 0, .int 0, .long 0, .int 0, .int 0, .long 0, .int 0, .int 0, .long 0, .ref t, .ref b]))]) := by
  refine mx_of (by decide) (Nat.le_of_ble_eq_true rfl) ?_
  intro p e s m below meth c A ls H locs hAe F hr hlk hin hsz hP hD hS hl
  rw [hAe]
  have hl : lv_has ls 3 [(0, .ref h0), (1, .ref t), (2, .ref b)] := hl
  obtain ⟨hx, hb, hml, hown, hT, hK, hN, hE, hA⟩ := id F
  refine lv_aload_n hx hb d_Sum_init_0 rfl (lv_at hl 0 rfl) ?_
  refine W.objInit hx hb hown (hT _ k_249) (hT _ k_28) (hT _ k_29) rfl (by rw [hml]; exact hl.1) rfl d_Sum_init_1 (by decide) (Nat.le_of_ble_eq_true rfl) ?_
  refine W.eq (g2 := F0 m 4 ls []) rfl ?_
  refine lv_aload_n hx hb d_Sum_init_4 rfl (lv_at hl 0 rfl) ?_
  refine lv_aload_n hx hb d_Sum_init_5 rfl (lv_at hl 1 rfl) ?_
  refine va_putF (D := K.1) (ci := 6) (v := .ref t) (ty := (.array .char)) (C := R_Sum) (T := T_Sum) (N := 11) hx hb hT in_Sum t_Sum t_Sum_ok n_Sum hown hK hP hD hS 0 rfl rfl 9 (by decide) (hT _ k_250) (fun _ h9 => h9) rfl hin rfl (by decide +kernel) rfl rfl (Nat.le_of_ble_eq_true rfl) d_Sum_init_6 (fun H locs hP hD hS => ?_)
  have hP : va_P K.1 mx_cl [(h0, .inr (6, [.int 0, .int 0, .long 0, .int 0, .int 0, .long 0, .int 0, .int 0, .long 0, .ref t, .null]))] H := hP
  have hD : va_D A [(h0, .inr (6, [.int 0, .int 0, .long 0, .int 0, .int 0, .long 0, .int 0, .int 0, .long 0, .ref t, .null]))] := hD
  refine lv_aload_n hx hb d_Sum_init_9 rfl (lv_at hl 0 rfl) ?_
  refine lv_aload_n hx hb d_Sum_init_10 rfl (lv_at hl 2 rfl) ?_
  refine va_putF (D := K.1) (ci := 6) (v := .ref b) (ty := (.object "LittleMix$Labels")) (C := R_Sum) (T := T_Sum) (N := 11) hx hb hT in_Sum t_Sum t_Sum_ok n_Sum hown hK hP hD hS 0 rfl rfl 10 (by decide) (hT _ k_251) (fun _ h9 => h9) rfl hin rfl (by decide +kernel) rfl rfl (Nat.le_of_ble_eq_true rfl) d_Sum_init_11 (fun H locs hP hD hS => ?_)
  have hP : va_P K.1 mx_cl [(h0, .inr (6, [.int 0, .int 0, .long 0, .int 0, .int 0, .long 0, .int 0, .int 0, .long 0, .ref t, .ref b]))] H := hP
  have hD : va_D A [(h0, .inr (6, [.int 0, .int 0, .long 0, .int 0, .int 0, .long 0, .int 0, .int 0, .long 0, .ref t, .ref b]))] := hD
  exact mx_rv F hr hlk hP hD hS () [0] rfl (by decide) trivial (by decide) (by decide) d_Sum_init_14
set_option maxHeartbeats 4000000 in
set_option maxRecDepth 100000 in
theorem c_Mac_init (l : Launch) (K : mx_K) (h0 : Nat) (a : Nat) (b : Nat) (sz : Nat) : mx_V l y_Mac_init b_Mac_init 3 { frames := 1, cells := 0, slots := 0, locals := 20 } K [.ref h0, .ref a, .ref b] [(h0, .inr (9, [.long 0, .int 0, .int 0, .int 0, .int 0, .int 0, .int 0, .int 0, .int 0, .long 0, .long 0, .long 0, .int 0, .int 0, .null, .null]))] sz (fun u : Unit => True) (fun u : Unit => [(h0, .inr (9, [.long 256, .int 0, .int 0, .int 0, .int 0, .int 0, .int 0, .int 0, .int 0, .long 0, .long 0, .long 0, .int 0, .int 0, .ref a, .ref b]))]) := by
  refine mx_of (by decide) (Nat.le_of_ble_eq_true rfl) ?_
  intro p e s m below meth c A ls H locs hAe F hr hlk hin hsz hP hD hS hl
  rw [hAe]
  have hl : lv_has ls 3 [(0, .ref h0), (1, .ref a), (2, .ref b)] := hl
  obtain ⟨hx, hb, hml, hown, hT, hK, hN, hE, hA⟩ := id F
  refine lv_aload_n hx hb d_Mac_init_0 rfl (lv_at hl 0 rfl) ?_
  refine W.objInit hx hb hown (hT _ k_326) (hT _ k_28) (hT _ k_29) rfl (by rw [hml]; exact hl.1) rfl d_Mac_init_1 (by decide) (Nat.le_of_ble_eq_true rfl) ?_
  refine W.eq (g2 := F0 m 4 ls []) rfl ?_
  refine lv_aload_n hx hb d_Mac_init_4 rfl (lv_at hl 0 rfl) ?_
  refine lv_aload_n hx hb d_Mac_init_5 rfl (lv_at hl 1 rfl) ?_
  refine va_putF (D := K.1) (ci := 9) (v := .ref a) (ty := (.object "LittleMix$Memory")) (C := R_Mac) (T := T_Mac) (N := 16) hx hb hT in_Mac t_Mac t_Mac_ok n_Mac hown hK hP hD hS 0 rfl rfl 14 (by decide) (hT _ k_328) (fun _ h9 => h9) rfl hin rfl (by decide +kernel) rfl rfl (Nat.le_of_ble_eq_true rfl) d_Mac_init_6 (fun H locs hP hD hS => ?_)
  have hP : va_P K.1 mx_cl [(h0, .inr (9, [.long 0, .int 0, .int 0, .int 0, .int 0, .int 0, .int 0, .int 0, .int 0, .long 0, .long 0, .long 0, .int 0, .int 0, .ref a, .null]))] H := hP
  have hD : va_D A [(h0, .inr (9, [.long 0, .int 0, .int 0, .int 0, .int 0, .int 0, .int 0, .int 0, .int 0, .long 0, .long 0, .long 0, .int 0, .int 0, .ref a, .null]))] := hD
  refine lv_aload_n hx hb d_Mac_init_9 rfl (lv_at hl 0 rfl) ?_
  refine lv_aload_n hx hb d_Mac_init_10 rfl (lv_at hl 2 rfl) ?_
  refine va_putF (D := K.1) (ci := 9) (v := .ref b) (ty := (.object "LittleMix$Registers")) (C := R_Mac) (T := T_Mac) (N := 16) hx hb hT in_Mac t_Mac t_Mac_ok n_Mac hown hK hP hD hS 0 rfl rfl 15 (by decide) (hT _ k_329) (fun _ h9 => h9) rfl hin rfl (by decide +kernel) rfl rfl (Nat.le_of_ble_eq_true rfl) d_Mac_init_11 (fun H locs hP hD hS => ?_)
  have hP : va_P K.1 mx_cl [(h0, .inr (9, [.long 0, .int 0, .int 0, .int 0, .int 0, .int 0, .int 0, .int 0, .int 0, .long 0, .long 0, .long 0, .int 0, .int 0, .ref a, .ref b]))] H := hP
  have hD : va_D A [(h0, .inr (9, [.long 0, .int 0, .int 0, .int 0, .int 0, .int 0, .int 0, .int 0, .int 0, .long 0, .long 0, .long 0, .int 0, .int 0, .ref a, .ref b]))] := hD
  refine lv_aload_n hx hb d_Mac_init_14 rfl (lv_at hl 0 rfl) ?_
  refine lv_ldc2 (v := 256) hx hb hown (hT _ k_327) d_Mac_init_15 ?_
  refine va_put (D := K.1) (ci := 9) (v := .long 256) (ty := .long) (C := R_Mac) (T := T_Mac) (N := 16) hx hb hT in_Mac t_Mac t_Mac_ok n_Mac hown hK hP hD hS 0 rfl rfl 0 (by decide) (hT _ k_330) (fun _ h9 => h9) rfl (by decide +kernel) rfl rfl (Nat.le_of_ble_eq_true rfl) d_Mac_init_18 (fun H locs hP hD hS => ?_)
  have hP : va_P K.1 mx_cl [(h0, .inr (9, [.long 256, .int 0, .int 0, .int 0, .int 0, .int 0, .int 0, .int 0, .int 0, .long 0, .long 0, .long 0, .int 0, .int 0, .ref a, .ref b]))] H := hP
  have hD : va_D A [(h0, .inr (9, [.long 256, .int 0, .int 0, .int 0, .int 0, .int 0, .int 0, .int 0, .int 0, .long 0, .long 0, .long 0, .int 0, .int 0, .ref a, .ref b]))] := hD
  exact mx_rv F hr hlk hP hD hS () [0] rfl (by decide) trivial (by decide) (by decide) d_Mac_init_21
end
section
set_option maxHeartbeats 4000000 in
set_option maxRecDepth 100000 in
theorem c_Str_coder (l : Launch) (K : mx_K) (sn : Nat) (sz : Nat) (hsn : sn < mx_nS) : mx_I l y_String_coder b_String_coder 1 .byte { frames := 0, cells := 0, slots := 0, locals := 0 } K [.ref (K.2.2.1 sn)] [] sz (fun (r : Int32) (u : Unit) => r = 0) (fun u : Unit => []) := by
  refine mx_of (by decide) (Nat.le_of_ble_eq_true rfl) ?_
  intro p e s m below meth c A ls H locs hAe F hr hlk hin hsz hP hD hS hl
  rw [hAe]
  have hl : lv_has ls 1 [(0, .ref (K.2.2.1 sn))] := hl
  obtain ⟨hx, hb, hml, hown, hT, hK, hN, hE, hA⟩ := id F
  refine va_gets hx hb hE.2.2.1 hS hown (hT _ k_159) (fun _ h9 => h9) d_String_coder_0 ?_
  refine lv_if_eq (tgt := 13) hx hb d_String_coder_3 (by decide) (fun h => absurd h (by decide)) (fun _ => ?_)
  refine lv_aload_n hx hb d_String_coder_6 rfl (lv_at hl 0 rfl) ?_
  refine vk_getf hx hb (hE.1 sn hsn).2.1 hS hown (hT _ k_1424) (fun _ h9 => h9) d_String_coder_7 ?_
  refine lv_goto (tgt := 14) hx hb d_String_coder_10 (by decide) ?_
  exact mx_ri F hr hlk (by decide) hP hD hS () [] rfl (by decide) rfl (by decide) (by decide) d_String_coder_14
set_option maxHeartbeats 4000000 in
set_option maxRecDepth 100000 in
theorem c_Str_isLatin1 (l : Launch) (K : mx_K) (sn : Nat) (sz : Nat) (hsn : sn < mx_nS) : mx_I l y_String_isLatin1 b_String_isLatin1 1 .boolean { frames := 0, cells := 0, slots := 0, locals := 0 } K [.ref (K.2.2.1 sn)] [] sz (fun (r : Int32) (u : Unit) => r = 1) (fun u : Unit => []) := by
  refine mx_of (by decide) (Nat.le_of_ble_eq_true rfl) ?_
  intro p e s m below meth c A ls H locs hAe F hr hlk hin hsz hP hD hS hl
  rw [hAe]
  have hl : lv_has ls 1 [(0, .ref (K.2.2.1 sn))] := hl
  obtain ⟨hx, hb, hml, hown, hT, hK, hN, hE, hA⟩ := id F
  refine va_gets hx hb hE.2.2.1 hS hown (hT _ k_159) (fun _ h9 => h9) d_String_isLatin1_0 ?_
  refine lv_if_eq (tgt := 17) hx hb d_String_isLatin1_3 (by decide) (fun h => absurd h (by decide)) (fun _ => ?_)
  refine lv_aload_n hx hb d_String_isLatin1_6 rfl (lv_at hl 0 rfl) ?_
  refine vk_getf hx hb (hE.1 sn hsn).2.1 hS hown (hT _ k_1424) (fun _ h9 => h9) d_String_isLatin1_7 ?_
  refine lv_if_ne (tgt := 17) hx hb d_String_isLatin1_10 (by decide) (fun h => absurd h (by decide)) (fun _ => ?_)
  refine lv_iconst (v := 1) hx hb d_String_isLatin1_13 (by decide) ?_
  refine lv_goto (tgt := 18) hx hb d_String_isLatin1_14 (by decide) ?_
  exact mx_ri F hr hlk (by decide) hP hD hS () [] rfl (by decide) rfl (by decide) (by decide) d_String_isLatin1_18
set_option maxHeartbeats 4000000 in
set_option maxRecDepth 100000 in
theorem c_Str_length (l : Launch) (K : mx_K) (sn : Nat) (sz : Nat) (hsn : sn < mx_nS) : mx_I l y_String_length b_String_length 1 .int { frames := 1, cells := 0, slots := 0, locals := 20 } K [.ref (K.2.2.1 sn)] [] sz (fun (r : Int32) (u : Unit) => r = nI (mx_len.getD sn 0)) (fun u : Unit => []) := by
  refine mx_of (by decide) (Nat.le_of_ble_eq_true rfl) ?_
  intro p e s m below meth c A ls H locs hAe F hr hlk hin hsz hP hD hS hl
  rw [hAe]
  have hl : lv_has ls 1 [(0, .ref (K.2.2.1 sn))] := hl
  obtain ⟨hx, hb, hml, hown, hT, hK, hN, hE, hA⟩ := id F
  refine lv_aload_n hx hb d_String_length_0 rfl (lv_at hl 0 rfl) ?_
  refine vk_getf hx hb (hE.1 sn hsn).2.2.1 hS hown (hT _ k_1423) (fun _ h9 => h9) d_String_length_1 ?_
  refine va_tlen (v := nI (mx_len.getD sn 0)) hx hb (hE.1 sn hsn).2.2.2 hS rfl d_String_length_4 ?_
  refine lv_aload_n hx hb d_String_length_5 rfl (lv_at hl 0 rfl) ?_
  refine mx_ci (wr := []) F (mx_runV (As := []) (rest := [.int (nI (mx_len.getD sn 0))]) (n := 0) F (c_Str_coder l K sn H.size hsn) k_158 (Or.inl k_155) k_156 k_157 k_9 p_String_coder rfl rfl hP hD hS [] rfl (by decide) (mx_recvS hE hsn hS) rfl hl.1 rfl (Nat.le_of_ble_eq_true rfl) ⟨by decide, by decide⟩ ⟨by decide, by decide⟩ d_String_length_6) hP hD hS [] [] rfl rfl (by decide) (by decide) (fun r2 _ H locs hq1 hP hD hS => ?_)
  obtain rfl : r2 = 0 := hq1
  have hP : va_P K.1 mx_cl [] H := hP
  have hD : va_D A [] := hD
  refine W.cs (cells' := 0) (slots' := 0) rfl rfl ?_
  refine lv_ishr hx hb d_String_length_9 ?_
  refine lv_topi (fun z3 ez3 => ?_)
  obtain rfl : z3 = nI (mx_len.getD sn 0) := ez3.trans (sc_shr0 (mx_len_lt sn hsn))
  exact mx_ri F hr hlk rfl hP hD hS () [] rfl (by decide) rfl (by decide) (by decide) d_String_length_10
set_option maxHeartbeats 4000000 in
set_option maxRecDepth 100000 in
theorem c_Pre_check0 (l : Launch) (K : mx_K) (k : Nat) (n : Nat) (sz : Nat) (hn : n < 2 ^ 31) (hk : k < n) : mx_I l y_Preconditions_checkIndex b_Preconditions_checkIndex 3 .int { frames := 0, cells := 0, slots := 0, locals := 0 } K [.int (nI k), .int (nI n), .null] [] sz (fun (r : Int32) (u : Unit) => True) (fun u : Unit => []) := by
  refine mx_of (by decide) (Nat.le_of_ble_eq_true rfl) ?_
  intro p e s m below meth c A ls H locs hAe F hr hlk hin hsz hP hD hS hl
  rw [hAe]
  have hl : lv_has ls 3 [(0, .int (nI k)), (1, .int (nI n)), (2, .null)] := hl
  obtain ⟨hx, hb, hml, hown, hT, hK, hN, hE, hA⟩ := id F
  refine lv_iload_n hx hb d_Preconditions_checkIndex_0 rfl (lv_at hl 0 rfl) ?_
  refine lv_if_lt (tgt := 9) hx hb d_Preconditions_checkIndex_1 (by decide) (fun h => absurd h (nI_pos (by omega))) (fun h1 => ?_)
  refine lv_iload_n hx hb d_Preconditions_checkIndex_4 rfl (lv_at hl 0 rfl) ?_
  refine lv_iload_n hx hb d_Preconditions_checkIndex_5 rfl (lv_at hl 1 rfl) ?_
  refine lv_icmp_lt (tgt := 16) hx hb d_Preconditions_checkIndex_6 (by decide) (fun h2 => ?_) (fun h => absurd (nI_lt (a := k) (b := n) (by omega) (by omega)) h)
  refine lv_iload_n hx hb d_Preconditions_checkIndex_16 rfl (lv_at hl 0 rfl) ?_
  exact mx_ri F hr hlk rfl hP hD hS () [] rfl (by decide) trivial (by decide) (by decide) d_Preconditions_checkIndex_17
set_option maxHeartbeats 4000000 in
set_option maxRecDepth 100000 in
theorem c_Pre_check1 (l : Launch) (K : mx_K) (k : Nat) (n : Nat) (z : Nat) (sz : Nat) (hn : n < 2 ^ 31) (hk : k < n) : mx_I l y_Preconditions_checkIndex b_Preconditions_checkIndex 3 .int { frames := 0, cells := 0, slots := 0, locals := 0 } K [.int (nI k), .int (nI n), .ref z] [] sz (fun (r : Int32) (u : Unit) => True) (fun u : Unit => []) := by
  refine mx_of (by decide) (Nat.le_of_ble_eq_true rfl) ?_
  intro p e s m below meth c A ls H locs hAe F hr hlk hin hsz hP hD hS hl
  rw [hAe]
  have hl : lv_has ls 3 [(0, .int (nI k)), (1, .int (nI n)), (2, .ref z)] := hl
  obtain ⟨hx, hb, hml, hown, hT, hK, hN, hE, hA⟩ := id F
  refine lv_iload_n hx hb d_Preconditions_checkIndex_0 rfl (lv_at hl 0 rfl) ?_
  refine lv_if_lt (tgt := 9) hx hb d_Preconditions_checkIndex_1 (by decide) (fun h => absurd h (nI_pos (by omega))) (fun h1 => ?_)
  refine lv_iload_n hx hb d_Preconditions_checkIndex_4 rfl (lv_at hl 0 rfl) ?_
  refine lv_iload_n hx hb d_Preconditions_checkIndex_5 rfl (lv_at hl 1 rfl) ?_
  refine lv_icmp_lt (tgt := 16) hx hb d_Preconditions_checkIndex_6 (by decide) (fun h2 => ?_) (fun h => absurd (nI_lt (a := k) (b := n) (by omega) (by omega)) h)
  refine lv_iload_n hx hb d_Preconditions_checkIndex_16 rfl (lv_at hl 0 rfl) ?_
  exact mx_ri F hr hlk rfl hP hD hS () [] rfl (by decide) trivial (by decide) (by decide) d_Preconditions_checkIndex_17
set_option maxHeartbeats 4000000 in
set_option maxRecDepth 100000 in
theorem c_Str_checkIndex (l : Launch) (K : mx_K) (k : Nat) (n : Nat) (sz : Nat) (hn : n < 2 ^ 31) (hk : k < n) : mx_V l y_String_checkIndex b_String_checkIndex 2 { frames := 1, cells := 0, slots := 0, locals := 22 } K [.int (nI k), .int (nI n)] [] sz (fun u : Unit => True) (fun u : Unit => []) := by
  refine mx_of (by decide) (Nat.le_of_ble_eq_true rfl) ?_
  intro p e s m below meth c A ls H locs hAe F hr hlk hin hsz hP hD hS hl
  rw [hAe]
  have hl : lv_has ls 2 [(0, .int (nI k)), (1, .int (nI n))] := hl
  obtain ⟨hx, hb, hml, hown, hT, hK, hN, hE, hA⟩ := id F
  refine lv_iload_n hx hb d_String_checkIndex_0 rfl (lv_at hl 0 rfl) ?_
  refine lv_iload_n hx hb d_String_checkIndex_1 rfl (lv_at hl 1 rfl) ?_
  rcases hE.2.2.2 with hz | ⟨zq, hz⟩
  · refine va_gets hx hb hz hS hown (hT _ k_175) (fun _ h9 => h9) d_String_checkIndex_2 ?_
    refine mx_ci (wr := []) F (mx_runS (As := [.int (nI k), .int (nI n), .null]) (rest := []) (n := 3) F (c_Pre_check0 l K k n H.size hn hk) k_179 (Or.inl k_177) k_178 k_11 p_Preconditions_checkIndex rfl rfl hP hD hS [] rfl (by decide)  rfl hl.1 rfl (Nat.le_of_ble_eq_true rfl) ⟨by decide, by decide⟩ ⟨by decide, by decide⟩ d_String_checkIndex_5) hP hD hS [] [] rfl rfl (by decide) (by decide) (fun r2 _ H locs hq1 hP hD hS => ?_)
    have hP : va_P K.1 mx_cl [] H := hP
    have hD : va_D A [] := hD
    refine W.cs (cells' := 0) (slots' := 0) rfl rfl ?_
    refine lv_pop hx hb d_String_checkIndex_8 rfl ?_
    exact mx_rv F hr hlk hP hD hS () [] rfl (by decide) trivial (by decide) (by decide) d_String_checkIndex_9
  · refine va_gets hx hb hz hS hown (hT _ k_175) (fun _ h9 => h9) d_String_checkIndex_2 ?_
    refine mx_ci (wr := []) F (mx_runS (As := [.int (nI k), .int (nI n), .ref zq]) (rest := []) (n := 3) F (c_Pre_check1 l K k n zq H.size hn hk) k_179 (Or.inl k_177) k_178 k_11 p_Preconditions_checkIndex rfl rfl hP hD hS [] rfl (by decide)  rfl hl.1 rfl (Nat.le_of_ble_eq_true rfl) ⟨by decide, by decide⟩ ⟨by decide, by decide⟩ d_String_checkIndex_5) hP hD hS [] [] rfl rfl (by decide) (by decide) (fun r4 _ H locs hq3 hP hD hS => ?_)
    have hP : va_P K.1 mx_cl [] H := hP
    have hD : va_D A [] := hD
    refine W.cs (cells' := 0) (slots' := 0) rfl rfl ?_
    refine lv_pop hx hb d_String_checkIndex_8 rfl ?_
    exact mx_rv F hr hlk hP hD hS () [] rfl (by decide) trivial (by decide) (by decide) d_String_checkIndex_9
set_option maxHeartbeats 4000000 in
set_option maxRecDepth 100000 in
theorem c_Lat_charAt (l : Launch) (K : mx_K) (sn : Nat) (k : Nat) (sz : Nat) (hsn : sn < mx_nS) (hk : k < mx_len.getD sn 0) : mx_I l y_StringLatin1_charAt b_StringLatin1_charAt 2 .char { frames := 2, cells := 0, slots := 0, locals := 43 } K [.ref (K.2.2.2 sn), .int (nI k)] [] sz (fun (r : Int32) (u : Unit) => narrow .char (.int r) = .int r) (fun u : Unit => []) := by
  refine mx_of (by decide) (Nat.le_of_ble_eq_true rfl) ?_
  intro p e s m below meth c A ls H locs hAe F hr hlk hin hsz hP hD hS hl
  rw [hAe]
  have hl : lv_has ls 2 [(0, .ref (K.2.2.2 sn)), (1, .int (nI k))] := hl
  obtain ⟨hx, hb, hml, hown, hT, hK, hN, hE, hA⟩ := id F
  have hll := mx_len_lt sn hsn
  refine lv_iload_n hx hb d_StringLatin1_charAt_0 rfl (lv_at hl 1 rfl) ?_
  refine lv_aload_n hx hb d_StringLatin1_charAt_1 rfl (lv_at hl 0 rfl) ?_
  refine va_tlen (v := nI (mx_len.getD sn 0)) hx hb (hE.1 sn hsn).2.2.2 hS rfl d_StringLatin1_charAt_2 ?_
  refine mx_cv (wr := []) F (mx_runS (As := [.int (nI k), .int (nI (mx_len.getD sn 0))]) (rest := []) (n := 2) F (c_Str_checkIndex l K k (mx_len.getD sn 0) H.size hll hk) k_174 (Or.inl k_172) k_173 k_9 p_String_checkIndex rfl rfl hP hD hS [] rfl (by decide)  rfl hl.1 rfl (Nat.le_of_ble_eq_true rfl) ⟨by decide, by decide⟩ ⟨by decide, by decide⟩ d_StringLatin1_charAt_3) hP hD hS [] [] rfl rfl (by decide) (by decide) (fun _ H locs hq1 hP hD hS => ?_)
  have hP : va_P K.1 mx_cl [] H := hP
  have hD : va_D A [] := hD
  refine W.cs (cells' := 0) (slots' := 0) rfl rfl ?_
  refine lv_aload_n hx hb d_StringLatin1_charAt_6 rfl (lv_at hl 0 rfl) ?_
  refine lv_iload_n hx hb d_StringLatin1_charAt_7 rfl (lv_at hl 1 rfl) ?_
  refine va_tb hx hb (hE.1 sn hsn).2.2.2 hS (i := nI k) (vp_in_nI hk (by omega)) rfl d_StringLatin1_charAt_8 ?_
  refine lv_topi (fun z3 ez3 => ?_)
  refine lv_sipush (v := 255) hx hb d_StringLatin1_charAt_9 (by decide) ?_
  refine lv_iand hx hb d_StringLatin1_charAt_12 ?_
  refine lv_i2c (v := ((z3 &&& (255 : Int32)).toUInt32 % 65536).toInt32) hx hb d_StringLatin1_charAt_13 rfl ?_
  exact mx_ri F hr hlk (pk_nc _) hP hD hS () [] rfl (by decide) (pk_nc _) (by decide) (by decide) d_StringLatin1_charAt_14
set_option maxHeartbeats 4000000 in
set_option maxRecDepth 100000 in
theorem c_Str_charAt (l : Launch) (K : mx_K) (sn : Nat) (k : Nat) (sz : Nat) (hsn : sn < mx_nS) (hk : k < mx_len.getD sn 0) : mx_I l y_String_charAt b_String_charAt 2 .char { frames := 3, cells := 0, slots := 0, locals := 64 } K [.ref (K.2.2.1 sn), .int (nI k)] [] sz (fun (r : Int32) (u : Unit) => narrow .char (.int r) = .int r) (fun u : Unit => []) := by
  refine mx_of (by decide) (Nat.le_of_ble_eq_true rfl) ?_
  intro p e s m below meth c A ls H locs hAe F hr hlk hin hsz hP hD hS hl
  rw [hAe]
  have hl : lv_has ls 2 [(0, .ref (K.2.2.1 sn)), (1, .int (nI k))] := hl
  obtain ⟨hx, hb, hml, hown, hT, hK, hN, hE, hA⟩ := id F
  refine lv_aload_n hx hb d_String_charAt_0 rfl (lv_at hl 0 rfl) ?_
  refine mx_ci (wr := []) F (mx_runV (As := []) (rest := []) (n := 0) F (c_Str_isLatin1 l K sn H.size hsn) k_168 (Or.inl k_165) k_166 k_167 k_9 p_String_isLatin1 rfl rfl hP hD hS [] rfl (by decide) (mx_recvS hE hsn hS) rfl hl.1 rfl (Nat.le_of_ble_eq_true rfl) ⟨by decide, by decide⟩ ⟨by decide, by decide⟩ d_String_charAt_1) hP hD hS [] [] rfl rfl (by decide) (by decide) (fun r2 _ H locs hq1 hP hD hS => ?_)
  obtain rfl : r2 = 1 := hq1
  have hP : va_P K.1 mx_cl [] H := hP
  have hD : va_D A [] := hD
  refine W.cs (cells' := 0) (slots' := 0) rfl rfl ?_
  refine lv_if_eq (tgt := 16) hx hb d_String_charAt_4 (by decide) (fun h => absurd h (by decide)) (fun _ => ?_)
  refine lv_aload_n hx hb d_String_charAt_7 rfl (lv_at hl 0 rfl) ?_
  refine vk_getf hx hb (hE.1 sn hsn).2.2.1 hS hown (hT _ k_1423) (fun _ h9 => h9) d_String_charAt_8 ?_
  refine lv_iload_n hx hb d_String_charAt_11 rfl (lv_at hl 1 rfl) ?_
  refine mx_ci (wr := []) F (mx_runS (As := [.ref (K.2.2.2 sn), .int (nI k)]) (rest := []) (n := 2) F (c_Lat_charAt l K sn k H.size hsn hk) k_171 (Or.inl k_169) k_170 k_10 p_StringLatin1_charAt rfl rfl hP hD hS [] rfl (by decide)  rfl hl.1 rfl (Nat.le_of_ble_eq_true rfl) ⟨by decide, by decide⟩ ⟨by decide, by decide⟩ d_String_charAt_12) hP hD hS [] [] rfl rfl (by decide) (by decide) (fun r5 _ H locs hq4 hP hD hS => ?_)
  have hP : va_P K.1 mx_cl [] H := hP
  have hD : va_D A [] := hD
  refine W.cs (cells' := 0) (slots' := 0) rfl rfl ?_
  have hqc := hq4
  exact mx_ri F hr hlk hqc hP hD hS () [] rfl (by decide) hqc (by decide) (by decide) d_String_charAt_15
set_option maxHeartbeats 4000000 in
set_option maxRecDepth 100000 in
theorem lp_learn {p : Program} {l : Launch} {e : Env} {R : Room} {s : State} {m : MethodId} {args : Array Value} {below : List Frame} {meth : Method} {c : Code} {cells slots : Nat} {Q : State → Prop} {K : mx_K} {A : Nat → Prop} (h0 : Nat) (q : Nat) (sn : Nat) (a0 : Nat) (b : Nat) (F : mx_F p s m args c b_Opn_learn 7 "LittleMix$Operations" K A) (hRf : 4 ≤ R.frames) (hRl : 85 ≤ R.locals) (hRc : cells ≤ R.cells) (hRs : slots ≤ R.slots)
    (kk : ∀ (f : Nat → Int64) (ls : Array Slot) (H : Heap) (locs : List Loc), lv_has ls 7 [(0, .ref h0)] → va_P K.1 mx_cl [(h0, .inr (3, [.ref q])), (q, .inl (K.2.1.1, 262, .inr (.inl f)))] H → va_D A [(h0, .inr (3, [.ref q])), (q, .inl (K.2.1.1, 262, .inr (.inl f)))] → va_S A s.heap H locs → W p l e R s m args below meth c H locs cells slots Q (F0 m 76 ls [])) :
    ∀ (n : Nat) (k : Nat) (a : Nat) (f : Nat → Int64) (ls : Array Slot) (H : Heap) (locs : List Loc), n + k = mx_len.getD sn 0 → a ≤ 264 → b ≤ 2 → sn < mx_nS → lv_has ls 7 [(5, .int (nI k)), (4, .int (nI a)), (3, .ref (K.2.2.1 sn)), (2, .int (nI b)), (1, .int (nI a0)), (0, .ref h0)] → va_P K.1 mx_cl [(h0, .inr (3, [.ref q])), (q, .inl (K.2.1.1, 262, .inr (.inl f)))] H → va_D A [(h0, .inr (3, [.ref q])), (q, .inl (K.2.1.1, 262, .inr (.inl f)))] → va_S A s.heap H locs → W p l e R s m args below meth c H locs cells slots Q (F0 m 6 ls []) := by
  obtain ⟨hx, hb, hml, hown, hT, hK, hN, hE, hA⟩ := id F
  intro n
  induction n with
  | zero =>
    intro k a f ls H locs hn ha hb2 hsn hl hP hD hS
    refine lv_iload hx hb d_Opn_learn_6 (lv_at hl 0 rfl) ?_
    refine lv_aload_n hx hb d_Opn_learn_8 rfl (lv_at hl 2 rfl) ?_
    have hll := mx_len_lt sn hsn
    refine mx_ci (wr := [(h0, .inr (3, [.ref q])), (q, .inl (K.2.1.1, 262, .inr (.inl f)))]) F (mx_runV (As := []) (rest := [.int (nI k)]) (n := 0) F (c_Str_length l K sn H.size hsn) k_154 (Or.inl k_151) k_152 k_153 k_9 p_String_length rfl rfl hP hD hS [] rfl (by decide) (mx_recvS hE hsn hS) rfl hl.1 rfl (Nat.le_of_ble_eq_true rfl) ⟨Nat.le_trans (m := 4) (by decide) hRf, Nat.le_trans (m := 85) (by decide) hRl⟩ ⟨hRc, hRs⟩ d_Opn_learn_9) hP hD hS [] [0, 1] rfl rfl (by decide) (by decide) (fun r2 _ H locs hq1 hP hD hS => ?_)
    obtain rfl : r2 = nI (mx_len.getD sn 0) := hq1
    have hP : va_P K.1 mx_cl [(h0, .inr (3, [.ref q])), (q, .inl (K.2.1.1, 262, .inr (.inl f)))] H := hP
    have hD : va_D A [(h0, .inr (3, [.ref q])), (q, .inl (K.2.1.1, 262, .inr (.inl f)))] := hD
    refine W.cs (cells' := cells) (slots' := slots) rfl rfl ?_
    refine lv_icmp_ge (tgt := 76) hx hb d_Opn_learn_12 (by decide) (fun h3 => ?_) (fun h => absurd (nI_le (a := (mx_len.getD sn 0)) (b := k) (by omega) (by omega)) h)
    exact kk f _ _ _  (lv_sub hl [5] rfl) hP hD hS
  | succ n ih =>
    intro k a f ls H locs hn ha hb2 hsn hl hP hD hS
    refine lv_iload hx hb d_Opn_learn_6 (lv_at hl 0 rfl) ?_
    refine lv_aload_n hx hb d_Opn_learn_8 rfl (lv_at hl 2 rfl) ?_
    have hll := mx_len_lt sn hsn
    refine mx_ci (wr := [(h0, .inr (3, [.ref q])), (q, .inl (K.2.1.1, 262, .inr (.inl f)))]) F (mx_runV (As := []) (rest := [.int (nI k)]) (n := 0) F (c_Str_length l K sn H.size hsn) k_154 (Or.inl k_151) k_152 k_153 k_9 p_String_length rfl rfl hP hD hS [] rfl (by decide) (mx_recvS hE hsn hS) rfl hl.1 rfl (Nat.le_of_ble_eq_true rfl) ⟨Nat.le_trans (m := 4) (by decide) hRf, Nat.le_trans (m := 85) (by decide) hRl⟩ ⟨hRc, hRs⟩ d_Opn_learn_9) hP hD hS [] [0, 1] rfl rfl (by decide) (by decide) (fun r2 _ H locs hq1 hP hD hS => ?_)
    obtain rfl : r2 = nI (mx_len.getD sn 0) := hq1
    have hP : va_P K.1 mx_cl [(h0, .inr (3, [.ref q])), (q, .inl (K.2.1.1, 262, .inr (.inl f)))] H := hP
    have hD : va_D A [(h0, .inr (3, [.ref q])), (q, .inl (K.2.1.1, 262, .inr (.inl f)))] := hD
    refine W.cs (cells' := cells) (slots' := slots) rfl rfl ?_
    refine lv_icmp_ge (tgt := 76) hx hb d_Opn_learn_12 (by decide) (fun h => absurd h (nI_ge (a := k) (b := (mx_len.getD sn 0)) (by omega) (by omega))) (fun h3 => ?_)
    refine lv_iload hx hb d_Opn_learn_15 (lv_at hl 1 rfl) ?_
    refine lv_aload_n hx hb d_Opn_learn_17 rfl (lv_at hl 5 rfl) ?_
    refine va_get (D := K.1) (ci := 3) (v := .ref q) (C := R_Opn) (T := T_Opn) (N := 1) hx hb hT in_Opn hown hK hP 0 rfl rfl 0 (by decide) (hT _ k_212) (fun _ h9 => h9) rfl d_Opn_learn_18 ?_
    refine va_alen (v := 262) hx hb hK hP 1 0 rfl rfl rfl d_Opn_learn_21 ?_
    refine lv_icmp_ge (tgt := 76) hx hb d_Opn_learn_22 (by decide) (fun h22 => ?_) (fun h22 => ?_)
    · exact kk f _ _ _  (lv_sub hl [5] rfl) hP hD hS
    · have h22n : a < 262 := by
        rw [show (262 : Int32) = nI 262 from rfl, nI_leI (by omega) (by omega)] at h22
        omega
      refine lv_aload_n hx hb d_Opn_learn_25 rfl (lv_at hl 2 rfl) ?_
      refine lv_iload hx hb d_Opn_learn_26 (lv_at hl 0 rfl) ?_
      refine mx_ci (wr := [(h0, .inr (3, [.ref q])), (q, .inl (K.2.1.1, 262, .inr (.inl f)))]) F (mx_runV (As := [.int (nI k)]) (rest := []) (n := 1) F (c_Str_charAt l K sn k H.size hsn (by omega)) k_164 (Or.inl k_161) k_162 k_163 k_9 p_String_charAt rfl rfl hP hD hS [] rfl (by decide) (mx_recvS hE hsn hS) rfl hl.1 rfl (Nat.le_of_ble_eq_true rfl) ⟨Nat.le_trans (m := 4) (by decide) hRf, Nat.le_trans (m := 85) (by decide) hRl⟩ ⟨hRc, hRs⟩ d_Opn_learn_28) hP hD hS [] [0, 1] rfl rfl (by decide) (by decide) (fun r5 _ H locs hq4 hP hD hS => ?_)
      have hP : va_P K.1 mx_cl [(h0, .inr (3, [.ref q])), (q, .inl (K.2.1.1, 262, .inr (.inl f)))] H := hP
      have hD : va_D A [(h0, .inr (3, [.ref q])), (q, .inl (K.2.1.1, 262, .inr (.inl f)))] := hD
      refine W.cs (cells' := cells) (slots' := slots) rfl rfl ?_
      refine lv_istore (lv' := [(6, .int r5), (5, .int (nI k)), (4, .int (nI a)), (3, .ref (K.2.2.1 sn)), (2, .int (nI b)), (1, .int (nI a0)), (0, .ref h0)]) hx hb d_Opn_learn_31 hl (by decide) rfl (fun ls hl => ?_)
      refine lv_iload hx hb d_Opn_learn_33 (lv_at hl 0 rfl) ?_
      refine lv_bipush (v := 32) hx hb d_Opn_learn_35 (by decide) ?_
      refine lv_icmp_ne (tgt := 49) hx hb d_Opn_learn_37 (by decide) (fun h6 => ?_) (fun h6 => ?_)
      · refine lv_aload_n hx hb d_Opn_learn_49 rfl (lv_at hl 6 rfl) ?_
        refine va_get (D := K.1) (ci := 3) (v := .ref q) (C := R_Opn) (T := T_Opn) (N := 1) hx hb hT in_Opn hown hK hP 0 rfl rfl 0 (by decide) (hT _ k_212) (fun _ h9 => h9) rfl d_Opn_learn_50 ?_
        refine lv_iload hx hb d_Opn_learn_53 (lv_at hl 2 rfl) ?_
        refine lv_aload_n hx hb d_Opn_learn_55 rfl (lv_at hl 6 rfl) ?_
        refine va_get (D := K.1) (ci := 3) (v := .ref q) (C := R_Opn) (T := T_Opn) (N := 1) hx hb hT in_Opn hown hK hP 0 rfl rfl 0 (by decide) (hT _ k_212) (fun _ h9 => h9) rfl d_Opn_learn_56 ?_
        refine lv_iload hx hb d_Opn_learn_59 (lv_at hl 2 rfl) ?_
        refine va_lald hx hb hK hP 1 0 rfl rfl (i := nI a) (vp_in_nI (n := a) (N := 262) (by omega) (by decide)) d_Opn_learn_61 ?_
        refine lv_topl (fun z7 ez7 => ?_)
        refine lv_bipush (v := 8) hx hb d_Opn_learn_62 (by decide) ?_
        refine lv_lshl (v := z7 <<< ((8 : Int32).toInt64 &&& 63)) hx hb d_Opn_learn_64 rfl ?_
        refine lv_iload hx hb d_Opn_learn_65 (lv_at hl 0 rfl) ?_
        refine lv_i2l (v := r5.toInt64) hx hb d_Opn_learn_67 rfl ?_
        refine lv_lor hx hb d_Opn_learn_68 ?_
        refine va_last hx hb hK hP hD hS 1 0 rfl rfl (i := nI a) (x := (z7 <<< ((8 : Int32).toInt64 &&& 63)) ||| r5.toInt64) (vp_in_nI (n := a) (N := 262) (by omega) (by decide)) d_Opn_learn_69 (fun H locs hP hD hS => ?_)
        have hP : va_P K.1 mx_cl [(h0, .inr (3, [.ref q])), (q, .inl (K.2.1.1, 262, .inr (.inl (vp_updL f (nI a).toNatClampNeg ((z7 <<< ((8 : Int32).toInt64 &&& 63)) ||| r5.toInt64)))))] H := hP
        have hD : va_D A [(h0, .inr (3, [.ref q])), (q, .inl (K.2.1.1, 262, .inr (.inl (vp_updL f (nI a).toNatClampNeg ((z7 <<< ((8 : Int32).toInt64 &&& 63)) ||| r5.toInt64)))))] := hD
        generalize ef8 : vp_updL f (nI a).toNatClampNeg ((z7 <<< ((8 : Int32).toInt64 &&& 63)) ||| r5.toInt64) = f8 at hP hD
        refine lv_iinc (lv' := [(5, .int (nI (k + 1))), (6, .int r5), (4, .int (nI a)), (3, .ref (K.2.2.1 sn)), (2, .int (nI b)), (1, .int (nI a0)), (0, .ref h0)]) (v := nI (k + 1)) (k := 1) hx hb d_Opn_learn_70 hl rfl (mx_inc k) (by decide) rfl (fun ls hl => ?_)
        refine lv_goto (tgt := 6) hx hb d_Opn_learn_73 (by decide) ?_
        exact ih (k + 1) a f8 _ _ _ (by omega) (by omega) hb2 hsn (lv_sub hl [0, 2, 3, 4, 5, 6] rfl) hP hD hS
      · refine lv_iload hx hb d_Opn_learn_40 (lv_at hl 2 rfl) ?_
        refine lv_iload_n hx hb d_Opn_learn_42 rfl (lv_at hl 4 rfl) ?_
        refine lv_iadd hx hb d_Opn_learn_43 ?_
        refine lv_topi (fun z9 ez9 => ?_)
        obtain rfl : z9 = nI (a + b) := ez9.trans (nI_add a b)
        refine lv_istore (lv' := [(4, .int (nI (a + b))), (6, .int r5), (5, .int (nI k)), (3, .ref (K.2.2.1 sn)), (2, .int (nI b)), (1, .int (nI a0)), (0, .ref h0)]) hx hb d_Opn_learn_44 hl (by decide) rfl (fun ls hl => ?_)
        refine lv_goto (tgt := 70) hx hb d_Opn_learn_46 (by decide) ?_
        refine lv_iinc (lv' := [(5, .int (nI (k + 1))), (4, .int (nI (a + b))), (6, .int r5), (3, .ref (K.2.2.1 sn)), (2, .int (nI b)), (1, .int (nI a0)), (0, .ref h0)]) (v := nI (k + 1)) (k := 2) hx hb d_Opn_learn_70 hl rfl (mx_inc k) (by decide) rfl (fun ls hl => ?_)
        refine lv_goto (tgt := 6) hx hb d_Opn_learn_73 (by decide) ?_
        exact ih (k + 1) (a + b) f _ _ _ (by omega) (by omega) hb2 hsn (lv_sub hl [0, 1, 3, 4, 5, 6] rfl) hP hD hS
set_option maxHeartbeats 4000000 in
set_option maxRecDepth 100000 in
theorem c_Opn_learn (l : Launch) (K : mx_K) (h0 : Nat) (q : Nat) (f : Nat → Int64) (a : Nat) (b : Nat) (sn : Nat) (sz : Nat) (ha : a ≤ 264) (hb2 : b ≤ 2) (hsn : sn < mx_nS) : mx_V l y_Opn_learn b_Opn_learn 7 { frames := 4, cells := 0, slots := 0, locals := 85 } K [.ref h0, .int (nI a), .int (nI b), .ref (K.2.2.1 sn)] [(h0, .inr (3, [.ref q])), (q, .inl (K.2.1.1, 262, .inr (.inl f)))] sz (fun u : (Nat → Int64) => True) (fun u : (Nat → Int64) => [(h0, .inr (3, [.ref q])), (q, .inl (K.2.1.1, 262, .inr (.inl u)))]) := by
  refine mx_of (by decide) (Nat.le_of_ble_eq_true rfl) ?_
  intro p e s m below meth c A ls H locs hAe F hr hlk hin hsz hP hD hS hl
  rw [hAe]
  have hl : lv_has ls 7 [(0, .ref h0), (1, .int (nI a)), (2, .int (nI b)), (3, .ref (K.2.2.1 sn))] := hl
  obtain ⟨hx, hb, hml, hown, hT, hK, hN, hE, hA⟩ := id F
  refine lv_iload_n hx hb d_Opn_learn_0 rfl (lv_at hl 1 rfl) ?_
  refine lv_istore (lv' := [(4, .int (nI a)), (0, .ref h0), (1, .int (nI a)), (2, .int (nI b)), (3, .ref (K.2.2.1 sn))]) hx hb d_Opn_learn_1 hl (by decide) rfl (fun ls hl => ?_)
  refine lv_iconst (v := 0) hx hb d_Opn_learn_3 (by decide) ?_
  refine lv_istore (lv' := [(5, .int 0), (4, .int (nI a)), (0, .ref h0), (1, .int (nI a)), (2, .int (nI b)), (3, .ref (K.2.2.1 sn))]) hx hb d_Opn_learn_4 hl (by decide) rfl (fun ls hl => ?_)
  refine lp_learn h0 q sn a b F (by decide) (by decide) (by decide) (by decide) (fun f ls H locs hl hP hD hS => ?_) (mx_len.getD sn 0) 0 a f _ _ _ (by omega) ha hb2 hsn (lv_sub hl [0, 1, 5, 4, 3, 2] rfl) hP hD hS
  exact mx_rv F hr hlk hP hD hS (f) [0, 1] rfl (by decide) trivial (by decide) (by decide) d_Opn_learn_76
end
