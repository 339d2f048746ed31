section
-- ===== PART A: goes FIRST, ahead of the names: the tables' words, and 'selects' of the private methods out of them =====
/-- a private method of a class that the tables say can be made, by its rows of tables_1 -/
def lw_okq (q : MethodName × Nat) : Prop := (q.1.cls ≠ "java/lang/invoke/MethodHandle" ∧ q.1.cls ≠ "java/lang/invoke/VarHandle") ∧ Cond.instantiable q.1.cls q.2 ∈ tables_1 ∧ Cond.privateMethod q.1 ∈ tables_1 ∧ Cond.instanceMethod q.1 ∈ tables_1
theorem lw_p0 : lw_okq (⟨"LittleMix$Operations", "learn", "(IILjava/lang/String;)V"⟩, 1) := ⟨⟨by decide +kernel, by decide +kernel⟩, List.mem_of_getElem? (i := 141) (by decide +kernel), List.mem_of_getElem? (i := 148) (by decide +kernel), List.mem_of_getElem? (i := 149) (by decide +kernel)⟩
theorem lw_p1 : lw_okq (⟨"LittleMix", "punch", "(I)V"⟩, 6) := ⟨⟨by decide +kernel, by decide +kernel⟩, List.mem_of_getElem? (i := 23) (by decide +kernel), List.mem_of_getElem? (i := 405) (by decide +kernel), List.mem_of_getElem? (i := 406) (by decide +kernel)⟩
theorem lw_p2 : lw_okq (⟨"LittleMix$Line", "findEnd", "(II)V"⟩, 7) := ⟨⟨by decide +kernel, by decide +kernel⟩, List.mem_of_getElem? (i := 135) (by decide +kernel), List.mem_of_getElem? (i := 429) (by decide +kernel), List.mem_of_getElem? (i := 430) (by decide +kernel)⟩
theorem lw_p3 : lw_okq (⟨"LittleMix$Line", "behindBlanks", "(I)I"⟩, 7) := ⟨⟨by decide +kernel, by decide +kernel⟩, List.mem_of_getElem? (i := 135) (by decide +kernel), List.mem_of_getElem? (i := 442) (by decide +kernel), List.mem_of_getElem? (i := 443) (by decide +kernel)⟩
theorem lw_p4 : lw_okq (⟨"LittleMix$Line", "blankFrom", "(I)I"⟩, 7) := ⟨⟨by decide +kernel, by decide +kernel⟩, List.mem_of_getElem? (i := 135) (by decide +kernel), List.mem_of_getElem? (i := 446) (by decide +kernel), List.mem_of_getElem? (i := 447) (by decide +kernel)⟩
theorem lw_p5 : lw_okq (⟨"LittleMix$Assembler", "gather", "(Z)Z"⟩, 10) := ⟨⟨by decide +kernel, by decide +kernel⟩, List.mem_of_getElem? (i := 69) (by decide +kernel), List.mem_of_getElem? (i := 458) (by decide +kernel), List.mem_of_getElem? (i := 459) (by decide +kernel)⟩
theorem lw_p6 : lw_okq (⟨"LittleMix$Assembler", "here", "()I"⟩, 10) := ⟨⟨by decide +kernel, by decide +kernel⟩, List.mem_of_getElem? (i := 69) (by decide +kernel), List.mem_of_getElem? (i := 465) (by decide +kernel), List.mem_of_getElem? (i := 466) (by decide +kernel)⟩
theorem lw_p7 : lw_okq (⟨"LittleMix$Sum", "readTerm", "()V"⟩, 11) := ⟨⟨by decide +kernel, by decide +kernel⟩, List.mem_of_getElem? (i := 245) (by decide +kernel), List.mem_of_getElem? (i := 477) (by decide +kernel), List.mem_of_getElem? (i := 478) (by decide +kernel)⟩
theorem lw_p8 : lw_okq (⟨"LittleMix$Sum", "readName", "(Z)V"⟩, 11) := ⟨⟨by decide +kernel, by decide +kernel⟩, List.mem_of_getElem? (i := 245) (by decide +kernel), List.mem_of_getElem? (i := 482) (by decide +kernel), List.mem_of_getElem? (i := 483) (by decide +kernel)⟩
theorem lw_p9 : lw_okq (⟨"LittleMix$Sum", "readHexadecimal", "()V"⟩, 11) := ⟨⟨by decide +kernel, by decide +kernel⟩, List.mem_of_getElem? (i := 245) (by decide +kernel), List.mem_of_getElem? (i := 564) (by decide +kernel), List.mem_of_getElem? (i := 565) (by decide +kernel)⟩
theorem lw_p10 : lw_okq (⟨"LittleMix$Sum", "readCharacter", "()V"⟩, 11) := ⟨⟨by decide +kernel, by decide +kernel⟩, List.mem_of_getElem? (i := 245) (by decide +kernel), List.mem_of_getElem? (i := 571) (by decide +kernel), List.mem_of_getElem? (i := 572) (by decide +kernel)⟩
theorem lw_p11 : lw_okq (⟨"LittleMix$Sum", "readDecimal", "()V"⟩, 11) := ⟨⟨by decide +kernel, by decide +kernel⟩, List.mem_of_getElem? (i := 245) (by decide +kernel), List.mem_of_getElem? (i := 575) (by decide +kernel), List.mem_of_getElem? (i := 576) (by decide +kernel)⟩
theorem lw_p12 : lw_okq (⟨"LittleMix$Sum", "turnIntoRegister", "(Z)V"⟩, 11) := ⟨⟨by decide +kernel, by decide +kernel⟩, List.mem_of_getElem? (i := 245) (by decide +kernel), List.mem_of_getElem? (i := 581) (by decide +kernel), List.mem_of_getElem? (i := 582) (by decide +kernel)⟩
theorem lw_p13 : lw_okq (⟨"LittleMix$Sum", "addTerm", "(ZZ)V"⟩, 11) := ⟨⟨by decide +kernel, by decide +kernel⟩, List.mem_of_getElem? (i := 245) (by decide +kernel), List.mem_of_getElem? (i := 586) (by decide +kernel), List.mem_of_getElem? (i := 587) (by decide +kernel)⟩
theorem lw_p14 : lw_okq (⟨"LittleMix$Sum", "behindOperand", "()I"⟩, 11) := ⟨⟨by decide +kernel, by decide +kernel⟩, List.mem_of_getElem? (i := 245) (by decide +kernel), List.mem_of_getElem? (i := 590) (by decide +kernel), List.mem_of_getElem? (i := 591) (by decide +kernel)⟩
theorem lw_p15 : lw_okq (⟨"LittleMix$Assembler", "survey", "()Z"⟩, 10) := ⟨⟨by decide +kernel, by decide +kernel⟩, List.mem_of_getElem? (i := 69) (by decide +kernel), List.mem_of_getElem? (i := 617) (by decide +kernel), List.mem_of_getElem? (i := 618) (by decide +kernel)⟩
def lw_privs_1 : List (MethodName × Nat) := [(⟨"LittleMix$Operations", "learn", "(IILjava/lang/String;)V"⟩, 1), (⟨"LittleMix", "punch", "(I)V"⟩, 6), (⟨"LittleMix$Line", "findEnd", "(II)V"⟩, 7), (⟨"LittleMix$Line", "behindBlanks", "(I)I"⟩, 7), (⟨"LittleMix$Line", "blankFrom", "(I)I"⟩, 7), (⟨"LittleMix$Assembler", "gather", "(Z)Z"⟩, 10), (⟨"LittleMix$Assembler", "here", "()I"⟩, 10), (⟨"LittleMix$Sum", "readTerm", "()V"⟩, 11), (⟨"LittleMix$Sum", "readName", "(Z)V"⟩, 11), (⟨"LittleMix$Sum", "readHexadecimal", "()V"⟩, 11), (⟨"LittleMix$Sum", "readCharacter", "()V"⟩, 11), (⟨"LittleMix$Sum", "readDecimal", "()V"⟩, 11), (⟨"LittleMix$Sum", "turnIntoRegister", "(Z)V"⟩, 11), (⟨"LittleMix$Sum", "addTerm", "(ZZ)V"⟩, 11), (⟨"LittleMix$Sum", "behindOperand", "()I"⟩, 11), (⟨"LittleMix$Assembler", "survey", "()Z"⟩, 10)]
theorem lw_r1 : ∀ q ∈ lw_privs_1, lw_okq q := List.forall_mem_cons.mpr ⟨lw_p0, List.forall_mem_cons.mpr ⟨lw_p1, List.forall_mem_cons.mpr ⟨lw_p2, List.forall_mem_cons.mpr ⟨lw_p3, List.forall_mem_cons.mpr ⟨lw_p4, List.forall_mem_cons.mpr ⟨lw_p5, List.forall_mem_cons.mpr ⟨lw_p6, List.forall_mem_cons.mpr ⟨lw_p7, List.forall_mem_cons.mpr ⟨lw_p8, List.forall_mem_cons.mpr ⟨lw_p9, List.forall_mem_cons.mpr ⟨lw_p10, List.forall_mem_cons.mpr ⟨lw_p11, List.forall_mem_cons.mpr ⟨lw_p12, List.forall_mem_cons.mpr ⟨lw_p13, List.forall_mem_cons.mpr ⟨lw_p14, List.forall_mem_cons.mpr ⟨lw_p15, fun _ h => absurd h List.not_mem_nil⟩⟩⟩⟩⟩⟩⟩⟩⟩⟩⟩⟩⟩⟩⟩⟩
theorem lw_p16 : lw_okq (⟨"LittleMix$Assembler", "locates", "()Z"⟩, 10) := ⟨⟨by decide +kernel, by decide +kernel⟩, List.mem_of_getElem? (i := 69) (by decide +kernel), List.mem_of_getElem? (i := 621) (by decide +kernel), List.mem_of_getElem? (i := 622) (by decide +kernel)⟩
theorem lw_p17 : lw_okq (⟨"LittleMix$Assembler", "goOn", "()V"⟩, 10) := ⟨⟨by decide +kernel, by decide +kernel⟩, List.mem_of_getElem? (i := 69) (by decide +kernel), List.mem_of_getElem? (i := 632) (by decide +kernel), List.mem_of_getElem? (i := 633) (by decide +kernel)⟩
theorem lw_p18 : lw_okq (⟨"LittleMix$Assembler", "emit", "()Z"⟩, 10) := ⟨⟨by decide +kernel, by decide +kernel⟩, List.mem_of_getElem? (i := 69) (by decide +kernel), List.mem_of_getElem? (i := 636) (by decide +kernel), List.mem_of_getElem? (i := 637) (by decide +kernel)⟩
theorem lw_p19 : lw_okq (⟨"LittleMix$Operands", "withLast", "(IIJJ)Z"⟩, 6) := ⟨⟨by decide +kernel, by decide +kernel⟩, List.mem_of_getElem? (i := 75) (by decide +kernel), List.mem_of_getElem? (i := 647) (by decide +kernel), List.mem_of_getElem? (i := 648) (by decide +kernel)⟩
theorem lw_p20 : lw_okq (⟨"LittleMix$Operands", "make", "(IJJ)Z"⟩, 6) := ⟨⟨by decide +kernel, by decide +kernel⟩, List.mem_of_getElem? (i := 75) (by decide +kernel), List.mem_of_getElem? (i := 651) (by decide +kernel), List.mem_of_getElem? (i := 652) (by decide +kernel)⟩
theorem lw_p21 : lw_okq (⟨"LittleMix$Operands", "isNumber", "(II)Z"⟩, 6) := ⟨⟨by decide +kernel, by decide +kernel⟩, List.mem_of_getElem? (i := 75) (by decide +kernel), List.mem_of_getElem? (i := 655) (by decide +kernel), List.mem_of_getElem? (i := 656) (by decide +kernel)⟩
theorem lw_p22 : lw_okq (⟨"LittleMix$Operands", "encodeNegation", "(I)Z"⟩, 6) := ⟨⟨by decide +kernel, by decide +kernel⟩, List.mem_of_getElem? (i := 75) (by decide +kernel), List.mem_of_getElem? (i := 659) (by decide +kernel), List.mem_of_getElem? (i := 660) (by decide +kernel)⟩
theorem lw_p23 : lw_okq (⟨"LittleMix$Operands", "withPlace", "(IIJI)Z"⟩, 6) := ⟨⟨by decide +kernel, by decide +kernel⟩, List.mem_of_getElem? (i := 75) (by decide +kernel), List.mem_of_getElem? (i := 664) (by decide +kernel), List.mem_of_getElem? (i := 665) (by decide +kernel)⟩
theorem lw_p24 : lw_okq (⟨"LittleMix$Operands", "isSpecial", "(I)Z"⟩, 6) := ⟨⟨by decide +kernel, by decide +kernel⟩, List.mem_of_getElem? (i := 75) (by decide +kernel), List.mem_of_getElem? (i := 671) (by decide +kernel), List.mem_of_getElem? (i := 672) (by decide +kernel)⟩
theorem lw_p25 : lw_okq (⟨"LittleMix$Operands", "encodeBytes", "(I)Z"⟩, 6) := ⟨⟨by decide +kernel, by decide +kernel⟩, List.mem_of_getElem? (i := 75) (by decide +kernel), List.mem_of_getElem? (i := 678) (by decide +kernel), List.mem_of_getElem? (i := 679) (by decide +kernel)⟩
theorem lw_p26 : lw_okq (⟨"LittleMix$Registers", "clearFrom", "(II)V"⟩, 6) := ⟨⟨by decide +kernel, by decide +kernel⟩, List.mem_of_getElem? (i := 43) (by decide +kernel), List.mem_of_getElem? (i := 702) (by decide +kernel), List.mem_of_getElem? (i := 703) (by decide +kernel)⟩
theorem lw_p27 : lw_okq (⟨"LittleMix$Machine", "step", "()V"⟩, 16) := ⟨⟨by decide +kernel, by decide +kernel⟩, List.mem_of_getElem? (i := 322) (by decide +kernel), List.mem_of_getElem? (i := 746) (by decide +kernel), List.mem_of_getElem? (i := 747) (by decide +kernel)⟩
theorem lw_p28 : lw_okq (⟨"LittleMix$Machine", "decode", "()V"⟩, 16) := ⟨⟨by decide +kernel, by decide +kernel⟩, List.mem_of_getElem? (i := 322) (by decide +kernel), List.mem_of_getElem? (i := 751) (by decide +kernel), List.mem_of_getElem? (i := 752) (by decide +kernel)⟩
theorem lw_p29 : lw_okq (⟨"LittleMix$Machine", "execute", "()I"⟩, 16) := ⟨⟨by decide +kernel, by decide +kernel⟩, List.mem_of_getElem? (i := 322) (by decide +kernel), List.mem_of_getElem? (i := 765) (by decide +kernel), List.mem_of_getElem? (i := 766) (by decide +kernel)⟩
theorem lw_p30 : lw_okq (⟨"LittleMix$Machine", "access", "()I"⟩, 16) := ⟨⟨by decide +kernel, by decide +kernel⟩, List.mem_of_getElem? (i := 322) (by decide +kernel), List.mem_of_getElem? (i := 769) (by decide +kernel), List.mem_of_getElem? (i := 770) (by decide +kernel)⟩
theorem lw_p31 : lw_okq (⟨"LittleMix$Machine", "withSign", "(JI)J"⟩, 16) := ⟨⟨by decide +kernel, by decide +kernel⟩, List.mem_of_getElem? (i := 322) (by decide +kernel), List.mem_of_getElem? (i := 774) (by decide +kernel), List.mem_of_getElem? (i := 775) (by decide +kernel)⟩
def lw_privs_2 : List (MethodName × Nat) := [(⟨"LittleMix$Assembler", "locates", "()Z"⟩, 10), (⟨"LittleMix$Assembler", "goOn", "()V"⟩, 10), (⟨"LittleMix$Assembler", "emit", "()Z"⟩, 10), (⟨"LittleMix$Operands", "withLast", "(IIJJ)Z"⟩, 6), (⟨"LittleMix$Operands", "make", "(IJJ)Z"⟩, 6), (⟨"LittleMix$Operands", "isNumber", "(II)Z"⟩, 6), (⟨"LittleMix$Operands", "encodeNegation", "(I)Z"⟩, 6), (⟨"LittleMix$Operands", "withPlace", "(IIJI)Z"⟩, 6), (⟨"LittleMix$Operands", "isSpecial", "(I)Z"⟩, 6), (⟨"LittleMix$Operands", "encodeBytes", "(I)Z"⟩, 6), (⟨"LittleMix$Registers", "clearFrom", "(II)V"⟩, 6), (⟨"LittleMix$Machine", "step", "()V"⟩, 16), (⟨"LittleMix$Machine", "decode", "()V"⟩, 16), (⟨"LittleMix$Machine", "execute", "()I"⟩, 16), (⟨"LittleMix$Machine", "access", "()I"⟩, 16), (⟨"LittleMix$Machine", "withSign", "(JI)J"⟩, 16)]
theorem lw_r2 : ∀ q ∈ lw_privs_2, lw_okq q := List.forall_mem_cons.mpr ⟨lw_p16, List.forall_mem_cons.mpr ⟨lw_p17, List.forall_mem_cons.mpr ⟨lw_p18, List.forall_mem_cons.mpr ⟨lw_p19, List.forall_mem_cons.mpr ⟨lw_p20, List.forall_mem_cons.mpr ⟨lw_p21, List.forall_mem_cons.mpr ⟨lw_p22, List.forall_mem_cons.mpr ⟨lw_p23, List.forall_mem_cons.mpr ⟨lw_p24, List.forall_mem_cons.mpr ⟨lw_p25, List.forall_mem_cons.mpr ⟨lw_p26, List.forall_mem_cons.mpr ⟨lw_p27, List.forall_mem_cons.mpr ⟨lw_p28, List.forall_mem_cons.mpr ⟨lw_p29, List.forall_mem_cons.mpr ⟨lw_p30, List.forall_mem_cons.mpr ⟨lw_p31, fun _ h => absurd h List.not_mem_nil⟩⟩⟩⟩⟩⟩⟩⟩⟩⟩⟩⟩⟩⟩⟩⟩
theorem lw_p32 : lw_okq (⟨"LittleMix$Machine", "overflowIf", "(Z)V"⟩, 16) := ⟨⟨by decide +kernel, by decide +kernel⟩, List.mem_of_getElem? (i := 322) (by decide +kernel), List.mem_of_getElem? (i := 782) (by decide +kernel), List.mem_of_getElem? (i := 783) (by decide +kernel)⟩
theorem lw_p33 : lw_okq (⟨"LittleMix$Machine", "control", "()I"⟩, 16) := ⟨⟨by decide +kernel, by decide +kernel⟩, List.mem_of_getElem? (i := 322) (by decide +kernel), List.mem_of_getElem? (i := 787) (by decide +kernel), List.mem_of_getElem? (i := 788) (by decide +kernel)⟩
theorem lw_p34 : lw_okq (⟨"LittleMix$Machine", "placeFromHere", "(II)J"⟩, 16) := ⟨⟨by decide +kernel, by decide +kernel⟩, List.mem_of_getElem? (i := 322) (by decide +kernel), List.mem_of_getElem? (i := 793) (by decide +kernel), List.mem_of_getElem? (i := 794) (by decide +kernel)⟩
theorem lw_p35 : lw_okq (⟨"LittleMix$Machine", "pushAndJump", "()I"⟩, 16) := ⟨⟨by decide +kernel, by decide +kernel⟩, List.mem_of_getElem? (i := 322) (by decide +kernel), List.mem_of_getElem? (i := 797) (by decide +kernel), List.mem_of_getElem? (i := 798) (by decide +kernel)⟩
theorem lw_p36 : lw_okq (⟨"LittleMix$Machine", "target", "()J"⟩, 16) := ⟨⟨by decide +kernel, by decide +kernel⟩, List.mem_of_getElem? (i := 322) (by decide +kernel), List.mem_of_getElem? (i := 811) (by decide +kernel), List.mem_of_getElem? (i := 812) (by decide +kernel)⟩
theorem lw_p37 : lw_okq (⟨"LittleMix$Machine", "putSpecial", "()I"⟩, 16) := ⟨⟨by decide +kernel, by decide +kernel⟩, List.mem_of_getElem? (i := 322) (by decide +kernel), List.mem_of_getElem? (i := 817) (by decide +kernel), List.mem_of_getElem? (i := 818) (by decide +kernel)⟩
theorem lw_p38 : lw_okq (⟨"LittleMix$Machine", "popAndReturn", "()I"⟩, 16) := ⟨⟨by decide +kernel, by decide +kernel⟩, List.mem_of_getElem? (i := 322) (by decide +kernel), List.mem_of_getElem? (i := 830) (by decide +kernel), List.mem_of_getElem? (i := 831) (by decide +kernel)⟩
theorem lw_p39 : lw_okq (⟨"LittleMix$Machine", "getSpecial", "()I"⟩, 16) := ⟨⟨by decide +kernel, by decide +kernel⟩, List.mem_of_getElem? (i := 322) (by decide +kernel), List.mem_of_getElem? (i := 843) (by decide +kernel), List.mem_of_getElem? (i := 844) (by decide +kernel)⟩
theorem lw_p40 : lw_okq (⟨"LittleMix$Machine", "trip", "(I)V"⟩, 16) := ⟨⟨by decide +kernel, by decide +kernel⟩, List.mem_of_getElem? (i := 322) (by decide +kernel), List.mem_of_getElem? (i := 847) (by decide +kernel), List.mem_of_getElem? (i := 848) (by decide +kernel)⟩
theorem lw_p41 : lw_okq (⟨"LittleMix$Machine", "multiplied", "()J"⟩, 16) := ⟨⟨by decide +kernel, by decide +kernel⟩, List.mem_of_getElem? (i := 322) (by decide +kernel), List.mem_of_getElem? (i := 853) (by decide +kernel), List.mem_of_getElem? (i := 854) (by decide +kernel)⟩
theorem lw_p42 : lw_okq (⟨"LittleMix$Machine", "divided", "()J"⟩, 16) := ⟨⟨by decide +kernel, by decide +kernel⟩, List.mem_of_getElem? (i := 322) (by decide +kernel), List.mem_of_getElem? (i := 865) (by decide +kernel), List.mem_of_getElem? (i := 866) (by decide +kernel)⟩
theorem lw_p43 : lw_okq (⟨"LittleMix$Machine", "dividedWithoutSigns", "()J"⟩, 16) := ⟨⟨by decide +kernel, by decide +kernel⟩, List.mem_of_getElem? (i := 322) (by decide +kernel), List.mem_of_getElem? (i := 876) (by decide +kernel), List.mem_of_getElem? (i := 877) (by decide +kernel)⟩
theorem lw_p44 : lw_okq (⟨"LittleMix$Machine", "added", "()J"⟩, 16) := ⟨⟨by decide +kernel, by decide +kernel⟩, List.mem_of_getElem? (i := 322) (by decide +kernel), List.mem_of_getElem? (i := 888) (by decide +kernel), List.mem_of_getElem? (i := 889) (by decide +kernel)⟩
theorem lw_p45 : lw_okq (⟨"LittleMix$Machine", "subtracted", "()J"⟩, 16) := ⟨⟨by decide +kernel, by decide +kernel⟩, List.mem_of_getElem? (i := 322) (by decide +kernel), List.mem_of_getElem? (i := 892) (by decide +kernel), List.mem_of_getElem? (i := 893) (by decide +kernel)⟩
theorem lw_p46 : lw_okq (⟨"LittleMix$Machine", "shifted", "()J"⟩, 16) := ⟨⟨by decide +kernel, by decide +kernel⟩, List.mem_of_getElem? (i := 322) (by decide +kernel), List.mem_of_getElem? (i := 899) (by decide +kernel), List.mem_of_getElem? (i := 900) (by decide +kernel)⟩
theorem lw_p47 : lw_okq (⟨"LittleMix$Machine", "branch", "()V"⟩, 16) := ⟨⟨by decide +kernel, by decide +kernel⟩, List.mem_of_getElem? (i := 322) (by decide +kernel), List.mem_of_getElem? (i := 904) (by decide +kernel), List.mem_of_getElem? (i := 905) (by decide +kernel)⟩
def lw_privs_3 : List (MethodName × Nat) := [(⟨"LittleMix$Machine", "overflowIf", "(Z)V"⟩, 16), (⟨"LittleMix$Machine", "control", "()I"⟩, 16), (⟨"LittleMix$Machine", "placeFromHere", "(II)J"⟩, 16), (⟨"LittleMix$Machine", "pushAndJump", "()I"⟩, 16), (⟨"LittleMix$Machine", "target", "()J"⟩, 16), (⟨"LittleMix$Machine", "putSpecial", "()I"⟩, 16), (⟨"LittleMix$Machine", "popAndReturn", "()I"⟩, 16), (⟨"LittleMix$Machine", "getSpecial", "()I"⟩, 16), (⟨"LittleMix$Machine", "trip", "(I)V"⟩, 16), (⟨"LittleMix$Machine", "multiplied", "()J"⟩, 16), (⟨"LittleMix$Machine", "divided", "()J"⟩, 16), (⟨"LittleMix$Machine", "dividedWithoutSigns", "()J"⟩, 16), (⟨"LittleMix$Machine", "added", "()J"⟩, 16), (⟨"LittleMix$Machine", "subtracted", "()J"⟩, 16), (⟨"LittleMix$Machine", "shifted", "()J"⟩, 16), (⟨"LittleMix$Machine", "branch", "()V"⟩, 16)]
theorem lw_r3 : ∀ q ∈ lw_privs_3, lw_okq q := List.forall_mem_cons.mpr ⟨lw_p32, List.forall_mem_cons.mpr ⟨lw_p33, List.forall_mem_cons.mpr ⟨lw_p34, List.forall_mem_cons.mpr ⟨lw_p35, List.forall_mem_cons.mpr ⟨lw_p36, List.forall_mem_cons.mpr ⟨lw_p37, List.forall_mem_cons.mpr ⟨lw_p38, List.forall_mem_cons.mpr ⟨lw_p39, List.forall_mem_cons.mpr ⟨lw_p40, List.forall_mem_cons.mpr ⟨lw_p41, List.forall_mem_cons.mpr ⟨lw_p42, List.forall_mem_cons.mpr ⟨lw_p43, List.forall_mem_cons.mpr ⟨lw_p44, List.forall_mem_cons.mpr ⟨lw_p45, List.forall_mem_cons.mpr ⟨lw_p46, List.forall_mem_cons.mpr ⟨lw_p47, fun _ h => absurd h List.not_mem_nil⟩⟩⟩⟩⟩⟩⟩⟩⟩⟩⟩⟩⟩⟩⟩⟩
theorem lw_p48 : lw_okq (⟨"LittleMix$Machine", "choose", "()V"⟩, 16) := ⟨⟨by decide +kernel, by decide +kernel⟩, List.mem_of_getElem? (i := 322) (by decide +kernel), List.mem_of_getElem? (i := 911) (by decide +kernel), List.mem_of_getElem? (i := 912) (by decide +kernel)⟩
theorem lw_p49 : lw_okq (⟨"LittleMix$Machine", "combined", "()J"⟩, 16) := ⟨⟨by decide +kernel, by decide +kernel⟩, List.mem_of_getElem? (i := 322) (by decide +kernel), List.mem_of_getElem? (i := 915) (by decide +kernel), List.mem_of_getElem? (i := 916) (by decide +kernel)⟩
theorem lw_p50 : lw_okq (⟨"LittleMix$Machine", "scattered", "()J"⟩, 16) := ⟨⟨by decide +kernel, by decide +kernel⟩, List.mem_of_getElem? (i := 322) (by decide +kernel), List.mem_of_getElem? (i := 919) (by decide +kernel), List.mem_of_getElem? (i := 920) (by decide +kernel)⟩
theorem lw_p51 : lw_okq (⟨"LittleMix$Machine", "widened", "()J"⟩, 16) := ⟨⟨by decide +kernel, by decide +kernel⟩, List.mem_of_getElem? (i := 322) (by decide +kernel), List.mem_of_getElem? (i := 937) (by decide +kernel), List.mem_of_getElem? (i := 938) (by decide +kernel)⟩
theorem lw_p52 : lw_okq (⟨"LittleMix$Machine", "happen", "()V"⟩, 16) := ⟨⟨by decide +kernel, by decide +kernel⟩, List.mem_of_getElem? (i := 322) (by decide +kernel), List.mem_of_getElem? (i := 942) (by decide +kernel), List.mem_of_getElem? (i := 943) (by decide +kernel)⟩
theorem lw_p53 : lw_okq (⟨"LittleMixModel", "setBack", "()V"⟩, 44) := ⟨⟨by decide +kernel, by decide +kernel⟩, List.mem_of_getElem? (i := 968) (by decide +kernel), List.mem_of_getElem? (i := 974) (by decide +kernel), List.mem_of_getElem? (i := 975) (by decide +kernel)⟩
theorem lw_p54 : lw_okq (⟨"LittleMixModel", "first", "()I"⟩, 44) := ⟨⟨by decide +kernel, by decide +kernel⟩, List.mem_of_getElem? (i := 968) (by decide +kernel), List.mem_of_getElem? (i := 1120) (by decide +kernel), List.mem_of_getElem? (i := 1121) (by decide +kernel)⟩
theorem lw_p55 : lw_okq (⟨"LittleMixModel", "line", "(I)I"⟩, 44) := ⟨⟨by decide +kernel, by decide +kernel⟩, List.mem_of_getElem? (i := 968) (by decide +kernel), List.mem_of_getElem? (i := 1124) (by decide +kernel), List.mem_of_getElem? (i := 1125) (by decide +kernel)⟩
theorem lw_p56 : lw_okq (⟨"LittleMixModel", "at", "(I)I"⟩, 44) := ⟨⟨by decide +kernel, by decide +kernel⟩, List.mem_of_getElem? (i := 968) (by decide +kernel), List.mem_of_getElem? (i := 1128) (by decide +kernel), List.mem_of_getElem? (i := 1129) (by decide +kernel)⟩
theorem lw_p57 : lw_okq (⟨"LittleMixModel", "word", "(I)I"⟩, 44) := ⟨⟨by decide +kernel, by decide +kernel⟩, List.mem_of_getElem? (i := 968) (by decide +kernel), List.mem_of_getElem? (i := 1135) (by decide +kernel), List.mem_of_getElem? (i := 1136) (by decide +kernel)⟩
theorem lw_p58 : lw_okq (⟨"LittleMixModel", "blanks", "(I)I"⟩, 44) := ⟨⟨by decide +kernel, by decide +kernel⟩, List.mem_of_getElem? (i := 968) (by decide +kernel), List.mem_of_getElem? (i := 1142) (by decide +kernel), List.mem_of_getElem? (i := 1143) (by decide +kernel)⟩
theorem lw_p59 : lw_okq (⟨"LittleMixModel", "operation", "(II)Z"⟩, 44) := ⟨⟨by decide +kernel, by decide +kernel⟩, List.mem_of_getElem? (i := 968) (by decide +kernel), List.mem_of_getElem? (i := 1146) (by decide +kernel), List.mem_of_getElem? (i := 1147) (by decide +kernel)⟩
theorem lw_p60 : lw_okq (⟨"LittleMixModel", "among", "(IILjava/lang/String;)I"⟩, 44) := ⟨⟨by decide +kernel, by decide +kernel⟩, List.mem_of_getElem? (i := 968) (by decide +kernel), List.mem_of_getElem? (i := 1151) (by decide +kernel), List.mem_of_getElem? (i := 1152) (by decide +kernel)⟩
theorem lw_p61 : lw_okq (⟨"LittleMixModel", "withCondition", "(II)Z"⟩, 44) := ⟨⟨by decide +kernel, by decide +kernel⟩, List.mem_of_getElem? (i := 968) (by decide +kernel), List.mem_of_getElem? (i := 1164) (by decide +kernel), List.mem_of_getElem? (i := 1165) (by decide +kernel)⟩
theorem lw_p62 : lw_okq (⟨"LittleMixModel", "is", "(IILjava/lang/String;)Z"⟩, 44) := ⟨⟨by decide +kernel, by decide +kernel⟩, List.mem_of_getElem? (i := 968) (by decide +kernel), List.mem_of_getElem? (i := 1169) (by decide +kernel), List.mem_of_getElem? (i := 1170) (by decide +kernel)⟩
theorem lw_p63 : lw_okq (⟨"LittleMixModel", "count", "()I"⟩, 44) := ⟨⟨by decide +kernel, by decide +kernel⟩, List.mem_of_getElem? (i := 968) (by decide +kernel), List.mem_of_getElem? (i := 1175) (by decide +kernel), List.mem_of_getElem? (i := 1176) (by decide +kernel)⟩
def lw_privs_4 : List (MethodName × Nat) := [(⟨"LittleMix$Machine", "choose", "()V"⟩, 16), (⟨"LittleMix$Machine", "combined", "()J"⟩, 16), (⟨"LittleMix$Machine", "scattered", "()J"⟩, 16), (⟨"LittleMix$Machine", "widened", "()J"⟩, 16), (⟨"LittleMix$Machine", "happen", "()V"⟩, 16), (⟨"LittleMixModel", "setBack", "()V"⟩, 44), (⟨"LittleMixModel", "first", "()I"⟩, 44), (⟨"LittleMixModel", "line", "(I)I"⟩, 44), (⟨"LittleMixModel", "at", "(I)I"⟩, 44), (⟨"LittleMixModel", "word", "(I)I"⟩, 44), (⟨"LittleMixModel", "blanks", "(I)I"⟩, 44), (⟨"LittleMixModel", "operation", "(II)Z"⟩, 44), (⟨"LittleMixModel", "among", "(IILjava/lang/String;)I"⟩, 44), (⟨"LittleMixModel", "withCondition", "(II)Z"⟩, 44), (⟨"LittleMixModel", "is", "(IILjava/lang/String;)Z"⟩, 44), (⟨"LittleMixModel", "count", "()I"⟩, 44)]
theorem lw_r4 : ∀ q ∈ lw_privs_4, lw_okq q := List.forall_mem_cons.mpr ⟨lw_p48, List.forall_mem_cons.mpr ⟨lw_p49, List.forall_mem_cons.mpr ⟨lw_p50, List.forall_mem_cons.mpr ⟨lw_p51, List.forall_mem_cons.mpr ⟨lw_p52, List.forall_mem_cons.mpr ⟨lw_p53, List.forall_mem_cons.mpr ⟨lw_p54, List.forall_mem_cons.mpr ⟨lw_p55, List.forall_mem_cons.mpr ⟨lw_p56, List.forall_mem_cons.mpr ⟨lw_p57, List.forall_mem_cons.mpr ⟨lw_p58, List.forall_mem_cons.mpr ⟨lw_p59, List.forall_mem_cons.mpr ⟨lw_p60, List.forall_mem_cons.mpr ⟨lw_p61, List.forall_mem_cons.mpr ⟨lw_p62, List.forall_mem_cons.mpr ⟨lw_p63, fun _ h => absurd h List.not_mem_nil⟩⟩⟩⟩⟩⟩⟩⟩⟩⟩⟩⟩⟩⟩⟩⟩
theorem lw_p64 : lw_okq (⟨"LittleMixModel", "expression", "(IJ)I"⟩, 44) := ⟨⟨by decide +kernel, by decide +kernel⟩, List.mem_of_getElem? (i := 968) (by decide +kernel), List.mem_of_getElem? (i := 1179) (by decide +kernel), List.mem_of_getElem? (i := 1180) (by decide +kernel)⟩
theorem lw_p65 : lw_okq (⟨"LittleMixModel", "term", "(IJ)I"⟩, 44) := ⟨⟨by decide +kernel, by decide +kernel⟩, List.mem_of_getElem? (i := 968) (by decide +kernel), List.mem_of_getElem? (i := 1183) (by decide +kernel), List.mem_of_getElem? (i := 1184) (by decide +kernel)⟩
theorem lw_p66 : lw_okq (⟨"LittleMixModel", "decimal", "(I)I"⟩, 44) := ⟨⟨by decide +kernel, by decide +kernel⟩, List.mem_of_getElem? (i := 968) (by decide +kernel), List.mem_of_getElem? (i := 1187) (by decide +kernel), List.mem_of_getElem? (i := 1188) (by decide +kernel)⟩
theorem lw_p67 : lw_okq (⟨"LittleMixModel", "labelNamed", "(II)I"⟩, 44) := ⟨⟨by decide +kernel, by decide +kernel⟩, List.mem_of_getElem? (i := 968) (by decide +kernel), List.mem_of_getElem? (i := 1197) (by decide +kernel), List.mem_of_getElem? (i := 1198) (by decide +kernel)⟩
theorem lw_p68 : lw_okq (⟨"LittleMixModel", "specialNamed", "(II)I"⟩, 44) := ⟨⟨by decide +kernel, by decide +kernel⟩, List.mem_of_getElem? (i := 968) (by decide +kernel), List.mem_of_getElem? (i := 1201) (by decide +kernel), List.mem_of_getElem? (i := 1202) (by decide +kernel)⟩
theorem lw_p69 : lw_okq (⟨"LittleMixModel", "operand", "(IJ)V"⟩, 44) := ⟨⟨by decide +kernel, by decide +kernel⟩, List.mem_of_getElem? (i := 968) (by decide +kernel), List.mem_of_getElem? (i := 1212) (by decide +kernel), List.mem_of_getElem? (i := 1213) (by decide +kernel)⟩
theorem lw_p70 : lw_okq (⟨"LittleMixModel", "after", "(I)I"⟩, 44) := ⟨⟨by decide +kernel, by decide +kernel⟩, List.mem_of_getElem? (i := 968) (by decide +kernel), List.mem_of_getElem? (i := 1217) (by decide +kernel), List.mem_of_getElem? (i := 1218) (by decide +kernel)⟩
theorem lw_p71 : lw_okq (⟨"LittleMixModel", "second", "()I"⟩, 44) := ⟨⟨by decide +kernel, by decide +kernel⟩, List.mem_of_getElem? (i := 968) (by decide +kernel), List.mem_of_getElem? (i := 1221) (by decide +kernel), List.mem_of_getElem? (i := 1222) (by decide +kernel)⟩
theorem lw_p72 : lw_okq (⟨"LittleMixModel", "put", "(IJI)V"⟩, 44) := ⟨⟨by decide +kernel, by decide +kernel⟩, List.mem_of_getElem? (i := 968) (by decide +kernel), List.mem_of_getElem? (i := 1225) (by decide +kernel), List.mem_of_getElem? (i := 1226) (by decide +kernel)⟩
theorem lw_p73 : lw_okq (⟨"LittleMixModel", "instruction", "(II)Z"⟩, 44) := ⟨⟨by decide +kernel, by decide +kernel⟩, List.mem_of_getElem? (i := 968) (by decide +kernel), List.mem_of_getElem? (i := 1229) (by decide +kernel), List.mem_of_getElem? (i := 1230) (by decide +kernel)⟩
theorem lw_p74 : lw_okq (⟨"LittleMixModel", "isRegister", "(II)Z"⟩, 44) := ⟨⟨by decide +kernel, by decide +kernel⟩, List.mem_of_getElem? (i := 968) (by decide +kernel), List.mem_of_getElem? (i := 1233) (by decide +kernel), List.mem_of_getElem? (i := 1234) (by decide +kernel)⟩
theorem lw_p75 : lw_okq (⟨"LittleMixModel", "isNumber", "(IIJ)Z"⟩, 44) := ⟨⟨by decide +kernel, by decide +kernel⟩, List.mem_of_getElem? (i := 968) (by decide +kernel), List.mem_of_getElem? (i := 1237) (by decide +kernel), List.mem_of_getElem? (i := 1238) (by decide +kernel)⟩
theorem lw_p76 : lw_okq (⟨"LittleMixModel", "isPlace", "(III)Z"⟩, 44) := ⟨⟨by decide +kernel, by decide +kernel⟩, List.mem_of_getElem? (i := 968) (by decide +kernel), List.mem_of_getElem? (i := 1241) (by decide +kernel), List.mem_of_getElem? (i := 1242) (by decide +kernel)⟩
theorem lw_p77 : lw_okq (⟨"LittleMixModel", "isEither", "(II)Z"⟩, 44) := ⟨⟨by decide +kernel, by decide +kernel⟩, List.mem_of_getElem? (i := 968) (by decide +kernel), List.mem_of_getElem? (i := 1260) (by decide +kernel), List.mem_of_getElem? (i := 1261) (by decide +kernel)⟩
theorem lw_p78 : lw_okq (⟨"LittleMixModel", "step", "()I"⟩, 44) := ⟨⟨by decide +kernel, by decide +kernel⟩, List.mem_of_getElem? (i := 968) (by decide +kernel), List.mem_of_getElem? (i := 1289) (by decide +kernel), List.mem_of_getElem? (i := 1290) (by decide +kernel)⟩
theorem lw_p79 : lw_okq (⟨"LittleMixModel", "isOp", "(I)Z"⟩, 44) := ⟨⟨by decide +kernel, by decide +kernel⟩, List.mem_of_getElem? (i := 968) (by decide +kernel), List.mem_of_getElem? (i := 1294) (by decide +kernel), List.mem_of_getElem? (i := 1295) (by decide +kernel)⟩
def lw_privs_5 : List (MethodName × Nat) := [(⟨"LittleMixModel", "expression", "(IJ)I"⟩, 44), (⟨"LittleMixModel", "term", "(IJ)I"⟩, 44), (⟨"LittleMixModel", "decimal", "(I)I"⟩, 44), (⟨"LittleMixModel", "labelNamed", "(II)I"⟩, 44), (⟨"LittleMixModel", "specialNamed", "(II)I"⟩, 44), (⟨"LittleMixModel", "operand", "(IJ)V"⟩, 44), (⟨"LittleMixModel", "after", "(I)I"⟩, 44), (⟨"LittleMixModel", "second", "()I"⟩, 44), (⟨"LittleMixModel", "put", "(IJI)V"⟩, 44), (⟨"LittleMixModel", "instruction", "(II)Z"⟩, 44), (⟨"LittleMixModel", "isRegister", "(II)Z"⟩, 44), (⟨"LittleMixModel", "isNumber", "(IIJ)Z"⟩, 44), (⟨"LittleMixModel", "isPlace", "(III)Z"⟩, 44), (⟨"LittleMixModel", "isEither", "(II)Z"⟩, 44), (⟨"LittleMixModel", "step", "()I"⟩, 44), (⟨"LittleMixModel", "isOp", "(I)Z"⟩, 44)]
theorem lw_r5 : ∀ q ∈ lw_privs_5, lw_okq q := List.forall_mem_cons.mpr ⟨lw_p64, List.forall_mem_cons.mpr ⟨lw_p65, List.forall_mem_cons.mpr ⟨lw_p66, List.forall_mem_cons.mpr ⟨lw_p67, List.forall_mem_cons.mpr ⟨lw_p68, List.forall_mem_cons.mpr ⟨lw_p69, List.forall_mem_cons.mpr ⟨lw_p70, List.forall_mem_cons.mpr ⟨lw_p71, List.forall_mem_cons.mpr ⟨lw_p72, List.forall_mem_cons.mpr ⟨lw_p73, List.forall_mem_cons.mpr ⟨lw_p74, List.forall_mem_cons.mpr ⟨lw_p75, List.forall_mem_cons.mpr ⟨lw_p76, List.forall_mem_cons.mpr ⟨lw_p77, List.forall_mem_cons.mpr ⟨lw_p78, List.forall_mem_cons.mpr ⟨lw_p79, fun _ h => absurd h List.not_mem_nil⟩⟩⟩⟩⟩⟩⟩⟩⟩⟩⟩⟩⟩⟩⟩⟩
theorem lw_p80 : lw_okq (⟨"LittleMixModel", "get", "(I)J"⟩, 44) := ⟨⟨by decide +kernel, by decide +kernel⟩, List.mem_of_getElem? (i := 968) (by decide +kernel), List.mem_of_getElem? (i := 1298) (by decide +kernel), List.mem_of_getElem? (i := 1299) (by decide +kernel)⟩
theorem lw_p81 : lw_okq (⟨"LittleMixModel", "memoryStep", "(IIJJ)I"⟩, 44) := ⟨⟨by decide +kernel, by decide +kernel⟩, List.mem_of_getElem? (i := 968) (by decide +kernel), List.mem_of_getElem? (i := 1302) (by decide +kernel), List.mem_of_getElem? (i := 1303) (by decide +kernel)⟩
theorem lw_p82 : lw_okq (⟨"LittleMixModel", "set", "(IJ)V"⟩, 44) := ⟨⟨by decide +kernel, by decide +kernel⟩, List.mem_of_getElem? (i := 968) (by decide +kernel), List.mem_of_getElem? (i := 1306) (by decide +kernel), List.mem_of_getElem? (i := 1307) (by decide +kernel)⟩
theorem lw_p83 : lw_okq (⟨"LittleMixModel", "events", "(IJJ)V"⟩, 44) := ⟨⟨by decide +kernel, by decide +kernel⟩, List.mem_of_getElem? (i := 968) (by decide +kernel), List.mem_of_getElem? (i := 1310) (by decide +kernel), List.mem_of_getElem? (i := 1311) (by decide +kernel)⟩
theorem lw_p84 : lw_okq (⟨"LittleMixModel", "sum", "(JJZ)J"⟩, 44) := ⟨⟨by decide +kernel, by decide +kernel⟩, List.mem_of_getElem? (i := 968) (by decide +kernel), List.mem_of_getElem? (i := 1314) (by decide +kernel), List.mem_of_getElem? (i := 1315) (by decide +kernel)⟩
theorem lw_p85 : lw_okq (⟨"LittleMixModel", "reckon", "(IJJ)J"⟩, 44) := ⟨⟨by decide +kernel, by decide +kernel⟩, List.mem_of_getElem? (i := 968) (by decide +kernel), List.mem_of_getElem? (i := 1318) (by decide +kernel), List.mem_of_getElem? (i := 1319) (by decide +kernel)⟩
theorem lw_p86 : lw_okq (⟨"LittleMixModel", "product", "(JJ)J"⟩, 44) := ⟨⟨by decide +kernel, by decide +kernel⟩, List.mem_of_getElem? (i := 968) (by decide +kernel), List.mem_of_getElem? (i := 1322) (by decide +kernel), List.mem_of_getElem? (i := 1323) (by decide +kernel)⟩
theorem lw_p87 : lw_okq (⟨"LittleMixModel", "multiply", "(JJ)J"⟩, 44) := ⟨⟨by decide +kernel, by decide +kernel⟩, List.mem_of_getElem? (i := 968) (by decide +kernel), List.mem_of_getElem? (i := 1326) (by decide +kernel), List.mem_of_getElem? (i := 1327) (by decide +kernel)⟩
theorem lw_p88 : lw_okq (⟨"LittleMixModel", "quotient", "(JJ)J"⟩, 44) := ⟨⟨by decide +kernel, by decide +kernel⟩, List.mem_of_getElem? (i := 968) (by decide +kernel), List.mem_of_getElem? (i := 1338) (by decide +kernel), List.mem_of_getElem? (i := 1339) (by decide +kernel)⟩
theorem lw_p89 : lw_okq (⟨"LittleMixModel", "divide", "(JJJ)J"⟩, 44) := ⟨⟨by decide +kernel, by decide +kernel⟩, List.mem_of_getElem? (i := 968) (by decide +kernel), List.mem_of_getElem? (i := 1343) (by decide +kernel), List.mem_of_getElem? (i := 1344) (by decide +kernel)⟩
theorem lw_p90 : lw_okq (⟨"LittleMixModel", "unsignedQuotient", "(JJ)J"⟩, 44) := ⟨⟨by decide +kernel, by decide +kernel⟩, List.mem_of_getElem? (i := 968) (by decide +kernel), List.mem_of_getElem? (i := 1347) (by decide +kernel), List.mem_of_getElem? (i := 1348) (by decide +kernel)⟩
theorem lw_p91 : lw_okq (⟨"LittleMixModel", "left", "(JJZ)J"⟩, 44) := ⟨⟨by decide +kernel, by decide +kernel⟩, List.mem_of_getElem? (i := 968) (by decide +kernel), List.mem_of_getElem? (i := 1351) (by decide +kernel), List.mem_of_getElem? (i := 1352) (by decide +kernel)⟩
theorem lw_p92 : lw_okq (⟨"LittleMixModel", "logic", "(IJJ)J"⟩, 44) := ⟨⟨by decide +kernel, by decide +kernel⟩, List.mem_of_getElem? (i := 968) (by decide +kernel), List.mem_of_getElem? (i := 1359) (by decide +kernel), List.mem_of_getElem? (i := 1360) (by decide +kernel)⟩
theorem lw_p93 : lw_okq (⟨"LittleMixModel", "away", "(III)J"⟩, 44) := ⟨⟨by decide +kernel, by decide +kernel⟩, List.mem_of_getElem? (i := 968) (by decide +kernel), List.mem_of_getElem? (i := 1372) (by decide +kernel), List.mem_of_getElem? (i := 1373) (by decide +kernel)⟩
theorem lw_p94 : lw_okq (⟨"LittleMixModel", "wide", "(IIJ)V"⟩, 44) := ⟨⟨by decide +kernel, by decide +kernel⟩, List.mem_of_getElem? (i := 968) (by decide +kernel), List.mem_of_getElem? (i := 1376) (by decide +kernel), List.mem_of_getElem? (i := 1377) (by decide +kernel)⟩
theorem lw_p95 : lw_okq (⟨"LittleMixModel", "push", "(I)Z"⟩, 44) := ⟨⟨by decide +kernel, by decide +kernel⟩, List.mem_of_getElem? (i := 968) (by decide +kernel), List.mem_of_getElem? (i := 1381) (by decide +kernel), List.mem_of_getElem? (i := 1382) (by decide +kernel)⟩
def lw_privs_6 : List (MethodName × Nat) := [(⟨"LittleMixModel", "get", "(I)J"⟩, 44), (⟨"LittleMixModel", "memoryStep", "(IIJJ)I"⟩, 44), (⟨"LittleMixModel", "set", "(IJ)V"⟩, 44), (⟨"LittleMixModel", "events", "(IJJ)V"⟩, 44), (⟨"LittleMixModel", "sum", "(JJZ)J"⟩, 44), (⟨"LittleMixModel", "reckon", "(IJJ)J"⟩, 44), (⟨"LittleMixModel", "product", "(JJ)J"⟩, 44), (⟨"LittleMixModel", "multiply", "(JJ)J"⟩, 44), (⟨"LittleMixModel", "quotient", "(JJ)J"⟩, 44), (⟨"LittleMixModel", "divide", "(JJJ)J"⟩, 44), (⟨"LittleMixModel", "unsignedQuotient", "(JJ)J"⟩, 44), (⟨"LittleMixModel", "left", "(JJZ)J"⟩, 44), (⟨"LittleMixModel", "logic", "(IJJ)J"⟩, 44), (⟨"LittleMixModel", "away", "(III)J"⟩, 44), (⟨"LittleMixModel", "wide", "(IIJ)V"⟩, 44), (⟨"LittleMixModel", "push", "(I)Z"⟩, 44)]
theorem lw_r6 : ∀ q ∈ lw_privs_6, lw_okq q := List.forall_mem_cons.mpr ⟨lw_p80, List.forall_mem_cons.mpr ⟨lw_p81, List.forall_mem_cons.mpr ⟨lw_p82, List.forall_mem_cons.mpr ⟨lw_p83, List.forall_mem_cons.mpr ⟨lw_p84, List.forall_mem_cons.mpr ⟨lw_p85, List.forall_mem_cons.mpr ⟨lw_p86, List.forall_mem_cons.mpr ⟨lw_p87, List.forall_mem_cons.mpr ⟨lw_p88, List.forall_mem_cons.mpr ⟨lw_p89, List.forall_mem_cons.mpr ⟨lw_p90, List.forall_mem_cons.mpr ⟨lw_p91, List.forall_mem_cons.mpr ⟨lw_p92, List.forall_mem_cons.mpr ⟨lw_p93, List.forall_mem_cons.mpr ⟨lw_p94, List.forall_mem_cons.mpr ⟨lw_p95, fun _ h => absurd h List.not_mem_nil⟩⟩⟩⟩⟩⟩⟩⟩⟩⟩⟩⟩⟩⟩⟩⟩
theorem lw_p96 : lw_okq (⟨"LittleMixModel", "putSpecial", "(IJ)V"⟩, 44) := ⟨⟨by decide +kernel, by decide +kernel⟩, List.mem_of_getElem? (i := 968) (by decide +kernel), List.mem_of_getElem? (i := 1385) (by decide +kernel), List.mem_of_getElem? (i := 1386) (by decide +kernel)⟩
theorem lw_p97 : lw_okq (⟨"LittleMixModel", "pop", "(I)V"⟩, 44) := ⟨⟨by decide +kernel, by decide +kernel⟩, List.mem_of_getElem? (i := 968) (by decide +kernel), List.mem_of_getElem? (i := 1391) (by decide +kernel), List.mem_of_getElem? (i := 1392) (by decide +kernel)⟩
theorem lw_p98 : lw_okq (⟨"LittleMixModel", "getSpecial", "(I)J"⟩, 44) := ⟨⟨by decide +kernel, by decide +kernel⟩, List.mem_of_getElem? (i := 968) (by decide +kernel), List.mem_of_getElem? (i := 1395) (by decide +kernel), List.mem_of_getElem? (i := 1396) (by decide +kernel)⟩
theorem lw_p99 : lw_okq (⟨"LittleMixModel", "trip", "(JJJJ)J"⟩, 44) := ⟨⟨by decide +kernel, by decide +kernel⟩, List.mem_of_getElem? (i := 968) (by decide +kernel), List.mem_of_getElem? (i := 1399) (by decide +kernel), List.mem_of_getElem? (i := 1400) (by decide +kernel)⟩
def lw_privs_7 : List (MethodName × Nat) := [(⟨"LittleMixModel", "putSpecial", "(IJ)V"⟩, 44), (⟨"LittleMixModel", "pop", "(I)V"⟩, 44), (⟨"LittleMixModel", "getSpecial", "(I)J"⟩, 44), (⟨"LittleMixModel", "trip", "(JJJJ)J"⟩, 44)]
theorem lw_r7 : ∀ q ∈ lw_privs_7, lw_okq q := List.forall_mem_cons.mpr ⟨lw_p96, List.forall_mem_cons.mpr ⟨lw_p97, List.forall_mem_cons.mpr ⟨lw_p98, List.forall_mem_cons.mpr ⟨lw_p99, fun _ h => absurd h List.not_mem_nil⟩⟩⟩⟩
def lw_privs : List (MethodName × Nat) := lw_privs_1 ++ (lw_privs_2 ++ (lw_privs_3 ++ (lw_privs_4 ++ (lw_privs_5 ++ (lw_privs_6 ++ (lw_privs_7))))))
def lw_tbl : List Cond := k2_sels lw_privs ++ tables_1
theorem lw_privs_ok : ∀ q ∈ lw_privs, lw_okq q := by
  show ∀ q ∈ lw_privs_1 ++ (lw_privs_2 ++ (lw_privs_3 ++ (lw_privs_4 ++ (lw_privs_5 ++ (lw_privs_6 ++ (lw_privs_7)))))), lw_okq q
  exact List.forall_mem_append.mpr ⟨lw_r1, List.forall_mem_append.mpr ⟨lw_r2, List.forall_mem_append.mpr ⟨lw_r3, List.forall_mem_append.mpr ⟨lw_r4, List.forall_mem_append.mpr ⟨lw_r5, List.forall_mem_append.mpr ⟨lw_r6, lw_r7⟩⟩⟩⟩⟩⟩
end
section
def R_Mix : String := "LittleMix"
def T_Mix : u_T := fun k => match k with
  | 0 => ("LittleMix", "length", "I", false)
  | 1 => ("LittleMix", "tape", "[C", true)
  | 2 => ("LittleMix", "memory", "LLittleMix$Memory;", true)
  | 3 => ("LittleMix", "registers", "LLittleMix$Registers;", true)
  | 4 => ("LittleMix", "assembler", "LLittleMix$Assembler;", true)
  | _ => ("LittleMix", "machine", "LLittleMix$Machine;", true)
def t_Mix : Nat → FieldType := fun k => match k with
  | 0 => .int
  | 1 => .array (.char)
  | 2 => .object "LittleMix$Memory"
  | 3 => .object "LittleMix$Registers"
  | 4 => .object "LittleMix$Assembler"
  | _ => .object "LittleMix$Machine"
abbrev f0_Mix : List Value := [.int 0, .null, .null, .null, .null, .null]
theorem n_Mix : ∀ a, a < 6 → ∀ b, b < 6 → a ≠ b → (T_Mix a).2.1 ≠ (T_Mix b).2.1 := by decide +kernel
theorem t_Mix_ok : ∀ k, k < 6 → parseFieldDescriptor (T_Mix k).2.2.1 = some (t_Mix k) := by decide +kernel
theorem f0_Mix_ok : ∀ j, j < 6 → defaultValue (t_Mix j) = vp_V f0_Mix j := by decide +kernel
def R_Mem : String := "LittleMix$Memory"
def T_Mem : u_T := fun k => match k with
  | _ => ("LittleMix$Memory", "octas", "[J", true)
def t_Mem : Nat → FieldType := fun k => match k with
  | _ => .array (.long)
abbrev f0_Mem : List Value := [.null]
theorem n_Mem : ∀ a, a < 1 → ∀ b, b < 1 → a ≠ b → (T_Mem a).2.1 ≠ (T_Mem b).2.1 := by decide +kernel
theorem t_Mem_ok : ∀ k, k < 1 → parseFieldDescriptor (T_Mem k).2.2.1 = some (t_Mem k) := by decide +kernel
theorem f0_Mem_ok : ∀ j, j < 1 → defaultValue (t_Mem j) = vp_V f0_Mem j := by decide +kernel
def R_Reg : String := "LittleMix$Registers"
def T_Reg : u_T := fun k => match k with
  | 0 => ("LittleMix$Registers", "depth", "I", false)
  | 1 => ("LittleMix$Registers", "local", "I", false)
  | 2 => ("LittleMix$Registers", "global", "I", false)
  | 3 => ("LittleMix$Registers", "general", "[J", true)
  | 4 => ("LittleMix$Registers", "specials", "[J", true)
  | _ => ("LittleMix$Registers", "stack", "[J", true)
def t_Reg : Nat → FieldType := fun k => match k with
  | 0 => .int
  | 1 => .int
  | 2 => .int
  | 3 => .array (.long)
  | 4 => .array (.long)
  | _ => .array (.long)
abbrev f0_Reg : List Value := [.int 0, .int 0, .int 0, .null, .null, .null]
theorem n_Reg : ∀ a, a < 6 → ∀ b, b < 6 → a ≠ b → (T_Reg a).2.1 ≠ (T_Reg b).2.1 := by decide +kernel
theorem t_Reg_ok : ∀ k, k < 6 → parseFieldDescriptor (T_Reg k).2.2.1 = some (t_Reg k) := by decide +kernel
theorem f0_Reg_ok : ∀ j, j < 6 → defaultValue (t_Reg j) = vp_V f0_Reg j := by decide +kernel
def R_Opn : String := "LittleMix$Operations"
def T_Opn : u_T := fun k => match k with
  | _ => ("LittleMix$Operations", "names", "[J", true)
def t_Opn : Nat → FieldType := fun k => match k with
  | _ => .array (.long)
abbrev f0_Opn : List Value := [.null]
theorem n_Opn : ∀ a, a < 1 → ∀ b, b < 1 → a ≠ b → (T_Opn a).2.1 ≠ (T_Opn b).2.1 := by decide +kernel
theorem t_Opn_ok : ∀ k, k < 1 → parseFieldDescriptor (T_Opn k).2.2.1 = some (t_Opn k) := by decide +kernel
theorem f0_Opn_ok : ∀ j, j < 1 → defaultValue (t_Opn j) = vp_V f0_Opn j := by decide +kernel
def R_Lin : String := "LittleMix$Line"
def T_Lin : u_T := fun k => match k with
  | 0 => ("LittleMix$Line", "labelAt", "I", false)
  | 1 => ("LittleMix$Line", "labelSize", "I", false)
  | 2 => ("LittleMix$Line", "operation", "I", false)
  | 3 => ("LittleMix$Line", "operandsAt", "I", false)
  | 4 => ("LittleMix$Line", "end", "I", false)
  | 5 => ("LittleMix$Line", "text", "[C", true)
  | _ => ("LittleMix$Line", "operations", "LLittleMix$Operations;", true)
def t_Lin : Nat → FieldType := fun k => match k with
  | 0 => .int
  | 1 => .int
  | 2 => .int
  | 3 => .int
  | 4 => .int
  | 5 => .array (.char)
  | _ => .object "LittleMix$Operations"
abbrev f0_Lin : List Value := [.int 0, .int 0, .int 0, .int 0, .int 0, .null, .null]
theorem n_Lin : ∀ a, a < 7 → ∀ b, b < 7 → a ≠ b → (T_Lin a).2.1 ≠ (T_Lin b).2.1 := by decide +kernel
theorem t_Lin_ok : ∀ k, k < 7 → parseFieldDescriptor (T_Lin k).2.2.1 = some (t_Lin k) := by decide +kernel
theorem f0_Lin_ok : ∀ j, j < 7 → defaultValue (t_Lin j) = vp_V f0_Lin j := by decide +kernel
def R_Lab : String := "LittleMix$Labels"
def T_Lab : u_T := fun k => match k with
  | 0 => ("LittleMix$Labels", "count", "I", false)
  | 1 => ("LittleMix$Labels", "text", "[C", true)
  | 2 => ("LittleMix$Labels", "starts", "[I", true)
  | 3 => ("LittleMix$Labels", "sizes", "[I", true)
  | 4 => ("LittleMix$Labels", "values", "[J", true)
  | _ => ("LittleMix$Labels", "registers", "[Z", true)
def t_Lab : Nat → FieldType := fun k => match k with
  | 0 => .int
  | 1 => .array (.char)
  | 2 => .array (.int)
  | 3 => .array (.int)
  | 4 => .array (.long)
  | _ => .array (.boolean)
abbrev f0_Lab : List Value := [.int 0, .null, .null, .null, .null, .null]
theorem n_Lab : ∀ a, a < 6 → ∀ b, b < 6 → a ≠ b → (T_Lab a).2.1 ≠ (T_Lab b).2.1 := by decide +kernel
theorem t_Lab_ok : ∀ k, k < 6 → parseFieldDescriptor (T_Lab k).2.2.1 = some (t_Lab k) := by decide +kernel
theorem f0_Lab_ok : ∀ j, j < 6 → defaultValue (t_Lab j) = vp_V f0_Lab j := by decide +kernel
def R_Sum : String := "LittleMix$Sum"
def T_Sum : u_T := fun k => match k with
  | 0 => ("LittleMix$Sum", "at", "I", false)
  | 1 => ("LittleMix$Sum", "end", "I", false)
  | 2 => ("LittleMix$Sum", "here", "J", false)
  | 3 => ("LittleMix$Sum", "readable", "Z", false)
  | 4 => ("LittleMix$Sum", "termIsRegister", "Z", false)
  | 5 => ("LittleMix$Sum", "term", "J", false)
  | 6 => ("LittleMix$Sum", "right", "Z", false)
  | 7 => ("LittleMix$Sum", "isRegister", "Z", false)
  | 8 => ("LittleMix$Sum", "value", "J", false)
  | 9 => ("LittleMix$Sum", "text", "[C", true)
  | _ => ("LittleMix$Sum", "labels", "LLittleMix$Labels;", true)
def t_Sum : Nat → FieldType := fun k => match k with
  | 0 => .int
  | 1 => .int
  | 2 => .long
  | 3 => .boolean
  | 4 => .boolean
  | 5 => .long
  | 6 => .boolean
  | 7 => .boolean
  | 8 => .long
  | 9 => .array (.char)
  | _ => .object "LittleMix$Labels"
abbrev f0_Sum : List Value := [.int 0, .int 0, .long 0, .int 0, .int 0, .long 0, .int 0, .int 0, .long 0, .null, .null]
theorem n_Sum : ∀ a, a < 11 → ∀ b, b < 11 → a ≠ b → (T_Sum a).2.1 ≠ (T_Sum b).2.1 := by decide +kernel
theorem t_Sum_ok : ∀ k, k < 11 → parseFieldDescriptor (T_Sum k).2.2.1 = some (t_Sum k) := by decide +kernel
theorem f0_Sum_ok : ∀ j, j < 11 → defaultValue (t_Sum j) = vp_V f0_Sum j := by decide +kernel
def R_Opd : String := "LittleMix$Operands"
def T_Opd : u_T := fun k => match k with
  | 0 => ("LittleMix$Operands", "right", "Z", false)
  | 1 => ("LittleMix$Operands", "anyRegister", "Z", false)
  | 2 => ("LittleMix$Operands", "count", "I", false)
  | 3 => ("LittleMix$Operands", "word", "I", false)
  | 4 => ("LittleMix$Operands", "values", "[J", true)
  | _ => ("LittleMix$Operands", "registers", "[Z", true)
def t_Opd : Nat → FieldType := fun k => match k with
  | 0 => .boolean
  | 1 => .boolean
  | 2 => .int
  | 3 => .int
  | 4 => .array (.long)
  | _ => .array (.boolean)
abbrev f0_Opd : List Value := [.int 0, .int 0, .int 0, .int 0, .null, .null]
theorem n_Opd : ∀ a, a < 6 → ∀ b, b < 6 → a ≠ b → (T_Opd a).2.1 ≠ (T_Opd b).2.1 := by decide +kernel
theorem t_Opd_ok : ∀ k, k < 6 → parseFieldDescriptor (T_Opd k).2.2.1 = some (t_Opd k) := by decide +kernel
theorem f0_Opd_ok : ∀ j, j < 6 → defaultValue (t_Opd j) = vp_V f0_Opd j := by decide +kernel
def R_Asm : String := "LittleMix$Assembler"
def T_Asm : u_T := fun k => match k with
  | 0 => ("LittleMix$Assembler", "answered", "I", false)
  | 1 => ("LittleMix$Assembler", "illLine", "I", false)
  | 2 => ("LittleMix$Assembler", "place", "I", false)
  | 3 => ("LittleMix$Assembler", "filled", "I", false)
  | 4 => ("LittleMix$Assembler", "labels", "LLittleMix$Labels;", true)
  | 5 => ("LittleMix$Assembler", "line", "LLittleMix$Line;", true)
  | 6 => ("LittleMix$Assembler", "sum", "LLittleMix$Sum;", true)
  | 7 => ("LittleMix$Assembler", "operands", "LLittleMix$Operands;", true)
  | 8 => ("LittleMix$Assembler", "answers", "[J", true)
  | _ => ("LittleMix$Assembler", "image", "LLittleMix$Memory;", true)
def t_Asm : Nat → FieldType := fun k => match k with
  | 0 => .int
  | 1 => .int
  | 2 => .int
  | 3 => .int
  | 4 => .object "LittleMix$Labels"
  | 5 => .object "LittleMix$Line"
  | 6 => .object "LittleMix$Sum"
  | 7 => .object "LittleMix$Operands"
  | 8 => .array (.long)
  | _ => .object "LittleMix$Memory"
abbrev f0_Asm : List Value := [.int 0, .int 0, .int 0, .int 0, .null, .null, .null, .null, .null, .null]
theorem n_Asm : ∀ a, a < 10 → ∀ b, b < 10 → a ≠ b → (T_Asm a).2.1 ≠ (T_Asm b).2.1 := by decide +kernel
theorem t_Asm_ok : ∀ k, k < 10 → parseFieldDescriptor (T_Asm k).2.2.1 = some (t_Asm k) := by decide +kernel
theorem f0_Asm_ok : ∀ j, j < 10 → defaultValue (t_Asm j) = vp_V f0_Asm j := by decide +kernel
def R_Mac : String := "LittleMix$Machine"
def T_Mac : u_T := fun k => match k with
  | 0 => ("LittleMix$Machine", "at", "J", false)
  | 1 => ("LittleMix$Machine", "stop", "I", false)
  | 2 => ("LittleMix$Machine", "oops", "I", false)
  | 3 => ("LittleMix$Machine", "mems", "I", false)
  | 4 => ("LittleMix$Machine", "word", "I", false)
  | 5 => ("LittleMix$Machine", "op", "I", false)
  | 6 => ("LittleMix$Machine", "x", "I", false)
  | 7 => ("LittleMix$Machine", "y", "I", false)
  | 8 => ("LittleMix$Machine", "z", "I", false)
  | 9 => ("LittleMix$Machine", "left", "J", false)
  | 10 => ("LittleMix$Machine", "right", "J", false)
  | 11 => ("LittleMix$Machine", "next", "J", false)
  | 12 => ("LittleMix$Machine", "cost", "I", false)
  | 13 => ("LittleMix$Machine", "event", "I", false)
  | 14 => ("LittleMix$Machine", "memory", "LLittleMix$Memory;", true)
  | _ => ("LittleMix$Machine", "registers", "LLittleMix$Registers;", true)
def t_Mac : Nat → FieldType := fun k => match k with
  | 0 => .long
  | 1 => .int
  | 2 => .int
  | 3 => .int
  | 4 => .int
  | 5 => .int
  | 6 => .int
  | 7 => .int
  | 8 => .int
  | 9 => .long
  | 10 => .long
  | 11 => .long
  | 12 => .int
  | 13 => .int
  | 14 => .object "LittleMix$Memory"
  | _ => .object "LittleMix$Registers"
abbrev f0_Mac : List Value := [.long 0, .int 0, .int 0, .int 0, .int 0, .int 0, .int 0, .int 0, .int 0, .long 0, .long 0, .long 0, .int 0, .int 0, .null, .null]
theorem n_Mac : ∀ a, a < 16 → ∀ b, b < 16 → a ≠ b → (T_Mac a).2.1 ≠ (T_Mac b).2.1 := by decide +kernel
theorem t_Mac_ok : ∀ k, k < 16 → parseFieldDescriptor (T_Mac k).2.2.1 = some (t_Mac k) := by decide +kernel
theorem f0_Mac_ok : ∀ j, j < 16 → defaultValue (t_Mac j) = vp_V f0_Mac j := by decide +kernel
def R_Mod : String := "LittleMixModel"
def T_Mod : u_T := fun k => match k with
  | 0 => ("LittleMixModel", "code", "I", false)
  | 1 => ("LittleMixModel", "taped", "I", false)
  | 2 => ("LittleMixModel", "size", "I", false)
  | 3 => ("LittleMixModel", "illAt", "I", false)
  | 4 => ("LittleMixModel", "labels", "I", false)
  | 5 => ("LittleMixModel", "keptCount", "I", false)
  | 6 => ("LittleMixModel", "stacked", "I", false)
  | 7 => ("LittleMixModel", "local", "I", false)
  | 8 => ("LittleMixModel", "global", "I", false)
  | 9 => ("LittleMixModel", "oops", "I", false)
  | 10 => ("LittleMixModel", "mems", "I", false)
  | 11 => ("LittleMixModel", "stop", "I", false)
  | 12 => ("LittleMixModel", "next", "J", false)
  | 13 => ("LittleMixModel", "value", "J", false)
  | 14 => ("LittleMixModel", "register", "Z", false)
  | 15 => ("LittleMixModel", "right", "Z", false)
  | 16 => ("LittleMixModel", "term", "J", false)
  | 17 => ("LittleMixModel", "termRegister", "Z", false)
  | 18 => ("LittleMixModel", "labelFrom", "I", false)
  | 19 => ("LittleMixModel", "labelTo", "I", false)
  | 20 => ("LittleMixModel", "form", "I", false)
  | 21 => ("LittleMixModel", "base", "I", false)
  | 22 => ("LittleMixModel", "operands", "I", false)
  | 23 => ("LittleMixModel", "each", "I", false)
  | 24 => ("LittleMixModel", "xyz", "I", false)
  | 25 => ("LittleMixModel", "upper", "J", false)
  | 26 => ("LittleMixModel", "rest", "J", false)
  | 27 => ("LittleMixModel", "event", "I", false)
  | 28 => ("LittleMixModel", "eventY", "J", false)
  | 29 => ("LittleMixModel", "eventZ", "J", false)
  | 30 => ("LittleMixModel", "executed", "J", false)
  | 31 => ("LittleMixModel", "tape", "[I", true)
  | 32 => ("LittleMixModel", "text", "[I", true)
  | 33 => ("LittleMixModel", "labelAt", "[I", true)
  | 34 => ("LittleMixModel", "labelLength", "[I", true)
  | 35 => ("LittleMixModel", "labelIs", "[J", true)
  | 36 => ("LittleMixModel", "labelRegister", "[Z", true)
  | 37 => ("LittleMixModel", "kept", "[J", true)
  | 38 => ("LittleMixModel", "memory", "[I", true)
  | 39 => ("LittleMixModel", "made", "[I", true)
  | 40 => ("LittleMixModel", "\x72", "[J", true)
  | 41 => ("LittleMixModel", "special", "[J", true)
  | 42 => ("LittleMixModel", "stack", "[J", true)
  | _ => ("LittleMixModel", "aside", "[J", true)
def t_Mod : Nat → FieldType := fun k => match k with
  | 0 => .int
  | 1 => .int
  | 2 => .int
  | 3 => .int
  | 4 => .int
  | 5 => .int
  | 6 => .int
  | 7 => .int
  | 8 => .int
  | 9 => .int
  | 10 => .int
  | 11 => .int
  | 12 => .long
  | 13 => .long
  | 14 => .boolean
  | 15 => .boolean
  | 16 => .long
  | 17 => .boolean
  | 18 => .int
  | 19 => .int
  | 20 => .int
  | 21 => .int
  | 22 => .int
  | 23 => .int
  | 24 => .int
  | 25 => .long
  | 26 => .long
  | 27 => .int
  | 28 => .long
  | 29 => .long
  | 30 => .long
  | 31 => .array (.int)
  | 32 => .array (.int)
  | 33 => .array (.int)
  | 34 => .array (.int)
  | 35 => .array (.long)
  | 36 => .array (.boolean)
  | 37 => .array (.long)
  | 38 => .array (.int)
  | 39 => .array (.int)
  | 40 => .array (.long)
  | 41 => .array (.long)
  | 42 => .array (.long)
  | _ => .array (.long)
abbrev f0_Mod : List Value := [.int 0, .int 0, .int 0, .int 0, .int 0, .int 0, .int 0, .int 0, .int 0, .int 0, .int 0, .int 0, .long 0, .long 0, .int 0, .int 0, .long 0, .int 0, .int 0, .int 0, .int 0, .int 0, .int 0, .int 0, .int 0, .long 0, .long 0, .int 0, .long 0, .long 0, .long 0, .null, .null, .null, .null, .null, .null, .null, .null, .null, .null, .null, .null, .null]
theorem n_Mod : ∀ a, a < 44 → ∀ b, b < 44 → a ≠ b → (T_Mod a).2.1 ≠ (T_Mod b).2.1 := by decide +kernel
theorem t_Mod_ok : ∀ k, k < 44 → parseFieldDescriptor (T_Mod k).2.2.1 = some (t_Mod k) := by decide +kernel
theorem f0_Mod_ok : ∀ j, j < 44 → defaultValue (t_Mod j) = vp_V f0_Mod j := by decide +kernel
abbrev mx_cl : List vw_C := [(R_Mix, T_Mix, 6), (R_Mem, T_Mem, 1), (R_Reg, T_Reg, 6), (R_Opn, T_Opn, 1), (R_Lin, T_Lin, 7), (R_Lab, T_Lab, 6), (R_Sum, T_Sum, 11), (R_Opd, T_Opd, 6), (R_Asm, T_Asm, 10), (R_Mac, T_Mac, 16), (R_Mod, T_Mod, 44)]
def mx_nS : Nat := 14
def mx_own : List String := ["LittleMix$Operations", "LittleMix$Operations", "LittleMix$Operations", "LittleMix$Operations", "LittleMix$Operations", "LittleMix$Operations", "LittleMix$Operations", "LittleMix$Operations", "LittleMix$Operations", "LittleMix$Operations", "LittleMix$Operations", "LittleMix$Operations", "LittleMix$Operations", "LittleMix$Operations"]
def mx_idx : List Nat := [15, 21, 23, 25, 27, 29, 31, 33, 35, 37, 39, 41, 43, 45]
def mx_tx : List String := ["TRAP", "MUL MULU DIV DIVU ADD ADDU SUB SUBU 2ADDU 4ADDU 8ADDU 16ADDU CMP CMPU NEG NEGU SL SLU SR SRU", "BN BZ BP BOD BNN BNZ BNP BEV PBN PBZ PBP PBOD PBNN PBNZ PBNP PBEV", "CSN CSZ CSP CSOD CSNN CSNZ CSNP CSEV ZSN ZSZ ZSP ZSOD ZSNN ZSNZ ZSNP ZSEV", "LDB LDBU LDW LDWU LDT LDTU LDO", "STB STBU STW STWU STT STTU STO", "STCO", "OR ORN NOR XOR AND ANDN NAND NXOR BDIF WDIF TDIF ODIF MUX SADD MOR MXOR", "SETH SETMH SETML SETL INCH INCMH INCML INCL", "ORH ORMH ORML ORL ANDNH ANDNMH ANDNML ANDNL", "JMP PUSHJ GETA PUT POP", "RESUME", "SWYM GET TRIP", "IS LOC BYTE WYDE TETRA OCTA"]
def mx_len : List Nat := [4, 92, 65, 73, 30, 30, 4, 71, 43, 43, 22, 6, 13, 27]
def mx_byt : List (List Int32) := [[84, 82, 65, 80], [77, 85, 76, 32, 77, 85, 76, 85, 32, 68, 73, 86, 32, 68, 73, 86, 85, 32, 65, 68, 68, 32, 65, 68, 68, 85, 32, 83, 85, 66, 32, 83, 85, 66, 85, 32, 50, 65, 68, 68, 85, 32, 52, 65, 68, 68, 85, 32, 56, 65, 68, 68, 85, 32, 49, 54, 65, 68, 68, 85, 32, 67, 77, 80, 32, 67, 77, 80, 85, 32, 78, 69, 71, 32, 78, 69, 71, 85, 32, 83, 76, 32, 83, 76, 85, 32, 83, 82, 32, 83, 82, 85], [66, 78, 32, 66, 90, 32, 66, 80, 32, 66, 79, 68, 32, 66, 78, 78, 32, 66, 78, 90, 32, 66, 78, 80, 32, 66, 69, 86, 32, 80, 66, 78, 32, 80, 66, 90, 32, 80, 66, 80, 32, 80, 66, 79, 68, 32, 80, 66, 78, 78, 32, 80, 66, 78, 90, 32, 80, 66, 78, 80, 32, 80, 66, 69, 86], [67, 83, 78, 32, 67, 83, 90, 32, 67, 83, 80, 32, 67, 83, 79, 68, 32, 67, 83, 78, 78, 32, 67, 83, 78, 90, 32, 67, 83, 78, 80, 32, 67, 83, 69, 86, 32, 90, 83, 78, 32, 90, 83, 90, 32, 90, 83, 80, 32, 90, 83, 79, 68, 32, 90, 83, 78, 78, 32, 90, 83, 78, 90, 32, 90, 83, 78, 80, 32, 90, 83, 69, 86], [76, 68, 66, 32, 76, 68, 66, 85, 32, 76, 68, 87, 32, 76, 68, 87, 85, 32, 76, 68, 84, 32, 76, 68, 84, 85, 32, 76, 68, 79], [83, 84, 66, 32, 83, 84, 66, 85, 32, 83, 84, 87, 32, 83, 84, 87, 85, 32, 83, 84, 84, 32, 83, 84, 84, 85, 32, 83, 84, 79], [83, 84, 67, 79], [79, 82, 32, 79, 82, 78, 32, 78, 79, 82, 32, 88, 79, 82, 32, 65, 78, 68, 32, 65, 78, 68, 78, 32, 78, 65, 78, 68, 32, 78, 88, 79, 82, 32, 66, 68, 73, 70, 32, 87, 68, 73, 70, 32, 84, 68, 73, 70, 32, 79, 68, 73, 70, 32, 77, 85, 88, 32, 83, 65, 68, 68, 32, 77, 79, 82, 32, 77, 88, 79, 82], [83, 69, 84, 72, 32, 83, 69, 84, 77, 72, 32, 83, 69, 84, 77, 76, 32, 83, 69, 84, 76, 32, 73, 78, 67, 72, 32, 73, 78, 67, 77, 72, 32, 73, 78, 67, 77, 76, 32, 73, 78, 67, 76], [79, 82, 72, 32, 79, 82, 77, 72, 32, 79, 82, 77, 76, 32, 79, 82, 76, 32, 65, 78, 68, 78, 72, 32, 65, 78, 68, 78, 77, 72, 32, 65, 78, 68, 78, 77, 76, 32, 65, 78, 68, 78, 76], [74, 77, 80, 32, 80, 85, 83, 72, 74, 32, 71, 69, 84, 65, 32, 80, 85, 84, 32, 80, 79, 80], [82, 69, 83, 85, 77, 69], [83, 87, 89, 77, 32, 71, 69, 84, 32, 84, 82, 73, 80], [73, 83, 32, 76, 79, 67, 32, 66, 89, 84, 69, 32, 87, 89, 68, 69, 32, 84, 69, 84, 82, 65, 32, 79, 67, 84, 65]]
theorem mx_len_lt : ∀ i, i < mx_nS → mx_len.getD i 0 < 2 ^ 31 := by decide
abbrev b_Asm_answer : ByteArray := prog_3_method_2_code
abbrev b_Asm_init : ByteArray := prog_3_method_1_code
abbrev b_Asm_translate : ByteArray := prog_3_method_3_code
abbrev b_Lab_clear : ByteArray := prog_4_method_2_code
abbrev b_Lab_init : ByteArray := prog_4_method_1_code
abbrev b_Lab_tell : ByteArray := prog_4_method_7_code
abbrev b_Lin_init : ByteArray := prog_5_method_1_code
abbrev b_LittleMixLaw_law : ByteArray := code
abbrev b_Mac_decode : ByteArray := prog_6_method_5_code
abbrev b_Mac_execute : ByteArray := prog_6_method_8_code
abbrev b_Mac_go : ByteArray := prog_6_method_3_code
abbrev b_Mac_init : ByteArray := prog_6_method_1_code
abbrev b_Mac_setBack : ByteArray := prog_6_method_2_code
abbrev b_Mac_step : ByteArray := prog_6_method_4_code
abbrev b_Mem_become : ByteArray := prog_7_method_7_code
abbrev b_Mem_clear : ByteArray := prog_7_method_6_code
abbrev b_Mem_holds : ByteArray := prog_7_method_2_code
abbrev b_Mem_init : ByteArray := prog_7_method_1_code
abbrev b_Mem_instruction : ByteArray := prog_7_method_5_code
abbrev b_Mem_mask : ByteArray := prog_7_method_9_code
abbrev b_Mem_read : ByteArray := prog_7_method_3_code
abbrev b_Mem_shift : ByteArray := prog_7_method_8_code
abbrev b_Mem_write : ByteArray := prog_7_method_4_code
abbrev b_Mix_assemble : ByteArray := prog_1_method_4_code
abbrev b_Mix_back : ByteArray := prog_1_method_9_code
abbrev b_Mix_byteAt : ByteArray := prog_1_method_7_code
abbrev b_Mix_feed : ByteArray := prog_1_method_2_code
abbrev b_Mix_illAt : ByteArray := prog_1_method_5_code
abbrev b_Mix_init : ByteArray := prog_1_method_1_code
abbrev b_Mix_label : ByteArray := prog_1_method_6_code
abbrev b_Mix_place : ByteArray := prog_1_method_14_code
abbrev b_Mix_punch : ByteArray := prog_1_method_3_code
abbrev b_Mix_register : ByteArray := prog_1_method_12_code
abbrev b_Mix_run : ByteArray := prog_1_method_10_code
abbrev b_Mix_special : ByteArray := prog_1_method_13_code
abbrev b_Mix_stopped : ByteArray := prog_1_method_11_code
abbrev b_Mix_store : ByteArray := prog_1_method_8_code
abbrev b_Mix_taken : ByteArray := prog_1_method_15_code
abbrev b_Mod_assemble : ByteArray := prog_14_method_35_code
abbrev b_Mod_back : ByteArray := prog_14_method_40_code
abbrev b_Mod_byteAt : ByteArray := prog_14_method_38_code
abbrev b_Mod_feed : ByteArray := prog_14_method_4_code
abbrev b_Mod_first : ByteArray := prog_14_method_27_code
abbrev b_Mod_get : ByteArray := prog_14_method_41_code
abbrev b_Mod_getSpecial : ByteArray := prog_14_method_43_code
abbrev b_Mod_illAt : ByteArray := prog_14_method_36_code
abbrev b_Mod_init : ByteArray := prog_14_method_1_code
abbrev b_Mod_isOp : ByteArray := prog_14_method_60_code
abbrev b_Mod_isSpecial : ByteArray := prog_14_method_13_code
abbrev b_Mod_label : ByteArray := prog_14_method_37_code
abbrev b_Mod_place : ByteArray := prog_14_method_72_code
abbrev b_Mod_register : ByteArray := prog_14_method_70_code
abbrev b_Mod_run : ByteArray := prog_14_method_68_code
abbrev b_Mod_second : ByteArray := prog_14_method_29_code
abbrev b_Mod_setBack : ByteArray := prog_14_method_3_code
abbrev b_Mod_special : ByteArray := prog_14_method_71_code
abbrev b_Mod_step : ByteArray := prog_14_method_61_code
abbrev b_Mod_stopped : ByteArray := prog_14_method_69_code
abbrev b_Mod_store : ByteArray := prog_14_method_39_code
abbrev b_Mod_taken : ByteArray := prog_14_method_73_code
abbrev b_Opd_init : ByteArray := prog_8_method_1_code
abbrev b_Opn_init : ByteArray := prog_9_method_1_code
abbrev b_Opn_learn : ByteArray := prog_9_method_2_code
abbrev b_Preconditions_checkIndex : ByteArray := prog_22_method_11_code
abbrev b_Reg_clearFrom : ByteArray := prog_10_method_3_code
abbrev b_Reg_get : ByteArray := prog_10_method_6_code
abbrev b_Reg_init : ByteArray := prog_10_method_1_code
abbrev b_Reg_read : ByteArray := prog_10_method_4_code
abbrev b_Reg_reset : ByteArray := prog_10_method_2_code
abbrev b_StringLatin1_charAt : ByteArray := prog_19_method_2_code
abbrev b_String_charAt : ByteArray := prog_18_method_56_code
abbrev b_String_checkIndex : ByteArray := prog_18_method_155_code
abbrev b_String_coder : ByteArray := prog_18_method_152_code
abbrev b_String_isLatin1 : ByteArray := prog_18_method_154_code
abbrev b_String_length : ByteArray := prog_18_method_54_code
abbrev b_Sum_init : ByteArray := prog_12_method_1_code
abbrev y_Asm_answer : MethodName := ⟨"LittleMix$Assembler", "answer", "(I)J"⟩
abbrev y_Asm_init : MethodName := ⟨"LittleMix$Assembler", "<init>", "([C)V"⟩
abbrev y_Asm_translate : MethodName := ⟨"LittleMix$Assembler", "translate", "(I)Z"⟩
abbrev y_Lab_clear : MethodName := ⟨"LittleMix$Labels", "clear", "()V"⟩
abbrev y_Lab_init : MethodName := ⟨"LittleMix$Labels", "<init>", "([C)V"⟩
abbrev y_Lab_tell : MethodName := ⟨"LittleMix$Labels", "tell", "([J)I"⟩
abbrev y_Lin_init : MethodName := ⟨"LittleMix$Line", "<init>", "([C)V"⟩
abbrev y_Mac_decode : MethodName := ⟨"LittleMix$Machine", "decode", "()V"⟩
abbrev y_Mac_execute : MethodName := ⟨"LittleMix$Machine", "execute", "()I"⟩
abbrev y_Mac_go : MethodName := ⟨"LittleMix$Machine", "go", "(I)I"⟩
abbrev y_Mac_init : MethodName := ⟨"LittleMix$Machine", "<init>", "(LLittleMix$Memory;LLittleMix$Registers;)V"⟩
abbrev y_Mac_setBack : MethodName := ⟨"LittleMix$Machine", "setBack", "()V"⟩
abbrev y_Mac_step : MethodName := ⟨"LittleMix$Machine", "step", "()V"⟩
abbrev y_Mem_become : MethodName := ⟨"LittleMix$Memory", "become", "(LLittleMix$Memory;)V"⟩
abbrev y_Mem_clear : MethodName := ⟨"LittleMix$Memory", "clear", "()V"⟩
abbrev y_Mem_holds : MethodName := ⟨"LittleMix$Memory", "holds", "(JI)Z"⟩
abbrev y_Mem_init : MethodName := ⟨"LittleMix$Memory", "<init>", "()V"⟩
abbrev y_Mem_instruction : MethodName := ⟨"LittleMix$Memory", "instruction", "(J)I"⟩
abbrev y_Mem_mask : MethodName := ⟨"LittleMix$Memory", "mask", "(I)J"⟩
abbrev y_Mem_read : MethodName := ⟨"LittleMix$Memory", "read", "(JI)J"⟩
abbrev y_Mem_shift : MethodName := ⟨"LittleMix$Memory", "shift", "(JI)I"⟩
abbrev y_Mem_write : MethodName := ⟨"LittleMix$Memory", "write", "(JIJ)V"⟩
abbrev y_Mix_assemble : MethodName := ⟨"LittleMix", "assemble", "(I)I"⟩
abbrev y_Mix_back : MethodName := ⟨"LittleMix", "back", "()V"⟩
abbrev y_Mix_byteAt : MethodName := ⟨"LittleMix", "byteAt", "(I)I"⟩
abbrev y_Mix_feed : MethodName := ⟨"LittleMix", "feed", "(IIIII)Z"⟩
abbrev y_Mix_illAt : MethodName := ⟨"LittleMix", "illAt", "()I"⟩
abbrev y_Mix_init : MethodName := ⟨"LittleMix", "<init>", "()V"⟩
abbrev y_Mix_label : MethodName := ⟨"LittleMix", "label", "(I)J"⟩
abbrev y_Mix_place : MethodName := ⟨"LittleMix", "place", "()J"⟩
abbrev y_Mix_punch : MethodName := ⟨"LittleMix", "punch", "(I)V"⟩
abbrev y_Mix_register : MethodName := ⟨"LittleMix", "register", "(I)J"⟩
abbrev y_Mix_run : MethodName := ⟨"LittleMix", "run", "(I)I"⟩
abbrev y_Mix_special : MethodName := ⟨"LittleMix", "special", "(I)J"⟩
abbrev y_Mix_stopped : MethodName := ⟨"LittleMix", "stopped", "()I"⟩
abbrev y_Mix_store : MethodName := ⟨"LittleMix", "store", "(III)Z"⟩
abbrev y_Mix_taken : MethodName := ⟨"LittleMix", "taken", "(I)I"⟩
abbrev y_Mod_assemble : MethodName := ⟨"LittleMixModel", "assemble", "(I)I"⟩
abbrev y_Mod_back : MethodName := ⟨"LittleMixModel", "back", "()V"⟩
abbrev y_Mod_byteAt : MethodName := ⟨"LittleMixModel", "byteAt", "(I)I"⟩
abbrev y_Mod_feed : MethodName := ⟨"LittleMixModel", "feed", "(IIIII)Z"⟩
abbrev y_Mod_first : MethodName := ⟨"LittleMixModel", "first", "()I"⟩
abbrev y_Mod_get : MethodName := ⟨"LittleMixModel", "get", "(I)J"⟩
abbrev y_Mod_getSpecial : MethodName := ⟨"LittleMixModel", "getSpecial", "(I)J"⟩
abbrev y_Mod_illAt : MethodName := ⟨"LittleMixModel", "illAt", "()I"⟩
abbrev y_Mod_init : MethodName := ⟨"LittleMixModel", "<init>", "()V"⟩
abbrev y_Mod_isOp : MethodName := ⟨"LittleMixModel", "isOp", "(I)Z"⟩
abbrev y_Mod_isSpecial : MethodName := ⟨"LittleMixModel", "isSpecial", "(J)Z"⟩
abbrev y_Mod_label : MethodName := ⟨"LittleMixModel", "label", "(I)J"⟩
abbrev y_Mod_place : MethodName := ⟨"LittleMixModel", "place", "()J"⟩
abbrev y_Mod_register : MethodName := ⟨"LittleMixModel", "register", "(I)J"⟩
abbrev y_Mod_run : MethodName := ⟨"LittleMixModel", "run", "(I)I"⟩
abbrev y_Mod_second : MethodName := ⟨"LittleMixModel", "second", "()I"⟩
abbrev y_Mod_setBack : MethodName := ⟨"LittleMixModel", "setBack", "()V"⟩
abbrev y_Mod_special : MethodName := ⟨"LittleMixModel", "special", "(I)J"⟩
abbrev y_Mod_step : MethodName := ⟨"LittleMixModel", "step", "()I"⟩
abbrev y_Mod_stopped : MethodName := ⟨"LittleMixModel", "stopped", "()I"⟩
abbrev y_Mod_store : MethodName := ⟨"LittleMixModel", "store", "(III)Z"⟩
abbrev y_Mod_taken : MethodName := ⟨"LittleMixModel", "taken", "(I)I"⟩
abbrev y_Opd_init : MethodName := ⟨"LittleMix$Operands", "<init>", "()V"⟩
abbrev y_Opn_init : MethodName := ⟨"LittleMix$Operations", "<init>", "()V"⟩
abbrev y_Opn_learn : MethodName := ⟨"LittleMix$Operations", "learn", "(IILjava/lang/String;)V"⟩
abbrev y_Preconditions_checkIndex : MethodName := ⟨"jdk/internal/util/Preconditions", "checkIndex", "(IILjava/util/function/BiFunction;)I"⟩
abbrev y_Reg_clearFrom : MethodName := ⟨"LittleMix$Registers", "clearFrom", "(II)V"⟩
abbrev y_Reg_get : MethodName := ⟨"LittleMix$Registers", "get", "(I)J"⟩
abbrev y_Reg_init : MethodName := ⟨"LittleMix$Registers", "<init>", "()V"⟩
abbrev y_Reg_read : MethodName := ⟨"LittleMix$Registers", "read", "(I)J"⟩
abbrev y_Reg_reset : MethodName := ⟨"LittleMix$Registers", "reset", "()V"⟩
abbrev y_StringLatin1_charAt : MethodName := ⟨"java/lang/StringLatin1", "charAt", "([BI)C"⟩
abbrev y_String_charAt : MethodName := ⟨"java/lang/String", "charAt", "(I)C"⟩
abbrev y_String_checkIndex : MethodName := ⟨"java/lang/String", "checkIndex", "(II)V"⟩
abbrev y_String_coder : MethodName := ⟨"java/lang/String", "coder", "()B"⟩
abbrev y_String_isLatin1 : MethodName := ⟨"java/lang/String", "isLatin1", "()Z"⟩
abbrev y_String_length : MethodName := ⟨"java/lang/String", "length", "()I"⟩
abbrev y_Sum_init : MethodName := ⟨"LittleMix$Sum", "<init>", "([CLLittleMix$Labels;)V"⟩
theorem p_Mix_init : y_Mix_init.cls ≠ "java/lang/invoke/MethodHandle" ∧ y_Mix_init.cls ≠ "java/lang/invoke/VarHandle" ∧ (parseMethodDescriptor y_Mix_init.desc).map (fun d => d.parameters.length) = some 0 := by decide +kernel
theorem p_Mix_assemble : y_Mix_assemble.cls ≠ "java/lang/invoke/MethodHandle" ∧ y_Mix_assemble.cls ≠ "java/lang/invoke/VarHandle" ∧ (parseMethodDescriptor y_Mix_assemble.desc).map (fun d => d.parameters.length) = some 1 := by decide +kernel
theorem p_Mix_back : y_Mix_back.cls ≠ "java/lang/invoke/MethodHandle" ∧ y_Mix_back.cls ≠ "java/lang/invoke/VarHandle" ∧ (parseMethodDescriptor y_Mix_back.desc).map (fun d => d.parameters.length) = some 0 := by decide +kernel
theorem p_Mix_byteAt : y_Mix_byteAt.cls ≠ "java/lang/invoke/MethodHandle" ∧ y_Mix_byteAt.cls ≠ "java/lang/invoke/VarHandle" ∧ (parseMethodDescriptor y_Mix_byteAt.desc).map (fun d => d.parameters.length) = some 1 := by decide +kernel
theorem p_Mix_feed : y_Mix_feed.cls ≠ "java/lang/invoke/MethodHandle" ∧ y_Mix_feed.cls ≠ "java/lang/invoke/VarHandle" ∧ (parseMethodDescriptor y_Mix_feed.desc).map (fun d => d.parameters.length) = some 5 := by decide +kernel
theorem p_Mix_illAt : y_Mix_illAt.cls ≠ "java/lang/invoke/MethodHandle" ∧ y_Mix_illAt.cls ≠ "java/lang/invoke/VarHandle" ∧ (parseMethodDescriptor y_Mix_illAt.desc).map (fun d => d.parameters.length) = some 0 := by decide +kernel
theorem p_Mix_label : y_Mix_label.cls ≠ "java/lang/invoke/MethodHandle" ∧ y_Mix_label.cls ≠ "java/lang/invoke/VarHandle" ∧ (parseMethodDescriptor y_Mix_label.desc).map (fun d => d.parameters.length) = some 1 := by decide +kernel
theorem p_Mix_place : y_Mix_place.cls ≠ "java/lang/invoke/MethodHandle" ∧ y_Mix_place.cls ≠ "java/lang/invoke/VarHandle" ∧ (parseMethodDescriptor y_Mix_place.desc).map (fun d => d.parameters.length) = some 0 := by decide +kernel
theorem p_Mix_punch : y_Mix_punch.cls ≠ "java/lang/invoke/MethodHandle" ∧ y_Mix_punch.cls ≠ "java/lang/invoke/VarHandle" ∧ (parseMethodDescriptor y_Mix_punch.desc).map (fun d => d.parameters.length) = some 1 := by decide +kernel
theorem p_Mix_register : y_Mix_register.cls ≠ "java/lang/invoke/MethodHandle" ∧ y_Mix_register.cls ≠ "java/lang/invoke/VarHandle" ∧ (parseMethodDescriptor y_Mix_register.desc).map (fun d => d.parameters.length) = some 1 := by decide +kernel
theorem p_Mix_run : y_Mix_run.cls ≠ "java/lang/invoke/MethodHandle" ∧ y_Mix_run.cls ≠ "java/lang/invoke/VarHandle" ∧ (parseMethodDescriptor y_Mix_run.desc).map (fun d => d.parameters.length) = some 1 := by decide +kernel
theorem p_Mix_special : y_Mix_special.cls ≠ "java/lang/invoke/MethodHandle" ∧ y_Mix_special.cls ≠ "java/lang/invoke/VarHandle" ∧ (parseMethodDescriptor y_Mix_special.desc).map (fun d => d.parameters.length) = some 1 := by decide +kernel
theorem p_Mix_stopped : y_Mix_stopped.cls ≠ "java/lang/invoke/MethodHandle" ∧ y_Mix_stopped.cls ≠ "java/lang/invoke/VarHandle" ∧ (parseMethodDescriptor y_Mix_stopped.desc).map (fun d => d.parameters.length) = some 0 := by decide +kernel
theorem p_Mix_store : y_Mix_store.cls ≠ "java/lang/invoke/MethodHandle" ∧ y_Mix_store.cls ≠ "java/lang/invoke/VarHandle" ∧ (parseMethodDescriptor y_Mix_store.desc).map (fun d => d.parameters.length) = some 3 := by decide +kernel
theorem p_Mix_taken : y_Mix_taken.cls ≠ "java/lang/invoke/MethodHandle" ∧ y_Mix_taken.cls ≠ "java/lang/invoke/VarHandle" ∧ (parseMethodDescriptor y_Mix_taken.desc).map (fun d => d.parameters.length) = some 1 := by decide +kernel
theorem p_Asm_init : y_Asm_init.cls ≠ "java/lang/invoke/MethodHandle" ∧ y_Asm_init.cls ≠ "java/lang/invoke/VarHandle" ∧ (parseMethodDescriptor y_Asm_init.desc).map (fun d => d.parameters.length) = some 1 := by decide +kernel
theorem p_Asm_answer : y_Asm_answer.cls ≠ "java/lang/invoke/MethodHandle" ∧ y_Asm_answer.cls ≠ "java/lang/invoke/VarHandle" ∧ (parseMethodDescriptor y_Asm_answer.desc).map (fun d => d.parameters.length) = some 1 := by decide +kernel
theorem p_Asm_translate : y_Asm_translate.cls ≠ "java/lang/invoke/MethodHandle" ∧ y_Asm_translate.cls ≠ "java/lang/invoke/VarHandle" ∧ (parseMethodDescriptor y_Asm_translate.desc).map (fun d => d.parameters.length) = some 1 := by decide +kernel
theorem p_Lab_init : y_Lab_init.cls ≠ "java/lang/invoke/MethodHandle" ∧ y_Lab_init.cls ≠ "java/lang/invoke/VarHandle" ∧ (parseMethodDescriptor y_Lab_init.desc).map (fun d => d.parameters.length) = some 1 := by decide +kernel
theorem p_Lab_clear : y_Lab_clear.cls ≠ "java/lang/invoke/MethodHandle" ∧ y_Lab_clear.cls ≠ "java/lang/invoke/VarHandle" ∧ (parseMethodDescriptor y_Lab_clear.desc).map (fun d => d.parameters.length) = some 0 := by decide +kernel
theorem p_Lab_tell : y_Lab_tell.cls ≠ "java/lang/invoke/MethodHandle" ∧ y_Lab_tell.cls ≠ "java/lang/invoke/VarHandle" ∧ (parseMethodDescriptor y_Lab_tell.desc).map (fun d => d.parameters.length) = some 1 := by decide +kernel
theorem p_Lin_init : y_Lin_init.cls ≠ "java/lang/invoke/MethodHandle" ∧ y_Lin_init.cls ≠ "java/lang/invoke/VarHandle" ∧ (parseMethodDescriptor y_Lin_init.desc).map (fun d => d.parameters.length) = some 1 := by decide +kernel
theorem p_Mac_init : y_Mac_init.cls ≠ "java/lang/invoke/MethodHandle" ∧ y_Mac_init.cls ≠ "java/lang/invoke/VarHandle" ∧ (parseMethodDescriptor y_Mac_init.desc).map (fun d => d.parameters.length) = some 2 := by decide +kernel
theorem p_Mac_decode : y_Mac_decode.cls ≠ "java/lang/invoke/MethodHandle" ∧ y_Mac_decode.cls ≠ "java/lang/invoke/VarHandle" ∧ (parseMethodDescriptor y_Mac_decode.desc).map (fun d => d.parameters.length) = some 0 := by decide +kernel
theorem p_Mac_execute : y_Mac_execute.cls ≠ "java/lang/invoke/MethodHandle" ∧ y_Mac_execute.cls ≠ "java/lang/invoke/VarHandle" ∧ (parseMethodDescriptor y_Mac_execute.desc).map (fun d => d.parameters.length) = some 0 := by decide +kernel
theorem p_Mac_go : y_Mac_go.cls ≠ "java/lang/invoke/MethodHandle" ∧ y_Mac_go.cls ≠ "java/lang/invoke/VarHandle" ∧ (parseMethodDescriptor y_Mac_go.desc).map (fun d => d.parameters.length) = some 1 := by decide +kernel
theorem p_Mac_setBack : y_Mac_setBack.cls ≠ "java/lang/invoke/MethodHandle" ∧ y_Mac_setBack.cls ≠ "java/lang/invoke/VarHandle" ∧ (parseMethodDescriptor y_Mac_setBack.desc).map (fun d => d.parameters.length) = some 0 := by decide +kernel
theorem p_Mac_step : y_Mac_step.cls ≠ "java/lang/invoke/MethodHandle" ∧ y_Mac_step.cls ≠ "java/lang/invoke/VarHandle" ∧ (parseMethodDescriptor y_Mac_step.desc).map (fun d => d.parameters.length) = some 0 := by decide +kernel
theorem p_Mem_init : y_Mem_init.cls ≠ "java/lang/invoke/MethodHandle" ∧ y_Mem_init.cls ≠ "java/lang/invoke/VarHandle" ∧ (parseMethodDescriptor y_Mem_init.desc).map (fun d => d.parameters.length) = some 0 := by decide +kernel
theorem p_Mem_become : y_Mem_become.cls ≠ "java/lang/invoke/MethodHandle" ∧ y_Mem_become.cls ≠ "java/lang/invoke/VarHandle" ∧ (parseMethodDescriptor y_Mem_become.desc).map (fun d => d.parameters.length) = some 1 := by decide +kernel
theorem p_Mem_clear : y_Mem_clear.cls ≠ "java/lang/invoke/MethodHandle" ∧ y_Mem_clear.cls ≠ "java/lang/invoke/VarHandle" ∧ (parseMethodDescriptor y_Mem_clear.desc).map (fun d => d.parameters.length) = some 0 := by decide +kernel
theorem p_Mem_holds : y_Mem_holds.cls ≠ "java/lang/invoke/MethodHandle" ∧ y_Mem_holds.cls ≠ "java/lang/invoke/VarHandle" ∧ (parseMethodDescriptor y_Mem_holds.desc).map (fun d => d.parameters.length) = some 2 := by decide +kernel
theorem p_Mem_instruction : y_Mem_instruction.cls ≠ "java/lang/invoke/MethodHandle" ∧ y_Mem_instruction.cls ≠ "java/lang/invoke/VarHandle" ∧ (parseMethodDescriptor y_Mem_instruction.desc).map (fun d => d.parameters.length) = some 1 := by decide +kernel
theorem p_Mem_mask : y_Mem_mask.cls ≠ "java/lang/invoke/MethodHandle" ∧ y_Mem_mask.cls ≠ "java/lang/invoke/VarHandle" ∧ (parseMethodDescriptor y_Mem_mask.desc).map (fun d => d.parameters.length) = some 1 := by decide +kernel
theorem p_Mem_read : y_Mem_read.cls ≠ "java/lang/invoke/MethodHandle" ∧ y_Mem_read.cls ≠ "java/lang/invoke/VarHandle" ∧ (parseMethodDescriptor y_Mem_read.desc).map (fun d => d.parameters.length) = some 2 := by decide +kernel
theorem p_Mem_shift : y_Mem_shift.cls ≠ "java/lang/invoke/MethodHandle" ∧ y_Mem_shift.cls ≠ "java/lang/invoke/VarHandle" ∧ (parseMethodDescriptor y_Mem_shift.desc).map (fun d => d.parameters.length) = some 2 := by decide +kernel
theorem p_Mem_write : y_Mem_write.cls ≠ "java/lang/invoke/MethodHandle" ∧ y_Mem_write.cls ≠ "java/lang/invoke/VarHandle" ∧ (parseMethodDescriptor y_Mem_write.desc).map (fun d => d.parameters.length) = some 3 := by decide +kernel
theorem p_Opd_init : y_Opd_init.cls ≠ "java/lang/invoke/MethodHandle" ∧ y_Opd_init.cls ≠ "java/lang/invoke/VarHandle" ∧ (parseMethodDescriptor y_Opd_init.desc).map (fun d => d.parameters.length) = some 0 := by decide +kernel
theorem p_Opn_init : y_Opn_init.cls ≠ "java/lang/invoke/MethodHandle" ∧ y_Opn_init.cls ≠ "java/lang/invoke/VarHandle" ∧ (parseMethodDescriptor y_Opn_init.desc).map (fun d => d.parameters.length) = some 0 := by decide +kernel
theorem p_Opn_learn : y_Opn_learn.cls ≠ "java/lang/invoke/MethodHandle" ∧ y_Opn_learn.cls ≠ "java/lang/invoke/VarHandle" ∧ (parseMethodDescriptor y_Opn_learn.desc).map (fun d => d.parameters.length) = some 3 := by decide +kernel
theorem p_Reg_init : y_Reg_init.cls ≠ "java/lang/invoke/MethodHandle" ∧ y_Reg_init.cls ≠ "java/lang/invoke/VarHandle" ∧ (parseMethodDescriptor y_Reg_init.desc).map (fun d => d.parameters.length) = some 0 := by decide +kernel
theorem p_Reg_clearFrom : y_Reg_clearFrom.cls ≠ "java/lang/invoke/MethodHandle" ∧ y_Reg_clearFrom.cls ≠ "java/lang/invoke/VarHandle" ∧ (parseMethodDescriptor y_Reg_clearFrom.desc).map (fun d => d.parameters.length) = some 2 := by decide +kernel
theorem p_Reg_get : y_Reg_get.cls ≠ "java/lang/invoke/MethodHandle" ∧ y_Reg_get.cls ≠ "java/lang/invoke/VarHandle" ∧ (parseMethodDescriptor y_Reg_get.desc).map (fun d => d.parameters.length) = some 1 := by decide +kernel
theorem p_Reg_read : y_Reg_read.cls ≠ "java/lang/invoke/MethodHandle" ∧ y_Reg_read.cls ≠ "java/lang/invoke/VarHandle" ∧ (parseMethodDescriptor y_Reg_read.desc).map (fun d => d.parameters.length) = some 1 := by decide +kernel
theorem p_Reg_reset : y_Reg_reset.cls ≠ "java/lang/invoke/MethodHandle" ∧ y_Reg_reset.cls ≠ "java/lang/invoke/VarHandle" ∧ (parseMethodDescriptor y_Reg_reset.desc).map (fun d => d.parameters.length) = some 0 := by decide +kernel
theorem p_Sum_init : y_Sum_init.cls ≠ "java/lang/invoke/MethodHandle" ∧ y_Sum_init.cls ≠ "java/lang/invoke/VarHandle" ∧ (parseMethodDescriptor y_Sum_init.desc).map (fun d => d.parameters.length) = some 2 := by decide +kernel
theorem p_Mod_init : y_Mod_init.cls ≠ "java/lang/invoke/MethodHandle" ∧ y_Mod_init.cls ≠ "java/lang/invoke/VarHandle" ∧ (parseMethodDescriptor y_Mod_init.desc).map (fun d => d.parameters.length) = some 0 := by decide +kernel
theorem p_Mod_assemble : y_Mod_assemble.cls ≠ "java/lang/invoke/MethodHandle" ∧ y_Mod_assemble.cls ≠ "java/lang/invoke/VarHandle" ∧ (parseMethodDescriptor y_Mod_assemble.desc).map (fun d => d.parameters.length) = some 1 := by decide +kernel
theorem p_Mod_back : y_Mod_back.cls ≠ "java/lang/invoke/MethodHandle" ∧ y_Mod_back.cls ≠ "java/lang/invoke/VarHandle" ∧ (parseMethodDescriptor y_Mod_back.desc).map (fun d => d.parameters.length) = some 0 := by decide +kernel
theorem p_Mod_byteAt : y_Mod_byteAt.cls ≠ "java/lang/invoke/MethodHandle" ∧ y_Mod_byteAt.cls ≠ "java/lang/invoke/VarHandle" ∧ (parseMethodDescriptor y_Mod_byteAt.desc).map (fun d => d.parameters.length) = some 1 := by decide +kernel
theorem p_Mod_feed : y_Mod_feed.cls ≠ "java/lang/invoke/MethodHandle" ∧ y_Mod_feed.cls ≠ "java/lang/invoke/VarHandle" ∧ (parseMethodDescriptor y_Mod_feed.desc).map (fun d => d.parameters.length) = some 5 := by decide +kernel
theorem p_Mod_first : y_Mod_first.cls ≠ "java/lang/invoke/MethodHandle" ∧ y_Mod_first.cls ≠ "java/lang/invoke/VarHandle" ∧ (parseMethodDescriptor y_Mod_first.desc).map (fun d => d.parameters.length) = some 0 := by decide +kernel
theorem p_Mod_get : y_Mod_get.cls ≠ "java/lang/invoke/MethodHandle" ∧ y_Mod_get.cls ≠ "java/lang/invoke/VarHandle" ∧ (parseMethodDescriptor y_Mod_get.desc).map (fun d => d.parameters.length) = some 1 := by decide +kernel
theorem p_Mod_getSpecial : y_Mod_getSpecial.cls ≠ "java/lang/invoke/MethodHandle" ∧ y_Mod_getSpecial.cls ≠ "java/lang/invoke/VarHandle" ∧ (parseMethodDescriptor y_Mod_getSpecial.desc).map (fun d => d.parameters.length) = some 1 := by decide +kernel
theorem p_Mod_illAt : y_Mod_illAt.cls ≠ "java/lang/invoke/MethodHandle" ∧ y_Mod_illAt.cls ≠ "java/lang/invoke/VarHandle" ∧ (parseMethodDescriptor y_Mod_illAt.desc).map (fun d => d.parameters.length) = some 0 := by decide +kernel
theorem p_Mod_isOp : y_Mod_isOp.cls ≠ "java/lang/invoke/MethodHandle" ∧ y_Mod_isOp.cls ≠ "java/lang/invoke/VarHandle" ∧ (parseMethodDescriptor y_Mod_isOp.desc).map (fun d => d.parameters.length) = some 1 := by decide +kernel
theorem p_Mod_isSpecial : y_Mod_isSpecial.cls ≠ "java/lang/invoke/MethodHandle" ∧ y_Mod_isSpecial.cls ≠ "java/lang/invoke/VarHandle" ∧ (parseMethodDescriptor y_Mod_isSpecial.desc).map (fun d => d.parameters.length) = some 1 := by decide +kernel
theorem p_Mod_label : y_Mod_label.cls ≠ "java/lang/invoke/MethodHandle" ∧ y_Mod_label.cls ≠ "java/lang/invoke/VarHandle" ∧ (parseMethodDescriptor y_Mod_label.desc).map (fun d => d.parameters.length) = some 1 := by decide +kernel
theorem p_Mod_place : y_Mod_place.cls ≠ "java/lang/invoke/MethodHandle" ∧ y_Mod_place.cls ≠ "java/lang/invoke/VarHandle" ∧ (parseMethodDescriptor y_Mod_place.desc).map (fun d => d.parameters.length) = some 0 := by decide +kernel
theorem p_Mod_register : y_Mod_register.cls ≠ "java/lang/invoke/MethodHandle" ∧ y_Mod_register.cls ≠ "java/lang/invoke/VarHandle" ∧ (parseMethodDescriptor y_Mod_register.desc).map (fun d => d.parameters.length) = some 1 := by decide +kernel
theorem p_Mod_run : y_Mod_run.cls ≠ "java/lang/invoke/MethodHandle" ∧ y_Mod_run.cls ≠ "java/lang/invoke/VarHandle" ∧ (parseMethodDescriptor y_Mod_run.desc).map (fun d => d.parameters.length) = some 1 := by decide +kernel
theorem p_Mod_second : y_Mod_second.cls ≠ "java/lang/invoke/MethodHandle" ∧ y_Mod_second.cls ≠ "java/lang/invoke/VarHandle" ∧ (parseMethodDescriptor y_Mod_second.desc).map (fun d => d.parameters.length) = some 0 := by decide +kernel
theorem p_Mod_setBack : y_Mod_setBack.cls ≠ "java/lang/invoke/MethodHandle" ∧ y_Mod_setBack.cls ≠ "java/lang/invoke/VarHandle" ∧ (parseMethodDescriptor y_Mod_setBack.desc).map (fun d => d.parameters.length) = some 0 := by decide +kernel
theorem p_Mod_special : y_Mod_special.cls ≠ "java/lang/invoke/MethodHandle" ∧ y_Mod_special.cls ≠ "java/lang/invoke/VarHandle" ∧ (parseMethodDescriptor y_Mod_special.desc).map (fun d => d.parameters.length) = some 1 := by decide +kernel
theorem p_Mod_step : y_Mod_step.cls ≠ "java/lang/invoke/MethodHandle" ∧ y_Mod_step.cls ≠ "java/lang/invoke/VarHandle" ∧ (parseMethodDescriptor y_Mod_step.desc).map (fun d => d.parameters.length) = some 0 := by decide +kernel
theorem p_Mod_stopped : y_Mod_stopped.cls ≠ "java/lang/invoke/MethodHandle" ∧ y_Mod_stopped.cls ≠ "java/lang/invoke/VarHandle" ∧ (parseMethodDescriptor y_Mod_stopped.desc).map (fun d => d.parameters.length) = some 0 := by decide +kernel
theorem p_Mod_store : y_Mod_store.cls ≠ "java/lang/invoke/MethodHandle" ∧ y_Mod_store.cls ≠ "java/lang/invoke/VarHandle" ∧ (parseMethodDescriptor y_Mod_store.desc).map (fun d => d.parameters.length) = some 3 := by decide +kernel
theorem p_Mod_taken : y_Mod_taken.cls ≠ "java/lang/invoke/MethodHandle" ∧ y_Mod_taken.cls ≠ "java/lang/invoke/VarHandle" ∧ (parseMethodDescriptor y_Mod_taken.desc).map (fun d => d.parameters.length) = some 1 := by decide +kernel
theorem p_String_charAt : y_String_charAt.cls ≠ "java/lang/invoke/MethodHandle" ∧ y_String_charAt.cls ≠ "java/lang/invoke/VarHandle" ∧ (parseMethodDescriptor y_String_charAt.desc).map (fun d => d.parameters.length) = some 1 := by decide +kernel
theorem p_String_checkIndex : y_String_checkIndex.cls ≠ "java/lang/invoke/MethodHandle" ∧ y_String_checkIndex.cls ≠ "java/lang/invoke/VarHandle" ∧ (parseMethodDescriptor y_String_checkIndex.desc).map (fun d => d.parameters.length) = some 2 := by decide +kernel
theorem p_String_coder : y_String_coder.cls ≠ "java/lang/invoke/MethodHandle" ∧ y_String_coder.cls ≠ "java/lang/invoke/VarHandle" ∧ (parseMethodDescriptor y_String_coder.desc).map (fun d => d.parameters.length) = some 0 := by decide +kernel
theorem p_String_isLatin1 : y_String_isLatin1.cls ≠ "java/lang/invoke/MethodHandle" ∧ y_String_isLatin1.cls ≠ "java/lang/invoke/VarHandle" ∧ (parseMethodDescriptor y_String_isLatin1.desc).map (fun d => d.parameters.length) = some 0 := by decide +kernel
theorem p_String_length : y_String_length.cls ≠ "java/lang/invoke/MethodHandle" ∧ y_String_length.cls ≠ "java/lang/invoke/VarHandle" ∧ (parseMethodDescriptor y_String_length.desc).map (fun d => d.parameters.length) = some 0 := by decide +kernel
theorem p_StringLatin1_charAt : y_StringLatin1_charAt.cls ≠ "java/lang/invoke/MethodHandle" ∧ y_StringLatin1_charAt.cls ≠ "java/lang/invoke/VarHandle" ∧ (parseMethodDescriptor y_StringLatin1_charAt.desc).map (fun d => d.parameters.length) = some 2 := by decide +kernel
theorem p_Preconditions_checkIndex : y_Preconditions_checkIndex.cls ≠ "java/lang/invoke/MethodHandle" ∧ y_Preconditions_checkIndex.cls ≠ "java/lang/invoke/VarHandle" ∧ (parseMethodDescriptor y_Preconditions_checkIndex.desc).map (fun d => d.parameters.length) = some 3 := by decide +kernel
end
section
/-! what all contracts here share: the tables' words, the nest's words, the arrays' classes, the literals -/
abbrev mx_K : Type := va_G × (Nat × Nat × Nat × Nat) × (Nat → Nat) × (Nat → Nat)
abbrev mx_ty (K : mx_K) : List (ClassId × FieldType) := [(K.2.1.1, .long), (K.2.1.2.1, .int), (K.2.1.2.2.1, .char), (K.2.1.2.2.2, .boolean)]
def mx_isNest : Cond → Bool
  | .fieldLinkNest .. => true
  | .methodLinkNest .. => true
  | _ => false
def mx_Ns : List Cond := tables_1.filter mx_isNest
def mx_N (U : State) : Prop := ∀ w ∈ mx_Ns, va_Nw w U
theorem mx_N.warm {s U : State} (hW : s.WarmedH U.vm) (h : mx_N s) : mx_N U := by
  intro w hw
  have h1 := h w hw
  have h2 : mx_isNest w = true := (List.mem_filter.mp hw).2
  cases w <;> first | exact va_Nw.warmF hW h1 | exact va_Nw.warmM hW h1 | (simp [mx_isNest] at h2)
theorem mx_N.same {s U : State} (hv : s.vm = U.vm) (h : mx_N s) : mx_N U := by
  intro w hw
  have h2 : mx_isNest w = true := (List.mem_filter.mp hw).2
  exact va_Nw.same (by cases w <;> first | rfl | (simp [mx_isNest] at h2)) hv (h w hw)
def mx_T : List Cond := lw_tbl.filter goodWord
theorem mx_good {w : Cond} (h : w ∈ mx_T) : GoodIn mx_T (w :: mx_T) := by
  intro v hv
  have hv : v ∈ mx_T := by
    rcases List.mem_cons.mp hv with rfl | hv
    · exact h
    · exact hv
  exact ⟨hv, good_of_word (List.mem_filter.mp hv).2⟩
/-- the literals: what they hold, where the pools have them; and one switch of the library -/
def mx_S (K : mx_K) (A : Nat → Prop) (U : State) (H : Heap) : Prop := ∀ i : Nat, i < mx_nS → va_O "java/lang/String" (K.2.2.1 i) A U H ∧ va_OF "java/lang/String" "coder" "B" (.int 0) (K.2.2.1 i) A U H ∧ va_OF "java/lang/String" "value" "[B" (.ref (K.2.2.2 i)) (K.2.2.1 i) A U H ∧ va_T .byte (K.2.2.2 i) (mx_len.getD i 0) (fun j => .int ((mx_byt.getD i []).getD j 0)) A U H
def mx_E (K : mx_K) (A : Nat → Prop) (U : State) (H : Heap) : Prop :=
  mx_S K A U H ∧ (∀ i : Nat, i < mx_nS → vk_R (mx_own.getD i "") (mx_idx.getD i 0) (mx_tx.getD i "") (K.2.2.1 i) U) ∧ va_Z "java/lang/String" "COMPACT_STRINGS" "Z" (.int 1) A U H ∧ va_Zq "jdk/internal/util/Preconditions" "SIOOBE_FORMATTER" "Ljava/util/function/BiFunction;" A U H
theorem mx_S.moved {K : mx_K} {A : Nat → Prop} {u U : State} {H : Heap} (hvm : u.vm.Alike U.vm) (h : mx_S K A u H) : mx_S K A U H := fun i hi => ⟨va_O.moved hvm (h i hi).1, va_OF.moved hvm (h i hi).2.1, va_OF.moved hvm (h i hi).2.2.1, va_T.moved hvm (h i hi).2.2.2⟩
theorem mx_S.kept {K : mx_K} {A : Nat → Prop} {U : State} {H H1 : Heap} (h : mx_S K A U H) (hq : ∀ a : Nat, a < H.size → ¬ A a → H1[a]? = H[a]?) : mx_S K A U H1 := fun i hi => ⟨(h i hi).1.kept hq, (h i hi).2.1.kept hq, (h i hi).2.2.1.kept hq, (h i hi).2.2.2.kept hq⟩
theorem mx_S.narrow {K : mx_K} {A B : Nat → Prop} {U : State} {H : Heap} (h : mx_S K A U H) (hAB : ∀ q, B q → A q) : mx_S K B U H := fun i hi => ⟨(h i hi).1.narrow hAB, (h i hi).2.1.narrow hAB, (h i hi).2.2.1.narrow hAB, (h i hi).2.2.2.narrow hAB⟩
theorem mx_E.warm {K : mx_K} {A : Nat → Prop} {s U : State} {H : Heap} (hW : s.WarmedH U.vm) (h : mx_E K A s H) : mx_E K A U H := ⟨h.1.moved hW.alike, fun i hi => (h.2.1 i hi).warm hW, h.2.2.1.moved hW.alike, h.2.2.2.moved hW.alike⟩
theorem mx_E.same {K : mx_K} {A : Nat → Prop} {s U : State} {H : Heap} (hv : U.vm = s.vm) (h : mx_E K A s H) : mx_E K A U H := ⟨h.1.moved (by rw [hv]; exact Vm.Alike.refl _), fun i hi => (h.2.1 i hi).same hv, h.2.2.1.moved (by rw [hv]; exact Vm.Alike.refl _), h.2.2.2.moved (by rw [hv]; exact Vm.Alike.refl _)⟩
theorem mx_E.kept {K : mx_K} {A : Nat → Prop} {U : State} {H H1 : Heap} (h : mx_E K A U H) (hq : ∀ a : Nat, a < H.size → ¬ A a → H1[a]? = H[a]?) : mx_E K A U H1 := ⟨h.1.kept hq, h.2.1, h.2.2.1.kept hq, h.2.2.2.kept hq⟩
theorem mx_E.narrow {K : mx_K} {A B : Nat → Prop} {U : State} {H : Heap} (h : mx_E K A U H) (hAB : ∀ q, B q → A q) : mx_E K B U H := ⟨h.1.narrow hAB, h.2.1, h.2.2.1.narrow hAB, h.2.2.2.narrow hAB⟩
theorem mx_recvS {K : mx_K} {A : Nat → Prop} {s : State} {H : Heap} {locs : List Loc} {i : Nat} (hE : mx_E K A s s.heap) (hi : i < mx_nS) (hS : va_S A s.heap H locs) : ∃ cell : Cell, H[K.2.2.1 i]? = some cell ∧ cell.vm.isStatics = false ∧ s.vm.findClass "java/lang/String" = some cell.cls := by
  obtain ⟨cell, h1, h2, h3, -⟩ := (hE.1 i hi).1.kept hS.2.1
  exact ⟨cell, h1, h2, h3⟩
/-- what stands fixed over a method's body -/
def mx_F (p : Program) (s : State) (m : MethodId) (args : Array Value) (c : Code) (cc : ByteArray) (nL : Nat) (own : String) (K : mx_K) (A : Nat → Prop) : Prop :=
  p.tables.exec = Jvm.exec ∧ c.code = cc ∧ c.maxLocals = nL ∧ s.vm.findClass own = some m.cls ∧ (∀ w ∈ mx_T, w.before args s = true) ∧ va_K K.1 mx_cl (mx_ty K) s ∧ mx_N s ∧ mx_E K A s s.heap ∧ ∀ q, s.heap.size ≤ q → A q
/-- a method's start -/
def mx_P (K : mx_K) (wc : va_W) (sz : Nat) (U : State) : Prop := U.heap.size = sz ∧ va_P K.1 mx_cl wc U.heap ∧ va_D (fun _ => True) wc ∧ va_K K.1 mx_cl (mx_ty K) U ∧ mx_N U ∧ mx_E K (va_A wc sz) U U.heap
abbrev mx_B (K : mx_K) (A : Nat → Prop) {S : Type} (w1 : S → va_W) (u : S) (t : State) : Prop := va_P K.1 mx_cl (w1 u) t.heap ∧ va_D A (w1 u)
abbrev mx_V (l : Launch) (y : MethodName) (b : ByteArray) (mL : Nat) (rm : Room) (K : mx_K) (av : List Value) (wc : va_W) (sz : Nat) {S : Type} (post : S → Prop) (w1 : S → va_W) : Prop :=
  Met l y (Cond.code y b mL none :: mx_T) rm (va_Pc av (mx_P K wc sz)) (va_Qv post (mx_B K (va_A wc sz) w1) (va_A wc sz)) rm.cells rm.slots (va_A wc sz)
abbrev mx_I (l : Launch) (y : MethodName) (b : ByteArray) (mL : Nat) (ty : FieldType) (rm : Room) (K : mx_K) (av : List Value) (wc : va_W) (sz : Nat) {S : Type} (post : Int32 → S → Prop) (w1 : S → va_W) : Prop :=
  Met l y (Cond.code y b mL (some ty) :: mx_T) rm (va_Pc av (mx_P K wc sz)) (va_Qi post (mx_B K (va_A wc sz) w1) (va_A wc sz)) rm.cells rm.slots (va_A wc sz)
abbrev mx_L (l : Launch) (y : MethodName) (b : ByteArray) (mL : Nat) (rm : Room) (K : mx_K) (av : List Value) (wc : va_W) (sz : Nat) {S : Type} (post : Int64 → S → Prop) (w1 : S → va_W) : Prop :=
  Met l y (Cond.code y b mL (some .long) :: mx_T) rm (va_Pc av (mx_P K wc sz)) (va_Ql post (mx_B K (va_A wc sz) w1) (va_A wc sz)) rm.cells rm.slots (va_A wc sz)
/-- a body's beginning -/
theorem mx_of {l : Launch} {y : MethodName} {b : ByteArray} {mL : Nat} {ret : Option FieldType} {rm : Room} {K : mx_K} {av : List Value} {wc : va_W} {sz : Nat} {Qc : Array Value → State → Outcome → State → Prop} {mc ms : Nat} (hy : plainName y.cls = true) (hlen : (lg_sl av).length ≤ mL)
    (body : ∀ (p : Program) (e : Env) (s : State) (m : MethodId) (below : List Frame) (meth : Method) (c : Code) (A : Nat → Prop) (ls : Array Slot) (H : Heap) (locs : List Loc), va_A wc sz = A → mx_F p s m av.toArray c b mL y.cls K A → meth.sig.returnType = ret → meth.locks = false → meth.name = y.name → s.heap.size = sz → va_P K.1 mx_cl wc H → va_D A wc → va_S A s.heap H locs → lv_has ls mL (lv_args 0 av) →
      W p l e rm s m av.toArray below meth c H locs 0 0 (MQ below Qc av.toArray s mc ms A) (F0 m 0 ls [])) :
    Met l y (Cond.code y b mL ret :: mx_T) rm (va_Pc av (mx_P K wc sz)) Qc mc ms (va_A wc sz) := by
  refine Met.ofW (cc := b) (maxL := mL) (ret := ret) hy rfl ?_
  intro p e s m args below meth c s₁ B hml hv
  obtain ⟨rfl, hsz, hP, hD0, hK, hN, hE⟩ := hv
  have hts := atoms_spec (ws := Cond.code y b mL ret :: mx_T) B.pre
  have hown : s.vm.findClass y.cls = some m.cls := findClass_of_methodNamed B.named
  have hl := lv_entry av (n := mL) hlen
  rw [lg_entry_eq]
  exact body p e s m below meth c _ _ _ _ rfl ⟨B.exec, B.bytes, hml, hown, fun w h => hts w (List.mem_cons_of_mem _ h), hK, hN, hE, fun q h => Or.inr (by rw [← hsz]; exact h)⟩ B.returns B.notSynchronized (name_of_methodNamed B.named B.method).1 hsz hP hD0.self va_S.rf hl
theorem mx_updJ0 (k : Nat) : vp_updL (fun _ => 0) k 0 = fun _ => 0 := by
  funext j
  simp [vp_updL]
theorem mx_updI0 (k : Nat) : upd (fun _ => 0) k 0 = fun _ => 0 := by
  funext j
  simp [upd]
theorem mx_inc (k : Nat) : nI k + Int32.ofInt 1 = nI (k + 1) := by
  rw [show Int32.ofInt 1 = 1 from by decide]
  exact nI_1 k
section MXR
variable {p : Program} {l : Launch} {e : Env} {R : Room} {s : State} {m : MethodId} {args : Array Value} {below : List Frame} {meth : Method} {c : Code} {H : Heap} {locs : List Loc} {cells slots : Nat} {Q : State → Prop}
variable {cc : ByteArray} {nL : Nat} {own : String} {K : mx_K} {A : Nat → Prop} {pc : Nat} {ls : Array Slot} {rest st0 : List Value}
variable {y : MethodName} {b : ByteArray} {mL : Nat} {ret : Option FieldType} {rm : Room} {wc ws wr : va_W} {Qc : Array Value → State → Outcome → State → Prop} {n index a mc ms : Nat} {As : List Value}
/-- the callee's start out of the caller's world -/
theorem mx_pre (F : mx_F p s m args c cc nL own K A) (hP : va_P K.1 mx_cl ws H) (hD : va_D A ws) (hS : va_S A s.heap H locs) (isC : List Nat) (hC : isC.map (fun i => ws[i]?) = wc.map some) (hnC : va_nd isC = true) (av : List Value) :
    FrameBlind (va_Pc av (mx_P K wc H.size)) ∧ ∀ U : State, U.heap = H → s.WarmedH U.vm → va_Pc av (mx_P K wc H.size) av.toArray U := by
  obtain ⟨hx, hb, hml, hown, hT, hK, hN, hE, hA⟩ := F
  refine ⟨fun a U g mk q => ?_, fun U hU hW => ?_⟩
  · obtain ⟨q0, q1, qP, qD, qK, qN, qE⟩ := q
    exact ⟨q0, q1, qP, qD, va_K.moved (u := U) (U := U.calling g mk a) (Vm.Alike.refl U.vm) qK, mx_N.same (s := U) (U := U.calling g mk a) rfl qN, mx_E.same (s := U) (U := U.calling g mk a) rfl qE⟩
  · have hF := va_free (wc := wc) hD hS hA isC hC
    have hw : isC.filterMap (fun i => ws[i]?) = wc := by
      have h1 : (isC.map (fun i => ws[i]?)).filterMap id = (wc.map some).filterMap id := by rw [hC]
      simpa [List.filterMap_map] using h1
    refine ⟨rfl, by rw [hU], by rw [hU]; exact hP.sub isC hw, (hD.sub isC hnC hC).weaken (fun _ _ _ _ => trivial), va_K.moved hW.alike hK, hN.warm hW, ?_⟩
    rw [hU]
    exact ((hE.kept hS.2.1).narrow hF).warm hW
/-- a call's link: plain, or of the nest -/
def mx_lk (own : String) (index : Nat) (y : MethodName) : Prop := Cond.methodLink own index y ∈ mx_T ∨ ∃ host : String, Cond.methodLinkNest own index y host ∈ mx_Ns
theorem mx_runV (F : mx_F p s m args c cc nL own K A) (hM : Met l y (Cond.code y b mL ret :: mx_T) rm (va_Pc (.ref a :: As) (mx_P K wc H.size)) Qc mc ms (va_A wc H.size)) (hcode : Cond.code y b mL ret ∈ mx_T) (hl : mx_lk own index y) (hi : Cond.instanceMethod y ∈ mx_T) (hsel : Cond.selects y.cls y y ∈ mx_T) (hini : Cond.initialized y.cls ∈ mx_T)
    (hd : y.cls ≠ "java/lang/invoke/MethodHandle" ∧ y.cls ≠ "java/lang/invoke/VarHandle" ∧ (parseMethodDescriptor y.desc).map (fun d => d.parameters.length) = some n) (hrc : rm.cells = mc) (hrs : rm.slots = ms) (hP : va_P K.1 mx_cl ws H) (hD : va_D A ws) (hS : va_S A s.heap H locs) (isC : List Nat) (hC : isC.map (fun i => ws[i]?) = wc.map some) (hnC : va_nd isC = true)
    (hrecv : ∃ cell : Cell, H[a]? = some cell ∧ cell.vm.isStatics = false ∧ s.vm.findClass y.cls = some cell.cls) (hn : As.length = n) (hsize : ls.size = nL) (hstack : st0 = As.reverse ++ .ref a :: rest) (hroom : (rest.map fun v => v.category).sum ≤ 8) (hR : rm.frames + 1 ≤ R.frames ∧ 8 + (mL + 11) + rm.locals ≤ R.locals) (hf : cells + mc ≤ R.cells ∧ slots + ms ≤ R.slots) (hdg : decode cc pc = .ok (.invokevirtual index, 3)) :
    va_Run p l e R s m args below meth c H locs cells slots mc ms (F0 m pc ls st0) rest (Qc (Value.ref a :: As).toArray) (va_A wc H.size) := by
  obtain ⟨hbl, hpr⟩ := mx_pre F hP hD hS isC hC hnC (.ref a :: As)
  obtain ⟨hx, hb, hml, hown, hT, hK, hN, hE, hA⟩ := F
  rcases hl with hl | ⟨host, hl⟩
  · exact va_runV (C := y.cls) (ret := ret) (n := n) ⟨hx, hb, hml, hown, hT⟩ hM ⟨callB_of n hT (mx_good hcode) rfl hrc hrs (hT _ hini) (hT _ hl) hd hR, hT _ hi, hT _ hsel⟩ ⟨hbl, hrecv, hpr⟩ rfl hn hsize hstack (lv_room hroom) hdg hf
  · exact va_runVN (C := y.cls) (ret := ret) (n := n) ⟨hx, hb, hml, hown, hT⟩ hM ⟨va_cnB n hT (mx_good hcode) rfl hrc hrs (hN _ hl) (hT _ hini) hd hR, hT _ hi, hT _ hsel⟩ ⟨hbl, hrecv, hpr⟩ rfl hn hsize hstack (lv_room hroom) hdg hf
theorem mx_runS (F : mx_F p s m args c cc nL own K A) (hM : Met l y (Cond.code y b mL ret :: mx_T) rm (va_Pc As (mx_P K wc H.size)) Qc mc ms (va_A wc H.size)) (hcode : Cond.code y b mL ret ∈ mx_T) (hl : mx_lk own index y) (hi : Cond.static y ∈ mx_T) (hini : Cond.initialized y.cls ∈ mx_T)
    (hd : y.cls ≠ "java/lang/invoke/MethodHandle" ∧ y.cls ≠ "java/lang/invoke/VarHandle" ∧ (parseMethodDescriptor y.desc).map (fun d => d.parameters.length) = some n) (hrc : rm.cells = mc) (hrs : rm.slots = ms) (hP : va_P K.1 mx_cl ws H) (hD : va_D A ws) (hS : va_S A s.heap H locs) (isC : List Nat) (hC : isC.map (fun i => ws[i]?) = wc.map some) (hnC : va_nd isC = true)
    (hn : As.length = n) (hsize : ls.size = nL) (hstack : st0 = As.reverse ++ rest) (hroom : (rest.map fun v => v.category).sum ≤ 8) (hR : rm.frames + 1 ≤ R.frames ∧ 8 + (mL + 11) + rm.locals ≤ R.locals) (hf : cells + mc ≤ R.cells ∧ slots + ms ≤ R.slots) (hdg : decode cc pc = .ok (.invokestatic index, 3)) :
    va_Run p l e R s m args below meth c H locs cells slots mc ms (F0 m pc ls st0) rest (Qc As.toArray) (va_A wc H.size) := by
  obtain ⟨hbl, hpr⟩ := mx_pre F hP hD hS isC hC hnC As
  obtain ⟨hx, hb, hml, hown, hT, hK, hN, hE, hA⟩ := F
  rcases hl with hl | ⟨host, hl⟩
  · exact va_runS (ret := ret) (n := n) ⟨hx, hb, hml, hown, hT⟩ hM ⟨callB_of n hT (mx_good hcode) rfl hrc hrs (hT _ hini) (hT _ hl) hd hR, hT _ hi⟩ ⟨hbl, hpr⟩ rfl hn hsize hstack (lv_room hroom) hdg hf
  · exact va_runSN (ret := ret) (n := n) ⟨hx, hb, hml, hown, hT⟩ hM ⟨va_cnB n hT (mx_good hcode) rfl hrc hrs (hN _ hl) (hT _ hini) hd hR, hT _ hi, trivial⟩ ⟨hbl, hpr⟩ rfl hn hsize hstack (lv_room hroom) hdg hf
theorem mx_runI (F : mx_F p s m args c cc nL own K A) (hM : Met l y (Cond.code y b mL none :: mx_T) rm (va_Pc (.ref a :: As) (mx_P K wc H.size)) Qc mc ms (va_A wc H.size)) (hcode : Cond.code y b mL none ∈ mx_T) (hl : mx_lk own index y) (hi : Cond.instanceMethod y ∈ mx_T) (hy1 : y.name = "<init>") (hini : Cond.initialized y.cls ∈ mx_T)
    (hd : y.cls ≠ "java/lang/invoke/MethodHandle" ∧ y.cls ≠ "java/lang/invoke/VarHandle" ∧ (parseMethodDescriptor y.desc).map (fun d => d.parameters.length) = some n) (hrc : rm.cells = mc) (hrs : rm.slots = ms) (hP : va_P K.1 mx_cl ws H) (hD : va_D A ws) (hS : va_S A s.heap H locs) (isC : List Nat) (hC : isC.map (fun i => ws[i]?) = wc.map some) (hnC : va_nd isC = true)
    (hn : As.length = n) (hsize : ls.size = nL) (hstack : st0 = As.reverse ++ .ref a :: rest) (hroom : (rest.map fun v => v.category).sum ≤ 8) (hR : rm.frames + 1 ≤ R.frames ∧ 8 + (mL + 11) + rm.locals ≤ R.locals) (hf : cells + mc ≤ R.cells ∧ slots + ms ≤ R.slots) (hdg : decode cc pc = .ok (.invokespecial index, 3)) :
    va_Run p l e R s m args below meth c H locs cells slots mc ms (F0 m pc ls st0) rest (Qc (Value.ref a :: As).toArray) (va_A wc H.size) := by
  obtain ⟨hbl, hpr⟩ := mx_pre F hP hD hS isC hC hnC (.ref a :: As)
  obtain ⟨hx, hb, hml, hown, hT, hK, hN, hE, hA⟩ := F
  rcases hl with hl | ⟨host, hl⟩
  · exact va_runI (n := n) ⟨hx, hb, hml, hown, hT⟩ hM ⟨callB_of n hT (mx_good hcode) rfl hrc hrs (hT _ hini) (hT _ hl) hd hR, hy1, hT _ hi⟩ ⟨hbl, hpr⟩ rfl hn hsize hstack (lv_room hroom) hdg hf
  · exact va_runIN (n := n) ⟨hx, hb, hml, hown, hT⟩ hM ⟨va_cnB n hT (mx_good hcode) rfl hrc hrs (hN _ hl) (hT _ hini) hd hR, hy1, hT _ hi⟩ ⟨hbl, hpr⟩ rfl hn hsize hstack (lv_room hroom) hdg hf
variable {av : Array Value} {S : Type} {w1 : S → va_W}
/-- behind a call -/
theorem mx_cv {post : S → Prop} (F : mx_F p s m args c cc nL own K A) (hr : va_Run p l e R s m args below meth c H locs cells slots mc ms (F0 m pc ls st0) rest (va_Qv post (mx_B K (va_A wc H.size) w1) (va_A wc H.size) av) (va_A wc H.size)) (hP : va_P K.1 mx_cl ws H) (hD : va_D A ws) (hS : va_S A s.heap H locs) (isC isR : List Nat) (hC : isC.map (fun i => ws[i]?) = wc.map some) (hR : isR.map (fun i => ws[i]?) = wr.map some) (hn : va_nd isR = true) (hdis : ∀ i ∈ isR, i ∉ isC)
    (kk : ∀ (u : S) (H1 : Heap) (locs1 : List Loc), post u → va_P K.1 mx_cl (wr ++ w1 u) H1 → va_D A (wr ++ w1 u) → va_S A s.heap H1 locs1 → W p l e R s m args below meth c H1 locs1 (cells + mc) (slots + ms) Q (F0 m (pc + 3) ls rest)) : W p l e R s m args below meth c H locs cells slots Q (F0 m pc ls st0) := by
  obtain ⟨hx, hb, hml, hown, hT, hK, hN, hE, hA⟩ := F
  have hF := va_free (wc := wc) hD hS hA isC hC
  refine va_callv hr hS (fun q _ h => hF q h) hF (fun u t H1 locs1 ht hvm hpost hB hz1 hk1 hS1 => ?_)
  obtain ⟨hP1, hD1⟩ := hB
  rw [ht] at hP1
  obtain ⟨hP2, hD2⟩ := va_join hP hD isC isR hC hR hn hdis hk1 hF hP1 hD1
  exact kk u H1 locs1 hpost hP2 hD2 hS1
theorem mx_ci {post : Int32 → S → Prop} (F : mx_F p s m args c cc nL own K A) (hr : va_Run p l e R s m args below meth c H locs cells slots mc ms (F0 m pc ls st0) rest (va_Qi post (mx_B K (va_A wc H.size) w1) (va_A wc H.size) av) (va_A wc H.size)) (hP : va_P K.1 mx_cl ws H) (hD : va_D A ws) (hS : va_S A s.heap H locs) (isC isR : List Nat) (hC : isC.map (fun i => ws[i]?) = wc.map some) (hR : isR.map (fun i => ws[i]?) = wr.map some) (hn : va_nd isR = true) (hdis : ∀ i ∈ isR, i ∉ isC)
    (kk : ∀ (r : Int32) (u : S) (H1 : Heap) (locs1 : List Loc), post r u → va_P K.1 mx_cl (wr ++ w1 u) H1 → va_D A (wr ++ w1 u) → va_S A s.heap H1 locs1 → W p l e R s m args below meth c H1 locs1 (cells + mc) (slots + ms) Q (F0 m (pc + 3) ls (.int r :: rest))) : W p l e R s m args below meth c H locs cells slots Q (F0 m pc ls st0) := by
  obtain ⟨hx, hb, hml, hown, hT, hK, hN, hE, hA⟩ := F
  have hF := va_free (wc := wc) hD hS hA isC hC
  refine va_calli hr hS (fun q _ h => hF q h) hF (fun r u t H1 locs1 ht hvm hpost hB hz1 hk1 hS1 => ?_)
  obtain ⟨hP1, hD1⟩ := hB
  rw [ht] at hP1
  obtain ⟨hP2, hD2⟩ := va_join hP hD isC isR hC hR hn hdis hk1 hF hP1 hD1
  exact kk r u H1 locs1 hpost hP2 hD2 hS1
theorem mx_cj {post : Int64 → S → Prop} (F : mx_F p s m args c cc nL own K A) (hr : va_Run p l e R s m args below meth c H locs cells slots mc ms (F0 m pc ls st0) rest (va_Ql post (mx_B K (va_A wc H.size) w1) (va_A wc H.size) av) (va_A wc H.size)) (hP : va_P K.1 mx_cl ws H) (hD : va_D A ws) (hS : va_S A s.heap H locs) (isC isR : List Nat) (hC : isC.map (fun i => ws[i]?) = wc.map some) (hR : isR.map (fun i => ws[i]?) = wr.map some) (hn : va_nd isR = true) (hdis : ∀ i ∈ isR, i ∉ isC)
    (kk : ∀ (r : Int64) (u : S) (H1 : Heap) (locs1 : List Loc), post r u → va_P K.1 mx_cl (wr ++ w1 u) H1 → va_D A (wr ++ w1 u) → va_S A s.heap H1 locs1 → W p l e R s m args below meth c H1 locs1 (cells + mc) (slots + ms) Q (F0 m (pc + 3) ls (.long r :: rest))) : W p l e R s m args below meth c H locs cells slots Q (F0 m pc ls st0) := by
  obtain ⟨hx, hb, hml, hown, hT, hK, hN, hE, hA⟩ := F
  have hF := va_free (wc := wc) hD hS hA isC hC
  refine va_calll hr hS (fun q _ h => hF q h) hF (fun r u t H1 locs1 ht hvm hpost hB hz1 hk1 hS1 => ?_)
  obtain ⟨hP1, hD1⟩ := hB
  rw [ht] at hP1
  obtain ⟨hP2, hD2⟩ := va_join hP hD isC isR hC hR hn hdis hk1 hF hP1 hD1
  exact kk r u H1 locs1 hpost hP2 hD2 hS1
/-- a new array: its class is the one that is known -/
theorem mx_newa (F : mx_F p s m args c cc nL own K A) {atype : ArrayType} {ty : FieldType} {cA : ClassId} (hw : Cond.arrayClass ty ∈ mx_T) (hty : newarray.typeOf atype = ty) (t0 : Nat) (ht : (mx_ty K)[t0]? = some (cA, ty)) (hP : va_P K.1 mx_cl ws H) (hD : va_D A ws) (hS : va_S A s.heap H locs)
    {n : Int32} {N' : Nat} {a0 : vp_A} (ha : ∀ cA : ClassId, vp_cell cA a0 = arrV cA N' (fun _ => defaultValue ty)) (hn : ¬ n < 0) (hN : n.toNatClampNeg = N') (hbytes : N' * componentBytes ty ≤ 536870912) (hcells : cells + 1 ≤ R.cells) (hslots : slots + N' ≤ R.slots) (hdg : decode cc pc = .ok (.newarray atype, 2)) (hob : ∀ C : String, ¬ ty = .object C)
    (kk : ∀ (q : Nat) (H1 : Heap), va_P K.1 mx_cl (ws ++ [(q, .inl (cA, a0))]) H1 → va_D A (ws ++ [(q, .inl (cA, a0))]) → va_S A s.heap H1 locs → W p l e R s m args below meth c H1 locs (cells + 1) (slots + N') Q (F0 m (pc + 2) ls (.ref q :: rest))) : W p l e R s m args below meth c H locs cells slots Q (F0 m pc ls (.int n :: rest)) := by
  obtain ⟨hx, hb, hml, hown, hT, hK, hN0, hE, hA⟩ := F
  refine va_newa hx hb (by rw [hty]; exact hT _ hw) hty hK hP hD hS hA ha hn hN hbytes hcells hslots hdg (fun q cB H1 hK1 hP1 hD1 hS1 => ?_)
  have e1 := (hK.2 t0 _ ht).2
  have e2 := (hK1.2 (mx_ty K).length (cB, ty) (by simp)).2
  have e3 : cB = cA := by
    cases ty <;> first | (exact absurd rfl (hob _)) | exact Option.some.inj (e2.symm.trans e1)
  subst e3
  exact kk q H1 hP1 hD1 hS1
/-- ends -/
theorem mx_rv {post : S → Prop} (F : mx_F p s m args c cc nL own K A) (hr : meth.sig.returnType = none) (hlk : meth.locks = false) (hP : va_P K.1 mx_cl ws H) (hD : va_D A ws) (hS : va_S A s.heap H locs) (u : S) (is : List Nat) (h2 : is.map (fun i => ws[i]?) = (w1 u).map some) (hnd : va_nd is = true) (hp : post u) (hc : cells ≤ mc) (hs : slots ≤ ms) (hdg : decode cc pc = .ok (.return_, 1)) :
    W p l e R s m args below meth c H locs cells slots (MQ below (va_Qv post (mx_B K A w1) A) args s mc ms A) (F0 m pc ls []) := by
  obtain ⟨hx, hb, hml, hown, hT, hK, hN, hE, hA⟩ := F
  have hw : is.filterMap (fun i => ws[i]?) = w1 u := by
    have h1 : (is.map (fun i => ws[i]?)).filterMap id = ((w1 u).map some).filterMap id := by rw [h2]
    simpa [List.filterMap_map] using h1
  have hP9 := hP.sub is hw
  have hD9 := hD.sub is hnd h2
  refine W.widen (k := mc) (n := ms) hc hs ?_
  exact W.vret hx hb hr (fun t ht hW => ⟨⟨u, rfl, hp, by rw [ht]; exact hP9, hD9⟩, hS.F ht⟩) hS.2.2 hdg hlk
theorem mx_ri {post : Int32 → S → Prop} {v : Int32} {ty : FieldType} (F : mx_F p s m args c cc nL own K A) (hr : meth.sig.returnType = some ty) (hlk : meth.locks = false) (hnr : narrow ty (.int v) = .int v) (hP : va_P K.1 mx_cl ws H) (hD : va_D A ws) (hS : va_S A s.heap H locs) (u : S) (is : List Nat) (h2 : is.map (fun i => ws[i]?) = (w1 u).map some) (hnd : va_nd is = true) (hp : post v u) (hc : cells ≤ mc) (hs : slots ≤ ms) (hdg : decode cc pc = .ok (.ireturn, 1)) :
    W p l e R s m args below meth c H locs cells slots (MQ below (va_Qi post (mx_B K A w1) A) args s mc ms A) (F0 m pc ls [.int v]) := by
  obtain ⟨hx, hb, hml, hown, hT, hK, hN, hE, hA⟩ := F
  have hw : is.filterMap (fun i => ws[i]?) = w1 u := by
    have h1 : (is.map (fun i => ws[i]?)).filterMap id = ((w1 u).map some).filterMap id := by rw [h2]
    simpa [List.filterMap_map] using h1
  have hP9 := hP.sub is hw
  have hD9 := hD.sub is hnd h2
  refine W.widen (k := mc) (n := ms) hc hs ?_
  exact W.zret hx hb hr hnr (fun t ht hW => ⟨⟨v, u, rfl, hp, by rw [ht]; exact hP9, hD9⟩, hS.F ht⟩) hS.2.2 hdg hlk
theorem mx_rl {post : Int64 → S → Prop} {v : Int64} (F : mx_F p s m args c cc nL own K A) (hr : meth.sig.returnType = some .long) (hlk : meth.locks = false) (hP : va_P K.1 mx_cl ws H) (hD : va_D A ws) (hS : va_S A s.heap H locs) (u : S) (is : List Nat) (h2 : is.map (fun i => ws[i]?) = (w1 u).map some) (hnd : va_nd is = true) (hp : post v u) (hc : cells ≤ mc) (hs : slots ≤ ms) (hdg : decode cc pc = .ok (.lreturn, 1)) :
    W p l e R s m args below meth c H locs cells slots (MQ below (va_Ql post (mx_B K A w1) A) args s mc ms A) (F0 m pc ls [.long v]) := by
  obtain ⟨hx, hb, hml, hown, hT, hK, hN, hE, hA⟩ := F
  have hw : is.filterMap (fun i => ws[i]?) = w1 u := by
    have h1 : (is.map (fun i => ws[i]?)).filterMap id = ((w1 u).map some).filterMap id := by rw [h2]
    simpa [List.filterMap_map] using h1
  have hP9 := hP.sub is hw
  have hD9 := hD.sub is hnd h2
  refine W.widen (k := mc) (n := ms) hc hs ?_
  exact W.lret hx hb hr (fun t ht hW => ⟨⟨v, u, rfl, hp, by rw [ht]; exact hP9, hD9⟩, hS.F ht⟩) hS.2.2 hdg hlk
end MXR
end
section
/-! numbers that the calls on a fresh object answer -/
def mx_holds (a : Int64) (b : Int32) : Int32 := if ¬ a < 0 ∧ ¬ (4096 - b).toInt64 < a then 1 else 0
theorem mx_i0 : (0 : Int32).toInt = 0 := by decide
theorem mx_in {x : Int32} {N : Nat} (h0 : ¬ x < 0) (h : ¬ nI N ≤ x) (hN : N < 2 ^ 31) : vp_in x N := by
  obtain ⟨j, hj, rfl⟩ := nI_of h0
  rw [nI_leI hN hj] at h
  exact vp_in_nI (by omega) hN
theorem mx_lt {x : Int32} {a : Nat} (h : ¬ nI a < x) (ha : a + 1 < 2 ^ 31 := by decide) : ¬ nI (a + 1) ≤ x := by
  intro q
  rw [Int32.le_iff_toInt_le, nI_toInt ha] at q
  rw [Int32.lt_iff_toInt_lt, nI_toInt (by omega)] at h
  omega
theorem mx_lN0 : (0 : Int64) = lN 0 := rfl
theorem mx_h4096 {n : Nat} (hn : n ≤ 8) : ((4096 : Int32) - nI n).toInt64 = lN (4096 - n) := by
  have e : (4096 : Int32) - nI n = nI (4096 - n) := pk_sub (a := 4096) (b := n) (by omega)
  rw [e, nI_l (by omega)]
theorem mx_holds_in {n k : Nat} (hn : n ≤ 8) (hk : k + n ≤ 4096) : mx_holds (lN k) (nI n) = 1 := by
  unfold mx_holds
  rw [mx_h4096 hn, if_pos]
  refine ⟨?_, ?_⟩
  · rw [mx_lN0, lN_lt (by omega) (by omega)]; omega
  · rw [lN_lt (by omega) (by omega)]; omega
theorem mx_holds_of {x : Int32} {n : Nat} (hn : n ≤ 8) (h : ¬ mx_holds x.toInt64 (nI n) = 0) : ∃ k : Nat, k + n ≤ 4096 ∧ x = nI k := by
  unfold mx_holds at h
  by_cases hc : ¬ x.toInt64 < 0 ∧ ¬ ((4096 : Int32) - nI n).toInt64 < x.toInt64
  · obtain ⟨h1, h2⟩ := hc
    rw [mx_h4096 hn] at h2
    have h0 : ¬ x < 0 := by
      intro q
      apply h1
      rw [Int64.lt_iff_toInt_lt, Int32.toInt_toInt64]
      rw [Int32.lt_iff_toInt_lt] at q
      exact q
    obtain ⟨k, hk, rfl⟩ := nI_of h0
    rw [nI_l hk, lN_lt (by omega) hk] at h2
    exact ⟨k, by omega, rfl⟩
  · rw [if_neg hc] at h
    exact absurd rfl h
theorem pf_lI {a : Nat} (h : a < 2 ^ 63) : (lN a).toInt = (a : Int) := lg_ofNat_toInt h
theorem pf_shr {a d : Nat} {D : Int64} (hD : (D.toBitVec.smod 64).toNat = d) (h : a < 2 ^ 62) : lN a >>> D = lN (a / 2 ^ d) := by
  have hd : a / 2 ^ d ≤ a := Nat.div_le_self _ _
  apply Int64.toInt_inj.mp
  have e : (lN a >>> D).toInt = (lN a).toInt >>> d := by
    rw [← hD]
    exact BitVec.toInt_sshiftRight ..
  rw [e, Int.shiftRight_eq_div_pow, pf_lI (by omega), pf_lI (by omega)]
  rfl
theorem mx_sh3 {k : Nat} (hk : k < 2 ^ 31) : lN k >>> ((3 : Int32).toInt64 &&& 63) = lN (k / 8) := pf_shr (d := 3) (by decide) (by omega)
theorem mx_ushr0 (x : UInt64) : ((0 : Int64).toUInt64 >>> x).toInt64 = 0 := by
  have e : (0 : Int64).toUInt64 = 0 := rfl
  rw [e]
  have e2 : (0 : UInt64) >>> x = 0 := by
    apply UInt64.toNat_inj.mp
    simp
  rw [e2]
  rfl
theorem mx_land0 (x : Int64) : 0 &&& x = 0 := by simp
def mx_spec (k : Int32) : Int64 := if k = 19 then 255 else 0
theorem mx_spec_19 {k : Int32} (h : k = 19) : (255 : Int64) = mx_spec k := (if_pos h).symm
theorem mx_spec_no {k : Int32} (h : ¬ k = 19) : (0 : Int64) = mx_spec k := (if_neg h).symm
def mx_asm (n : Int32) : Int32 := if n = 0 then 0 else -1
theorem mx_asm_lt {n : Int32} (h : n < 0) : (-1 : Int32) = mx_asm n := (if_neg (fun q => absurd h (by rw [q]; decide))).symm
theorem mx_asm_gt {n : Int32} (h : ¬ n ≤ 0) : (-1 : Int32) = mx_asm n := (if_neg (fun q => h (by rw [q]; decide))).symm
theorem mx_asm_0 : (0 : Int32) = mx_asm 0 := rfl
theorem mx_n0 {n : Int32} (h1 : ¬ n < 0) (h2 : n ≤ 0) : n = 0 := by
  rw [Int32.lt_iff_toInt_lt, mx_i0] at h1
  rw [Int32.le_iff_toInt_le, mx_i0] at h2
  exact Int32.toInt_inj.mp (by rw [mx_i0]; omega)
def mx_byte (x : Int32) : Int32 := if 0 ≤ x.toInt ∧ x.toInt < 4096 then 0 else -1
theorem mx_byte_in {k : Nat} (h : k < 4096) : (0 : Int32) = mx_byte (nI k) := by
  unfold mx_byte
  rw [if_pos]
  rw [nI_toInt (by omega)]
  omega
theorem mx_i4096 : (4096 : Int32).toInt = 4096 := by decide
theorem mx_i4088 : (4088 : Int32).toInt = 4088 := by decide
theorem mx_byte_in2 {x : Int32} (h1 : ¬ x < 0) (h2 : x < 4096) : (0 : Int32) = mx_byte x := by
  rw [Int32.lt_iff_toInt_lt, mx_i0] at h1
  rw [Int32.lt_iff_toInt_lt, mx_i4096] at h2
  unfold mx_byte
  rw [if_pos ⟨by omega, by omega⟩]
theorem mx_byte_o1 {x : Int32} (h1 : x < 0) : (-1 : Int32) = mx_byte x := by
  rw [Int32.lt_iff_toInt_lt, mx_i0] at h1
  unfold mx_byte
  rw [if_neg (fun q => by omega)]
theorem mx_byte_o2 {x : Int32} (h2 : ¬ x < 4096) : (-1 : Int32) = mx_byte x := by
  rw [Int32.lt_iff_toInt_lt, mx_i4096] at h2
  unfold mx_byte
  rw [if_neg (fun q => by omega)]
theorem mx_byte_out {x : Int32} (h : mx_holds x.toInt64 1 = 0) : (-1 : Int32) = mx_byte x := by
  unfold mx_byte
  rw [if_neg]
  intro q
  obtain ⟨k, hk, rfl⟩ := nI_of (x := x) (by rw [Int32.lt_iff_toInt_lt, mx_i0]; omega)
  rw [nI_toInt hk] at q
  rw [nI_l hk, show mx_holds (lN k) 1 = 1 from mx_holds_in (n := 1) (by omega) (by omega)] at h
  exact absurd h (by decide)
def mx_store (x : Int32) : Int32 := if 0 ≤ x.toInt ∧ x.toInt ≤ 4088 ∧ x.toInt % 8 = 0 then 1 else 0
theorem mx_store_out {x : Int32} (h : mx_holds x.toInt64 8 = 0) : (0 : Int32) = mx_store x := by
  unfold mx_store
  rw [if_neg]
  intro q
  obtain ⟨k, hk, rfl⟩ := nI_of (x := x) (by rw [Int32.lt_iff_toInt_lt, mx_i0]; omega)
  rw [nI_toInt hk] at q
  rw [nI_l hk, show mx_holds (lN k) 8 = 1 from mx_holds_in (n := 8) (by omega) (by omega)] at h
  exact absurd h (by decide)
theorem mx_and7 {k : Nat} (hk : k < 4096) : nI k &&& 7 = nI (k % 8) := pk_andN (by omega) 3 (by decide)
theorem mx_store_odd {k : Nat} (hk : k + 8 ≤ 4096) (h : ¬ nI k &&& 7 = 0) : (0 : Int32) = mx_store (nI k) := by
  rw [mx_and7 (by omega)] at h
  have h2 : ¬ k % 8 = 0 := fun q => h (by rw [q]; rfl)
  unfold mx_store
  rw [if_neg]
  intro q
  rw [nI_toInt (by omega)] at q
  omega
theorem mx_store_in {k : Nat} (hk : k + 8 ≤ 4096) (h : nI k &&& 7 = 0) : (1 : Int32) = mx_store (nI k) := by
  rw [mx_and7 (by omega), show (0 : Int32) = nI 0 from rfl, nI_eq (by omega) (by omega)] at h
  unfold mx_store
  rw [if_pos]
  rw [nI_toInt (by omega)]
  omega
theorem mx_store_o1 {x : Int32} (h : x < 0) : (0 : Int32) = mx_store x := by
  rw [Int32.lt_iff_toInt_lt, mx_i0] at h
  unfold mx_store
  rw [if_neg (fun q => by omega)]
theorem mx_store_o2 {x : Int32} (h : 4088 < x) : (0 : Int32) = mx_store x := by
  rw [Int32.lt_iff_toInt_lt, mx_i4088] at h
  unfold mx_store
  rw [if_neg (fun q => by omega)]
theorem mx_rem8 {k : Nat} (hk : k ≤ 4088) : nI k - nI k / 8 * 8 = nI (k % 8) := pk_rem (a := k) (d := 8) (by omega) (by omega) (by omega)
theorem mx_store_o3 {k : Nat} (hk : k ≤ 4088) (h : ¬ nI k - nI k / 8 * 8 = 0) : (0 : Int32) = mx_store (nI k) := by
  rw [mx_rem8 hk] at h
  have h2 : ¬ k % 8 = 0 := fun q => h (by rw [q]; rfl)
  unfold mx_store
  rw [if_neg]
  intro q
  rw [nI_toInt (by omega)] at q
  omega
theorem mx_store_in2 {k : Nat} (hk : k ≤ 4088) (h : nI k - nI k / 8 * 8 = 0) : (1 : Int32) = mx_store (nI k) := by
  rw [mx_rem8 hk, show (0 : Int32) = nI 0 from rfl, nI_eq (by omega) (by omega)] at h
  unfold mx_store
  rw [if_pos]
  rw [nI_toInt (by omega)]
  omega
theorem mx_upto {x : Int32} {n : Nat} (hn : n < 2 ^ 31) (h1 : ¬ x < 0) (h2 : ¬ nI n < x) : ∃ k : Nat, k ≤ n ∧ x = nI k := by
  obtain ⟨k, hk, rfl⟩ := nI_of h1
  rw [nI_ltI hn hk] at h2
  exact ⟨k, by omega, rfl⟩
def mx_take (w : Int32) : Int32 := if w = 0 ∨ w = 1 ∨ w = 2 then 0 else -1
theorem mx_take3 (w : Int32) : w = 0 ∨ w = 1 ∨ w = 2 ∨ ((-1 : Int32) = mx_take w ∧ (w.toInt < 0 ∨ 2 < w.toInt)) := by
  by_cases h0 : w = 0
  · exact Or.inl h0
  by_cases h1 : w = 1
  · exact Or.inr (Or.inl h1)
  by_cases h2 : w = 2
  · exact Or.inr (Or.inr (Or.inl h2))
  refine Or.inr (Or.inr (Or.inr ⟨?_, ?_⟩))
  · unfold mx_take
    rw [if_neg (fun q => q.elim h0 (fun q => q.elim h1 h2))]
  · have e0 : ¬ w.toInt = 0 := fun q => h0 (Int32.toInt_inj.mp (by rw [q]; decide))
    have e1 : ¬ w.toInt = 1 := fun q => h1 (Int32.toInt_inj.mp (by rw [q]; decide))
    have e2 : ¬ w.toInt = 2 := fun q => h2 (Int32.toInt_inj.mp (by rw [q]; decide))
    omega
theorem mx_t0 : (0 : Int64).toInt = 0 := by decide
theorem mx_t1 : (1 : Int64).toInt = 1 := by decide
theorem mx_t2 : (2 : Int64).toInt = 2 := by decide
theorem mx_t7 : (7 : Int64).toInt = 7 := by decide
theorem mx_t18 : (18 : Int64).toInt = 18 := by decide
theorem mx_t22 : (22 : Int64).toInt = 22 := by decide
theorem mx_t23 : (23 : Int64).toInt = 23 := by decide
theorem mx_t28 : (28 : Int64).toInt = 28 := by decide
theorem mx_inT {x : Int32} {N : Nat} (h0 : 0 ≤ x.toInt) (h : x.toInt < N) : vp_in x N := vp_in_iff.mpr ⟨h0, h⟩
theorem mx_L6 : ∀ L : Nat, L < 6 → (nI L - 6) < 0 := by decide
theorem mx_sp1 {r k : Int32} (h : (r = 1 ∧ 0 ≤ k.toInt64.toInt ∧ k.toInt64.toInt < 28) ∨ (r = 0 ∧ ¬ k.toInt64.toInt = 19)) (h0 : ¬ r = 0) : 0 ≤ k.toInt ∧ k.toInt < 28 := by
  rw [Int32.toInt_toInt64] at h
  rcases h with h | h
  · exact h.2
  · exact absurd h.1 h0
theorem mx_sp0 {r k : Int32} (h : (r = 1 ∧ 0 ≤ k.toInt64.toInt ∧ k.toInt64.toInt < 28) ∨ (r = 0 ∧ ¬ k.toInt64.toInt = 19)) (h0 : r = 0) : ¬ k = 19 := by
  rw [Int32.toInt_toInt64] at h
  rcases h with h | h
  · rw [h0] at h
    exact absurd h.1 (by decide)
  · intro q
    apply h.2
    rw [q]
    decide
end
