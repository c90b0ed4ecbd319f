-- ===== PART A: goes FIRST, ahead of the names: the tables' words, and 'selects' of the private methods out of them =====
/-- a private method of a class that the tables say can be made, by its rows of tables_1 -/
def lw_okq (q : MethodName × Nat) : Prop := (q.1.cls ≠ "java/lang/invoke/MethodHandle" ∧ q.1.cls ≠ "java/lang/invoke/VarHandle") ∧ Cond.instantiable q.1.cls q.2 ∈ tables_1 ∧ Cond.privateMethod q.1 ∈ tables_1 ∧ Cond.instanceMethod q.1 ∈ tables_1
theorem lw_p0 : lw_okq (⟨"java/lang/Throwable", "fillInStackTrace", "(I)Ljava/lang/Throwable;"⟩, 6) := ⟨⟨by decide +kernel, by decide +kernel⟩, List.mem_of_getElem? (i := 365) (by decide +kernel), List.mem_of_getElem? (i := 363) (by decide +kernel), List.mem_of_getElem? (i := 364) (by decide +kernel)⟩
theorem lw_p1 : lw_okq (⟨"TurnerHeap", "forget", "()V"⟩, 10) := ⟨⟨by decide +kernel, by decide +kernel⟩, List.mem_of_getElem? (i := 25) (by decide +kernel), List.mem_of_getElem? (i := 426) (by decide +kernel), List.mem_of_getElem? (i := 427) (by decide +kernel)⟩
theorem lw_p2 : lw_okq (⟨"TurnerHeap$Lexemes", "add", "(II)V"⟩, 3) := ⟨⟨by decide +kernel, by decide +kernel⟩, List.mem_of_getElem? (i := 33) (by decide +kernel), List.mem_of_getElem? (i := 451) (by decide +kernel), List.mem_of_getElem? (i := 452) (by decide +kernel)⟩
theorem lw_p3 : lw_okq (⟨"TurnerHeap$Reader", "findNames", "()V"⟩, 12) := ⟨⟨by decide +kernel, by decide +kernel⟩, List.mem_of_getElem? (i := 84) (by decide +kernel), List.mem_of_getElem? (i := 555) (by decide +kernel), List.mem_of_getElem? (i := 556) (by decide +kernel)⟩
theorem lw_p4 : lw_okq (⟨"TurnerHeap$Reader", "isWord", "(I)Z"⟩, 12) := ⟨⟨by decide +kernel, by decide +kernel⟩, List.mem_of_getElem? (i := 84) (by decide +kernel), List.mem_of_getElem? (i := 576) (by decide +kernel), List.mem_of_getElem? (i := 577) (by decide +kernel)⟩
theorem lw_p5 : lw_okq (⟨"TurnerHeap$Reader", "expect", "(I)V"⟩, 12) := ⟨⟨by decide +kernel, by decide +kernel⟩, List.mem_of_getElem? (i := 84) (by decide +kernel), List.mem_of_getElem? (i := 584) (by decide +kernel), List.mem_of_getElem? (i := 585) (by decide +kernel)⟩
theorem lw_p6 : lw_okq (⟨"TurnerHeap$Reader", "readParameter", "()V"⟩, 12) := ⟨⟨by decide +kernel, by decide +kernel⟩, List.mem_of_getElem? (i := 84) (by decide +kernel), List.mem_of_getElem? (i := 591) (by decide +kernel), List.mem_of_getElem? (i := 592) (by decide +kernel)⟩
theorem lw_p7 : lw_okq (⟨"TurnerHeap$Reader", "isInScope", "(I)Z"⟩, 12) := ⟨⟨by decide +kernel, by decide +kernel⟩, List.mem_of_getElem? (i := 84) (by decide +kernel), List.mem_of_getElem? (i := 595) (by decide +kernel), List.mem_of_getElem? (i := 596) (by decide +kernel)⟩
theorem lw_p8 : lw_okq (⟨"TurnerHeap$Reader", "expression", "(I)J"⟩, 12) := ⟨⟨by decide +kernel, by decide +kernel⟩, List.mem_of_getElem? (i := 84) (by decide +kernel), List.mem_of_getElem? (i := 603) (by decide +kernel), List.mem_of_getElem? (i := 604) (by decide +kernel)⟩
theorem lw_p9 : lw_okq (⟨"TurnerHeap$Reader", "choice", "(I)J"⟩, 12) := ⟨⟨by decide +kernel, by decide +kernel⟩, List.mem_of_getElem? (i := 84) (by decide +kernel), List.mem_of_getElem? (i := 608) (by decide +kernel), List.mem_of_getElem? (i := 609) (by decide +kernel)⟩
theorem lw_p10 : lw_okq (⟨"TurnerHeap$Reader", "expectWord", "(I)V"⟩, 12) := ⟨⟨by decide +kernel, by decide +kernel⟩, List.mem_of_getElem? (i := 84) (by decide +kernel), List.mem_of_getElem? (i := 613) (by decide +kernel), List.mem_of_getElem? (i := 614) (by decide +kernel)⟩
theorem lw_p11 : lw_okq (⟨"TurnerHeap$Reader", "function", "(I)J"⟩, 12) := ⟨⟨by decide +kernel, by decide +kernel⟩, List.mem_of_getElem? (i := 84) (by decide +kernel), List.mem_of_getElem? (i := 635) (by decide +kernel), List.mem_of_getElem? (i := 636) (by decide +kernel)⟩
theorem lw_p12 : lw_okq (⟨"TurnerHeap$Terms", "listSide", "(JI)I"⟩, 8) := ⟨⟨by decide +kernel, by decide +kernel⟩, List.mem_of_getElem? (i := 51) (by decide +kernel), List.mem_of_getElem? (i := 653) (by decide +kernel), List.mem_of_getElem? (i := 654) (by decide +kernel)⟩
theorem lw_p13 : lw_okq (⟨"TurnerHeap$Terms", "takeOutOf", "(IJ)V"⟩, 8) := ⟨⟨by decide +kernel, by decide +kernel⟩, List.mem_of_getElem? (i := 51) (by decide +kernel), List.mem_of_getElem? (i := 657) (by decide +kernel), List.mem_of_getElem? (i := 658) (by decide +kernel)⟩
theorem lw_p14 : lw_okq (⟨"TurnerHeap$Terms", "hasName", "(JJ)Z"⟩, 8) := ⟨⟨by decide +kernel, by decide +kernel⟩, List.mem_of_getElem? (i := 51) (by decide +kernel), List.mem_of_getElem? (i := 661) (by decide +kernel), List.mem_of_getElem? (i := 662) (by decide +kernel)⟩
theorem lw_p15 : lw_okq (⟨"TurnerHeap$Terms", "withoutName", "(J)J"⟩, 8) := ⟨⟨by decide +kernel, by decide +kernel⟩, List.mem_of_getElem? (i := 51) (by decide +kernel), List.mem_of_getElem? (i := 665) (by decide +kernel), List.mem_of_getElem? (i := 666) (by decide +kernel)⟩
def lw_privs_1 : List (MethodName × Nat) := [(⟨"java/lang/Throwable", "fillInStackTrace", "(I)Ljava/lang/Throwable;"⟩, 6), (⟨"TurnerHeap", "forget", "()V"⟩, 10), (⟨"TurnerHeap$Lexemes", "add", "(II)V"⟩, 3), (⟨"TurnerHeap$Reader", "findNames", "()V"⟩, 12), (⟨"TurnerHeap$Reader", "isWord", "(I)Z"⟩, 12), (⟨"TurnerHeap$Reader", "expect", "(I)V"⟩, 12), (⟨"TurnerHeap$Reader", "readParameter", "()V"⟩, 12), (⟨"TurnerHeap$Reader", "isInScope", "(I)Z"⟩, 12), (⟨"TurnerHeap$Reader", "expression", "(I)J"⟩, 12), (⟨"TurnerHeap$Reader", "choice", "(I)J"⟩, 12), (⟨"TurnerHeap$Reader", "expectWord", "(I)V"⟩, 12), (⟨"TurnerHeap$Reader", "function", "(I)J"⟩, 12), (⟨"TurnerHeap$Terms", "listSide", "(JI)I"⟩, 8), (⟨"TurnerHeap$Terms", "takeOutOf", "(IJ)V"⟩, 8), (⟨"TurnerHeap$Terms", "hasName", "(JJ)Z"⟩, 8), (⟨"TurnerHeap$Terms", "withoutName", "(J)J"⟩, 8)]
theorem lw_r1 : ∀ q ∈ lw_privs_1, lw_okq q := List.forall_mem_cons.mpr ⟨lw_p0, List.forall_mem_cons.mpr ⟨lw_p1, List.forall_mem_cons.mpr ⟨lw_p2, List.forall_mem_cons.mpr ⟨lw_p3, List.forall_mem_cons.mpr ⟨lw_p4, List.forall_mem_cons.mpr ⟨lw_p5, List.forall_mem_cons.mpr ⟨lw_p6, List.forall_mem_cons.mpr ⟨lw_p7, List.forall_mem_cons.mpr ⟨lw_p8, List.forall_mem_cons.mpr ⟨lw_p9, List.forall_mem_cons.mpr ⟨lw_p10, List.forall_mem_cons.mpr ⟨lw_p11, List.forall_mem_cons.mpr ⟨lw_p12, List.forall_mem_cons.mpr ⟨lw_p13, List.forall_mem_cons.mpr ⟨lw_p14, List.forall_mem_cons.mpr ⟨lw_p15, fun _ h => absurd h List.not_mem_nil⟩⟩⟩⟩⟩⟩⟩⟩⟩⟩⟩⟩⟩⟩⟩⟩
theorem lw_p16 : lw_okq (⟨"TurnerHeap$Terms", "isK", "(J)Z"⟩, 8) := ⟨⟨by decide +kernel, by decide +kernel⟩, List.mem_of_getElem? (i := 51) (by decide +kernel), List.mem_of_getElem? (i := 669) (by decide +kernel), List.mem_of_getElem? (i := 670) (by decide +kernel)⟩
theorem lw_p17 : lw_okq (⟨"TurnerHeap$Terms", "unwrap", "(J)J"⟩, 8) := ⟨⟨by decide +kernel, by decide +kernel⟩, List.mem_of_getElem? (i := 51) (by decide +kernel), List.mem_of_getElem? (i := 673) (by decide +kernel), List.mem_of_getElem? (i := 674) (by decide +kernel)⟩
theorem lw_p18 : lw_okq (⟨"TurnerHeap$Terms", "drop", "(I)V"⟩, 8) := ⟨⟨by decide +kernel, by decide +kernel⟩, List.mem_of_getElem? (i := 51) (by decide +kernel), List.mem_of_getElem? (i := 677) (by decide +kernel), List.mem_of_getElem? (i := 678) (by decide +kernel)⟩
theorem lw_p19 : lw_okq (⟨"TurnerHeap$Terms", "joinConstant", "(IJJZ)J"⟩, 8) := ⟨⟨by decide +kernel, by decide +kernel⟩, List.mem_of_getElem? (i := 51) (by decide +kernel), List.mem_of_getElem? (i := 681) (by decide +kernel), List.mem_of_getElem? (i := 682) (by decide +kernel)⟩
theorem lw_p20 : lw_okq (⟨"TurnerHeap$Terms", "put", "(IJJ)J"⟩, 8) := ⟨⟨by decide +kernel, by decide +kernel⟩, List.mem_of_getElem? (i := 51) (by decide +kernel), List.mem_of_getElem? (i := 685) (by decide +kernel), List.mem_of_getElem? (i := 686) (by decide +kernel)⟩
theorem lw_p21 : lw_okq (⟨"TurnerHeap$Terms", "joinVarying", "(IJJZ)J"⟩, 8) := ⟨⟨by decide +kernel, by decide +kernel⟩, List.mem_of_getElem? (i := 51) (by decide +kernel), List.mem_of_getElem? (i := 689) (by decide +kernel), List.mem_of_getElem? (i := 690) (by decide +kernel)⟩
theorem lw_p22 : lw_okq (⟨"TurnerHeap$Terms", "isB", "(J)Z"⟩, 8) := ⟨⟨by decide +kernel, by decide +kernel⟩, List.mem_of_getElem? (i := 51) (by decide +kernel), List.mem_of_getElem? (i := 693) (by decide +kernel), List.mem_of_getElem? (i := 694) (by decide +kernel)⟩
theorem lw_p23 : lw_okq (⟨"TurnerHeap$Reader", "chain", "(I)J"⟩, 12) := ⟨⟨by decide +kernel, by decide +kernel⟩, List.mem_of_getElem? (i := 84) (by decide +kernel), List.mem_of_getElem? (i := 697) (by decide +kernel), List.mem_of_getElem? (i := 698) (by decide +kernel)⟩
theorem lw_p24 : lw_okq (⟨"TurnerHeap$Reader", "comparison", "(I)J"⟩, 12) := ⟨⟨by decide +kernel, by decide +kernel⟩, List.mem_of_getElem? (i := 84) (by decide +kernel), List.mem_of_getElem? (i := 701) (by decide +kernel), List.mem_of_getElem? (i := 702) (by decide +kernel)⟩
theorem lw_p25 : lw_okq (⟨"TurnerHeap$Reader", "sum", "(I)J"⟩, 12) := ⟨⟨by decide +kernel, by decide +kernel⟩, List.mem_of_getElem? (i := 84) (by decide +kernel), List.mem_of_getElem? (i := 705) (by decide +kernel), List.mem_of_getElem? (i := 706) (by decide +kernel)⟩
theorem lw_p26 : lw_okq (⟨"TurnerHeap$Reader", "product", "(I)J"⟩, 12) := ⟨⟨by decide +kernel, by decide +kernel⟩, List.mem_of_getElem? (i := 84) (by decide +kernel), List.mem_of_getElem? (i := 709) (by decide +kernel), List.mem_of_getElem? (i := 710) (by decide +kernel)⟩
theorem lw_p27 : lw_okq (⟨"TurnerHeap$Reader", "application", "(I)J"⟩, 12) := ⟨⟨by decide +kernel, by decide +kernel⟩, List.mem_of_getElem? (i := 84) (by decide +kernel), List.mem_of_getElem? (i := 713) (by decide +kernel), List.mem_of_getElem? (i := 714) (by decide +kernel)⟩
theorem lw_p28 : lw_okq (⟨"TurnerHeap$Reader", "atom", "(I)J"⟩, 12) := ⟨⟨by decide +kernel, by decide +kernel⟩, List.mem_of_getElem? (i := 84) (by decide +kernel), List.mem_of_getElem? (i := 717) (by decide +kernel), List.mem_of_getElem? (i := 718) (by decide +kernel)⟩
theorem lw_p29 : lw_okq (⟨"TurnerHeap$Reader", "beginsAtom", "()Z"⟩, 12) := ⟨⟨by decide +kernel, by decide +kernel⟩, List.mem_of_getElem? (i := 84) (by decide +kernel), List.mem_of_getElem? (i := 721) (by decide +kernel), List.mem_of_getElem? (i := 722) (by decide +kernel)⟩
theorem lw_p30 : lw_okq (⟨"TurnerHeap$Reader", "meaning", "(I)J"⟩, 12) := ⟨⟨by decide +kernel, by decide +kernel⟩, List.mem_of_getElem? (i := 84) (by decide +kernel), List.mem_of_getElem? (i := 730) (by decide +kernel), List.mem_of_getElem? (i := 731) (by decide +kernel)⟩
theorem lw_p31 : lw_okq (⟨"TurnerHeap$Reader", "row", "(I)J"⟩, 12) := ⟨⟨by decide +kernel, by decide +kernel⟩, List.mem_of_getElem? (i := 84) (by decide +kernel), List.mem_of_getElem? (i := 736) (by decide +kernel), List.mem_of_getElem? (i := 737) (by decide +kernel)⟩
def lw_privs_2 : List (MethodName × Nat) := [(⟨"TurnerHeap$Terms", "isK", "(J)Z"⟩, 8), (⟨"TurnerHeap$Terms", "unwrap", "(J)J"⟩, 8), (⟨"TurnerHeap$Terms", "drop", "(I)V"⟩, 8), (⟨"TurnerHeap$Terms", "joinConstant", "(IJJZ)J"⟩, 8), (⟨"TurnerHeap$Terms", "put", "(IJJ)J"⟩, 8), (⟨"TurnerHeap$Terms", "joinVarying", "(IJJZ)J"⟩, 8), (⟨"TurnerHeap$Terms", "isB", "(J)Z"⟩, 8), (⟨"TurnerHeap$Reader", "chain", "(I)J"⟩, 12), (⟨"TurnerHeap$Reader", "comparison", "(I)J"⟩, 12), (⟨"TurnerHeap$Reader", "sum", "(I)J"⟩, 12), (⟨"TurnerHeap$Reader", "product", "(I)J"⟩, 12), (⟨"TurnerHeap$Reader", "application", "(I)J"⟩, 12), (⟨"TurnerHeap$Reader", "atom", "(I)J"⟩, 12), (⟨"TurnerHeap$Reader", "beginsAtom", "()Z"⟩, 12), (⟨"TurnerHeap$Reader", "meaning", "(I)J"⟩, 12), (⟨"TurnerHeap$Reader", "row", "(I)J"⟩, 12)]
theorem lw_r2 : ∀ q ∈ lw_privs_2, lw_okq q := List.forall_mem_cons.mpr ⟨lw_p16, List.forall_mem_cons.mpr ⟨lw_p17, List.forall_mem_cons.mpr ⟨lw_p18, List.forall_mem_cons.mpr ⟨lw_p19, List.forall_mem_cons.mpr ⟨lw_p20, List.forall_mem_cons.mpr ⟨lw_p21, List.forall_mem_cons.mpr ⟨lw_p22, List.forall_mem_cons.mpr ⟨lw_p23, List.forall_mem_cons.mpr ⟨lw_p24, List.forall_mem_cons.mpr ⟨lw_p25, List.forall_mem_cons.mpr ⟨lw_p26, List.forall_mem_cons.mpr ⟨lw_p27, List.forall_mem_cons.mpr ⟨lw_p28, List.forall_mem_cons.mpr ⟨lw_p29, List.forall_mem_cons.mpr ⟨lw_p30, List.forall_mem_cons.mpr ⟨lw_p31, fun _ h => absurd h List.not_mem_nil⟩⟩⟩⟩⟩⟩⟩⟩⟩⟩⟩⟩⟩⟩⟩⟩
theorem lw_p32 : lw_okq (⟨"TurnerHeap$Reader", "await", "(J)V"⟩, 12) := ⟨⟨by decide +kernel, by decide +kernel⟩, List.mem_of_getElem? (i := 84) (by decide +kernel), List.mem_of_getElem? (i := 740) (by decide +kernel), List.mem_of_getElem? (i := 741) (by decide +kernel)⟩
theorem lw_p33 : lw_okq (⟨"TurnerHeap$Reader", "pairUp", "(IJ)J"⟩, 12) := ⟨⟨by decide +kernel, by decide +kernel⟩, List.mem_of_getElem? (i := 84) (by decide +kernel), List.mem_of_getElem? (i := 744) (by decide +kernel), List.mem_of_getElem? (i := 745) (by decide +kernel)⟩
theorem lw_p34 : lw_okq (⟨"TurnerHeap", "begin", "()V"⟩, 10) := ⟨⟨by decide +kernel, by decide +kernel⟩, List.mem_of_getElem? (i := 25) (by decide +kernel), List.mem_of_getElem? (i := 781) (by decide +kernel), List.mem_of_getElem? (i := 782) (by decide +kernel)⟩
theorem lw_p35 : lw_okq (⟨"TurnerHeap$Heap", "placed", "(J)J"⟩, 12) := ⟨⟨by decide +kernel, by decide +kernel⟩, List.mem_of_getElem? (i := 137) (by decide +kernel), List.mem_of_getElem? (i := 840) (by decide +kernel), List.mem_of_getElem? (i := 841) (by decide +kernel)⟩
theorem lw_p36 : lw_okq (⟨"TurnerHeap$Machine", "goLeft", "()Z"⟩, 18) := ⟨⟨by decide +kernel, by decide +kernel⟩, List.mem_of_getElem? (i := 202) (by decide +kernel), List.mem_of_getElem? (i := 876) (by decide +kernel), List.mem_of_getElem? (i := 877) (by decide +kernel)⟩
theorem lw_p37 : lw_okq (⟨"TurnerHeap$Machine", "halt", "(I)Z"⟩, 18) := ⟨⟨by decide +kernel, by decide +kernel⟩, List.mem_of_getElem? (i := 202) (by decide +kernel), List.mem_of_getElem? (i := 887) (by decide +kernel), List.mem_of_getElem? (i := 888) (by decide +kernel)⟩
theorem lw_p38 : lw_okq (⟨"TurnerHeap$Machine", "act", "()Z"⟩, 18) := ⟨⟨by decide +kernel, by decide +kernel⟩, List.mem_of_getElem? (i := 202) (by decide +kernel), List.mem_of_getElem? (i := 891) (by decide +kernel), List.mem_of_getElem? (i := 892) (by decide +kernel)⟩
theorem lw_p39 : lw_okq (⟨"TurnerHeap$Machine", "haveValue", "(II)Z"⟩, 18) := ⟨⟨by decide +kernel, by decide +kernel⟩, List.mem_of_getElem? (i := 202) (by decide +kernel), List.mem_of_getElem? (i := 908) (by decide +kernel), List.mem_of_getElem? (i := 909) (by decide +kernel)⟩
theorem lw_p40 : lw_okq (⟨"TurnerHeap$Machine", "argument", "(I)J"⟩, 18) := ⟨⟨by decide +kernel, by decide +kernel⟩, List.mem_of_getElem? (i := 202) (by decide +kernel), List.mem_of_getElem? (i := 912) (by decide +kernel), List.mem_of_getElem? (i := 913) (by decide +kernel)⟩
theorem lw_p41 : lw_okq (⟨"TurnerHeap$Machine", "printLeftSide", "(II)Z"⟩, 18) := ⟨⟨by decide +kernel, by decide +kernel⟩, List.mem_of_getElem? (i := 202) (by decide +kernel), List.mem_of_getElem? (i := 921) (by decide +kernel), List.mem_of_getElem? (i := 922) (by decide +kernel)⟩
theorem lw_p42 : lw_okq (⟨"TurnerHeap$Machine", "printValue", "(II)V"⟩, 18) := ⟨⟨by decide +kernel, by decide +kernel⟩, List.mem_of_getElem? (i := 202) (by decide +kernel), List.mem_of_getElem? (i := 925) (by decide +kernel), List.mem_of_getElem? (i := 926) (by decide +kernel)⟩
theorem lw_p43 : lw_okq (⟨"TurnerHeap$Machine", "printTerm", "(II)Z"⟩, 18) := ⟨⟨by decide +kernel, by decide +kernel⟩, List.mem_of_getElem? (i := 202) (by decide +kernel), List.mem_of_getElem? (i := 940) (by decide +kernel), List.mem_of_getElem? (i := 941) (by decide +kernel)⟩
theorem lw_p44 : lw_okq (⟨"TurnerHeap$Machine", "goOn", "(II)Z"⟩, 18) := ⟨⟨by decide +kernel, by decide +kernel⟩, List.mem_of_getElem? (i := 202) (by decide +kernel), List.mem_of_getElem? (i := 944) (by decide +kernel), List.mem_of_getElem? (i := 945) (by decide +kernel)⟩
theorem lw_p45 : lw_okq (⟨"TurnerHeap$Machine", "choose", "(I)Z"⟩, 18) := ⟨⟨by decide +kernel, by decide +kernel⟩, List.mem_of_getElem? (i := 202) (by decide +kernel), List.mem_of_getElem? (i := 948) (by decide +kernel), List.mem_of_getElem? (i := 949) (by decide +kernel)⟩
theorem lw_p46 : lw_okq (⟨"TurnerHeap$Machine", "overwrite", "(IJJ)Z"⟩, 18) := ⟨⟨by decide +kernel, by decide +kernel⟩, List.mem_of_getElem? (i := 202) (by decide +kernel), List.mem_of_getElem? (i := 953) (by decide +kernel), List.mem_of_getElem? (i := 954) (by decide +kernel)⟩
theorem lw_p47 : lw_okq (⟨"TurnerHeap$Machine", "takeApart", "(II)Z"⟩, 18) := ⟨⟨by decide +kernel, by decide +kernel⟩, List.mem_of_getElem? (i := 202) (by decide +kernel), List.mem_of_getElem? (i := 958) (by decide +kernel), List.mem_of_getElem? (i := 959) (by decide +kernel)⟩
def lw_privs_3 : List (MethodName × Nat) := [(⟨"TurnerHeap$Reader", "await", "(J)V"⟩, 12), (⟨"TurnerHeap$Reader", "pairUp", "(IJ)J"⟩, 12), (⟨"TurnerHeap", "begin", "()V"⟩, 10), (⟨"TurnerHeap$Heap", "placed", "(J)J"⟩, 12), (⟨"TurnerHeap$Machine", "goLeft", "()Z"⟩, 18), (⟨"TurnerHeap$Machine", "halt", "(I)Z"⟩, 18), (⟨"TurnerHeap$Machine", "act", "()Z"⟩, 18), (⟨"TurnerHeap$Machine", "haveValue", "(II)Z"⟩, 18), (⟨"TurnerHeap$Machine", "argument", "(I)J"⟩, 18), (⟨"TurnerHeap$Machine", "printLeftSide", "(II)Z"⟩, 18), (⟨"TurnerHeap$Machine", "printValue", "(II)V"⟩, 18), (⟨"TurnerHeap$Machine", "printTerm", "(II)Z"⟩, 18), (⟨"TurnerHeap$Machine", "goOn", "(II)Z"⟩, 18), (⟨"TurnerHeap$Machine", "choose", "(I)Z"⟩, 18), (⟨"TurnerHeap$Machine", "overwrite", "(IJJ)Z"⟩, 18), (⟨"TurnerHeap$Machine", "takeApart", "(II)Z"⟩, 18)]
theorem lw_r3 : ∀ q ∈ lw_privs_3, lw_okq q := List.forall_mem_cons.mpr ⟨lw_p32, List.forall_mem_cons.mpr ⟨lw_p33, List.forall_mem_cons.mpr ⟨lw_p34, List.forall_mem_cons.mpr ⟨lw_p35, List.forall_mem_cons.mpr ⟨lw_p36, List.forall_mem_cons.mpr ⟨lw_p37, List.forall_mem_cons.mpr ⟨lw_p38, List.forall_mem_cons.mpr ⟨lw_p39, List.forall_mem_cons.mpr ⟨lw_p40, List.forall_mem_cons.mpr ⟨lw_p41, List.forall_mem_cons.mpr ⟨lw_p42, List.forall_mem_cons.mpr ⟨lw_p43, List.forall_mem_cons.mpr ⟨lw_p44, List.forall_mem_cons.mpr ⟨lw_p45, List.forall_mem_cons.mpr ⟨lw_p46, List.forall_mem_cons.mpr ⟨lw_p47, fun _ h => absurd h List.not_mem_nil⟩⟩⟩⟩⟩⟩⟩⟩⟩⟩⟩⟩⟩⟩⟩⟩
theorem lw_p48 : lw_okq (⟨"TurnerHeap$Machine", "ask", "(IZI)Z"⟩, 18) := ⟨⟨by decide +kernel, by decide +kernel⟩, List.mem_of_getElem? (i := 202) (by decide +kernel), List.mem_of_getElem? (i := 965) (by decide +kernel), List.mem_of_getElem? (i := 966) (by decide +kernel)⟩
theorem lw_p49 : lw_okq (⟨"TurnerHeap$Machine", "rewrite", "(I)Z"⟩, 18) := ⟨⟨by decide +kernel, by decide +kernel⟩, List.mem_of_getElem? (i := 202) (by decide +kernel), List.mem_of_getElem? (i := 972) (by decide +kernel), List.mem_of_getElem? (i := 973) (by decide +kernel)⟩
theorem lw_p50 : lw_okq (⟨"TurnerHeap$Heap", "note", "(J)V"⟩, 12) := ⟨⟨by decide +kernel, by decide +kernel⟩, List.mem_of_getElem? (i := 137) (by decide +kernel), List.mem_of_getElem? (i := 995) (by decide +kernel), List.mem_of_getElem? (i := 996) (by decide +kernel)⟩
theorem lw_p51 : lw_okq (⟨"TurnerHeapModel", "fail", "(I)I"⟩, 55) := ⟨⟨by decide +kernel, by decide +kernel⟩, List.mem_of_getElem? (i := 1080) (by decide +kernel), List.mem_of_getElem? (i := 1259) (by decide +kernel), List.mem_of_getElem? (i := 1260) (by decide +kernel)⟩
theorem lw_p52 : lw_okq (⟨"TurnerHeapModel", "cut", "()V"⟩, 55) := ⟨⟨by decide +kernel, by decide +kernel⟩, List.mem_of_getElem? (i := 1080) (by decide +kernel), List.mem_of_getElem? (i := 1272) (by decide +kernel), List.mem_of_getElem? (i := 1273) (by decide +kernel)⟩
theorem lw_p53 : lw_okq (⟨"TurnerHeapModel", "lexeme", "(IJ)V"⟩, 55) := ⟨⟨by decide +kernel, by decide +kernel⟩, List.mem_of_getElem? (i := 1080) (by decide +kernel), List.mem_of_getElem? (i := 1279) (by decide +kernel), List.mem_of_getElem? (i := 1280) (by decide +kernel)⟩
theorem lw_p54 : lw_okq (⟨"TurnerHeapModel", "wrong", "(I)V"⟩, 55) := ⟨⟨by decide +kernel, by decide +kernel⟩, List.mem_of_getElem? (i := 1080) (by decide +kernel), List.mem_of_getElem? (i := 1283) (by decide +kernel), List.mem_of_getElem? (i := 1284) (by decide +kernel)⟩
theorem lw_p55 : lw_okq (⟨"TurnerHeapModel", "collect", "()V"⟩, 55) := ⟨⟨by decide +kernel, by decide +kernel⟩, List.mem_of_getElem? (i := 1080) (by decide +kernel), List.mem_of_getElem? (i := 1296) (by decide +kernel), List.mem_of_getElem? (i := 1297) (by decide +kernel)⟩
theorem lw_p56 : lw_okq (⟨"TurnerHeapModel", "isName", "()Z"⟩, 55) := ⟨⟨by decide +kernel, by decide +kernel⟩, List.mem_of_getElem? (i := 1080) (by decide +kernel), List.mem_of_getElem? (i := 1301) (by decide +kernel), List.mem_of_getElem? (i := 1302) (by decide +kernel)⟩
theorem lw_p57 : lw_okq (⟨"TurnerHeapModel", "isWord", "(J)Z"⟩, 55) := ⟨⟨by decide +kernel, by decide +kernel⟩, List.mem_of_getElem? (i := 1080) (by decide +kernel), List.mem_of_getElem? (i := 1308) (by decide +kernel), List.mem_of_getElem? (i := 1309) (by decide +kernel)⟩
theorem lw_p58 : lw_okq (⟨"TurnerHeapModel", "definition", "(I)J"⟩, 55) := ⟨⟨by decide +kernel, by decide +kernel⟩, List.mem_of_getElem? (i := 1080) (by decide +kernel), List.mem_of_getElem? (i := 1312) (by decide +kernel), List.mem_of_getElem? (i := 1313) (by decide +kernel)⟩
theorem lw_p59 : lw_okq (⟨"TurnerHeapModel", "expect", "(Z)V"⟩, 55) := ⟨⟨by decide +kernel, by decide +kernel⟩, List.mem_of_getElem? (i := 1080) (by decide +kernel), List.mem_of_getElem? (i := 1316) (by decide +kernel), List.mem_of_getElem? (i := 1317) (by decide +kernel)⟩
theorem lw_p60 : lw_okq (⟨"TurnerHeapModel", "isSign", "(I)Z"⟩, 55) := ⟨⟨by decide +kernel, by decide +kernel⟩, List.mem_of_getElem? (i := 1080) (by decide +kernel), List.mem_of_getElem? (i := 1320) (by decide +kernel), List.mem_of_getElem? (i := 1321) (by decide +kernel)⟩
theorem lw_p61 : lw_okq (⟨"TurnerHeapModel", "expression", "()J"⟩, 55) := ⟨⟨by decide +kernel, by decide +kernel⟩, List.mem_of_getElem? (i := 1080) (by decide +kernel), List.mem_of_getElem? (i := 1324) (by decide +kernel), List.mem_of_getElem? (i := 1325) (by decide +kernel)⟩
theorem lw_p62 : lw_okq (⟨"TurnerHeapModel", "open", "(I)V"⟩, 55) := ⟨⟨by decide +kernel, by decide +kernel⟩, List.mem_of_getElem? (i := 1080) (by decide +kernel), List.mem_of_getElem? (i := 1328) (by decide +kernel), List.mem_of_getElem? (i := 1329) (by decide +kernel)⟩
theorem lw_p63 : lw_okq (⟨"TurnerHeapModel", "begin", "(I)V"⟩, 55) := ⟨⟨by decide +kernel, by decide +kernel⟩, List.mem_of_getElem? (i := 1080) (by decide +kernel), List.mem_of_getElem? (i := 1332) (by decide +kernel), List.mem_of_getElem? (i := 1333) (by decide +kernel)⟩
def lw_privs_4 : List (MethodName × Nat) := [(⟨"TurnerHeap$Machine", "ask", "(IZI)Z"⟩, 18), (⟨"TurnerHeap$Machine", "rewrite", "(I)Z"⟩, 18), (⟨"TurnerHeap$Heap", "note", "(J)V"⟩, 12), (⟨"TurnerHeapModel", "fail", "(I)I"⟩, 55), (⟨"TurnerHeapModel", "cut", "()V"⟩, 55), (⟨"TurnerHeapModel", "lexeme", "(IJ)V"⟩, 55), (⟨"TurnerHeapModel", "wrong", "(I)V"⟩, 55), (⟨"TurnerHeapModel", "collect", "()V"⟩, 55), (⟨"TurnerHeapModel", "isName", "()Z"⟩, 55), (⟨"TurnerHeapModel", "isWord", "(J)Z"⟩, 55), (⟨"TurnerHeapModel", "definition", "(I)J"⟩, 55), (⟨"TurnerHeapModel", "expect", "(Z)V"⟩, 55), (⟨"TurnerHeapModel", "isSign", "(I)Z"⟩, 55), (⟨"TurnerHeapModel", "expression", "()J"⟩, 55), (⟨"TurnerHeapModel", "open", "(I)V"⟩, 55), (⟨"TurnerHeapModel", "begin", "(I)V"⟩, 55)]
theorem lw_r4 : ∀ q ∈ lw_privs_4, lw_okq q := List.forall_mem_cons.mpr ⟨lw_p48, List.forall_mem_cons.mpr ⟨lw_p49, List.forall_mem_cons.mpr ⟨lw_p50, List.forall_mem_cons.mpr ⟨lw_p51, List.forall_mem_cons.mpr ⟨lw_p52, List.forall_mem_cons.mpr ⟨lw_p53, List.forall_mem_cons.mpr ⟨lw_p54, List.forall_mem_cons.mpr ⟨lw_p55, List.forall_mem_cons.mpr ⟨lw_p56, List.forall_mem_cons.mpr ⟨lw_p57, List.forall_mem_cons.mpr ⟨lw_p58, List.forall_mem_cons.mpr ⟨lw_p59, List.forall_mem_cons.mpr ⟨lw_p60, List.forall_mem_cons.mpr ⟨lw_p61, List.forall_mem_cons.mpr ⟨lw_p62, List.forall_mem_cons.mpr ⟨lw_p63, fun _ h => absurd h List.not_mem_nil⟩⟩⟩⟩⟩⟩⟩⟩⟩⟩⟩⟩⟩⟩⟩⟩
theorem lw_p64 : lw_okq (⟨"TurnerHeapModel", "start", "()V"⟩, 55) := ⟨⟨by decide +kernel, by decide +kernel⟩, List.mem_of_getElem? (i := 1080) (by decide +kernel), List.mem_of_getElem? (i := 1336) (by decide +kernel), List.mem_of_getElem? (i := 1337) (by decide +kernel)⟩
theorem lw_p65 : lw_okq (⟨"TurnerHeapModel", "atom", "(J)V"⟩, 55) := ⟨⟨by decide +kernel, by decide +kernel⟩, List.mem_of_getElem? (i := 1080) (by decide +kernel), List.mem_of_getElem? (i := 1344) (by decide +kernel), List.mem_of_getElem? (i := 1345) (by decide +kernel)⟩
theorem lw_p66 : lw_okq (⟨"TurnerHeapModel", "pop", "()J"⟩, 55) := ⟨⟨by decide +kernel, by decide +kernel⟩, List.mem_of_getElem? (i := 1080) (by decide +kernel), List.mem_of_getElem? (i := 1348) (by decide +kernel), List.mem_of_getElem? (i := 1349) (by decide +kernel)⟩
theorem lw_p67 : lw_okq (⟨"TurnerHeapModel", "apply", "(JJ)J"⟩, 55) := ⟨⟨by decide +kernel, by decide +kernel⟩, List.mem_of_getElem? (i := 1080) (by decide +kernel), List.mem_of_getElem? (i := 1352) (by decide +kernel), List.mem_of_getElem? (i := 1353) (by decide +kernel)⟩
theorem lw_p68 : lw_okq (⟨"TurnerHeapModel", "push", "(J)V"⟩, 55) := ⟨⟨by decide +kernel, by decide +kernel⟩, List.mem_of_getElem? (i := 1080) (by decide +kernel), List.mem_of_getElem? (i := 1359) (by decide +kernel), List.mem_of_getElem? (i := 1360) (by decide +kernel)⟩
theorem lw_p69 : lw_okq (⟨"TurnerHeapModel", "named", "(J)J"⟩, 55) := ⟨⟨by decide +kernel, by decide +kernel⟩, List.mem_of_getElem? (i := 1080) (by decide +kernel), List.mem_of_getElem? (i := 1363) (by decide +kernel), List.mem_of_getElem? (i := 1364) (by decide +kernel)⟩
theorem lw_p70 : lw_okq (⟨"TurnerHeapModel", "beginsAtom", "()Z"⟩, 55) := ⟨⟨by decide +kernel, by decide +kernel⟩, List.mem_of_getElem? (i := 1080) (by decide +kernel), List.mem_of_getElem? (i := 1370) (by decide +kernel), List.mem_of_getElem? (i := 1371) (by decide +kernel)⟩
theorem lw_p71 : lw_okq (⟨"TurnerHeapModel", "operationAt", "()I"⟩, 55) := ⟨⟨by decide +kernel, by decide +kernel⟩, List.mem_of_getElem? (i := 1080) (by decide +kernel), List.mem_of_getElem? (i := 1374) (by decide +kernel), List.mem_of_getElem? (i := 1375) (by decide +kernel)⟩
theorem lw_p72 : lw_okq (⟨"TurnerHeapModel", "operator", "(I)V"⟩, 55) := ⟨⟨by decide +kernel, by decide +kernel⟩, List.mem_of_getElem? (i := 1080) (by decide +kernel), List.mem_of_getElem? (i := 1383) (by decide +kernel), List.mem_of_getElem? (i := 1384) (by decide +kernel)⟩
theorem lw_p73 : lw_okq (⟨"TurnerHeapModel", "reduce", "()V"⟩, 55) := ⟨⟨by decide +kernel, by decide +kernel⟩, List.mem_of_getElem? (i := 1080) (by decide +kernel), List.mem_of_getElem? (i := 1390) (by decide +kernel), List.mem_of_getElem? (i := 1391) (by decide +kernel)⟩
theorem lw_p74 : lw_okq (⟨"TurnerHeapModel", "ended", "()V"⟩, 55) := ⟨⟨by decide +kernel, by decide +kernel⟩, List.mem_of_getElem? (i := 1080) (by decide +kernel), List.mem_of_getElem? (i := 1394) (by decide +kernel), List.mem_of_getElem? (i := 1395) (by decide +kernel)⟩
theorem lw_p75 : lw_okq (⟨"TurnerHeapModel", "listed", "(I)V"⟩, 55) := ⟨⟨by decide +kernel, by decide +kernel⟩, List.mem_of_getElem? (i := 1080) (by decide +kernel), List.mem_of_getElem? (i := 1398) (by decide +kernel), List.mem_of_getElem? (i := 1399) (by decide +kernel)⟩
theorem lw_p76 : lw_okq (⟨"TurnerHeapModel", "whole", "(J)V"⟩, 55) := ⟨⟨by decide +kernel, by decide +kernel⟩, List.mem_of_getElem? (i := 1080) (by decide +kernel), List.mem_of_getElem? (i := 1402) (by decide +kernel), List.mem_of_getElem? (i := 1403) (by decide +kernel)⟩
theorem lw_p77 : lw_okq (⟨"TurnerHeapModel", "without", "(JJ)J"⟩, 55) := ⟨⟨by decide +kernel, by decide +kernel⟩, List.mem_of_getElem? (i := 1080) (by decide +kernel), List.mem_of_getElem? (i := 1406) (by decide +kernel), List.mem_of_getElem? (i := 1407) (by decide +kernel)⟩
theorem lw_p78 : lw_okq (⟨"TurnerHeapModel", "cells", "(J)I"⟩, 55) := ⟨⟨by decide +kernel, by decide +kernel⟩, List.mem_of_getElem? (i := 1080) (by decide +kernel), List.mem_of_getElem? (i := 1410) (by decide +kernel), List.mem_of_getElem? (i := 1411) (by decide +kernel)⟩
theorem lw_p79 : lw_okq (⟨"TurnerHeapModel", "having", "(JJ)Z"⟩, 55) := ⟨⟨by decide +kernel, by decide +kernel⟩, List.mem_of_getElem? (i := 1080) (by decide +kernel), List.mem_of_getElem? (i := 1420) (by decide +kernel), List.mem_of_getElem? (i := 1421) (by decide +kernel)⟩
def lw_privs_5 : List (MethodName × Nat) := [(⟨"TurnerHeapModel", "start", "()V"⟩, 55), (⟨"TurnerHeapModel", "atom", "(J)V"⟩, 55), (⟨"TurnerHeapModel", "pop", "()J"⟩, 55), (⟨"TurnerHeapModel", "apply", "(JJ)J"⟩, 55), (⟨"TurnerHeapModel", "push", "(J)V"⟩, 55), (⟨"TurnerHeapModel", "named", "(J)J"⟩, 55), (⟨"TurnerHeapModel", "beginsAtom", "()Z"⟩, 55), (⟨"TurnerHeapModel", "operationAt", "()I"⟩, 55), (⟨"TurnerHeapModel", "operator", "(I)V"⟩, 55), (⟨"TurnerHeapModel", "reduce", "()V"⟩, 55), (⟨"TurnerHeapModel", "ended", "()V"⟩, 55), (⟨"TurnerHeapModel", "listed", "(I)V"⟩, 55), (⟨"TurnerHeapModel", "whole", "(J)V"⟩, 55), (⟨"TurnerHeapModel", "without", "(JJ)J"⟩, 55), (⟨"TurnerHeapModel", "cells", "(J)I"⟩, 55), (⟨"TurnerHeapModel", "having", "(JJ)Z"⟩, 55)]
theorem lw_r5 : ∀ q ∈ lw_privs_5, lw_okq q := List.forall_mem_cons.mpr ⟨lw_p64, List.forall_mem_cons.mpr ⟨lw_p65, List.forall_mem_cons.mpr ⟨lw_p66, List.forall_mem_cons.mpr ⟨lw_p67, List.forall_mem_cons.mpr ⟨lw_p68, List.forall_mem_cons.mpr ⟨lw_p69, List.forall_mem_cons.mpr ⟨lw_p70, List.forall_mem_cons.mpr ⟨lw_p71, List.forall_mem_cons.mpr ⟨lw_p72, List.forall_mem_cons.mpr ⟨lw_p73, List.forall_mem_cons.mpr ⟨lw_p74, List.forall_mem_cons.mpr ⟨lw_p75, List.forall_mem_cons.mpr ⟨lw_p76, List.forall_mem_cons.mpr ⟨lw_p77, List.forall_mem_cons.mpr ⟨lw_p78, List.forall_mem_cons.mpr ⟨lw_p79, fun _ h => absurd h List.not_mem_nil⟩⟩⟩⟩⟩⟩⟩⟩⟩⟩⟩⟩⟩⟩⟩⟩
theorem lw_p80 : lw_okq (⟨"TurnerHeapModel", "within400", "(J)J"⟩, 55) := ⟨⟨by decide +kernel, by decide +kernel⟩, List.mem_of_getElem? (i := 1080) (by decide +kernel), List.mem_of_getElem? (i := 1424) (by decide +kernel), List.mem_of_getElem? (i := 1425) (by decide +kernel)⟩
theorem lw_p81 : lw_okq (⟨"TurnerHeapModel", "side", "(JJ)J"⟩, 55) := ⟨⟨by decide +kernel, by decide +kernel⟩, List.mem_of_getElem? (i := 1080) (by decide +kernel), List.mem_of_getElem? (i := 1428) (by decide +kernel), List.mem_of_getElem? (i := 1429) (by decide +kernel)⟩
theorem lw_p82 : lw_okq (⟨"TurnerHeapModel", "combined", "(JJ)J"⟩, 55) := ⟨⟨by decide +kernel, by decide +kernel⟩, List.mem_of_getElem? (i := 1080) (by decide +kernel), List.mem_of_getElem? (i := 1432) (by decide +kernel), List.mem_of_getElem? (i := 1433) (by decide +kernel)⟩
theorem lw_p83 : lw_okq (⟨"TurnerHeapModel", "isApplied", "(JI)Z"⟩, 55) := ⟨⟨by decide +kernel, by decide +kernel⟩, List.mem_of_getElem? (i := 1080) (by decide +kernel), List.mem_of_getElem? (i := 1436) (by decide +kernel), List.mem_of_getElem? (i := 1437) (by decide +kernel)⟩
theorem lw_p84 : lw_okq (⟨"TurnerHeapModel", "release", "(J)V"⟩, 55) := ⟨⟨by decide +kernel, by decide +kernel⟩, List.mem_of_getElem? (i := 1080) (by decide +kernel), List.mem_of_getElem? (i := 1440) (by decide +kernel), List.mem_of_getElem? (i := 1441) (by decide +kernel)⟩
theorem lw_p85 : lw_okq (⟨"TurnerHeapModel", "keepForm", "(I)V"⟩, 55) := ⟨⟨by decide +kernel, by decide +kernel⟩, List.mem_of_getElem? (i := 1080) (by decide +kernel), List.mem_of_getElem? (i := 1444) (by decide +kernel), List.mem_of_getElem? (i := 1445) (by decide +kernel)⟩
theorem lw_p86 : lw_okq (⟨"TurnerHeapModel", "moved", "(JI)J"⟩, 55) := ⟨⟨by decide +kernel, by decide +kernel⟩, List.mem_of_getElem? (i := 1080) (by decide +kernel), List.mem_of_getElem? (i := 1448) (by decide +kernel), List.mem_of_getElem? (i := 1449) (by decide +kernel)⟩
theorem lw_p87 : lw_okq (⟨"TurnerHeapModel", "ready", "()V"⟩, 55) := ⟨⟨by decide +kernel, by decide +kernel⟩, List.mem_of_getElem? (i := 1080) (by decide +kernel), List.mem_of_getElem? (i := 1452) (by decide +kernel), List.mem_of_getElem? (i := 1453) (by decide +kernel)⟩
theorem lw_p88 : lw_okq (⟨"TurnerHeapModel", "step", "()V"⟩, 55) := ⟨⟨by decide +kernel, by decide +kernel⟩, List.mem_of_getElem? (i := 1080) (by decide +kernel), List.mem_of_getElem? (i := 1460) (by decide +kernel), List.mem_of_getElem? (i := 1461) (by decide +kernel)⟩
theorem lw_p89 : lw_okq (⟨"TurnerHeapModel", "act", "()V"⟩, 55) := ⟨⟨by decide +kernel, by decide +kernel⟩, List.mem_of_getElem? (i := 1080) (by decide +kernel), List.mem_of_getElem? (i := 1464) (by decide +kernel), List.mem_of_getElem? (i := 1465) (by decide +kernel)⟩
theorem lw_p90 : lw_okq (⟨"TurnerHeapModel", "below", "()I"⟩, 55) := ⟨⟨by decide +kernel, by decide +kernel⟩, List.mem_of_getElem? (i := 1080) (by decide +kernel), List.mem_of_getElem? (i := 1468) (by decide +kernel), List.mem_of_getElem? (i := 1469) (by decide +kernel)⟩
theorem lw_p91 : lw_okq (⟨"TurnerHeapModel", "value", "(ZZ)V"⟩, 55) := ⟨⟨by decide +kernel, by decide +kernel⟩, List.mem_of_getElem? (i := 1080) (by decide +kernel), List.mem_of_getElem? (i := 1472) (by decide +kernel), List.mem_of_getElem? (i := 1473) (by decide +kernel)⟩
theorem lw_p92 : lw_okq (⟨"TurnerHeapModel", "argument", "(I)J"⟩, 55) := ⟨⟨by decide +kernel, by decide +kernel⟩, List.mem_of_getElem? (i := 1080) (by decide +kernel), List.mem_of_getElem? (i := 1476) (by decide +kernel), List.mem_of_getElem? (i := 1477) (by decide +kernel)⟩
theorem lw_p93 : lw_okq (⟨"TurnerHeapModel", "goesOn", "(JZJJZ)V"⟩, 55) := ⟨⟨by decide +kernel, by decide +kernel⟩, List.mem_of_getElem? (i := 1080) (by decide +kernel), List.mem_of_getElem? (i := 1480) (by decide +kernel), List.mem_of_getElem? (i := 1481) (by decide +kernel)⟩
theorem lw_p94 : lw_okq (⟨"TurnerHeapModel", "overwrite", "(IJJ)V"⟩, 55) := ⟨⟨by decide +kernel, by decide +kernel⟩, List.mem_of_getElem? (i := 1080) (by decide +kernel), List.mem_of_getElem? (i := 1487) (by decide +kernel), List.mem_of_getElem? (i := 1488) (by decide +kernel)⟩
theorem lw_p95 : lw_okq (⟨"TurnerHeapModel", "counted", "(III)V"⟩, 55) := ⟨⟨by decide +kernel, by decide +kernel⟩, List.mem_of_getElem? (i := 1080) (by decide +kernel), List.mem_of_getElem? (i := 1491) (by decide +kernel), List.mem_of_getElem? (i := 1492) (by decide +kernel)⟩
def lw_privs_6 : List (MethodName × Nat) := [(⟨"TurnerHeapModel", "within400", "(J)J"⟩, 55), (⟨"TurnerHeapModel", "side", "(JJ)J"⟩, 55), (⟨"TurnerHeapModel", "combined", "(JJ)J"⟩, 55), (⟨"TurnerHeapModel", "isApplied", "(JI)Z"⟩, 55), (⟨"TurnerHeapModel", "release", "(J)V"⟩, 55), (⟨"TurnerHeapModel", "keepForm", "(I)V"⟩, 55), (⟨"TurnerHeapModel", "moved", "(JI)J"⟩, 55), (⟨"TurnerHeapModel", "ready", "()V"⟩, 55), (⟨"TurnerHeapModel", "step", "()V"⟩, 55), (⟨"TurnerHeapModel", "act", "()V"⟩, 55), (⟨"TurnerHeapModel", "below", "()I"⟩, 55), (⟨"TurnerHeapModel", "value", "(ZZ)V"⟩, 55), (⟨"TurnerHeapModel", "argument", "(I)J"⟩, 55), (⟨"TurnerHeapModel", "goesOn", "(JZJJZ)V"⟩, 55), (⟨"TurnerHeapModel", "overwrite", "(IJJ)V"⟩, 55), (⟨"TurnerHeapModel", "counted", "(III)V"⟩, 55)]
theorem lw_r6 : ∀ q ∈ lw_privs_6, lw_okq q := List.forall_mem_cons.mpr ⟨lw_p80, List.forall_mem_cons.mpr ⟨lw_p81, List.forall_mem_cons.mpr ⟨lw_p82, List.forall_mem_cons.mpr ⟨lw_p83, List.forall_mem_cons.mpr ⟨lw_p84, List.forall_mem_cons.mpr ⟨lw_p85, List.forall_mem_cons.mpr ⟨lw_p86, List.forall_mem_cons.mpr ⟨lw_p87, List.forall_mem_cons.mpr ⟨lw_p88, List.forall_mem_cons.mpr ⟨lw_p89, List.forall_mem_cons.mpr ⟨lw_p90, List.forall_mem_cons.mpr ⟨lw_p91, List.forall_mem_cons.mpr ⟨lw_p92, List.forall_mem_cons.mpr ⟨lw_p93, List.forall_mem_cons.mpr ⟨lw_p94, List.forall_mem_cons.mpr ⟨lw_p95, fun _ h => absurd h List.not_mem_nil⟩⟩⟩⟩⟩⟩⟩⟩⟩⟩⟩⟩⟩⟩⟩⟩
theorem lw_p96 : lw_okq (⟨"TurnerHeapModel", "evaluate", "(IJZI)V"⟩, 55) := ⟨⟨by decide +kernel, by decide +kernel⟩, List.mem_of_getElem? (i := 1080) (by decide +kernel), List.mem_of_getElem? (i := 1495) (by decide +kernel), List.mem_of_getElem? (i := 1496) (by decide +kernel)⟩
theorem lw_p97 : lw_okq (⟨"TurnerHeapModel", "printed", "(JZJJZ)V"⟩, 55) := ⟨⟨by decide +kernel, by decide +kernel⟩, List.mem_of_getElem? (i := 1080) (by decide +kernel), List.mem_of_getElem? (i := 1499) (by decide +kernel), List.mem_of_getElem? (i := 1500) (by decide +kernel)⟩
theorem lw_p98 : lw_okq (⟨"TurnerHeapModel", "say", "(J)V"⟩, 55) := ⟨⟨by decide +kernel, by decide +kernel⟩, List.mem_of_getElem? (i := 1080) (by decide +kernel), List.mem_of_getElem? (i := 1503) (by decide +kernel), List.mem_of_getElem? (i := 1504) (by decide +kernel)⟩
theorem lw_p99 : lw_okq (⟨"TurnerHeapModel", "digits", "(I)V"⟩, 55) := ⟨⟨by decide +kernel, by decide +kernel⟩, List.mem_of_getElem? (i := 1080) (by decide +kernel), List.mem_of_getElem? (i := 1507) (by decide +kernel), List.mem_of_getElem? (i := 1508) (by decide +kernel)⟩
theorem lw_p100 : lw_okq (⟨"TurnerHeapModel", "letterOut", "(I)V"⟩, 55) := ⟨⟨by decide +kernel, by decide +kernel⟩, List.mem_of_getElem? (i := 1080) (by decide +kernel), List.mem_of_getElem? (i := 1511) (by decide +kernel), List.mem_of_getElem? (i := 1512) (by decide +kernel)⟩
theorem lw_p101 : lw_okq (⟨"TurnerHeapModel", "combinator", "(I)V"⟩, 55) := ⟨⟨by decide +kernel, by decide +kernel⟩, List.mem_of_getElem? (i := 1080) (by decide +kernel), List.mem_of_getElem? (i := 1519) (by decide +kernel), List.mem_of_getElem? (i := 1520) (by decide +kernel)⟩
theorem lw_p102 : lw_okq (⟨"TurnerHeapModel", "fits", "(I)Z"⟩, 55) := ⟨⟨by decide +kernel, by decide +kernel⟩, List.mem_of_getElem? (i := 1080) (by decide +kernel), List.mem_of_getElem? (i := 1523) (by decide +kernel), List.mem_of_getElem? (i := 1524) (by decide +kernel)⟩
theorem lw_p103 : lw_okq (⟨"TurnerHeapModel", "reachedNow", "()I"⟩, 55) := ⟨⟨by decide +kernel, by decide +kernel⟩, List.mem_of_getElem? (i := 1080) (by decide +kernel), List.mem_of_getElem? (i := 1527) (by decide +kernel), List.mem_of_getElem? (i := 1528) (by decide +kernel)⟩
theorem lw_p104 : lw_okq (⟨"TurnerHeapModel", "reach", "(JI)I"⟩, 55) := ⟨⟨by decide +kernel, by decide +kernel⟩, List.mem_of_getElem? (i := 1080) (by decide +kernel), List.mem_of_getElem? (i := 1531) (by decide +kernel), List.mem_of_getElem? (i := 1532) (by decide +kernel)⟩
theorem lw_p105 : lw_okq (⟨"TurnerHeapModel", "made", "(JJ)J"⟩, 55) := ⟨⟨by decide +kernel, by decide +kernel⟩, List.mem_of_getElem? (i := 1080) (by decide +kernel), List.mem_of_getElem? (i := 1535) (by decide +kernel), List.mem_of_getElem? (i := 1536) (by decide +kernel)⟩
def lw_privs_7 : List (MethodName × Nat) := [(⟨"TurnerHeapModel", "evaluate", "(IJZI)V"⟩, 55), (⟨"TurnerHeapModel", "printed", "(JZJJZ)V"⟩, 55), (⟨"TurnerHeapModel", "say", "(J)V"⟩, 55), (⟨"TurnerHeapModel", "digits", "(I)V"⟩, 55), (⟨"TurnerHeapModel", "letterOut", "(I)V"⟩, 55), (⟨"TurnerHeapModel", "combinator", "(I)V"⟩, 55), (⟨"TurnerHeapModel", "fits", "(I)Z"⟩, 55), (⟨"TurnerHeapModel", "reachedNow", "()I"⟩, 55), (⟨"TurnerHeapModel", "reach", "(JI)I"⟩, 55), (⟨"TurnerHeapModel", "made", "(JJ)J"⟩, 55)]
theorem lw_r7 : ∀ q ∈ lw_privs_7, lw_okq q := List.forall_mem_cons.mpr ⟨lw_p96, List.forall_mem_cons.mpr ⟨lw_p97, List.forall_mem_cons.mpr ⟨lw_p98, List.forall_mem_cons.mpr ⟨lw_p99, List.forall_mem_cons.mpr ⟨lw_p100, List.forall_mem_cons.mpr ⟨lw_p101, List.forall_mem_cons.mpr ⟨lw_p102, List.forall_mem_cons.mpr ⟨lw_p103, List.forall_mem_cons.mpr ⟨lw_p104, List.forall_mem_cons.mpr ⟨lw_p105, fun _ h => absurd h List.not_mem_nil⟩⟩⟩⟩⟩⟩⟩⟩⟩⟩
def lw_privs : List (MethodName × Nat) := lw_privs_1 ++ (lw_privs_2 ++ (lw_privs_3 ++ (lw_privs_4 ++ (lw_privs_5 ++ (lw_privs_6 ++ (lw_privs_7))))))
def lw_tbl : List Cond := k2_sels lw_privs ++ tables_1
theorem lw_privs_ok : ∀ q ∈ lw_privs, lw_okq q := by
  show ∀ q ∈ lw_privs_1 ++ (lw_privs_2 ++ (lw_privs_3 ++ (lw_privs_4 ++ (lw_privs_5 ++ (lw_privs_6 ++ (lw_privs_7)))))), lw_okq q
  exact List.forall_mem_append.mpr ⟨lw_r1, List.forall_mem_append.mpr ⟨lw_r2, List.forall_mem_append.mpr ⟨lw_r3, List.forall_mem_append.mpr ⟨lw_r4, List.forall_mem_append.mpr ⟨lw_r5, List.forall_mem_append.mpr ⟨lw_r6, lw_r7⟩⟩⟩⟩⟩⟩

def rn_TH : String := "TurnerHeap"
def rn_LX : String := "TurnerHeap$Lexemes"
def rn_TM : String := "TurnerHeap$Terms"
def rn_RD : String := "TurnerHeap$Reader"
def rn_FM : String := "TurnerHeap$Forms"
def rn_HP : String := "TurnerHeap$Heap"
def rn_PP : String := "TurnerHeap$Paper"
def rn_MC : String := "TurnerHeap$Machine"
def rn_WD : String := "TurnerHeap$Word"
def rn_MO : String := "TurnerHeapModel"
def rn_LW : String := "TurnerHeapLaw"
def fl_TH : u_T := fun k => match k with
  | 0 => (rn_TH, "text", "[C", true)
  | 1 => (rn_TH, "written", "I", false)
  | 2 => (rn_TH, "lexemes", "LTurnerHeap$Lexemes;", true)
  | 3 => (rn_TH, "terms", "LTurnerHeap$Terms;", true)
  | 4 => (rn_TH, "reader", "LTurnerHeap$Reader;", true)
  | 5 => (rn_TH, "forms", "LTurnerHeap$Forms;", true)
  | 6 => (rn_TH, "heap", "LTurnerHeap$Heap;", true)
  | 7 => (rn_TH, "paper", "LTurnerHeap$Paper;", true)
  | 8 => (rn_TH, "machine", "LTurnerHeap$Machine;", true)
  | _ => (rn_TH, "loaded", "Z", false)
def tt_TH : Nat → FieldType := fun k => match k with
  | 0 => .array .char
  | 1 => .int
  | 2 => .object "TurnerHeap$Lexemes"
  | 3 => .object "TurnerHeap$Terms"
  | 4 => .object "TurnerHeap$Reader"
  | 5 => .object "TurnerHeap$Forms"
  | 6 => .object "TurnerHeap$Heap"
  | 7 => .object "TurnerHeap$Paper"
  | 8 => .object "TurnerHeap$Machine"
  | _ => .boolean
theorem nn_TH : ∀ a, a < 10 → ∀ b, b < 10 → a ≠ b → (fl_TH a).2.1 ≠ (fl_TH b).2.1 := by decide +kernel
theorem tk_TH : ∀ k, k < 10 → parseFieldDescriptor (fl_TH k).2.2.1 = some (tt_TH k) := by decide +kernel
theorem df_TH : ∀ j, j < 10 → defaultValue (tt_TH j) = vp_V [.null, .int 0, .null, .null, .null, .null, .null, .null, .null, .int 0] j := by decide +kernel
def fl_LX : u_T := fun k => match k with
  | 0 => (rn_LX, "kinds", "[I", true)
  | 1 => (rn_LX, "values", "[I", true)
  | _ => (rn_LX, "size", "I", false)
def tt_LX : Nat → FieldType := fun k => match k with
  | 0 => .array .int
  | 1 => .array .int
  | _ => .int
theorem nn_LX : ∀ a, a < 3 → ∀ b, b < 3 → a ≠ b → (fl_LX a).2.1 ≠ (fl_LX b).2.1 := by decide +kernel
theorem tk_LX : ∀ k, k < 3 → parseFieldDescriptor (fl_LX k).2.2.1 = some (tt_LX k) := by decide +kernel
theorem df_LX : ∀ j, j < 3 → defaultValue (tt_LX j) = vp_V [.null, .null, .int 0] j := by decide +kernel
def fl_TM : u_T := fun k => match k with
  | 0 => (rn_TM, "left", "[J", true)
  | 1 => (rn_TM, "right", "[J", true)
  | 2 => (rn_TM, "free", "[I", true)
  | 3 => (rn_TM, "freeSize", "I", false)
  | 4 => (rn_TM, "order", "[I", true)
  | 5 => (rn_TM, "has", "[Z", true)
  | 6 => (rn_TM, "without", "[J", true)
  | _ => (rn_TM, "tooBig", "Z", false)
def tt_TM : Nat → FieldType := fun k => match k with
  | 0 => .array .long
  | 1 => .array .long
  | 2 => .array .int
  | 3 => .int
  | 4 => .array .int
  | 5 => .array .boolean
  | 6 => .array .long
  | _ => .boolean
theorem nn_TM : ∀ a, a < 8 → ∀ b, b < 8 → a ≠ b → (fl_TM a).2.1 ≠ (fl_TM b).2.1 := by decide +kernel
theorem tk_TM : ∀ k, k < 8 → parseFieldDescriptor (fl_TM k).2.2.1 = some (tt_TM k) := by decide +kernel
theorem df_TM : ∀ j, j < 8 → defaultValue (tt_TM j) = vp_V [.null, .null, .null, .int 0, .null, .null, .null, .int 0] j := by decide +kernel
def fl_RD : u_T := fun k => match k with
  | 0 => (rn_RD, "lexemes", "LTurnerHeap$Lexemes;", true)
  | 1 => (rn_RD, "terms", "LTurnerHeap$Terms;", true)
  | 2 => (rn_RD, "at", "I", false)
  | 3 => (rn_RD, "names", "[I", true)
  | 4 => (rn_RD, "named", "I", false)
  | 5 => (rn_RD, "defined", "[J", true)
  | 6 => (rn_RD, "definitions", "I", false)
  | 7 => (rn_RD, "mainTerm", "J", false)
  | 8 => (rn_RD, "scope", "[I", true)
  | 9 => (rn_RD, "inScope", "I", false)
  | 10 => (rn_RD, "waiting", "[J", true)
  | _ => (rn_RD, "waitingSize", "I", false)
def tt_RD : Nat → FieldType := fun k => match k with
  | 0 => .object "TurnerHeap$Lexemes"
  | 1 => .object "TurnerHeap$Terms"
  | 2 => .int
  | 3 => .array .int
  | 4 => .int
  | 5 => .array .long
  | 6 => .int
  | 7 => .long
  | 8 => .array .int
  | 9 => .int
  | 10 => .array .long
  | _ => .int
theorem nn_RD : ∀ a, a < 12 → ∀ b, b < 12 → a ≠ b → (fl_RD a).2.1 ≠ (fl_RD b).2.1 := by decide +kernel
theorem tk_RD : ∀ k, k < 12 → parseFieldDescriptor (fl_RD k).2.2.1 = some (tt_RD k) := by decide +kernel
theorem df_RD : ∀ j, j < 12 → defaultValue (tt_RD j) = vp_V [.null, .null, .int 0, .null, .int 0, .null, .int 0, .long 0, .null, .int 0, .null, .int 0] j := by decide +kernel
def fl_FM : u_T := fun k => match k with
  | _ => (rn_FM, "answers", "[I", true)
def tt_FM : Nat → FieldType := fun k => match k with
  | _ => .array .int
theorem nn_FM : ∀ a, a < 1 → ∀ b, b < 1 → a ≠ b → (fl_FM a).2.1 ≠ (fl_FM b).2.1 := by decide +kernel
theorem tk_FM : ∀ k, k < 1 → parseFieldDescriptor (fl_FM k).2.2.1 = some (tt_FM k) := by decide +kernel
theorem df_FM : ∀ j, j < 1 → defaultValue (tt_FM j) = vp_V [.null] j := by decide +kernel
def fl_HP : u_T := fun k => match k with
  | 0 => (rn_HP, "room", "I", true)
  | 1 => (rn_HP, "left", "[J", true)
  | 2 => (rn_HP, "right", "[J", true)
  | 3 => (rn_HP, "free", "[I", true)
  | 4 => (rn_HP, "freeSize", "I", false)
  | 5 => (rn_HP, "markedIn", "[I", true)
  | 6 => (rn_HP, "round", "I", false)
  | 7 => (rn_HP, "toMark", "[I", true)
  | 8 => (rn_HP, "marks", "I", false)
  | 9 => (rn_HP, "defined", "[J", true)
  | 10 => (rn_HP, "definitions", "I", false)
  | _ => (rn_HP, "places", "[I", true)
def tt_HP : Nat → FieldType := fun k => match k with
  | 0 => .int
  | 1 => .array .long
  | 2 => .array .long
  | 3 => .array .int
  | 4 => .int
  | 5 => .array .int
  | 6 => .int
  | 7 => .array .int
  | 8 => .int
  | 9 => .array .long
  | 10 => .int
  | _ => .array .int
theorem nn_HP : ∀ a, a < 12 → ∀ b, b < 12 → a ≠ b → (fl_HP a).2.1 ≠ (fl_HP b).2.1 := by decide +kernel
theorem tk_HP : ∀ k, k < 12 → parseFieldDescriptor (fl_HP k).2.2.1 = some (tt_HP k) := by decide +kernel
theorem df_HP : ∀ j, j < 12 → defaultValue (tt_HP j) = vp_V [.int 0, .null, .null, .null, .int 0, .null, .int 0, .null, .int 0, .null, .int 0, .null] j := by decide +kernel
def fl_PP : u_T := fun k => match k with
  | 0 => (rn_PP, "first", "[C", true)
  | 1 => (rn_PP, "digits", "[C", true)
  | _ => (rn_PP, "printed", "I", false)
def tt_PP : Nat → FieldType := fun k => match k with
  | 0 => .array .char
  | 1 => .array .char
  | _ => .int
theorem nn_PP : ∀ a, a < 3 → ∀ b, b < 3 → a ≠ b → (fl_PP a).2.1 ≠ (fl_PP b).2.1 := by decide +kernel
theorem tk_PP : ∀ k, k < 3 → parseFieldDescriptor (fl_PP k).2.2.1 = some (tt_PP k) := by decide +kernel
theorem df_PP : ∀ j, j < 3 → defaultValue (tt_PP j) = vp_V [.null, .null, .int 0] j := by decide +kernel
def fl_MC : u_T := fun k => match k with
  | 0 => (rn_MC, "heap", "LTurnerHeap$Heap;", true)
  | 1 => (rn_MC, "paper", "LTurnerHeap$Paper;", true)
  | 2 => (rn_MC, "spine", "[I", true)
  | 3 => (rn_MC, "onSpines", "I", false)
  | 4 => (rn_MC, "mostOnSpines", "I", false)
  | 5 => (rn_MC, "bases", "[I", true)
  | 6 => (rn_MC, "askers", "[I", true)
  | 7 => (rn_MC, "asksSecond", "[Z", true)
  | 8 => (rn_MC, "firsts", "[I", true)
  | 9 => (rn_MC, "upperSpines", "I", false)
  | 10 => (rn_MC, "looked", "J", false)
  | 11 => (rn_MC, "rest", "J", false)
  | 12 => (rn_MC, "isLeftSide", "Z", false)
  | 13 => (rn_MC, "isRest", "Z", false)
  | 14 => (rn_MC, "pairLeft", "J", false)
  | 15 => (rn_MC, "pairRight", "J", false)
  | 16 => (rn_MC, "steps", "I", false)
  | _ => (rn_MC, "stop", "I", false)
def tt_MC : Nat → FieldType := fun k => match k with
  | 0 => .object "TurnerHeap$Heap"
  | 1 => .object "TurnerHeap$Paper"
  | 2 => .array .int
  | 3 => .int
  | 4 => .int
  | 5 => .array .int
  | 6 => .array .int
  | 7 => .array .boolean
  | 8 => .array .int
  | 9 => .int
  | 10 => .long
  | 11 => .long
  | 12 => .boolean
  | 13 => .boolean
  | 14 => .long
  | 15 => .long
  | 16 => .int
  | _ => .int
theorem nn_MC : ∀ a, a < 18 → ∀ b, b < 18 → a ≠ b → (fl_MC a).2.1 ≠ (fl_MC b).2.1 := by decide +kernel
theorem tk_MC : ∀ k, k < 18 → parseFieldDescriptor (fl_MC k).2.2.1 = some (tt_MC k) := by decide +kernel
theorem df_MC : ∀ j, j < 18 → defaultValue (tt_MC j) = vp_V [.null, .null, .null, .int 0, .int 0, .null, .null, .null, .null, .int 0, .long 0, .long 0, .int 0, .int 0, .long 0, .long 0, .int 0, .int 0] j := by decide +kernel
def fl_MO : u_T := fun k => match k with
  | 0 => (rn_MO, "thrown", "I", false)
  | 1 => (rn_MO, "room", "I", true)
  | 2 => (rn_MO, "length", "I", false)
  | 3 => (rn_MO, "text", "[I", true)
  | 4 => (rn_MO, "lexemes", "I", false)
  | 5 => (rn_MO, "at", "I", false)
  | 6 => (rn_MO, "bad", "I", false)
  | 7 => (rn_MO, "kind", "[I", true)
  | 8 => (rn_MO, "what", "[J", true)
  | 9 => (rn_MO, "left", "[J", true)
  | 10 => (rn_MO, "right", "[J", true)
  | 11 => (rn_MO, "frees", "I", false)
  | 12 => (rn_MO, "free", "[I", true)
  | 13 => (rn_MO, "order", "[I", true)
  | 14 => (rn_MO, "has", "[Z", true)
  | 15 => (rn_MO, "becomes", "[J", true)
  | 16 => (rn_MO, "deep", "I", false)
  | 17 => (rn_MO, "operands", "I", false)
  | 18 => (rn_MO, "operations", "I", false)
  | 19 => (rn_MO, "bound", "I", false)
  | 20 => (rn_MO, "sort", "[I", true)
  | 21 => (rn_MO, "base", "[I", true)
  | 22 => (rn_MO, "first", "[I", true)
  | 23 => (rn_MO, "ready", "[Z", true)
  | 24 => (rn_MO, "fresh", "[Z", true)
  | 25 => (rn_MO, "operand", "[J", true)
  | 26 => (rn_MO, "operation", "[I", true)
  | 27 => (rn_MO, "names", "[J", true)
  | 28 => (rn_MO, "definitions", "I", false)
  | 29 => (rn_MO, "defined", "[J", true)
  | 30 => (rn_MO, "terms", "[J", true)
  | 31 => (rn_MO, "forms", "[I", true)
  | 32 => (rn_MO, "there", "Z", false)
  | 33 => (rn_MO, "one", "[J", true)
  | 34 => (rn_MO, "two", "[J", true)
  | 35 => (rn_MO, "marked", "[Z", true)
  | 36 => (rn_MO, "walk", "[I", true)
  | 37 => (rn_MO, "spine", "[I", true)
  | 38 => (rn_MO, "top", "I", false)
  | 39 => (rn_MO, "most", "I", false)
  | 40 => (rn_MO, "evals", "I", false)
  | 41 => (rn_MO, "steps", "I", false)
  | 42 => (rn_MO, "stop", "I", false)
  | 43 => (rn_MO, "bases", "[I", true)
  | 44 => (rn_MO, "waits", "[I", true)
  | 45 => (rn_MO, "second", "[Z", true)
  | 46 => (rn_MO, "number", "[I", true)
  | 47 => (rn_MO, "looked", "J", false)
  | 48 => (rn_MO, "rest", "J", false)
  | 49 => (rn_MO, "prints", "I", false)
  | 50 => (rn_MO, "out", "I", false)
  | 51 => (rn_MO, "letters", "[I", true)
  | 52 => (rn_MO, "gone", "[Z", true)
  | 53 => (rn_MO, "closed", "Z", false)
  | _ => (rn_MO, "place", "[I", true)
def tt_MO : Nat → FieldType := fun k => match k with
  | 0 => .int
  | 1 => .int
  | 2 => .int
  | 3 => .array .int
  | 4 => .int
  | 5 => .int
  | 6 => .int
  | 7 => .array .int
  | 8 => .array .long
  | 9 => .array .long
  | 10 => .array .long
  | 11 => .int
  | 12 => .array .int
  | 13 => .array .int
  | 14 => .array .boolean
  | 15 => .array .long
  | 16 => .int
  | 17 => .int
  | 18 => .int
  | 19 => .int
  | 20 => .array .int
  | 21 => .array .int
  | 22 => .array .int
  | 23 => .array .boolean
  | 24 => .array .boolean
  | 25 => .array .long
  | 26 => .array .int
  | 27 => .array .long
  | 28 => .int
  | 29 => .array .long
  | 30 => .array .long
  | 31 => .array .int
  | 32 => .boolean
  | 33 => .array .long
  | 34 => .array .long
  | 35 => .array .boolean
  | 36 => .array .int
  | 37 => .array .int
  | 38 => .int
  | 39 => .int
  | 40 => .int
  | 41 => .int
  | 42 => .int
  | 43 => .array .int
  | 44 => .array .int
  | 45 => .array .boolean
  | 46 => .array .int
  | 47 => .long
  | 48 => .long
  | 49 => .int
  | 50 => .int
  | 51 => .array .int
  | 52 => .array .boolean
  | 53 => .boolean
  | _ => .array .int
theorem nn_MO : ∀ a, a < 55 → ∀ b, b < 55 → a ≠ b → (fl_MO a).2.1 ≠ (fl_MO b).2.1 := by decide +kernel
theorem tk_MO : ∀ k, k < 55 → parseFieldDescriptor (fl_MO k).2.2.1 = some (tt_MO k) := by decide +kernel
theorem df_MO : ∀ j, j < 55 → defaultValue (tt_MO j) = vp_V [.int 0, .int 0, .int 0, .null, .int 0, .int 0, .int 0, .null, .null, .null, .null, .int 0, .null, .null, .null, .null, .int 0, .int 0, .int 0, .int 0, .null, .null, .null, .null, .null, .null, .null, .null, .int 0, .null, .null, .null, .int 0, .null, .null, .null, .null, .null, .int 0, .int 0, .int 0, .int 0, .int 0, .null, .null, .null, .null, .long 0, .long 0, .int 0, .int 0, .null, .null, .int 0, .null] j := by decide +kernel
abbrev classes : List vw_C := [(rn_TH, fl_TH, 10), (rn_LX, fl_LX, 3), (rn_TM, fl_TM, 8), (rn_RD, fl_RD, 12), (rn_FM, fl_FM, 1), (rn_HP, fl_HP, 12), (rn_PP, fl_PP, 3), (rn_MC, fl_MC, 18), (rn_MO, fl_MO, 55)]
abbrev tys4 (cI cL cZ cC : ClassId) : List (ClassId × FieldType) := [(cI, .int), (cL, .long), (cZ, .boolean), (cC, .char)]
abbrev b_TH_init : ByteArray := prog_1_method_1_code
def y_TH_init : MethodName := ⟨rn_TH, "<init>", "(I)V"⟩
abbrev b_TH_write : ByteArray := prog_1_method_2_code
def y_TH_write : MethodName := ⟨rn_TH, "write", "(JI)I"⟩
abbrev b_TH_erase : ByteArray := prog_1_method_3_code
def y_TH_erase : MethodName := ⟨rn_TH, "erase", "()I"⟩
abbrev b_TH_read : ByteArray := prog_1_method_4_code
def y_TH_read : MethodName := ⟨rn_TH, "read", "()I"⟩
abbrev b_TH_run : ByteArray := prog_1_method_5_code
def y_TH_run : MethodName := ⟨rn_TH, "run", "(I)I"⟩
abbrev b_TH_stopped : ByteArray := prog_1_method_6_code
def y_TH_stopped : MethodName := ⟨rn_TH, "stopped", "()I"⟩
abbrev b_TH_length : ByteArray := prog_1_method_7_code
def y_TH_length : MethodName := ⟨rn_TH, "length", "()I"⟩
abbrev b_TH_letter : ByteArray := prog_1_method_8_code
def y_TH_letter : MethodName := ⟨rn_TH, "letter", "(I)I"⟩
abbrev b_TH_reached : ByteArray := prog_1_method_9_code
def y_TH_reached : MethodName := ⟨rn_TH, "reached", "()I"⟩
abbrev b_TH_count : ByteArray := prog_1_method_10_code
def y_TH_count : MethodName := ⟨rn_TH, "count", "(I)I"⟩
abbrev b_TH_form : ByteArray := prog_1_method_11_code
def y_TH_form : MethodName := ⟨rn_TH, "form", "(II)I"⟩
abbrev b_TH_byteOf : ByteArray := prog_1_method_12_code
def y_TH_byteOf : MethodName := ⟨rn_TH, "byteOf", "(JI)I"⟩
abbrev b_TH_isCharacter : ByteArray := prog_1_method_13_code
def y_TH_isCharacter : MethodName := ⟨rn_TH, "isCharacter", "(I)Z"⟩
abbrev b_TH_forget : ByteArray := prog_1_method_14_code
def y_TH_forget : MethodName := ⟨rn_TH, "forget", "()V"⟩
abbrev b_TH_begin : ByteArray := prog_1_method_15_code
def y_TH_begin : MethodName := ⟨rn_TH, "begin", "()V"⟩
abbrev b_LX_init : ByteArray := prog_4_method_1_code
def y_LX_init : MethodName := ⟨rn_LX, "<init>", "()V"⟩
abbrev b_LX_size : ByteArray := prog_4_method_2_code
def y_LX_size : MethodName := ⟨rn_LX, "size", "()I"⟩
abbrev b_LX_kind : ByteArray := prog_4_method_3_code
def y_LX_kind : MethodName := ⟨rn_LX, "kind", "(I)I"⟩
abbrev b_LX_value : ByteArray := prog_4_method_4_code
def y_LX_value : MethodName := ⟨rn_LX, "value", "(I)I"⟩
abbrev b_LX_cut : ByteArray := prog_4_method_5_code
def y_LX_cut : MethodName := ⟨rn_LX, "cut", "([CI)V"⟩
abbrev b_LX_add : ByteArray := prog_4_method_6_code
def y_LX_add : MethodName := ⟨rn_LX, "add", "(II)V"⟩
abbrev b_LX_endOf : ByteArray := prog_4_method_7_code
def y_LX_endOf : MethodName := ⟨rn_LX, "endOf", "([CIIZ)I"⟩
abbrev b_LX_nameOf : ByteArray := prog_4_method_8_code
def y_LX_nameOf : MethodName := ⟨rn_LX, "nameOf", "([CII)I"⟩
abbrev b_LX_numberOf : ByteArray := prog_4_method_9_code
def y_LX_numberOf : MethodName := ⟨rn_LX, "numberOf", "([CII)I"⟩
abbrev b_LX_isLetter : ByteArray := prog_4_method_10_code
def y_LX_isLetter : MethodName := ⟨rn_LX, "isLetter", "(C)Z"⟩
abbrev b_LX_isDigit : ByteArray := prog_4_method_11_code
def y_LX_isDigit : MethodName := ⟨rn_LX, "isDigit", "(C)Z"⟩
abbrev b_TM_init : ByteArray := prog_8_method_1_code
def y_TM_init : MethodName := ⟨rn_TM, "<init>", "()V"⟩
abbrev b_TM_clear : ByteArray := prog_8_method_2_code
def y_TM_clear : MethodName := ⟨rn_TM, "clear", "()V"⟩
abbrev b_TM_isTooBig : ByteArray := prog_8_method_3_code
def y_TM_isTooBig : MethodName := ⟨rn_TM, "isTooBig", "()Z"⟩
abbrev b_TM_leftOf : ByteArray := prog_8_method_4_code
def y_TM_leftOf : MethodName := ⟨rn_TM, "leftOf", "(I)J"⟩
abbrev b_TM_rightOf : ByteArray := prog_8_method_5_code
def y_TM_rightOf : MethodName := ⟨rn_TM, "rightOf", "(I)J"⟩
abbrev b_TM_listed : ByteArray := prog_8_method_6_code
def y_TM_listed : MethodName := ⟨rn_TM, "listed", "(I)I"⟩
abbrev b_TM_apply : ByteArray := prog_8_method_7_code
def y_TM_apply : MethodName := ⟨rn_TM, "apply", "(JJ)J"⟩
abbrev b_TM_applyToTwo : ByteArray := prog_8_method_8_code
def y_TM_applyToTwo : MethodName := ⟨rn_TM, "applyToTwo", "(IJJ)J"⟩
abbrev b_TM_list : ByteArray := prog_8_method_9_code
def y_TM_list : MethodName := ⟨rn_TM, "list", "(J)I"⟩
abbrev b_TM_listSide : ByteArray := prog_8_method_10_code
def y_TM_listSide : MethodName := ⟨rn_TM, "listSide", "(JI)I"⟩
abbrev b_TM_takeOut : ByteArray := prog_8_method_11_code
def y_TM_takeOut : MethodName := ⟨rn_TM, "takeOut", "(IJ)J"⟩
abbrev b_TM_takeOutOf : ByteArray := prog_8_method_12_code
def y_TM_takeOutOf : MethodName := ⟨rn_TM, "takeOutOf", "(IJ)V"⟩
abbrev b_TM_joinConstant : ByteArray := prog_8_method_13_code
def y_TM_joinConstant : MethodName := ⟨rn_TM, "joinConstant", "(IJJZ)J"⟩
abbrev b_TM_joinVarying : ByteArray := prog_8_method_14_code
def y_TM_joinVarying : MethodName := ⟨rn_TM, "joinVarying", "(IJJZ)J"⟩
abbrev b_TM_isB : ByteArray := prog_8_method_15_code
def y_TM_isB : MethodName := ⟨rn_TM, "isB", "(J)Z"⟩
abbrev b_TM_isK : ByteArray := prog_8_method_16_code
def y_TM_isK : MethodName := ⟨rn_TM, "isK", "(J)Z"⟩
abbrev b_TM_hasName : ByteArray := prog_8_method_17_code
def y_TM_hasName : MethodName := ⟨rn_TM, "hasName", "(JJ)Z"⟩
abbrev b_TM_withoutName : ByteArray := prog_8_method_18_code
def y_TM_withoutName : MethodName := ⟨rn_TM, "withoutName", "(J)J"⟩
abbrev b_TM_unwrap : ByteArray := prog_8_method_19_code
def y_TM_unwrap : MethodName := ⟨rn_TM, "unwrap", "(J)J"⟩
abbrev b_TM_put : ByteArray := prog_8_method_20_code
def y_TM_put : MethodName := ⟨rn_TM, "put", "(IJJ)J"⟩
abbrev b_TM_drop : ByteArray := prog_8_method_21_code
def y_TM_drop : MethodName := ⟨rn_TM, "drop", "(I)V"⟩
abbrev b_RD_init : ByteArray := prog_7_method_1_code
def y_RD_init : MethodName := ⟨rn_RD, "<init>", "(LTurnerHeap$Lexemes;LTurnerHeap$Terms;)V"⟩
abbrev b_RD_definitions : ByteArray := prog_7_method_2_code
def y_RD_definitions : MethodName := ⟨rn_RD, "definitions", "()I"⟩
abbrev b_RD_definition : ByteArray := prog_7_method_3_code
def y_RD_definition : MethodName := ⟨rn_RD, "definition", "(I)J"⟩
abbrev b_RD_mainTerm : ByteArray := prog_7_method_4_code
def y_RD_mainTerm : MethodName := ⟨rn_RD, "mainTerm", "()J"⟩
abbrev b_RD_cells : ByteArray := prog_7_method_5_code
def y_RD_cells : MethodName := ⟨rn_RD, "cells", "()I"⟩
abbrev b_RD_begin : ByteArray := prog_7_method_6_code
def y_RD_begin : MethodName := ⟨rn_RD, "begin", "()V"⟩
abbrev b_RD_isAtDefinition : ByteArray := prog_7_method_7_code
def y_RD_isAtDefinition : MethodName := ⟨rn_RD, "isAtDefinition", "()Z"⟩
abbrev b_RD_readMain : ByteArray := prog_7_method_8_code
def y_RD_readMain : MethodName := ⟨rn_RD, "readMain", "()V"⟩
abbrev b_RD_findNames : ByteArray := prog_7_method_9_code
def y_RD_findNames : MethodName := ⟨rn_RD, "findNames", "()V"⟩
abbrev b_RD_readDefinition : ByteArray := prog_7_method_10_code
def y_RD_readDefinition : MethodName := ⟨rn_RD, "readDefinition", "()V"⟩
abbrev b_RD_readParameter : ByteArray := prog_7_method_11_code
def y_RD_readParameter : MethodName := ⟨rn_RD, "readParameter", "()V"⟩
abbrev b_RD_expression : ByteArray := prog_7_method_12_code
def y_RD_expression : MethodName := ⟨rn_RD, "expression", "(I)J"⟩
abbrev b_RD_choice : ByteArray := prog_7_method_13_code
def y_RD_choice : MethodName := ⟨rn_RD, "choice", "(I)J"⟩
abbrev b_RD_function : ByteArray := prog_7_method_14_code
def y_RD_function : MethodName := ⟨rn_RD, "function", "(I)J"⟩
abbrev b_RD_chain : ByteArray := prog_7_method_15_code
def y_RD_chain : MethodName := ⟨rn_RD, "chain", "(I)J"⟩
abbrev b_RD_comparison : ByteArray := prog_7_method_16_code
def y_RD_comparison : MethodName := ⟨rn_RD, "comparison", "(I)J"⟩
abbrev b_RD_sum : ByteArray := prog_7_method_17_code
def y_RD_sum : MethodName := ⟨rn_RD, "sum", "(I)J"⟩
abbrev b_RD_product : ByteArray := prog_7_method_18_code
def y_RD_product : MethodName := ⟨rn_RD, "product", "(I)J"⟩
abbrev b_RD_application : ByteArray := prog_7_method_19_code
def y_RD_application : MethodName := ⟨rn_RD, "application", "(I)J"⟩
abbrev b_RD_beginsAtom : ByteArray := prog_7_method_20_code
def y_RD_beginsAtom : MethodName := ⟨rn_RD, "beginsAtom", "()Z"⟩
abbrev b_RD_atom : ByteArray := prog_7_method_21_code
def y_RD_atom : MethodName := ⟨rn_RD, "atom", "(I)J"⟩
abbrev b_RD_row : ByteArray := prog_7_method_22_code
def y_RD_row : MethodName := ⟨rn_RD, "row", "(I)J"⟩
abbrev b_RD_await : ByteArray := prog_7_method_23_code
def y_RD_await : MethodName := ⟨rn_RD, "await", "(J)V"⟩
abbrev b_RD_pairUp : ByteArray := prog_7_method_24_code
def y_RD_pairUp : MethodName := ⟨rn_RD, "pairUp", "(IJ)J"⟩
abbrev b_RD_meaning : ByteArray := prog_7_method_25_code
def y_RD_meaning : MethodName := ⟨rn_RD, "meaning", "(I)J"⟩
abbrev b_RD_isInScope : ByteArray := prog_7_method_26_code
def y_RD_isInScope : MethodName := ⟨rn_RD, "isInScope", "(I)Z"⟩
abbrev b_RD_isWord : ByteArray := prog_7_method_27_code
def y_RD_isWord : MethodName := ⟨rn_RD, "isWord", "(I)Z"⟩
abbrev b_RD_isAnyWord : ByteArray := prog_7_method_28_code
def y_RD_isAnyWord : MethodName := ⟨rn_RD, "isAnyWord", "(I)Z"⟩
abbrev b_RD_expectWord : ByteArray := prog_7_method_29_code
def y_RD_expectWord : MethodName := ⟨rn_RD, "expectWord", "(I)V"⟩
abbrev b_RD_expect : ByteArray := prog_7_method_30_code
def y_RD_expect : MethodName := ⟨rn_RD, "expect", "(I)V"⟩
abbrev b_FM_init : ByteArray := prog_2_method_1_code
def y_FM_init : MethodName := ⟨rn_FM, "<init>", "()V"⟩
abbrev b_FM_of : ByteArray := prog_2_method_2_code
def y_FM_of : MethodName := ⟨rn_FM, "of", "(II)I"⟩
abbrev b_FM_note : ByteArray := prog_2_method_3_code
def y_FM_note : MethodName := ⟨rn_FM, "note", "(ILTurnerHeap$Terms;J)V"⟩
abbrev b_HP_init : ByteArray := prog_3_method_1_code
def y_HP_init : MethodName := ⟨rn_HP, "<init>", "(I)V"⟩
abbrev b_HP_room : ByteArray := prog_3_method_2_code
def y_HP_room : MethodName := ⟨rn_HP, "room", "()I"⟩
abbrev b_HP_freeCells : ByteArray := prog_3_method_3_code
def y_HP_freeCells : MethodName := ⟨rn_HP, "freeCells", "()I"⟩
abbrev b_HP_leftOf : ByteArray := prog_3_method_4_code
def y_HP_leftOf : MethodName := ⟨rn_HP, "leftOf", "(I)J"⟩
abbrev b_HP_rightOf : ByteArray := prog_3_method_5_code
def y_HP_rightOf : MethodName := ⟨rn_HP, "rightOf", "(I)J"⟩
abbrev b_HP_defined : ByteArray := prog_3_method_6_code
def y_HP_defined : MethodName := ⟨rn_HP, "defined", "(I)J"⟩
abbrev b_HP_empty : ByteArray := prog_3_method_7_code
def y_HP_empty : MethodName := ⟨rn_HP, "empty", "()V"⟩
abbrev b_HP_define : ByteArray := prog_3_method_8_code
def y_HP_define : MethodName := ⟨rn_HP, "define", "(IJ)V"⟩
abbrev b_HP_load : ByteArray := prog_3_method_9_code
def y_HP_load : MethodName := ⟨rn_HP, "load", "(LTurnerHeap$Terms;J)J"⟩
abbrev b_HP_placed : ByteArray := prog_3_method_10_code
def y_HP_placed : MethodName := ⟨rn_HP, "placed", "(J)J"⟩
abbrev b_HP_make : ByteArray := prog_3_method_11_code
def y_HP_make : MethodName := ⟨rn_HP, "make", "(JJ)J"⟩
abbrev b_HP_set : ByteArray := prog_3_method_12_code
def y_HP_set : MethodName := ⟨rn_HP, "set", "(IJJ)V"⟩
abbrev b_HP_unmark : ByteArray := prog_3_method_13_code
def y_HP_unmark : MethodName := ⟨rn_HP, "unmark", "()V"⟩
abbrev b_HP_marks : ByteArray := prog_3_method_14_code
def y_HP_marks : MethodName := ⟨rn_HP, "marks", "()I"⟩
abbrev b_HP_markDefinitions : ByteArray := prog_3_method_15_code
def y_HP_markDefinitions : MethodName := ⟨rn_HP, "markDefinitions", "()V"⟩
abbrev b_HP_mark : ByteArray := prog_3_method_16_code
def y_HP_mark : MethodName := ⟨rn_HP, "mark", "(J)V"⟩
abbrev b_HP_note : ByteArray := prog_3_method_17_code
def y_HP_note : MethodName := ⟨rn_HP, "note", "(J)V"⟩
abbrev b_HP_sweep : ByteArray := prog_3_method_18_code
def y_HP_sweep : MethodName := ⟨rn_HP, "sweep", "()V"⟩
abbrev b_PP_init : ByteArray := prog_6_method_1_code
def y_PP_init : MethodName := ⟨rn_PP, "<init>", "()V"⟩
abbrev b_PP_clear : ByteArray := prog_6_method_2_code
def y_PP_clear : MethodName := ⟨rn_PP, "clear", "()V"⟩
abbrev b_PP_printed : ByteArray := prog_6_method_3_code
def y_PP_printed : MethodName := ⟨rn_PP, "printed", "()I"⟩
abbrev b_PP_kept : ByteArray := prog_6_method_4_code
def y_PP_kept : MethodName := ⟨rn_PP, "kept", "()I"⟩
abbrev b_PP_at : ByteArray := prog_6_method_5_code
def y_PP_at : MethodName := ⟨rn_PP, "at", "(I)C"⟩
abbrev b_PP_print : ByteArray := prog_6_method_6_code
def y_PP_print : MethodName := ⟨rn_PP, "print", "(C)V"⟩
abbrev b_PP_printNumber : ByteArray := prog_6_method_7_code
def y_PP_printNumber : MethodName := ⟨rn_PP, "printNumber", "(I)V"⟩
abbrev b_MC_init : ByteArray := prog_5_method_1_code
def y_MC_init : MethodName := ⟨rn_MC, "<init>", "(LTurnerHeap$Heap;LTurnerHeap$Paper;)V"⟩
abbrev b_MC_stop : ByteArray := prog_5_method_2_code
def y_MC_stop : MethodName := ⟨rn_MC, "stop", "()I"⟩
abbrev b_MC_steps : ByteArray := prog_5_method_3_code
def y_MC_steps : MethodName := ⟨rn_MC, "steps", "()I"⟩
abbrev b_MC_onSpines : ByteArray := prog_5_method_4_code
def y_MC_onSpines : MethodName := ⟨rn_MC, "onSpines", "()I"⟩
abbrev b_MC_mostOnSpines : ByteArray := prog_5_method_5_code
def y_MC_mostOnSpines : MethodName := ⟨rn_MC, "mostOnSpines", "()I"⟩
abbrev b_MC_begin : ByteArray := prog_5_method_6_code
def y_MC_begin : MethodName := ⟨rn_MC, "begin", "(J)V"⟩
abbrev b_MC_markReached : ByteArray := prog_5_method_7_code
def y_MC_markReached : MethodName := ⟨rn_MC, "markReached", "()I"⟩
abbrev b_MC_step : ByteArray := prog_5_method_8_code
def y_MC_step : MethodName := ⟨rn_MC, "step", "()Z"⟩
abbrev b_MC_goLeft : ByteArray := prog_5_method_9_code
def y_MC_goLeft : MethodName := ⟨rn_MC, "goLeft", "()Z"⟩
abbrev b_MC_halt : ByteArray := prog_5_method_10_code
def y_MC_halt : MethodName := ⟨rn_MC, "halt", "(I)Z"⟩
abbrev b_MC_act : ByteArray := prog_5_method_11_code
def y_MC_act : MethodName := ⟨rn_MC, "act", "()Z"⟩
abbrev b_MC_isPlain : ByteArray := prog_5_method_12_code
def y_MC_isPlain : MethodName := ⟨rn_MC, "isPlain", "(I)Z"⟩
abbrev b_MC_isPrintable : ByteArray := prog_5_method_13_code
def y_MC_isPrintable : MethodName := ⟨rn_MC, "isPrintable", "(I)Z"⟩
abbrev b_MC_argument : ByteArray := prog_5_method_14_code
def y_MC_argument : MethodName := ⟨rn_MC, "argument", "(I)J"⟩
abbrev b_MC_rewrite : ByteArray := prog_5_method_15_code
def y_MC_rewrite : MethodName := ⟨rn_MC, "rewrite", "(I)Z"⟩
abbrev b_MC_overwrite : ByteArray := prog_5_method_16_code
def y_MC_overwrite : MethodName := ⟨rn_MC, "overwrite", "(IJJ)Z"⟩
abbrev b_MC_ask : ByteArray := prog_5_method_17_code
def y_MC_ask : MethodName := ⟨rn_MC, "ask", "(IZI)Z"⟩
abbrev b_MC_haveValue : ByteArray := prog_5_method_18_code
def y_MC_haveValue : MethodName := ⟨rn_MC, "haveValue", "(II)Z"⟩
abbrev b_MC_goOn : ByteArray := prog_5_method_19_code
def y_MC_goOn : MethodName := ⟨rn_MC, "goOn", "(II)Z"⟩
abbrev b_MC_choose : ByteArray := prog_5_method_20_code
def y_MC_choose : MethodName := ⟨rn_MC, "choose", "(I)Z"⟩
abbrev b_MC_takeApart : ByteArray := prog_5_method_21_code
def y_MC_takeApart : MethodName := ⟨rn_MC, "takeApart", "(II)Z"⟩
abbrev b_MC_calculate : ByteArray := prog_5_method_22_code
def y_MC_calculate : MethodName := ⟨rn_MC, "calculate", "(III)J"⟩
abbrev b_MC_truth : ByteArray := prog_5_method_23_code
def y_MC_truth : MethodName := ⟨rn_MC, "truth", "(Z)J"⟩
abbrev b_MC_printTerm : ByteArray := prog_5_method_24_code
def y_MC_printTerm : MethodName := ⟨rn_MC, "printTerm", "(II)Z"⟩
abbrev b_MC_printLeftSide : ByteArray := prog_5_method_25_code
def y_MC_printLeftSide : MethodName := ⟨rn_MC, "printLeftSide", "(II)Z"⟩
abbrev b_MC_printValue : ByteArray := prog_5_method_26_code
def y_MC_printValue : MethodName := ⟨rn_MC, "printValue", "(II)V"⟩
abbrev b_WD_of : ByteArray := prog_9_method_2_code
def y_WD_of : MethodName := ⟨rn_WD, "of", "(II)J"⟩
abbrev b_WD_constant : ByteArray := prog_9_method_3_code
def y_WD_constant : MethodName := ⟨rn_WD, "constant", "(I)J"⟩
abbrev b_WD_kind : ByteArray := prog_9_method_4_code
def y_WD_kind : MethodName := ⟨rn_WD, "kind", "(J)I"⟩
abbrev b_WD_number : ByteArray := prog_9_method_5_code
def y_WD_number : MethodName := ⟨rn_WD, "number", "(J)I"⟩
abbrev b_WD_isCell : ByteArray := prog_9_method_6_code
def y_WD_isCell : MethodName := ⟨rn_WD, "isCell", "(J)Z"⟩
abbrev b_MO_init : ByteArray := prog_11_method_1_code
def y_MO_init : MethodName := ⟨rn_MO, "<init>", "(I)V"⟩
abbrev b_MO_fail : ByteArray := prog_11_method_3_code
def y_MO_fail : MethodName := ⟨rn_MO, "fail", "(I)I"⟩
abbrev b_MO_within : ByteArray := prog_11_method_4_code
def y_MO_within : MethodName := ⟨rn_MO, "within", "(III)Z"⟩
abbrev b_MO_write : ByteArray := prog_11_method_5_code
def y_MO_write : MethodName := ⟨rn_MO, "write", "(JI)I"⟩
abbrev b_MO_erase : ByteArray := prog_11_method_6_code
def y_MO_erase : MethodName := ⟨rn_MO, "erase", "()I"⟩
abbrev b_MO_wrong : ByteArray := prog_11_method_7_code
def y_MO_wrong : MethodName := ⟨rn_MO, "wrong", "(I)V"⟩
abbrev b_MO_isLetter : ByteArray := prog_11_method_8_code
def y_MO_isLetter : MethodName := ⟨rn_MO, "isLetter", "(I)Z"⟩
abbrev b_MO_digit : ByteArray := prog_11_method_9_code
def y_MO_digit : MethodName := ⟨rn_MO, "digit", "(I)Z"⟩
abbrev b_MO_sign : ByteArray := prog_11_method_10_code
def y_MO_sign : MethodName := ⟨rn_MO, "sign", "(I)Z"⟩
abbrev b_MO_lexeme : ByteArray := prog_11_method_11_code
def y_MO_lexeme : MethodName := ⟨rn_MO, "lexeme", "(IJ)V"⟩
abbrev b_MO_cut : ByteArray := prog_11_method_12_code
def y_MO_cut : MethodName := ⟨rn_MO, "cut", "()V"⟩
abbrev b_MO_isSign : ByteArray := prog_11_method_13_code
def y_MO_isSign : MethodName := ⟨rn_MO, "isSign", "(I)Z"⟩
abbrev b_MO_isName : ByteArray := prog_11_method_14_code
def y_MO_isName : MethodName := ⟨rn_MO, "isName", "()Z"⟩
abbrev b_MO_isWord : ByteArray := prog_11_method_15_code
def y_MO_isWord : MethodName := ⟨rn_MO, "isWord", "(J)Z"⟩
abbrev b_MO_expect : ByteArray := prog_11_method_16_code
def y_MO_expect : MethodName := ⟨rn_MO, "expect", "(Z)V"⟩
abbrev b_MO_term : ByteArray := prog_11_method_17_code
def y_MO_term : MethodName := ⟨rn_MO, "term", "(II)J"⟩
abbrev b_MO_kindOf : ByteArray := prog_11_method_18_code
def y_MO_kindOf : MethodName := ⟨rn_MO, "kindOf", "(J)I"⟩
abbrev b_MO_valueOf : ByteArray := prog_11_method_19_code
def y_MO_valueOf : MethodName := ⟨rn_MO, "valueOf", "(J)I"⟩
abbrev b_MO_constant : ByteArray := prog_11_method_20_code
def y_MO_constant : MethodName := ⟨rn_MO, "constant", "(I)J"⟩
abbrev b_MO_apply : ByteArray := prog_11_method_21_code
def y_MO_apply : MethodName := ⟨rn_MO, "apply", "(JJ)J"⟩
abbrev b_MO_release : ByteArray := prog_11_method_22_code
def y_MO_release : MethodName := ⟨rn_MO, "release", "(J)V"⟩
abbrev b_MO_isApplied : ByteArray := prog_11_method_23_code
def y_MO_isApplied : MethodName := ⟨rn_MO, "isApplied", "(JI)Z"⟩
abbrev b_MO_cells : ByteArray := prog_11_method_24_code
def y_MO_cells : MethodName := ⟨rn_MO, "cells", "(J)I"⟩
abbrev b_MO_having : ByteArray := prog_11_method_25_code
def y_MO_having : MethodName := ⟨rn_MO, "having", "(JJ)Z"⟩
abbrev b_MO_side : ByteArray := prog_11_method_26_code
def y_MO_side : MethodName := ⟨rn_MO, "side", "(JJ)J"⟩
abbrev b_MO_combined : ByteArray := prog_11_method_27_code
def y_MO_combined : MethodName := ⟨rn_MO, "combined", "(JJ)J"⟩
abbrev b_MO_without : ByteArray := prog_11_method_28_code
def y_MO_without : MethodName := ⟨rn_MO, "without", "(JJ)J"⟩
abbrev b_MO_within400 : ByteArray := prog_11_method_29_code
def y_MO_within400 : MethodName := ⟨rn_MO, "within400", "(J)J"⟩
abbrev b_MO_push : ByteArray := prog_11_method_30_code
def y_MO_push : MethodName := ⟨rn_MO, "push", "(J)V"⟩
abbrev b_MO_pop : ByteArray := prog_11_method_31_code
def y_MO_pop : MethodName := ⟨rn_MO, "pop", "()J"⟩
abbrev b_MO_open : ByteArray := prog_11_method_32_code
def y_MO_open : MethodName := ⟨rn_MO, "open", "(I)V"⟩
abbrev b_MO_begin : ByteArray := prog_11_method_33_code
def y_MO_begin : MethodName := ⟨rn_MO, "begin", "(I)V"⟩
abbrev b_MO_atom : ByteArray := prog_11_method_34_code
def y_MO_atom : MethodName := ⟨rn_MO, "atom", "(J)V"⟩
abbrev b_MO_named : ByteArray := prog_11_method_35_code
def y_MO_named : MethodName := ⟨rn_MO, "named", "(J)J"⟩
abbrev b_MO_beginsAtom : ByteArray := prog_11_method_36_code
def y_MO_beginsAtom : MethodName := ⟨rn_MO, "beginsAtom", "()Z"⟩
abbrev b_MO_start : ByteArray := prog_11_method_37_code
def y_MO_start : MethodName := ⟨rn_MO, "start", "()V"⟩
abbrev b_MO_rank : ByteArray := prog_11_method_38_code
def y_MO_rank : MethodName := ⟨rn_MO, "rank", "(I)I"⟩
abbrev b_MO_operationAt : ByteArray := prog_11_method_39_code
def y_MO_operationAt : MethodName := ⟨rn_MO, "operationAt", "()I"⟩
abbrev b_MO_reduce : ByteArray := prog_11_method_40_code
def y_MO_reduce : MethodName := ⟨rn_MO, "reduce", "()V"⟩
abbrev b_MO_operator : ByteArray := prog_11_method_41_code
def y_MO_operator : MethodName := ⟨rn_MO, "operator", "(I)V"⟩
abbrev b_MO_ended : ByteArray := prog_11_method_42_code
def y_MO_ended : MethodName := ⟨rn_MO, "ended", "()V"⟩
abbrev b_MO_whole : ByteArray := prog_11_method_43_code
def y_MO_whole : MethodName := ⟨rn_MO, "whole", "(J)V"⟩
abbrev b_MO_listed : ByteArray := prog_11_method_44_code
def y_MO_listed : MethodName := ⟨rn_MO, "listed", "(I)V"⟩
abbrev b_MO_expression : ByteArray := prog_11_method_45_code
def y_MO_expression : MethodName := ⟨rn_MO, "expression", "()J"⟩
abbrev b_MO_collect : ByteArray := prog_11_method_46_code
def y_MO_collect : MethodName := ⟨rn_MO, "collect", "()V"⟩
abbrev b_MO_definition : ByteArray := prog_11_method_47_code
def y_MO_definition : MethodName := ⟨rn_MO, "definition", "(I)J"⟩
abbrev b_MO_keepForm : ByteArray := prog_11_method_48_code
def y_MO_keepForm : MethodName := ⟨rn_MO, "keepForm", "(I)V"⟩
abbrev b_MO_moved : ByteArray := prog_11_method_49_code
def y_MO_moved : MethodName := ⟨rn_MO, "moved", "(JI)J"⟩
abbrev b_MO_read : ByteArray := prog_11_method_50_code
def y_MO_read : MethodName := ⟨rn_MO, "read", "()I"⟩
abbrev b_MO_ready : ByteArray := prog_11_method_51_code
def y_MO_ready : MethodName := ⟨rn_MO, "ready", "()V"⟩
abbrev b_MO_reach : ByteArray := prog_11_method_52_code
def y_MO_reach : MethodName := ⟨rn_MO, "reach", "(JI)I"⟩
abbrev b_MO_reachedNow : ByteArray := prog_11_method_53_code
def y_MO_reachedNow : MethodName := ⟨rn_MO, "reachedNow", "()I"⟩
abbrev b_MO_made : ByteArray := prog_11_method_54_code
def y_MO_made : MethodName := ⟨rn_MO, "made", "(JJ)J"⟩
abbrev b_MO_fits : ByteArray := prog_11_method_55_code
def y_MO_fits : MethodName := ⟨rn_MO, "fits", "(I)Z"⟩
abbrev b_MO_below : ByteArray := prog_11_method_56_code
def y_MO_below : MethodName := ⟨rn_MO, "below", "()I"⟩
abbrev b_MO_needs : ByteArray := prog_11_method_57_code
def y_MO_needs : MethodName := ⟨rn_MO, "needs", "(I)I"⟩
abbrev b_MO_argument : ByteArray := prog_11_method_58_code
def y_MO_argument : MethodName := ⟨rn_MO, "argument", "(I)J"⟩
abbrev b_MO_overwrite : ByteArray := prog_11_method_59_code
def y_MO_overwrite : MethodName := ⟨rn_MO, "overwrite", "(IJJ)V"⟩
abbrev b_MO_combinator : ByteArray := prog_11_method_60_code
def y_MO_combinator : MethodName := ⟨rn_MO, "combinator", "(I)V"⟩
abbrev b_MO_evaluate : ByteArray := prog_11_method_61_code
def y_MO_evaluate : MethodName := ⟨rn_MO, "evaluate", "(IJZI)V"⟩
abbrev b_MO_truth : ByteArray := prog_11_method_62_code
def y_MO_truth : MethodName := ⟨rn_MO, "truth", "(J)Z"⟩
abbrev b_MO_counted : ByteArray := prog_11_method_63_code
def y_MO_counted : MethodName := ⟨rn_MO, "counted", "(III)V"⟩
abbrev b_MO_goesOn : ByteArray := prog_11_method_64_code
def y_MO_goesOn : MethodName := ⟨rn_MO, "goesOn", "(JZJJZ)V"⟩
abbrev b_MO_letterOut : ByteArray := prog_11_method_65_code
def y_MO_letterOut : MethodName := ⟨rn_MO, "letterOut", "(I)V"⟩
abbrev b_MO_digits : ByteArray := prog_11_method_66_code
def y_MO_digits : MethodName := ⟨rn_MO, "digits", "(I)V"⟩
abbrev b_MO_say : ByteArray := prog_11_method_67_code
def y_MO_say : MethodName := ⟨rn_MO, "say", "(J)V"⟩
abbrev b_MO_printed : ByteArray := prog_11_method_68_code
def y_MO_printed : MethodName := ⟨rn_MO, "printed", "(JZJJZ)V"⟩
abbrev b_MO_value : ByteArray := prog_11_method_69_code
def y_MO_value : MethodName := ⟨rn_MO, "value", "(ZZ)V"⟩
abbrev b_MO_act : ByteArray := prog_11_method_70_code
def y_MO_act : MethodName := ⟨rn_MO, "act", "()V"⟩
abbrev b_MO_step : ByteArray := prog_11_method_71_code
def y_MO_step : MethodName := ⟨rn_MO, "step", "()V"⟩
abbrev b_MO_run : ByteArray := prog_11_method_72_code
def y_MO_run : MethodName := ⟨rn_MO, "run", "(I)I"⟩
abbrev b_MO_stopped : ByteArray := prog_11_method_73_code
def y_MO_stopped : MethodName := ⟨rn_MO, "stopped", "()I"⟩
abbrev b_MO_length : ByteArray := prog_11_method_74_code
def y_MO_length : MethodName := ⟨rn_MO, "length", "()I"⟩
abbrev b_MO_letter : ByteArray := prog_11_method_75_code
def y_MO_letter : MethodName := ⟨rn_MO, "letter", "(I)I"⟩
abbrev b_MO_reached : ByteArray := prog_11_method_76_code
def y_MO_reached : MethodName := ⟨rn_MO, "reached", "()I"⟩
abbrev b_MO_count : ByteArray := prog_11_method_77_code
def y_MO_count : MethodName := ⟨rn_MO, "count", "(I)I"⟩
abbrev b_MO_form : ByteArray := prog_11_method_78_code
def y_MO_form : MethodName := ⟨rn_MO, "form", "(II)I"⟩
abbrev b_LW_cell : ByteArray := method_2_code
def y_LW_cell : MethodName := ⟨rn_LW, "cell", "([II)I"⟩
abbrev b_LW_write : ByteArray := method_3_code
def y_LW_write : MethodName := ⟨rn_LW, "write", "(LTurnerHeap;JI[J)I"⟩
abbrev b_LW_read : ByteArray := method_4_code
def y_LW_read : MethodName := ⟨rn_LW, "read", "(LTurnerHeap;[J)I"⟩
abbrev b_LW_run : ByteArray := method_5_code
def y_LW_run : MethodName := ⟨rn_LW, "run", "(LTurnerHeap;I[J)I"⟩
abbrev b_LW_letter : ByteArray := method_6_code
def y_LW_letter : MethodName := ⟨rn_LW, "letter", "(LTurnerHeap;I[J)I"⟩
abbrev b_LW_reached : ByteArray := method_7_code
def y_LW_reached : MethodName := ⟨rn_LW, "reached", "(LTurnerHeap;[J)I"⟩
abbrev b_LW_count : ByteArray := method_8_code
def y_LW_count : MethodName := ⟨rn_LW, "count", "(LTurnerHeap;I[J)I"⟩
abbrev b_LW_form : ByteArray := method_9_code
def y_LW_form : MethodName := ⟨rn_LW, "form", "(LTurnerHeap;II[J)I"⟩
def G : List Cond := lw_tbl.filter goodWord
theorem G_tbl : ∀ w ∈ G, w ∈ lw_tbl := fun w h => (List.mem_filter.mp h).1
theorem G_ok : ∀ w ∈ G, (w.onTables && w.keeps) = true ∨ ∃ ty, w = .arrayClass ty := fun w h => good_of_word (List.mem_filter.mp h).2
theorem tb_0 {w : Cond} (h : w ∈ k2_sels lw_privs) (hg : goodWord w = true) : w ∈ G := List.mem_filter.mpr ⟨List.mem_append_left _ h, hg⟩
theorem tb_1 {w : Cond} (h : w ∈ tables_1_1) (hg : goodWord w = true) : w ∈ G := List.mem_filter.mpr ⟨List.mem_append_right _ (List.mem_append_left _ h), hg⟩
theorem tb_2 {w : Cond} (h : w ∈ tables_1_2) (hg : goodWord w = true) : w ∈ G := List.mem_filter.mpr ⟨List.mem_append_right _ (List.mem_append_right _ (List.mem_append_left _ h)), hg⟩
theorem tb_3 {w : Cond} (h : w ∈ tables_1_3) (hg : goodWord w = true) : w ∈ G := List.mem_filter.mpr ⟨List.mem_append_right _ (List.mem_append_right _ (List.mem_append_right _ (List.mem_append_left _ h))), hg⟩
theorem tb_4 {w : Cond} (h : w ∈ tables_1_4) (hg : goodWord w = true) : w ∈ G := List.mem_filter.mpr ⟨List.mem_append_right _ (List.mem_append_right _ (List.mem_append_right _ (List.mem_append_right _ (List.mem_append_left _ h)))), hg⟩
theorem tb_5 {w : Cond} (h : w ∈ tables_1_5) (hg : goodWord w = true) : w ∈ G := List.mem_filter.mpr ⟨List.mem_append_right _ (List.mem_append_right _ (List.mem_append_right _ (List.mem_append_right _ (List.mem_append_right _ (List.mem_append_left _ h))))), hg⟩
theorem tb_6 {w : Cond} (h : w ∈ tables_1_6) (hg : goodWord w = true) : w ∈ G := List.mem_filter.mpr ⟨List.mem_append_right _ (List.mem_append_right _ (List.mem_append_right _ (List.mem_append_right _ (List.mem_append_right _ (List.mem_append_right _ (List.mem_append_left _ h)))))), hg⟩
theorem tb_7 {w : Cond} (h : w ∈ tables_1_7) (hg : goodWord w = true) : w ∈ G := List.mem_filter.mpr ⟨List.mem_append_right _ (List.mem_append_right _ (List.mem_append_right _ (List.mem_append_right _ (List.mem_append_right _ (List.mem_append_right _ (List.mem_append_right _ (h))))))), hg⟩
theorem k_0 : Cond.selects "java/lang/Throwable" ({ cls := "java/lang/Throwable", name := "fillInStackTrace", desc := "(I)Ljava/lang/Throwable;" } : MethodName) ({ cls := "java/lang/Throwable", name := "fillInStackTrace", desc := "(I)Ljava/lang/Throwable;" } : MethodName) ∈ G := tb_0 (List.mem_of_getElem? (i := 0) (by decide +kernel)) rfl
theorem k_1 : Cond.selects "TurnerHeap" ({ cls := "TurnerHeap", name := "forget", desc := "()V" } : MethodName) ({ cls := "TurnerHeap", name := "forget", desc := "()V" } : MethodName) ∈ G := tb_0 (List.mem_of_getElem? (i := 1) (by decide +kernel)) rfl
theorem k_2 : Cond.selects "TurnerHeap$Lexemes" ({ cls := "TurnerHeap$Lexemes", name := "add", desc := "(II)V" } : MethodName) ({ cls := "TurnerHeap$Lexemes", name := "add", desc := "(II)V" } : MethodName) ∈ G := tb_0 (List.mem_of_getElem? (i := 2) (by decide +kernel)) rfl
theorem k_3 : Cond.selects "TurnerHeap$Reader" ({ cls := "TurnerHeap$Reader", name := "findNames", desc := "()V" } : MethodName) ({ cls := "TurnerHeap$Reader", name := "findNames", desc := "()V" } : MethodName) ∈ G := tb_0 (List.mem_of_getElem? (i := 3) (by decide +kernel)) rfl
theorem k_4 : Cond.selects "TurnerHeap$Reader" ({ cls := "TurnerHeap$Reader", name := "isWord", desc := "(I)Z" } : MethodName) ({ cls := "TurnerHeap$Reader", name := "isWord", desc := "(I)Z" } : MethodName) ∈ G := tb_0 (List.mem_of_getElem? (i := 4) (by decide +kernel)) rfl
theorem k_5 : Cond.selects "TurnerHeap$Reader" ({ cls := "TurnerHeap$Reader", name := "expect", desc := "(I)V" } : MethodName) ({ cls := "TurnerHeap$Reader", name := "expect", desc := "(I)V" } : MethodName) ∈ G := tb_0 (List.mem_of_getElem? (i := 5) (by decide +kernel)) rfl
theorem k_6 : Cond.selects "TurnerHeap$Reader" ({ cls := "TurnerHeap$Reader", name := "readParameter", desc := "()V" } : MethodName) ({ cls := "TurnerHeap$Reader", name := "readParameter", desc := "()V" } : MethodName) ∈ G := tb_0 (List.mem_of_getElem? (i := 6) (by decide +kernel)) rfl
theorem k_7 : Cond.selects "TurnerHeap$Reader" ({ cls := "TurnerHeap$Reader", name := "isInScope", desc := "(I)Z" } : MethodName) ({ cls := "TurnerHeap$Reader", name := "isInScope", desc := "(I)Z" } : MethodName) ∈ G := tb_0 (List.mem_of_getElem? (i := 7) (by decide +kernel)) rfl
theorem k_8 : Cond.selects "TurnerHeap$Reader" ({ cls := "TurnerHeap$Reader", name := "expression", desc := "(I)J" } : MethodName) ({ cls := "TurnerHeap$Reader", name := "expression", desc := "(I)J" } : MethodName) ∈ G := tb_0 (List.mem_of_getElem? (i := 8) (by decide +kernel)) rfl
theorem k_9 : Cond.selects "TurnerHeap$Reader" ({ cls := "TurnerHeap$Reader", name := "choice", desc := "(I)J" } : MethodName) ({ cls := "TurnerHeap$Reader", name := "choice", desc := "(I)J" } : MethodName) ∈ G := tb_0 (List.mem_of_getElem? (i := 9) (by decide +kernel)) rfl
theorem k_10 : Cond.selects "TurnerHeap$Reader" ({ cls := "TurnerHeap$Reader", name := "expectWord", desc := "(I)V" } : MethodName) ({ cls := "TurnerHeap$Reader", name := "expectWord", desc := "(I)V" } : MethodName) ∈ G := tb_0 (List.mem_of_getElem? (i := 10) (by decide +kernel)) rfl
theorem k_11 : Cond.selects "TurnerHeap$Reader" ({ cls := "TurnerHeap$Reader", name := "function", desc := "(I)J" } : MethodName) ({ cls := "TurnerHeap$Reader", name := "function", desc := "(I)J" } : MethodName) ∈ G := tb_0 (List.mem_of_getElem? (i := 11) (by decide +kernel)) rfl
theorem k_12 : Cond.selects "TurnerHeap$Terms" ({ cls := "TurnerHeap$Terms", name := "listSide", desc := "(JI)I" } : MethodName) ({ cls := "TurnerHeap$Terms", name := "listSide", desc := "(JI)I" } : MethodName) ∈ G := tb_0 (List.mem_of_getElem? (i := 12) (by decide +kernel)) rfl
theorem k_13 : Cond.selects "TurnerHeap$Terms" ({ cls := "TurnerHeap$Terms", name := "takeOutOf", desc := "(IJ)V" } : MethodName) ({ cls := "TurnerHeap$Terms", name := "takeOutOf", desc := "(IJ)V" } : MethodName) ∈ G := tb_0 (List.mem_of_getElem? (i := 13) (by decide +kernel)) rfl
theorem k_14 : Cond.selects "TurnerHeap$Terms" ({ cls := "TurnerHeap$Terms", name := "hasName", desc := "(JJ)Z" } : MethodName) ({ cls := "TurnerHeap$Terms", name := "hasName", desc := "(JJ)Z" } : MethodName) ∈ G := tb_0 (List.mem_of_getElem? (i := 14) (by decide +kernel)) rfl
theorem k_15 : Cond.selects "TurnerHeap$Terms" ({ cls := "TurnerHeap$Terms", name := "withoutName", desc := "(J)J" } : MethodName) ({ cls := "TurnerHeap$Terms", name := "withoutName", desc := "(J)J" } : MethodName) ∈ G := tb_0 (List.mem_of_getElem? (i := 15) (by decide +kernel)) rfl
theorem k_16 : Cond.selects "TurnerHeap$Terms" ({ cls := "TurnerHeap$Terms", name := "isK", desc := "(J)Z" } : MethodName) ({ cls := "TurnerHeap$Terms", name := "isK", desc := "(J)Z" } : MethodName) ∈ G := tb_0 (List.mem_of_getElem? (i := 16) (by decide +kernel)) rfl
theorem k_17 : Cond.selects "TurnerHeap$Terms" ({ cls := "TurnerHeap$Terms", name := "unwrap", desc := "(J)J" } : MethodName) ({ cls := "TurnerHeap$Terms", name := "unwrap", desc := "(J)J" } : MethodName) ∈ G := tb_0 (List.mem_of_getElem? (i := 17) (by decide +kernel)) rfl
theorem k_18 : Cond.selects "TurnerHeap$Terms" ({ cls := "TurnerHeap$Terms", name := "drop", desc := "(I)V" } : MethodName) ({ cls := "TurnerHeap$Terms", name := "drop", desc := "(I)V" } : MethodName) ∈ G := tb_0 (List.mem_of_getElem? (i := 18) (by decide +kernel)) rfl
theorem k_19 : Cond.selects "TurnerHeap$Terms" ({ cls := "TurnerHeap$Terms", name := "joinConstant", desc := "(IJJZ)J" } : MethodName) ({ cls := "TurnerHeap$Terms", name := "joinConstant", desc := "(IJJZ)J" } : MethodName) ∈ G := tb_0 (List.mem_of_getElem? (i := 19) (by decide +kernel)) rfl
theorem k_20 : Cond.selects "TurnerHeap$Terms" ({ cls := "TurnerHeap$Terms", name := "put", desc := "(IJJ)J" } : MethodName) ({ cls := "TurnerHeap$Terms", name := "put", desc := "(IJJ)J" } : MethodName) ∈ G := tb_0 (List.mem_of_getElem? (i := 20) (by decide +kernel)) rfl
theorem k_21 : Cond.selects "TurnerHeap$Terms" ({ cls := "TurnerHeap$Terms", name := "joinVarying", desc := "(IJJZ)J" } : MethodName) ({ cls := "TurnerHeap$Terms", name := "joinVarying", desc := "(IJJZ)J" } : MethodName) ∈ G := tb_0 (List.mem_of_getElem? (i := 21) (by decide +kernel)) rfl
theorem k_22 : Cond.selects "TurnerHeap$Terms" ({ cls := "TurnerHeap$Terms", name := "isB", desc := "(J)Z" } : MethodName) ({ cls := "TurnerHeap$Terms", name := "isB", desc := "(J)Z" } : MethodName) ∈ G := tb_0 (List.mem_of_getElem? (i := 22) (by decide +kernel)) rfl
theorem k_23 : Cond.selects "TurnerHeap$Reader" ({ cls := "TurnerHeap$Reader", name := "chain", desc := "(I)J" } : MethodName) ({ cls := "TurnerHeap$Reader", name := "chain", desc := "(I)J" } : MethodName) ∈ G := tb_0 (List.mem_of_getElem? (i := 23) (by decide +kernel)) rfl
theorem k_24 : Cond.selects "TurnerHeap$Reader" ({ cls := "TurnerHeap$Reader", name := "comparison", desc := "(I)J" } : MethodName) ({ cls := "TurnerHeap$Reader", name := "comparison", desc := "(I)J" } : MethodName) ∈ G := tb_0 (List.mem_of_getElem? (i := 24) (by decide +kernel)) rfl
theorem k_25 : Cond.selects "TurnerHeap$Reader" ({ cls := "TurnerHeap$Reader", name := "sum", desc := "(I)J" } : MethodName) ({ cls := "TurnerHeap$Reader", name := "sum", desc := "(I)J" } : MethodName) ∈ G := tb_0 (List.mem_of_getElem? (i := 25) (by decide +kernel)) rfl
theorem k_26 : Cond.selects "TurnerHeap$Reader" ({ cls := "TurnerHeap$Reader", name := "product", desc := "(I)J" } : MethodName) ({ cls := "TurnerHeap$Reader", name := "product", desc := "(I)J" } : MethodName) ∈ G := tb_0 (List.mem_of_getElem? (i := 26) (by decide +kernel)) rfl
theorem k_27 : Cond.selects "TurnerHeap$Reader" ({ cls := "TurnerHeap$Reader", name := "application", desc := "(I)J" } : MethodName) ({ cls := "TurnerHeap$Reader", name := "application", desc := "(I)J" } : MethodName) ∈ G := tb_0 (List.mem_of_getElem? (i := 27) (by decide +kernel)) rfl
theorem k_28 : Cond.selects "TurnerHeap$Reader" ({ cls := "TurnerHeap$Reader", name := "atom", desc := "(I)J" } : MethodName) ({ cls := "TurnerHeap$Reader", name := "atom", desc := "(I)J" } : MethodName) ∈ G := tb_0 (List.mem_of_getElem? (i := 28) (by decide +kernel)) rfl
theorem k_29 : Cond.selects "TurnerHeap$Reader" ({ cls := "TurnerHeap$Reader", name := "beginsAtom", desc := "()Z" } : MethodName) ({ cls := "TurnerHeap$Reader", name := "beginsAtom", desc := "()Z" } : MethodName) ∈ G := tb_0 (List.mem_of_getElem? (i := 29) (by decide +kernel)) rfl
theorem k_30 : Cond.selects "TurnerHeap$Reader" ({ cls := "TurnerHeap$Reader", name := "meaning", desc := "(I)J" } : MethodName) ({ cls := "TurnerHeap$Reader", name := "meaning", desc := "(I)J" } : MethodName) ∈ G := tb_0 (List.mem_of_getElem? (i := 30) (by decide +kernel)) rfl
theorem k_31 : Cond.selects "TurnerHeap$Reader" ({ cls := "TurnerHeap$Reader", name := "row", desc := "(I)J" } : MethodName) ({ cls := "TurnerHeap$Reader", name := "row", desc := "(I)J" } : MethodName) ∈ G := tb_0 (List.mem_of_getElem? (i := 31) (by decide +kernel)) rfl
theorem k_32 : Cond.selects "TurnerHeap$Reader" ({ cls := "TurnerHeap$Reader", name := "await", desc := "(J)V" } : MethodName) ({ cls := "TurnerHeap$Reader", name := "await", desc := "(J)V" } : MethodName) ∈ G := tb_0 (List.mem_of_getElem? (i := 32) (by decide +kernel)) rfl
theorem k_33 : Cond.selects "TurnerHeap$Reader" ({ cls := "TurnerHeap$Reader", name := "pairUp", desc := "(IJ)J" } : MethodName) ({ cls := "TurnerHeap$Reader", name := "pairUp", desc := "(IJ)J" } : MethodName) ∈ G := tb_0 (List.mem_of_getElem? (i := 33) (by decide +kernel)) rfl
theorem k_34 : Cond.selects "TurnerHeap" ({ cls := "TurnerHeap", name := "begin", desc := "()V" } : MethodName) ({ cls := "TurnerHeap", name := "begin", desc := "()V" } : MethodName) ∈ G := tb_0 (List.mem_of_getElem? (i := 34) (by decide +kernel)) rfl
theorem k_35 : Cond.selects "TurnerHeap$Heap" ({ cls := "TurnerHeap$Heap", name := "placed", desc := "(J)J" } : MethodName) ({ cls := "TurnerHeap$Heap", name := "placed", desc := "(J)J" } : MethodName) ∈ G := tb_0 (List.mem_of_getElem? (i := 35) (by decide +kernel)) rfl
theorem k_36 : Cond.selects "TurnerHeap$Machine" ({ cls := "TurnerHeap$Machine", name := "goLeft", desc := "()Z" } : MethodName) ({ cls := "TurnerHeap$Machine", name := "goLeft", desc := "()Z" } : MethodName) ∈ G := tb_0 (List.mem_of_getElem? (i := 36) (by decide +kernel)) rfl
theorem k_37 : Cond.selects "TurnerHeap$Machine" ({ cls := "TurnerHeap$Machine", name := "halt", desc := "(I)Z" } : MethodName) ({ cls := "TurnerHeap$Machine", name := "halt", desc := "(I)Z" } : MethodName) ∈ G := tb_0 (List.mem_of_getElem? (i := 37) (by decide +kernel)) rfl
theorem k_38 : Cond.selects "TurnerHeap$Machine" ({ cls := "TurnerHeap$Machine", name := "act", desc := "()Z" } : MethodName) ({ cls := "TurnerHeap$Machine", name := "act", desc := "()Z" } : MethodName) ∈ G := tb_0 (List.mem_of_getElem? (i := 38) (by decide +kernel)) rfl
theorem k_39 : Cond.selects "TurnerHeap$Machine" ({ cls := "TurnerHeap$Machine", name := "haveValue", desc := "(II)Z" } : MethodName) ({ cls := "TurnerHeap$Machine", name := "haveValue", desc := "(II)Z" } : MethodName) ∈ G := tb_0 (List.mem_of_getElem? (i := 39) (by decide +kernel)) rfl
theorem k_40 : Cond.selects "TurnerHeap$Machine" ({ cls := "TurnerHeap$Machine", name := "argument", desc := "(I)J" } : MethodName) ({ cls := "TurnerHeap$Machine", name := "argument", desc := "(I)J" } : MethodName) ∈ G := tb_0 (List.mem_of_getElem? (i := 40) (by decide +kernel)) rfl
theorem k_41 : Cond.selects "TurnerHeap$Machine" ({ cls := "TurnerHeap$Machine", name := "printLeftSide", desc := "(II)Z" } : MethodName) ({ cls := "TurnerHeap$Machine", name := "printLeftSide", desc := "(II)Z" } : MethodName) ∈ G := tb_0 (List.mem_of_getElem? (i := 41) (by decide +kernel)) rfl
theorem k_42 : Cond.selects "TurnerHeap$Machine" ({ cls := "TurnerHeap$Machine", name := "printValue", desc := "(II)V" } : MethodName) ({ cls := "TurnerHeap$Machine", name := "printValue", desc := "(II)V" } : MethodName) ∈ G := tb_0 (List.mem_of_getElem? (i := 42) (by decide +kernel)) rfl
theorem k_43 : Cond.selects "TurnerHeap$Machine" ({ cls := "TurnerHeap$Machine", name := "printTerm", desc := "(II)Z" } : MethodName) ({ cls := "TurnerHeap$Machine", name := "printTerm", desc := "(II)Z" } : MethodName) ∈ G := tb_0 (List.mem_of_getElem? (i := 43) (by decide +kernel)) rfl
theorem k_44 : Cond.selects "TurnerHeap$Machine" ({ cls := "TurnerHeap$Machine", name := "goOn", desc := "(II)Z" } : MethodName) ({ cls := "TurnerHeap$Machine", name := "goOn", desc := "(II)Z" } : MethodName) ∈ G := tb_0 (List.mem_of_getElem? (i := 44) (by decide +kernel)) rfl
theorem k_45 : Cond.selects "TurnerHeap$Machine" ({ cls := "TurnerHeap$Machine", name := "choose", desc := "(I)Z" } : MethodName) ({ cls := "TurnerHeap$Machine", name := "choose", desc := "(I)Z" } : MethodName) ∈ G := tb_0 (List.mem_of_getElem? (i := 45) (by decide +kernel)) rfl
theorem k_46 : Cond.selects "TurnerHeap$Machine" ({ cls := "TurnerHeap$Machine", name := "overwrite", desc := "(IJJ)Z" } : MethodName) ({ cls := "TurnerHeap$Machine", name := "overwrite", desc := "(IJJ)Z" } : MethodName) ∈ G := tb_0 (List.mem_of_getElem? (i := 46) (by decide +kernel)) rfl
theorem k_47 : Cond.selects "TurnerHeap$Machine" ({ cls := "TurnerHeap$Machine", name := "takeApart", desc := "(II)Z" } : MethodName) ({ cls := "TurnerHeap$Machine", name := "takeApart", desc := "(II)Z" } : MethodName) ∈ G := tb_0 (List.mem_of_getElem? (i := 47) (by decide +kernel)) rfl
theorem k_48 : Cond.selects "TurnerHeap$Machine" ({ cls := "TurnerHeap$Machine", name := "ask", desc := "(IZI)Z" } : MethodName) ({ cls := "TurnerHeap$Machine", name := "ask", desc := "(IZI)Z" } : MethodName) ∈ G := tb_0 (List.mem_of_getElem? (i := 48) (by decide +kernel)) rfl
theorem k_49 : Cond.selects "TurnerHeap$Machine" ({ cls := "TurnerHeap$Machine", name := "rewrite", desc := "(I)Z" } : MethodName) ({ cls := "TurnerHeap$Machine", name := "rewrite", desc := "(I)Z" } : MethodName) ∈ G := tb_0 (List.mem_of_getElem? (i := 49) (by decide +kernel)) rfl
theorem k_50 : Cond.selects "TurnerHeap$Heap" ({ cls := "TurnerHeap$Heap", name := "note", desc := "(J)V" } : MethodName) ({ cls := "TurnerHeap$Heap", name := "note", desc := "(J)V" } : MethodName) ∈ G := tb_0 (List.mem_of_getElem? (i := 50) (by decide +kernel)) rfl
theorem k_51 : Cond.selects "TurnerHeapModel" ({ cls := "TurnerHeapModel", name := "fail", desc := "(I)I" } : MethodName) ({ cls := "TurnerHeapModel", name := "fail", desc := "(I)I" } : MethodName) ∈ G := tb_0 (List.mem_of_getElem? (i := 51) (by decide +kernel)) rfl
theorem k_52 : Cond.selects "TurnerHeapModel" ({ cls := "TurnerHeapModel", name := "cut", desc := "()V" } : MethodName) ({ cls := "TurnerHeapModel", name := "cut", desc := "()V" } : MethodName) ∈ G := tb_0 (List.mem_of_getElem? (i := 52) (by decide +kernel)) rfl
theorem k_53 : Cond.selects "TurnerHeapModel" ({ cls := "TurnerHeapModel", name := "lexeme", desc := "(IJ)V" } : MethodName) ({ cls := "TurnerHeapModel", name := "lexeme", desc := "(IJ)V" } : MethodName) ∈ G := tb_0 (List.mem_of_getElem? (i := 53) (by decide +kernel)) rfl
theorem k_54 : Cond.selects "TurnerHeapModel" ({ cls := "TurnerHeapModel", name := "wrong", desc := "(I)V" } : MethodName) ({ cls := "TurnerHeapModel", name := "wrong", desc := "(I)V" } : MethodName) ∈ G := tb_0 (List.mem_of_getElem? (i := 54) (by decide +kernel)) rfl
theorem k_55 : Cond.selects "TurnerHeapModel" ({ cls := "TurnerHeapModel", name := "collect", desc := "()V" } : MethodName) ({ cls := "TurnerHeapModel", name := "collect", desc := "()V" } : MethodName) ∈ G := tb_0 (List.mem_of_getElem? (i := 55) (by decide +kernel)) rfl
theorem k_56 : Cond.selects "TurnerHeapModel" ({ cls := "TurnerHeapModel", name := "isName", desc := "()Z" } : MethodName) ({ cls := "TurnerHeapModel", name := "isName", desc := "()Z" } : MethodName) ∈ G := tb_0 (List.mem_of_getElem? (i := 56) (by decide +kernel)) rfl
theorem k_57 : Cond.selects "TurnerHeapModel" ({ cls := "TurnerHeapModel", name := "isWord", desc := "(J)Z" } : MethodName) ({ cls := "TurnerHeapModel", name := "isWord", desc := "(J)Z" } : MethodName) ∈ G := tb_0 (List.mem_of_getElem? (i := 57) (by decide +kernel)) rfl
theorem k_58 : Cond.selects "TurnerHeapModel" ({ cls := "TurnerHeapModel", name := "definition", desc := "(I)J" } : MethodName) ({ cls := "TurnerHeapModel", name := "definition", desc := "(I)J" } : MethodName) ∈ G := tb_0 (List.mem_of_getElem? (i := 58) (by decide +kernel)) rfl
theorem k_59 : Cond.selects "TurnerHeapModel" ({ cls := "TurnerHeapModel", name := "expect", desc := "(Z)V" } : MethodName) ({ cls := "TurnerHeapModel", name := "expect", desc := "(Z)V" } : MethodName) ∈ G := tb_0 (List.mem_of_getElem? (i := 59) (by decide +kernel)) rfl
theorem k_60 : Cond.selects "TurnerHeapModel" ({ cls := "TurnerHeapModel", name := "isSign", desc := "(I)Z" } : MethodName) ({ cls := "TurnerHeapModel", name := "isSign", desc := "(I)Z" } : MethodName) ∈ G := tb_0 (List.mem_of_getElem? (i := 60) (by decide +kernel)) rfl
theorem k_61 : Cond.selects "TurnerHeapModel" ({ cls := "TurnerHeapModel", name := "expression", desc := "()J" } : MethodName) ({ cls := "TurnerHeapModel", name := "expression", desc := "()J" } : MethodName) ∈ G := tb_0 (List.mem_of_getElem? (i := 61) (by decide +kernel)) rfl
theorem k_62 : Cond.selects "TurnerHeapModel" ({ cls := "TurnerHeapModel", name := "open", desc := "(I)V" } : MethodName) ({ cls := "TurnerHeapModel", name := "open", desc := "(I)V" } : MethodName) ∈ G := tb_0 (List.mem_of_getElem? (i := 62) (by decide +kernel)) rfl
theorem k_63 : Cond.selects "TurnerHeapModel" ({ cls := "TurnerHeapModel", name := "begin", desc := "(I)V" } : MethodName) ({ cls := "TurnerHeapModel", name := "begin", desc := "(I)V" } : MethodName) ∈ G := tb_0 (List.mem_of_getElem? (i := 63) (by decide +kernel)) rfl
theorem k_64 : Cond.selects "TurnerHeapModel" ({ cls := "TurnerHeapModel", name := "start", desc := "()V" } : MethodName) ({ cls := "TurnerHeapModel", name := "start", desc := "()V" } : MethodName) ∈ G := tb_0 (List.mem_of_getElem? (i := 64) (by decide +kernel)) rfl
theorem k_65 : Cond.selects "TurnerHeapModel" ({ cls := "TurnerHeapModel", name := "atom", desc := "(J)V" } : MethodName) ({ cls := "TurnerHeapModel", name := "atom", desc := "(J)V" } : MethodName) ∈ G := tb_0 (List.mem_of_getElem? (i := 65) (by decide +kernel)) rfl
theorem k_66 : Cond.selects "TurnerHeapModel" ({ cls := "TurnerHeapModel", name := "pop", desc := "()J" } : MethodName) ({ cls := "TurnerHeapModel", name := "pop", desc := "()J" } : MethodName) ∈ G := tb_0 (List.mem_of_getElem? (i := 66) (by decide +kernel)) rfl
theorem k_67 : Cond.selects "TurnerHeapModel" ({ cls := "TurnerHeapModel", name := "apply", desc := "(JJ)J" } : MethodName) ({ cls := "TurnerHeapModel", name := "apply", desc := "(JJ)J" } : MethodName) ∈ G := tb_0 (List.mem_of_getElem? (i := 67) (by decide +kernel)) rfl
theorem k_68 : Cond.selects "TurnerHeapModel" ({ cls := "TurnerHeapModel", name := "push", desc := "(J)V" } : MethodName) ({ cls := "TurnerHeapModel", name := "push", desc := "(J)V" } : MethodName) ∈ G := tb_0 (List.mem_of_getElem? (i := 68) (by decide +kernel)) rfl
theorem k_69 : Cond.selects "TurnerHeapModel" ({ cls := "TurnerHeapModel", name := "named", desc := "(J)J" } : MethodName) ({ cls := "TurnerHeapModel", name := "named", desc := "(J)J" } : MethodName) ∈ G := tb_0 (List.mem_of_getElem? (i := 69) (by decide +kernel)) rfl
theorem k_70 : Cond.selects "TurnerHeapModel" ({ cls := "TurnerHeapModel", name := "beginsAtom", desc := "()Z" } : MethodName) ({ cls := "TurnerHeapModel", name := "beginsAtom", desc := "()Z" } : MethodName) ∈ G := tb_0 (List.mem_of_getElem? (i := 70) (by decide +kernel)) rfl
theorem k_71 : Cond.selects "TurnerHeapModel" ({ cls := "TurnerHeapModel", name := "operationAt", desc := "()I" } : MethodName) ({ cls := "TurnerHeapModel", name := "operationAt", desc := "()I" } : MethodName) ∈ G := tb_0 (List.mem_of_getElem? (i := 71) (by decide +kernel)) rfl
theorem k_72 : Cond.selects "TurnerHeapModel" ({ cls := "TurnerHeapModel", name := "operator", desc := "(I)V" } : MethodName) ({ cls := "TurnerHeapModel", name := "operator", desc := "(I)V" } : MethodName) ∈ G := tb_0 (List.mem_of_getElem? (i := 72) (by decide +kernel)) rfl
theorem k_73 : Cond.selects "TurnerHeapModel" ({ cls := "TurnerHeapModel", name := "reduce", desc := "()V" } : MethodName) ({ cls := "TurnerHeapModel", name := "reduce", desc := "()V" } : MethodName) ∈ G := tb_0 (List.mem_of_getElem? (i := 73) (by decide +kernel)) rfl
theorem k_74 : Cond.selects "TurnerHeapModel" ({ cls := "TurnerHeapModel", name := "ended", desc := "()V" } : MethodName) ({ cls := "TurnerHeapModel", name := "ended", desc := "()V" } : MethodName) ∈ G := tb_0 (List.mem_of_getElem? (i := 74) (by decide +kernel)) rfl
theorem k_75 : Cond.selects "TurnerHeapModel" ({ cls := "TurnerHeapModel", name := "listed", desc := "(I)V" } : MethodName) ({ cls := "TurnerHeapModel", name := "listed", desc := "(I)V" } : MethodName) ∈ G := tb_0 (List.mem_of_getElem? (i := 75) (by decide +kernel)) rfl
theorem k_76 : Cond.selects "TurnerHeapModel" ({ cls := "TurnerHeapModel", name := "whole", desc := "(J)V" } : MethodName) ({ cls := "TurnerHeapModel", name := "whole", desc := "(J)V" } : MethodName) ∈ G := tb_0 (List.mem_of_getElem? (i := 76) (by decide +kernel)) rfl
theorem k_77 : Cond.selects "TurnerHeapModel" ({ cls := "TurnerHeapModel", name := "without", desc := "(JJ)J" } : MethodName) ({ cls := "TurnerHeapModel", name := "without", desc := "(JJ)J" } : MethodName) ∈ G := tb_0 (List.mem_of_getElem? (i := 77) (by decide +kernel)) rfl
theorem k_78 : Cond.selects "TurnerHeapModel" ({ cls := "TurnerHeapModel", name := "cells", desc := "(J)I" } : MethodName) ({ cls := "TurnerHeapModel", name := "cells", desc := "(J)I" } : MethodName) ∈ G := tb_0 (List.mem_of_getElem? (i := 78) (by decide +kernel)) rfl
theorem k_79 : Cond.selects "TurnerHeapModel" ({ cls := "TurnerHeapModel", name := "having", desc := "(JJ)Z" } : MethodName) ({ cls := "TurnerHeapModel", name := "having", desc := "(JJ)Z" } : MethodName) ∈ G := tb_0 (List.mem_of_getElem? (i := 79) (by decide +kernel)) rfl
theorem k_80 : Cond.selects "TurnerHeapModel" ({ cls := "TurnerHeapModel", name := "within400", desc := "(J)J" } : MethodName) ({ cls := "TurnerHeapModel", name := "within400", desc := "(J)J" } : MethodName) ∈ G := tb_0 (List.mem_of_getElem? (i := 80) (by decide +kernel)) rfl
theorem k_81 : Cond.selects "TurnerHeapModel" ({ cls := "TurnerHeapModel", name := "side", desc := "(JJ)J" } : MethodName) ({ cls := "TurnerHeapModel", name := "side", desc := "(JJ)J" } : MethodName) ∈ G := tb_0 (List.mem_of_getElem? (i := 81) (by decide +kernel)) rfl
theorem k_82 : Cond.selects "TurnerHeapModel" ({ cls := "TurnerHeapModel", name := "combined", desc := "(JJ)J" } : MethodName) ({ cls := "TurnerHeapModel", name := "combined", desc := "(JJ)J" } : MethodName) ∈ G := tb_0 (List.mem_of_getElem? (i := 82) (by decide +kernel)) rfl
theorem k_83 : Cond.selects "TurnerHeapModel" ({ cls := "TurnerHeapModel", name := "isApplied", desc := "(JI)Z" } : MethodName) ({ cls := "TurnerHeapModel", name := "isApplied", desc := "(JI)Z" } : MethodName) ∈ G := tb_0 (List.mem_of_getElem? (i := 83) (by decide +kernel)) rfl
theorem k_84 : Cond.selects "TurnerHeapModel" ({ cls := "TurnerHeapModel", name := "release", desc := "(J)V" } : MethodName) ({ cls := "TurnerHeapModel", name := "release", desc := "(J)V" } : MethodName) ∈ G := tb_0 (List.mem_of_getElem? (i := 84) (by decide +kernel)) rfl
theorem k_85 : Cond.selects "TurnerHeapModel" ({ cls := "TurnerHeapModel", name := "keepForm", desc := "(I)V" } : MethodName) ({ cls := "TurnerHeapModel", name := "keepForm", desc := "(I)V" } : MethodName) ∈ G := tb_0 (List.mem_of_getElem? (i := 85) (by decide +kernel)) rfl
theorem k_86 : Cond.selects "TurnerHeapModel" ({ cls := "TurnerHeapModel", name := "moved", desc := "(JI)J" } : MethodName) ({ cls := "TurnerHeapModel", name := "moved", desc := "(JI)J" } : MethodName) ∈ G := tb_0 (List.mem_of_getElem? (i := 86) (by decide +kernel)) rfl
theorem k_87 : Cond.selects "TurnerHeapModel" ({ cls := "TurnerHeapModel", name := "ready", desc := "()V" } : MethodName) ({ cls := "TurnerHeapModel", name := "ready", desc := "()V" } : MethodName) ∈ G := tb_0 (List.mem_of_getElem? (i := 87) (by decide +kernel)) rfl
theorem k_88 : Cond.selects "TurnerHeapModel" ({ cls := "TurnerHeapModel", name := "step", desc := "()V" } : MethodName) ({ cls := "TurnerHeapModel", name := "step", desc := "()V" } : MethodName) ∈ G := tb_0 (List.mem_of_getElem? (i := 88) (by decide +kernel)) rfl
theorem k_89 : Cond.selects "TurnerHeapModel" ({ cls := "TurnerHeapModel", name := "act", desc := "()V" } : MethodName) ({ cls := "TurnerHeapModel", name := "act", desc := "()V" } : MethodName) ∈ G := tb_0 (List.mem_of_getElem? (i := 89) (by decide +kernel)) rfl
theorem k_90 : Cond.selects "TurnerHeapModel" ({ cls := "TurnerHeapModel", name := "below", desc := "()I" } : MethodName) ({ cls := "TurnerHeapModel", name := "below", desc := "()I" } : MethodName) ∈ G := tb_0 (List.mem_of_getElem? (i := 90) (by decide +kernel)) rfl
theorem k_91 : Cond.selects "TurnerHeapModel" ({ cls := "TurnerHeapModel", name := "value", desc := "(ZZ)V" } : MethodName) ({ cls := "TurnerHeapModel", name := "value", desc := "(ZZ)V" } : MethodName) ∈ G := tb_0 (List.mem_of_getElem? (i := 91) (by decide +kernel)) rfl
theorem k_92 : Cond.selects "TurnerHeapModel" ({ cls := "TurnerHeapModel", name := "argument", desc := "(I)J" } : MethodName) ({ cls := "TurnerHeapModel", name := "argument", desc := "(I)J" } : MethodName) ∈ G := tb_0 (List.mem_of_getElem? (i := 92) (by decide +kernel)) rfl
theorem k_93 : Cond.selects "TurnerHeapModel" ({ cls := "TurnerHeapModel", name := "goesOn", desc := "(JZJJZ)V" } : MethodName) ({ cls := "TurnerHeapModel", name := "goesOn", desc := "(JZJJZ)V" } : MethodName) ∈ G := tb_0 (List.mem_of_getElem? (i := 93) (by decide +kernel)) rfl
theorem k_94 : Cond.selects "TurnerHeapModel" ({ cls := "TurnerHeapModel", name := "overwrite", desc := "(IJJ)V" } : MethodName) ({ cls := "TurnerHeapModel", name := "overwrite", desc := "(IJJ)V" } : MethodName) ∈ G := tb_0 (List.mem_of_getElem? (i := 94) (by decide +kernel)) rfl
theorem k_95 : Cond.selects "TurnerHeapModel" ({ cls := "TurnerHeapModel", name := "counted", desc := "(III)V" } : MethodName) ({ cls := "TurnerHeapModel", name := "counted", desc := "(III)V" } : MethodName) ∈ G := tb_0 (List.mem_of_getElem? (i := 95) (by decide +kernel)) rfl
theorem k_96 : Cond.selects "TurnerHeapModel" ({ cls := "TurnerHeapModel", name := "evaluate", desc := "(IJZI)V" } : MethodName) ({ cls := "TurnerHeapModel", name := "evaluate", desc := "(IJZI)V" } : MethodName) ∈ G := tb_0 (List.mem_of_getElem? (i := 96) (by decide +kernel)) rfl
theorem k_97 : Cond.selects "TurnerHeapModel" ({ cls := "TurnerHeapModel", name := "printed", desc := "(JZJJZ)V" } : MethodName) ({ cls := "TurnerHeapModel", name := "printed", desc := "(JZJJZ)V" } : MethodName) ∈ G := tb_0 (List.mem_of_getElem? (i := 97) (by decide +kernel)) rfl
theorem k_98 : Cond.selects "TurnerHeapModel" ({ cls := "TurnerHeapModel", name := "say", desc := "(J)V" } : MethodName) ({ cls := "TurnerHeapModel", name := "say", desc := "(J)V" } : MethodName) ∈ G := tb_0 (List.mem_of_getElem? (i := 98) (by decide +kernel)) rfl
theorem k_99 : Cond.selects "TurnerHeapModel" ({ cls := "TurnerHeapModel", name := "digits", desc := "(I)V" } : MethodName) ({ cls := "TurnerHeapModel", name := "digits", desc := "(I)V" } : MethodName) ∈ G := tb_0 (List.mem_of_getElem? (i := 99) (by decide +kernel)) rfl
theorem k_100 : Cond.selects "TurnerHeapModel" ({ cls := "TurnerHeapModel", name := "letterOut", desc := "(I)V" } : MethodName) ({ cls := "TurnerHeapModel", name := "letterOut", desc := "(I)V" } : MethodName) ∈ G := tb_0 (List.mem_of_getElem? (i := 100) (by decide +kernel)) rfl
theorem k_101 : Cond.selects "TurnerHeapModel" ({ cls := "TurnerHeapModel", name := "combinator", desc := "(I)V" } : MethodName) ({ cls := "TurnerHeapModel", name := "combinator", desc := "(I)V" } : MethodName) ∈ G := tb_0 (List.mem_of_getElem? (i := 101) (by decide +kernel)) rfl
theorem k_102 : Cond.selects "TurnerHeapModel" ({ cls := "TurnerHeapModel", name := "fits", desc := "(I)Z" } : MethodName) ({ cls := "TurnerHeapModel", name := "fits", desc := "(I)Z" } : MethodName) ∈ G := tb_0 (List.mem_of_getElem? (i := 102) (by decide +kernel)) rfl
theorem k_103 : Cond.selects "TurnerHeapModel" ({ cls := "TurnerHeapModel", name := "reachedNow", desc := "()I" } : MethodName) ({ cls := "TurnerHeapModel", name := "reachedNow", desc := "()I" } : MethodName) ∈ G := tb_0 (List.mem_of_getElem? (i := 103) (by decide +kernel)) rfl
theorem k_104 : Cond.selects "TurnerHeapModel" ({ cls := "TurnerHeapModel", name := "reach", desc := "(JI)I" } : MethodName) ({ cls := "TurnerHeapModel", name := "reach", desc := "(JI)I" } : MethodName) ∈ G := tb_0 (List.mem_of_getElem? (i := 104) (by decide +kernel)) rfl
theorem k_105 : Cond.selects "TurnerHeapModel" ({ cls := "TurnerHeapModel", name := "made", desc := "(JJ)J" } : MethodName) ({ cls := "TurnerHeapModel", name := "made", desc := "(JJ)J" } : MethodName) ∈ G := tb_0 (List.mem_of_getElem? (i := 105) (by decide +kernel)) rfl
theorem k_106 : (Jvm.Cond.initialized "TurnerHeapLaw") ∈ G := tb_1 (List.mem_of_getElem? (i := 0) rfl) rfl
theorem k_107 : (Jvm.Cond.initialized "TurnerHeap") ∈ G := tb_1 (List.mem_of_getElem? (i := 1) rfl) rfl
theorem k_108 : (Jvm.Cond.initialized "TurnerHeap$Lexemes") ∈ G := tb_1 (List.mem_of_getElem? (i := 2) rfl) rfl
theorem k_109 : (Jvm.Cond.initialized "TurnerHeap$Terms") ∈ G := tb_1 (List.mem_of_getElem? (i := 3) rfl) rfl
theorem k_110 : (Jvm.Cond.initialized "TurnerHeap$Reader") ∈ G := tb_1 (List.mem_of_getElem? (i := 4) rfl) rfl
theorem k_111 : (Jvm.Cond.initialized "TurnerHeap$Forms") ∈ G := tb_1 (List.mem_of_getElem? (i := 5) rfl) rfl
theorem k_112 : (Jvm.Cond.initialized "TurnerHeap$Heap") ∈ G := tb_1 (List.mem_of_getElem? (i := 6) rfl) rfl
theorem k_113 : (Jvm.Cond.initialized "java/lang/Math") ∈ G := tb_1 (List.mem_of_getElem? (i := 7) rfl) rfl
theorem k_114 : (Jvm.Cond.initialized "TurnerHeap$Paper") ∈ G := tb_1 (List.mem_of_getElem? (i := 8) rfl) rfl
theorem k_115 : (Jvm.Cond.initialized "TurnerHeap$Machine") ∈ G := tb_1 (List.mem_of_getElem? (i := 9) rfl) rfl
theorem k_116 : (Jvm.Cond.initialized "TurnerHeapModel") ∈ G := tb_1 (List.mem_of_getElem? (i := 10) rfl) rfl
theorem k_117 : (Jvm.Cond.initialized "java/lang/Throwable") ∈ G := tb_1 (List.mem_of_getElem? (i := 11) rfl) rfl
theorem k_118 : (Jvm.Cond.initialized "java/lang/Exception") ∈ G := tb_1 (List.mem_of_getElem? (i := 12) rfl) rfl
theorem k_119 : (Jvm.Cond.initialized "java/lang/RuntimeException") ∈ G := tb_1 (List.mem_of_getElem? (i := 13) rfl) rfl
theorem k_120 : (Jvm.Cond.initialized "java/lang/IllegalArgumentException") ∈ G := tb_1 (List.mem_of_getElem? (i := 14) rfl) rfl
theorem k_121 : (Jvm.Cond.initialized "java/lang/IllegalStateException") ∈ G := tb_1 (List.mem_of_getElem? (i := 15) rfl) rfl
theorem k_122 : (Jvm.Cond.initialized "java/lang/String") ∈ G := tb_1 (List.mem_of_getElem? (i := 16) rfl) rfl
theorem k_123 : (Jvm.Cond.initialized "java/lang/StringLatin1") ∈ G := tb_1 (List.mem_of_getElem? (i := 17) rfl) rfl
theorem k_124 : (Jvm.Cond.initialized "java/lang/StringUTF16") ∈ G := tb_1 (List.mem_of_getElem? (i := 18) rfl) rfl
theorem k_125 : (Jvm.Cond.initialized "jdk/internal/util/Preconditions") ∈ G := tb_1 (List.mem_of_getElem? (i := 19) rfl) rfl
theorem k_126 : (Jvm.Cond.initialized "java/lang/Character") ∈ G := tb_1 (List.mem_of_getElem? (i := 20) rfl) rfl
theorem k_127 : (Jvm.Cond.initialized "TurnerHeap$Word") ∈ G := tb_1 (List.mem_of_getElem? (i := 21) rfl) rfl
theorem k_128 : (Jvm.Cond.initialized "java/lang/UnsupportedOperationException") ∈ G := tb_1 (List.mem_of_getElem? (i := 22) rfl) rfl
theorem k_129 : (Jvm.Cond.initialized "java/lang/IndexOutOfBoundsException") ∈ G := tb_1 (List.mem_of_getElem? (i := 23) rfl) rfl
theorem k_130 : (Jvm.Cond.classLink "TurnerHeapLaw" (8 : Nat) "TurnerHeap") ∈ G := tb_1 (List.mem_of_getElem? (i := 24) rfl) rfl
theorem k_131 : (Jvm.Cond.instantiable "TurnerHeap" (10 : Nat)) ∈ G := tb_1 (List.mem_of_getElem? (i := 25) rfl) rfl
theorem k_132 : (Jvm.Cond.methodLink "TurnerHeapLaw" (48 : Nat) ({ cls := "TurnerHeap", name := "<init>", desc := "(I)V" } : Jvm.MethodName)) ∈ G := tb_1 (List.mem_of_getElem? (i := 26) rfl) rfl
theorem k_133 : (Jvm.Cond.instanceMethod ({ cls := "TurnerHeap", name := "<init>", desc := "(I)V" } : Jvm.MethodName)) ∈ G := tb_1 (List.mem_of_getElem? (i := 27) rfl) rfl
theorem k_134 : (Jvm.Cond.code ({ cls := "TurnerHeap", name := "<init>", desc := "(I)V" } : Jvm.MethodName) prog_1_method_1_code (2 : Nat) (Option.none : Option Jvm.ClassFile.FieldType)) ∈ G := tb_1 (List.mem_of_getElem? (i := 28) rfl) rfl
theorem k_135 : (Jvm.Cond.methodLink "TurnerHeap" (1 : Nat) ({ cls := "java/lang/Object", name := "<init>", desc := "()V" } : Jvm.MethodName)) ∈ G := tb_1 (List.mem_of_getElem? (i := 29) rfl) rfl
theorem k_136 : (Jvm.Cond.instanceMethod ({ cls := "java/lang/Object", name := "<init>", desc := "()V" } : Jvm.MethodName)) ∈ G := tb_1 (List.mem_of_getElem? (i := 30) rfl) rfl
theorem k_137 : (Jvm.Cond.code ({ cls := "java/lang/Object", name := "<init>", desc := "()V" } : Jvm.MethodName) object_method_1_code (1 : Nat) (Option.none : Option Jvm.ClassFile.FieldType)) ∈ G := tb_1 (List.mem_of_getElem? (i := 31) rfl) rfl
theorem k_138 : (Jvm.Cond.classLink "TurnerHeap" (17 : Nat) "TurnerHeap$Lexemes") ∈ G := tb_1 (List.mem_of_getElem? (i := 32) rfl) rfl
theorem k_139 : (Jvm.Cond.instantiable "TurnerHeap$Lexemes" (3 : Nat)) ∈ G := tb_1 (List.mem_of_getElem? (i := 33) rfl) rfl
theorem k_140 : (Jvm.Cond.methodLink "TurnerHeap" (19 : Nat) ({ cls := "TurnerHeap$Lexemes", name := "<init>", desc := "()V" } : Jvm.MethodName)) ∈ G := tb_1 (List.mem_of_getElem? (i := 34) rfl) rfl
theorem k_141 : (Jvm.Cond.instanceMethod ({ cls := "TurnerHeap$Lexemes", name := "<init>", desc := "()V" } : Jvm.MethodName)) ∈ G := tb_1 (List.mem_of_getElem? (i := 35) rfl) rfl
theorem k_142 : (Jvm.Cond.code ({ cls := "TurnerHeap$Lexemes", name := "<init>", desc := "()V" } : Jvm.MethodName) prog_4_method_1_code (1 : Nat) (Option.none : Option Jvm.ClassFile.FieldType)) ∈ G := tb_1 (List.mem_of_getElem? (i := 36) rfl) rfl
theorem k_143 : (Jvm.Cond.methodLink "TurnerHeap$Lexemes" (1 : Nat) ({ cls := "java/lang/Object", name := "<init>", desc := "()V" } : Jvm.MethodName)) ∈ G := tb_1 (List.mem_of_getElem? (i := 37) rfl) rfl
theorem k_144 : (Jvm.Cond.fieldLink "TurnerHeap$Lexemes" (9 : Nat) "TurnerHeap$Lexemes" "kinds" "[I") ∈ G := tb_1 (List.mem_of_getElem? (i := 38) rfl) rfl
theorem k_145 : (Jvm.Cond.fieldLink "TurnerHeap$Lexemes" (13 : Nat) "TurnerHeap$Lexemes" "values" "[I") ∈ G := tb_1 (List.mem_of_getElem? (i := 39) rfl) rfl
theorem k_146 : (Jvm.Cond.fieldLink "TurnerHeap$Lexemes" (16 : Nat) "TurnerHeap$Lexemes" "size" "I") ∈ G := tb_1 (List.mem_of_getElem? (i := 40) rfl) rfl
theorem k_147 : (Jvm.Cond.laysFinal "TurnerHeap$Lexemes" "TurnerHeap$Lexemes" "kinds" "[I") ∈ G := tb_1 (List.mem_of_getElem? (i := 41) rfl) rfl
theorem k_149 : (Jvm.Cond.laysFinal "TurnerHeap$Lexemes" "TurnerHeap$Lexemes" "values" "[I") ∈ G := tb_1 (List.mem_of_getElem? (i := 43) rfl) rfl
theorem k_151 : (Jvm.Cond.lays "TurnerHeap$Lexemes" "TurnerHeap$Lexemes" "size" "I") ∈ G := tb_1 (List.mem_of_getElem? (i := 45) rfl) rfl
theorem k_153 : (Jvm.Cond.superclass "TurnerHeap$Lexemes" "java/lang/Object") ∈ G := tb_1 (List.mem_of_getElem? (i := 47) rfl) rfl
theorem k_154 : (Jvm.Cond.arrayClass Jvm.ClassFile.FieldType.char) ∈ G := tb_1 (List.mem_of_getElem? (i := 48) rfl) rfl
theorem k_155 : (Jvm.Cond.arrayClass Jvm.ClassFile.FieldType.int) ∈ G := tb_1 (List.mem_of_getElem? (i := 49) rfl) rfl
theorem k_156 : (Jvm.Cond.classLink "TurnerHeap" (24 : Nat) "TurnerHeap$Terms") ∈ G := tb_1 (List.mem_of_getElem? (i := 50) rfl) rfl
theorem k_157 : (Jvm.Cond.instantiable "TurnerHeap$Terms" (8 : Nat)) ∈ G := tb_1 (List.mem_of_getElem? (i := 51) rfl) rfl
theorem k_158 : (Jvm.Cond.methodLink "TurnerHeap" (26 : Nat) ({ cls := "TurnerHeap$Terms", name := "<init>", desc := "()V" } : Jvm.MethodName)) ∈ G := tb_1 (List.mem_of_getElem? (i := 52) rfl) rfl
theorem k_159 : (Jvm.Cond.instanceMethod ({ cls := "TurnerHeap$Terms", name := "<init>", desc := "()V" } : Jvm.MethodName)) ∈ G := tb_1 (List.mem_of_getElem? (i := 53) rfl) rfl
theorem k_160 : (Jvm.Cond.code ({ cls := "TurnerHeap$Terms", name := "<init>", desc := "()V" } : Jvm.MethodName) prog_8_method_1_code (1 : Nat) (Option.none : Option Jvm.ClassFile.FieldType)) ∈ G := tb_1 (List.mem_of_getElem? (i := 54) rfl) rfl
theorem k_161 : (Jvm.Cond.methodLink "TurnerHeap$Terms" (1 : Nat) ({ cls := "java/lang/Object", name := "<init>", desc := "()V" } : Jvm.MethodName)) ∈ G := tb_1 (List.mem_of_getElem? (i := 55) rfl) rfl
theorem k_162 : (Jvm.Cond.fieldLink "TurnerHeap$Terms" (9 : Nat) "TurnerHeap$Terms" "left" "[J") ∈ G := tb_1 (List.mem_of_getElem? (i := 56) rfl) rfl
theorem k_163 : (Jvm.Cond.fieldLink "TurnerHeap$Terms" (13 : Nat) "TurnerHeap$Terms" "right" "[J") ∈ G := tb_1 (List.mem_of_getElem? (i := 57) rfl) rfl
theorem k_164 : (Jvm.Cond.fieldLink "TurnerHeap$Terms" (16 : Nat) "TurnerHeap$Terms" "free" "[I") ∈ G := tb_1 (List.mem_of_getElem? (i := 58) rfl) rfl
theorem k_165 : (Jvm.Cond.fieldLink "TurnerHeap$Terms" (20 : Nat) "TurnerHeap$Terms" "freeSize" "I") ∈ G := tb_1 (List.mem_of_getElem? (i := 59) rfl) rfl
theorem k_166 : (Jvm.Cond.fieldLink "TurnerHeap$Terms" (24 : Nat) "TurnerHeap$Terms" "order" "[I") ∈ G := tb_1 (List.mem_of_getElem? (i := 60) rfl) rfl
theorem k_167 : (Jvm.Cond.fieldLink "TurnerHeap$Terms" (27 : Nat) "TurnerHeap$Terms" "has" "[Z") ∈ G := tb_1 (List.mem_of_getElem? (i := 61) rfl) rfl
theorem k_168 : (Jvm.Cond.fieldLink "TurnerHeap$Terms" (31 : Nat) "TurnerHeap$Terms" "without" "[J") ∈ G := tb_1 (List.mem_of_getElem? (i := 62) rfl) rfl
theorem k_169 : (Jvm.Cond.fieldLink "TurnerHeap$Terms" (34 : Nat) "TurnerHeap$Terms" "tooBig" "Z") ∈ G := tb_1 (List.mem_of_getElem? (i := 63) rfl) rfl
theorem k_170 : (Jvm.Cond.laysFinal "TurnerHeap$Terms" "TurnerHeap$Terms" "left" "[J") ∈ G := tb_1 (List.mem_of_getElem? (i := 64) rfl) rfl
theorem k_172 : (Jvm.Cond.laysFinal "TurnerHeap$Terms" "TurnerHeap$Terms" "right" "[J") ∈ G := tb_1 (List.mem_of_getElem? (i := 66) rfl) rfl
theorem k_174 : (Jvm.Cond.laysFinal "TurnerHeap$Terms" "TurnerHeap$Terms" "free" "[I") ∈ G := tb_1 (List.mem_of_getElem? (i := 68) rfl) rfl
theorem k_176 : (Jvm.Cond.lays "TurnerHeap$Terms" "TurnerHeap$Terms" "freeSize" "I") ∈ G := tb_1 (List.mem_of_getElem? (i := 70) rfl) rfl
theorem k_178 : (Jvm.Cond.laysFinal "TurnerHeap$Terms" "TurnerHeap$Terms" "order" "[I") ∈ G := tb_1 (List.mem_of_getElem? (i := 72) rfl) rfl
theorem k_180 : (Jvm.Cond.laysFinal "TurnerHeap$Terms" "TurnerHeap$Terms" "has" "[Z") ∈ G := tb_1 (List.mem_of_getElem? (i := 74) rfl) rfl
theorem k_182 : (Jvm.Cond.laysFinal "TurnerHeap$Terms" "TurnerHeap$Terms" "without" "[J") ∈ G := tb_1 (List.mem_of_getElem? (i := 76) rfl) rfl
theorem k_184 : (Jvm.Cond.lays "TurnerHeap$Terms" "TurnerHeap$Terms" "tooBig" "Z") ∈ G := tb_1 (List.mem_of_getElem? (i := 78) rfl) rfl
theorem k_186 : (Jvm.Cond.superclass "TurnerHeap$Terms" "java/lang/Object") ∈ G := tb_1 (List.mem_of_getElem? (i := 80) rfl) rfl
theorem k_187 : (Jvm.Cond.arrayClass Jvm.ClassFile.FieldType.long) ∈ G := tb_1 (List.mem_of_getElem? (i := 81) rfl) rfl
theorem k_188 : (Jvm.Cond.arrayClass Jvm.ClassFile.FieldType.boolean) ∈ G := tb_1 (List.mem_of_getElem? (i := 82) rfl) rfl
theorem k_189 : (Jvm.Cond.classLink "TurnerHeap" (31 : Nat) "TurnerHeap$Reader") ∈ G := tb_1 (List.mem_of_getElem? (i := 83) rfl) rfl
theorem k_190 : (Jvm.Cond.instantiable "TurnerHeap$Reader" (12 : Nat)) ∈ G := tb_1 (List.mem_of_getElem? (i := 84) rfl) rfl
theorem k_191 : (Jvm.Cond.methodLink "TurnerHeap" (33 : Nat) ({ cls := "TurnerHeap$Reader", name := "<init>", desc := "(LTurnerHeap$Lexemes;LTurnerHeap$Terms;)V" } : Jvm.MethodName)) ∈ G := tb_1 (List.mem_of_getElem? (i := 85) rfl) rfl
theorem k_192 : (Jvm.Cond.instanceMethod ({ cls := "TurnerHeap$Reader", name := "<init>", desc := "(LTurnerHeap$Lexemes;LTurnerHeap$Terms;)V" } : Jvm.MethodName)) ∈ G := tb_1 (List.mem_of_getElem? (i := 86) rfl) rfl
theorem k_193 : (Jvm.Cond.code ({ cls := "TurnerHeap$Reader", name := "<init>", desc := "(LTurnerHeap$Lexemes;LTurnerHeap$Terms;)V" } : Jvm.MethodName) prog_7_method_1_code (3 : Nat) (Option.none : Option Jvm.ClassFile.FieldType)) ∈ G := tb_1 (List.mem_of_getElem? (i := 87) rfl) rfl
theorem k_194 : (Jvm.Cond.methodLink "TurnerHeap$Reader" (1 : Nat) ({ cls := "java/lang/Object", name := "<init>", desc := "()V" } : Jvm.MethodName)) ∈ G := tb_1 (List.mem_of_getElem? (i := 88) rfl) rfl
theorem k_195 : (Jvm.Cond.fieldLink "TurnerHeap$Reader" (7 : Nat) "TurnerHeap$Reader" "lexemes" "LTurnerHeap$Lexemes;") ∈ G := tb_1 (List.mem_of_getElem? (i := 89) rfl) rfl
theorem k_196 : (Jvm.Cond.fieldLink "TurnerHeap$Reader" (13 : Nat) "TurnerHeap$Reader" "terms" "LTurnerHeap$Terms;") ∈ G := tb_1 (List.mem_of_getElem? (i := 90) rfl) rfl
theorem k_197 : (Jvm.Cond.fieldLink "TurnerHeap$Reader" (48 : Nat) "TurnerHeap$Reader" "at" "I") ∈ G := tb_1 (List.mem_of_getElem? (i := 91) rfl) rfl
theorem k_198 : (Jvm.Cond.fieldLink "TurnerHeap$Reader" (17 : Nat) "TurnerHeap$Reader" "names" "[I") ∈ G := tb_1 (List.mem_of_getElem? (i := 92) rfl) rfl
theorem k_199 : (Jvm.Cond.fieldLink "TurnerHeap$Reader" (74 : Nat) "TurnerHeap$Reader" "named" "I") ∈ G := tb_1 (List.mem_of_getElem? (i := 93) rfl) rfl
theorem k_200 : (Jvm.Cond.fieldLink "TurnerHeap$Reader" (21 : Nat) "TurnerHeap$Reader" "defined" "[J") ∈ G := tb_1 (List.mem_of_getElem? (i := 94) rfl) rfl
theorem k_201 : (Jvm.Cond.fieldLink "TurnerHeap$Reader" (31 : Nat) "TurnerHeap$Reader" "definitions" "I") ∈ G := tb_1 (List.mem_of_getElem? (i := 95) rfl) rfl
theorem k_202 : (Jvm.Cond.fieldLink "TurnerHeap$Reader" (35 : Nat) "TurnerHeap$Reader" "mainTerm" "J") ∈ G := tb_1 (List.mem_of_getElem? (i := 96) rfl) rfl
theorem k_203 : (Jvm.Cond.fieldLink "TurnerHeap$Reader" (25 : Nat) "TurnerHeap$Reader" "scope" "[I") ∈ G := tb_1 (List.mem_of_getElem? (i := 97) rfl) rfl
theorem k_204 : (Jvm.Cond.fieldLink "TurnerHeap$Reader" (51 : Nat) "TurnerHeap$Reader" "inScope" "I") ∈ G := tb_1 (List.mem_of_getElem? (i := 98) rfl) rfl
theorem k_205 : (Jvm.Cond.fieldLink "TurnerHeap$Reader" (28 : Nat) "TurnerHeap$Reader" "waiting" "[J") ∈ G := tb_1 (List.mem_of_getElem? (i := 99) rfl) rfl
theorem k_206 : (Jvm.Cond.fieldLink "TurnerHeap$Reader" (54 : Nat) "TurnerHeap$Reader" "waitingSize" "I") ∈ G := tb_1 (List.mem_of_getElem? (i := 100) rfl) rfl
theorem k_207 : (Jvm.Cond.laysFinal "TurnerHeap$Reader" "TurnerHeap$Reader" "lexemes" "LTurnerHeap$Lexemes;") ∈ G := tb_1 (List.mem_of_getElem? (i := 101) rfl) rfl
theorem k_209 : (Jvm.Cond.laysFinal "TurnerHeap$Reader" "TurnerHeap$Reader" "terms" "LTurnerHeap$Terms;") ∈ G := tb_1 (List.mem_of_getElem? (i := 103) rfl) rfl
theorem k_211 : (Jvm.Cond.lays "TurnerHeap$Reader" "TurnerHeap$Reader" "at" "I") ∈ G := tb_1 (List.mem_of_getElem? (i := 105) rfl) rfl
theorem k_213 : (Jvm.Cond.laysFinal "TurnerHeap$Reader" "TurnerHeap$Reader" "names" "[I") ∈ G := tb_1 (List.mem_of_getElem? (i := 107) rfl) rfl
theorem k_215 : (Jvm.Cond.lays "TurnerHeap$Reader" "TurnerHeap$Reader" "named" "I") ∈ G := tb_1 (List.mem_of_getElem? (i := 109) rfl) rfl
theorem k_217 : (Jvm.Cond.laysFinal "TurnerHeap$Reader" "TurnerHeap$Reader" "defined" "[J") ∈ G := tb_1 (List.mem_of_getElem? (i := 111) rfl) rfl
theorem k_219 : (Jvm.Cond.lays "TurnerHeap$Reader" "TurnerHeap$Reader" "definitions" "I") ∈ G := tb_1 (List.mem_of_getElem? (i := 113) rfl) rfl
theorem k_221 : (Jvm.Cond.lays "TurnerHeap$Reader" "TurnerHeap$Reader" "mainTerm" "J") ∈ G := tb_1 (List.mem_of_getElem? (i := 115) rfl) rfl
theorem k_223 : (Jvm.Cond.laysFinal "TurnerHeap$Reader" "TurnerHeap$Reader" "scope" "[I") ∈ G := tb_1 (List.mem_of_getElem? (i := 117) rfl) rfl
theorem k_225 : (Jvm.Cond.lays "TurnerHeap$Reader" "TurnerHeap$Reader" "inScope" "I") ∈ G := tb_1 (List.mem_of_getElem? (i := 119) rfl) rfl
theorem k_227 : (Jvm.Cond.laysFinal "TurnerHeap$Reader" "TurnerHeap$Reader" "waiting" "[J") ∈ G := tb_1 (List.mem_of_getElem? (i := 121) rfl) rfl
theorem k_229 : (Jvm.Cond.lays "TurnerHeap$Reader" "TurnerHeap$Reader" "waitingSize" "I") ∈ G := tb_1 (List.mem_of_getElem? (i := 123) rfl) rfl
theorem k_231 : (Jvm.Cond.superclass "TurnerHeap$Reader" "java/lang/Object") ∈ G := tb_1 (List.mem_of_getElem? (i := 125) rfl) rfl
theorem k_232 : (Jvm.Cond.classLink "TurnerHeap" (40 : Nat) "TurnerHeap$Forms") ∈ G := tb_1 (List.mem_of_getElem? (i := 126) rfl) rfl
theorem k_233 : (Jvm.Cond.instantiable "TurnerHeap$Forms" (1 : Nat)) ∈ G := tb_1 (List.mem_of_getElem? (i := 127) rfl) rfl
theorem k_234 : (Jvm.Cond.methodLink "TurnerHeap" (42 : Nat) ({ cls := "TurnerHeap$Forms", name := "<init>", desc := "()V" } : Jvm.MethodName)) ∈ G := tb_1 (List.mem_of_getElem? (i := 128) rfl) rfl
theorem k_235 : (Jvm.Cond.instanceMethod ({ cls := "TurnerHeap$Forms", name := "<init>", desc := "()V" } : Jvm.MethodName)) ∈ G := tb_1 (List.mem_of_getElem? (i := 129) rfl) rfl
theorem k_236 : (Jvm.Cond.code ({ cls := "TurnerHeap$Forms", name := "<init>", desc := "()V" } : Jvm.MethodName) prog_2_method_1_code (1 : Nat) (Option.none : Option Jvm.ClassFile.FieldType)) ∈ G := tb_1 (List.mem_of_getElem? (i := 130) rfl) rfl
theorem k_237 : (Jvm.Cond.methodLink "TurnerHeap$Forms" (1 : Nat) ({ cls := "java/lang/Object", name := "<init>", desc := "()V" } : Jvm.MethodName)) ∈ G := tb_1 (List.mem_of_getElem? (i := 131) rfl) rfl
theorem k_238 : (Jvm.Cond.fieldLink "TurnerHeap$Forms" (9 : Nat) "TurnerHeap$Forms" "answers" "[I") ∈ G := tb_1 (List.mem_of_getElem? (i := 132) rfl) rfl
theorem k_239 : (Jvm.Cond.laysFinal "TurnerHeap$Forms" "TurnerHeap$Forms" "answers" "[I") ∈ G := tb_1 (List.mem_of_getElem? (i := 133) rfl) rfl
theorem k_241 : (Jvm.Cond.superclass "TurnerHeap$Forms" "java/lang/Object") ∈ G := tb_1 (List.mem_of_getElem? (i := 135) rfl) rfl
theorem k_242 : (Jvm.Cond.classLink "TurnerHeap" (47 : Nat) "TurnerHeap$Heap") ∈ G := tb_1 (List.mem_of_getElem? (i := 136) rfl) rfl
theorem k_243 : (Jvm.Cond.instantiable "TurnerHeap$Heap" (12 : Nat)) ∈ G := tb_1 (List.mem_of_getElem? (i := 137) rfl) rfl
theorem k_244 : (Jvm.Cond.methodLink "TurnerHeap" (49 : Nat) ({ cls := "java/lang/Math", name := "min", desc := "(II)I" } : Jvm.MethodName)) ∈ G := tb_1 (List.mem_of_getElem? (i := 138) rfl) rfl
theorem k_245 : (Jvm.Cond.static ({ cls := "java/lang/Math", name := "min", desc := "(II)I" } : Jvm.MethodName)) ∈ G := tb_1 (List.mem_of_getElem? (i := 139) rfl) rfl
theorem k_246 : (Jvm.Cond.code ({ cls := "java/lang/Math", name := "min", desc := "(II)I" } : Jvm.MethodName) prog_17_method_69_code (2 : Nat) (Option.some Jvm.ClassFile.FieldType.int)) ∈ G := tb_1 (List.mem_of_getElem? (i := 140) rfl) rfl
theorem k_247 : (Jvm.Cond.methodLink "TurnerHeap" (55 : Nat) ({ cls := "java/lang/Math", name := "max", desc := "(II)I" } : Jvm.MethodName)) ∈ G := tb_1 (List.mem_of_getElem? (i := 141) rfl) rfl
theorem k_248 : (Jvm.Cond.static ({ cls := "java/lang/Math", name := "max", desc := "(II)I" } : Jvm.MethodName)) ∈ G := tb_1 (List.mem_of_getElem? (i := 142) rfl) rfl
theorem k_249 : (Jvm.Cond.code ({ cls := "java/lang/Math", name := "max", desc := "(II)I" } : Jvm.MethodName) prog_17_method_65_code (2 : Nat) (Option.some Jvm.ClassFile.FieldType.int)) ∈ G := tb_1 (List.mem_of_getElem? (i := 143) rfl) rfl
theorem k_250 : (Jvm.Cond.methodLink "TurnerHeap" (58 : Nat) ({ cls := "TurnerHeap$Heap", name := "<init>", desc := "(I)V" } : Jvm.MethodName)) ∈ G := tb_1 (List.mem_of_getElem? (i := 144) rfl) rfl
theorem k_251 : (Jvm.Cond.instanceMethod ({ cls := "TurnerHeap$Heap", name := "<init>", desc := "(I)V" } : Jvm.MethodName)) ∈ G := tb_1 (List.mem_of_getElem? (i := 145) rfl) rfl
theorem k_252 : (Jvm.Cond.code ({ cls := "TurnerHeap$Heap", name := "<init>", desc := "(I)V" } : Jvm.MethodName) prog_3_method_1_code (2 : Nat) (Option.none : Option Jvm.ClassFile.FieldType)) ∈ G := tb_1 (List.mem_of_getElem? (i := 146) rfl) rfl
theorem k_253 : (Jvm.Cond.methodLink "TurnerHeap$Heap" (1 : Nat) ({ cls := "java/lang/Object", name := "<init>", desc := "()V" } : Jvm.MethodName)) ∈ G := tb_1 (List.mem_of_getElem? (i := 147) rfl) rfl
theorem k_254 : (Jvm.Cond.fieldLink "TurnerHeap$Heap" (7 : Nat) "TurnerHeap$Heap" "room" "I") ∈ G := tb_1 (List.mem_of_getElem? (i := 148) rfl) rfl
theorem k_255 : (Jvm.Cond.fieldLink "TurnerHeap$Heap" (13 : Nat) "TurnerHeap$Heap" "left" "[J") ∈ G := tb_1 (List.mem_of_getElem? (i := 149) rfl) rfl
theorem k_256 : (Jvm.Cond.fieldLink "TurnerHeap$Heap" (17 : Nat) "TurnerHeap$Heap" "right" "[J") ∈ G := tb_1 (List.mem_of_getElem? (i := 150) rfl) rfl
theorem k_257 : (Jvm.Cond.fieldLink "TurnerHeap$Heap" (20 : Nat) "TurnerHeap$Heap" "free" "[I") ∈ G := tb_1 (List.mem_of_getElem? (i := 151) rfl) rfl
theorem k_258 : (Jvm.Cond.fieldLink "TurnerHeap$Heap" (41 : Nat) "TurnerHeap$Heap" "freeSize" "I") ∈ G := tb_1 (List.mem_of_getElem? (i := 152) rfl) rfl
theorem k_259 : (Jvm.Cond.fieldLink "TurnerHeap$Heap" (24 : Nat) "TurnerHeap$Heap" "markedIn" "[I") ∈ G := tb_1 (List.mem_of_getElem? (i := 153) rfl) rfl
theorem k_260 : (Jvm.Cond.fieldLink "TurnerHeap$Heap" (27 : Nat) "TurnerHeap$Heap" "round" "I") ∈ G := tb_1 (List.mem_of_getElem? (i := 154) rfl) rfl
theorem k_261 : (Jvm.Cond.fieldLink "TurnerHeap$Heap" (30 : Nat) "TurnerHeap$Heap" "toMark" "[I") ∈ G := tb_1 (List.mem_of_getElem? (i := 155) rfl) rfl
theorem k_262 : (Jvm.Cond.fieldLink "TurnerHeap$Heap" (96 : Nat) "TurnerHeap$Heap" "marks" "I") ∈ G := tb_1 (List.mem_of_getElem? (i := 156) rfl) rfl
theorem k_263 : (Jvm.Cond.fieldLink "TurnerHeap$Heap" (33 : Nat) "TurnerHeap$Heap" "defined" "[J") ∈ G := tb_1 (List.mem_of_getElem? (i := 157) rfl) rfl
theorem k_264 : (Jvm.Cond.fieldLink "TurnerHeap$Heap" (44 : Nat) "TurnerHeap$Heap" "definitions" "I") ∈ G := tb_1 (List.mem_of_getElem? (i := 158) rfl) rfl
theorem k_265 : (Jvm.Cond.fieldLink "TurnerHeap$Heap" (38 : Nat) "TurnerHeap$Heap" "places" "[I") ∈ G := tb_1 (List.mem_of_getElem? (i := 159) rfl) rfl
theorem k_266 : (Jvm.Cond.laysFinal "TurnerHeap$Heap" "TurnerHeap$Heap" "room" "I") ∈ G := tb_1 (List.mem_of_getElem? (i := 160) rfl) rfl
theorem k_268 : (Jvm.Cond.laysFinal "TurnerHeap$Heap" "TurnerHeap$Heap" "left" "[J") ∈ G := tb_1 (List.mem_of_getElem? (i := 162) rfl) rfl
theorem k_270 : (Jvm.Cond.laysFinal "TurnerHeap$Heap" "TurnerHeap$Heap" "right" "[J") ∈ G := tb_1 (List.mem_of_getElem? (i := 164) rfl) rfl
theorem k_272 : (Jvm.Cond.laysFinal "TurnerHeap$Heap" "TurnerHeap$Heap" "free" "[I") ∈ G := tb_1 (List.mem_of_getElem? (i := 166) rfl) rfl
theorem k_274 : (Jvm.Cond.lays "TurnerHeap$Heap" "TurnerHeap$Heap" "freeSize" "I") ∈ G := tb_1 (List.mem_of_getElem? (i := 168) rfl) rfl
theorem k_276 : (Jvm.Cond.laysFinal "TurnerHeap$Heap" "TurnerHeap$Heap" "markedIn" "[I") ∈ G := tb_1 (List.mem_of_getElem? (i := 170) rfl) rfl
theorem k_278 : (Jvm.Cond.lays "TurnerHeap$Heap" "TurnerHeap$Heap" "round" "I") ∈ G := tb_1 (List.mem_of_getElem? (i := 172) rfl) rfl
theorem k_280 : (Jvm.Cond.laysFinal "TurnerHeap$Heap" "TurnerHeap$Heap" "toMark" "[I") ∈ G := tb_1 (List.mem_of_getElem? (i := 174) rfl) rfl
theorem k_282 : (Jvm.Cond.lays "TurnerHeap$Heap" "TurnerHeap$Heap" "marks" "I") ∈ G := tb_1 (List.mem_of_getElem? (i := 176) rfl) rfl
theorem k_284 : (Jvm.Cond.laysFinal "TurnerHeap$Heap" "TurnerHeap$Heap" "defined" "[J") ∈ G := tb_1 (List.mem_of_getElem? (i := 178) rfl) rfl
theorem k_286 : (Jvm.Cond.lays "TurnerHeap$Heap" "TurnerHeap$Heap" "definitions" "I") ∈ G := tb_1 (List.mem_of_getElem? (i := 180) rfl) rfl
theorem k_288 : (Jvm.Cond.laysFinal "TurnerHeap$Heap" "TurnerHeap$Heap" "places" "[I") ∈ G := tb_1 (List.mem_of_getElem? (i := 182) rfl) rfl
theorem k_290 : (Jvm.Cond.superclass "TurnerHeap$Heap" "java/lang/Object") ∈ G := tb_1 (List.mem_of_getElem? (i := 184) rfl) rfl
theorem k_291 : (Jvm.Cond.classLink "TurnerHeap" (65 : Nat) "TurnerHeap$Paper") ∈ G := tb_1 (List.mem_of_getElem? (i := 185) rfl) rfl
theorem k_292 : (Jvm.Cond.instantiable "TurnerHeap$Paper" (3 : Nat)) ∈ G := tb_1 (List.mem_of_getElem? (i := 186) rfl) rfl
theorem k_293 : (Jvm.Cond.methodLink "TurnerHeap" (67 : Nat) ({ cls := "TurnerHeap$Paper", name := "<init>", desc := "()V" } : Jvm.MethodName)) ∈ G := tb_1 (List.mem_of_getElem? (i := 187) rfl) rfl
theorem k_294 : (Jvm.Cond.instanceMethod ({ cls := "TurnerHeap$Paper", name := "<init>", desc := "()V" } : Jvm.MethodName)) ∈ G := tb_1 (List.mem_of_getElem? (i := 188) rfl) rfl
theorem k_295 : (Jvm.Cond.code ({ cls := "TurnerHeap$Paper", name := "<init>", desc := "()V" } : Jvm.MethodName) prog_6_method_1_code (1 : Nat) (Option.none : Option Jvm.ClassFile.FieldType)) ∈ G := tb_1 (List.mem_of_getElem? (i := 189) rfl) rfl
theorem k_296 : (Jvm.Cond.methodLink "TurnerHeap$Paper" (1 : Nat) ({ cls := "java/lang/Object", name := "<init>", desc := "()V" } : Jvm.MethodName)) ∈ G := tb_1 (List.mem_of_getElem? (i := 190) rfl) rfl
theorem k_297 : (Jvm.Cond.fieldLink "TurnerHeap$Paper" (9 : Nat) "TurnerHeap$Paper" "first" "[C") ∈ G := tb_1 (List.mem_of_getElem? (i := 191) rfl) rfl
theorem k_298 : (Jvm.Cond.fieldLink "TurnerHeap$Paper" (13 : Nat) "TurnerHeap$Paper" "digits" "[C") ∈ G := tb_1 (List.mem_of_getElem? (i := 192) rfl) rfl
theorem k_299 : (Jvm.Cond.fieldLink "TurnerHeap$Paper" (16 : Nat) "TurnerHeap$Paper" "printed" "I") ∈ G := tb_1 (List.mem_of_getElem? (i := 193) rfl) rfl
theorem k_300 : (Jvm.Cond.laysFinal "TurnerHeap$Paper" "TurnerHeap$Paper" "first" "[C") ∈ G := tb_1 (List.mem_of_getElem? (i := 194) rfl) rfl
theorem k_302 : (Jvm.Cond.laysFinal "TurnerHeap$Paper" "TurnerHeap$Paper" "digits" "[C") ∈ G := tb_1 (List.mem_of_getElem? (i := 196) rfl) rfl
theorem k_304 : (Jvm.Cond.lays "TurnerHeap$Paper" "TurnerHeap$Paper" "printed" "I") ∈ G := tb_1 (List.mem_of_getElem? (i := 198) rfl) rfl
theorem k_306 : (Jvm.Cond.superclass "TurnerHeap$Paper" "java/lang/Object") ∈ G := tb_1 (List.mem_of_getElem? (i := 200) rfl) rfl
theorem k_307 : (Jvm.Cond.classLink "TurnerHeap" (72 : Nat) "TurnerHeap$Machine") ∈ G := tb_1 (List.mem_of_getElem? (i := 201) rfl) rfl
theorem k_308 : (Jvm.Cond.instantiable "TurnerHeap$Machine" (18 : Nat)) ∈ G := tb_1 (List.mem_of_getElem? (i := 202) rfl) rfl
theorem k_309 : (Jvm.Cond.methodLink "TurnerHeap" (74 : Nat) ({ cls := "TurnerHeap$Machine", name := "<init>", desc := "(LTurnerHeap$Heap;LTurnerHeap$Paper;)V" } : Jvm.MethodName)) ∈ G := tb_1 (List.mem_of_getElem? (i := 203) rfl) rfl
theorem k_310 : (Jvm.Cond.instanceMethod ({ cls := "TurnerHeap$Machine", name := "<init>", desc := "(LTurnerHeap$Heap;LTurnerHeap$Paper;)V" } : Jvm.MethodName)) ∈ G := tb_1 (List.mem_of_getElem? (i := 204) rfl) rfl
theorem k_311 : (Jvm.Cond.code ({ cls := "TurnerHeap$Machine", name := "<init>", desc := "(LTurnerHeap$Heap;LTurnerHeap$Paper;)V" } : Jvm.MethodName) prog_5_method_1_code (3 : Nat) (Option.none : Option Jvm.ClassFile.FieldType)) ∈ G := tb_1 (List.mem_of_getElem? (i := 205) rfl) rfl
theorem k_312 : (Jvm.Cond.methodLink "TurnerHeap$Machine" (3 : Nat) ({ cls := "java/lang/Object", name := "<init>", desc := "()V" } : Jvm.MethodName)) ∈ G := tb_1 (List.mem_of_getElem? (i := 206) rfl) rfl
theorem k_313 : (Jvm.Cond.fieldLink "TurnerHeap$Machine" (9 : Nat) "TurnerHeap$Machine" "heap" "LTurnerHeap$Heap;") ∈ G := tb_1 (List.mem_of_getElem? (i := 207) rfl) rfl
theorem k_314 : (Jvm.Cond.fieldLink "TurnerHeap$Machine" (15 : Nat) "TurnerHeap$Machine" "paper" "LTurnerHeap$Paper;") ∈ G := tb_1 (List.mem_of_getElem? (i := 208) rfl) rfl
theorem k_315 : (Jvm.Cond.fieldLink "TurnerHeap$Machine" (19 : Nat) "TurnerHeap$Machine" "spine" "[I") ∈ G := tb_1 (List.mem_of_getElem? (i := 209) rfl) rfl
theorem k_316 : (Jvm.Cond.fieldLink "TurnerHeap$Machine" (43 : Nat) "TurnerHeap$Machine" "onSpines" "I") ∈ G := tb_1 (List.mem_of_getElem? (i := 210) rfl) rfl
theorem k_317 : (Jvm.Cond.fieldLink "TurnerHeap$Machine" (46 : Nat) "TurnerHeap$Machine" "mostOnSpines" "I") ∈ G := tb_1 (List.mem_of_getElem? (i := 211) rfl) rfl
theorem k_318 : (Jvm.Cond.fieldLink "TurnerHeap$Machine" (23 : Nat) "TurnerHeap$Machine" "bases" "[I") ∈ G := tb_1 (List.mem_of_getElem? (i := 212) rfl) rfl
theorem k_319 : (Jvm.Cond.fieldLink "TurnerHeap$Machine" (26 : Nat) "TurnerHeap$Machine" "askers" "[I") ∈ G := tb_1 (List.mem_of_getElem? (i := 213) rfl) rfl
theorem k_320 : (Jvm.Cond.fieldLink "TurnerHeap$Machine" (29 : Nat) "TurnerHeap$Machine" "asksSecond" "[Z") ∈ G := tb_1 (List.mem_of_getElem? (i := 214) rfl) rfl
theorem k_321 : (Jvm.Cond.fieldLink "TurnerHeap$Machine" (33 : Nat) "TurnerHeap$Machine" "firsts" "[I") ∈ G := tb_1 (List.mem_of_getElem? (i := 215) rfl) rfl
theorem k_322 : (Jvm.Cond.fieldLink "TurnerHeap$Machine" (49 : Nat) "TurnerHeap$Machine" "upperSpines" "I") ∈ G := tb_1 (List.mem_of_getElem? (i := 216) rfl) rfl
theorem k_323 : (Jvm.Cond.fieldLink "TurnerHeap$Machine" (52 : Nat) "TurnerHeap$Machine" "looked" "J") ∈ G := tb_1 (List.mem_of_getElem? (i := 217) rfl) rfl
theorem k_324 : (Jvm.Cond.fieldLink "TurnerHeap$Machine" (60 : Nat) "TurnerHeap$Machine" "rest" "J") ∈ G := tb_1 (List.mem_of_getElem? (i := 218) rfl) rfl
theorem k_325 : (Jvm.Cond.fieldLink "TurnerHeap$Machine" (63 : Nat) "TurnerHeap$Machine" "isLeftSide" "Z") ∈ G := tb_1 (List.mem_of_getElem? (i := 219) rfl) rfl
theorem k_326 : (Jvm.Cond.fieldLink "TurnerHeap$Machine" (67 : Nat) "TurnerHeap$Machine" "isRest" "Z") ∈ G := tb_1 (List.mem_of_getElem? (i := 220) rfl) rfl
theorem k_327 : (Jvm.Cond.fieldLink "TurnerHeap$Machine" (177 : Nat) "TurnerHeap$Machine" "pairLeft" "J") ∈ G := tb_1 (List.mem_of_getElem? (i := 221) rfl) rfl
theorem k_328 : (Jvm.Cond.fieldLink "TurnerHeap$Machine" (180 : Nat) "TurnerHeap$Machine" "pairRight" "J") ∈ G := tb_1 (List.mem_of_getElem? (i := 222) rfl) rfl
theorem k_329 : (Jvm.Cond.fieldLink "TurnerHeap$Machine" (40 : Nat) "TurnerHeap$Machine" "steps" "I") ∈ G := tb_1 (List.mem_of_getElem? (i := 223) rfl) rfl
theorem k_330 : (Jvm.Cond.fieldLink "TurnerHeap$Machine" (36 : Nat) "TurnerHeap$Machine" "stop" "I") ∈ G := tb_1 (List.mem_of_getElem? (i := 224) rfl) rfl
theorem k_331 : (Jvm.Cond.laysFinal "TurnerHeap$Machine" "TurnerHeap$Machine" "heap" "LTurnerHeap$Heap;") ∈ G := tb_1 (List.mem_of_getElem? (i := 225) rfl) rfl
theorem k_333 : (Jvm.Cond.laysFinal "TurnerHeap$Machine" "TurnerHeap$Machine" "paper" "LTurnerHeap$Paper;") ∈ G := tb_1 (List.mem_of_getElem? (i := 227) rfl) rfl
theorem k_335 : (Jvm.Cond.laysFinal "TurnerHeap$Machine" "TurnerHeap$Machine" "spine" "[I") ∈ G := tb_1 (List.mem_of_getElem? (i := 229) rfl) rfl
theorem k_337 : (Jvm.Cond.lays "TurnerHeap$Machine" "TurnerHeap$Machine" "onSpines" "I") ∈ G := tb_1 (List.mem_of_getElem? (i := 231) rfl) rfl
theorem k_339 : (Jvm.Cond.lays "TurnerHeap$Machine" "TurnerHeap$Machine" "mostOnSpines" "I") ∈ G := tb_1 (List.mem_of_getElem? (i := 233) rfl) rfl
theorem k_341 : (Jvm.Cond.laysFinal "TurnerHeap$Machine" "TurnerHeap$Machine" "bases" "[I") ∈ G := tb_1 (List.mem_of_getElem? (i := 235) rfl) rfl
theorem k_343 : (Jvm.Cond.laysFinal "TurnerHeap$Machine" "TurnerHeap$Machine" "askers" "[I") ∈ G := tb_1 (List.mem_of_getElem? (i := 237) rfl) rfl
theorem k_345 : (Jvm.Cond.laysFinal "TurnerHeap$Machine" "TurnerHeap$Machine" "asksSecond" "[Z") ∈ G := tb_1 (List.mem_of_getElem? (i := 239) rfl) rfl
theorem k_347 : (Jvm.Cond.laysFinal "TurnerHeap$Machine" "TurnerHeap$Machine" "firsts" "[I") ∈ G := tb_2 (List.mem_of_getElem? (i := 1) rfl) rfl
theorem k_349 : (Jvm.Cond.lays "TurnerHeap$Machine" "TurnerHeap$Machine" "upperSpines" "I") ∈ G := tb_2 (List.mem_of_getElem? (i := 3) rfl) rfl
theorem k_351 : (Jvm.Cond.lays "TurnerHeap$Machine" "TurnerHeap$Machine" "looked" "J") ∈ G := tb_2 (List.mem_of_getElem? (i := 5) rfl) rfl
theorem k_353 : (Jvm.Cond.lays "TurnerHeap$Machine" "TurnerHeap$Machine" "rest" "J") ∈ G := tb_2 (List.mem_of_getElem? (i := 7) rfl) rfl
theorem k_355 : (Jvm.Cond.lays "TurnerHeap$Machine" "TurnerHeap$Machine" "isLeftSide" "Z") ∈ G := tb_2 (List.mem_of_getElem? (i := 9) rfl) rfl
theorem k_357 : (Jvm.Cond.lays "TurnerHeap$Machine" "TurnerHeap$Machine" "isRest" "Z") ∈ G := tb_2 (List.mem_of_getElem? (i := 11) rfl) rfl
theorem k_359 : (Jvm.Cond.lays "TurnerHeap$Machine" "TurnerHeap$Machine" "pairLeft" "J") ∈ G := tb_2 (List.mem_of_getElem? (i := 13) rfl) rfl
theorem k_361 : (Jvm.Cond.lays "TurnerHeap$Machine" "TurnerHeap$Machine" "pairRight" "J") ∈ G := tb_2 (List.mem_of_getElem? (i := 15) rfl) rfl
theorem k_363 : (Jvm.Cond.lays "TurnerHeap$Machine" "TurnerHeap$Machine" "steps" "I") ∈ G := tb_2 (List.mem_of_getElem? (i := 17) rfl) rfl
theorem k_365 : (Jvm.Cond.lays "TurnerHeap$Machine" "TurnerHeap$Machine" "stop" "I") ∈ G := tb_2 (List.mem_of_getElem? (i := 19) rfl) rfl
theorem k_367 : (Jvm.Cond.superclass "TurnerHeap$Machine" "java/lang/Object") ∈ G := tb_2 (List.mem_of_getElem? (i := 21) rfl) rfl
theorem k_368 : (Jvm.Cond.fieldLink "TurnerHeap" (9 : Nat) "TurnerHeap" "text" "[C") ∈ G := tb_2 (List.mem_of_getElem? (i := 22) rfl) rfl
theorem k_369 : (Jvm.Cond.fieldLink "TurnerHeap" (13 : Nat) "TurnerHeap" "written" "I") ∈ G := tb_2 (List.mem_of_getElem? (i := 23) rfl) rfl
theorem k_370 : (Jvm.Cond.fieldLink "TurnerHeap" (20 : Nat) "TurnerHeap" "lexemes" "LTurnerHeap$Lexemes;") ∈ G := tb_2 (List.mem_of_getElem? (i := 24) rfl) rfl
theorem k_371 : (Jvm.Cond.fieldLink "TurnerHeap" (27 : Nat) "TurnerHeap" "terms" "LTurnerHeap$Terms;") ∈ G := tb_2 (List.mem_of_getElem? (i := 25) rfl) rfl
theorem k_372 : (Jvm.Cond.fieldLink "TurnerHeap" (36 : Nat) "TurnerHeap" "reader" "LTurnerHeap$Reader;") ∈ G := tb_2 (List.mem_of_getElem? (i := 26) rfl) rfl
theorem k_373 : (Jvm.Cond.fieldLink "TurnerHeap" (43 : Nat) "TurnerHeap" "forms" "LTurnerHeap$Forms;") ∈ G := tb_2 (List.mem_of_getElem? (i := 27) rfl) rfl
theorem k_374 : (Jvm.Cond.fieldLink "TurnerHeap" (61 : Nat) "TurnerHeap" "heap" "LTurnerHeap$Heap;") ∈ G := tb_2 (List.mem_of_getElem? (i := 28) rfl) rfl
theorem k_375 : (Jvm.Cond.fieldLink "TurnerHeap" (68 : Nat) "TurnerHeap" "paper" "LTurnerHeap$Paper;") ∈ G := tb_2 (List.mem_of_getElem? (i := 29) rfl) rfl
theorem k_376 : (Jvm.Cond.fieldLink "TurnerHeap" (77 : Nat) "TurnerHeap" "machine" "LTurnerHeap$Machine;") ∈ G := tb_2 (List.mem_of_getElem? (i := 30) rfl) rfl
theorem k_377 : (Jvm.Cond.fieldLink "TurnerHeap" (81 : Nat) "TurnerHeap" "loaded" "Z") ∈ G := tb_2 (List.mem_of_getElem? (i := 31) rfl) rfl
theorem k_378 : (Jvm.Cond.laysFinal "TurnerHeap" "TurnerHeap" "text" "[C") ∈ G := tb_2 (List.mem_of_getElem? (i := 32) rfl) rfl
theorem k_380 : (Jvm.Cond.lays "TurnerHeap" "TurnerHeap" "written" "I") ∈ G := tb_2 (List.mem_of_getElem? (i := 34) rfl) rfl
theorem k_382 : (Jvm.Cond.laysFinal "TurnerHeap" "TurnerHeap" "lexemes" "LTurnerHeap$Lexemes;") ∈ G := tb_2 (List.mem_of_getElem? (i := 36) rfl) rfl
theorem k_384 : (Jvm.Cond.laysFinal "TurnerHeap" "TurnerHeap" "terms" "LTurnerHeap$Terms;") ∈ G := tb_2 (List.mem_of_getElem? (i := 38) rfl) rfl
theorem k_386 : (Jvm.Cond.laysFinal "TurnerHeap" "TurnerHeap" "reader" "LTurnerHeap$Reader;") ∈ G := tb_2 (List.mem_of_getElem? (i := 40) rfl) rfl
theorem k_388 : (Jvm.Cond.laysFinal "TurnerHeap" "TurnerHeap" "forms" "LTurnerHeap$Forms;") ∈ G := tb_2 (List.mem_of_getElem? (i := 42) rfl) rfl
theorem k_390 : (Jvm.Cond.laysFinal "TurnerHeap" "TurnerHeap" "heap" "LTurnerHeap$Heap;") ∈ G := tb_2 (List.mem_of_getElem? (i := 44) rfl) rfl
theorem k_392 : (Jvm.Cond.laysFinal "TurnerHeap" "TurnerHeap" "paper" "LTurnerHeap$Paper;") ∈ G := tb_2 (List.mem_of_getElem? (i := 46) rfl) rfl
theorem k_394 : (Jvm.Cond.laysFinal "TurnerHeap" "TurnerHeap" "machine" "LTurnerHeap$Machine;") ∈ G := tb_2 (List.mem_of_getElem? (i := 48) rfl) rfl
theorem k_396 : (Jvm.Cond.lays "TurnerHeap" "TurnerHeap" "loaded" "Z") ∈ G := tb_2 (List.mem_of_getElem? (i := 50) rfl) rfl
theorem k_398 : (Jvm.Cond.superclass "TurnerHeap" "java/lang/Object") ∈ G := tb_2 (List.mem_of_getElem? (i := 52) rfl) rfl
theorem k_399 : (Jvm.Cond.methodLink "TurnerHeapLaw" (60 : Nat) ({ cls := "TurnerHeap", name := "erase", desc := "()I" } : Jvm.MethodName)) ∈ G := tb_2 (List.mem_of_getElem? (i := 53) rfl) rfl
theorem k_400 : (Jvm.Cond.instanceMethod ({ cls := "TurnerHeap", name := "erase", desc := "()I" } : Jvm.MethodName)) ∈ G := tb_2 (List.mem_of_getElem? (i := 54) rfl) rfl
theorem k_401 : (Jvm.Cond.selects "TurnerHeap" ({ cls := "TurnerHeap", name := "erase", desc := "()I" } : Jvm.MethodName) ({ cls := "TurnerHeap", name := "erase", desc := "()I" } : Jvm.MethodName)) ∈ G := tb_2 (List.mem_of_getElem? (i := 55) rfl) rfl
theorem k_402 : (Jvm.Cond.code ({ cls := "TurnerHeap", name := "erase", desc := "()I" } : Jvm.MethodName) prog_1_method_3_code (2 : Nat) (Option.some Jvm.ClassFile.FieldType.int)) ∈ G := tb_2 (List.mem_of_getElem? (i := 56) rfl) rfl
theorem k_403 : (Jvm.Cond.methodLink "TurnerHeapLaw" (72 : Nat) ({ cls := "TurnerHeap", name := "stopped", desc := "()I" } : Jvm.MethodName)) ∈ G := tb_2 (List.mem_of_getElem? (i := 57) rfl) rfl
theorem k_404 : (Jvm.Cond.instanceMethod ({ cls := "TurnerHeap", name := "stopped", desc := "()I" } : Jvm.MethodName)) ∈ G := tb_2 (List.mem_of_getElem? (i := 58) rfl) rfl
theorem k_405 : (Jvm.Cond.selects "TurnerHeap" ({ cls := "TurnerHeap", name := "stopped", desc := "()I" } : Jvm.MethodName) ({ cls := "TurnerHeap", name := "stopped", desc := "()I" } : Jvm.MethodName)) ∈ G := tb_2 (List.mem_of_getElem? (i := 59) rfl) rfl
theorem k_406 : (Jvm.Cond.code ({ cls := "TurnerHeap", name := "stopped", desc := "()I" } : Jvm.MethodName) prog_1_method_6_code (1 : Nat) (Option.some Jvm.ClassFile.FieldType.int)) ∈ G := tb_2 (List.mem_of_getElem? (i := 60) rfl) rfl
theorem k_407 : (Jvm.Cond.methodLink "TurnerHeap" (148 : Nat) ({ cls := "TurnerHeap$Machine", name := "stop", desc := "()I" } : Jvm.MethodName)) ∈ G := tb_2 (List.mem_of_getElem? (i := 61) rfl) rfl
theorem k_408 : (Jvm.Cond.instanceMethod ({ cls := "TurnerHeap$Machine", name := "stop", desc := "()I" } : Jvm.MethodName)) ∈ G := tb_2 (List.mem_of_getElem? (i := 62) rfl) rfl
theorem k_409 : (Jvm.Cond.selects "TurnerHeap$Machine" ({ cls := "TurnerHeap$Machine", name := "stop", desc := "()I" } : Jvm.MethodName) ({ cls := "TurnerHeap$Machine", name := "stop", desc := "()I" } : Jvm.MethodName)) ∈ G := tb_2 (List.mem_of_getElem? (i := 63) rfl) rfl
theorem k_410 : (Jvm.Cond.code ({ cls := "TurnerHeap$Machine", name := "stop", desc := "()I" } : Jvm.MethodName) prog_5_method_2_code (1 : Nat) (Option.some Jvm.ClassFile.FieldType.int)) ∈ G := tb_2 (List.mem_of_getElem? (i := 64) rfl) rfl
theorem k_411 : (Jvm.Cond.methodLink "TurnerHeapLaw" (76 : Nat) ({ cls := "TurnerHeap", name := "length", desc := "()I" } : Jvm.MethodName)) ∈ G := tb_2 (List.mem_of_getElem? (i := 65) rfl) rfl
theorem k_412 : (Jvm.Cond.instanceMethod ({ cls := "TurnerHeap", name := "length", desc := "()I" } : Jvm.MethodName)) ∈ G := tb_2 (List.mem_of_getElem? (i := 66) rfl) rfl
theorem k_413 : (Jvm.Cond.selects "TurnerHeap" ({ cls := "TurnerHeap", name := "length", desc := "()I" } : Jvm.MethodName) ({ cls := "TurnerHeap", name := "length", desc := "()I" } : Jvm.MethodName)) ∈ G := tb_2 (List.mem_of_getElem? (i := 67) rfl) rfl
theorem k_414 : (Jvm.Cond.code ({ cls := "TurnerHeap", name := "length", desc := "()I" } : Jvm.MethodName) prog_1_method_7_code (1 : Nat) (Option.some Jvm.ClassFile.FieldType.int)) ∈ G := tb_2 (List.mem_of_getElem? (i := 68) rfl) rfl
theorem k_415 : (Jvm.Cond.methodLink "TurnerHeap" (156 : Nat) ({ cls := "TurnerHeap$Paper", name := "printed", desc := "()I" } : Jvm.MethodName)) ∈ G := tb_2 (List.mem_of_getElem? (i := 69) rfl) rfl
theorem k_416 : (Jvm.Cond.instanceMethod ({ cls := "TurnerHeap$Paper", name := "printed", desc := "()I" } : Jvm.MethodName)) ∈ G := tb_2 (List.mem_of_getElem? (i := 70) rfl) rfl
theorem k_417 : (Jvm.Cond.selects "TurnerHeap$Paper" ({ cls := "TurnerHeap$Paper", name := "printed", desc := "()I" } : Jvm.MethodName) ({ cls := "TurnerHeap$Paper", name := "printed", desc := "()I" } : Jvm.MethodName)) ∈ G := tb_2 (List.mem_of_getElem? (i := 71) rfl) rfl
theorem k_418 : (Jvm.Cond.code ({ cls := "TurnerHeap$Paper", name := "printed", desc := "()I" } : Jvm.MethodName) prog_6_method_3_code (1 : Nat) (Option.some Jvm.ClassFile.FieldType.int)) ∈ G := tb_2 (List.mem_of_getElem? (i := 72) rfl) rfl
theorem k_419 : (Jvm.Cond.methodLink "TurnerHeapLaw" (42 : Nat) ({ cls := "TurnerHeapLaw", name := "cell", desc := "([II)I" } : Jvm.MethodName)) ∈ G := tb_2 (List.mem_of_getElem? (i := 73) rfl) rfl
theorem k_420 : (Jvm.Cond.static ({ cls := "TurnerHeapLaw", name := "cell", desc := "([II)I" } : Jvm.MethodName)) ∈ G := tb_2 (List.mem_of_getElem? (i := 74) rfl) rfl
theorem k_421 : (Jvm.Cond.code ({ cls := "TurnerHeapLaw", name := "cell", desc := "([II)I" } : Jvm.MethodName) method_2_code (2 : Nat) (Option.some Jvm.ClassFile.FieldType.int)) ∈ G := tb_2 (List.mem_of_getElem? (i := 75) rfl) rfl
theorem k_422 : (Jvm.Cond.methodLink "TurnerHeapLaw" (56 : Nat) ({ cls := "TurnerHeapLaw", name := "write", desc := "(LTurnerHeap;JI[J)I" } : Jvm.MethodName)) ∈ G := tb_2 (List.mem_of_getElem? (i := 76) rfl) rfl
theorem k_423 : (Jvm.Cond.static ({ cls := "TurnerHeapLaw", name := "write", desc := "(LTurnerHeap;JI[J)I" } : Jvm.MethodName)) ∈ G := tb_2 (List.mem_of_getElem? (i := 77) rfl) rfl
theorem k_424 : (Jvm.Cond.codeWith ({ cls := "TurnerHeapLaw", name := "write", desc := "(LTurnerHeap;JI[J)I" } : Jvm.MethodName) method_3_code (6 : Nat) (Option.some Jvm.ClassFile.FieldType.int) [((0 : Nat), (11 : Nat), (14 : Nat), (13 : Nat)), ((0 : Nat), (11 : Nat), (18 : Nat), (15 : Nat))]) ∈ G := tb_2 (List.mem_of_getElem? (i := 78) rfl) rfl
theorem k_425 : (Jvm.Cond.classLink "TurnerHeapLaw" (13 : Nat) "java/lang/IllegalArgumentException") ∈ G := tb_2 (List.mem_of_getElem? (i := 79) rfl) rfl
theorem k_426 : (Jvm.Cond.classLink "TurnerHeapLaw" (15 : Nat) "java/lang/IllegalStateException") ∈ G := tb_2 (List.mem_of_getElem? (i := 80) rfl) rfl
theorem k_427 : (Jvm.Cond.methodLink "TurnerHeapLaw" (7 : Nat) ({ cls := "TurnerHeap", name := "write", desc := "(JI)I" } : Jvm.MethodName)) ∈ G := tb_2 (List.mem_of_getElem? (i := 81) rfl) rfl
theorem k_428 : (Jvm.Cond.instanceMethod ({ cls := "TurnerHeap", name := "write", desc := "(JI)I" } : Jvm.MethodName)) ∈ G := tb_2 (List.mem_of_getElem? (i := 82) rfl) rfl
theorem k_429 : (Jvm.Cond.selects "TurnerHeap" ({ cls := "TurnerHeap", name := "write", desc := "(JI)I" } : Jvm.MethodName) ({ cls := "TurnerHeap", name := "write", desc := "(JI)I" } : Jvm.MethodName)) ∈ G := tb_2 (List.mem_of_getElem? (i := 83) rfl) rfl
theorem k_430 : (Jvm.Cond.code ({ cls := "TurnerHeap", name := "write", desc := "(JI)I" } : Jvm.MethodName) prog_1_method_2_code (5 : Nat) (Option.some Jvm.ClassFile.FieldType.int)) ∈ G := tb_2 (List.mem_of_getElem? (i := 84) rfl) rfl
theorem k_431 : (Jvm.Cond.classLink "TurnerHeap" (85 : Nat) "java/lang/IllegalArgumentException") ∈ G := tb_2 (List.mem_of_getElem? (i := 85) rfl) rfl
theorem k_432 : (Jvm.Cond.instantiable "java/lang/IllegalArgumentException" (6 : Nat)) ∈ G := tb_2 (List.mem_of_getElem? (i := 86) rfl) rfl
theorem k_440 : (Jvm.Cond.selects "java/lang/IllegalArgumentException" ({ cls := "java/lang/Throwable", name := "fillInStackTrace", desc := "(I)Ljava/lang/Throwable;" } : Jvm.MethodName) ({ cls := "java/lang/Throwable", name := "fillInStackTrace", desc := "(I)Ljava/lang/Throwable;" } : Jvm.MethodName)) ∈ G := tb_2 (List.mem_of_getElem? (i := 94) rfl) rfl
theorem k_441 : (Jvm.Cond.selects "java/lang/IllegalArgumentException" ({ cls := "java/lang/Throwable", name := "fillInStackTrace", desc := "()Ljava/lang/Throwable;" } : Jvm.MethodName) ({ cls := "java/lang/Throwable", name := "fillInStackTrace", desc := "()Ljava/lang/Throwable;" } : Jvm.MethodName)) ∈ G := tb_2 (List.mem_of_getElem? (i := 95) rfl) rfl
theorem k_442 : (Jvm.Cond.lays "java/lang/IllegalArgumentException" "java/lang/Throwable" "cause" "Ljava/lang/Throwable;") ∈ G := tb_2 (List.mem_of_getElem? (i := 96) rfl) rfl
theorem k_443 : (Jvm.Cond.lays "java/lang/Throwable" "java/lang/Throwable" "cause" "Ljava/lang/Throwable;") ∈ G := tb_2 (List.mem_of_getElem? (i := 97) rfl) rfl
theorem k_444 : (Jvm.Cond.lays "java/lang/IllegalArgumentException" "java/lang/Throwable" "stackTrace" "[Ljava/lang/StackTraceElement;") ∈ G := tb_2 (List.mem_of_getElem? (i := 98) rfl) rfl
theorem k_445 : (Jvm.Cond.lays "java/lang/Throwable" "java/lang/Throwable" "stackTrace" "[Ljava/lang/StackTraceElement;") ∈ G := tb_2 (List.mem_of_getElem? (i := 99) rfl) rfl
theorem k_446 : (Jvm.Cond.lays "java/lang/IllegalArgumentException" "java/lang/Throwable" "suppressedExceptions" "Ljava/util/List;") ∈ G := tb_2 (List.mem_of_getElem? (i := 100) rfl) rfl
theorem k_447 : (Jvm.Cond.lays "java/lang/Throwable" "java/lang/Throwable" "suppressedExceptions" "Ljava/util/List;") ∈ G := tb_2 (List.mem_of_getElem? (i := 101) rfl) rfl
theorem k_448 : (Jvm.Cond.lays "java/lang/IllegalArgumentException" "java/lang/Throwable" "detailMessage" "Ljava/lang/String;") ∈ G := tb_2 (List.mem_of_getElem? (i := 102) rfl) rfl
theorem k_449 : (Jvm.Cond.lays "java/lang/Throwable" "java/lang/Throwable" "detailMessage" "Ljava/lang/String;") ∈ G := tb_2 (List.mem_of_getElem? (i := 103) rfl) rfl
theorem k_450 : (Jvm.Cond.lays "java/lang/IllegalArgumentException" "java/lang/Throwable" "backtrace" "Ljava/lang/Object;") ∈ G := tb_2 (List.mem_of_getElem? (i := 104) rfl) rfl
theorem k_451 : (Jvm.Cond.lays "java/lang/Throwable" "java/lang/Throwable" "backtrace" "Ljava/lang/Object;") ∈ G := tb_2 (List.mem_of_getElem? (i := 105) rfl) rfl
theorem k_452 : (Jvm.Cond.fieldLink "java/lang/Throwable" (198 : Nat) "java/lang/Throwable" "backtrace" "Ljava/lang/Object;") ∈ G := tb_2 (List.mem_of_getElem? (i := 106) rfl) rfl
theorem k_453 : (Jvm.Cond.superclass "java/lang/Throwable" "java/lang/Object") ∈ G := tb_2 (List.mem_of_getElem? (i := 107) rfl) rfl
theorem k_454 : (Jvm.Cond.instanceMethod ({ cls := "java/lang/Throwable", name := "<init>", desc := "()V" } : Jvm.MethodName)) ∈ G := tb_2 (List.mem_of_getElem? (i := 108) rfl) rfl
theorem k_455 : (Jvm.Cond.code ({ cls := "java/lang/Throwable", name := "<init>", desc := "()V" } : Jvm.MethodName) prog_22_method_1_code (1 : Nat) (Option.none : Option Jvm.ClassFile.FieldType)) ∈ G := tb_2 (List.mem_of_getElem? (i := 109) rfl) rfl
theorem k_456 : (Jvm.Cond.methodLink "java/lang/Throwable" (1 : Nat) ({ cls := "java/lang/Object", name := "<init>", desc := "()V" } : Jvm.MethodName)) ∈ G := tb_2 (List.mem_of_getElem? (i := 110) rfl) rfl
theorem k_457 : (Jvm.Cond.fieldLink "java/lang/Throwable" (13 : Nat) "java/lang/Throwable" "UNASSIGNED_STACK" "[Ljava/lang/StackTraceElement;") ∈ G := tb_2 (List.mem_of_getElem? (i := 111) rfl) rfl
theorem k_459 : (Jvm.Cond.fieldLink "java/lang/Throwable" (20 : Nat) "java/lang/Throwable" "SUPPRESSED_SENTINEL" "Ljava/util/List;") ∈ G := tb_2 (List.mem_of_getElem? (i := 113) rfl) rfl
theorem k_461 : (Jvm.Cond.methodLink "java/lang/Throwable" (27 : Nat) ({ cls := "java/lang/Throwable", name := "fillInStackTrace", desc := "()Ljava/lang/Throwable;" } : Jvm.MethodName)) ∈ G := tb_2 (List.mem_of_getElem? (i := 115) rfl) rfl
theorem k_462 : (Jvm.Cond.instanceMethod ({ cls := "java/lang/Throwable", name := "fillInStackTrace", desc := "()Ljava/lang/Throwable;" } : Jvm.MethodName)) ∈ G := tb_2 (List.mem_of_getElem? (i := 116) rfl) rfl
theorem k_463 : (Jvm.Cond.sameMethod "java/lang/Throwable" "java/lang/Throwable" "fillInStackTrace" "()Ljava/lang/Throwable;") ∈ G := tb_2 (List.mem_of_getElem? (i := 117) rfl) rfl
theorem k_464 : (Jvm.Cond.selects "java/lang/IllegalStateException" ({ cls := "java/lang/Throwable", name := "fillInStackTrace", desc := "()Ljava/lang/Throwable;" } : Jvm.MethodName) ({ cls := "java/lang/Throwable", name := "fillInStackTrace", desc := "()Ljava/lang/Throwable;" } : Jvm.MethodName)) ∈ G := tb_2 (List.mem_of_getElem? (i := 118) rfl) rfl
theorem k_465 : (Jvm.Cond.selects "java/lang/IndexOutOfBoundsException" ({ cls := "java/lang/Throwable", name := "fillInStackTrace", desc := "()Ljava/lang/Throwable;" } : Jvm.MethodName) ({ cls := "java/lang/Throwable", name := "fillInStackTrace", desc := "()Ljava/lang/Throwable;" } : Jvm.MethodName)) ∈ G := tb_2 (List.mem_of_getElem? (i := 119) rfl) rfl
theorem k_466 : (Jvm.Cond.selects "java/lang/UnsupportedOperationException" ({ cls := "java/lang/Throwable", name := "fillInStackTrace", desc := "()Ljava/lang/Throwable;" } : Jvm.MethodName) ({ cls := "java/lang/Throwable", name := "fillInStackTrace", desc := "()Ljava/lang/Throwable;" } : Jvm.MethodName)) ∈ G := tb_2 (List.mem_of_getElem? (i := 120) rfl) rfl
theorem k_467 : (Jvm.Cond.codeSync ({ cls := "java/lang/Throwable", name := "fillInStackTrace", desc := "()Ljava/lang/Throwable;" } : Jvm.MethodName) prog_22_method_18_code (1 : Nat) (Option.some (Jvm.ClassFile.FieldType.object "java/lang/Throwable"))) ∈ G := tb_2 (List.mem_of_getElem? (i := 121) rfl) rfl
theorem k_468 : (Jvm.Cond.methodLink "java/lang/Throwable" (202 : Nat) ({ cls := "java/lang/Throwable", name := "fillInStackTrace", desc := "(I)Ljava/lang/Throwable;" } : Jvm.MethodName)) ∈ G := tb_2 (List.mem_of_getElem? (i := 122) rfl) rfl
theorem k_470 : (Jvm.Cond.instanceMethod ({ cls := "java/lang/Throwable", name := "fillInStackTrace", desc := "(I)Ljava/lang/Throwable;" } : Jvm.MethodName)) ∈ G := tb_2 (List.mem_of_getElem? (i := 124) rfl) rfl
theorem k_471 : (Jvm.Cond.instantiable "java/lang/Throwable" (6 : Nat)) ∈ G := tb_2 (List.mem_of_getElem? (i := 125) rfl) rfl
theorem k_472 : (Jvm.Cond.native ({ cls := "java/lang/Throwable", name := "fillInStackTrace", desc := "(I)Ljava/lang/Throwable;" } : Jvm.MethodName)) ∈ G := tb_2 (List.mem_of_getElem? (i := 126) rfl) rfl
theorem k_474 : (Jvm.Cond.methodLink "TurnerHeap" (89 : Nat) ({ cls := "java/lang/IllegalArgumentException", name := "<init>", desc := "(Ljava/lang/String;)V" } : Jvm.MethodName)) ∈ G := tb_2 (List.mem_of_getElem? (i := 128) rfl) rfl
theorem k_475 : (Jvm.Cond.instanceMethod ({ cls := "java/lang/IllegalArgumentException", name := "<init>", desc := "(Ljava/lang/String;)V" } : Jvm.MethodName)) ∈ G := tb_2 (List.mem_of_getElem? (i := 129) rfl) rfl
theorem k_476 : (Jvm.Cond.code ({ cls := "java/lang/IllegalArgumentException", name := "<init>", desc := "(Ljava/lang/String;)V" } : Jvm.MethodName) prog_14_method_2_code (2 : Nat) (Option.none : Option Jvm.ClassFile.FieldType)) ∈ G := tb_2 (List.mem_of_getElem? (i := 130) rfl) rfl
theorem k_477 : (Jvm.Cond.methodLink "java/lang/IllegalArgumentException" (7 : Nat) ({ cls := "java/lang/RuntimeException", name := "<init>", desc := "(Ljava/lang/String;)V" } : Jvm.MethodName)) ∈ G := tb_2 (List.mem_of_getElem? (i := 131) rfl) rfl
theorem k_478 : (Jvm.Cond.instanceMethod ({ cls := "java/lang/RuntimeException", name := "<init>", desc := "(Ljava/lang/String;)V" } : Jvm.MethodName)) ∈ G := tb_2 (List.mem_of_getElem? (i := 132) rfl) rfl
theorem k_479 : (Jvm.Cond.code ({ cls := "java/lang/RuntimeException", name := "<init>", desc := "(Ljava/lang/String;)V" } : Jvm.MethodName) prog_18_method_2_code (2 : Nat) (Option.none : Option Jvm.ClassFile.FieldType)) ∈ G := tb_2 (List.mem_of_getElem? (i := 133) rfl) rfl
theorem k_480 : (Jvm.Cond.methodLink "java/lang/RuntimeException" (7 : Nat) ({ cls := "java/lang/Exception", name := "<init>", desc := "(Ljava/lang/String;)V" } : Jvm.MethodName)) ∈ G := tb_2 (List.mem_of_getElem? (i := 134) rfl) rfl
theorem k_481 : (Jvm.Cond.instanceMethod ({ cls := "java/lang/Exception", name := "<init>", desc := "(Ljava/lang/String;)V" } : Jvm.MethodName)) ∈ G := tb_2 (List.mem_of_getElem? (i := 135) rfl) rfl
theorem k_482 : (Jvm.Cond.code ({ cls := "java/lang/Exception", name := "<init>", desc := "(Ljava/lang/String;)V" } : Jvm.MethodName) prog_13_method_2_code (2 : Nat) (Option.none : Option Jvm.ClassFile.FieldType)) ∈ G := tb_2 (List.mem_of_getElem? (i := 136) rfl) rfl
theorem k_483 : (Jvm.Cond.methodLink "java/lang/Exception" (7 : Nat) ({ cls := "java/lang/Throwable", name := "<init>", desc := "(Ljava/lang/String;)V" } : Jvm.MethodName)) ∈ G := tb_2 (List.mem_of_getElem? (i := 137) rfl) rfl
theorem k_484 : (Jvm.Cond.instanceMethod ({ cls := "java/lang/Throwable", name := "<init>", desc := "(Ljava/lang/String;)V" } : Jvm.MethodName)) ∈ G := tb_2 (List.mem_of_getElem? (i := 138) rfl) rfl
theorem k_485 : (Jvm.Cond.code ({ cls := "java/lang/Throwable", name := "<init>", desc := "(Ljava/lang/String;)V" } : Jvm.MethodName) prog_22_method_2_code (2 : Nat) (Option.none : Option Jvm.ClassFile.FieldType)) ∈ G := tb_2 (List.mem_of_getElem? (i := 139) rfl) rfl
theorem k_487 : (Jvm.Cond.fieldLink "java/lang/Throwable" (31 : Nat) "java/lang/Throwable" "detailMessage" "Ljava/lang/String;") ∈ G := tb_2 (List.mem_of_getElem? (i := 141) rfl) rfl
theorem k_488 : (Jvm.Cond.fieldLink "java/lang/Throwable" (7 : Nat) "java/lang/Throwable" "cause" "Ljava/lang/Throwable;") ∈ G := tb_2 (List.mem_of_getElem? (i := 142) rfl) rfl
theorem k_489 : (Jvm.Cond.fieldLink "java/lang/Throwable" (17 : Nat) "java/lang/Throwable" "stackTrace" "[Ljava/lang/StackTraceElement;") ∈ G := tb_2 (List.mem_of_getElem? (i := 143) rfl) rfl
theorem k_490 : (Jvm.Cond.fieldLink "java/lang/Throwable" (24 : Nat) "java/lang/Throwable" "suppressedExceptions" "Ljava/util/List;") ∈ G := tb_2 (List.mem_of_getElem? (i := 144) rfl) rfl
theorem k_495 : (Jvm.Cond.lays "java/lang/IllegalArgumentException" "java/lang/Throwable" "depth" "I") ∈ G := tb_2 (List.mem_of_getElem? (i := 149) rfl) rfl
theorem k_498 : (Jvm.Cond.superclass "java/lang/IllegalArgumentException" "java/lang/RuntimeException") ∈ G := tb_2 (List.mem_of_getElem? (i := 152) rfl) rfl
theorem k_499 : (Jvm.Cond.arrayClass Jvm.ClassFile.FieldType.byte) ∈ G := tb_2 (List.mem_of_getElem? (i := 153) rfl) rfl
theorem k_500 : (Jvm.Cond.methodLink "TurnerHeap" (92 : Nat) ({ cls := "TurnerHeap", name := "byteOf", desc := "(JI)I" } : Jvm.MethodName)) ∈ G := tb_2 (List.mem_of_getElem? (i := 154) rfl) rfl
theorem k_501 : (Jvm.Cond.static ({ cls := "TurnerHeap", name := "byteOf", desc := "(JI)I" } : Jvm.MethodName)) ∈ G := tb_2 (List.mem_of_getElem? (i := 155) rfl) rfl
theorem k_502 : (Jvm.Cond.code ({ cls := "TurnerHeap", name := "byteOf", desc := "(JI)I" } : Jvm.MethodName) prog_1_method_12_code (3 : Nat) (Option.some Jvm.ClassFile.FieldType.int)) ∈ G := tb_2 (List.mem_of_getElem? (i := 156) rfl) rfl
theorem k_503 : (Jvm.Cond.methodLink "TurnerHeap" (96 : Nat) ({ cls := "TurnerHeap", name := "isCharacter", desc := "(I)Z" } : Jvm.MethodName)) ∈ G := tb_2 (List.mem_of_getElem? (i := 157) rfl) rfl
theorem k_504 : (Jvm.Cond.static ({ cls := "TurnerHeap", name := "isCharacter", desc := "(I)Z" } : Jvm.MethodName)) ∈ G := tb_2 (List.mem_of_getElem? (i := 158) rfl) rfl
theorem k_505 : (Jvm.Cond.code ({ cls := "TurnerHeap", name := "isCharacter", desc := "(I)Z" } : Jvm.MethodName) prog_1_method_13_code (1 : Nat) (Option.some Jvm.ClassFile.FieldType.boolean)) ∈ G := tb_2 (List.mem_of_getElem? (i := 159) rfl) rfl
theorem k_507 : (Jvm.Cond.classLink "TurnerHeap" (102 : Nat) "java/lang/IllegalStateException") ∈ G := tb_2 (List.mem_of_getElem? (i := 161) rfl) rfl
theorem k_508 : (Jvm.Cond.instantiable "java/lang/IllegalStateException" (6 : Nat)) ∈ G := tb_2 (List.mem_of_getElem? (i := 162) rfl) rfl
theorem k_510 : (Jvm.Cond.selects "java/lang/IllegalStateException" ({ cls := "java/lang/Throwable", name := "fillInStackTrace", desc := "(I)Ljava/lang/Throwable;" } : Jvm.MethodName) ({ cls := "java/lang/Throwable", name := "fillInStackTrace", desc := "(I)Ljava/lang/Throwable;" } : Jvm.MethodName)) ∈ G := tb_2 (List.mem_of_getElem? (i := 164) rfl) rfl
theorem k_511 : (Jvm.Cond.lays "java/lang/IllegalStateException" "java/lang/Throwable" "cause" "Ljava/lang/Throwable;") ∈ G := tb_2 (List.mem_of_getElem? (i := 165) rfl) rfl
theorem k_512 : (Jvm.Cond.lays "java/lang/IllegalStateException" "java/lang/Throwable" "stackTrace" "[Ljava/lang/StackTraceElement;") ∈ G := tb_2 (List.mem_of_getElem? (i := 166) rfl) rfl
theorem k_513 : (Jvm.Cond.lays "java/lang/IllegalStateException" "java/lang/Throwable" "suppressedExceptions" "Ljava/util/List;") ∈ G := tb_2 (List.mem_of_getElem? (i := 167) rfl) rfl
theorem k_514 : (Jvm.Cond.lays "java/lang/IllegalStateException" "java/lang/Throwable" "detailMessage" "Ljava/lang/String;") ∈ G := tb_2 (List.mem_of_getElem? (i := 168) rfl) rfl
theorem k_515 : (Jvm.Cond.lays "java/lang/IllegalStateException" "java/lang/Throwable" "backtrace" "Ljava/lang/Object;") ∈ G := tb_2 (List.mem_of_getElem? (i := 169) rfl) rfl
theorem k_517 : (Jvm.Cond.methodLink "TurnerHeap" (106 : Nat) ({ cls := "java/lang/IllegalStateException", name := "<init>", desc := "(Ljava/lang/String;)V" } : Jvm.MethodName)) ∈ G := tb_2 (List.mem_of_getElem? (i := 171) rfl) rfl
theorem k_518 : (Jvm.Cond.instanceMethod ({ cls := "java/lang/IllegalStateException", name := "<init>", desc := "(Ljava/lang/String;)V" } : Jvm.MethodName)) ∈ G := tb_2 (List.mem_of_getElem? (i := 172) rfl) rfl
theorem k_519 : (Jvm.Cond.code ({ cls := "java/lang/IllegalStateException", name := "<init>", desc := "(Ljava/lang/String;)V" } : Jvm.MethodName) prog_15_method_2_code (2 : Nat) (Option.none : Option Jvm.ClassFile.FieldType)) ∈ G := tb_2 (List.mem_of_getElem? (i := 173) rfl) rfl
theorem k_520 : (Jvm.Cond.methodLink "java/lang/IllegalStateException" (7 : Nat) ({ cls := "java/lang/RuntimeException", name := "<init>", desc := "(Ljava/lang/String;)V" } : Jvm.MethodName)) ∈ G := tb_2 (List.mem_of_getElem? (i := 174) rfl) rfl
theorem k_521 : (Jvm.Cond.lays "java/lang/IllegalStateException" "java/lang/Throwable" "depth" "I") ∈ G := tb_2 (List.mem_of_getElem? (i := 175) rfl) rfl
theorem k_522 : (Jvm.Cond.superclass "java/lang/IllegalStateException" "java/lang/RuntimeException") ∈ G := tb_2 (List.mem_of_getElem? (i := 176) rfl) rfl
theorem k_523 : (Jvm.Cond.methodLink "TurnerHeapLaw" (64 : Nat) ({ cls := "TurnerHeapLaw", name := "read", desc := "(LTurnerHeap;[J)I" } : Jvm.MethodName)) ∈ G := tb_2 (List.mem_of_getElem? (i := 177) rfl) rfl
theorem k_524 : (Jvm.Cond.static ({ cls := "TurnerHeapLaw", name := "read", desc := "(LTurnerHeap;[J)I" } : Jvm.MethodName)) ∈ G := tb_2 (List.mem_of_getElem? (i := 178) rfl) rfl
theorem k_525 : (Jvm.Cond.codeWith ({ cls := "TurnerHeapLaw", name := "read", desc := "(LTurnerHeap;[J)I" } : Jvm.MethodName) method_4_code (3 : Nat) (Option.some Jvm.ClassFile.FieldType.int) [((0 : Nat), (8 : Nat), (11 : Nat), (13 : Nat)), ((0 : Nat), (8 : Nat), (14 : Nat), (15 : Nat)), ((0 : Nat), (8 : Nat), (17 : Nat), (21 : Nat))]) ∈ G := tb_2 (List.mem_of_getElem? (i := 179) rfl) rfl
theorem k_526 : (Jvm.Cond.classLink "TurnerHeapLaw" (21 : Nat) "java/lang/UnsupportedOperationException") ∈ G := tb_2 (List.mem_of_getElem? (i := 180) rfl) rfl
theorem k_527 : (Jvm.Cond.methodLink "TurnerHeapLaw" (17 : Nat) ({ cls := "TurnerHeap", name := "read", desc := "()I" } : Jvm.MethodName)) ∈ G := tb_2 (List.mem_of_getElem? (i := 181) rfl) rfl
theorem k_528 : (Jvm.Cond.instanceMethod ({ cls := "TurnerHeap", name := "read", desc := "()I" } : Jvm.MethodName)) ∈ G := tb_2 (List.mem_of_getElem? (i := 182) rfl) rfl
theorem k_529 : (Jvm.Cond.selects "TurnerHeap" ({ cls := "TurnerHeap", name := "read", desc := "()I" } : Jvm.MethodName) ({ cls := "TurnerHeap", name := "read", desc := "()I" } : Jvm.MethodName)) ∈ G := tb_2 (List.mem_of_getElem? (i := 183) rfl) rfl
theorem k_530 : (Jvm.Cond.code ({ cls := "TurnerHeap", name := "read", desc := "()I" } : Jvm.MethodName) prog_1_method_4_code (2 : Nat) (Option.some Jvm.ClassFile.FieldType.int)) ∈ G := tb_2 (List.mem_of_getElem? (i := 184) rfl) rfl
theorem k_531 : (Jvm.Cond.methodLink "TurnerHeap" (107 : Nat) ({ cls := "TurnerHeap", name := "forget", desc := "()V" } : Jvm.MethodName)) ∈ G := tb_2 (List.mem_of_getElem? (i := 185) rfl) rfl
theorem k_533 : (Jvm.Cond.instanceMethod ({ cls := "TurnerHeap", name := "forget", desc := "()V" } : Jvm.MethodName)) ∈ G := tb_2 (List.mem_of_getElem? (i := 187) rfl) rfl
theorem k_534 : (Jvm.Cond.code ({ cls := "TurnerHeap", name := "forget", desc := "()V" } : Jvm.MethodName) prog_1_method_14_code (1 : Nat) (Option.none : Option Jvm.ClassFile.FieldType)) ∈ G := tb_2 (List.mem_of_getElem? (i := 188) rfl) rfl
theorem k_535 : (Jvm.Cond.methodLink "TurnerHeap" (195 : Nat) ({ cls := "TurnerHeap$Paper", name := "clear", desc := "()V" } : Jvm.MethodName)) ∈ G := tb_2 (List.mem_of_getElem? (i := 189) rfl) rfl
theorem k_536 : (Jvm.Cond.instanceMethod ({ cls := "TurnerHeap$Paper", name := "clear", desc := "()V" } : Jvm.MethodName)) ∈ G := tb_2 (List.mem_of_getElem? (i := 190) rfl) rfl
theorem k_537 : (Jvm.Cond.selects "TurnerHeap$Paper" ({ cls := "TurnerHeap$Paper", name := "clear", desc := "()V" } : Jvm.MethodName) ({ cls := "TurnerHeap$Paper", name := "clear", desc := "()V" } : Jvm.MethodName)) ∈ G := tb_2 (List.mem_of_getElem? (i := 191) rfl) rfl
theorem k_538 : (Jvm.Cond.code ({ cls := "TurnerHeap$Paper", name := "clear", desc := "()V" } : Jvm.MethodName) prog_6_method_2_code (1 : Nat) (Option.none : Option Jvm.ClassFile.FieldType)) ∈ G := tb_2 (List.mem_of_getElem? (i := 192) rfl) rfl
theorem k_539 : (Jvm.Cond.methodLink "TurnerHeap" (110 : Nat) ({ cls := "TurnerHeap$Lexemes", name := "cut", desc := "([CI)V" } : Jvm.MethodName)) ∈ G := tb_2 (List.mem_of_getElem? (i := 193) rfl) rfl
theorem k_540 : (Jvm.Cond.instanceMethod ({ cls := "TurnerHeap$Lexemes", name := "cut", desc := "([CI)V" } : Jvm.MethodName)) ∈ G := tb_2 (List.mem_of_getElem? (i := 194) rfl) rfl
theorem k_541 : (Jvm.Cond.selects "TurnerHeap$Lexemes" ({ cls := "TurnerHeap$Lexemes", name := "cut", desc := "([CI)V" } : Jvm.MethodName) ({ cls := "TurnerHeap$Lexemes", name := "cut", desc := "([CI)V" } : Jvm.MethodName)) ∈ G := tb_2 (List.mem_of_getElem? (i := 195) rfl) rfl
theorem k_542 : (Jvm.Cond.code ({ cls := "TurnerHeap$Lexemes", name := "cut", desc := "([CI)V" } : Jvm.MethodName) prog_4_method_5_code (6 : Nat) (Option.none : Option Jvm.ClassFile.FieldType)) ∈ G := tb_2 (List.mem_of_getElem? (i := 196) rfl) rfl
theorem k_543 : (Jvm.Cond.methodLink "TurnerHeap$Lexemes" (20 : Nat) ({ cls := "TurnerHeap$Lexemes", name := "isLetter", desc := "(C)Z" } : Jvm.MethodName)) ∈ G := tb_2 (List.mem_of_getElem? (i := 197) rfl) rfl
theorem k_544 : (Jvm.Cond.static ({ cls := "TurnerHeap$Lexemes", name := "isLetter", desc := "(C)Z" } : Jvm.MethodName)) ∈ G := tb_2 (List.mem_of_getElem? (i := 198) rfl) rfl
theorem k_545 : (Jvm.Cond.code ({ cls := "TurnerHeap$Lexemes", name := "isLetter", desc := "(C)Z" } : Jvm.MethodName) prog_4_method_10_code (1 : Nat) (Option.some Jvm.ClassFile.FieldType.boolean)) ∈ G := tb_2 (List.mem_of_getElem? (i := 199) rfl) rfl
theorem k_546 : (Jvm.Cond.methodLink "TurnerHeap$Lexemes" (24 : Nat) ({ cls := "java/lang/Math", name := "min", desc := "(II)I" } : Jvm.MethodName)) ∈ G := tb_2 (List.mem_of_getElem? (i := 200) rfl) rfl
theorem k_547 : (Jvm.Cond.methodLink "TurnerHeap$Lexemes" (30 : Nat) ({ cls := "TurnerHeap$Lexemes", name := "endOf", desc := "([CIIZ)I" } : Jvm.MethodName)) ∈ G := tb_2 (List.mem_of_getElem? (i := 201) rfl) rfl
theorem k_548 : (Jvm.Cond.static ({ cls := "TurnerHeap$Lexemes", name := "endOf", desc := "([CIIZ)I" } : Jvm.MethodName)) ∈ G := tb_2 (List.mem_of_getElem? (i := 202) rfl) rfl
theorem k_549 : (Jvm.Cond.code ({ cls := "TurnerHeap$Lexemes", name := "endOf", desc := "([CIIZ)I" } : Jvm.MethodName) prog_4_method_7_code (5 : Nat) (Option.some Jvm.ClassFile.FieldType.int)) ∈ G := tb_2 (List.mem_of_getElem? (i := 203) rfl) rfl
theorem k_550 : (Jvm.Cond.methodLink "TurnerHeap$Lexemes" (42 : Nat) ({ cls := "TurnerHeap$Lexemes", name := "isDigit", desc := "(C)Z" } : Jvm.MethodName)) ∈ G := tb_2 (List.mem_of_getElem? (i := 204) rfl) rfl
theorem k_551 : (Jvm.Cond.static ({ cls := "TurnerHeap$Lexemes", name := "isDigit", desc := "(C)Z" } : Jvm.MethodName)) ∈ G := tb_2 (List.mem_of_getElem? (i := 205) rfl) rfl
theorem k_552 : (Jvm.Cond.code ({ cls := "TurnerHeap$Lexemes", name := "isDigit", desc := "(C)Z" } : Jvm.MethodName) prog_4_method_11_code (1 : Nat) (Option.some Jvm.ClassFile.FieldType.boolean)) ∈ G := tb_2 (List.mem_of_getElem? (i := 206) rfl) rfl
theorem k_553 : (Jvm.Cond.methodLink "TurnerHeap$Lexemes" (34 : Nat) ({ cls := "TurnerHeap$Lexemes", name := "nameOf", desc := "([CII)I" } : Jvm.MethodName)) ∈ G := tb_2 (List.mem_of_getElem? (i := 207) rfl) rfl
theorem k_554 : (Jvm.Cond.static ({ cls := "TurnerHeap$Lexemes", name := "nameOf", desc := "([CII)I" } : Jvm.MethodName)) ∈ G := tb_2 (List.mem_of_getElem? (i := 208) rfl) rfl
theorem k_555 : (Jvm.Cond.code ({ cls := "TurnerHeap$Lexemes", name := "nameOf", desc := "([CII)I" } : Jvm.MethodName) prog_4_method_8_code (5 : Nat) (Option.some Jvm.ClassFile.FieldType.int)) ∈ G := tb_2 (List.mem_of_getElem? (i := 209) rfl) rfl
theorem k_556 : (Jvm.Cond.methodLink "TurnerHeap$Lexemes" (38 : Nat) ({ cls := "TurnerHeap$Lexemes", name := "add", desc := "(II)V" } : Jvm.MethodName)) ∈ G := tb_2 (List.mem_of_getElem? (i := 210) rfl) rfl
theorem k_558 : (Jvm.Cond.instanceMethod ({ cls := "TurnerHeap$Lexemes", name := "add", desc := "(II)V" } : Jvm.MethodName)) ∈ G := tb_2 (List.mem_of_getElem? (i := 212) rfl) rfl
theorem k_559 : (Jvm.Cond.code ({ cls := "TurnerHeap$Lexemes", name := "add", desc := "(II)V" } : Jvm.MethodName) prog_4_method_6_code (3 : Nat) (Option.none : Option Jvm.ClassFile.FieldType)) ∈ G := tb_2 (List.mem_of_getElem? (i := 213) rfl) rfl
theorem k_560 : (Jvm.Cond.classLink "TurnerHeap$Lexemes" (63 : Nat) "java/lang/IllegalStateException") ∈ G := tb_2 (List.mem_of_getElem? (i := 214) rfl) rfl
theorem k_562 : (Jvm.Cond.methodLink "TurnerHeap$Lexemes" (67 : Nat) ({ cls := "java/lang/IllegalStateException", name := "<init>", desc := "(Ljava/lang/String;)V" } : Jvm.MethodName)) ∈ G := tb_2 (List.mem_of_getElem? (i := 216) rfl) rfl
theorem k_563 : (Jvm.Cond.methodLink "TurnerHeap$Lexemes" (45 : Nat) ({ cls := "TurnerHeap$Lexemes", name := "numberOf", desc := "([CII)I" } : Jvm.MethodName)) ∈ G := tb_2 (List.mem_of_getElem? (i := 217) rfl) rfl
theorem k_564 : (Jvm.Cond.static ({ cls := "TurnerHeap$Lexemes", name := "numberOf", desc := "([CII)I" } : Jvm.MethodName)) ∈ G := tb_2 (List.mem_of_getElem? (i := 218) rfl) rfl
theorem k_565 : (Jvm.Cond.code ({ cls := "TurnerHeap$Lexemes", name := "numberOf", desc := "([CII)I" } : Jvm.MethodName) prog_4_method_9_code (5 : Nat) (Option.some Jvm.ClassFile.FieldType.int)) ∈ G := tb_2 (List.mem_of_getElem? (i := 219) rfl) rfl
theorem k_567 : (Jvm.Cond.methodLink "TurnerHeap$Lexemes" (50 : Nat) ({ cls := "java/lang/String", name := "indexOf", desc := "(I)I" } : Jvm.MethodName)) ∈ G := tb_2 (List.mem_of_getElem? (i := 221) rfl) rfl
theorem k_568 : (Jvm.Cond.instanceMethod ({ cls := "java/lang/String", name := "indexOf", desc := "(I)I" } : Jvm.MethodName)) ∈ G := tb_2 (List.mem_of_getElem? (i := 222) rfl) rfl
theorem k_569 : (Jvm.Cond.selects "java/lang/String" ({ cls := "java/lang/String", name := "indexOf", desc := "(I)I" } : Jvm.MethodName) ({ cls := "java/lang/String", name := "indexOf", desc := "(I)I" } : Jvm.MethodName)) ∈ G := tb_2 (List.mem_of_getElem? (i := 223) rfl) rfl
theorem k_570 : (Jvm.Cond.code ({ cls := "java/lang/String", name := "indexOf", desc := "(I)I" } : Jvm.MethodName) prog_19_method_79_code (2 : Nat) (Option.some Jvm.ClassFile.FieldType.int)) ∈ G := tb_2 (List.mem_of_getElem? (i := 224) rfl) rfl
theorem k_571 : (Jvm.Cond.methodLink "java/lang/String" (633 : Nat) ({ cls := "java/lang/String", name := "indexOf", desc := "(II)I" } : Jvm.MethodName)) ∈ G := tb_2 (List.mem_of_getElem? (i := 225) rfl) rfl
theorem k_572 : (Jvm.Cond.instanceMethod ({ cls := "java/lang/String", name := "indexOf", desc := "(II)I" } : Jvm.MethodName)) ∈ G := tb_2 (List.mem_of_getElem? (i := 226) rfl) rfl
theorem k_573 : (Jvm.Cond.selects "java/lang/String" ({ cls := "java/lang/String", name := "indexOf", desc := "(II)I" } : Jvm.MethodName) ({ cls := "java/lang/String", name := "indexOf", desc := "(II)I" } : Jvm.MethodName)) ∈ G := tb_2 (List.mem_of_getElem? (i := 227) rfl) rfl
theorem k_574 : (Jvm.Cond.code ({ cls := "java/lang/String", name := "indexOf", desc := "(II)I" } : Jvm.MethodName) prog_19_method_80_code (3 : Nat) (Option.some Jvm.ClassFile.FieldType.int)) ∈ G := tb_2 (List.mem_of_getElem? (i := 228) rfl) rfl
theorem k_575 : (Jvm.Cond.methodLink "java/lang/String" (492 : Nat) ({ cls := "java/lang/String", name := "isLatin1", desc := "()Z" } : Jvm.MethodName)) ∈ G := tb_2 (List.mem_of_getElem? (i := 229) rfl) rfl
theorem k_576 : (Jvm.Cond.instanceMethod ({ cls := "java/lang/String", name := "isLatin1", desc := "()Z" } : Jvm.MethodName)) ∈ G := tb_2 (List.mem_of_getElem? (i := 230) rfl) rfl
theorem k_577 : (Jvm.Cond.selects "java/lang/String" ({ cls := "java/lang/String", name := "isLatin1", desc := "()Z" } : Jvm.MethodName) ({ cls := "java/lang/String", name := "isLatin1", desc := "()Z" } : Jvm.MethodName)) ∈ G := tb_2 (List.mem_of_getElem? (i := 231) rfl) rfl
theorem k_578 : (Jvm.Cond.code ({ cls := "java/lang/String", name := "isLatin1", desc := "()Z" } : Jvm.MethodName) prog_19_method_154_code (1 : Nat) (Option.some Jvm.ClassFile.FieldType.boolean)) ∈ G := tb_2 (List.mem_of_getElem? (i := 232) rfl) rfl
theorem k_579 : (Jvm.Cond.fieldLink "java/lang/String" (38 : Nat) "java/lang/String" "COMPACT_STRINGS" "Z") ∈ G := tb_2 (List.mem_of_getElem? (i := 233) rfl) rfl
theorem k_581 : (Jvm.Cond.methodLink "java/lang/String" (505 : Nat) ({ cls := "java/lang/String", name := "length", desc := "()I" } : Jvm.MethodName)) ∈ G := tb_2 (List.mem_of_getElem? (i := 235) rfl) rfl
theorem k_582 : (Jvm.Cond.instanceMethod ({ cls := "java/lang/String", name := "length", desc := "()I" } : Jvm.MethodName)) ∈ G := tb_2 (List.mem_of_getElem? (i := 236) rfl) rfl
theorem k_583 : (Jvm.Cond.selects "java/lang/String" ({ cls := "java/lang/String", name := "length", desc := "()I" } : Jvm.MethodName) ({ cls := "java/lang/String", name := "length", desc := "()I" } : Jvm.MethodName)) ∈ G := tb_2 (List.mem_of_getElem? (i := 237) rfl) rfl
theorem k_584 : (Jvm.Cond.code ({ cls := "java/lang/String", name := "length", desc := "()I" } : Jvm.MethodName) prog_19_method_54_code (1 : Nat) (Option.some Jvm.ClassFile.FieldType.int)) ∈ G := tb_2 (List.mem_of_getElem? (i := 238) rfl) rfl
theorem k_585 : (Jvm.Cond.methodLink "java/lang/String" (335 : Nat) ({ cls := "java/lang/String", name := "coder", desc := "()B" } : Jvm.MethodName)) ∈ G := tb_2 (List.mem_of_getElem? (i := 239) rfl) rfl
theorem k_586 : (Jvm.Cond.instanceMethod ({ cls := "java/lang/String", name := "coder", desc := "()B" } : Jvm.MethodName)) ∈ G := tb_3 (List.mem_of_getElem? (i := 0) rfl) rfl
theorem k_587 : (Jvm.Cond.selects "java/lang/String" ({ cls := "java/lang/String", name := "coder", desc := "()B" } : Jvm.MethodName) ({ cls := "java/lang/String", name := "coder", desc := "()B" } : Jvm.MethodName)) ∈ G := tb_3 (List.mem_of_getElem? (i := 1) rfl) rfl
theorem k_588 : (Jvm.Cond.code ({ cls := "java/lang/String", name := "coder", desc := "()B" } : Jvm.MethodName) prog_19_method_152_code (1 : Nat) (Option.some Jvm.ClassFile.FieldType.byte)) ∈ G := tb_3 (List.mem_of_getElem? (i := 2) rfl) rfl
theorem k_589 : (Jvm.Cond.methodLink "java/lang/String" (637 : Nat) ({ cls := "java/lang/StringLatin1", name := "indexOf", desc := "([BIII)I" } : Jvm.MethodName)) ∈ G := tb_3 (List.mem_of_getElem? (i := 3) rfl) rfl
theorem k_590 : (Jvm.Cond.static ({ cls := "java/lang/StringLatin1", name := "indexOf", desc := "([BIII)I" } : Jvm.MethodName)) ∈ G := tb_3 (List.mem_of_getElem? (i := 4) rfl) rfl
theorem k_591 : (Jvm.Cond.code ({ cls := "java/lang/StringLatin1", name := "indexOf", desc := "([BIII)I" } : Jvm.MethodName) prog_20_method_22_code (4 : Nat) (Option.some Jvm.ClassFile.FieldType.int)) ∈ G := tb_3 (List.mem_of_getElem? (i := 5) rfl) rfl
theorem k_592 : (Jvm.Cond.methodLink "java/lang/StringLatin1" (88 : Nat) ({ cls := "java/lang/StringLatin1", name := "canEncode", desc := "(I)Z" } : Jvm.MethodName)) ∈ G := tb_3 (List.mem_of_getElem? (i := 6) rfl) rfl
theorem k_593 : (Jvm.Cond.static ({ cls := "java/lang/StringLatin1", name := "canEncode", desc := "(I)Z" } : Jvm.MethodName)) ∈ G := tb_3 (List.mem_of_getElem? (i := 7) rfl) rfl
theorem k_594 : (Jvm.Cond.code ({ cls := "java/lang/StringLatin1", name := "canEncode", desc := "(I)Z" } : Jvm.MethodName) prog_20_method_4_code (1 : Nat) (Option.some Jvm.ClassFile.FieldType.boolean)) ∈ G := tb_3 (List.mem_of_getElem? (i := 8) rfl) rfl
theorem k_595 : (Jvm.Cond.methodLink "java/lang/StringLatin1" (92 : Nat) ({ cls := "java/lang/Math", name := "max", desc := "(II)I" } : Jvm.MethodName)) ∈ G := tb_3 (List.mem_of_getElem? (i := 9) rfl) rfl
theorem k_596 : (Jvm.Cond.methodLink "java/lang/StringLatin1" (38 : Nat) ({ cls := "java/lang/Math", name := "min", desc := "(II)I" } : Jvm.MethodName)) ∈ G := tb_3 (List.mem_of_getElem? (i := 10) rfl) rfl
theorem k_597 : (Jvm.Cond.methodLink "java/lang/StringLatin1" (95 : Nat) ({ cls := "java/lang/StringLatin1", name := "indexOfChar", desc := "([BIII)I" } : Jvm.MethodName)) ∈ G := tb_3 (List.mem_of_getElem? (i := 11) rfl) rfl
theorem k_598 : (Jvm.Cond.static ({ cls := "java/lang/StringLatin1", name := "indexOfChar", desc := "([BIII)I" } : Jvm.MethodName)) ∈ G := tb_3 (List.mem_of_getElem? (i := 12) rfl) rfl
theorem k_599 : (Jvm.Cond.code ({ cls := "java/lang/StringLatin1", name := "indexOfChar", desc := "([BIII)I" } : Jvm.MethodName) prog_20_method_23_code (6 : Nat) (Option.some Jvm.ClassFile.FieldType.int)) ∈ G := tb_3 (List.mem_of_getElem? (i := 13) rfl) rfl
theorem k_600 : (Jvm.Cond.methodLink "java/lang/String" (640 : Nat) ({ cls := "java/lang/StringUTF16", name := "indexOf", desc := "([BIII)I" } : Jvm.MethodName)) ∈ G := tb_3 (List.mem_of_getElem? (i := 14) rfl) rfl
theorem k_601 : (Jvm.Cond.static ({ cls := "java/lang/StringUTF16", name := "indexOf", desc := "([BIII)I" } : Jvm.MethodName)) ∈ G := tb_3 (List.mem_of_getElem? (i := 15) rfl) rfl
theorem k_602 : (Jvm.Cond.code ({ cls := "java/lang/StringUTF16", name := "indexOf", desc := "([BIII)I" } : Jvm.MethodName) prog_21_method_40_code (4 : Nat) (Option.some Jvm.ClassFile.FieldType.int)) ∈ G := tb_3 (List.mem_of_getElem? (i := 16) rfl) rfl
theorem k_603 : (Jvm.Cond.methodLink "java/lang/StringUTF16" (224 : Nat) ({ cls := "java/lang/Math", name := "max", desc := "(II)I" } : Jvm.MethodName)) ∈ G := tb_3 (List.mem_of_getElem? (i := 17) rfl) rfl
theorem k_604 : (Jvm.Cond.methodLink "java/lang/StringUTF16" (183 : Nat) ({ cls := "java/lang/Math", name := "min", desc := "(II)I" } : Jvm.MethodName)) ∈ G := tb_3 (List.mem_of_getElem? (i := 18) rfl) rfl
theorem k_605 : (Jvm.Cond.constant "java/lang/StringUTF16" (227 : Nat) (65536 : Int32)) ∈ G := tb_3 (List.mem_of_getElem? (i := 19) rfl) rfl
theorem k_606 : (Jvm.Cond.methodLink "java/lang/StringUTF16" (228 : Nat) ({ cls := "java/lang/StringUTF16", name := "indexOfChar", desc := "([BIII)I" } : Jvm.MethodName)) ∈ G := tb_3 (List.mem_of_getElem? (i := 20) rfl) rfl
theorem k_607 : (Jvm.Cond.static ({ cls := "java/lang/StringUTF16", name := "indexOfChar", desc := "([BIII)I" } : Jvm.MethodName)) ∈ G := tb_3 (List.mem_of_getElem? (i := 21) rfl) rfl
theorem k_608 : (Jvm.Cond.code ({ cls := "java/lang/StringUTF16", name := "indexOfChar", desc := "([BIII)I" } : Jvm.MethodName) prog_21_method_47_code (4 : Nat) (Option.some Jvm.ClassFile.FieldType.int)) ∈ G := tb_3 (List.mem_of_getElem? (i := 22) rfl) rfl
theorem k_609 : (Jvm.Cond.methodLink "java/lang/StringUTF16" (96 : Nat) ({ cls := "java/lang/StringUTF16", name := "checkBoundsBeginEnd", desc := "(II[B)V" } : Jvm.MethodName)) ∈ G := tb_3 (List.mem_of_getElem? (i := 23) rfl) rfl
theorem k_610 : (Jvm.Cond.static ({ cls := "java/lang/StringUTF16", name := "checkBoundsBeginEnd", desc := "(II[B)V" } : Jvm.MethodName)) ∈ G := tb_3 (List.mem_of_getElem? (i := 24) rfl) rfl
theorem k_611 : (Jvm.Cond.code ({ cls := "java/lang/StringUTF16", name := "checkBoundsBeginEnd", desc := "(II[B)V" } : Jvm.MethodName) prog_21_method_93_code (3 : Nat) (Option.none : Option Jvm.ClassFile.FieldType)) ∈ G := tb_3 (List.mem_of_getElem? (i := 25) rfl) rfl
theorem k_612 : (Jvm.Cond.methodLink "java/lang/StringUTF16" (48 : Nat) ({ cls := "java/lang/StringUTF16", name := "length", desc := "([B)I" } : Jvm.MethodName)) ∈ G := tb_3 (List.mem_of_getElem? (i := 26) rfl) rfl
theorem k_613 : (Jvm.Cond.static ({ cls := "java/lang/StringUTF16", name := "length", desc := "([B)I" } : Jvm.MethodName)) ∈ G := tb_3 (List.mem_of_getElem? (i := 27) rfl) rfl
theorem k_614 : (Jvm.Cond.code ({ cls := "java/lang/StringUTF16", name := "length", desc := "([B)I" } : Jvm.MethodName) prog_21_method_6_code (1 : Nat) (Option.some Jvm.ClassFile.FieldType.int)) ∈ G := tb_3 (List.mem_of_getElem? (i := 28) rfl) rfl
theorem k_615 : (Jvm.Cond.methodLink "java/lang/StringUTF16" (241 : Nat) ({ cls := "java/lang/String", name := "checkBoundsBeginEnd", desc := "(III)V" } : Jvm.MethodName)) ∈ G := tb_3 (List.mem_of_getElem? (i := 29) rfl) rfl
theorem k_616 : (Jvm.Cond.static ({ cls := "java/lang/String", name := "checkBoundsBeginEnd", desc := "(III)V" } : Jvm.MethodName)) ∈ G := tb_3 (List.mem_of_getElem? (i := 30) rfl) rfl
theorem k_617 : (Jvm.Cond.code ({ cls := "java/lang/String", name := "checkBoundsBeginEnd", desc := "(III)V" } : Jvm.MethodName) prog_19_method_158_code (3 : Nat) (Option.none : Option Jvm.ClassFile.FieldType)) ∈ G := tb_3 (List.mem_of_getElem? (i := 31) rfl) rfl
theorem k_618 : (Jvm.Cond.fieldLink "java/lang/String" (1053 : Nat) "jdk/internal/util/Preconditions" "SIOOBE_FORMATTER" "Ljava/util/function/BiFunction;") ∈ G := tb_3 (List.mem_of_getElem? (i := 32) rfl) rfl
theorem k_620 : (Jvm.Cond.methodLink "java/lang/String" (1062 : Nat) ({ cls := "jdk/internal/util/Preconditions", name := "checkFromToIndex", desc := "(IIILjava/util/function/BiFunction;)I" } : Jvm.MethodName)) ∈ G := tb_3 (List.mem_of_getElem? (i := 34) rfl) rfl
theorem k_621 : (Jvm.Cond.static ({ cls := "jdk/internal/util/Preconditions", name := "checkFromToIndex", desc := "(IIILjava/util/function/BiFunction;)I" } : Jvm.MethodName)) ∈ G := tb_3 (List.mem_of_getElem? (i := 35) rfl) rfl
theorem k_622 : (Jvm.Cond.code ({ cls := "jdk/internal/util/Preconditions", name := "checkFromToIndex", desc := "(IIILjava/util/function/BiFunction;)I" } : Jvm.MethodName) prog_24_method_12_code (4 : Nat) (Option.some Jvm.ClassFile.FieldType.int)) ∈ G := tb_3 (List.mem_of_getElem? (i := 36) rfl) rfl
theorem k_623 : (Jvm.Cond.methodLink "java/lang/StringUTF16" (244 : Nat) ({ cls := "java/lang/StringUTF16", name := "indexOfCharUnsafe", desc := "([BIII)I" } : Jvm.MethodName)) ∈ G := tb_3 (List.mem_of_getElem? (i := 37) rfl) rfl
theorem k_624 : (Jvm.Cond.static ({ cls := "java/lang/StringUTF16", name := "indexOfCharUnsafe", desc := "([BIII)I" } : Jvm.MethodName)) ∈ G := tb_3 (List.mem_of_getElem? (i := 38) rfl) rfl
theorem k_625 : (Jvm.Cond.code ({ cls := "java/lang/StringUTF16", name := "indexOfCharUnsafe", desc := "([BIII)I" } : Jvm.MethodName) prog_21_method_48_code (5 : Nat) (Option.some Jvm.ClassFile.FieldType.int)) ∈ G := tb_3 (List.mem_of_getElem? (i := 39) rfl) rfl
theorem k_626 : (Jvm.Cond.methodLink "java/lang/StringUTF16" (71 : Nat) ({ cls := "java/lang/StringUTF16", name := "getChar", desc := "([BI)C" } : Jvm.MethodName)) ∈ G := tb_3 (List.mem_of_getElem? (i := 40) rfl) rfl
theorem k_627 : (Jvm.Cond.static ({ cls := "java/lang/StringUTF16", name := "getChar", desc := "([BI)C" } : Jvm.MethodName)) ∈ G := tb_3 (List.mem_of_getElem? (i := 41) rfl) rfl
theorem k_628 : (Jvm.Cond.code ({ cls := "java/lang/StringUTF16", name := "getChar", desc := "([BI)C" } : Jvm.MethodName) prog_21_method_5_code (2 : Nat) (Option.some Jvm.ClassFile.FieldType.char)) ∈ G := tb_3 (List.mem_of_getElem? (i := 42) rfl) rfl
theorem k_629 : (Jvm.Cond.fieldLink "java/lang/StringUTF16" (44 : Nat) "java/lang/StringUTF16" "$assertionsDisabled" "Z") ∈ G := tb_3 (List.mem_of_getElem? (i := 43) rfl) rfl
theorem k_631 : (Jvm.Cond.fieldLink "java/lang/StringUTF16" (59 : Nat) "java/lang/StringUTF16" "HI_BYTE_SHIFT" "I") ∈ G := tb_3 (List.mem_of_getElem? (i := 45) rfl) rfl
theorem k_633 : (Jvm.Cond.fieldLink "java/lang/StringUTF16" (63 : Nat) "java/lang/StringUTF16" "LO_BYTE_SHIFT" "I") ∈ G := tb_3 (List.mem_of_getElem? (i := 47) rfl) rfl
theorem k_635 : (Jvm.Cond.methodLink "java/lang/StringUTF16" (232 : Nat) ({ cls := "java/lang/StringUTF16", name := "indexOfSupplementary", desc := "([BIII)I" } : Jvm.MethodName)) ∈ G := tb_3 (List.mem_of_getElem? (i := 49) rfl) rfl
theorem k_636 : (Jvm.Cond.static ({ cls := "java/lang/StringUTF16", name := "indexOfSupplementary", desc := "([BIII)I" } : Jvm.MethodName)) ∈ G := tb_3 (List.mem_of_getElem? (i := 50) rfl) rfl
theorem k_637 : (Jvm.Cond.code ({ cls := "java/lang/StringUTF16", name := "indexOfSupplementary", desc := "([BIII)I" } : Jvm.MethodName) prog_21_method_49_code (7 : Nat) (Option.some Jvm.ClassFile.FieldType.int)) ∈ G := tb_3 (List.mem_of_getElem? (i := 51) rfl) rfl
theorem k_638 : (Jvm.Cond.methodLink "java/lang/StringUTF16" (164 : Nat) ({ cls := "java/lang/Character", name := "isValidCodePoint", desc := "(I)Z" } : Jvm.MethodName)) ∈ G := tb_3 (List.mem_of_getElem? (i := 52) rfl) rfl
theorem k_639 : (Jvm.Cond.static ({ cls := "java/lang/Character", name := "isValidCodePoint", desc := "(I)Z" } : Jvm.MethodName)) ∈ G := tb_3 (List.mem_of_getElem? (i := 53) rfl) rfl
theorem k_640 : (Jvm.Cond.code ({ cls := "java/lang/Character", name := "isValidCodePoint", desc := "(I)Z" } : Jvm.MethodName) prog_12_method_11_code (2 : Nat) (Option.some Jvm.ClassFile.FieldType.boolean)) ∈ G := tb_3 (List.mem_of_getElem? (i := 54) rfl) rfl
theorem k_641 : (Jvm.Cond.methodLink "java/lang/StringUTF16" (157 : Nat) ({ cls := "java/lang/Character", name := "highSurrogate", desc := "(I)C" } : Jvm.MethodName)) ∈ G := tb_3 (List.mem_of_getElem? (i := 55) rfl) rfl
theorem k_642 : (Jvm.Cond.static ({ cls := "java/lang/Character", name := "highSurrogate", desc := "(I)C" } : Jvm.MethodName)) ∈ G := tb_3 (List.mem_of_getElem? (i := 56) rfl) rfl
theorem k_643 : (Jvm.Cond.code ({ cls := "java/lang/Character", name := "highSurrogate", desc := "(I)C" } : Jvm.MethodName) prog_12_method_28_code (1 : Nat) (Option.some Jvm.ClassFile.FieldType.char)) ∈ G := tb_3 (List.mem_of_getElem? (i := 57) rfl) rfl
theorem k_644 : (Jvm.Cond.constant "java/lang/Character" (110 : Nat) (55232 : Int32)) ∈ G := tb_3 (List.mem_of_getElem? (i := 58) rfl) rfl
theorem k_645 : (Jvm.Cond.methodLink "java/lang/StringUTF16" (161 : Nat) ({ cls := "java/lang/Character", name := "lowSurrogate", desc := "(I)C" } : Jvm.MethodName)) ∈ G := tb_3 (List.mem_of_getElem? (i := 59) rfl) rfl
theorem k_646 : (Jvm.Cond.static ({ cls := "java/lang/Character", name := "lowSurrogate", desc := "(I)C" } : Jvm.MethodName)) ∈ G := tb_3 (List.mem_of_getElem? (i := 60) rfl) rfl
theorem k_647 : (Jvm.Cond.code ({ cls := "java/lang/Character", name := "lowSurrogate", desc := "(I)C" } : Jvm.MethodName) prog_12_method_29_code (1 : Nat) (Option.some Jvm.ClassFile.FieldType.char)) ∈ G := tb_3 (List.mem_of_getElem? (i := 61) rfl) rfl
theorem k_648 : (Jvm.Cond.constant "java/lang/Character" (76 : Nat) (56320 : Int32)) ∈ G := tb_3 (List.mem_of_getElem? (i := 62) rfl) rfl
theorem k_649 : (Jvm.Cond.classLink "TurnerHeap$Lexemes" (56 : Nat) "java/lang/IllegalArgumentException") ∈ G := tb_3 (List.mem_of_getElem? (i := 63) rfl) rfl
theorem k_651 : (Jvm.Cond.methodLink "TurnerHeap$Lexemes" (60 : Nat) ({ cls := "java/lang/IllegalArgumentException", name := "<init>", desc := "(Ljava/lang/String;)V" } : Jvm.MethodName)) ∈ G := tb_3 (List.mem_of_getElem? (i := 65) rfl) rfl
theorem k_652 : (Jvm.Cond.methodLink "TurnerHeap" (114 : Nat) ({ cls := "TurnerHeap$Reader", name := "begin", desc := "()V" } : Jvm.MethodName)) ∈ G := tb_3 (List.mem_of_getElem? (i := 66) rfl) rfl
theorem k_653 : (Jvm.Cond.instanceMethod ({ cls := "TurnerHeap$Reader", name := "begin", desc := "()V" } : Jvm.MethodName)) ∈ G := tb_3 (List.mem_of_getElem? (i := 67) rfl) rfl
theorem k_654 : (Jvm.Cond.selects "TurnerHeap$Reader" ({ cls := "TurnerHeap$Reader", name := "begin", desc := "()V" } : Jvm.MethodName) ({ cls := "TurnerHeap$Reader", name := "begin", desc := "()V" } : Jvm.MethodName)) ∈ G := tb_3 (List.mem_of_getElem? (i := 68) rfl) rfl
theorem k_655 : (Jvm.Cond.code ({ cls := "TurnerHeap$Reader", name := "begin", desc := "()V" } : Jvm.MethodName) prog_7_method_6_code (1 : Nat) (Option.none : Option Jvm.ClassFile.FieldType)) ∈ G := tb_3 (List.mem_of_getElem? (i := 69) rfl) rfl
theorem k_656 : (Jvm.Cond.methodLink "TurnerHeap$Reader" (45 : Nat) ({ cls := "TurnerHeap$Terms", name := "clear", desc := "()V" } : Jvm.MethodName)) ∈ G := tb_3 (List.mem_of_getElem? (i := 70) rfl) rfl
theorem k_657 : (Jvm.Cond.instanceMethod ({ cls := "TurnerHeap$Terms", name := "clear", desc := "()V" } : Jvm.MethodName)) ∈ G := tb_3 (List.mem_of_getElem? (i := 71) rfl) rfl
theorem k_658 : (Jvm.Cond.selects "TurnerHeap$Terms" ({ cls := "TurnerHeap$Terms", name := "clear", desc := "()V" } : Jvm.MethodName) ({ cls := "TurnerHeap$Terms", name := "clear", desc := "()V" } : Jvm.MethodName)) ∈ G := tb_3 (List.mem_of_getElem? (i := 72) rfl) rfl
theorem k_659 : (Jvm.Cond.code ({ cls := "TurnerHeap$Terms", name := "clear", desc := "()V" } : Jvm.MethodName) prog_8_method_2_code (2 : Nat) (Option.none : Option Jvm.ClassFile.FieldType)) ∈ G := tb_3 (List.mem_of_getElem? (i := 73) rfl) rfl
theorem k_660 : (Jvm.Cond.methodLink "TurnerHeap$Reader" (57 : Nat) ({ cls := "TurnerHeap$Reader", name := "findNames", desc := "()V" } : Jvm.MethodName)) ∈ G := tb_3 (List.mem_of_getElem? (i := 74) rfl) rfl
theorem k_662 : (Jvm.Cond.instanceMethod ({ cls := "TurnerHeap$Reader", name := "findNames", desc := "()V" } : Jvm.MethodName)) ∈ G := tb_3 (List.mem_of_getElem? (i := 76) rfl) rfl
theorem k_663 : (Jvm.Cond.code ({ cls := "TurnerHeap$Reader", name := "findNames", desc := "()V" } : Jvm.MethodName) prog_7_method_9_code (4 : Nat) (Option.none : Option Jvm.ClassFile.FieldType)) ∈ G := tb_3 (List.mem_of_getElem? (i := 77) rfl) rfl
theorem k_664 : (Jvm.Cond.methodLink "TurnerHeap$Reader" (77 : Nat) ({ cls := "TurnerHeap$Lexemes", name := "size", desc := "()I" } : Jvm.MethodName)) ∈ G := tb_3 (List.mem_of_getElem? (i := 78) rfl) rfl
theorem k_665 : (Jvm.Cond.instanceMethod ({ cls := "TurnerHeap$Lexemes", name := "size", desc := "()I" } : Jvm.MethodName)) ∈ G := tb_3 (List.mem_of_getElem? (i := 79) rfl) rfl
theorem k_666 : (Jvm.Cond.selects "TurnerHeap$Lexemes" ({ cls := "TurnerHeap$Lexemes", name := "size", desc := "()I" } : Jvm.MethodName) ({ cls := "TurnerHeap$Lexemes", name := "size", desc := "()I" } : Jvm.MethodName)) ∈ G := tb_3 (List.mem_of_getElem? (i := 80) rfl) rfl
theorem k_667 : (Jvm.Cond.code ({ cls := "TurnerHeap$Lexemes", name := "size", desc := "()I" } : Jvm.MethodName) prog_4_method_2_code (1 : Nat) (Option.some Jvm.ClassFile.FieldType.int)) ∈ G := tb_3 (List.mem_of_getElem? (i := 81) rfl) rfl
theorem k_668 : (Jvm.Cond.methodLink "TurnerHeap$Reader" (81 : Nat) ({ cls := "TurnerHeap$Lexemes", name := "kind", desc := "(I)I" } : Jvm.MethodName)) ∈ G := tb_3 (List.mem_of_getElem? (i := 82) rfl) rfl
theorem k_669 : (Jvm.Cond.instanceMethod ({ cls := "TurnerHeap$Lexemes", name := "kind", desc := "(I)I" } : Jvm.MethodName)) ∈ G := tb_3 (List.mem_of_getElem? (i := 83) rfl) rfl
theorem k_670 : (Jvm.Cond.selects "TurnerHeap$Lexemes" ({ cls := "TurnerHeap$Lexemes", name := "kind", desc := "(I)I" } : Jvm.MethodName) ({ cls := "TurnerHeap$Lexemes", name := "kind", desc := "(I)I" } : Jvm.MethodName)) ∈ G := tb_3 (List.mem_of_getElem? (i := 84) rfl) rfl
theorem k_671 : (Jvm.Cond.code ({ cls := "TurnerHeap$Lexemes", name := "kind", desc := "(I)I" } : Jvm.MethodName) prog_4_method_3_code (2 : Nat) (Option.some Jvm.ClassFile.FieldType.int)) ∈ G := tb_3 (List.mem_of_getElem? (i := 85) rfl) rfl
theorem k_672 : (Jvm.Cond.methodLink "TurnerHeap$Reader" (85 : Nat) ({ cls := "TurnerHeap$Lexemes", name := "value", desc := "(I)I" } : Jvm.MethodName)) ∈ G := tb_3 (List.mem_of_getElem? (i := 86) rfl) rfl
theorem k_673 : (Jvm.Cond.instanceMethod ({ cls := "TurnerHeap$Lexemes", name := "value", desc := "(I)I" } : Jvm.MethodName)) ∈ G := tb_3 (List.mem_of_getElem? (i := 87) rfl) rfl
theorem k_674 : (Jvm.Cond.selects "TurnerHeap$Lexemes" ({ cls := "TurnerHeap$Lexemes", name := "value", desc := "(I)I" } : Jvm.MethodName) ({ cls := "TurnerHeap$Lexemes", name := "value", desc := "(I)I" } : Jvm.MethodName)) ∈ G := tb_3 (List.mem_of_getElem? (i := 88) rfl) rfl
theorem k_675 : (Jvm.Cond.code ({ cls := "TurnerHeap$Lexemes", name := "value", desc := "(I)I" } : Jvm.MethodName) prog_4_method_4_code (2 : Nat) (Option.some Jvm.ClassFile.FieldType.int)) ∈ G := tb_3 (List.mem_of_getElem? (i := 89) rfl) rfl
theorem k_676 : (Jvm.Cond.methodLink "TurnerHeap" (117 : Nat) ({ cls := "TurnerHeap$Lexemes", name := "size", desc := "()I" } : Jvm.MethodName)) ∈ G := tb_3 (List.mem_of_getElem? (i := 90) rfl) rfl
theorem k_677 : (Jvm.Cond.methodLink "TurnerHeap" (121 : Nat) ({ cls := "TurnerHeap$Reader", name := "isAtDefinition", desc := "()Z" } : Jvm.MethodName)) ∈ G := tb_3 (List.mem_of_getElem? (i := 91) rfl) rfl
theorem k_678 : (Jvm.Cond.instanceMethod ({ cls := "TurnerHeap$Reader", name := "isAtDefinition", desc := "()Z" } : Jvm.MethodName)) ∈ G := tb_3 (List.mem_of_getElem? (i := 92) rfl) rfl
theorem k_679 : (Jvm.Cond.selects "TurnerHeap$Reader" ({ cls := "TurnerHeap$Reader", name := "isAtDefinition", desc := "()Z" } : Jvm.MethodName) ({ cls := "TurnerHeap$Reader", name := "isAtDefinition", desc := "()Z" } : Jvm.MethodName)) ∈ G := tb_3 (List.mem_of_getElem? (i := 93) rfl) rfl
theorem k_680 : (Jvm.Cond.code ({ cls := "TurnerHeap$Reader", name := "isAtDefinition", desc := "()Z" } : Jvm.MethodName) prog_7_method_7_code (1 : Nat) (Option.some Jvm.ClassFile.FieldType.boolean)) ∈ G := tb_3 (List.mem_of_getElem? (i := 94) rfl) rfl
theorem k_681 : (Jvm.Cond.methodLink "TurnerHeap$Reader" (60 : Nat) ({ cls := "TurnerHeap$Reader", name := "isWord", desc := "(I)Z" } : Jvm.MethodName)) ∈ G := tb_3 (List.mem_of_getElem? (i := 95) rfl) rfl
theorem k_683 : (Jvm.Cond.instanceMethod ({ cls := "TurnerHeap$Reader", name := "isWord", desc := "(I)Z" } : Jvm.MethodName)) ∈ G := tb_3 (List.mem_of_getElem? (i := 97) rfl) rfl
theorem k_684 : (Jvm.Cond.code ({ cls := "TurnerHeap$Reader", name := "isWord", desc := "(I)Z" } : Jvm.MethodName) prog_7_method_27_code (2 : Nat) (Option.some Jvm.ClassFile.FieldType.boolean)) ∈ G := tb_3 (List.mem_of_getElem? (i := 98) rfl) rfl
theorem k_685 : (Jvm.Cond.methodLink "TurnerHeap" (125 : Nat) ({ cls := "TurnerHeap$Reader", name := "readDefinition", desc := "()V" } : Jvm.MethodName)) ∈ G := tb_3 (List.mem_of_getElem? (i := 99) rfl) rfl
theorem k_686 : (Jvm.Cond.instanceMethod ({ cls := "TurnerHeap$Reader", name := "readDefinition", desc := "()V" } : Jvm.MethodName)) ∈ G := tb_3 (List.mem_of_getElem? (i := 100) rfl) rfl
theorem k_687 : (Jvm.Cond.selects "TurnerHeap$Reader" ({ cls := "TurnerHeap$Reader", name := "readDefinition", desc := "()V" } : Jvm.MethodName) ({ cls := "TurnerHeap$Reader", name := "readDefinition", desc := "()V" } : Jvm.MethodName)) ∈ G := tb_3 (List.mem_of_getElem? (i := 101) rfl) rfl
theorem k_688 : (Jvm.Cond.code ({ cls := "TurnerHeap$Reader", name := "readDefinition", desc := "()V" } : Jvm.MethodName) prog_7_method_10_code (5 : Nat) (Option.none : Option Jvm.ClassFile.FieldType)) ∈ G := tb_3 (List.mem_of_getElem? (i := 102) rfl) rfl
theorem k_689 : (Jvm.Cond.methodLink "TurnerHeap$Reader" (70 : Nat) ({ cls := "TurnerHeap$Reader", name := "expect", desc := "(I)V" } : Jvm.MethodName)) ∈ G := tb_3 (List.mem_of_getElem? (i := 103) rfl) rfl
theorem k_691 : (Jvm.Cond.instanceMethod ({ cls := "TurnerHeap$Reader", name := "expect", desc := "(I)V" } : Jvm.MethodName)) ∈ G := tb_3 (List.mem_of_getElem? (i := 105) rfl) rfl
theorem k_692 : (Jvm.Cond.code ({ cls := "TurnerHeap$Reader", name := "expect", desc := "(I)V" } : Jvm.MethodName) prog_7_method_30_code (2 : Nat) (Option.none : Option Jvm.ClassFile.FieldType)) ∈ G := tb_3 (List.mem_of_getElem? (i := 106) rfl) rfl
theorem k_693 : (Jvm.Cond.classLink "TurnerHeap$Reader" (105 : Nat) "java/lang/IllegalArgumentException") ∈ G := tb_3 (List.mem_of_getElem? (i := 107) rfl) rfl
theorem k_695 : (Jvm.Cond.methodLink "TurnerHeap$Reader" (109 : Nat) ({ cls := "java/lang/IllegalArgumentException", name := "<init>", desc := "(Ljava/lang/String;)V" } : Jvm.MethodName)) ∈ G := tb_3 (List.mem_of_getElem? (i := 109) rfl) rfl
theorem k_696 : (Jvm.Cond.methodLink "TurnerHeap$Reader" (88 : Nat) ({ cls := "TurnerHeap$Reader", name := "readParameter", desc := "()V" } : Jvm.MethodName)) ∈ G := tb_3 (List.mem_of_getElem? (i := 110) rfl) rfl
theorem k_698 : (Jvm.Cond.instanceMethod ({ cls := "TurnerHeap$Reader", name := "readParameter", desc := "()V" } : Jvm.MethodName)) ∈ G := tb_3 (List.mem_of_getElem? (i := 112) rfl) rfl
theorem k_699 : (Jvm.Cond.code ({ cls := "TurnerHeap$Reader", name := "readParameter", desc := "()V" } : Jvm.MethodName) prog_7_method_11_code (2 : Nat) (Option.none : Option Jvm.ClassFile.FieldType)) ∈ G := tb_3 (List.mem_of_getElem? (i := 113) rfl) rfl
theorem k_700 : (Jvm.Cond.methodLink "TurnerHeap$Reader" (102 : Nat) ({ cls := "TurnerHeap$Reader", name := "isInScope", desc := "(I)Z" } : Jvm.MethodName)) ∈ G := tb_3 (List.mem_of_getElem? (i := 114) rfl) rfl
theorem k_702 : (Jvm.Cond.instanceMethod ({ cls := "TurnerHeap$Reader", name := "isInScope", desc := "(I)Z" } : Jvm.MethodName)) ∈ G := tb_3 (List.mem_of_getElem? (i := 116) rfl) rfl
theorem k_703 : (Jvm.Cond.code ({ cls := "TurnerHeap$Reader", name := "isInScope", desc := "(I)Z" } : Jvm.MethodName) prog_7_method_26_code (3 : Nat) (Option.some Jvm.ClassFile.FieldType.boolean)) ∈ G := tb_3 (List.mem_of_getElem? (i := 117) rfl) rfl
theorem k_705 : (Jvm.Cond.classLink "TurnerHeap$Reader" (91 : Nat) "java/lang/IllegalStateException") ∈ G := tb_3 (List.mem_of_getElem? (i := 119) rfl) rfl
theorem k_707 : (Jvm.Cond.methodLink "TurnerHeap$Reader" (95 : Nat) ({ cls := "java/lang/IllegalStateException", name := "<init>", desc := "(Ljava/lang/String;)V" } : Jvm.MethodName)) ∈ G := tb_3 (List.mem_of_getElem? (i := 121) rfl) rfl
theorem k_708 : (Jvm.Cond.methodLink "TurnerHeap$Reader" (64 : Nat) ({ cls := "TurnerHeap$Reader", name := "expression", desc := "(I)J" } : Jvm.MethodName)) ∈ G := tb_3 (List.mem_of_getElem? (i := 122) rfl) rfl
theorem k_710 : (Jvm.Cond.instanceMethod ({ cls := "TurnerHeap$Reader", name := "expression", desc := "(I)J" } : Jvm.MethodName)) ∈ G := tb_3 (List.mem_of_getElem? (i := 124) rfl) rfl
theorem k_711 : (Jvm.Cond.code ({ cls := "TurnerHeap$Reader", name := "expression", desc := "(I)J" } : Jvm.MethodName) prog_7_method_12_code (2 : Nat) (Option.some Jvm.ClassFile.FieldType.long)) ∈ G := tb_3 (List.mem_of_getElem? (i := 125) rfl) rfl
theorem k_713 : (Jvm.Cond.methodLink "TurnerHeap$Reader" (112 : Nat) ({ cls := "TurnerHeap$Reader", name := "choice", desc := "(I)J" } : Jvm.MethodName)) ∈ G := tb_3 (List.mem_of_getElem? (i := 127) rfl) rfl
theorem k_715 : (Jvm.Cond.instanceMethod ({ cls := "TurnerHeap$Reader", name := "choice", desc := "(I)J" } : Jvm.MethodName)) ∈ G := tb_3 (List.mem_of_getElem? (i := 129) rfl) rfl
theorem k_716 : (Jvm.Cond.code ({ cls := "TurnerHeap$Reader", name := "choice", desc := "(I)J" } : Jvm.MethodName) prog_7_method_13_code (8 : Nat) (Option.some Jvm.ClassFile.FieldType.long)) ∈ G := tb_3 (List.mem_of_getElem? (i := 130) rfl) rfl
theorem k_717 : (Jvm.Cond.constant "TurnerHeap$Reader" (121 : Nat) (663726 : Int32)) ∈ G := tb_3 (List.mem_of_getElem? (i := 131) rfl) rfl
theorem k_718 : (Jvm.Cond.methodLink "TurnerHeap$Reader" (122 : Nat) ({ cls := "TurnerHeap$Reader", name := "expectWord", desc := "(I)V" } : Jvm.MethodName)) ∈ G := tb_3 (List.mem_of_getElem? (i := 132) rfl) rfl
theorem k_720 : (Jvm.Cond.instanceMethod ({ cls := "TurnerHeap$Reader", name := "expectWord", desc := "(I)V" } : Jvm.MethodName)) ∈ G := tb_3 (List.mem_of_getElem? (i := 134) rfl) rfl
theorem k_721 : (Jvm.Cond.code ({ cls := "TurnerHeap$Reader", name := "expectWord", desc := "(I)V" } : Jvm.MethodName) prog_7_method_29_code (2 : Nat) (Option.none : Option Jvm.ClassFile.FieldType)) ∈ G := tb_3 (List.mem_of_getElem? (i := 135) rfl) rfl
theorem k_723 : (Jvm.Cond.constant "TurnerHeap$Reader" (125 : Nat) (176741 : Int32)) ∈ G := tb_3 (List.mem_of_getElem? (i := 137) rfl) rfl
theorem k_724 : (Jvm.Cond.methodLink "TurnerHeap$Reader" (128 : Nat) ({ cls := "TurnerHeap$Terms", name := "applyToTwo", desc := "(IJJ)J" } : Jvm.MethodName)) ∈ G := tb_3 (List.mem_of_getElem? (i := 138) rfl) rfl
theorem k_725 : (Jvm.Cond.instanceMethod ({ cls := "TurnerHeap$Terms", name := "applyToTwo", desc := "(IJJ)J" } : Jvm.MethodName)) ∈ G := tb_3 (List.mem_of_getElem? (i := 139) rfl) rfl
theorem k_726 : (Jvm.Cond.selects "TurnerHeap$Terms" ({ cls := "TurnerHeap$Terms", name := "applyToTwo", desc := "(IJJ)J" } : Jvm.MethodName) ({ cls := "TurnerHeap$Terms", name := "applyToTwo", desc := "(IJJ)J" } : Jvm.MethodName)) ∈ G := tb_3 (List.mem_of_getElem? (i := 140) rfl) rfl
theorem k_727 : (Jvm.Cond.code ({ cls := "TurnerHeap$Terms", name := "applyToTwo", desc := "(IJJ)J" } : Jvm.MethodName) prog_8_method_8_code (6 : Nat) (Option.some Jvm.ClassFile.FieldType.long)) ∈ G := tb_3 (List.mem_of_getElem? (i := 141) rfl) rfl
theorem k_728 : (Jvm.Cond.methodLink "TurnerHeap$Terms" (40 : Nat) ({ cls := "TurnerHeap$Word", name := "constant", desc := "(I)J" } : Jvm.MethodName)) ∈ G := tb_3 (List.mem_of_getElem? (i := 142) rfl) rfl
theorem k_729 : (Jvm.Cond.static ({ cls := "TurnerHeap$Word", name := "constant", desc := "(I)J" } : Jvm.MethodName)) ∈ G := tb_3 (List.mem_of_getElem? (i := 143) rfl) rfl
theorem k_730 : (Jvm.Cond.code ({ cls := "TurnerHeap$Word", name := "constant", desc := "(I)J" } : Jvm.MethodName) prog_9_method_3_code (1 : Nat) (Option.some Jvm.ClassFile.FieldType.long)) ∈ G := tb_3 (List.mem_of_getElem? (i := 144) rfl) rfl
theorem k_731 : (Jvm.Cond.methodLink "TurnerHeap$Terms" (48 : Nat) ({ cls := "TurnerHeap$Terms", name := "apply", desc := "(JJ)J" } : Jvm.MethodName)) ∈ G := tb_3 (List.mem_of_getElem? (i := 145) rfl) rfl
theorem k_732 : (Jvm.Cond.instanceMethod ({ cls := "TurnerHeap$Terms", name := "apply", desc := "(JJ)J" } : Jvm.MethodName)) ∈ G := tb_3 (List.mem_of_getElem? (i := 146) rfl) rfl
theorem k_733 : (Jvm.Cond.selects "TurnerHeap$Terms" ({ cls := "TurnerHeap$Terms", name := "apply", desc := "(JJ)J" } : Jvm.MethodName) ({ cls := "TurnerHeap$Terms", name := "apply", desc := "(JJ)J" } : Jvm.MethodName)) ∈ G := tb_3 (List.mem_of_getElem? (i := 147) rfl) rfl
theorem k_734 : (Jvm.Cond.code ({ cls := "TurnerHeap$Terms", name := "apply", desc := "(JJ)J" } : Jvm.MethodName) prog_8_method_7_code (6 : Nat) (Option.some Jvm.ClassFile.FieldType.long)) ∈ G := tb_3 (List.mem_of_getElem? (i := 148) rfl) rfl
theorem k_735 : (Jvm.Cond.methodLink "TurnerHeap$Terms" (44 : Nat) ({ cls := "TurnerHeap$Word", name := "of", desc := "(II)J" } : Jvm.MethodName)) ∈ G := tb_3 (List.mem_of_getElem? (i := 149) rfl) rfl
theorem k_736 : (Jvm.Cond.static ({ cls := "TurnerHeap$Word", name := "of", desc := "(II)J" } : Jvm.MethodName)) ∈ G := tb_3 (List.mem_of_getElem? (i := 150) rfl) rfl
theorem k_737 : (Jvm.Cond.code ({ cls := "TurnerHeap$Word", name := "of", desc := "(II)J" } : Jvm.MethodName) prog_9_method_2_code (2 : Nat) (Option.some Jvm.ClassFile.FieldType.long)) ∈ G := tb_3 (List.mem_of_getElem? (i := 151) rfl) rfl
theorem k_738 : (Jvm.Cond.constantLong "TurnerHeap$Word" (7 : Nat) (4294967295 : Int64)) ∈ G := tb_3 (List.mem_of_getElem? (i := 152) rfl) rfl
theorem k_739 : (Jvm.Cond.methodLink "TurnerHeap$Reader" (132 : Nat) ({ cls := "TurnerHeap$Terms", name := "apply", desc := "(JJ)J" } : Jvm.MethodName)) ∈ G := tb_3 (List.mem_of_getElem? (i := 153) rfl) rfl
theorem k_740 : (Jvm.Cond.methodLink "TurnerHeap$Reader" (115 : Nat) ({ cls := "TurnerHeap$Reader", name := "function", desc := "(I)J" } : Jvm.MethodName)) ∈ G := tb_3 (List.mem_of_getElem? (i := 154) rfl) rfl
theorem k_742 : (Jvm.Cond.instanceMethod ({ cls := "TurnerHeap$Reader", name := "function", desc := "(I)J" } : Jvm.MethodName)) ∈ G := tb_3 (List.mem_of_getElem? (i := 156) rfl) rfl
theorem k_743 : (Jvm.Cond.code ({ cls := "TurnerHeap$Reader", name := "function", desc := "(I)J" } : Jvm.MethodName) prog_7_method_14_code (5 : Nat) (Option.some Jvm.ClassFile.FieldType.long)) ∈ G := tb_3 (List.mem_of_getElem? (i := 157) rfl) rfl
theorem k_744 : (Jvm.Cond.methodLink "TurnerHeap$Reader" (98 : Nat) ({ cls := "TurnerHeap$Terms", name := "takeOut", desc := "(IJ)J" } : Jvm.MethodName)) ∈ G := tb_3 (List.mem_of_getElem? (i := 158) rfl) rfl
theorem k_745 : (Jvm.Cond.instanceMethod ({ cls := "TurnerHeap$Terms", name := "takeOut", desc := "(IJ)J" } : Jvm.MethodName)) ∈ G := tb_3 (List.mem_of_getElem? (i := 159) rfl) rfl
theorem k_746 : (Jvm.Cond.selects "TurnerHeap$Terms" ({ cls := "TurnerHeap$Terms", name := "takeOut", desc := "(IJ)J" } : Jvm.MethodName) ({ cls := "TurnerHeap$Terms", name := "takeOut", desc := "(IJ)J" } : Jvm.MethodName)) ∈ G := tb_3 (List.mem_of_getElem? (i := 160) rfl) rfl
theorem k_747 : (Jvm.Cond.code ({ cls := "TurnerHeap$Terms", name := "takeOut", desc := "(IJ)J" } : Jvm.MethodName) prog_8_method_11_code (9 : Nat) (Option.some Jvm.ClassFile.FieldType.long)) ∈ G := tb_3 (List.mem_of_getElem? (i := 161) rfl) rfl
theorem k_748 : (Jvm.Cond.methodLink "TurnerHeap$Terms" (64 : Nat) ({ cls := "TurnerHeap$Terms", name := "list", desc := "(J)I" } : Jvm.MethodName)) ∈ G := tb_3 (List.mem_of_getElem? (i := 162) rfl) rfl
theorem k_749 : (Jvm.Cond.instanceMethod ({ cls := "TurnerHeap$Terms", name := "list", desc := "(J)I" } : Jvm.MethodName)) ∈ G := tb_3 (List.mem_of_getElem? (i := 163) rfl) rfl
theorem k_750 : (Jvm.Cond.selects "TurnerHeap$Terms" ({ cls := "TurnerHeap$Terms", name := "list", desc := "(J)I" } : Jvm.MethodName) ({ cls := "TurnerHeap$Terms", name := "list", desc := "(J)I" } : Jvm.MethodName)) ∈ G := tb_3 (List.mem_of_getElem? (i := 164) rfl) rfl
theorem k_751 : (Jvm.Cond.code ({ cls := "TurnerHeap$Terms", name := "list", desc := "(J)I" } : Jvm.MethodName) prog_8_method_9_code (5 : Nat) (Option.some Jvm.ClassFile.FieldType.int)) ∈ G := tb_3 (List.mem_of_getElem? (i := 165) rfl) rfl
theorem k_752 : (Jvm.Cond.methodLink "TurnerHeap$Terms" (52 : Nat) ({ cls := "TurnerHeap$Word", name := "isCell", desc := "(J)Z" } : Jvm.MethodName)) ∈ G := tb_3 (List.mem_of_getElem? (i := 166) rfl) rfl
theorem k_753 : (Jvm.Cond.static ({ cls := "TurnerHeap$Word", name := "isCell", desc := "(J)Z" } : Jvm.MethodName)) ∈ G := tb_3 (List.mem_of_getElem? (i := 167) rfl) rfl
theorem k_754 : (Jvm.Cond.code ({ cls := "TurnerHeap$Word", name := "isCell", desc := "(J)Z" } : Jvm.MethodName) prog_9_method_6_code (2 : Nat) (Option.some Jvm.ClassFile.FieldType.boolean)) ∈ G := tb_3 (List.mem_of_getElem? (i := 168) rfl) rfl
theorem k_755 : (Jvm.Cond.methodLink "TurnerHeap$Terms" (56 : Nat) ({ cls := "TurnerHeap$Word", name := "number", desc := "(J)I" } : Jvm.MethodName)) ∈ G := tb_3 (List.mem_of_getElem? (i := 169) rfl) rfl
theorem k_756 : (Jvm.Cond.static ({ cls := "TurnerHeap$Word", name := "number", desc := "(J)I" } : Jvm.MethodName)) ∈ G := tb_3 (List.mem_of_getElem? (i := 170) rfl) rfl
theorem k_757 : (Jvm.Cond.code ({ cls := "TurnerHeap$Word", name := "number", desc := "(J)I" } : Jvm.MethodName) prog_9_method_5_code (2 : Nat) (Option.some Jvm.ClassFile.FieldType.int)) ∈ G := tb_3 (List.mem_of_getElem? (i := 171) rfl) rfl
theorem k_758 : (Jvm.Cond.methodLink "TurnerHeap$Terms" (60 : Nat) ({ cls := "TurnerHeap$Terms", name := "listSide", desc := "(JI)I" } : Jvm.MethodName)) ∈ G := tb_3 (List.mem_of_getElem? (i := 172) rfl) rfl
theorem k_760 : (Jvm.Cond.instanceMethod ({ cls := "TurnerHeap$Terms", name := "listSide", desc := "(JI)I" } : Jvm.MethodName)) ∈ G := tb_3 (List.mem_of_getElem? (i := 174) rfl) rfl
theorem k_761 : (Jvm.Cond.code ({ cls := "TurnerHeap$Terms", name := "listSide", desc := "(JI)I" } : Jvm.MethodName) prog_8_method_10_code (4 : Nat) (Option.some Jvm.ClassFile.FieldType.int)) ∈ G := tb_3 (List.mem_of_getElem? (i := 175) rfl) rfl
theorem k_762 : (Jvm.Cond.methodLink "TurnerHeap$Terms" (67 : Nat) ({ cls := "TurnerHeap$Terms", name := "takeOutOf", desc := "(IJ)V" } : Jvm.MethodName)) ∈ G := tb_3 (List.mem_of_getElem? (i := 176) rfl) rfl
theorem k_764 : (Jvm.Cond.instanceMethod ({ cls := "TurnerHeap$Terms", name := "takeOutOf", desc := "(IJ)V" } : Jvm.MethodName)) ∈ G := tb_3 (List.mem_of_getElem? (i := 178) rfl) rfl
theorem k_765 : (Jvm.Cond.code ({ cls := "TurnerHeap$Terms", name := "takeOutOf", desc := "(IJ)V" } : Jvm.MethodName) prog_8_method_12_code (16 : Nat) (Option.none : Option Jvm.ClassFile.FieldType)) ∈ G := tb_3 (List.mem_of_getElem? (i := 179) rfl) rfl
theorem k_766 : (Jvm.Cond.methodLink "TurnerHeap$Terms" (71 : Nat) ({ cls := "TurnerHeap$Terms", name := "hasName", desc := "(JJ)Z" } : Jvm.MethodName)) ∈ G := tb_3 (List.mem_of_getElem? (i := 180) rfl) rfl
theorem k_768 : (Jvm.Cond.instanceMethod ({ cls := "TurnerHeap$Terms", name := "hasName", desc := "(JJ)Z" } : Jvm.MethodName)) ∈ G := tb_3 (List.mem_of_getElem? (i := 182) rfl) rfl
theorem k_769 : (Jvm.Cond.code ({ cls := "TurnerHeap$Terms", name := "hasName", desc := "(JJ)Z" } : Jvm.MethodName) prog_8_method_17_code (5 : Nat) (Option.some Jvm.ClassFile.FieldType.boolean)) ∈ G := tb_3 (List.mem_of_getElem? (i := 183) rfl) rfl
theorem k_770 : (Jvm.Cond.methodLink "TurnerHeap$Terms" (75 : Nat) ({ cls := "TurnerHeap$Terms", name := "withoutName", desc := "(J)J" } : Jvm.MethodName)) ∈ G := tb_3 (List.mem_of_getElem? (i := 184) rfl) rfl
theorem k_772 : (Jvm.Cond.instanceMethod ({ cls := "TurnerHeap$Terms", name := "withoutName", desc := "(J)J" } : Jvm.MethodName)) ∈ G := tb_3 (List.mem_of_getElem? (i := 186) rfl) rfl
theorem k_773 : (Jvm.Cond.code ({ cls := "TurnerHeap$Terms", name := "withoutName", desc := "(J)J" } : Jvm.MethodName) prog_8_method_18_code (3 : Nat) (Option.some Jvm.ClassFile.FieldType.long)) ∈ G := tb_3 (List.mem_of_getElem? (i := 187) rfl) rfl
theorem k_774 : (Jvm.Cond.methodLink "TurnerHeap$Terms" (79 : Nat) ({ cls := "TurnerHeap$Terms", name := "isK", desc := "(J)Z" } : Jvm.MethodName)) ∈ G := tb_3 (List.mem_of_getElem? (i := 188) rfl) rfl
theorem k_776 : (Jvm.Cond.instanceMethod ({ cls := "TurnerHeap$Terms", name := "isK", desc := "(J)Z" } : Jvm.MethodName)) ∈ G := tb_3 (List.mem_of_getElem? (i := 190) rfl) rfl
theorem k_777 : (Jvm.Cond.code ({ cls := "TurnerHeap$Terms", name := "isK", desc := "(J)Z" } : Jvm.MethodName) prog_8_method_16_code (3 : Nat) (Option.some Jvm.ClassFile.FieldType.boolean)) ∈ G := tb_3 (List.mem_of_getElem? (i := 191) rfl) rfl
theorem k_778 : (Jvm.Cond.methodLink "TurnerHeap$Terms" (82 : Nat) ({ cls := "TurnerHeap$Terms", name := "unwrap", desc := "(J)J" } : Jvm.MethodName)) ∈ G := tb_3 (List.mem_of_getElem? (i := 192) rfl) rfl
theorem k_780 : (Jvm.Cond.instanceMethod ({ cls := "TurnerHeap$Terms", name := "unwrap", desc := "(J)J" } : Jvm.MethodName)) ∈ G := tb_3 (List.mem_of_getElem? (i := 194) rfl) rfl
theorem k_781 : (Jvm.Cond.code ({ cls := "TurnerHeap$Terms", name := "unwrap", desc := "(J)J" } : Jvm.MethodName) prog_8_method_19_code (4 : Nat) (Option.some Jvm.ClassFile.FieldType.long)) ∈ G := tb_3 (List.mem_of_getElem? (i := 195) rfl) rfl
theorem k_782 : (Jvm.Cond.methodLink "TurnerHeap$Terms" (96 : Nat) ({ cls := "TurnerHeap$Terms", name := "drop", desc := "(I)V" } : Jvm.MethodName)) ∈ G := tb_3 (List.mem_of_getElem? (i := 196) rfl) rfl
theorem k_784 : (Jvm.Cond.instanceMethod ({ cls := "TurnerHeap$Terms", name := "drop", desc := "(I)V" } : Jvm.MethodName)) ∈ G := tb_3 (List.mem_of_getElem? (i := 198) rfl) rfl
theorem k_785 : (Jvm.Cond.code ({ cls := "TurnerHeap$Terms", name := "drop", desc := "(I)V" } : Jvm.MethodName) prog_8_method_21_code (2 : Nat) (Option.none : Option Jvm.ClassFile.FieldType)) ∈ G := tb_3 (List.mem_of_getElem? (i := 199) rfl) rfl
theorem k_786 : (Jvm.Cond.methodLink "TurnerHeap$Terms" (85 : Nat) ({ cls := "TurnerHeap$Terms", name := "joinConstant", desc := "(IJJZ)J" } : Jvm.MethodName)) ∈ G := tb_3 (List.mem_of_getElem? (i := 200) rfl) rfl
theorem k_788 : (Jvm.Cond.instanceMethod ({ cls := "TurnerHeap$Terms", name := "joinConstant", desc := "(IJJZ)J" } : Jvm.MethodName)) ∈ G := tb_3 (List.mem_of_getElem? (i := 202) rfl) rfl
theorem k_789 : (Jvm.Cond.code ({ cls := "TurnerHeap$Terms", name := "joinConstant", desc := "(IJJZ)J" } : Jvm.MethodName) prog_8_method_13_code (10 : Nat) (Option.some Jvm.ClassFile.FieldType.long)) ∈ G := tb_3 (List.mem_of_getElem? (i := 203) rfl) rfl
theorem k_790 : (Jvm.Cond.methodLink "TurnerHeap$Terms" (92 : Nat) ({ cls := "TurnerHeap$Terms", name := "put", desc := "(IJJ)J" } : Jvm.MethodName)) ∈ G := tb_3 (List.mem_of_getElem? (i := 204) rfl) rfl
theorem k_792 : (Jvm.Cond.instanceMethod ({ cls := "TurnerHeap$Terms", name := "put", desc := "(IJJ)J" } : Jvm.MethodName)) ∈ G := tb_3 (List.mem_of_getElem? (i := 206) rfl) rfl
theorem k_793 : (Jvm.Cond.code ({ cls := "TurnerHeap$Terms", name := "put", desc := "(IJJ)J" } : Jvm.MethodName) prog_8_method_20_code (6 : Nat) (Option.some Jvm.ClassFile.FieldType.long)) ∈ G := tb_3 (List.mem_of_getElem? (i := 207) rfl) rfl
theorem k_794 : (Jvm.Cond.methodLink "TurnerHeap$Terms" (89 : Nat) ({ cls := "TurnerHeap$Terms", name := "joinVarying", desc := "(IJJZ)J" } : Jvm.MethodName)) ∈ G := tb_3 (List.mem_of_getElem? (i := 208) rfl) rfl
theorem k_796 : (Jvm.Cond.instanceMethod ({ cls := "TurnerHeap$Terms", name := "joinVarying", desc := "(IJJZ)J" } : Jvm.MethodName)) ∈ G := tb_3 (List.mem_of_getElem? (i := 210) rfl) rfl
theorem k_797 : (Jvm.Cond.code ({ cls := "TurnerHeap$Terms", name := "joinVarying", desc := "(IJJZ)J" } : Jvm.MethodName) prog_8_method_14_code (7 : Nat) (Option.some Jvm.ClassFile.FieldType.long)) ∈ G := tb_3 (List.mem_of_getElem? (i := 211) rfl) rfl
theorem k_798 : (Jvm.Cond.methodLink "TurnerHeap$Terms" (100 : Nat) ({ cls := "TurnerHeap$Terms", name := "isB", desc := "(J)Z" } : Jvm.MethodName)) ∈ G := tb_3 (List.mem_of_getElem? (i := 212) rfl) rfl
theorem k_800 : (Jvm.Cond.instanceMethod ({ cls := "TurnerHeap$Terms", name := "isB", desc := "(J)Z" } : Jvm.MethodName)) ∈ G := tb_3 (List.mem_of_getElem? (i := 214) rfl) rfl
theorem k_801 : (Jvm.Cond.code ({ cls := "TurnerHeap$Terms", name := "isB", desc := "(J)Z" } : Jvm.MethodName) prog_8_method_15_code (5 : Nat) (Option.some Jvm.ClassFile.FieldType.boolean)) ∈ G := tb_3 (List.mem_of_getElem? (i := 215) rfl) rfl
theorem k_802 : (Jvm.Cond.methodLink "TurnerHeap$Reader" (118 : Nat) ({ cls := "TurnerHeap$Reader", name := "chain", desc := "(I)J" } : Jvm.MethodName)) ∈ G := tb_3 (List.mem_of_getElem? (i := 216) rfl) rfl
theorem k_804 : (Jvm.Cond.instanceMethod ({ cls := "TurnerHeap$Reader", name := "chain", desc := "(I)J" } : Jvm.MethodName)) ∈ G := tb_3 (List.mem_of_getElem? (i := 218) rfl) rfl
theorem k_805 : (Jvm.Cond.code ({ cls := "TurnerHeap$Reader", name := "chain", desc := "(I)J" } : Jvm.MethodName) prog_7_method_15_code (6 : Nat) (Option.some Jvm.ClassFile.FieldType.long)) ∈ G := tb_3 (List.mem_of_getElem? (i := 219) rfl) rfl
theorem k_806 : (Jvm.Cond.methodLink "TurnerHeap$Reader" (136 : Nat) ({ cls := "TurnerHeap$Reader", name := "comparison", desc := "(I)J" } : Jvm.MethodName)) ∈ G := tb_3 (List.mem_of_getElem? (i := 220) rfl) rfl
theorem k_808 : (Jvm.Cond.instanceMethod ({ cls := "TurnerHeap$Reader", name := "comparison", desc := "(I)J" } : Jvm.MethodName)) ∈ G := tb_3 (List.mem_of_getElem? (i := 222) rfl) rfl
theorem k_809 : (Jvm.Cond.code ({ cls := "TurnerHeap$Reader", name := "comparison", desc := "(I)J" } : Jvm.MethodName) prog_7_method_16_code (7 : Nat) (Option.some Jvm.ClassFile.FieldType.long)) ∈ G := tb_3 (List.mem_of_getElem? (i := 223) rfl) rfl
theorem k_810 : (Jvm.Cond.methodLink "TurnerHeap$Reader" (146 : Nat) ({ cls := "TurnerHeap$Reader", name := "sum", desc := "(I)J" } : Jvm.MethodName)) ∈ G := tb_3 (List.mem_of_getElem? (i := 224) rfl) rfl
theorem k_812 : (Jvm.Cond.instanceMethod ({ cls := "TurnerHeap$Reader", name := "sum", desc := "(I)J" } : Jvm.MethodName)) ∈ G := tb_3 (List.mem_of_getElem? (i := 226) rfl) rfl
theorem k_813 : (Jvm.Cond.code ({ cls := "TurnerHeap$Reader", name := "sum", desc := "(I)J" } : Jvm.MethodName) prog_7_method_17_code (6 : Nat) (Option.some Jvm.ClassFile.FieldType.long)) ∈ G := tb_3 (List.mem_of_getElem? (i := 227) rfl) rfl
theorem k_814 : (Jvm.Cond.methodLink "TurnerHeap$Reader" (149 : Nat) ({ cls := "TurnerHeap$Reader", name := "product", desc := "(I)J" } : Jvm.MethodName)) ∈ G := tb_3 (List.mem_of_getElem? (i := 228) rfl) rfl
theorem k_816 : (Jvm.Cond.instanceMethod ({ cls := "TurnerHeap$Reader", name := "product", desc := "(I)J" } : Jvm.MethodName)) ∈ G := tb_3 (List.mem_of_getElem? (i := 230) rfl) rfl
theorem k_817 : (Jvm.Cond.code ({ cls := "TurnerHeap$Reader", name := "product", desc := "(I)J" } : Jvm.MethodName) prog_7_method_18_code (5 : Nat) (Option.some Jvm.ClassFile.FieldType.long)) ∈ G := tb_3 (List.mem_of_getElem? (i := 231) rfl) rfl
theorem k_818 : (Jvm.Cond.methodLink "TurnerHeap$Reader" (152 : Nat) ({ cls := "TurnerHeap$Reader", name := "application", desc := "(I)J" } : Jvm.MethodName)) ∈ G := tb_3 (List.mem_of_getElem? (i := 232) rfl) rfl
theorem k_820 : (Jvm.Cond.instanceMethod ({ cls := "TurnerHeap$Reader", name := "application", desc := "(I)J" } : Jvm.MethodName)) ∈ G := tb_3 (List.mem_of_getElem? (i := 234) rfl) rfl
theorem k_821 : (Jvm.Cond.code ({ cls := "TurnerHeap$Reader", name := "application", desc := "(I)J" } : Jvm.MethodName) prog_7_method_19_code (5 : Nat) (Option.some Jvm.ClassFile.FieldType.long)) ∈ G := tb_3 (List.mem_of_getElem? (i := 235) rfl) rfl
theorem k_822 : (Jvm.Cond.methodLink "TurnerHeap$Reader" (155 : Nat) ({ cls := "TurnerHeap$Reader", name := "atom", desc := "(I)J" } : Jvm.MethodName)) ∈ G := tb_3 (List.mem_of_getElem? (i := 236) rfl) rfl
theorem k_824 : (Jvm.Cond.instanceMethod ({ cls := "TurnerHeap$Reader", name := "atom", desc := "(I)J" } : Jvm.MethodName)) ∈ G := tb_3 (List.mem_of_getElem? (i := 238) rfl) rfl
theorem k_825 : (Jvm.Cond.code ({ cls := "TurnerHeap$Reader", name := "atom", desc := "(I)J" } : Jvm.MethodName) prog_7_method_21_code (6 : Nat) (Option.some Jvm.ClassFile.FieldType.long)) ∈ G := tb_3 (List.mem_of_getElem? (i := 239) rfl) rfl
theorem k_826 : (Jvm.Cond.methodLink "TurnerHeap$Reader" (158 : Nat) ({ cls := "TurnerHeap$Reader", name := "beginsAtom", desc := "()Z" } : Jvm.MethodName)) ∈ G := tb_4 (List.mem_of_getElem? (i := 0) rfl) rfl
theorem k_828 : (Jvm.Cond.instanceMethod ({ cls := "TurnerHeap$Reader", name := "beginsAtom", desc := "()Z" } : Jvm.MethodName)) ∈ G := tb_4 (List.mem_of_getElem? (i := 2) rfl) rfl
theorem k_829 : (Jvm.Cond.code ({ cls := "TurnerHeap$Reader", name := "beginsAtom", desc := "()Z" } : Jvm.MethodName) prog_7_method_20_code (2 : Nat) (Option.some Jvm.ClassFile.FieldType.boolean)) ∈ G := tb_4 (List.mem_of_getElem? (i := 3) rfl) rfl
theorem k_830 : (Jvm.Cond.methodLink "TurnerHeap$Reader" (162 : Nat) ({ cls := "TurnerHeap$Reader", name := "isAnyWord", desc := "(I)Z" } : Jvm.MethodName)) ∈ G := tb_4 (List.mem_of_getElem? (i := 4) rfl) rfl
theorem k_831 : (Jvm.Cond.static ({ cls := "TurnerHeap$Reader", name := "isAnyWord", desc := "(I)Z" } : Jvm.MethodName)) ∈ G := tb_4 (List.mem_of_getElem? (i := 5) rfl) rfl
theorem k_832 : (Jvm.Cond.code ({ cls := "TurnerHeap$Reader", name := "isAnyWord", desc := "(I)Z" } : Jvm.MethodName) prog_7_method_28_code (1 : Nat) (Option.some Jvm.ClassFile.FieldType.boolean)) ∈ G := tb_4 (List.mem_of_getElem? (i := 6) rfl) rfl
theorem k_834 : (Jvm.Cond.methodLink "TurnerHeap$Reader" (167 : Nat) ({ cls := "TurnerHeap$Word", name := "of", desc := "(II)J" } : Jvm.MethodName)) ∈ G := tb_4 (List.mem_of_getElem? (i := 8) rfl) rfl
theorem k_835 : (Jvm.Cond.methodLink "TurnerHeap$Reader" (171 : Nat) ({ cls := "TurnerHeap$Reader", name := "meaning", desc := "(I)J" } : Jvm.MethodName)) ∈ G := tb_4 (List.mem_of_getElem? (i := 9) rfl) rfl
theorem k_837 : (Jvm.Cond.instanceMethod ({ cls := "TurnerHeap$Reader", name := "meaning", desc := "(I)J" } : Jvm.MethodName)) ∈ G := tb_4 (List.mem_of_getElem? (i := 11) rfl) rfl
theorem k_838 : (Jvm.Cond.code ({ cls := "TurnerHeap$Reader", name := "meaning", desc := "(I)J" } : Jvm.MethodName) prog_7_method_25_code (3 : Nat) (Option.some Jvm.ClassFile.FieldType.long)) ∈ G := tb_4 (List.mem_of_getElem? (i := 12) rfl) rfl
theorem k_839 : (Jvm.Cond.methodLink "TurnerHeap$Reader" (177 : Nat) ({ cls := "TurnerHeap$Word", name := "constant", desc := "(I)J" } : Jvm.MethodName)) ∈ G := tb_4 (List.mem_of_getElem? (i := 13) rfl) rfl
theorem k_841 : (Jvm.Cond.methodLink "TurnerHeap$Reader" (174 : Nat) ({ cls := "TurnerHeap$Reader", name := "row", desc := "(I)J" } : Jvm.MethodName)) ∈ G := tb_4 (List.mem_of_getElem? (i := 15) rfl) rfl
theorem k_843 : (Jvm.Cond.instanceMethod ({ cls := "TurnerHeap$Reader", name := "row", desc := "(I)J" } : Jvm.MethodName)) ∈ G := tb_4 (List.mem_of_getElem? (i := 17) rfl) rfl
theorem k_844 : (Jvm.Cond.code ({ cls := "TurnerHeap$Reader", name := "row", desc := "(I)J" } : Jvm.MethodName) prog_7_method_22_code (4 : Nat) (Option.some Jvm.ClassFile.FieldType.long)) ∈ G := tb_4 (List.mem_of_getElem? (i := 18) rfl) rfl
theorem k_845 : (Jvm.Cond.methodLink "TurnerHeap$Reader" (139 : Nat) ({ cls := "TurnerHeap$Reader", name := "await", desc := "(J)V" } : Jvm.MethodName)) ∈ G := tb_4 (List.mem_of_getElem? (i := 19) rfl) rfl
theorem k_847 : (Jvm.Cond.instanceMethod ({ cls := "TurnerHeap$Reader", name := "await", desc := "(J)V" } : Jvm.MethodName)) ∈ G := tb_4 (List.mem_of_getElem? (i := 21) rfl) rfl
theorem k_848 : (Jvm.Cond.code ({ cls := "TurnerHeap$Reader", name := "await", desc := "(J)V" } : Jvm.MethodName) prog_7_method_23_code (3 : Nat) (Option.none : Option Jvm.ClassFile.FieldType)) ∈ G := tb_4 (List.mem_of_getElem? (i := 22) rfl) rfl
theorem k_849 : (Jvm.Cond.methodLink "TurnerHeap$Reader" (143 : Nat) ({ cls := "TurnerHeap$Reader", name := "pairUp", desc := "(IJ)J" } : Jvm.MethodName)) ∈ G := tb_4 (List.mem_of_getElem? (i := 23) rfl) rfl
theorem k_851 : (Jvm.Cond.instanceMethod ({ cls := "TurnerHeap$Reader", name := "pairUp", desc := "(IJ)J" } : Jvm.MethodName)) ∈ G := tb_4 (List.mem_of_getElem? (i := 25) rfl) rfl
theorem k_852 : (Jvm.Cond.code ({ cls := "TurnerHeap$Reader", name := "pairUp", desc := "(IJ)J" } : Jvm.MethodName) prog_7_method_24_code (7 : Nat) (Option.some Jvm.ClassFile.FieldType.long)) ∈ G := tb_4 (List.mem_of_getElem? (i := 26) rfl) rfl
theorem k_853 : (Jvm.Cond.methodLink "TurnerHeap" (128 : Nat) ({ cls := "TurnerHeap$Reader", name := "readMain", desc := "()V" } : Jvm.MethodName)) ∈ G := tb_4 (List.mem_of_getElem? (i := 27) rfl) rfl
theorem k_854 : (Jvm.Cond.instanceMethod ({ cls := "TurnerHeap$Reader", name := "readMain", desc := "()V" } : Jvm.MethodName)) ∈ G := tb_4 (List.mem_of_getElem? (i := 28) rfl) rfl
theorem k_855 : (Jvm.Cond.selects "TurnerHeap$Reader" ({ cls := "TurnerHeap$Reader", name := "readMain", desc := "()V" } : Jvm.MethodName) ({ cls := "TurnerHeap$Reader", name := "readMain", desc := "()V" } : Jvm.MethodName)) ∈ G := tb_4 (List.mem_of_getElem? (i := 29) rfl) rfl
theorem k_856 : (Jvm.Cond.code ({ cls := "TurnerHeap$Reader", name := "readMain", desc := "()V" } : Jvm.MethodName) prog_7_method_8_code (1 : Nat) (Option.none : Option Jvm.ClassFile.FieldType)) ∈ G := tb_4 (List.mem_of_getElem? (i := 30) rfl) rfl
theorem k_857 : (Jvm.Cond.methodLink "TurnerHeap" (131 : Nat) ({ cls := "TurnerHeap$Reader", name := "cells", desc := "()I" } : Jvm.MethodName)) ∈ G := tb_4 (List.mem_of_getElem? (i := 31) rfl) rfl
theorem k_858 : (Jvm.Cond.instanceMethod ({ cls := "TurnerHeap$Reader", name := "cells", desc := "()I" } : Jvm.MethodName)) ∈ G := tb_4 (List.mem_of_getElem? (i := 32) rfl) rfl
theorem k_859 : (Jvm.Cond.selects "TurnerHeap$Reader" ({ cls := "TurnerHeap$Reader", name := "cells", desc := "()I" } : Jvm.MethodName) ({ cls := "TurnerHeap$Reader", name := "cells", desc := "()I" } : Jvm.MethodName)) ∈ G := tb_4 (List.mem_of_getElem? (i := 33) rfl) rfl
theorem k_860 : (Jvm.Cond.code ({ cls := "TurnerHeap$Reader", name := "cells", desc := "()I" } : Jvm.MethodName) prog_7_method_5_code (3 : Nat) (Option.some Jvm.ClassFile.FieldType.int)) ∈ G := tb_4 (List.mem_of_getElem? (i := 34) rfl) rfl
theorem k_861 : (Jvm.Cond.methodLink "TurnerHeap$Reader" (39 : Nat) ({ cls := "TurnerHeap$Terms", name := "list", desc := "(J)I" } : Jvm.MethodName)) ∈ G := tb_4 (List.mem_of_getElem? (i := 35) rfl) rfl
theorem k_862 : (Jvm.Cond.methodLink "TurnerHeap" (134 : Nat) ({ cls := "TurnerHeap$Terms", name := "isTooBig", desc := "()Z" } : Jvm.MethodName)) ∈ G := tb_4 (List.mem_of_getElem? (i := 36) rfl) rfl
theorem k_863 : (Jvm.Cond.instanceMethod ({ cls := "TurnerHeap$Terms", name := "isTooBig", desc := "()Z" } : Jvm.MethodName)) ∈ G := tb_4 (List.mem_of_getElem? (i := 37) rfl) rfl
theorem k_864 : (Jvm.Cond.selects "TurnerHeap$Terms" ({ cls := "TurnerHeap$Terms", name := "isTooBig", desc := "()Z" } : Jvm.MethodName) ({ cls := "TurnerHeap$Terms", name := "isTooBig", desc := "()Z" } : Jvm.MethodName)) ∈ G := tb_4 (List.mem_of_getElem? (i := 38) rfl) rfl
theorem k_865 : (Jvm.Cond.code ({ cls := "TurnerHeap$Terms", name := "isTooBig", desc := "()Z" } : Jvm.MethodName) prog_8_method_3_code (1 : Nat) (Option.some Jvm.ClassFile.FieldType.boolean)) ∈ G := tb_4 (List.mem_of_getElem? (i := 39) rfl) rfl
theorem k_866 : (Jvm.Cond.methodLink "TurnerHeap" (137 : Nat) ({ cls := "TurnerHeap$Heap", name := "room", desc := "()I" } : Jvm.MethodName)) ∈ G := tb_4 (List.mem_of_getElem? (i := 40) rfl) rfl
theorem k_867 : (Jvm.Cond.instanceMethod ({ cls := "TurnerHeap$Heap", name := "room", desc := "()I" } : Jvm.MethodName)) ∈ G := tb_4 (List.mem_of_getElem? (i := 41) rfl) rfl
theorem k_868 : (Jvm.Cond.selects "TurnerHeap$Heap" ({ cls := "TurnerHeap$Heap", name := "room", desc := "()I" } : Jvm.MethodName) ({ cls := "TurnerHeap$Heap", name := "room", desc := "()I" } : Jvm.MethodName)) ∈ G := tb_4 (List.mem_of_getElem? (i := 42) rfl) rfl
theorem k_869 : (Jvm.Cond.code ({ cls := "TurnerHeap$Heap", name := "room", desc := "()I" } : Jvm.MethodName) prog_3_method_2_code (1 : Nat) (Option.some Jvm.ClassFile.FieldType.int)) ∈ G := tb_4 (List.mem_of_getElem? (i := 43) rfl) rfl
theorem k_870 : (Jvm.Cond.classLink "TurnerHeap" (140 : Nat) "java/lang/UnsupportedOperationException") ∈ G := tb_4 (List.mem_of_getElem? (i := 44) rfl) rfl
theorem k_871 : (Jvm.Cond.instantiable "java/lang/UnsupportedOperationException" (6 : Nat)) ∈ G := tb_4 (List.mem_of_getElem? (i := 45) rfl) rfl
theorem k_873 : (Jvm.Cond.selects "java/lang/UnsupportedOperationException" ({ cls := "java/lang/Throwable", name := "fillInStackTrace", desc := "(I)Ljava/lang/Throwable;" } : Jvm.MethodName) ({ cls := "java/lang/Throwable", name := "fillInStackTrace", desc := "(I)Ljava/lang/Throwable;" } : Jvm.MethodName)) ∈ G := tb_4 (List.mem_of_getElem? (i := 47) rfl) rfl
theorem k_874 : (Jvm.Cond.lays "java/lang/UnsupportedOperationException" "java/lang/Throwable" "cause" "Ljava/lang/Throwable;") ∈ G := tb_4 (List.mem_of_getElem? (i := 48) rfl) rfl
theorem k_875 : (Jvm.Cond.lays "java/lang/UnsupportedOperationException" "java/lang/Throwable" "stackTrace" "[Ljava/lang/StackTraceElement;") ∈ G := tb_4 (List.mem_of_getElem? (i := 49) rfl) rfl
theorem k_876 : (Jvm.Cond.lays "java/lang/UnsupportedOperationException" "java/lang/Throwable" "suppressedExceptions" "Ljava/util/List;") ∈ G := tb_4 (List.mem_of_getElem? (i := 50) rfl) rfl
theorem k_877 : (Jvm.Cond.lays "java/lang/UnsupportedOperationException" "java/lang/Throwable" "detailMessage" "Ljava/lang/String;") ∈ G := tb_4 (List.mem_of_getElem? (i := 51) rfl) rfl
theorem k_878 : (Jvm.Cond.lays "java/lang/UnsupportedOperationException" "java/lang/Throwable" "backtrace" "Ljava/lang/Object;") ∈ G := tb_4 (List.mem_of_getElem? (i := 52) rfl) rfl
theorem k_880 : (Jvm.Cond.methodLink "TurnerHeap" (144 : Nat) ({ cls := "java/lang/UnsupportedOperationException", name := "<init>", desc := "(Ljava/lang/String;)V" } : Jvm.MethodName)) ∈ G := tb_4 (List.mem_of_getElem? (i := 54) rfl) rfl
theorem k_881 : (Jvm.Cond.instanceMethod ({ cls := "java/lang/UnsupportedOperationException", name := "<init>", desc := "(Ljava/lang/String;)V" } : Jvm.MethodName)) ∈ G := tb_4 (List.mem_of_getElem? (i := 55) rfl) rfl
theorem k_882 : (Jvm.Cond.code ({ cls := "java/lang/UnsupportedOperationException", name := "<init>", desc := "(Ljava/lang/String;)V" } : Jvm.MethodName) prog_23_method_2_code (2 : Nat) (Option.none : Option Jvm.ClassFile.FieldType)) ∈ G := tb_4 (List.mem_of_getElem? (i := 56) rfl) rfl
theorem k_883 : (Jvm.Cond.methodLink "java/lang/UnsupportedOperationException" (7 : Nat) ({ cls := "java/lang/RuntimeException", name := "<init>", desc := "(Ljava/lang/String;)V" } : Jvm.MethodName)) ∈ G := tb_4 (List.mem_of_getElem? (i := 57) rfl) rfl
theorem k_884 : (Jvm.Cond.lays "java/lang/UnsupportedOperationException" "java/lang/Throwable" "depth" "I") ∈ G := tb_4 (List.mem_of_getElem? (i := 58) rfl) rfl
theorem k_885 : (Jvm.Cond.superclass "java/lang/UnsupportedOperationException" "java/lang/RuntimeException") ∈ G := tb_4 (List.mem_of_getElem? (i := 59) rfl) rfl
theorem k_886 : (Jvm.Cond.methodLink "TurnerHeap" (145 : Nat) ({ cls := "TurnerHeap", name := "begin", desc := "()V" } : Jvm.MethodName)) ∈ G := tb_4 (List.mem_of_getElem? (i := 60) rfl) rfl
theorem k_888 : (Jvm.Cond.instanceMethod ({ cls := "TurnerHeap", name := "begin", desc := "()V" } : Jvm.MethodName)) ∈ G := tb_4 (List.mem_of_getElem? (i := 62) rfl) rfl
theorem k_889 : (Jvm.Cond.code ({ cls := "TurnerHeap", name := "begin", desc := "()V" } : Jvm.MethodName) prog_1_method_15_code (2 : Nat) (Option.none : Option Jvm.ClassFile.FieldType)) ∈ G := tb_4 (List.mem_of_getElem? (i := 63) rfl) rfl
theorem k_890 : (Jvm.Cond.methodLink "TurnerHeap" (198 : Nat) ({ cls := "TurnerHeap$Heap", name := "empty", desc := "()V" } : Jvm.MethodName)) ∈ G := tb_4 (List.mem_of_getElem? (i := 64) rfl) rfl
theorem k_891 : (Jvm.Cond.instanceMethod ({ cls := "TurnerHeap$Heap", name := "empty", desc := "()V" } : Jvm.MethodName)) ∈ G := tb_4 (List.mem_of_getElem? (i := 65) rfl) rfl
theorem k_892 : (Jvm.Cond.selects "TurnerHeap$Heap" ({ cls := "TurnerHeap$Heap", name := "empty", desc := "()V" } : Jvm.MethodName) ({ cls := "TurnerHeap$Heap", name := "empty", desc := "()V" } : Jvm.MethodName)) ∈ G := tb_4 (List.mem_of_getElem? (i := 66) rfl) rfl
theorem k_893 : (Jvm.Cond.code ({ cls := "TurnerHeap$Heap", name := "empty", desc := "()V" } : Jvm.MethodName) prog_3_method_7_code (1 : Nat) (Option.none : Option Jvm.ClassFile.FieldType)) ∈ G := tb_4 (List.mem_of_getElem? (i := 67) rfl) rfl
theorem k_894 : (Jvm.Cond.methodLink "TurnerHeap$Heap" (53 : Nat) ({ cls := "TurnerHeap$Heap", name := "unmark", desc := "()V" } : Jvm.MethodName)) ∈ G := tb_4 (List.mem_of_getElem? (i := 68) rfl) rfl
theorem k_895 : (Jvm.Cond.instanceMethod ({ cls := "TurnerHeap$Heap", name := "unmark", desc := "()V" } : Jvm.MethodName)) ∈ G := tb_4 (List.mem_of_getElem? (i := 69) rfl) rfl
theorem k_896 : (Jvm.Cond.selects "TurnerHeap$Heap" ({ cls := "TurnerHeap$Heap", name := "unmark", desc := "()V" } : Jvm.MethodName) ({ cls := "TurnerHeap$Heap", name := "unmark", desc := "()V" } : Jvm.MethodName)) ∈ G := tb_4 (List.mem_of_getElem? (i := 70) rfl) rfl
theorem k_897 : (Jvm.Cond.code ({ cls := "TurnerHeap$Heap", name := "unmark", desc := "()V" } : Jvm.MethodName) prog_3_method_13_code (1 : Nat) (Option.none : Option Jvm.ClassFile.FieldType)) ∈ G := tb_4 (List.mem_of_getElem? (i := 71) rfl) rfl
theorem k_898 : (Jvm.Cond.methodLink "TurnerHeap$Heap" (56 : Nat) ({ cls := "TurnerHeap$Heap", name := "sweep", desc := "()V" } : Jvm.MethodName)) ∈ G := tb_4 (List.mem_of_getElem? (i := 72) rfl) rfl
theorem k_899 : (Jvm.Cond.instanceMethod ({ cls := "TurnerHeap$Heap", name := "sweep", desc := "()V" } : Jvm.MethodName)) ∈ G := tb_4 (List.mem_of_getElem? (i := 73) rfl) rfl
theorem k_900 : (Jvm.Cond.selects "TurnerHeap$Heap" ({ cls := "TurnerHeap$Heap", name := "sweep", desc := "()V" } : Jvm.MethodName) ({ cls := "TurnerHeap$Heap", name := "sweep", desc := "()V" } : Jvm.MethodName)) ∈ G := tb_4 (List.mem_of_getElem? (i := 74) rfl) rfl
theorem k_901 : (Jvm.Cond.code ({ cls := "TurnerHeap$Heap", name := "sweep", desc := "()V" } : Jvm.MethodName) prog_3_method_18_code (2 : Nat) (Option.none : Option Jvm.ClassFile.FieldType)) ∈ G := tb_4 (List.mem_of_getElem? (i := 75) rfl) rfl
theorem k_902 : (Jvm.Cond.methodLink "TurnerHeap" (178 : Nat) ({ cls := "TurnerHeap$Reader", name := "definitions", desc := "()I" } : Jvm.MethodName)) ∈ G := tb_4 (List.mem_of_getElem? (i := 76) rfl) rfl
theorem k_903 : (Jvm.Cond.instanceMethod ({ cls := "TurnerHeap$Reader", name := "definitions", desc := "()I" } : Jvm.MethodName)) ∈ G := tb_4 (List.mem_of_getElem? (i := 77) rfl) rfl
theorem k_904 : (Jvm.Cond.selects "TurnerHeap$Reader" ({ cls := "TurnerHeap$Reader", name := "definitions", desc := "()I" } : Jvm.MethodName) ({ cls := "TurnerHeap$Reader", name := "definitions", desc := "()I" } : Jvm.MethodName)) ∈ G := tb_4 (List.mem_of_getElem? (i := 78) rfl) rfl
theorem k_905 : (Jvm.Cond.code ({ cls := "TurnerHeap$Reader", name := "definitions", desc := "()I" } : Jvm.MethodName) prog_7_method_2_code (1 : Nat) (Option.some Jvm.ClassFile.FieldType.int)) ∈ G := tb_4 (List.mem_of_getElem? (i := 79) rfl) rfl
theorem k_906 : (Jvm.Cond.methodLink "TurnerHeap" (201 : Nat) ({ cls := "TurnerHeap$Reader", name := "definition", desc := "(I)J" } : Jvm.MethodName)) ∈ G := tb_4 (List.mem_of_getElem? (i := 80) rfl) rfl
theorem k_907 : (Jvm.Cond.instanceMethod ({ cls := "TurnerHeap$Reader", name := "definition", desc := "(I)J" } : Jvm.MethodName)) ∈ G := tb_4 (List.mem_of_getElem? (i := 81) rfl) rfl
theorem k_908 : (Jvm.Cond.selects "TurnerHeap$Reader" ({ cls := "TurnerHeap$Reader", name := "definition", desc := "(I)J" } : Jvm.MethodName) ({ cls := "TurnerHeap$Reader", name := "definition", desc := "(I)J" } : Jvm.MethodName)) ∈ G := tb_4 (List.mem_of_getElem? (i := 82) rfl) rfl
theorem k_909 : (Jvm.Cond.code ({ cls := "TurnerHeap$Reader", name := "definition", desc := "(I)J" } : Jvm.MethodName) prog_7_method_3_code (2 : Nat) (Option.some Jvm.ClassFile.FieldType.long)) ∈ G := tb_4 (List.mem_of_getElem? (i := 83) rfl) rfl
theorem k_910 : (Jvm.Cond.methodLink "TurnerHeap" (205 : Nat) ({ cls := "TurnerHeap$Forms", name := "note", desc := "(ILTurnerHeap$Terms;J)V" } : Jvm.MethodName)) ∈ G := tb_4 (List.mem_of_getElem? (i := 84) rfl) rfl
theorem k_911 : (Jvm.Cond.instanceMethod ({ cls := "TurnerHeap$Forms", name := "note", desc := "(ILTurnerHeap$Terms;J)V" } : Jvm.MethodName)) ∈ G := tb_4 (List.mem_of_getElem? (i := 85) rfl) rfl
theorem k_912 : (Jvm.Cond.selects "TurnerHeap$Forms" ({ cls := "TurnerHeap$Forms", name := "note", desc := "(ILTurnerHeap$Terms;J)V" } : Jvm.MethodName) ({ cls := "TurnerHeap$Forms", name := "note", desc := "(ILTurnerHeap$Terms;J)V" } : Jvm.MethodName)) ∈ G := tb_4 (List.mem_of_getElem? (i := 86) rfl) rfl
theorem k_913 : (Jvm.Cond.code ({ cls := "TurnerHeap$Forms", name := "note", desc := "(ILTurnerHeap$Terms;J)V" } : Jvm.MethodName) prog_2_method_3_code (10 : Nat) (Option.none : Option Jvm.ClassFile.FieldType)) ∈ G := tb_4 (List.mem_of_getElem? (i := 87) rfl) rfl
theorem k_914 : (Jvm.Cond.methodLink "TurnerHeap$Forms" (13 : Nat) ({ cls := "TurnerHeap$Terms", name := "list", desc := "(J)I" } : Jvm.MethodName)) ∈ G := tb_4 (List.mem_of_getElem? (i := 88) rfl) rfl
theorem k_915 : (Jvm.Cond.methodLink "TurnerHeap$Forms" (19 : Nat) ({ cls := "TurnerHeap$Word", name := "isCell", desc := "(J)Z" } : Jvm.MethodName)) ∈ G := tb_4 (List.mem_of_getElem? (i := 89) rfl) rfl
theorem k_916 : (Jvm.Cond.methodLink "TurnerHeap$Forms" (25 : Nat) ({ cls := "TurnerHeap$Word", name := "number", desc := "(J)I" } : Jvm.MethodName)) ∈ G := tb_4 (List.mem_of_getElem? (i := 90) rfl) rfl
theorem k_917 : (Jvm.Cond.methodLink "TurnerHeap$Forms" (28 : Nat) ({ cls := "TurnerHeap$Terms", name := "leftOf", desc := "(I)J" } : Jvm.MethodName)) ∈ G := tb_4 (List.mem_of_getElem? (i := 91) rfl) rfl
theorem k_918 : (Jvm.Cond.instanceMethod ({ cls := "TurnerHeap$Terms", name := "leftOf", desc := "(I)J" } : Jvm.MethodName)) ∈ G := tb_4 (List.mem_of_getElem? (i := 92) rfl) rfl
theorem k_919 : (Jvm.Cond.selects "TurnerHeap$Terms" ({ cls := "TurnerHeap$Terms", name := "leftOf", desc := "(I)J" } : Jvm.MethodName) ({ cls := "TurnerHeap$Terms", name := "leftOf", desc := "(I)J" } : Jvm.MethodName)) ∈ G := tb_4 (List.mem_of_getElem? (i := 93) rfl) rfl
theorem k_920 : (Jvm.Cond.code ({ cls := "TurnerHeap$Terms", name := "leftOf", desc := "(I)J" } : Jvm.MethodName) prog_8_method_4_code (2 : Nat) (Option.some Jvm.ClassFile.FieldType.long)) ∈ G := tb_4 (List.mem_of_getElem? (i := 94) rfl) rfl
theorem k_921 : (Jvm.Cond.methodLink "TurnerHeap$Forms" (32 : Nat) ({ cls := "TurnerHeap$Word", name := "kind", desc := "(J)I" } : Jvm.MethodName)) ∈ G := tb_4 (List.mem_of_getElem? (i := 95) rfl) rfl
theorem k_922 : (Jvm.Cond.static ({ cls := "TurnerHeap$Word", name := "kind", desc := "(J)I" } : Jvm.MethodName)) ∈ G := tb_4 (List.mem_of_getElem? (i := 96) rfl) rfl
theorem k_923 : (Jvm.Cond.code ({ cls := "TurnerHeap$Word", name := "kind", desc := "(J)I" } : Jvm.MethodName) prog_9_method_4_code (2 : Nat) (Option.some Jvm.ClassFile.FieldType.int)) ∈ G := tb_4 (List.mem_of_getElem? (i := 97) rfl) rfl
theorem k_924 : (Jvm.Cond.methodLink "TurnerHeap" (209 : Nat) ({ cls := "TurnerHeap$Heap", name := "load", desc := "(LTurnerHeap$Terms;J)J" } : Jvm.MethodName)) ∈ G := tb_4 (List.mem_of_getElem? (i := 98) rfl) rfl
theorem k_925 : (Jvm.Cond.instanceMethod ({ cls := "TurnerHeap$Heap", name := "load", desc := "(LTurnerHeap$Terms;J)J" } : Jvm.MethodName)) ∈ G := tb_4 (List.mem_of_getElem? (i := 99) rfl) rfl
theorem k_926 : (Jvm.Cond.selects "TurnerHeap$Heap" ({ cls := "TurnerHeap$Heap", name := "load", desc := "(LTurnerHeap$Terms;J)J" } : Jvm.MethodName) ({ cls := "TurnerHeap$Heap", name := "load", desc := "(LTurnerHeap$Terms;J)J" } : Jvm.MethodName)) ∈ G := tb_4 (List.mem_of_getElem? (i := 100) rfl) rfl
theorem k_927 : (Jvm.Cond.code ({ cls := "TurnerHeap$Heap", name := "load", desc := "(LTurnerHeap$Terms;J)J" } : Jvm.MethodName) prog_3_method_9_code (7 : Nat) (Option.some Jvm.ClassFile.FieldType.long)) ∈ G := tb_4 (List.mem_of_getElem? (i := 101) rfl) rfl
theorem k_928 : (Jvm.Cond.methodLink "TurnerHeap$Heap" (59 : Nat) ({ cls := "TurnerHeap$Terms", name := "list", desc := "(J)I" } : Jvm.MethodName)) ∈ G := tb_4 (List.mem_of_getElem? (i := 102) rfl) rfl
theorem k_929 : (Jvm.Cond.methodLink "TurnerHeap$Heap" (63 : Nat) ({ cls := "TurnerHeap$Terms", name := "listed", desc := "(I)I" } : Jvm.MethodName)) ∈ G := tb_4 (List.mem_of_getElem? (i := 103) rfl) rfl
theorem k_930 : (Jvm.Cond.instanceMethod ({ cls := "TurnerHeap$Terms", name := "listed", desc := "(I)I" } : Jvm.MethodName)) ∈ G := tb_4 (List.mem_of_getElem? (i := 104) rfl) rfl
theorem k_931 : (Jvm.Cond.selects "TurnerHeap$Terms" ({ cls := "TurnerHeap$Terms", name := "listed", desc := "(I)I" } : Jvm.MethodName) ({ cls := "TurnerHeap$Terms", name := "listed", desc := "(I)I" } : Jvm.MethodName)) ∈ G := tb_4 (List.mem_of_getElem? (i := 105) rfl) rfl
theorem k_932 : (Jvm.Cond.code ({ cls := "TurnerHeap$Terms", name := "listed", desc := "(I)I" } : Jvm.MethodName) prog_8_method_6_code (2 : Nat) (Option.some Jvm.ClassFile.FieldType.int)) ∈ G := tb_4 (List.mem_of_getElem? (i := 106) rfl) rfl
theorem k_933 : (Jvm.Cond.methodLink "TurnerHeap$Heap" (67 : Nat) ({ cls := "TurnerHeap$Heap", name := "make", desc := "(JJ)J" } : Jvm.MethodName)) ∈ G := tb_4 (List.mem_of_getElem? (i := 107) rfl) rfl
theorem k_934 : (Jvm.Cond.instanceMethod ({ cls := "TurnerHeap$Heap", name := "make", desc := "(JJ)J" } : Jvm.MethodName)) ∈ G := tb_4 (List.mem_of_getElem? (i := 108) rfl) rfl
theorem k_935 : (Jvm.Cond.selects "TurnerHeap$Heap" ({ cls := "TurnerHeap$Heap", name := "make", desc := "(JJ)J" } : Jvm.MethodName) ({ cls := "TurnerHeap$Heap", name := "make", desc := "(JJ)J" } : Jvm.MethodName)) ∈ G := tb_4 (List.mem_of_getElem? (i := 109) rfl) rfl
theorem k_936 : (Jvm.Cond.code ({ cls := "TurnerHeap$Heap", name := "make", desc := "(JJ)J" } : Jvm.MethodName) prog_3_method_11_code (6 : Nat) (Option.some Jvm.ClassFile.FieldType.long)) ∈ G := tb_4 (List.mem_of_getElem? (i := 110) rfl) rfl
theorem k_937 : (Jvm.Cond.methodLink "TurnerHeap$Heap" (49 : Nat) ({ cls := "TurnerHeap$Word", name := "constant", desc := "(I)J" } : Jvm.MethodName)) ∈ G := tb_4 (List.mem_of_getElem? (i := 111) rfl) rfl
theorem k_938 : (Jvm.Cond.methodLink "TurnerHeap$Heap" (84 : Nat) ({ cls := "TurnerHeap$Heap", name := "set", desc := "(IJJ)V" } : Jvm.MethodName)) ∈ G := tb_4 (List.mem_of_getElem? (i := 112) rfl) rfl
theorem k_939 : (Jvm.Cond.instanceMethod ({ cls := "TurnerHeap$Heap", name := "set", desc := "(IJJ)V" } : Jvm.MethodName)) ∈ G := tb_4 (List.mem_of_getElem? (i := 113) rfl) rfl
theorem k_940 : (Jvm.Cond.selects "TurnerHeap$Heap" ({ cls := "TurnerHeap$Heap", name := "set", desc := "(IJJ)V" } : Jvm.MethodName) ({ cls := "TurnerHeap$Heap", name := "set", desc := "(IJJ)V" } : Jvm.MethodName)) ∈ G := tb_4 (List.mem_of_getElem? (i := 114) rfl) rfl
theorem k_941 : (Jvm.Cond.code ({ cls := "TurnerHeap$Heap", name := "set", desc := "(IJJ)V" } : Jvm.MethodName) prog_3_method_12_code (6 : Nat) (Option.none : Option Jvm.ClassFile.FieldType)) ∈ G := tb_4 (List.mem_of_getElem? (i := 115) rfl) rfl
theorem k_942 : (Jvm.Cond.methodLink "TurnerHeap$Heap" (92 : Nat) ({ cls := "TurnerHeap$Word", name := "of", desc := "(II)J" } : Jvm.MethodName)) ∈ G := tb_4 (List.mem_of_getElem? (i := 116) rfl) rfl
theorem k_943 : (Jvm.Cond.methodLink "TurnerHeap$Heap" (71 : Nat) ({ cls := "TurnerHeap$Word", name := "number", desc := "(J)I" } : Jvm.MethodName)) ∈ G := tb_4 (List.mem_of_getElem? (i := 117) rfl) rfl
theorem k_944 : (Jvm.Cond.methodLink "TurnerHeap$Heap" (74 : Nat) ({ cls := "TurnerHeap$Terms", name := "leftOf", desc := "(I)J" } : Jvm.MethodName)) ∈ G := tb_4 (List.mem_of_getElem? (i := 118) rfl) rfl
theorem k_945 : (Jvm.Cond.methodLink "TurnerHeap$Heap" (77 : Nat) ({ cls := "TurnerHeap$Heap", name := "placed", desc := "(J)J" } : Jvm.MethodName)) ∈ G := tb_4 (List.mem_of_getElem? (i := 119) rfl) rfl
theorem k_947 : (Jvm.Cond.instanceMethod ({ cls := "TurnerHeap$Heap", name := "placed", desc := "(J)J" } : Jvm.MethodName)) ∈ G := tb_4 (List.mem_of_getElem? (i := 121) rfl) rfl
theorem k_948 : (Jvm.Cond.code ({ cls := "TurnerHeap$Heap", name := "placed", desc := "(J)J" } : Jvm.MethodName) prog_3_method_10_code (3 : Nat) (Option.some Jvm.ClassFile.FieldType.long)) ∈ G := tb_4 (List.mem_of_getElem? (i := 122) rfl) rfl
theorem k_949 : (Jvm.Cond.methodLink "TurnerHeap$Heap" (88 : Nat) ({ cls := "TurnerHeap$Word", name := "isCell", desc := "(J)Z" } : Jvm.MethodName)) ∈ G := tb_4 (List.mem_of_getElem? (i := 123) rfl) rfl
theorem k_950 : (Jvm.Cond.methodLink "TurnerHeap$Heap" (81 : Nat) ({ cls := "TurnerHeap$Terms", name := "rightOf", desc := "(I)J" } : Jvm.MethodName)) ∈ G := tb_4 (List.mem_of_getElem? (i := 124) rfl) rfl
theorem k_951 : (Jvm.Cond.instanceMethod ({ cls := "TurnerHeap$Terms", name := "rightOf", desc := "(I)J" } : Jvm.MethodName)) ∈ G := tb_4 (List.mem_of_getElem? (i := 125) rfl) rfl
theorem k_952 : (Jvm.Cond.selects "TurnerHeap$Terms" ({ cls := "TurnerHeap$Terms", name := "rightOf", desc := "(I)J" } : Jvm.MethodName) ({ cls := "TurnerHeap$Terms", name := "rightOf", desc := "(I)J" } : Jvm.MethodName)) ∈ G := tb_4 (List.mem_of_getElem? (i := 126) rfl) rfl
theorem k_953 : (Jvm.Cond.code ({ cls := "TurnerHeap$Terms", name := "rightOf", desc := "(I)J" } : Jvm.MethodName) prog_8_method_5_code (2 : Nat) (Option.some Jvm.ClassFile.FieldType.long)) ∈ G := tb_4 (List.mem_of_getElem? (i := 127) rfl) rfl
theorem k_954 : (Jvm.Cond.methodLink "TurnerHeap" (213 : Nat) ({ cls := "TurnerHeap$Heap", name := "define", desc := "(IJ)V" } : Jvm.MethodName)) ∈ G := tb_4 (List.mem_of_getElem? (i := 128) rfl) rfl
theorem k_955 : (Jvm.Cond.instanceMethod ({ cls := "TurnerHeap$Heap", name := "define", desc := "(IJ)V" } : Jvm.MethodName)) ∈ G := tb_4 (List.mem_of_getElem? (i := 129) rfl) rfl
theorem k_956 : (Jvm.Cond.selects "TurnerHeap$Heap" ({ cls := "TurnerHeap$Heap", name := "define", desc := "(IJ)V" } : Jvm.MethodName) ({ cls := "TurnerHeap$Heap", name := "define", desc := "(IJ)V" } : Jvm.MethodName)) ∈ G := tb_4 (List.mem_of_getElem? (i := 130) rfl) rfl
theorem k_957 : (Jvm.Cond.code ({ cls := "TurnerHeap$Heap", name := "define", desc := "(IJ)V" } : Jvm.MethodName) prog_3_method_8_code (4 : Nat) (Option.none : Option Jvm.ClassFile.FieldType)) ∈ G := tb_4 (List.mem_of_getElem? (i := 131) rfl) rfl
theorem k_958 : (Jvm.Cond.methodLink "TurnerHeap" (217 : Nat) ({ cls := "TurnerHeap$Reader", name := "mainTerm", desc := "()J" } : Jvm.MethodName)) ∈ G := tb_4 (List.mem_of_getElem? (i := 132) rfl) rfl
theorem k_959 : (Jvm.Cond.instanceMethod ({ cls := "TurnerHeap$Reader", name := "mainTerm", desc := "()J" } : Jvm.MethodName)) ∈ G := tb_4 (List.mem_of_getElem? (i := 133) rfl) rfl
theorem k_960 : (Jvm.Cond.selects "TurnerHeap$Reader" ({ cls := "TurnerHeap$Reader", name := "mainTerm", desc := "()J" } : Jvm.MethodName) ({ cls := "TurnerHeap$Reader", name := "mainTerm", desc := "()J" } : Jvm.MethodName)) ∈ G := tb_4 (List.mem_of_getElem? (i := 134) rfl) rfl
theorem k_961 : (Jvm.Cond.code ({ cls := "TurnerHeap$Reader", name := "mainTerm", desc := "()J" } : Jvm.MethodName) prog_7_method_4_code (1 : Nat) (Option.some Jvm.ClassFile.FieldType.long)) ∈ G := tb_4 (List.mem_of_getElem? (i := 135) rfl) rfl
theorem k_962 : (Jvm.Cond.methodLink "TurnerHeap" (221 : Nat) ({ cls := "TurnerHeap$Machine", name := "begin", desc := "(J)V" } : Jvm.MethodName)) ∈ G := tb_4 (List.mem_of_getElem? (i := 136) rfl) rfl
theorem k_963 : (Jvm.Cond.instanceMethod ({ cls := "TurnerHeap$Machine", name := "begin", desc := "(J)V" } : Jvm.MethodName)) ∈ G := tb_4 (List.mem_of_getElem? (i := 137) rfl) rfl
theorem k_964 : (Jvm.Cond.selects "TurnerHeap$Machine" ({ cls := "TurnerHeap$Machine", name := "begin", desc := "(J)V" } : Jvm.MethodName) ({ cls := "TurnerHeap$Machine", name := "begin", desc := "(J)V" } : Jvm.MethodName)) ∈ G := tb_4 (List.mem_of_getElem? (i := 138) rfl) rfl
theorem k_965 : (Jvm.Cond.code ({ cls := "TurnerHeap$Machine", name := "begin", desc := "(J)V" } : Jvm.MethodName) prog_5_method_6_code (3 : Nat) (Option.none : Option Jvm.ClassFile.FieldType)) ∈ G := tb_4 (List.mem_of_getElem? (i := 139) rfl) rfl
theorem k_966 : (Jvm.Cond.methodLink "TurnerHeap$Machine" (56 : Nat) ({ cls := "TurnerHeap$Word", name := "constant", desc := "(I)J" } : Jvm.MethodName)) ∈ G := tb_4 (List.mem_of_getElem? (i := 140) rfl) rfl
theorem k_967 : (Jvm.Cond.methodLink "TurnerHeapLaw" (68 : Nat) ({ cls := "TurnerHeapLaw", name := "run", desc := "(LTurnerHeap;I[J)I" } : Jvm.MethodName)) ∈ G := tb_4 (List.mem_of_getElem? (i := 141) rfl) rfl
theorem k_968 : (Jvm.Cond.static ({ cls := "TurnerHeapLaw", name := "run", desc := "(LTurnerHeap;I[J)I" } : Jvm.MethodName)) ∈ G := tb_4 (List.mem_of_getElem? (i := 142) rfl) rfl
theorem k_969 : (Jvm.Cond.codeWith ({ cls := "TurnerHeapLaw", name := "run", desc := "(LTurnerHeap;I[J)I" } : Jvm.MethodName) method_5_code (4 : Nat) (Option.some Jvm.ClassFile.FieldType.int) [((0 : Nat), (9 : Nat), (12 : Nat), (13 : Nat)), ((0 : Nat), (9 : Nat), (15 : Nat), (15 : Nat))]) ∈ G := tb_4 (List.mem_of_getElem? (i := 143) rfl) rfl
theorem k_970 : (Jvm.Cond.methodLink "TurnerHeapLaw" (23 : Nat) ({ cls := "TurnerHeap", name := "run", desc := "(I)I" } : Jvm.MethodName)) ∈ G := tb_4 (List.mem_of_getElem? (i := 144) rfl) rfl
theorem k_971 : (Jvm.Cond.instanceMethod ({ cls := "TurnerHeap", name := "run", desc := "(I)I" } : Jvm.MethodName)) ∈ G := tb_4 (List.mem_of_getElem? (i := 145) rfl) rfl
theorem k_972 : (Jvm.Cond.selects "TurnerHeap" ({ cls := "TurnerHeap", name := "run", desc := "(I)I" } : Jvm.MethodName) ({ cls := "TurnerHeap", name := "run", desc := "(I)I" } : Jvm.MethodName)) ∈ G := tb_4 (List.mem_of_getElem? (i := 146) rfl) rfl
theorem k_973 : (Jvm.Cond.code ({ cls := "TurnerHeap", name := "run", desc := "(I)I" } : Jvm.MethodName) prog_1_method_5_code (3 : Nat) (Option.some Jvm.ClassFile.FieldType.int)) ∈ G := tb_4 (List.mem_of_getElem? (i := 147) rfl) rfl
theorem k_976 : (Jvm.Cond.methodLink "TurnerHeap" (153 : Nat) ({ cls := "TurnerHeap$Machine", name := "step", desc := "()Z" } : Jvm.MethodName)) ∈ G := tb_4 (List.mem_of_getElem? (i := 150) rfl) rfl
theorem k_977 : (Jvm.Cond.instanceMethod ({ cls := "TurnerHeap$Machine", name := "step", desc := "()Z" } : Jvm.MethodName)) ∈ G := tb_4 (List.mem_of_getElem? (i := 151) rfl) rfl
theorem k_978 : (Jvm.Cond.selects "TurnerHeap$Machine" ({ cls := "TurnerHeap$Machine", name := "step", desc := "()Z" } : Jvm.MethodName) ({ cls := "TurnerHeap$Machine", name := "step", desc := "()Z" } : Jvm.MethodName)) ∈ G := tb_4 (List.mem_of_getElem? (i := 152) rfl) rfl
theorem k_979 : (Jvm.Cond.code ({ cls := "TurnerHeap$Machine", name := "step", desc := "()Z" } : Jvm.MethodName) prog_5_method_8_code (3 : Nat) (Option.some Jvm.ClassFile.FieldType.boolean)) ∈ G := tb_4 (List.mem_of_getElem? (i := 153) rfl) rfl
theorem k_980 : (Jvm.Cond.constant "TurnerHeap$Machine" (90 : Nat) (100000 : Int32)) ∈ G := tb_4 (List.mem_of_getElem? (i := 154) rfl) rfl
theorem k_981 : (Jvm.Cond.methodLink "TurnerHeap$Machine" (91 : Nat) ({ cls := "TurnerHeap$Machine", name := "goLeft", desc := "()Z" } : Jvm.MethodName)) ∈ G := tb_4 (List.mem_of_getElem? (i := 155) rfl) rfl
theorem k_983 : (Jvm.Cond.instanceMethod ({ cls := "TurnerHeap$Machine", name := "goLeft", desc := "()Z" } : Jvm.MethodName)) ∈ G := tb_4 (List.mem_of_getElem? (i := 157) rfl) rfl
theorem k_984 : (Jvm.Cond.code ({ cls := "TurnerHeap$Machine", name := "goLeft", desc := "()Z" } : Jvm.MethodName) prog_5_method_9_code (2 : Nat) (Option.some Jvm.ClassFile.FieldType.boolean)) ∈ G := tb_4 (List.mem_of_getElem? (i := 158) rfl) rfl
theorem k_985 : (Jvm.Cond.methodLink "TurnerHeap$Machine" (98 : Nat) ({ cls := "TurnerHeap$Word", name := "isCell", desc := "(J)Z" } : Jvm.MethodName)) ∈ G := tb_4 (List.mem_of_getElem? (i := 159) rfl) rfl
theorem k_986 : (Jvm.Cond.methodLink "TurnerHeap$Machine" (102 : Nat) ({ cls := "TurnerHeap$Word", name := "number", desc := "(J)I" } : Jvm.MethodName)) ∈ G := tb_4 (List.mem_of_getElem? (i := 160) rfl) rfl
theorem k_987 : (Jvm.Cond.methodLink "TurnerHeap$Machine" (106 : Nat) ({ cls := "TurnerHeap$Heap", name := "leftOf", desc := "(I)J" } : Jvm.MethodName)) ∈ G := tb_4 (List.mem_of_getElem? (i := 161) rfl) rfl
theorem k_988 : (Jvm.Cond.instanceMethod ({ cls := "TurnerHeap$Heap", name := "leftOf", desc := "(I)J" } : Jvm.MethodName)) ∈ G := tb_4 (List.mem_of_getElem? (i := 162) rfl) rfl
theorem k_989 : (Jvm.Cond.selects "TurnerHeap$Heap" ({ cls := "TurnerHeap$Heap", name := "leftOf", desc := "(I)J" } : Jvm.MethodName) ({ cls := "TurnerHeap$Heap", name := "leftOf", desc := "(I)J" } : Jvm.MethodName)) ∈ G := tb_4 (List.mem_of_getElem? (i := 163) rfl) rfl
theorem k_990 : (Jvm.Cond.code ({ cls := "TurnerHeap$Heap", name := "leftOf", desc := "(I)J" } : Jvm.MethodName) prog_3_method_4_code (2 : Nat) (Option.some Jvm.ClassFile.FieldType.long)) ∈ G := tb_4 (List.mem_of_getElem? (i := 164) rfl) rfl
theorem k_991 : (Jvm.Cond.methodLink "TurnerHeap$Machine" (109 : Nat) ({ cls := "java/lang/Math", name := "max", desc := "(II)I" } : Jvm.MethodName)) ∈ G := tb_4 (List.mem_of_getElem? (i := 165) rfl) rfl
theorem k_992 : (Jvm.Cond.methodLink "TurnerHeap$Machine" (115 : Nat) ({ cls := "TurnerHeap$Machine", name := "halt", desc := "(I)Z" } : Jvm.MethodName)) ∈ G := tb_4 (List.mem_of_getElem? (i := 166) rfl) rfl
theorem k_994 : (Jvm.Cond.instanceMethod ({ cls := "TurnerHeap$Machine", name := "halt", desc := "(I)Z" } : Jvm.MethodName)) ∈ G := tb_4 (List.mem_of_getElem? (i := 168) rfl) rfl
theorem k_995 : (Jvm.Cond.code ({ cls := "TurnerHeap$Machine", name := "halt", desc := "(I)Z" } : Jvm.MethodName) prog_5_method_10_code (2 : Nat) (Option.some Jvm.ClassFile.FieldType.boolean)) ∈ G := tb_4 (List.mem_of_getElem? (i := 169) rfl) rfl
theorem k_996 : (Jvm.Cond.methodLink "TurnerHeap$Machine" (95 : Nat) ({ cls := "TurnerHeap$Machine", name := "act", desc := "()Z" } : Jvm.MethodName)) ∈ G := tb_4 (List.mem_of_getElem? (i := 170) rfl) rfl
theorem k_998 : (Jvm.Cond.instanceMethod ({ cls := "TurnerHeap$Machine", name := "act", desc := "()Z" } : Jvm.MethodName)) ∈ G := tb_4 (List.mem_of_getElem? (i := 172) rfl) rfl
theorem k_999 : (Jvm.Cond.code ({ cls := "TurnerHeap$Machine", name := "act", desc := "()Z" } : Jvm.MethodName) prog_5_method_11_code (3 : Nat) (Option.some Jvm.ClassFile.FieldType.boolean)) ∈ G := tb_4 (List.mem_of_getElem? (i := 173) rfl) rfl
theorem k_1000 : (Jvm.Cond.methodLink "TurnerHeap$Machine" (119 : Nat) ({ cls := "TurnerHeap$Word", name := "kind", desc := "(J)I" } : Jvm.MethodName)) ∈ G := tb_4 (List.mem_of_getElem? (i := 174) rfl) rfl
theorem k_1001 : (Jvm.Cond.methodLink "TurnerHeap$Machine" (122 : Nat) ({ cls := "TurnerHeap$Heap", name := "defined", desc := "(I)J" } : Jvm.MethodName)) ∈ G := tb_4 (List.mem_of_getElem? (i := 175) rfl) rfl
theorem k_1002 : (Jvm.Cond.instanceMethod ({ cls := "TurnerHeap$Heap", name := "defined", desc := "(I)J" } : Jvm.MethodName)) ∈ G := tb_4 (List.mem_of_getElem? (i := 176) rfl) rfl
theorem k_1003 : (Jvm.Cond.selects "TurnerHeap$Heap" ({ cls := "TurnerHeap$Heap", name := "defined", desc := "(I)J" } : Jvm.MethodName) ({ cls := "TurnerHeap$Heap", name := "defined", desc := "(I)J" } : Jvm.MethodName)) ∈ G := tb_4 (List.mem_of_getElem? (i := 177) rfl) rfl
theorem k_1004 : (Jvm.Cond.code ({ cls := "TurnerHeap$Heap", name := "defined", desc := "(I)J" } : Jvm.MethodName) prog_3_method_6_code (2 : Nat) (Option.some Jvm.ClassFile.FieldType.long)) ∈ G := tb_4 (List.mem_of_getElem? (i := 178) rfl) rfl
theorem k_1005 : (Jvm.Cond.fieldLink "TurnerHeap$Machine" (125 : Nat) "TurnerHeap$Machine" "NEEDED" "[I") ∈ G := tb_4 (List.mem_of_getElem? (i := 179) rfl) rfl
theorem k_1007 : (Jvm.Cond.methodLink "TurnerHeap$Machine" (128 : Nat) ({ cls := "TurnerHeap$Machine", name := "isPlain", desc := "(I)Z" } : Jvm.MethodName)) ∈ G := tb_4 (List.mem_of_getElem? (i := 181) rfl) rfl
theorem k_1008 : (Jvm.Cond.static ({ cls := "TurnerHeap$Machine", name := "isPlain", desc := "(I)Z" } : Jvm.MethodName)) ∈ G := tb_4 (List.mem_of_getElem? (i := 182) rfl) rfl
theorem k_1009 : (Jvm.Cond.code ({ cls := "TurnerHeap$Machine", name := "isPlain", desc := "(I)Z" } : Jvm.MethodName) prog_5_method_12_code (1 : Nat) (Option.some Jvm.ClassFile.FieldType.boolean)) ∈ G := tb_4 (List.mem_of_getElem? (i := 183) rfl) rfl
theorem k_1010 : (Jvm.Cond.methodLink "TurnerHeap$Machine" (145 : Nat) ({ cls := "TurnerHeap$Machine", name := "isPrintable", desc := "(I)Z" } : Jvm.MethodName)) ∈ G := tb_4 (List.mem_of_getElem? (i := 184) rfl) rfl
theorem k_1011 : (Jvm.Cond.static ({ cls := "TurnerHeap$Machine", name := "isPrintable", desc := "(I)Z" } : Jvm.MethodName)) ∈ G := tb_4 (List.mem_of_getElem? (i := 185) rfl) rfl
theorem k_1012 : (Jvm.Cond.code ({ cls := "TurnerHeap$Machine", name := "isPrintable", desc := "(I)Z" } : Jvm.MethodName) prog_5_method_13_code (1 : Nat) (Option.some Jvm.ClassFile.FieldType.boolean)) ∈ G := tb_4 (List.mem_of_getElem? (i := 186) rfl) rfl
theorem k_1013 : (Jvm.Cond.methodLink "TurnerHeap$Machine" (131 : Nat) ({ cls := "TurnerHeap$Machine", name := "haveValue", desc := "(II)Z" } : Jvm.MethodName)) ∈ G := tb_4 (List.mem_of_getElem? (i := 187) rfl) rfl
theorem k_1015 : (Jvm.Cond.instanceMethod ({ cls := "TurnerHeap$Machine", name := "haveValue", desc := "(II)Z" } : Jvm.MethodName)) ∈ G := tb_4 (List.mem_of_getElem? (i := 189) rfl) rfl
theorem k_1016 : (Jvm.Cond.code ({ cls := "TurnerHeap$Machine", name := "haveValue", desc := "(II)Z" } : Jvm.MethodName) prog_5_method_18_code (5 : Nat) (Option.some Jvm.ClassFile.FieldType.boolean)) ∈ G := tb_4 (List.mem_of_getElem? (i := 190) rfl) rfl
theorem k_1017 : (Jvm.Cond.methodLink "TurnerHeap$Machine" (135 : Nat) ({ cls := "TurnerHeap$Machine", name := "argument", desc := "(I)J" } : Jvm.MethodName)) ∈ G := tb_4 (List.mem_of_getElem? (i := 191) rfl) rfl
theorem k_1019 : (Jvm.Cond.instanceMethod ({ cls := "TurnerHeap$Machine", name := "argument", desc := "(I)J" } : Jvm.MethodName)) ∈ G := tb_4 (List.mem_of_getElem? (i := 193) rfl) rfl
theorem k_1020 : (Jvm.Cond.code ({ cls := "TurnerHeap$Machine", name := "argument", desc := "(I)J" } : Jvm.MethodName) prog_5_method_14_code (2 : Nat) (Option.some Jvm.ClassFile.FieldType.long)) ∈ G := tb_4 (List.mem_of_getElem? (i := 194) rfl) rfl
theorem k_1021 : (Jvm.Cond.methodLink "TurnerHeap$Machine" (148 : Nat) ({ cls := "TurnerHeap$Heap", name := "rightOf", desc := "(I)J" } : Jvm.MethodName)) ∈ G := tb_4 (List.mem_of_getElem? (i := 195) rfl) rfl
theorem k_1022 : (Jvm.Cond.instanceMethod ({ cls := "TurnerHeap$Heap", name := "rightOf", desc := "(I)J" } : Jvm.MethodName)) ∈ G := tb_4 (List.mem_of_getElem? (i := 196) rfl) rfl
theorem k_1023 : (Jvm.Cond.selects "TurnerHeap$Heap" ({ cls := "TurnerHeap$Heap", name := "rightOf", desc := "(I)J" } : Jvm.MethodName) ({ cls := "TurnerHeap$Heap", name := "rightOf", desc := "(I)J" } : Jvm.MethodName)) ∈ G := tb_4 (List.mem_of_getElem? (i := 197) rfl) rfl
theorem k_1024 : (Jvm.Cond.code ({ cls := "TurnerHeap$Heap", name := "rightOf", desc := "(I)J" } : Jvm.MethodName) prog_3_method_5_code (2 : Nat) (Option.some Jvm.ClassFile.FieldType.long)) ∈ G := tb_4 (List.mem_of_getElem? (i := 198) rfl) rfl
theorem k_1025 : (Jvm.Cond.methodLink "TurnerHeap$Machine" (82 : Nat) ({ cls := "TurnerHeap$Word", name := "of", desc := "(II)J" } : Jvm.MethodName)) ∈ G := tb_4 (List.mem_of_getElem? (i := 199) rfl) rfl
theorem k_1026 : (Jvm.Cond.methodLink "TurnerHeap$Machine" (183 : Nat) ({ cls := "TurnerHeap$Machine", name := "printLeftSide", desc := "(II)Z" } : Jvm.MethodName)) ∈ G := tb_4 (List.mem_of_getElem? (i := 200) rfl) rfl
theorem k_1028 : (Jvm.Cond.instanceMethod ({ cls := "TurnerHeap$Machine", name := "printLeftSide", desc := "(II)Z" } : Jvm.MethodName)) ∈ G := tb_4 (List.mem_of_getElem? (i := 202) rfl) rfl
theorem k_1029 : (Jvm.Cond.code ({ cls := "TurnerHeap$Machine", name := "printLeftSide", desc := "(II)Z" } : Jvm.MethodName) prog_5_method_25_code (3 : Nat) (Option.some Jvm.ClassFile.FieldType.boolean)) ∈ G := tb_4 (List.mem_of_getElem? (i := 203) rfl) rfl
theorem k_1030 : (Jvm.Cond.methodLink "TurnerHeap$Machine" (206 : Nat) ({ cls := "TurnerHeap$Machine", name := "printValue", desc := "(II)V" } : Jvm.MethodName)) ∈ G := tb_4 (List.mem_of_getElem? (i := 204) rfl) rfl
theorem k_1032 : (Jvm.Cond.instanceMethod ({ cls := "TurnerHeap$Machine", name := "printValue", desc := "(II)V" } : Jvm.MethodName)) ∈ G := tb_4 (List.mem_of_getElem? (i := 206) rfl) rfl
theorem k_1033 : (Jvm.Cond.code ({ cls := "TurnerHeap$Machine", name := "printValue", desc := "(II)V" } : Jvm.MethodName) prog_5_method_26_code (3 : Nat) (Option.none : Option Jvm.ClassFile.FieldType)) ∈ G := tb_4 (List.mem_of_getElem? (i := 207) rfl) rfl
theorem k_1034 : (Jvm.Cond.methodLink "TurnerHeap$Machine" (216 : Nat) ({ cls := "TurnerHeap$Paper", name := "printNumber", desc := "(I)V" } : Jvm.MethodName)) ∈ G := tb_4 (List.mem_of_getElem? (i := 208) rfl) rfl
theorem k_1035 : (Jvm.Cond.instanceMethod ({ cls := "TurnerHeap$Paper", name := "printNumber", desc := "(I)V" } : Jvm.MethodName)) ∈ G := tb_4 (List.mem_of_getElem? (i := 209) rfl) rfl
theorem k_1036 : (Jvm.Cond.selects "TurnerHeap$Paper" ({ cls := "TurnerHeap$Paper", name := "printNumber", desc := "(I)V" } : Jvm.MethodName) ({ cls := "TurnerHeap$Paper", name := "printNumber", desc := "(I)V" } : Jvm.MethodName)) ∈ G := tb_4 (List.mem_of_getElem? (i := 210) rfl) rfl
theorem k_1037 : (Jvm.Cond.code ({ cls := "TurnerHeap$Paper", name := "printNumber", desc := "(I)V" } : Jvm.MethodName) prog_6_method_7_code (6 : Nat) (Option.none : Option Jvm.ClassFile.FieldType)) ∈ G := tb_4 (List.mem_of_getElem? (i := 211) rfl) rfl
theorem k_1038 : (Jvm.Cond.methodLink "TurnerHeap$Paper" (26 : Nat) ({ cls := "TurnerHeap$Paper", name := "print", desc := "(C)V" } : Jvm.MethodName)) ∈ G := tb_4 (List.mem_of_getElem? (i := 212) rfl) rfl
theorem k_1039 : (Jvm.Cond.instanceMethod ({ cls := "TurnerHeap$Paper", name := "print", desc := "(C)V" } : Jvm.MethodName)) ∈ G := tb_4 (List.mem_of_getElem? (i := 213) rfl) rfl
theorem k_1040 : (Jvm.Cond.selects "TurnerHeap$Paper" ({ cls := "TurnerHeap$Paper", name := "print", desc := "(C)V" } : Jvm.MethodName) ({ cls := "TurnerHeap$Paper", name := "print", desc := "(C)V" } : Jvm.MethodName)) ∈ G := tb_4 (List.mem_of_getElem? (i := 214) rfl) rfl
theorem k_1041 : (Jvm.Cond.code ({ cls := "TurnerHeap$Paper", name := "print", desc := "(C)V" } : Jvm.MethodName) prog_6_method_6_code (2 : Nat) (Option.none : Option Jvm.ClassFile.FieldType)) ∈ G := tb_4 (List.mem_of_getElem? (i := 215) rfl) rfl
theorem k_1042 : (Jvm.Cond.constantLong "TurnerHeap$Paper" (30 : Nat) (48 : Int64)) ∈ G := tb_4 (List.mem_of_getElem? (i := 216) rfl) rfl
theorem k_1043 : (Jvm.Cond.constantLong "TurnerHeap$Paper" (32 : Nat) (10 : Int64)) ∈ G := tb_4 (List.mem_of_getElem? (i := 217) rfl) rfl
theorem k_1044 : (Jvm.Cond.methodLink "TurnerHeap$Machine" (210 : Nat) ({ cls := "TurnerHeap$Paper", name := "print", desc := "(C)V" } : Jvm.MethodName)) ∈ G := tb_4 (List.mem_of_getElem? (i := 218) rfl) rfl
theorem k_1045 : (Jvm.Cond.methodLink "TurnerHeap$Machine" (186 : Nat) ({ cls := "TurnerHeap$Machine", name := "printTerm", desc := "(II)Z" } : Jvm.MethodName)) ∈ G := tb_4 (List.mem_of_getElem? (i := 219) rfl) rfl
theorem k_1047 : (Jvm.Cond.instanceMethod ({ cls := "TurnerHeap$Machine", name := "printTerm", desc := "(II)Z" } : Jvm.MethodName)) ∈ G := tb_4 (List.mem_of_getElem? (i := 221) rfl) rfl
theorem k_1048 : (Jvm.Cond.code ({ cls := "TurnerHeap$Machine", name := "printTerm", desc := "(II)Z" } : Jvm.MethodName) prog_5_method_24_code (3 : Nat) (Option.some Jvm.ClassFile.FieldType.boolean)) ∈ G := tb_4 (List.mem_of_getElem? (i := 222) rfl) rfl
theorem k_1049 : (Jvm.Cond.methodLink "TurnerHeap$Machine" (189 : Nat) ({ cls := "TurnerHeap$Machine", name := "goOn", desc := "(II)Z" } : Jvm.MethodName)) ∈ G := tb_4 (List.mem_of_getElem? (i := 223) rfl) rfl
theorem k_1051 : (Jvm.Cond.instanceMethod ({ cls := "TurnerHeap$Machine", name := "goOn", desc := "(II)Z" } : Jvm.MethodName)) ∈ G := tb_4 (List.mem_of_getElem? (i := 225) rfl) rfl
theorem k_1052 : (Jvm.Cond.code ({ cls := "TurnerHeap$Machine", name := "goOn", desc := "(II)Z" } : Jvm.MethodName) prog_5_method_19_code (5 : Nat) (Option.some Jvm.ClassFile.FieldType.boolean)) ∈ G := tb_4 (List.mem_of_getElem? (i := 226) rfl) rfl
theorem k_1053 : (Jvm.Cond.methodLink "TurnerHeap$Machine" (192 : Nat) ({ cls := "TurnerHeap$Machine", name := "choose", desc := "(I)Z" } : Jvm.MethodName)) ∈ G := tb_4 (List.mem_of_getElem? (i := 227) rfl) rfl
theorem k_1055 : (Jvm.Cond.instanceMethod ({ cls := "TurnerHeap$Machine", name := "choose", desc := "(I)Z" } : Jvm.MethodName)) ∈ G := tb_4 (List.mem_of_getElem? (i := 229) rfl) rfl
theorem k_1056 : (Jvm.Cond.code ({ cls := "TurnerHeap$Machine", name := "choose", desc := "(I)Z" } : Jvm.MethodName) prog_5_method_20_code (2 : Nat) (Option.some Jvm.ClassFile.FieldType.boolean)) ∈ G := tb_4 (List.mem_of_getElem? (i := 230) rfl) rfl
theorem k_1057 : (Jvm.Cond.constantLong "TurnerHeap$Machine" (163 : Nat) (8589934592 : Int64)) ∈ G := tb_4 (List.mem_of_getElem? (i := 231) rfl) rfl
theorem k_1058 : (Jvm.Cond.methodLink "TurnerHeap$Machine" (165 : Nat) ({ cls := "TurnerHeap$Machine", name := "overwrite", desc := "(IJJ)Z" } : Jvm.MethodName)) ∈ G := tb_4 (List.mem_of_getElem? (i := 232) rfl) rfl
theorem k_1060 : (Jvm.Cond.instanceMethod ({ cls := "TurnerHeap$Machine", name := "overwrite", desc := "(IJJ)Z" } : Jvm.MethodName)) ∈ G := tb_4 (List.mem_of_getElem? (i := 234) rfl) rfl
theorem k_1061 : (Jvm.Cond.code ({ cls := "TurnerHeap$Machine", name := "overwrite", desc := "(IJJ)Z" } : Jvm.MethodName) prog_5_method_16_code (7 : Nat) (Option.some Jvm.ClassFile.FieldType.boolean)) ∈ G := tb_4 (List.mem_of_getElem? (i := 235) rfl) rfl
theorem k_1062 : (Jvm.Cond.methodLink "TurnerHeap$Machine" (173 : Nat) ({ cls := "TurnerHeap$Heap", name := "set", desc := "(IJJ)V" } : Jvm.MethodName)) ∈ G := tb_4 (List.mem_of_getElem? (i := 236) rfl) rfl
theorem k_1063 : (Jvm.Cond.methodLink "TurnerHeap$Machine" (195 : Nat) ({ cls := "TurnerHeap$Machine", name := "takeApart", desc := "(II)Z" } : Jvm.MethodName)) ∈ G := tb_4 (List.mem_of_getElem? (i := 237) rfl) rfl
theorem k_1065 : (Jvm.Cond.instanceMethod ({ cls := "TurnerHeap$Machine", name := "takeApart", desc := "(II)Z" } : Jvm.MethodName)) ∈ G := tb_4 (List.mem_of_getElem? (i := 239) rfl) rfl
theorem k_1066 : (Jvm.Cond.code ({ cls := "TurnerHeap$Machine", name := "takeApart", desc := "(II)Z" } : Jvm.MethodName) prog_5_method_21_code (3 : Nat) (Option.some Jvm.ClassFile.FieldType.boolean)) ∈ G := tb_5 (List.mem_of_getElem? (i := 0) rfl) rfl
theorem k_1067 : (Jvm.Cond.methodLink "TurnerHeap$Machine" (202 : Nat) ({ cls := "TurnerHeap$Machine", name := "truth", desc := "(Z)J" } : Jvm.MethodName)) ∈ G := tb_5 (List.mem_of_getElem? (i := 1) rfl) rfl
theorem k_1068 : (Jvm.Cond.static ({ cls := "TurnerHeap$Machine", name := "truth", desc := "(Z)J" } : Jvm.MethodName)) ∈ G := tb_5 (List.mem_of_getElem? (i := 2) rfl) rfl
theorem k_1069 : (Jvm.Cond.code ({ cls := "TurnerHeap$Machine", name := "truth", desc := "(Z)J" } : Jvm.MethodName) prog_5_method_23_code (1 : Nat) (Option.some Jvm.ClassFile.FieldType.long)) ∈ G := tb_5 (List.mem_of_getElem? (i := 3) rfl) rfl
theorem k_1070 : (Jvm.Cond.methodLink "TurnerHeap$Machine" (141 : Nat) ({ cls := "TurnerHeap$Machine", name := "ask", desc := "(IZI)Z" } : Jvm.MethodName)) ∈ G := tb_5 (List.mem_of_getElem? (i := 4) rfl) rfl
theorem k_1072 : (Jvm.Cond.instanceMethod ({ cls := "TurnerHeap$Machine", name := "ask", desc := "(IZI)Z" } : Jvm.MethodName)) ∈ G := tb_5 (List.mem_of_getElem? (i := 6) rfl) rfl
theorem k_1073 : (Jvm.Cond.code ({ cls := "TurnerHeap$Machine", name := "ask", desc := "(IZI)Z" } : Jvm.MethodName) prog_5_method_17_code (6 : Nat) (Option.some Jvm.ClassFile.FieldType.boolean)) ∈ G := tb_5 (List.mem_of_getElem? (i := 7) rfl) rfl
theorem k_1074 : (Jvm.Cond.methodLink "TurnerHeap$Machine" (198 : Nat) ({ cls := "TurnerHeap$Machine", name := "calculate", desc := "(III)J" } : Jvm.MethodName)) ∈ G := tb_5 (List.mem_of_getElem? (i := 8) rfl) rfl
theorem k_1075 : (Jvm.Cond.static ({ cls := "TurnerHeap$Machine", name := "calculate", desc := "(III)J" } : Jvm.MethodName)) ∈ G := tb_5 (List.mem_of_getElem? (i := 9) rfl) rfl
theorem k_1076 : (Jvm.Cond.code ({ cls := "TurnerHeap$Machine", name := "calculate", desc := "(III)J" } : Jvm.MethodName) prog_5_method_22_code (3 : Nat) (Option.some Jvm.ClassFile.FieldType.long)) ∈ G := tb_5 (List.mem_of_getElem? (i := 10) rfl) rfl
theorem k_1077 : (Jvm.Cond.methodLink "TurnerHeap$Machine" (138 : Nat) ({ cls := "TurnerHeap$Machine", name := "rewrite", desc := "(I)Z" } : Jvm.MethodName)) ∈ G := tb_5 (List.mem_of_getElem? (i := 11) rfl) rfl
theorem k_1079 : (Jvm.Cond.instanceMethod ({ cls := "TurnerHeap$Machine", name := "rewrite", desc := "(I)Z" } : Jvm.MethodName)) ∈ G := tb_5 (List.mem_of_getElem? (i := 13) rfl) rfl
theorem k_1080 : (Jvm.Cond.code ({ cls := "TurnerHeap$Machine", name := "rewrite", desc := "(I)Z" } : Jvm.MethodName) prog_5_method_15_code (11 : Nat) (Option.some Jvm.ClassFile.FieldType.boolean)) ∈ G := tb_5 (List.mem_of_getElem? (i := 14) rfl) rfl
theorem k_1081 : (Jvm.Cond.fieldLink "TurnerHeap$Machine" (151 : Nat) "TurnerHeap$Machine" "NEW_CELLS" "[I") ∈ G := tb_5 (List.mem_of_getElem? (i := 15) rfl) rfl
theorem k_1083 : (Jvm.Cond.methodLink "TurnerHeap$Machine" (154 : Nat) ({ cls := "TurnerHeap$Heap", name := "freeCells", desc := "()I" } : Jvm.MethodName)) ∈ G := tb_5 (List.mem_of_getElem? (i := 17) rfl) rfl
theorem k_1084 : (Jvm.Cond.instanceMethod ({ cls := "TurnerHeap$Heap", name := "freeCells", desc := "()I" } : Jvm.MethodName)) ∈ G := tb_5 (List.mem_of_getElem? (i := 18) rfl) rfl
theorem k_1085 : (Jvm.Cond.selects "TurnerHeap$Heap" ({ cls := "TurnerHeap$Heap", name := "freeCells", desc := "()I" } : Jvm.MethodName) ({ cls := "TurnerHeap$Heap", name := "freeCells", desc := "()I" } : Jvm.MethodName)) ∈ G := tb_5 (List.mem_of_getElem? (i := 19) rfl) rfl
theorem k_1086 : (Jvm.Cond.code ({ cls := "TurnerHeap$Heap", name := "freeCells", desc := "()I" } : Jvm.MethodName) prog_3_method_3_code (1 : Nat) (Option.some Jvm.ClassFile.FieldType.int)) ∈ G := tb_5 (List.mem_of_getElem? (i := 20) rfl) rfl
theorem k_1087 : (Jvm.Cond.methodLink "TurnerHeap$Machine" (157 : Nat) ({ cls := "TurnerHeap$Machine", name := "markReached", desc := "()I" } : Jvm.MethodName)) ∈ G := tb_5 (List.mem_of_getElem? (i := 21) rfl) rfl
theorem k_1088 : (Jvm.Cond.instanceMethod ({ cls := "TurnerHeap$Machine", name := "markReached", desc := "()I" } : Jvm.MethodName)) ∈ G := tb_5 (List.mem_of_getElem? (i := 22) rfl) rfl
theorem k_1089 : (Jvm.Cond.selects "TurnerHeap$Machine" ({ cls := "TurnerHeap$Machine", name := "markReached", desc := "()I" } : Jvm.MethodName) ({ cls := "TurnerHeap$Machine", name := "markReached", desc := "()I" } : Jvm.MethodName)) ∈ G := tb_5 (List.mem_of_getElem? (i := 23) rfl) rfl
theorem k_1090 : (Jvm.Cond.code ({ cls := "TurnerHeap$Machine", name := "markReached", desc := "()I" } : Jvm.MethodName) prog_5_method_7_code (2 : Nat) (Option.some Jvm.ClassFile.FieldType.int)) ∈ G := tb_5 (List.mem_of_getElem? (i := 24) rfl) rfl
theorem k_1091 : (Jvm.Cond.methodLink "TurnerHeap$Machine" (70 : Nat) ({ cls := "TurnerHeap$Heap", name := "unmark", desc := "()V" } : Jvm.MethodName)) ∈ G := tb_5 (List.mem_of_getElem? (i := 25) rfl) rfl
theorem k_1092 : (Jvm.Cond.methodLink "TurnerHeap$Machine" (75 : Nat) ({ cls := "TurnerHeap$Heap", name := "markDefinitions", desc := "()V" } : Jvm.MethodName)) ∈ G := tb_5 (List.mem_of_getElem? (i := 26) rfl) rfl
theorem k_1093 : (Jvm.Cond.instanceMethod ({ cls := "TurnerHeap$Heap", name := "markDefinitions", desc := "()V" } : Jvm.MethodName)) ∈ G := tb_5 (List.mem_of_getElem? (i := 27) rfl) rfl
theorem k_1094 : (Jvm.Cond.selects "TurnerHeap$Heap" ({ cls := "TurnerHeap$Heap", name := "markDefinitions", desc := "()V" } : Jvm.MethodName) ({ cls := "TurnerHeap$Heap", name := "markDefinitions", desc := "()V" } : Jvm.MethodName)) ∈ G := tb_5 (List.mem_of_getElem? (i := 28) rfl) rfl
theorem k_1095 : (Jvm.Cond.code ({ cls := "TurnerHeap$Heap", name := "markDefinitions", desc := "()V" } : Jvm.MethodName) prog_3_method_15_code (2 : Nat) (Option.none : Option Jvm.ClassFile.FieldType)) ∈ G := tb_5 (List.mem_of_getElem? (i := 29) rfl) rfl
theorem k_1096 : (Jvm.Cond.methodLink "TurnerHeap$Heap" (99 : Nat) ({ cls := "TurnerHeap$Heap", name := "mark", desc := "(J)V" } : Jvm.MethodName)) ∈ G := tb_5 (List.mem_of_getElem? (i := 30) rfl) rfl
theorem k_1097 : (Jvm.Cond.instanceMethod ({ cls := "TurnerHeap$Heap", name := "mark", desc := "(J)V" } : Jvm.MethodName)) ∈ G := tb_5 (List.mem_of_getElem? (i := 31) rfl) rfl
theorem k_1098 : (Jvm.Cond.selects "TurnerHeap$Heap" ({ cls := "TurnerHeap$Heap", name := "mark", desc := "(J)V" } : Jvm.MethodName) ({ cls := "TurnerHeap$Heap", name := "mark", desc := "(J)V" } : Jvm.MethodName)) ∈ G := tb_5 (List.mem_of_getElem? (i := 32) rfl) rfl
theorem k_1099 : (Jvm.Cond.code ({ cls := "TurnerHeap$Heap", name := "mark", desc := "(J)V" } : Jvm.MethodName) prog_3_method_16_code (5 : Nat) (Option.none : Option Jvm.ClassFile.FieldType)) ∈ G := tb_5 (List.mem_of_getElem? (i := 33) rfl) rfl
theorem k_1100 : (Jvm.Cond.methodLink "TurnerHeap$Heap" (103 : Nat) ({ cls := "TurnerHeap$Heap", name := "note", desc := "(J)V" } : Jvm.MethodName)) ∈ G := tb_5 (List.mem_of_getElem? (i := 34) rfl) rfl
theorem k_1102 : (Jvm.Cond.instanceMethod ({ cls := "TurnerHeap$Heap", name := "note", desc := "(J)V" } : Jvm.MethodName)) ∈ G := tb_5 (List.mem_of_getElem? (i := 36) rfl) rfl
theorem k_1103 : (Jvm.Cond.code ({ cls := "TurnerHeap$Heap", name := "note", desc := "(J)V" } : Jvm.MethodName) prog_3_method_17_code (4 : Nat) (Option.none : Option Jvm.ClassFile.FieldType)) ∈ G := tb_5 (List.mem_of_getElem? (i := 37) rfl) rfl
theorem k_1104 : (Jvm.Cond.methodLink "TurnerHeap$Machine" (78 : Nat) ({ cls := "TurnerHeap$Heap", name := "mark", desc := "(J)V" } : Jvm.MethodName)) ∈ G := tb_5 (List.mem_of_getElem? (i := 38) rfl) rfl
theorem k_1105 : (Jvm.Cond.methodLink "TurnerHeap$Machine" (86 : Nat) ({ cls := "TurnerHeap$Heap", name := "marks", desc := "()I" } : Jvm.MethodName)) ∈ G := tb_5 (List.mem_of_getElem? (i := 39) rfl) rfl
theorem k_1106 : (Jvm.Cond.instanceMethod ({ cls := "TurnerHeap$Heap", name := "marks", desc := "()I" } : Jvm.MethodName)) ∈ G := tb_5 (List.mem_of_getElem? (i := 40) rfl) rfl
theorem k_1107 : (Jvm.Cond.selects "TurnerHeap$Heap" ({ cls := "TurnerHeap$Heap", name := "marks", desc := "()I" } : Jvm.MethodName) ({ cls := "TurnerHeap$Heap", name := "marks", desc := "()I" } : Jvm.MethodName)) ∈ G := tb_5 (List.mem_of_getElem? (i := 41) rfl) rfl
theorem k_1108 : (Jvm.Cond.code ({ cls := "TurnerHeap$Heap", name := "marks", desc := "()I" } : Jvm.MethodName) prog_3_method_14_code (1 : Nat) (Option.some Jvm.ClassFile.FieldType.int)) ∈ G := tb_5 (List.mem_of_getElem? (i := 42) rfl) rfl
theorem k_1109 : (Jvm.Cond.methodLink "TurnerHeap$Machine" (160 : Nat) ({ cls := "TurnerHeap$Heap", name := "sweep", desc := "()V" } : Jvm.MethodName)) ∈ G := tb_5 (List.mem_of_getElem? (i := 43) rfl) rfl
theorem k_1110 : (Jvm.Cond.methodLink "TurnerHeap$Machine" (169 : Nat) ({ cls := "TurnerHeap$Heap", name := "make", desc := "(JJ)J" } : Jvm.MethodName)) ∈ G := tb_5 (List.mem_of_getElem? (i := 44) rfl) rfl
theorem k_1111 : (Jvm.Cond.methodLink "TurnerHeapLaw" (80 : Nat) ({ cls := "TurnerHeapLaw", name := "letter", desc := "(LTurnerHeap;I[J)I" } : Jvm.MethodName)) ∈ G := tb_5 (List.mem_of_getElem? (i := 45) rfl) rfl
theorem k_1112 : (Jvm.Cond.static ({ cls := "TurnerHeapLaw", name := "letter", desc := "(LTurnerHeap;I[J)I" } : Jvm.MethodName)) ∈ G := tb_5 (List.mem_of_getElem? (i := 46) rfl) rfl
theorem k_1113 : (Jvm.Cond.codeWith ({ cls := "TurnerHeapLaw", name := "letter", desc := "(LTurnerHeap;I[J)I" } : Jvm.MethodName) method_6_code (4 : Nat) (Option.some Jvm.ClassFile.FieldType.int) [((0 : Nat), (9 : Nat), (12 : Nat), (30 : Nat))]) ∈ G := tb_5 (List.mem_of_getElem? (i := 47) rfl) rfl
theorem k_1114 : (Jvm.Cond.classLink "TurnerHeapLaw" (30 : Nat) "java/lang/IndexOutOfBoundsException") ∈ G := tb_5 (List.mem_of_getElem? (i := 48) rfl) rfl
theorem k_1115 : (Jvm.Cond.methodLink "TurnerHeapLaw" (27 : Nat) ({ cls := "TurnerHeap", name := "letter", desc := "(I)I" } : Jvm.MethodName)) ∈ G := tb_5 (List.mem_of_getElem? (i := 49) rfl) rfl
theorem k_1116 : (Jvm.Cond.instanceMethod ({ cls := "TurnerHeap", name := "letter", desc := "(I)I" } : Jvm.MethodName)) ∈ G := tb_5 (List.mem_of_getElem? (i := 50) rfl) rfl
theorem k_1117 : (Jvm.Cond.selects "TurnerHeap" ({ cls := "TurnerHeap", name := "letter", desc := "(I)I" } : Jvm.MethodName) ({ cls := "TurnerHeap", name := "letter", desc := "(I)I" } : Jvm.MethodName)) ∈ G := tb_5 (List.mem_of_getElem? (i := 51) rfl) rfl
theorem k_1118 : (Jvm.Cond.code ({ cls := "TurnerHeap", name := "letter", desc := "(I)I" } : Jvm.MethodName) prog_1_method_8_code (2 : Nat) (Option.some Jvm.ClassFile.FieldType.int)) ∈ G := tb_5 (List.mem_of_getElem? (i := 52) rfl) rfl
theorem k_1119 : (Jvm.Cond.methodLink "TurnerHeap" (159 : Nat) ({ cls := "TurnerHeap$Paper", name := "kept", desc := "()I" } : Jvm.MethodName)) ∈ G := tb_5 (List.mem_of_getElem? (i := 53) rfl) rfl
theorem k_1120 : (Jvm.Cond.instanceMethod ({ cls := "TurnerHeap$Paper", name := "kept", desc := "()I" } : Jvm.MethodName)) ∈ G := tb_5 (List.mem_of_getElem? (i := 54) rfl) rfl
theorem k_1121 : (Jvm.Cond.selects "TurnerHeap$Paper" ({ cls := "TurnerHeap$Paper", name := "kept", desc := "()I" } : Jvm.MethodName) ({ cls := "TurnerHeap$Paper", name := "kept", desc := "()I" } : Jvm.MethodName)) ∈ G := tb_5 (List.mem_of_getElem? (i := 55) rfl) rfl
theorem k_1122 : (Jvm.Cond.code ({ cls := "TurnerHeap$Paper", name := "kept", desc := "()I" } : Jvm.MethodName) prog_6_method_4_code (1 : Nat) (Option.some Jvm.ClassFile.FieldType.int)) ∈ G := tb_5 (List.mem_of_getElem? (i := 56) rfl) rfl
theorem k_1123 : (Jvm.Cond.methodLink "TurnerHeap$Paper" (20 : Nat) ({ cls := "java/lang/Math", name := "min", desc := "(II)I" } : Jvm.MethodName)) ∈ G := tb_5 (List.mem_of_getElem? (i := 57) rfl) rfl
theorem k_1124 : (Jvm.Cond.classLink "TurnerHeap" (162 : Nat) "java/lang/IndexOutOfBoundsException") ∈ G := tb_5 (List.mem_of_getElem? (i := 58) rfl) rfl
theorem k_1125 : (Jvm.Cond.instantiable "java/lang/IndexOutOfBoundsException" (6 : Nat)) ∈ G := tb_5 (List.mem_of_getElem? (i := 59) rfl) rfl
theorem k_1127 : (Jvm.Cond.selects "java/lang/IndexOutOfBoundsException" ({ cls := "java/lang/Throwable", name := "fillInStackTrace", desc := "(I)Ljava/lang/Throwable;" } : Jvm.MethodName) ({ cls := "java/lang/Throwable", name := "fillInStackTrace", desc := "(I)Ljava/lang/Throwable;" } : Jvm.MethodName)) ∈ G := tb_5 (List.mem_of_getElem? (i := 61) rfl) rfl
theorem k_1128 : (Jvm.Cond.lays "java/lang/IndexOutOfBoundsException" "java/lang/Throwable" "cause" "Ljava/lang/Throwable;") ∈ G := tb_5 (List.mem_of_getElem? (i := 62) rfl) rfl
theorem k_1129 : (Jvm.Cond.lays "java/lang/IndexOutOfBoundsException" "java/lang/Throwable" "stackTrace" "[Ljava/lang/StackTraceElement;") ∈ G := tb_5 (List.mem_of_getElem? (i := 63) rfl) rfl
theorem k_1130 : (Jvm.Cond.lays "java/lang/IndexOutOfBoundsException" "java/lang/Throwable" "suppressedExceptions" "Ljava/util/List;") ∈ G := tb_5 (List.mem_of_getElem? (i := 64) rfl) rfl
theorem k_1131 : (Jvm.Cond.lays "java/lang/IndexOutOfBoundsException" "java/lang/Throwable" "detailMessage" "Ljava/lang/String;") ∈ G := tb_5 (List.mem_of_getElem? (i := 65) rfl) rfl
theorem k_1132 : (Jvm.Cond.lays "java/lang/IndexOutOfBoundsException" "java/lang/Throwable" "backtrace" "Ljava/lang/Object;") ∈ G := tb_5 (List.mem_of_getElem? (i := 66) rfl) rfl
theorem k_1134 : (Jvm.Cond.methodLink "TurnerHeap" (166 : Nat) ({ cls := "java/lang/IndexOutOfBoundsException", name := "<init>", desc := "(Ljava/lang/String;)V" } : Jvm.MethodName)) ∈ G := tb_5 (List.mem_of_getElem? (i := 68) rfl) rfl
theorem k_1135 : (Jvm.Cond.instanceMethod ({ cls := "java/lang/IndexOutOfBoundsException", name := "<init>", desc := "(Ljava/lang/String;)V" } : Jvm.MethodName)) ∈ G := tb_5 (List.mem_of_getElem? (i := 69) rfl) rfl
theorem k_1136 : (Jvm.Cond.code ({ cls := "java/lang/IndexOutOfBoundsException", name := "<init>", desc := "(Ljava/lang/String;)V" } : Jvm.MethodName) prog_16_method_2_code (2 : Nat) (Option.none : Option Jvm.ClassFile.FieldType)) ∈ G := tb_5 (List.mem_of_getElem? (i := 70) rfl) rfl
theorem k_1137 : (Jvm.Cond.methodLink "java/lang/IndexOutOfBoundsException" (7 : Nat) ({ cls := "java/lang/RuntimeException", name := "<init>", desc := "(Ljava/lang/String;)V" } : Jvm.MethodName)) ∈ G := tb_5 (List.mem_of_getElem? (i := 71) rfl) rfl
theorem k_1138 : (Jvm.Cond.lays "java/lang/IndexOutOfBoundsException" "java/lang/Throwable" "depth" "I") ∈ G := tb_5 (List.mem_of_getElem? (i := 72) rfl) rfl
theorem k_1139 : (Jvm.Cond.superclass "java/lang/IndexOutOfBoundsException" "java/lang/RuntimeException") ∈ G := tb_5 (List.mem_of_getElem? (i := 73) rfl) rfl
theorem k_1140 : (Jvm.Cond.methodLink "TurnerHeap" (167 : Nat) ({ cls := "TurnerHeap$Paper", name := "at", desc := "(I)C" } : Jvm.MethodName)) ∈ G := tb_5 (List.mem_of_getElem? (i := 74) rfl) rfl
theorem k_1141 : (Jvm.Cond.instanceMethod ({ cls := "TurnerHeap$Paper", name := "at", desc := "(I)C" } : Jvm.MethodName)) ∈ G := tb_5 (List.mem_of_getElem? (i := 75) rfl) rfl
theorem k_1142 : (Jvm.Cond.selects "TurnerHeap$Paper" ({ cls := "TurnerHeap$Paper", name := "at", desc := "(I)C" } : Jvm.MethodName) ({ cls := "TurnerHeap$Paper", name := "at", desc := "(I)C" } : Jvm.MethodName)) ∈ G := tb_5 (List.mem_of_getElem? (i := 76) rfl) rfl
theorem k_1143 : (Jvm.Cond.code ({ cls := "TurnerHeap$Paper", name := "at", desc := "(I)C" } : Jvm.MethodName) prog_6_method_5_code (2 : Nat) (Option.some Jvm.ClassFile.FieldType.char)) ∈ G := tb_5 (List.mem_of_getElem? (i := 77) rfl) rfl
theorem k_1144 : (Jvm.Cond.methodLink "TurnerHeapLaw" (83 : Nat) ({ cls := "TurnerHeapLaw", name := "reached", desc := "(LTurnerHeap;[J)I" } : Jvm.MethodName)) ∈ G := tb_5 (List.mem_of_getElem? (i := 78) rfl) rfl
theorem k_1145 : (Jvm.Cond.static ({ cls := "TurnerHeapLaw", name := "reached", desc := "(LTurnerHeap;[J)I" } : Jvm.MethodName)) ∈ G := tb_5 (List.mem_of_getElem? (i := 79) rfl) rfl
theorem k_1146 : (Jvm.Cond.codeWith ({ cls := "TurnerHeapLaw", name := "reached", desc := "(LTurnerHeap;[J)I" } : Jvm.MethodName) method_7_code (3 : Nat) (Option.some Jvm.ClassFile.FieldType.int) [((0 : Nat), (8 : Nat), (11 : Nat), (15 : Nat))]) ∈ G := tb_5 (List.mem_of_getElem? (i := 80) rfl) rfl
theorem k_1147 : (Jvm.Cond.methodLink "TurnerHeapLaw" (32 : Nat) ({ cls := "TurnerHeap", name := "reached", desc := "()I" } : Jvm.MethodName)) ∈ G := tb_5 (List.mem_of_getElem? (i := 81) rfl) rfl
theorem k_1148 : (Jvm.Cond.instanceMethod ({ cls := "TurnerHeap", name := "reached", desc := "()I" } : Jvm.MethodName)) ∈ G := tb_5 (List.mem_of_getElem? (i := 82) rfl) rfl
theorem k_1149 : (Jvm.Cond.selects "TurnerHeap" ({ cls := "TurnerHeap", name := "reached", desc := "()I" } : Jvm.MethodName) ({ cls := "TurnerHeap", name := "reached", desc := "()I" } : Jvm.MethodName)) ∈ G := tb_5 (List.mem_of_getElem? (i := 83) rfl) rfl
theorem k_1150 : (Jvm.Cond.code ({ cls := "TurnerHeap", name := "reached", desc := "()I" } : Jvm.MethodName) prog_1_method_9_code (1 : Nat) (Option.some Jvm.ClassFile.FieldType.int)) ∈ G := tb_5 (List.mem_of_getElem? (i := 84) rfl) rfl
theorem k_1152 : (Jvm.Cond.methodLink "TurnerHeap" (173 : Nat) ({ cls := "TurnerHeap$Machine", name := "markReached", desc := "()I" } : Jvm.MethodName)) ∈ G := tb_5 (List.mem_of_getElem? (i := 86) rfl) rfl
theorem k_1153 : (Jvm.Cond.methodLink "TurnerHeapLaw" (86 : Nat) ({ cls := "TurnerHeapLaw", name := "count", desc := "(LTurnerHeap;I[J)I" } : Jvm.MethodName)) ∈ G := tb_5 (List.mem_of_getElem? (i := 87) rfl) rfl
theorem k_1154 : (Jvm.Cond.static ({ cls := "TurnerHeapLaw", name := "count", desc := "(LTurnerHeap;I[J)I" } : Jvm.MethodName)) ∈ G := tb_5 (List.mem_of_getElem? (i := 88) rfl) rfl
theorem k_1155 : (Jvm.Cond.codeWith ({ cls := "TurnerHeapLaw", name := "count", desc := "(LTurnerHeap;I[J)I" } : Jvm.MethodName) method_8_code (4 : Nat) (Option.some Jvm.ClassFile.FieldType.int) [((0 : Nat), (9 : Nat), (12 : Nat), (30 : Nat))]) ∈ G := tb_5 (List.mem_of_getElem? (i := 89) rfl) rfl
theorem k_1156 : (Jvm.Cond.methodLink "TurnerHeapLaw" (35 : Nat) ({ cls := "TurnerHeap", name := "count", desc := "(I)I" } : Jvm.MethodName)) ∈ G := tb_5 (List.mem_of_getElem? (i := 90) rfl) rfl
theorem k_1157 : (Jvm.Cond.instanceMethod ({ cls := "TurnerHeap", name := "count", desc := "(I)I" } : Jvm.MethodName)) ∈ G := tb_5 (List.mem_of_getElem? (i := 91) rfl) rfl
theorem k_1158 : (Jvm.Cond.selects "TurnerHeap" ({ cls := "TurnerHeap", name := "count", desc := "(I)I" } : Jvm.MethodName) ({ cls := "TurnerHeap", name := "count", desc := "(I)I" } : Jvm.MethodName)) ∈ G := tb_5 (List.mem_of_getElem? (i := 92) rfl) rfl
theorem k_1159 : (Jvm.Cond.code ({ cls := "TurnerHeap", name := "count", desc := "(I)I" } : Jvm.MethodName) prog_1_method_10_code (2 : Nat) (Option.some Jvm.ClassFile.FieldType.int)) ∈ G := tb_5 (List.mem_of_getElem? (i := 93) rfl) rfl
theorem k_1161 : (Jvm.Cond.methodLink "TurnerHeap" (181 : Nat) ({ cls := "TurnerHeap$Machine", name := "steps", desc := "()I" } : Jvm.MethodName)) ∈ G := tb_5 (List.mem_of_getElem? (i := 95) rfl) rfl
theorem k_1162 : (Jvm.Cond.instanceMethod ({ cls := "TurnerHeap$Machine", name := "steps", desc := "()I" } : Jvm.MethodName)) ∈ G := tb_5 (List.mem_of_getElem? (i := 96) rfl) rfl
theorem k_1163 : (Jvm.Cond.selects "TurnerHeap$Machine" ({ cls := "TurnerHeap$Machine", name := "steps", desc := "()I" } : Jvm.MethodName) ({ cls := "TurnerHeap$Machine", name := "steps", desc := "()I" } : Jvm.MethodName)) ∈ G := tb_5 (List.mem_of_getElem? (i := 97) rfl) rfl
theorem k_1164 : (Jvm.Cond.code ({ cls := "TurnerHeap$Machine", name := "steps", desc := "()I" } : Jvm.MethodName) prog_5_method_3_code (1 : Nat) (Option.some Jvm.ClassFile.FieldType.int)) ∈ G := tb_5 (List.mem_of_getElem? (i := 98) rfl) rfl
theorem k_1165 : (Jvm.Cond.methodLink "TurnerHeap" (184 : Nat) ({ cls := "TurnerHeap$Machine", name := "mostOnSpines", desc := "()I" } : Jvm.MethodName)) ∈ G := tb_5 (List.mem_of_getElem? (i := 99) rfl) rfl
theorem k_1166 : (Jvm.Cond.instanceMethod ({ cls := "TurnerHeap$Machine", name := "mostOnSpines", desc := "()I" } : Jvm.MethodName)) ∈ G := tb_5 (List.mem_of_getElem? (i := 100) rfl) rfl
theorem k_1167 : (Jvm.Cond.selects "TurnerHeap$Machine" ({ cls := "TurnerHeap$Machine", name := "mostOnSpines", desc := "()I" } : Jvm.MethodName) ({ cls := "TurnerHeap$Machine", name := "mostOnSpines", desc := "()I" } : Jvm.MethodName)) ∈ G := tb_5 (List.mem_of_getElem? (i := 101) rfl) rfl
theorem k_1168 : (Jvm.Cond.code ({ cls := "TurnerHeap$Machine", name := "mostOnSpines", desc := "()I" } : Jvm.MethodName) prog_5_method_5_code (1 : Nat) (Option.some Jvm.ClassFile.FieldType.int)) ∈ G := tb_5 (List.mem_of_getElem? (i := 102) rfl) rfl
theorem k_1169 : (Jvm.Cond.methodLink "TurnerHeap" (187 : Nat) ({ cls := "TurnerHeap$Machine", name := "onSpines", desc := "()I" } : Jvm.MethodName)) ∈ G := tb_5 (List.mem_of_getElem? (i := 103) rfl) rfl
theorem k_1170 : (Jvm.Cond.instanceMethod ({ cls := "TurnerHeap$Machine", name := "onSpines", desc := "()I" } : Jvm.MethodName)) ∈ G := tb_5 (List.mem_of_getElem? (i := 104) rfl) rfl
theorem k_1171 : (Jvm.Cond.selects "TurnerHeap$Machine" ({ cls := "TurnerHeap$Machine", name := "onSpines", desc := "()I" } : Jvm.MethodName) ({ cls := "TurnerHeap$Machine", name := "onSpines", desc := "()I" } : Jvm.MethodName)) ∈ G := tb_5 (List.mem_of_getElem? (i := 105) rfl) rfl
theorem k_1172 : (Jvm.Cond.code ({ cls := "TurnerHeap$Machine", name := "onSpines", desc := "()I" } : Jvm.MethodName) prog_5_method_4_code (1 : Nat) (Option.some Jvm.ClassFile.FieldType.int)) ∈ G := tb_5 (List.mem_of_getElem? (i := 106) rfl) rfl
theorem k_1173 : (Jvm.Cond.methodLink "TurnerHeapLaw" (89 : Nat) ({ cls := "TurnerHeapLaw", name := "form", desc := "(LTurnerHeap;II[J)I" } : Jvm.MethodName)) ∈ G := tb_5 (List.mem_of_getElem? (i := 107) rfl) rfl
theorem k_1174 : (Jvm.Cond.static ({ cls := "TurnerHeapLaw", name := "form", desc := "(LTurnerHeap;II[J)I" } : Jvm.MethodName)) ∈ G := tb_5 (List.mem_of_getElem? (i := 108) rfl) rfl
theorem k_1175 : (Jvm.Cond.codeWith ({ cls := "TurnerHeapLaw", name := "form", desc := "(LTurnerHeap;II[J)I" } : Jvm.MethodName) method_9_code (5 : Nat) (Option.some Jvm.ClassFile.FieldType.int) [((0 : Nat), (10 : Nat), (13 : Nat), (30 : Nat))]) ∈ G := tb_5 (List.mem_of_getElem? (i := 109) rfl) rfl
theorem k_1176 : (Jvm.Cond.methodLink "TurnerHeapLaw" (38 : Nat) ({ cls := "TurnerHeap", name := "form", desc := "(II)I" } : Jvm.MethodName)) ∈ G := tb_5 (List.mem_of_getElem? (i := 110) rfl) rfl
theorem k_1177 : (Jvm.Cond.instanceMethod ({ cls := "TurnerHeap", name := "form", desc := "(II)I" } : Jvm.MethodName)) ∈ G := tb_5 (List.mem_of_getElem? (i := 111) rfl) rfl
theorem k_1178 : (Jvm.Cond.selects "TurnerHeap" ({ cls := "TurnerHeap", name := "form", desc := "(II)I" } : Jvm.MethodName) ({ cls := "TurnerHeap", name := "form", desc := "(II)I" } : Jvm.MethodName)) ∈ G := tb_5 (List.mem_of_getElem? (i := 112) rfl) rfl
theorem k_1179 : (Jvm.Cond.code ({ cls := "TurnerHeap", name := "form", desc := "(II)I" } : Jvm.MethodName) prog_1_method_11_code (3 : Nat) (Option.some Jvm.ClassFile.FieldType.int)) ∈ G := tb_5 (List.mem_of_getElem? (i := 113) rfl) rfl
theorem k_1181 : (Jvm.Cond.methodLink "TurnerHeap" (192 : Nat) ({ cls := "TurnerHeap$Forms", name := "of", desc := "(II)I" } : Jvm.MethodName)) ∈ G := tb_5 (List.mem_of_getElem? (i := 115) rfl) rfl
theorem k_1182 : (Jvm.Cond.instanceMethod ({ cls := "TurnerHeap$Forms", name := "of", desc := "(II)I" } : Jvm.MethodName)) ∈ G := tb_5 (List.mem_of_getElem? (i := 116) rfl) rfl
theorem k_1183 : (Jvm.Cond.selects "TurnerHeap$Forms" ({ cls := "TurnerHeap$Forms", name := "of", desc := "(II)I" } : Jvm.MethodName) ({ cls := "TurnerHeap$Forms", name := "of", desc := "(II)I" } : Jvm.MethodName)) ∈ G := tb_5 (List.mem_of_getElem? (i := 117) rfl) rfl
theorem k_1184 : (Jvm.Cond.code ({ cls := "TurnerHeap$Forms", name := "of", desc := "(II)I" } : Jvm.MethodName) prog_2_method_2_code (3 : Nat) (Option.some Jvm.ClassFile.FieldType.int)) ∈ G := tb_5 (List.mem_of_getElem? (i := 118) rfl) rfl
theorem k_1185 : (Jvm.Cond.classLink "TurnerHeapLaw" (51 : Nat) "TurnerHeapModel") ∈ G := tb_5 (List.mem_of_getElem? (i := 119) rfl) rfl
theorem k_1186 : (Jvm.Cond.instantiable "TurnerHeapModel" (55 : Nat)) ∈ G := tb_5 (List.mem_of_getElem? (i := 120) rfl) rfl
theorem k_1187 : (Jvm.Cond.methodLink "TurnerHeapLaw" (53 : Nat) ({ cls := "TurnerHeapModel", name := "<init>", desc := "(I)V" } : Jvm.MethodName)) ∈ G := tb_5 (List.mem_of_getElem? (i := 121) rfl) rfl
theorem k_1188 : (Jvm.Cond.instanceMethod ({ cls := "TurnerHeapModel", name := "<init>", desc := "(I)V" } : Jvm.MethodName)) ∈ G := tb_5 (List.mem_of_getElem? (i := 122) rfl) rfl
theorem k_1189 : (Jvm.Cond.code ({ cls := "TurnerHeapModel", name := "<init>", desc := "(I)V" } : Jvm.MethodName) prog_11_method_1_code (2 : Nat) (Option.none : Option Jvm.ClassFile.FieldType)) ∈ G := tb_5 (List.mem_of_getElem? (i := 123) rfl) rfl
theorem k_1190 : (Jvm.Cond.methodLink "TurnerHeapModel" (1 : Nat) ({ cls := "java/lang/Object", name := "<init>", desc := "()V" } : Jvm.MethodName)) ∈ G := tb_5 (List.mem_of_getElem? (i := 124) rfl) rfl
theorem k_1191 : (Jvm.Cond.fieldLink "TurnerHeapModel" (112 : Nat) "TurnerHeapModel" "thrown" "I") ∈ G := tb_5 (List.mem_of_getElem? (i := 125) rfl) rfl
theorem k_1192 : (Jvm.Cond.fieldLink "TurnerHeapModel" (108 : Nat) "TurnerHeapModel" "room" "I") ∈ G := tb_5 (List.mem_of_getElem? (i := 126) rfl) rfl
theorem k_1193 : (Jvm.Cond.fieldLink "TurnerHeapModel" (125 : Nat) "TurnerHeapModel" "length" "I") ∈ G := tb_5 (List.mem_of_getElem? (i := 127) rfl) rfl
theorem k_1194 : (Jvm.Cond.fieldLink "TurnerHeapModel" (7 : Nat) "TurnerHeapModel" "text" "[I") ∈ G := tb_5 (List.mem_of_getElem? (i := 128) rfl) rfl
theorem k_1195 : (Jvm.Cond.fieldLink "TurnerHeapModel" (131 : Nat) "TurnerHeapModel" "lexemes" "I") ∈ G := tb_5 (List.mem_of_getElem? (i := 129) rfl) rfl
theorem k_1196 : (Jvm.Cond.fieldLink "TurnerHeapModel" (158 : Nat) "TurnerHeapModel" "at" "I") ∈ G := tb_5 (List.mem_of_getElem? (i := 130) rfl) rfl
theorem k_1197 : (Jvm.Cond.fieldLink "TurnerHeapModel" (128 : Nat) "TurnerHeapModel" "bad" "I") ∈ G := tb_5 (List.mem_of_getElem? (i := 131) rfl) rfl
theorem k_1198 : (Jvm.Cond.fieldLink "TurnerHeapModel" (13 : Nat) "TurnerHeapModel" "kind" "[I") ∈ G := tb_5 (List.mem_of_getElem? (i := 132) rfl) rfl
theorem k_1199 : (Jvm.Cond.fieldLink "TurnerHeapModel" (16 : Nat) "TurnerHeapModel" "what" "[J") ∈ G := tb_5 (List.mem_of_getElem? (i := 133) rfl) rfl
theorem k_1200 : (Jvm.Cond.fieldLink "TurnerHeapModel" (20 : Nat) "TurnerHeapModel" "left" "[J") ∈ G := tb_5 (List.mem_of_getElem? (i := 134) rfl) rfl
theorem k_1201 : (Jvm.Cond.fieldLink "TurnerHeapModel" (23 : Nat) "TurnerHeapModel" "right" "[J") ∈ G := tb_5 (List.mem_of_getElem? (i := 135) rfl) rfl
theorem k_1202 : (Jvm.Cond.fieldLink "TurnerHeapModel" (175 : Nat) "TurnerHeapModel" "frees" "I") ∈ G := tb_5 (List.mem_of_getElem? (i := 136) rfl) rfl
theorem k_1203 : (Jvm.Cond.fieldLink "TurnerHeapModel" (26 : Nat) "TurnerHeapModel" "free" "[I") ∈ G := tb_5 (List.mem_of_getElem? (i := 137) rfl) rfl
theorem k_1204 : (Jvm.Cond.fieldLink "TurnerHeapModel" (29 : Nat) "TurnerHeapModel" "order" "[I") ∈ G := tb_5 (List.mem_of_getElem? (i := 138) rfl) rfl
theorem k_1205 : (Jvm.Cond.fieldLink "TurnerHeapModel" (32 : Nat) "TurnerHeapModel" "has" "[Z") ∈ G := tb_5 (List.mem_of_getElem? (i := 139) rfl) rfl
theorem k_1206 : (Jvm.Cond.fieldLink "TurnerHeapModel" (36 : Nat) "TurnerHeapModel" "becomes" "[J") ∈ G := tb_5 (List.mem_of_getElem? (i := 140) rfl) rfl
theorem k_1207 : (Jvm.Cond.fieldLink "TurnerHeapModel" (221 : Nat) "TurnerHeapModel" "deep" "I") ∈ G := tb_5 (List.mem_of_getElem? (i := 141) rfl) rfl
theorem k_1208 : (Jvm.Cond.fieldLink "TurnerHeapModel" (218 : Nat) "TurnerHeapModel" "operands" "I") ∈ G := tb_5 (List.mem_of_getElem? (i := 142) rfl) rfl
theorem k_1209 : (Jvm.Cond.fieldLink "TurnerHeapModel" (227 : Nat) "TurnerHeapModel" "operations" "I") ∈ G := tb_5 (List.mem_of_getElem? (i := 143) rfl) rfl
theorem k_1210 : (Jvm.Cond.fieldLink "TurnerHeapModel" (237 : Nat) "TurnerHeapModel" "bound" "I") ∈ G := tb_5 (List.mem_of_getElem? (i := 144) rfl) rfl
theorem k_1211 : (Jvm.Cond.fieldLink "TurnerHeapModel" (39 : Nat) "TurnerHeapModel" "sort" "[I") ∈ G := tb_5 (List.mem_of_getElem? (i := 145) rfl) rfl
theorem k_1212 : (Jvm.Cond.fieldLink "TurnerHeapModel" (42 : Nat) "TurnerHeapModel" "base" "[I") ∈ G := tb_5 (List.mem_of_getElem? (i := 146) rfl) rfl
theorem k_1213 : (Jvm.Cond.fieldLink "TurnerHeapModel" (45 : Nat) "TurnerHeapModel" "first" "[I") ∈ G := tb_5 (List.mem_of_getElem? (i := 147) rfl) rfl
theorem k_1214 : (Jvm.Cond.fieldLink "TurnerHeapModel" (48 : Nat) "TurnerHeapModel" "ready" "[Z") ∈ G := tb_5 (List.mem_of_getElem? (i := 148) rfl) rfl
theorem k_1215 : (Jvm.Cond.fieldLink "TurnerHeapModel" (51 : Nat) "TurnerHeapModel" "fresh" "[Z") ∈ G := tb_5 (List.mem_of_getElem? (i := 149) rfl) rfl
theorem k_1216 : (Jvm.Cond.fieldLink "TurnerHeapModel" (54 : Nat) "TurnerHeapModel" "operand" "[J") ∈ G := tb_5 (List.mem_of_getElem? (i := 150) rfl) rfl
theorem k_1217 : (Jvm.Cond.fieldLink "TurnerHeapModel" (57 : Nat) "TurnerHeapModel" "operation" "[I") ∈ G := tb_5 (List.mem_of_getElem? (i := 151) rfl) rfl
theorem k_1218 : (Jvm.Cond.fieldLink "TurnerHeapModel" (60 : Nat) "TurnerHeapModel" "names" "[J") ∈ G := tb_5 (List.mem_of_getElem? (i := 152) rfl) rfl
theorem k_1219 : (Jvm.Cond.fieldLink "TurnerHeapModel" (240 : Nat) "TurnerHeapModel" "definitions" "I") ∈ G := tb_5 (List.mem_of_getElem? (i := 153) rfl) rfl
theorem k_1220 : (Jvm.Cond.fieldLink "TurnerHeapModel" (63 : Nat) "TurnerHeapModel" "defined" "[J") ∈ G := tb_5 (List.mem_of_getElem? (i := 154) rfl) rfl
theorem k_1221 : (Jvm.Cond.fieldLink "TurnerHeapModel" (66 : Nat) "TurnerHeapModel" "terms" "[J") ∈ G := tb_5 (List.mem_of_getElem? (i := 155) rfl) rfl
theorem k_1222 : (Jvm.Cond.fieldLink "TurnerHeapModel" (69 : Nat) "TurnerHeapModel" "forms" "[I") ∈ G := tb_5 (List.mem_of_getElem? (i := 156) rfl) rfl
theorem k_1223 : (Jvm.Cond.fieldLink "TurnerHeapModel" (321 : Nat) "TurnerHeapModel" "there" "Z") ∈ G := tb_5 (List.mem_of_getElem? (i := 157) rfl) rfl
theorem k_1224 : (Jvm.Cond.fieldLink "TurnerHeapModel" (72 : Nat) "TurnerHeapModel" "one" "[J") ∈ G := tb_5 (List.mem_of_getElem? (i := 158) rfl) rfl
theorem k_1225 : (Jvm.Cond.fieldLink "TurnerHeapModel" (75 : Nat) "TurnerHeapModel" "two" "[J") ∈ G := tb_5 (List.mem_of_getElem? (i := 159) rfl) rfl
theorem k_1226 : (Jvm.Cond.fieldLink "TurnerHeapModel" (78 : Nat) "TurnerHeapModel" "marked" "[Z") ∈ G := tb_5 (List.mem_of_getElem? (i := 160) rfl) rfl
theorem k_1227 : (Jvm.Cond.fieldLink "TurnerHeapModel" (81 : Nat) "TurnerHeapModel" "walk" "[I") ∈ G := tb_5 (List.mem_of_getElem? (i := 161) rfl) rfl
theorem k_1228 : (Jvm.Cond.fieldLink "TurnerHeapModel" (84 : Nat) "TurnerHeapModel" "spine" "[I") ∈ G := tb_5 (List.mem_of_getElem? (i := 162) rfl) rfl
theorem k_1229 : (Jvm.Cond.fieldLink "TurnerHeapModel" (342 : Nat) "TurnerHeapModel" "top" "I") ∈ G := tb_5 (List.mem_of_getElem? (i := 163) rfl) rfl
theorem k_1230 : (Jvm.Cond.fieldLink "TurnerHeapModel" (345 : Nat) "TurnerHeapModel" "most" "I") ∈ G := tb_5 (List.mem_of_getElem? (i := 164) rfl) rfl
theorem k_1231 : (Jvm.Cond.fieldLink "TurnerHeapModel" (348 : Nat) "TurnerHeapModel" "evals" "I") ∈ G := tb_5 (List.mem_of_getElem? (i := 165) rfl) rfl
theorem k_1232 : (Jvm.Cond.fieldLink "TurnerHeapModel" (351 : Nat) "TurnerHeapModel" "steps" "I") ∈ G := tb_5 (List.mem_of_getElem? (i := 166) rfl) rfl
theorem k_1233 : (Jvm.Cond.fieldLink "TurnerHeapModel" (354 : Nat) "TurnerHeapModel" "stop" "I") ∈ G := tb_5 (List.mem_of_getElem? (i := 167) rfl) rfl
theorem k_1234 : (Jvm.Cond.fieldLink "TurnerHeapModel" (87 : Nat) "TurnerHeapModel" "bases" "[I") ∈ G := tb_5 (List.mem_of_getElem? (i := 168) rfl) rfl
theorem k_1235 : (Jvm.Cond.fieldLink "TurnerHeapModel" (90 : Nat) "TurnerHeapModel" "waits" "[I") ∈ G := tb_5 (List.mem_of_getElem? (i := 169) rfl) rfl
theorem k_1236 : (Jvm.Cond.fieldLink "TurnerHeapModel" (93 : Nat) "TurnerHeapModel" "second" "[Z") ∈ G := tb_5 (List.mem_of_getElem? (i := 170) rfl) rfl
theorem k_1237 : (Jvm.Cond.fieldLink "TurnerHeapModel" (96 : Nat) "TurnerHeapModel" "number" "[I") ∈ G := tb_5 (List.mem_of_getElem? (i := 171) rfl) rfl
theorem k_1238 : (Jvm.Cond.fieldLink "TurnerHeapModel" (357 : Nat) "TurnerHeapModel" "looked" "J") ∈ G := tb_5 (List.mem_of_getElem? (i := 172) rfl) rfl
theorem k_1239 : (Jvm.Cond.fieldLink "TurnerHeapModel" (371 : Nat) "TurnerHeapModel" "rest" "J") ∈ G := tb_5 (List.mem_of_getElem? (i := 173) rfl) rfl
theorem k_1240 : (Jvm.Cond.fieldLink "TurnerHeapModel" (361 : Nat) "TurnerHeapModel" "prints" "I") ∈ G := tb_5 (List.mem_of_getElem? (i := 174) rfl) rfl
theorem k_1241 : (Jvm.Cond.fieldLink "TurnerHeapModel" (364 : Nat) "TurnerHeapModel" "out" "I") ∈ G := tb_5 (List.mem_of_getElem? (i := 175) rfl) rfl
theorem k_1242 : (Jvm.Cond.fieldLink "TurnerHeapModel" (99 : Nat) "TurnerHeapModel" "letters" "[I") ∈ G := tb_5 (List.mem_of_getElem? (i := 176) rfl) rfl
theorem k_1243 : (Jvm.Cond.fieldLink "TurnerHeapModel" (102 : Nat) "TurnerHeapModel" "gone" "[Z") ∈ G := tb_5 (List.mem_of_getElem? (i := 177) rfl) rfl
theorem k_1244 : (Jvm.Cond.fieldLink "TurnerHeapModel" (298 : Nat) "TurnerHeapModel" "closed" "Z") ∈ G := tb_5 (List.mem_of_getElem? (i := 178) rfl) rfl
theorem k_1245 : (Jvm.Cond.fieldLink "TurnerHeapModel" (105 : Nat) "TurnerHeapModel" "place" "[I") ∈ G := tb_5 (List.mem_of_getElem? (i := 179) rfl) rfl
theorem k_1246 : (Jvm.Cond.lays "TurnerHeapModel" "TurnerHeapModel" "thrown" "I") ∈ G := tb_5 (List.mem_of_getElem? (i := 180) rfl) rfl
theorem k_1248 : (Jvm.Cond.laysFinal "TurnerHeapModel" "TurnerHeapModel" "room" "I") ∈ G := tb_5 (List.mem_of_getElem? (i := 182) rfl) rfl
theorem k_1250 : (Jvm.Cond.lays "TurnerHeapModel" "TurnerHeapModel" "length" "I") ∈ G := tb_5 (List.mem_of_getElem? (i := 184) rfl) rfl
theorem k_1252 : (Jvm.Cond.laysFinal "TurnerHeapModel" "TurnerHeapModel" "text" "[I") ∈ G := tb_5 (List.mem_of_getElem? (i := 186) rfl) rfl
theorem k_1254 : (Jvm.Cond.lays "TurnerHeapModel" "TurnerHeapModel" "lexemes" "I") ∈ G := tb_5 (List.mem_of_getElem? (i := 188) rfl) rfl
theorem k_1256 : (Jvm.Cond.lays "TurnerHeapModel" "TurnerHeapModel" "at" "I") ∈ G := tb_5 (List.mem_of_getElem? (i := 190) rfl) rfl
theorem k_1258 : (Jvm.Cond.lays "TurnerHeapModel" "TurnerHeapModel" "bad" "I") ∈ G := tb_5 (List.mem_of_getElem? (i := 192) rfl) rfl
theorem k_1260 : (Jvm.Cond.laysFinal "TurnerHeapModel" "TurnerHeapModel" "kind" "[I") ∈ G := tb_5 (List.mem_of_getElem? (i := 194) rfl) rfl
theorem k_1262 : (Jvm.Cond.laysFinal "TurnerHeapModel" "TurnerHeapModel" "what" "[J") ∈ G := tb_5 (List.mem_of_getElem? (i := 196) rfl) rfl
theorem k_1264 : (Jvm.Cond.laysFinal "TurnerHeapModel" "TurnerHeapModel" "left" "[J") ∈ G := tb_5 (List.mem_of_getElem? (i := 198) rfl) rfl
theorem k_1266 : (Jvm.Cond.laysFinal "TurnerHeapModel" "TurnerHeapModel" "right" "[J") ∈ G := tb_5 (List.mem_of_getElem? (i := 200) rfl) rfl
theorem k_1268 : (Jvm.Cond.lays "TurnerHeapModel" "TurnerHeapModel" "frees" "I") ∈ G := tb_5 (List.mem_of_getElem? (i := 202) rfl) rfl
theorem k_1270 : (Jvm.Cond.laysFinal "TurnerHeapModel" "TurnerHeapModel" "free" "[I") ∈ G := tb_5 (List.mem_of_getElem? (i := 204) rfl) rfl
theorem k_1272 : (Jvm.Cond.laysFinal "TurnerHeapModel" "TurnerHeapModel" "order" "[I") ∈ G := tb_5 (List.mem_of_getElem? (i := 206) rfl) rfl
theorem k_1274 : (Jvm.Cond.laysFinal "TurnerHeapModel" "TurnerHeapModel" "has" "[Z") ∈ G := tb_5 (List.mem_of_getElem? (i := 208) rfl) rfl
theorem k_1276 : (Jvm.Cond.laysFinal "TurnerHeapModel" "TurnerHeapModel" "becomes" "[J") ∈ G := tb_5 (List.mem_of_getElem? (i := 210) rfl) rfl
theorem k_1278 : (Jvm.Cond.lays "TurnerHeapModel" "TurnerHeapModel" "deep" "I") ∈ G := tb_5 (List.mem_of_getElem? (i := 212) rfl) rfl
theorem k_1280 : (Jvm.Cond.lays "TurnerHeapModel" "TurnerHeapModel" "operands" "I") ∈ G := tb_5 (List.mem_of_getElem? (i := 214) rfl) rfl
theorem k_1282 : (Jvm.Cond.lays "TurnerHeapModel" "TurnerHeapModel" "operations" "I") ∈ G := tb_5 (List.mem_of_getElem? (i := 216) rfl) rfl
theorem k_1284 : (Jvm.Cond.lays "TurnerHeapModel" "TurnerHeapModel" "bound" "I") ∈ G := tb_5 (List.mem_of_getElem? (i := 218) rfl) rfl
theorem k_1286 : (Jvm.Cond.laysFinal "TurnerHeapModel" "TurnerHeapModel" "sort" "[I") ∈ G := tb_5 (List.mem_of_getElem? (i := 220) rfl) rfl
theorem k_1288 : (Jvm.Cond.laysFinal "TurnerHeapModel" "TurnerHeapModel" "base" "[I") ∈ G := tb_5 (List.mem_of_getElem? (i := 222) rfl) rfl
theorem k_1290 : (Jvm.Cond.laysFinal "TurnerHeapModel" "TurnerHeapModel" "first" "[I") ∈ G := tb_5 (List.mem_of_getElem? (i := 224) rfl) rfl
theorem k_1292 : (Jvm.Cond.laysFinal "TurnerHeapModel" "TurnerHeapModel" "ready" "[Z") ∈ G := tb_5 (List.mem_of_getElem? (i := 226) rfl) rfl
theorem k_1294 : (Jvm.Cond.laysFinal "TurnerHeapModel" "TurnerHeapModel" "fresh" "[Z") ∈ G := tb_5 (List.mem_of_getElem? (i := 228) rfl) rfl
theorem k_1296 : (Jvm.Cond.laysFinal "TurnerHeapModel" "TurnerHeapModel" "operand" "[J") ∈ G := tb_5 (List.mem_of_getElem? (i := 230) rfl) rfl
theorem k_1298 : (Jvm.Cond.laysFinal "TurnerHeapModel" "TurnerHeapModel" "operation" "[I") ∈ G := tb_5 (List.mem_of_getElem? (i := 232) rfl) rfl
theorem k_1300 : (Jvm.Cond.laysFinal "TurnerHeapModel" "TurnerHeapModel" "names" "[J") ∈ G := tb_5 (List.mem_of_getElem? (i := 234) rfl) rfl
theorem k_1302 : (Jvm.Cond.lays "TurnerHeapModel" "TurnerHeapModel" "definitions" "I") ∈ G := tb_5 (List.mem_of_getElem? (i := 236) rfl) rfl
theorem k_1304 : (Jvm.Cond.laysFinal "TurnerHeapModel" "TurnerHeapModel" "defined" "[J") ∈ G := tb_5 (List.mem_of_getElem? (i := 238) rfl) rfl
theorem k_1306 : (Jvm.Cond.laysFinal "TurnerHeapModel" "TurnerHeapModel" "terms" "[J") ∈ G := tb_6 (List.mem_of_getElem? (i := 0) rfl) rfl
theorem k_1308 : (Jvm.Cond.laysFinal "TurnerHeapModel" "TurnerHeapModel" "forms" "[I") ∈ G := tb_6 (List.mem_of_getElem? (i := 2) rfl) rfl
theorem k_1310 : (Jvm.Cond.lays "TurnerHeapModel" "TurnerHeapModel" "there" "Z") ∈ G := tb_6 (List.mem_of_getElem? (i := 4) rfl) rfl
theorem k_1312 : (Jvm.Cond.laysFinal "TurnerHeapModel" "TurnerHeapModel" "one" "[J") ∈ G := tb_6 (List.mem_of_getElem? (i := 6) rfl) rfl
theorem k_1314 : (Jvm.Cond.laysFinal "TurnerHeapModel" "TurnerHeapModel" "two" "[J") ∈ G := tb_6 (List.mem_of_getElem? (i := 8) rfl) rfl
theorem k_1316 : (Jvm.Cond.laysFinal "TurnerHeapModel" "TurnerHeapModel" "marked" "[Z") ∈ G := tb_6 (List.mem_of_getElem? (i := 10) rfl) rfl
theorem k_1318 : (Jvm.Cond.laysFinal "TurnerHeapModel" "TurnerHeapModel" "walk" "[I") ∈ G := tb_6 (List.mem_of_getElem? (i := 12) rfl) rfl
theorem k_1320 : (Jvm.Cond.laysFinal "TurnerHeapModel" "TurnerHeapModel" "spine" "[I") ∈ G := tb_6 (List.mem_of_getElem? (i := 14) rfl) rfl
theorem k_1322 : (Jvm.Cond.lays "TurnerHeapModel" "TurnerHeapModel" "top" "I") ∈ G := tb_6 (List.mem_of_getElem? (i := 16) rfl) rfl
theorem k_1324 : (Jvm.Cond.lays "TurnerHeapModel" "TurnerHeapModel" "most" "I") ∈ G := tb_6 (List.mem_of_getElem? (i := 18) rfl) rfl
theorem k_1326 : (Jvm.Cond.lays "TurnerHeapModel" "TurnerHeapModel" "evals" "I") ∈ G := tb_6 (List.mem_of_getElem? (i := 20) rfl) rfl
theorem k_1328 : (Jvm.Cond.lays "TurnerHeapModel" "TurnerHeapModel" "steps" "I") ∈ G := tb_6 (List.mem_of_getElem? (i := 22) rfl) rfl
theorem k_1330 : (Jvm.Cond.lays "TurnerHeapModel" "TurnerHeapModel" "stop" "I") ∈ G := tb_6 (List.mem_of_getElem? (i := 24) rfl) rfl
theorem k_1332 : (Jvm.Cond.laysFinal "TurnerHeapModel" "TurnerHeapModel" "bases" "[I") ∈ G := tb_6 (List.mem_of_getElem? (i := 26) rfl) rfl
theorem k_1334 : (Jvm.Cond.laysFinal "TurnerHeapModel" "TurnerHeapModel" "waits" "[I") ∈ G := tb_6 (List.mem_of_getElem? (i := 28) rfl) rfl
theorem k_1336 : (Jvm.Cond.laysFinal "TurnerHeapModel" "TurnerHeapModel" "second" "[Z") ∈ G := tb_6 (List.mem_of_getElem? (i := 30) rfl) rfl
theorem k_1338 : (Jvm.Cond.laysFinal "TurnerHeapModel" "TurnerHeapModel" "number" "[I") ∈ G := tb_6 (List.mem_of_getElem? (i := 32) rfl) rfl
theorem k_1340 : (Jvm.Cond.lays "TurnerHeapModel" "TurnerHeapModel" "looked" "J") ∈ G := tb_6 (List.mem_of_getElem? (i := 34) rfl) rfl
theorem k_1342 : (Jvm.Cond.lays "TurnerHeapModel" "TurnerHeapModel" "rest" "J") ∈ G := tb_6 (List.mem_of_getElem? (i := 36) rfl) rfl
theorem k_1344 : (Jvm.Cond.lays "TurnerHeapModel" "TurnerHeapModel" "prints" "I") ∈ G := tb_6 (List.mem_of_getElem? (i := 38) rfl) rfl
theorem k_1346 : (Jvm.Cond.lays "TurnerHeapModel" "TurnerHeapModel" "out" "I") ∈ G := tb_6 (List.mem_of_getElem? (i := 40) rfl) rfl
theorem k_1348 : (Jvm.Cond.laysFinal "TurnerHeapModel" "TurnerHeapModel" "letters" "[I") ∈ G := tb_6 (List.mem_of_getElem? (i := 42) rfl) rfl
theorem k_1350 : (Jvm.Cond.laysFinal "TurnerHeapModel" "TurnerHeapModel" "gone" "[Z") ∈ G := tb_6 (List.mem_of_getElem? (i := 44) rfl) rfl
theorem k_1352 : (Jvm.Cond.lays "TurnerHeapModel" "TurnerHeapModel" "closed" "Z") ∈ G := tb_6 (List.mem_of_getElem? (i := 46) rfl) rfl
theorem k_1354 : (Jvm.Cond.laysFinal "TurnerHeapModel" "TurnerHeapModel" "place" "[I") ∈ G := tb_6 (List.mem_of_getElem? (i := 48) rfl) rfl
theorem k_1356 : (Jvm.Cond.superclass "TurnerHeapModel" "java/lang/Object") ∈ G := tb_6 (List.mem_of_getElem? (i := 50) rfl) rfl
theorem k_1357 : (Jvm.Cond.methodLink "TurnerHeapLaw" (59 : Nat) ({ cls := "TurnerHeapModel", name := "write", desc := "(JI)I" } : Jvm.MethodName)) ∈ G := tb_6 (List.mem_of_getElem? (i := 51) rfl) rfl
theorem k_1358 : (Jvm.Cond.instanceMethod ({ cls := "TurnerHeapModel", name := "write", desc := "(JI)I" } : Jvm.MethodName)) ∈ G := tb_6 (List.mem_of_getElem? (i := 52) rfl) rfl
theorem k_1359 : (Jvm.Cond.selects "TurnerHeapModel" ({ cls := "TurnerHeapModel", name := "write", desc := "(JI)I" } : Jvm.MethodName) ({ cls := "TurnerHeapModel", name := "write", desc := "(JI)I" } : Jvm.MethodName)) ∈ G := tb_6 (List.mem_of_getElem? (i := 53) rfl) rfl
theorem k_1360 : (Jvm.Cond.code ({ cls := "TurnerHeapModel", name := "write", desc := "(JI)I" } : Jvm.MethodName) prog_11_method_5_code (7 : Nat) (Option.some Jvm.ClassFile.FieldType.int)) ∈ G := tb_6 (List.mem_of_getElem? (i := 54) rfl) rfl
theorem k_1361 : (Jvm.Cond.methodLink "TurnerHeapModel" (115 : Nat) ({ cls := "TurnerHeapModel", name := "within", desc := "(III)Z" } : Jvm.MethodName)) ∈ G := tb_6 (List.mem_of_getElem? (i := 55) rfl) rfl
theorem k_1362 : (Jvm.Cond.static ({ cls := "TurnerHeapModel", name := "within", desc := "(III)Z" } : Jvm.MethodName)) ∈ G := tb_6 (List.mem_of_getElem? (i := 56) rfl) rfl
theorem k_1363 : (Jvm.Cond.code ({ cls := "TurnerHeapModel", name := "within", desc := "(III)Z" } : Jvm.MethodName) prog_11_method_4_code (3 : Nat) (Option.some Jvm.ClassFile.FieldType.boolean)) ∈ G := tb_6 (List.mem_of_getElem? (i := 57) rfl) rfl
theorem k_1364 : (Jvm.Cond.methodLink "TurnerHeapModel" (119 : Nat) ({ cls := "TurnerHeapModel", name := "fail", desc := "(I)I" } : Jvm.MethodName)) ∈ G := tb_6 (List.mem_of_getElem? (i := 58) rfl) rfl
theorem k_1366 : (Jvm.Cond.instanceMethod ({ cls := "TurnerHeapModel", name := "fail", desc := "(I)I" } : Jvm.MethodName)) ∈ G := tb_6 (List.mem_of_getElem? (i := 60) rfl) rfl
theorem k_1367 : (Jvm.Cond.code ({ cls := "TurnerHeapModel", name := "fail", desc := "(I)I" } : Jvm.MethodName) prog_11_method_3_code (2 : Nat) (Option.some Jvm.ClassFile.FieldType.int)) ∈ G := tb_6 (List.mem_of_getElem? (i := 61) rfl) rfl
theorem k_1368 : (Jvm.Cond.constantLong "TurnerHeapModel" (123 : Nat) (255 : Int64)) ∈ G := tb_6 (List.mem_of_getElem? (i := 62) rfl) rfl
theorem k_1369 : (Jvm.Cond.methodLink "TurnerHeapLaw" (63 : Nat) ({ cls := "TurnerHeapModel", name := "erase", desc := "()I" } : Jvm.MethodName)) ∈ G := tb_6 (List.mem_of_getElem? (i := 63) rfl) rfl
theorem k_1370 : (Jvm.Cond.instanceMethod ({ cls := "TurnerHeapModel", name := "erase", desc := "()I" } : Jvm.MethodName)) ∈ G := tb_6 (List.mem_of_getElem? (i := 64) rfl) rfl
theorem k_1371 : (Jvm.Cond.selects "TurnerHeapModel" ({ cls := "TurnerHeapModel", name := "erase", desc := "()I" } : Jvm.MethodName) ({ cls := "TurnerHeapModel", name := "erase", desc := "()I" } : Jvm.MethodName)) ∈ G := tb_6 (List.mem_of_getElem? (i := 65) rfl) rfl
theorem k_1372 : (Jvm.Cond.code ({ cls := "TurnerHeapModel", name := "erase", desc := "()I" } : Jvm.MethodName) prog_11_method_6_code (2 : Nat) (Option.some Jvm.ClassFile.FieldType.int)) ∈ G := tb_6 (List.mem_of_getElem? (i := 66) rfl) rfl
theorem k_1373 : (Jvm.Cond.methodLink "TurnerHeapLaw" (67 : Nat) ({ cls := "TurnerHeapModel", name := "read", desc := "()I" } : Jvm.MethodName)) ∈ G := tb_6 (List.mem_of_getElem? (i := 67) rfl) rfl
theorem k_1374 : (Jvm.Cond.instanceMethod ({ cls := "TurnerHeapModel", name := "read", desc := "()I" } : Jvm.MethodName)) ∈ G := tb_6 (List.mem_of_getElem? (i := 68) rfl) rfl
theorem k_1375 : (Jvm.Cond.selects "TurnerHeapModel" ({ cls := "TurnerHeapModel", name := "read", desc := "()I" } : Jvm.MethodName) ({ cls := "TurnerHeapModel", name := "read", desc := "()I" } : Jvm.MethodName)) ∈ G := tb_6 (List.mem_of_getElem? (i := 69) rfl) rfl
theorem k_1376 : (Jvm.Cond.code ({ cls := "TurnerHeapModel", name := "read", desc := "()I" } : Jvm.MethodName) prog_11_method_50_code (7 : Nat) (Option.some Jvm.ClassFile.FieldType.int)) ∈ G := tb_6 (List.mem_of_getElem? (i := 70) rfl) rfl
theorem k_1377 : (Jvm.Cond.methodLink "TurnerHeapModel" (324 : Nat) ({ cls := "TurnerHeapModel", name := "cut", desc := "()V" } : Jvm.MethodName)) ∈ G := tb_6 (List.mem_of_getElem? (i := 71) rfl) rfl
theorem k_1379 : (Jvm.Cond.instanceMethod ({ cls := "TurnerHeapModel", name := "cut", desc := "()V" } : Jvm.MethodName)) ∈ G := tb_6 (List.mem_of_getElem? (i := 73) rfl) rfl
theorem k_1380 : (Jvm.Cond.code ({ cls := "TurnerHeapModel", name := "cut", desc := "()V" } : Jvm.MethodName) prog_11_method_12_code (7 : Nat) (Option.none : Option Jvm.ClassFile.FieldType)) ∈ G := tb_6 (List.mem_of_getElem? (i := 74) rfl) rfl
theorem k_1381 : (Jvm.Cond.methodLink "TurnerHeapModel" (138 : Nat) ({ cls := "TurnerHeapModel", name := "isLetter", desc := "(I)Z" } : Jvm.MethodName)) ∈ G := tb_6 (List.mem_of_getElem? (i := 75) rfl) rfl
theorem k_1382 : (Jvm.Cond.static ({ cls := "TurnerHeapModel", name := "isLetter", desc := "(I)Z" } : Jvm.MethodName)) ∈ G := tb_6 (List.mem_of_getElem? (i := 76) rfl) rfl
theorem k_1383 : (Jvm.Cond.code ({ cls := "TurnerHeapModel", name := "isLetter", desc := "(I)Z" } : Jvm.MethodName) prog_11_method_8_code (1 : Nat) (Option.some Jvm.ClassFile.FieldType.boolean)) ∈ G := tb_6 (List.mem_of_getElem? (i := 77) rfl) rfl
theorem k_1384 : (Jvm.Cond.methodLink "TurnerHeapModel" (142 : Nat) ({ cls := "TurnerHeapModel", name := "lexeme", desc := "(IJ)V" } : Jvm.MethodName)) ∈ G := tb_6 (List.mem_of_getElem? (i := 78) rfl) rfl
theorem k_1386 : (Jvm.Cond.instanceMethod ({ cls := "TurnerHeapModel", name := "lexeme", desc := "(IJ)V" } : Jvm.MethodName)) ∈ G := tb_6 (List.mem_of_getElem? (i := 80) rfl) rfl
theorem k_1387 : (Jvm.Cond.code ({ cls := "TurnerHeapModel", name := "lexeme", desc := "(IJ)V" } : Jvm.MethodName) prog_11_method_11_code (4 : Nat) (Option.none : Option Jvm.ClassFile.FieldType)) ∈ G := tb_6 (List.mem_of_getElem? (i := 81) rfl) rfl
theorem k_1388 : (Jvm.Cond.methodLink "TurnerHeapModel" (134 : Nat) ({ cls := "TurnerHeapModel", name := "wrong", desc := "(I)V" } : Jvm.MethodName)) ∈ G := tb_6 (List.mem_of_getElem? (i := 82) rfl) rfl
theorem k_1390 : (Jvm.Cond.instanceMethod ({ cls := "TurnerHeapModel", name := "wrong", desc := "(I)V" } : Jvm.MethodName)) ∈ G := tb_6 (List.mem_of_getElem? (i := 84) rfl) rfl
theorem k_1391 : (Jvm.Cond.code ({ cls := "TurnerHeapModel", name := "wrong", desc := "(I)V" } : Jvm.MethodName) prog_11_method_7_code (2 : Nat) (Option.none : Option Jvm.ClassFile.FieldType)) ∈ G := tb_6 (List.mem_of_getElem? (i := 85) rfl) rfl
theorem k_1392 : (Jvm.Cond.methodLink "TurnerHeapModel" (146 : Nat) ({ cls := "TurnerHeapModel", name := "digit", desc := "(I)Z" } : Jvm.MethodName)) ∈ G := tb_6 (List.mem_of_getElem? (i := 86) rfl) rfl
theorem k_1393 : (Jvm.Cond.static ({ cls := "TurnerHeapModel", name := "digit", desc := "(I)Z" } : Jvm.MethodName)) ∈ G := tb_6 (List.mem_of_getElem? (i := 87) rfl) rfl
theorem k_1394 : (Jvm.Cond.code ({ cls := "TurnerHeapModel", name := "digit", desc := "(I)Z" } : Jvm.MethodName) prog_11_method_9_code (1 : Nat) (Option.some Jvm.ClassFile.FieldType.boolean)) ∈ G := tb_6 (List.mem_of_getElem? (i := 88) rfl) rfl
theorem k_1395 : (Jvm.Cond.constantLong "TurnerHeapModel" (149 : Nat) (10 : Int64)) ∈ G := tb_6 (List.mem_of_getElem? (i := 89) rfl) rfl
theorem k_1396 : (Jvm.Cond.constantLong "TurnerHeapModel" (151 : Nat) (48 : Int64)) ∈ G := tb_6 (List.mem_of_getElem? (i := 90) rfl) rfl
theorem k_1397 : (Jvm.Cond.methodLink "TurnerHeapModel" (153 : Nat) ({ cls := "TurnerHeapModel", name := "sign", desc := "(I)Z" } : Jvm.MethodName)) ∈ G := tb_6 (List.mem_of_getElem? (i := 91) rfl) rfl
theorem k_1398 : (Jvm.Cond.static ({ cls := "TurnerHeapModel", name := "sign", desc := "(I)Z" } : Jvm.MethodName)) ∈ G := tb_6 (List.mem_of_getElem? (i := 92) rfl) rfl
theorem k_1399 : (Jvm.Cond.code ({ cls := "TurnerHeapModel", name := "sign", desc := "(I)Z" } : Jvm.MethodName) prog_11_method_10_code (1 : Nat) (Option.some Jvm.ClassFile.FieldType.boolean)) ∈ G := tb_6 (List.mem_of_getElem? (i := 93) rfl) rfl
theorem k_1400 : (Jvm.Cond.constantLong "TurnerHeapModel" (156 : Nat) (15677 : Int64)) ∈ G := tb_6 (List.mem_of_getElem? (i := 94) rfl) rfl
theorem k_1401 : (Jvm.Cond.methodLink "TurnerHeapModel" (327 : Nat) ({ cls := "TurnerHeapModel", name := "collect", desc := "()V" } : Jvm.MethodName)) ∈ G := tb_6 (List.mem_of_getElem? (i := 95) rfl) rfl
theorem k_1403 : (Jvm.Cond.instanceMethod ({ cls := "TurnerHeapModel", name := "collect", desc := "()V" } : Jvm.MethodName)) ∈ G := tb_6 (List.mem_of_getElem? (i := 97) rfl) rfl
theorem k_1404 : (Jvm.Cond.code ({ cls := "TurnerHeapModel", name := "collect", desc := "()V" } : Jvm.MethodName) prog_11_method_46_code (2 : Nat) (Option.none : Option Jvm.ClassFile.FieldType)) ∈ G := tb_6 (List.mem_of_getElem? (i := 98) rfl) rfl
theorem k_1405 : (Jvm.Cond.constantLong "TurnerHeapModel" (161 : Nat) (6710628 : Int64)) ∈ G := tb_6 (List.mem_of_getElem? (i := 99) rfl) rfl
theorem k_1406 : (Jvm.Cond.methodLink "TurnerHeapModel" (249 : Nat) ({ cls := "TurnerHeapModel", name := "isName", desc := "()Z" } : Jvm.MethodName)) ∈ G := tb_6 (List.mem_of_getElem? (i := 100) rfl) rfl
theorem k_1408 : (Jvm.Cond.instanceMethod ({ cls := "TurnerHeapModel", name := "isName", desc := "()Z" } : Jvm.MethodName)) ∈ G := tb_6 (List.mem_of_getElem? (i := 102) rfl) rfl
theorem k_1409 : (Jvm.Cond.code ({ cls := "TurnerHeapModel", name := "isName", desc := "()Z" } : Jvm.MethodName) prog_11_method_14_code (1 : Nat) (Option.some Jvm.ClassFile.FieldType.boolean)) ∈ G := tb_6 (List.mem_of_getElem? (i := 103) rfl) rfl
theorem k_1410 : (Jvm.Cond.constantLong "TurnerHeapModel" (163 : Nat) (26217 : Int64)) ∈ G := tb_6 (List.mem_of_getElem? (i := 104) rfl) rfl
theorem k_1411 : (Jvm.Cond.constantLong "TurnerHeapModel" (165 : Nat) (1852139636 : Int64)) ∈ G := tb_6 (List.mem_of_getElem? (i := 105) rfl) rfl
theorem k_1412 : (Jvm.Cond.constantLong "TurnerHeapModel" (167 : Nat) (1702063205 : Int64)) ∈ G := tb_6 (List.mem_of_getElem? (i := 106) rfl) rfl
theorem k_1413 : (Jvm.Cond.methodLink "TurnerHeapModel" (265 : Nat) ({ cls := "TurnerHeapModel", name := "isWord", desc := "(J)Z" } : Jvm.MethodName)) ∈ G := tb_6 (List.mem_of_getElem? (i := 107) rfl) rfl
theorem k_1415 : (Jvm.Cond.instanceMethod ({ cls := "TurnerHeapModel", name := "isWord", desc := "(J)Z" } : Jvm.MethodName)) ∈ G := tb_6 (List.mem_of_getElem? (i := 109) rfl) rfl
theorem k_1416 : (Jvm.Cond.code ({ cls := "TurnerHeapModel", name := "isWord", desc := "(J)Z" } : Jvm.MethodName) prog_11_method_15_code (3 : Nat) (Option.some Jvm.ClassFile.FieldType.boolean)) ∈ G := tb_6 (List.mem_of_getElem? (i := 110) rfl) rfl
theorem k_1417 : (Jvm.Cond.methodLink "TurnerHeapModel" (330 : Nat) ({ cls := "TurnerHeapModel", name := "definition", desc := "(I)J" } : Jvm.MethodName)) ∈ G := tb_6 (List.mem_of_getElem? (i := 111) rfl) rfl
theorem k_1419 : (Jvm.Cond.instanceMethod ({ cls := "TurnerHeapModel", name := "definition", desc := "(I)J" } : Jvm.MethodName)) ∈ G := tb_6 (List.mem_of_getElem? (i := 113) rfl) rfl
theorem k_1420 : (Jvm.Cond.code ({ cls := "TurnerHeapModel", name := "definition", desc := "(I)J" } : Jvm.MethodName) prog_11_method_47_code (4 : Nat) (Option.some Jvm.ClassFile.FieldType.long)) ∈ G := tb_6 (List.mem_of_getElem? (i := 114) rfl) rfl
theorem k_1421 : (Jvm.Cond.methodLink "TurnerHeapModel" (269 : Nat) ({ cls := "TurnerHeapModel", name := "expect", desc := "(Z)V" } : Jvm.MethodName)) ∈ G := tb_6 (List.mem_of_getElem? (i := 115) rfl) rfl
theorem k_1423 : (Jvm.Cond.instanceMethod ({ cls := "TurnerHeapModel", name := "expect", desc := "(Z)V" } : Jvm.MethodName)) ∈ G := tb_6 (List.mem_of_getElem? (i := 117) rfl) rfl
theorem k_1424 : (Jvm.Cond.code ({ cls := "TurnerHeapModel", name := "expect", desc := "(Z)V" } : Jvm.MethodName) prog_11_method_16_code (2 : Nat) (Option.none : Option Jvm.ClassFile.FieldType)) ∈ G := tb_6 (List.mem_of_getElem? (i := 118) rfl) rfl
theorem k_1425 : (Jvm.Cond.methodLink "TurnerHeapModel" (253 : Nat) ({ cls := "TurnerHeapModel", name := "isSign", desc := "(I)Z" } : Jvm.MethodName)) ∈ G := tb_6 (List.mem_of_getElem? (i := 119) rfl) rfl
theorem k_1427 : (Jvm.Cond.instanceMethod ({ cls := "TurnerHeapModel", name := "isSign", desc := "(I)Z" } : Jvm.MethodName)) ∈ G := tb_6 (List.mem_of_getElem? (i := 121) rfl) rfl
theorem k_1428 : (Jvm.Cond.code ({ cls := "TurnerHeapModel", name := "isSign", desc := "(I)Z" } : Jvm.MethodName) prog_11_method_13_code (2 : Nat) (Option.some Jvm.ClassFile.FieldType.boolean)) ∈ G := tb_6 (List.mem_of_getElem? (i := 122) rfl) rfl
theorem k_1429 : (Jvm.Cond.methodLink "TurnerHeapModel" (318 : Nat) ({ cls := "TurnerHeapModel", name := "expression", desc := "()J" } : Jvm.MethodName)) ∈ G := tb_6 (List.mem_of_getElem? (i := 123) rfl) rfl
theorem k_1431 : (Jvm.Cond.instanceMethod ({ cls := "TurnerHeapModel", name := "expression", desc := "()J" } : Jvm.MethodName)) ∈ G := tb_6 (List.mem_of_getElem? (i := 125) rfl) rfl
theorem k_1432 : (Jvm.Cond.code ({ cls := "TurnerHeapModel", name := "expression", desc := "()J" } : Jvm.MethodName) prog_11_method_45_code (4 : Nat) (Option.some Jvm.ClassFile.FieldType.long)) ∈ G := tb_6 (List.mem_of_getElem? (i := 126) rfl) rfl
theorem k_1433 : (Jvm.Cond.methodLink "TurnerHeapModel" (262 : Nat) ({ cls := "TurnerHeapModel", name := "open", desc := "(I)V" } : Jvm.MethodName)) ∈ G := tb_6 (List.mem_of_getElem? (i := 127) rfl) rfl
theorem k_1435 : (Jvm.Cond.instanceMethod ({ cls := "TurnerHeapModel", name := "open", desc := "(I)V" } : Jvm.MethodName)) ∈ G := tb_6 (List.mem_of_getElem? (i := 129) rfl) rfl
theorem k_1436 : (Jvm.Cond.code ({ cls := "TurnerHeapModel", name := "open", desc := "(I)V" } : Jvm.MethodName) prog_11_method_32_code (2 : Nat) (Option.none : Option Jvm.ClassFile.FieldType)) ∈ G := tb_6 (List.mem_of_getElem? (i := 130) rfl) rfl
theorem k_1437 : (Jvm.Cond.methodLink "TurnerHeapModel" (224 : Nat) ({ cls := "TurnerHeapModel", name := "begin", desc := "(I)V" } : Jvm.MethodName)) ∈ G := tb_6 (List.mem_of_getElem? (i := 131) rfl) rfl
theorem k_1439 : (Jvm.Cond.instanceMethod ({ cls := "TurnerHeapModel", name := "begin", desc := "(I)V" } : Jvm.MethodName)) ∈ G := tb_6 (List.mem_of_getElem? (i := 133) rfl) rfl
theorem k_1440 : (Jvm.Cond.code ({ cls := "TurnerHeapModel", name := "begin", desc := "(I)V" } : Jvm.MethodName) prog_11_method_33_code (2 : Nat) (Option.none : Option Jvm.ClassFile.FieldType)) ∈ G := tb_6 (List.mem_of_getElem? (i := 134) rfl) rfl
theorem k_1441 : (Jvm.Cond.methodLink "TurnerHeapModel" (302 : Nat) ({ cls := "TurnerHeapModel", name := "start", desc := "()V" } : Jvm.MethodName)) ∈ G := tb_6 (List.mem_of_getElem? (i := 135) rfl) rfl
theorem k_1443 : (Jvm.Cond.instanceMethod ({ cls := "TurnerHeapModel", name := "start", desc := "()V" } : Jvm.MethodName)) ∈ G := tb_6 (List.mem_of_getElem? (i := 137) rfl) rfl
theorem k_1444 : (Jvm.Cond.code ({ cls := "TurnerHeapModel", name := "start", desc := "()V" } : Jvm.MethodName) prog_11_method_37_code (2 : Nat) (Option.none : Option Jvm.ClassFile.FieldType)) ∈ G := tb_6 (List.mem_of_getElem? (i := 138) rfl) rfl
theorem k_1445 : (Jvm.Cond.methodLink "TurnerHeapModel" (171 : Nat) ({ cls := "TurnerHeapModel", name := "term", desc := "(II)J" } : Jvm.MethodName)) ∈ G := tb_6 (List.mem_of_getElem? (i := 139) rfl) rfl
theorem k_1446 : (Jvm.Cond.static ({ cls := "TurnerHeapModel", name := "term", desc := "(II)J" } : Jvm.MethodName)) ∈ G := tb_6 (List.mem_of_getElem? (i := 140) rfl) rfl
theorem k_1447 : (Jvm.Cond.code ({ cls := "TurnerHeapModel", name := "term", desc := "(II)J" } : Jvm.MethodName) prog_11_method_17_code (2 : Nat) (Option.some Jvm.ClassFile.FieldType.long)) ∈ G := tb_6 (List.mem_of_getElem? (i := 141) rfl) rfl
theorem k_1448 : (Jvm.Cond.constantLong "TurnerHeapModel" (169 : Nat) (4294967295 : Int64)) ∈ G := tb_6 (List.mem_of_getElem? (i := 142) rfl) rfl
theorem k_1449 : (Jvm.Cond.methodLink "TurnerHeapModel" (256 : Nat) ({ cls := "TurnerHeapModel", name := "atom", desc := "(J)V" } : Jvm.MethodName)) ∈ G := tb_6 (List.mem_of_getElem? (i := 143) rfl) rfl
theorem k_1451 : (Jvm.Cond.instanceMethod ({ cls := "TurnerHeapModel", name := "atom", desc := "(J)V" } : Jvm.MethodName)) ∈ G := tb_6 (List.mem_of_getElem? (i := 145) rfl) rfl
theorem k_1452 : (Jvm.Cond.code ({ cls := "TurnerHeapModel", name := "atom", desc := "(J)V" } : Jvm.MethodName) prog_11_method_34_code (6 : Nat) (Option.none : Option Jvm.ClassFile.FieldType)) ∈ G := tb_6 (List.mem_of_getElem? (i := 146) rfl) rfl
theorem k_1453 : (Jvm.Cond.methodLink "TurnerHeapModel" (230 : Nat) ({ cls := "TurnerHeapModel", name := "pop", desc := "()J" } : Jvm.MethodName)) ∈ G := tb_6 (List.mem_of_getElem? (i := 147) rfl) rfl
theorem k_1455 : (Jvm.Cond.instanceMethod ({ cls := "TurnerHeapModel", name := "pop", desc := "()J" } : Jvm.MethodName)) ∈ G := tb_6 (List.mem_of_getElem? (i := 149) rfl) rfl
theorem k_1456 : (Jvm.Cond.code ({ cls := "TurnerHeapModel", name := "pop", desc := "()J" } : Jvm.MethodName) prog_11_method_31_code (1 : Nat) (Option.some Jvm.ClassFile.FieldType.long)) ∈ G := tb_6 (List.mem_of_getElem? (i := 150) rfl) rfl
theorem k_1457 : (Jvm.Cond.methodLink "TurnerHeapModel" (193 : Nat) ({ cls := "TurnerHeapModel", name := "apply", desc := "(JJ)J" } : Jvm.MethodName)) ∈ G := tb_6 (List.mem_of_getElem? (i := 151) rfl) rfl
theorem k_1459 : (Jvm.Cond.instanceMethod ({ cls := "TurnerHeapModel", name := "apply", desc := "(JJ)J" } : Jvm.MethodName)) ∈ G := tb_6 (List.mem_of_getElem? (i := 153) rfl) rfl
theorem k_1460 : (Jvm.Cond.code ({ cls := "TurnerHeapModel", name := "apply", desc := "(JJ)J" } : Jvm.MethodName) prog_11_method_21_code (6 : Nat) (Option.some Jvm.ClassFile.FieldType.long)) ∈ G := tb_6 (List.mem_of_getElem? (i := 154) rfl) rfl
theorem k_1461 : (Jvm.Cond.methodLink "TurnerHeapModel" (178 : Nat) ({ cls := "TurnerHeapModel", name := "constant", desc := "(I)J" } : Jvm.MethodName)) ∈ G := tb_6 (List.mem_of_getElem? (i := 155) rfl) rfl
theorem k_1462 : (Jvm.Cond.static ({ cls := "TurnerHeapModel", name := "constant", desc := "(I)J" } : Jvm.MethodName)) ∈ G := tb_6 (List.mem_of_getElem? (i := 156) rfl) rfl
theorem k_1463 : (Jvm.Cond.code ({ cls := "TurnerHeapModel", name := "constant", desc := "(I)J" } : Jvm.MethodName) prog_11_method_20_code (1 : Nat) (Option.some Jvm.ClassFile.FieldType.long)) ∈ G := tb_6 (List.mem_of_getElem? (i := 157) rfl) rfl
theorem k_1464 : (Jvm.Cond.methodLink "TurnerHeapModel" (234 : Nat) ({ cls := "TurnerHeapModel", name := "push", desc := "(J)V" } : Jvm.MethodName)) ∈ G := tb_6 (List.mem_of_getElem? (i := 158) rfl) rfl
theorem k_1466 : (Jvm.Cond.instanceMethod ({ cls := "TurnerHeapModel", name := "push", desc := "(J)V" } : Jvm.MethodName)) ∈ G := tb_6 (List.mem_of_getElem? (i := 160) rfl) rfl
theorem k_1467 : (Jvm.Cond.code ({ cls := "TurnerHeapModel", name := "push", desc := "(J)V" } : Jvm.MethodName) prog_11_method_30_code (3 : Nat) (Option.none : Option Jvm.ClassFile.FieldType)) ∈ G := tb_6 (List.mem_of_getElem? (i := 161) rfl) rfl
theorem k_1468 : (Jvm.Cond.methodLink "TurnerHeapModel" (259 : Nat) ({ cls := "TurnerHeapModel", name := "named", desc := "(J)J" } : Jvm.MethodName)) ∈ G := tb_6 (List.mem_of_getElem? (i := 162) rfl) rfl
theorem k_1470 : (Jvm.Cond.instanceMethod ({ cls := "TurnerHeapModel", name := "named", desc := "(J)J" } : Jvm.MethodName)) ∈ G := tb_6 (List.mem_of_getElem? (i := 164) rfl) rfl
theorem k_1471 : (Jvm.Cond.code ({ cls := "TurnerHeapModel", name := "named", desc := "(J)J" } : Jvm.MethodName) prog_11_method_35_code (4 : Nat) (Option.some Jvm.ClassFile.FieldType.long)) ∈ G := tb_6 (List.mem_of_getElem? (i := 165) rfl) rfl
theorem k_1472 : (Jvm.Cond.constantLong "TurnerHeapModel" (243 : Nat) (25704 : Int64)) ∈ G := tb_6 (List.mem_of_getElem? (i := 166) rfl) rfl
theorem k_1473 : (Jvm.Cond.constantLong "TurnerHeapModel" (245 : Nat) (27764 : Int64)) ∈ G := tb_6 (List.mem_of_getElem? (i := 167) rfl) rfl
theorem k_1474 : (Jvm.Cond.constantLong "TurnerHeapModel" (247 : Nat) (7107950 : Int64)) ∈ G := tb_6 (List.mem_of_getElem? (i := 168) rfl) rfl
theorem k_1475 : (Jvm.Cond.methodLink "TurnerHeapModel" (305 : Nat) ({ cls := "TurnerHeapModel", name := "beginsAtom", desc := "()Z" } : Jvm.MethodName)) ∈ G := tb_6 (List.mem_of_getElem? (i := 169) rfl) rfl
theorem k_1477 : (Jvm.Cond.instanceMethod ({ cls := "TurnerHeapModel", name := "beginsAtom", desc := "()Z" } : Jvm.MethodName)) ∈ G := tb_6 (List.mem_of_getElem? (i := 171) rfl) rfl
theorem k_1478 : (Jvm.Cond.code ({ cls := "TurnerHeapModel", name := "beginsAtom", desc := "()Z" } : Jvm.MethodName) prog_11_method_36_code (1 : Nat) (Option.some Jvm.ClassFile.FieldType.boolean)) ∈ G := tb_6 (List.mem_of_getElem? (i := 172) rfl) rfl
theorem k_1479 : (Jvm.Cond.methodLink "TurnerHeapModel" (308 : Nat) ({ cls := "TurnerHeapModel", name := "operationAt", desc := "()I" } : Jvm.MethodName)) ∈ G := tb_6 (List.mem_of_getElem? (i := 173) rfl) rfl
theorem k_1481 : (Jvm.Cond.instanceMethod ({ cls := "TurnerHeapModel", name := "operationAt", desc := "()I" } : Jvm.MethodName)) ∈ G := tb_6 (List.mem_of_getElem? (i := 175) rfl) rfl
theorem k_1482 : (Jvm.Cond.code ({ cls := "TurnerHeapModel", name := "operationAt", desc := "()I" } : Jvm.MethodName) prog_11_method_39_code (3 : Nat) (Option.some Jvm.ClassFile.FieldType.int)) ∈ G := tb_6 (List.mem_of_getElem? (i := 176) rfl) rfl
theorem k_1483 : (Jvm.Cond.constantLong "TurnerHeapModel" (273 : Nat) (43 : Int64)) ∈ G := tb_6 (List.mem_of_getElem? (i := 177) rfl) rfl
theorem k_1484 : (Jvm.Cond.constantLong "TurnerHeapModel" (275 : Nat) (45 : Int64)) ∈ G := tb_6 (List.mem_of_getElem? (i := 178) rfl) rfl
theorem k_1485 : (Jvm.Cond.constantLong "TurnerHeapModel" (277 : Nat) (42 : Int64)) ∈ G := tb_6 (List.mem_of_getElem? (i := 179) rfl) rfl
theorem k_1486 : (Jvm.Cond.constantLong "TurnerHeapModel" (279 : Nat) (60 : Int64)) ∈ G := tb_6 (List.mem_of_getElem? (i := 180) rfl) rfl
theorem k_1487 : (Jvm.Cond.constantLong "TurnerHeapModel" (281 : Nat) (58 : Int64)) ∈ G := tb_6 (List.mem_of_getElem? (i := 181) rfl) rfl
theorem k_1488 : (Jvm.Cond.methodLink "TurnerHeapModel" (312 : Nat) ({ cls := "TurnerHeapModel", name := "operator", desc := "(I)V" } : Jvm.MethodName)) ∈ G := tb_6 (List.mem_of_getElem? (i := 182) rfl) rfl
theorem k_1490 : (Jvm.Cond.instanceMethod ({ cls := "TurnerHeapModel", name := "operator", desc := "(I)V" } : Jvm.MethodName)) ∈ G := tb_6 (List.mem_of_getElem? (i := 184) rfl) rfl
theorem k_1491 : (Jvm.Cond.code ({ cls := "TurnerHeapModel", name := "operator", desc := "(I)V" } : Jvm.MethodName) prog_11_method_41_code (4 : Nat) (Option.none : Option Jvm.ClassFile.FieldType)) ∈ G := tb_6 (List.mem_of_getElem? (i := 185) rfl) rfl
theorem k_1492 : (Jvm.Cond.methodLink "TurnerHeapModel" (283 : Nat) ({ cls := "TurnerHeapModel", name := "rank", desc := "(I)I" } : Jvm.MethodName)) ∈ G := tb_6 (List.mem_of_getElem? (i := 186) rfl) rfl
theorem k_1493 : (Jvm.Cond.static ({ cls := "TurnerHeapModel", name := "rank", desc := "(I)I" } : Jvm.MethodName)) ∈ G := tb_6 (List.mem_of_getElem? (i := 187) rfl) rfl
theorem k_1494 : (Jvm.Cond.code ({ cls := "TurnerHeapModel", name := "rank", desc := "(I)I" } : Jvm.MethodName) prog_11_method_38_code (1 : Nat) (Option.some Jvm.ClassFile.FieldType.int)) ∈ G := tb_6 (List.mem_of_getElem? (i := 188) rfl) rfl
theorem k_1495 : (Jvm.Cond.methodLink "TurnerHeapModel" (286 : Nat) ({ cls := "TurnerHeapModel", name := "reduce", desc := "()V" } : Jvm.MethodName)) ∈ G := tb_6 (List.mem_of_getElem? (i := 189) rfl) rfl
theorem k_1497 : (Jvm.Cond.instanceMethod ({ cls := "TurnerHeapModel", name := "reduce", desc := "()V" } : Jvm.MethodName)) ∈ G := tb_6 (List.mem_of_getElem? (i := 191) rfl) rfl
theorem k_1498 : (Jvm.Cond.code ({ cls := "TurnerHeapModel", name := "reduce", desc := "()V" } : Jvm.MethodName) prog_11_method_40_code (5 : Nat) (Option.none : Option Jvm.ClassFile.FieldType)) ∈ G := tb_6 (List.mem_of_getElem? (i := 192) rfl) rfl
theorem k_1499 : (Jvm.Cond.methodLink "TurnerHeapModel" (315 : Nat) ({ cls := "TurnerHeapModel", name := "ended", desc := "()V" } : Jvm.MethodName)) ∈ G := tb_6 (List.mem_of_getElem? (i := 193) rfl) rfl
theorem k_1501 : (Jvm.Cond.instanceMethod ({ cls := "TurnerHeapModel", name := "ended", desc := "()V" } : Jvm.MethodName)) ∈ G := tb_6 (List.mem_of_getElem? (i := 195) rfl) rfl
theorem k_1502 : (Jvm.Cond.code ({ cls := "TurnerHeapModel", name := "ended", desc := "()V" } : Jvm.MethodName) prog_11_method_42_code (9 : Nat) (Option.none : Option Jvm.ClassFile.FieldType)) ∈ G := tb_6 (List.mem_of_getElem? (i := 196) rfl) rfl
theorem k_1503 : (Jvm.Cond.methodLink "TurnerHeapModel" (289 : Nat) ({ cls := "TurnerHeapModel", name := "listed", desc := "(I)V" } : Jvm.MethodName)) ∈ G := tb_6 (List.mem_of_getElem? (i := 197) rfl) rfl
theorem k_1505 : (Jvm.Cond.instanceMethod ({ cls := "TurnerHeapModel", name := "listed", desc := "(I)V" } : Jvm.MethodName)) ∈ G := tb_6 (List.mem_of_getElem? (i := 199) rfl) rfl
theorem k_1506 : (Jvm.Cond.code ({ cls := "TurnerHeapModel", name := "listed", desc := "(I)V" } : Jvm.MethodName) prog_11_method_44_code (4 : Nat) (Option.none : Option Jvm.ClassFile.FieldType)) ∈ G := tb_6 (List.mem_of_getElem? (i := 200) rfl) rfl
theorem k_1507 : (Jvm.Cond.methodLink "TurnerHeapModel" (292 : Nat) ({ cls := "TurnerHeapModel", name := "whole", desc := "(J)V" } : Jvm.MethodName)) ∈ G := tb_6 (List.mem_of_getElem? (i := 201) rfl) rfl
theorem k_1509 : (Jvm.Cond.instanceMethod ({ cls := "TurnerHeapModel", name := "whole", desc := "(J)V" } : Jvm.MethodName)) ∈ G := tb_6 (List.mem_of_getElem? (i := 203) rfl) rfl
theorem k_1510 : (Jvm.Cond.code ({ cls := "TurnerHeapModel", name := "whole", desc := "(J)V" } : Jvm.MethodName) prog_11_method_43_code (3 : Nat) (Option.none : Option Jvm.ClassFile.FieldType)) ∈ G := tb_6 (List.mem_of_getElem? (i := 204) rfl) rfl
theorem k_1511 : (Jvm.Cond.methodLink "TurnerHeapModel" (295 : Nat) ({ cls := "TurnerHeapModel", name := "without", desc := "(JJ)J" } : Jvm.MethodName)) ∈ G := tb_6 (List.mem_of_getElem? (i := 205) rfl) rfl
theorem k_1513 : (Jvm.Cond.instanceMethod ({ cls := "TurnerHeapModel", name := "without", desc := "(JJ)J" } : Jvm.MethodName)) ∈ G := tb_6 (List.mem_of_getElem? (i := 207) rfl) rfl
theorem k_1514 : (Jvm.Cond.code ({ cls := "TurnerHeapModel", name := "without", desc := "(JJ)J" } : Jvm.MethodName) prog_11_method_28_code (12 : Nat) (Option.some Jvm.ClassFile.FieldType.long)) ∈ G := tb_6 (List.mem_of_getElem? (i := 208) rfl) rfl
theorem k_1515 : (Jvm.Cond.methodLink "TurnerHeapModel" (205 : Nat) ({ cls := "TurnerHeapModel", name := "cells", desc := "(J)I" } : Jvm.MethodName)) ∈ G := tb_6 (List.mem_of_getElem? (i := 209) rfl) rfl
theorem k_1517 : (Jvm.Cond.instanceMethod ({ cls := "TurnerHeapModel", name := "cells", desc := "(J)I" } : Jvm.MethodName)) ∈ G := tb_6 (List.mem_of_getElem? (i := 211) rfl) rfl
theorem k_1518 : (Jvm.Cond.code ({ cls := "TurnerHeapModel", name := "cells", desc := "(J)I" } : Jvm.MethodName) prog_11_method_24_code (6 : Nat) (Option.some Jvm.ClassFile.FieldType.int)) ∈ G := tb_6 (List.mem_of_getElem? (i := 212) rfl) rfl
theorem k_1519 : (Jvm.Cond.methodLink "TurnerHeapModel" (186 : Nat) ({ cls := "TurnerHeapModel", name := "kindOf", desc := "(J)I" } : Jvm.MethodName)) ∈ G := tb_6 (List.mem_of_getElem? (i := 213) rfl) rfl
theorem k_1520 : (Jvm.Cond.static ({ cls := "TurnerHeapModel", name := "kindOf", desc := "(J)I" } : Jvm.MethodName)) ∈ G := tb_6 (List.mem_of_getElem? (i := 214) rfl) rfl
theorem k_1521 : (Jvm.Cond.code ({ cls := "TurnerHeapModel", name := "kindOf", desc := "(J)I" } : Jvm.MethodName) prog_11_method_18_code (2 : Nat) (Option.some Jvm.ClassFile.FieldType.int)) ∈ G := tb_6 (List.mem_of_getElem? (i := 215) rfl) rfl
theorem k_1522 : (Jvm.Cond.methodLink "TurnerHeapModel" (182 : Nat) ({ cls := "TurnerHeapModel", name := "valueOf", desc := "(J)I" } : Jvm.MethodName)) ∈ G := tb_6 (List.mem_of_getElem? (i := 216) rfl) rfl
theorem k_1523 : (Jvm.Cond.static ({ cls := "TurnerHeapModel", name := "valueOf", desc := "(J)I" } : Jvm.MethodName)) ∈ G := tb_6 (List.mem_of_getElem? (i := 217) rfl) rfl
theorem k_1524 : (Jvm.Cond.code ({ cls := "TurnerHeapModel", name := "valueOf", desc := "(J)I" } : Jvm.MethodName) prog_11_method_19_code (2 : Nat) (Option.some Jvm.ClassFile.FieldType.int)) ∈ G := tb_6 (List.mem_of_getElem? (i := 218) rfl) rfl
theorem k_1525 : (Jvm.Cond.methodLink "TurnerHeapModel" (189 : Nat) ({ cls := "TurnerHeapModel", name := "having", desc := "(JJ)Z" } : Jvm.MethodName)) ∈ G := tb_6 (List.mem_of_getElem? (i := 219) rfl) rfl
theorem k_1527 : (Jvm.Cond.instanceMethod ({ cls := "TurnerHeapModel", name := "having", desc := "(JJ)Z" } : Jvm.MethodName)) ∈ G := tb_6 (List.mem_of_getElem? (i := 221) rfl) rfl
theorem k_1528 : (Jvm.Cond.code ({ cls := "TurnerHeapModel", name := "having", desc := "(JJ)Z" } : Jvm.MethodName) prog_11_method_25_code (5 : Nat) (Option.some Jvm.ClassFile.FieldType.boolean)) ∈ G := tb_6 (List.mem_of_getElem? (i := 222) rfl) rfl
theorem k_1529 : (Jvm.Cond.methodLink "TurnerHeapModel" (208 : Nat) ({ cls := "TurnerHeapModel", name := "within400", desc := "(J)J" } : Jvm.MethodName)) ∈ G := tb_6 (List.mem_of_getElem? (i := 223) rfl) rfl
theorem k_1531 : (Jvm.Cond.instanceMethod ({ cls := "TurnerHeapModel", name := "within400", desc := "(J)J" } : Jvm.MethodName)) ∈ G := tb_6 (List.mem_of_getElem? (i := 225) rfl) rfl
theorem k_1532 : (Jvm.Cond.code ({ cls := "TurnerHeapModel", name := "within400", desc := "(J)J" } : Jvm.MethodName) prog_11_method_29_code (3 : Nat) (Option.some Jvm.ClassFile.FieldType.long)) ∈ G := tb_6 (List.mem_of_getElem? (i := 226) rfl) rfl
theorem k_1533 : (Jvm.Cond.methodLink "TurnerHeapModel" (212 : Nat) ({ cls := "TurnerHeapModel", name := "side", desc := "(JJ)J" } : Jvm.MethodName)) ∈ G := tb_6 (List.mem_of_getElem? (i := 227) rfl) rfl
theorem k_1535 : (Jvm.Cond.instanceMethod ({ cls := "TurnerHeapModel", name := "side", desc := "(JJ)J" } : Jvm.MethodName)) ∈ G := tb_6 (List.mem_of_getElem? (i := 229) rfl) rfl
theorem k_1536 : (Jvm.Cond.code ({ cls := "TurnerHeapModel", name := "side", desc := "(JJ)J" } : Jvm.MethodName) prog_11_method_26_code (5 : Nat) (Option.some Jvm.ClassFile.FieldType.long)) ∈ G := tb_6 (List.mem_of_getElem? (i := 230) rfl) rfl
theorem k_1537 : (Jvm.Cond.methodLink "TurnerHeapModel" (215 : Nat) ({ cls := "TurnerHeapModel", name := "combined", desc := "(JJ)J" } : Jvm.MethodName)) ∈ G := tb_6 (List.mem_of_getElem? (i := 231) rfl) rfl
theorem k_1539 : (Jvm.Cond.instanceMethod ({ cls := "TurnerHeapModel", name := "combined", desc := "(JJ)J" } : Jvm.MethodName)) ∈ G := tb_6 (List.mem_of_getElem? (i := 233) rfl) rfl
theorem k_1540 : (Jvm.Cond.code ({ cls := "TurnerHeapModel", name := "combined", desc := "(JJ)J" } : Jvm.MethodName) prog_11_method_27_code (16 : Nat) (Option.some Jvm.ClassFile.FieldType.long)) ∈ G := tb_6 (List.mem_of_getElem? (i := 234) rfl) rfl
theorem k_1541 : (Jvm.Cond.methodLink "TurnerHeapModel" (197 : Nat) ({ cls := "TurnerHeapModel", name := "isApplied", desc := "(JI)Z" } : Jvm.MethodName)) ∈ G := tb_6 (List.mem_of_getElem? (i := 235) rfl) rfl
theorem k_1543 : (Jvm.Cond.instanceMethod ({ cls := "TurnerHeapModel", name := "isApplied", desc := "(JI)Z" } : Jvm.MethodName)) ∈ G := tb_6 (List.mem_of_getElem? (i := 237) rfl) rfl
theorem k_1544 : (Jvm.Cond.code ({ cls := "TurnerHeapModel", name := "isApplied", desc := "(JI)Z" } : Jvm.MethodName) prog_11_method_23_code (4 : Nat) (Option.some Jvm.ClassFile.FieldType.boolean)) ∈ G := tb_6 (List.mem_of_getElem? (i := 238) rfl) rfl
theorem k_1545 : (Jvm.Cond.methodLink "TurnerHeapModel" (201 : Nat) ({ cls := "TurnerHeapModel", name := "release", desc := "(J)V" } : Jvm.MethodName)) ∈ G := tb_6 (List.mem_of_getElem? (i := 239) rfl) rfl
theorem k_1547 : (Jvm.Cond.instanceMethod ({ cls := "TurnerHeapModel", name := "release", desc := "(J)V" } : Jvm.MethodName)) ∈ G := tb_7 (List.mem_of_getElem? (i := 1) rfl) rfl
theorem k_1548 : (Jvm.Cond.code ({ cls := "TurnerHeapModel", name := "release", desc := "(J)V" } : Jvm.MethodName) prog_11_method_22_code (3 : Nat) (Option.none : Option Jvm.ClassFile.FieldType)) ∈ G := tb_7 (List.mem_of_getElem? (i := 2) rfl) rfl
theorem k_1549 : (Jvm.Cond.methodLink "TurnerHeapModel" (333 : Nat) ({ cls := "TurnerHeapModel", name := "keepForm", desc := "(I)V" } : Jvm.MethodName)) ∈ G := tb_7 (List.mem_of_getElem? (i := 3) rfl) rfl
theorem k_1551 : (Jvm.Cond.instanceMethod ({ cls := "TurnerHeapModel", name := "keepForm", desc := "(I)V" } : Jvm.MethodName)) ∈ G := tb_7 (List.mem_of_getElem? (i := 5) rfl) rfl
theorem k_1552 : (Jvm.Cond.code ({ cls := "TurnerHeapModel", name := "keepForm", desc := "(I)V" } : Jvm.MethodName) prog_11_method_48_code (5 : Nat) (Option.none : Option Jvm.ClassFile.FieldType)) ∈ G := tb_7 (List.mem_of_getElem? (i := 6) rfl) rfl
theorem k_1553 : (Jvm.Cond.methodLink "TurnerHeapModel" (336 : Nat) ({ cls := "TurnerHeapModel", name := "moved", desc := "(JI)J" } : Jvm.MethodName)) ∈ G := tb_7 (List.mem_of_getElem? (i := 7) rfl) rfl
theorem k_1555 : (Jvm.Cond.instanceMethod ({ cls := "TurnerHeapModel", name := "moved", desc := "(JI)J" } : Jvm.MethodName)) ∈ G := tb_7 (List.mem_of_getElem? (i := 9) rfl) rfl
theorem k_1556 : (Jvm.Cond.code ({ cls := "TurnerHeapModel", name := "moved", desc := "(JI)J" } : Jvm.MethodName) prog_11_method_49_code (10 : Nat) (Option.some Jvm.ClassFile.FieldType.long)) ∈ G := tb_7 (List.mem_of_getElem? (i := 10) rfl) rfl
theorem k_1557 : (Jvm.Cond.methodLink "TurnerHeapModel" (340 : Nat) ({ cls := "TurnerHeapModel", name := "ready", desc := "()V" } : Jvm.MethodName)) ∈ G := tb_7 (List.mem_of_getElem? (i := 11) rfl) rfl
theorem k_1559 : (Jvm.Cond.instanceMethod ({ cls := "TurnerHeapModel", name := "ready", desc := "()V" } : Jvm.MethodName)) ∈ G := tb_7 (List.mem_of_getElem? (i := 13) rfl) rfl
theorem k_1560 : (Jvm.Cond.code ({ cls := "TurnerHeapModel", name := "ready", desc := "()V" } : Jvm.MethodName) prog_11_method_51_code (1 : Nat) (Option.none : Option Jvm.ClassFile.FieldType)) ∈ G := tb_7 (List.mem_of_getElem? (i := 14) rfl) rfl
theorem k_1561 : (Jvm.Cond.methodLink "TurnerHeapLaw" (71 : Nat) ({ cls := "TurnerHeapModel", name := "run", desc := "(I)I" } : Jvm.MethodName)) ∈ G := tb_7 (List.mem_of_getElem? (i := 15) rfl) rfl
theorem k_1562 : (Jvm.Cond.instanceMethod ({ cls := "TurnerHeapModel", name := "run", desc := "(I)I" } : Jvm.MethodName)) ∈ G := tb_7 (List.mem_of_getElem? (i := 16) rfl) rfl
theorem k_1563 : (Jvm.Cond.selects "TurnerHeapModel" ({ cls := "TurnerHeapModel", name := "run", desc := "(I)I" } : Jvm.MethodName) ({ cls := "TurnerHeapModel", name := "run", desc := "(I)I" } : Jvm.MethodName)) ∈ G := tb_7 (List.mem_of_getElem? (i := 17) rfl) rfl
theorem k_1564 : (Jvm.Cond.code ({ cls := "TurnerHeapModel", name := "run", desc := "(I)I" } : Jvm.MethodName) prog_11_method_72_code (3 : Nat) (Option.some Jvm.ClassFile.FieldType.int)) ∈ G := tb_7 (List.mem_of_getElem? (i := 18) rfl) rfl
theorem k_1565 : (Jvm.Cond.methodLink "TurnerHeapModel" (435 : Nat) ({ cls := "TurnerHeapModel", name := "step", desc := "()V" } : Jvm.MethodName)) ∈ G := tb_7 (List.mem_of_getElem? (i := 19) rfl) rfl
theorem k_1567 : (Jvm.Cond.instanceMethod ({ cls := "TurnerHeapModel", name := "step", desc := "()V" } : Jvm.MethodName)) ∈ G := tb_7 (List.mem_of_getElem? (i := 21) rfl) rfl
theorem k_1568 : (Jvm.Cond.code ({ cls := "TurnerHeapModel", name := "step", desc := "()V" } : Jvm.MethodName) prog_11_method_71_code (2 : Nat) (Option.none : Option Jvm.ClassFile.FieldType)) ∈ G := tb_7 (List.mem_of_getElem? (i := 22) rfl) rfl
theorem k_1569 : (Jvm.Cond.methodLink "TurnerHeapModel" (432 : Nat) ({ cls := "TurnerHeapModel", name := "act", desc := "()V" } : Jvm.MethodName)) ∈ G := tb_7 (List.mem_of_getElem? (i := 23) rfl) rfl
theorem k_1571 : (Jvm.Cond.instanceMethod ({ cls := "TurnerHeapModel", name := "act", desc := "()V" } : Jvm.MethodName)) ∈ G := tb_7 (List.mem_of_getElem? (i := 25) rfl) rfl
theorem k_1572 : (Jvm.Cond.code ({ cls := "TurnerHeapModel", name := "act", desc := "()V" } : Jvm.MethodName) prog_11_method_70_code (4 : Nat) (Option.none : Option Jvm.ClassFile.FieldType)) ∈ G := tb_7 (List.mem_of_getElem? (i := 26) rfl) rfl
theorem k_1573 : (Jvm.Cond.methodLink "TurnerHeapModel" (422 : Nat) ({ cls := "TurnerHeapModel", name := "below", desc := "()I" } : Jvm.MethodName)) ∈ G := tb_7 (List.mem_of_getElem? (i := 27) rfl) rfl
theorem k_1575 : (Jvm.Cond.instanceMethod ({ cls := "TurnerHeapModel", name := "below", desc := "()I" } : Jvm.MethodName)) ∈ G := tb_7 (List.mem_of_getElem? (i := 29) rfl) rfl
theorem k_1576 : (Jvm.Cond.code ({ cls := "TurnerHeapModel", name := "below", desc := "()I" } : Jvm.MethodName) prog_11_method_56_code (1 : Nat) (Option.some Jvm.ClassFile.FieldType.int)) ∈ G := tb_7 (List.mem_of_getElem? (i := 30) rfl) rfl
theorem k_1577 : (Jvm.Cond.methodLink "TurnerHeapModel" (425 : Nat) ({ cls := "TurnerHeapModel", name := "value", desc := "(ZZ)V" } : Jvm.MethodName)) ∈ G := tb_7 (List.mem_of_getElem? (i := 31) rfl) rfl
theorem k_1579 : (Jvm.Cond.instanceMethod ({ cls := "TurnerHeapModel", name := "value", desc := "(ZZ)V" } : Jvm.MethodName)) ∈ G := tb_7 (List.mem_of_getElem? (i := 33) rfl) rfl
theorem k_1580 : (Jvm.Cond.code ({ cls := "TurnerHeapModel", name := "value", desc := "(ZZ)V" } : Jvm.MethodName) prog_11_method_69_code (7 : Nat) (Option.none : Option Jvm.ClassFile.FieldType)) ∈ G := tb_7 (List.mem_of_getElem? (i := 34) rfl) rfl
theorem k_1581 : (Jvm.Cond.methodLink "TurnerHeapModel" (377 : Nat) ({ cls := "TurnerHeapModel", name := "argument", desc := "(I)J" } : Jvm.MethodName)) ∈ G := tb_7 (List.mem_of_getElem? (i := 35) rfl) rfl
theorem k_1583 : (Jvm.Cond.instanceMethod ({ cls := "TurnerHeapModel", name := "argument", desc := "(I)J" } : Jvm.MethodName)) ∈ G := tb_7 (List.mem_of_getElem? (i := 37) rfl) rfl
theorem k_1584 : (Jvm.Cond.code ({ cls := "TurnerHeapModel", name := "argument", desc := "(I)J" } : Jvm.MethodName) prog_11_method_58_code (2 : Nat) (Option.some Jvm.ClassFile.FieldType.long)) ∈ G := tb_7 (List.mem_of_getElem? (i := 38) rfl) rfl
theorem k_1585 : (Jvm.Cond.methodLink "TurnerHeapModel" (415 : Nat) ({ cls := "TurnerHeapModel", name := "goesOn", desc := "(JZJJZ)V" } : Jvm.MethodName)) ∈ G := tb_7 (List.mem_of_getElem? (i := 39) rfl) rfl
theorem k_1587 : (Jvm.Cond.instanceMethod ({ cls := "TurnerHeapModel", name := "goesOn", desc := "(JZJJZ)V" } : Jvm.MethodName)) ∈ G := tb_7 (List.mem_of_getElem? (i := 41) rfl) rfl
theorem k_1588 : (Jvm.Cond.code ({ cls := "TurnerHeapModel", name := "goesOn", desc := "(JZJJZ)V" } : Jvm.MethodName) prog_11_method_64_code (11 : Nat) (Option.none : Option Jvm.ClassFile.FieldType)) ∈ G := tb_7 (List.mem_of_getElem? (i := 42) rfl) rfl
theorem k_1589 : (Jvm.Cond.methodLink "TurnerHeapModel" (393 : Nat) ({ cls := "TurnerHeapModel", name := "truth", desc := "(J)Z" } : Jvm.MethodName)) ∈ G := tb_7 (List.mem_of_getElem? (i := 43) rfl) rfl
theorem k_1590 : (Jvm.Cond.static ({ cls := "TurnerHeapModel", name := "truth", desc := "(J)Z" } : Jvm.MethodName)) ∈ G := tb_7 (List.mem_of_getElem? (i := 44) rfl) rfl
theorem k_1591 : (Jvm.Cond.code ({ cls := "TurnerHeapModel", name := "truth", desc := "(J)Z" } : Jvm.MethodName) prog_11_method_62_code (2 : Nat) (Option.some Jvm.ClassFile.FieldType.boolean)) ∈ G := tb_7 (List.mem_of_getElem? (i := 45) rfl) rfl
theorem k_1592 : (Jvm.Cond.methodLink "TurnerHeapModel" (386 : Nat) ({ cls := "TurnerHeapModel", name := "overwrite", desc := "(IJJ)V" } : Jvm.MethodName)) ∈ G := tb_7 (List.mem_of_getElem? (i := 46) rfl) rfl
theorem k_1594 : (Jvm.Cond.instanceMethod ({ cls := "TurnerHeapModel", name := "overwrite", desc := "(IJJ)V" } : Jvm.MethodName)) ∈ G := tb_7 (List.mem_of_getElem? (i := 48) rfl) rfl
theorem k_1595 : (Jvm.Cond.code ({ cls := "TurnerHeapModel", name := "overwrite", desc := "(IJJ)V" } : Jvm.MethodName) prog_11_method_59_code (7 : Nat) (Option.none : Option Jvm.ClassFile.FieldType)) ∈ G := tb_7 (List.mem_of_getElem? (i := 49) rfl) rfl
theorem k_1596 : (Jvm.Cond.methodLink "TurnerHeapModel" (396 : Nat) ({ cls := "TurnerHeapModel", name := "counted", desc := "(III)V" } : Jvm.MethodName)) ∈ G := tb_7 (List.mem_of_getElem? (i := 50) rfl) rfl
theorem k_1598 : (Jvm.Cond.instanceMethod ({ cls := "TurnerHeapModel", name := "counted", desc := "(III)V" } : Jvm.MethodName)) ∈ G := tb_7 (List.mem_of_getElem? (i := 52) rfl) rfl
theorem k_1599 : (Jvm.Cond.code ({ cls := "TurnerHeapModel", name := "counted", desc := "(III)V" } : Jvm.MethodName) prog_11_method_63_code (6 : Nat) (Option.none : Option Jvm.ClassFile.FieldType)) ∈ G := tb_7 (List.mem_of_getElem? (i := 53) rfl) rfl
theorem k_1600 : (Jvm.Cond.methodLink "TurnerHeapModel" (400 : Nat) ({ cls := "TurnerHeapModel", name := "evaluate", desc := "(IJZI)V" } : Jvm.MethodName)) ∈ G := tb_7 (List.mem_of_getElem? (i := 54) rfl) rfl
theorem k_1602 : (Jvm.Cond.instanceMethod ({ cls := "TurnerHeapModel", name := "evaluate", desc := "(IJZI)V" } : Jvm.MethodName)) ∈ G := tb_7 (List.mem_of_getElem? (i := 56) rfl) rfl
theorem k_1603 : (Jvm.Cond.code ({ cls := "TurnerHeapModel", name := "evaluate", desc := "(IJZI)V" } : Jvm.MethodName) prog_11_method_61_code (6 : Nat) (Option.none : Option Jvm.ClassFile.FieldType)) ∈ G := tb_7 (List.mem_of_getElem? (i := 57) rfl) rfl
theorem k_1604 : (Jvm.Cond.methodLink "TurnerHeapModel" (419 : Nat) ({ cls := "TurnerHeapModel", name := "printed", desc := "(JZJJZ)V" } : Jvm.MethodName)) ∈ G := tb_7 (List.mem_of_getElem? (i := 58) rfl) rfl
theorem k_1606 : (Jvm.Cond.instanceMethod ({ cls := "TurnerHeapModel", name := "printed", desc := "(JZJJZ)V" } : Jvm.MethodName)) ∈ G := tb_7 (List.mem_of_getElem? (i := 60) rfl) rfl
theorem k_1607 : (Jvm.Cond.code ({ cls := "TurnerHeapModel", name := "printed", desc := "(JZJJZ)V" } : Jvm.MethodName) prog_11_method_68_code (10 : Nat) (Option.none : Option Jvm.ClassFile.FieldType)) ∈ G := tb_7 (List.mem_of_getElem? (i := 61) rfl) rfl
theorem k_1608 : (Jvm.Cond.methodLink "TurnerHeapModel" (412 : Nat) ({ cls := "TurnerHeapModel", name := "say", desc := "(J)V" } : Jvm.MethodName)) ∈ G := tb_7 (List.mem_of_getElem? (i := 62) rfl) rfl
theorem k_1610 : (Jvm.Cond.instanceMethod ({ cls := "TurnerHeapModel", name := "say", desc := "(J)V" } : Jvm.MethodName)) ∈ G := tb_7 (List.mem_of_getElem? (i := 64) rfl) rfl
theorem k_1611 : (Jvm.Cond.code ({ cls := "TurnerHeapModel", name := "say", desc := "(J)V" } : Jvm.MethodName) prog_11_method_67_code (3 : Nat) (Option.none : Option Jvm.ClassFile.FieldType)) ∈ G := tb_7 (List.mem_of_getElem? (i := 65) rfl) rfl
theorem k_1612 : (Jvm.Cond.methodLink "TurnerHeapModel" (409 : Nat) ({ cls := "TurnerHeapModel", name := "digits", desc := "(I)V" } : Jvm.MethodName)) ∈ G := tb_7 (List.mem_of_getElem? (i := 66) rfl) rfl
theorem k_1614 : (Jvm.Cond.instanceMethod ({ cls := "TurnerHeapModel", name := "digits", desc := "(I)V" } : Jvm.MethodName)) ∈ G := tb_7 (List.mem_of_getElem? (i := 68) rfl) rfl
theorem k_1615 : (Jvm.Cond.code ({ cls := "TurnerHeapModel", name := "digits", desc := "(I)V" } : Jvm.MethodName) prog_11_method_66_code (8 : Nat) (Option.none : Option Jvm.ClassFile.FieldType)) ∈ G := tb_7 (List.mem_of_getElem? (i := 69) rfl) rfl
theorem k_1616 : (Jvm.Cond.methodLink "TurnerHeapModel" (404 : Nat) ({ cls := "TurnerHeapModel", name := "letterOut", desc := "(I)V" } : Jvm.MethodName)) ∈ G := tb_7 (List.mem_of_getElem? (i := 70) rfl) rfl
theorem k_1618 : (Jvm.Cond.instanceMethod ({ cls := "TurnerHeapModel", name := "letterOut", desc := "(I)V" } : Jvm.MethodName)) ∈ G := tb_7 (List.mem_of_getElem? (i := 72) rfl) rfl
theorem k_1619 : (Jvm.Cond.code ({ cls := "TurnerHeapModel", name := "letterOut", desc := "(I)V" } : Jvm.MethodName) prog_11_method_65_code (2 : Nat) (Option.none : Option Jvm.ClassFile.FieldType)) ∈ G := tb_7 (List.mem_of_getElem? (i := 73) rfl) rfl
theorem k_1620 : (Jvm.Cond.constantLong "TurnerHeapModel" (407 : Nat) (9 : Int64)) ∈ G := tb_7 (List.mem_of_getElem? (i := 74) rfl) rfl
theorem k_1621 : (Jvm.Cond.methodLink "TurnerHeapModel" (380 : Nat) ({ cls := "TurnerHeapModel", name := "needs", desc := "(I)I" } : Jvm.MethodName)) ∈ G := tb_7 (List.mem_of_getElem? (i := 75) rfl) rfl
theorem k_1622 : (Jvm.Cond.static ({ cls := "TurnerHeapModel", name := "needs", desc := "(I)I" } : Jvm.MethodName)) ∈ G := tb_7 (List.mem_of_getElem? (i := 76) rfl) rfl
theorem k_1623 : (Jvm.Cond.code ({ cls := "TurnerHeapModel", name := "needs", desc := "(I)I" } : Jvm.MethodName) prog_11_method_57_code (1 : Nat) (Option.some Jvm.ClassFile.FieldType.int)) ∈ G := tb_7 (List.mem_of_getElem? (i := 77) rfl) rfl
theorem k_1624 : (Jvm.Cond.methodLink "TurnerHeapModel" (429 : Nat) ({ cls := "TurnerHeapModel", name := "combinator", desc := "(I)V" } : Jvm.MethodName)) ∈ G := tb_7 (List.mem_of_getElem? (i := 78) rfl) rfl
theorem k_1626 : (Jvm.Cond.instanceMethod ({ cls := "TurnerHeapModel", name := "combinator", desc := "(I)V" } : Jvm.MethodName)) ∈ G := tb_7 (List.mem_of_getElem? (i := 80) rfl) rfl
theorem k_1627 : (Jvm.Cond.code ({ cls := "TurnerHeapModel", name := "combinator", desc := "(I)V" } : Jvm.MethodName) prog_11_method_60_code (13 : Nat) (Option.none : Option Jvm.ClassFile.FieldType)) ∈ G := tb_7 (List.mem_of_getElem? (i := 81) rfl) rfl
theorem k_1628 : (Jvm.Cond.methodLink "TurnerHeapModel" (383 : Nat) ({ cls := "TurnerHeapModel", name := "fits", desc := "(I)Z" } : Jvm.MethodName)) ∈ G := tb_7 (List.mem_of_getElem? (i := 82) rfl) rfl
theorem k_1630 : (Jvm.Cond.instanceMethod ({ cls := "TurnerHeapModel", name := "fits", desc := "(I)Z" } : Jvm.MethodName)) ∈ G := tb_7 (List.mem_of_getElem? (i := 84) rfl) rfl
theorem k_1631 : (Jvm.Cond.code ({ cls := "TurnerHeapModel", name := "fits", desc := "(I)Z" } : Jvm.MethodName) prog_11_method_55_code (2 : Nat) (Option.some Jvm.ClassFile.FieldType.boolean)) ∈ G := tb_7 (List.mem_of_getElem? (i := 85) rfl) rfl
theorem k_1632 : (Jvm.Cond.methodLink "TurnerHeapModel" (374 : Nat) ({ cls := "TurnerHeapModel", name := "reachedNow", desc := "()I" } : Jvm.MethodName)) ∈ G := tb_7 (List.mem_of_getElem? (i := 86) rfl) rfl
theorem k_1634 : (Jvm.Cond.instanceMethod ({ cls := "TurnerHeapModel", name := "reachedNow", desc := "()I" } : Jvm.MethodName)) ∈ G := tb_7 (List.mem_of_getElem? (i := 88) rfl) rfl
theorem k_1635 : (Jvm.Cond.code ({ cls := "TurnerHeapModel", name := "reachedNow", desc := "()I" } : Jvm.MethodName) prog_11_method_53_code (3 : Nat) (Option.some Jvm.ClassFile.FieldType.int)) ∈ G := tb_7 (List.mem_of_getElem? (i := 89) rfl) rfl
theorem k_1636 : (Jvm.Cond.methodLink "TurnerHeapModel" (367 : Nat) ({ cls := "TurnerHeapModel", name := "reach", desc := "(JI)I" } : Jvm.MethodName)) ∈ G := tb_7 (List.mem_of_getElem? (i := 90) rfl) rfl
theorem k_1638 : (Jvm.Cond.instanceMethod ({ cls := "TurnerHeapModel", name := "reach", desc := "(JI)I" } : Jvm.MethodName)) ∈ G := tb_7 (List.mem_of_getElem? (i := 92) rfl) rfl
theorem k_1639 : (Jvm.Cond.code ({ cls := "TurnerHeapModel", name := "reach", desc := "(JI)I" } : Jvm.MethodName) prog_11_method_52_code (4 : Nat) (Option.some Jvm.ClassFile.FieldType.int)) ∈ G := tb_7 (List.mem_of_getElem? (i := 93) rfl) rfl
theorem k_1640 : (Jvm.Cond.methodLink "TurnerHeapModel" (390 : Nat) ({ cls := "TurnerHeapModel", name := "made", desc := "(JJ)J" } : Jvm.MethodName)) ∈ G := tb_7 (List.mem_of_getElem? (i := 94) rfl) rfl
theorem k_1642 : (Jvm.Cond.instanceMethod ({ cls := "TurnerHeapModel", name := "made", desc := "(JJ)J" } : Jvm.MethodName)) ∈ G := tb_7 (List.mem_of_getElem? (i := 96) rfl) rfl
theorem k_1643 : (Jvm.Cond.code ({ cls := "TurnerHeapModel", name := "made", desc := "(JJ)J" } : Jvm.MethodName) prog_11_method_54_code (6 : Nat) (Option.some Jvm.ClassFile.FieldType.long)) ∈ G := tb_7 (List.mem_of_getElem? (i := 97) rfl) rfl
theorem k_1644 : (Jvm.Cond.methodLink "TurnerHeapLaw" (75 : Nat) ({ cls := "TurnerHeapModel", name := "stopped", desc := "()I" } : Jvm.MethodName)) ∈ G := tb_7 (List.mem_of_getElem? (i := 98) rfl) rfl
theorem k_1645 : (Jvm.Cond.instanceMethod ({ cls := "TurnerHeapModel", name := "stopped", desc := "()I" } : Jvm.MethodName)) ∈ G := tb_7 (List.mem_of_getElem? (i := 99) rfl) rfl
theorem k_1646 : (Jvm.Cond.selects "TurnerHeapModel" ({ cls := "TurnerHeapModel", name := "stopped", desc := "()I" } : Jvm.MethodName) ({ cls := "TurnerHeapModel", name := "stopped", desc := "()I" } : Jvm.MethodName)) ∈ G := tb_7 (List.mem_of_getElem? (i := 100) rfl) rfl
theorem k_1647 : (Jvm.Cond.code ({ cls := "TurnerHeapModel", name := "stopped", desc := "()I" } : Jvm.MethodName) prog_11_method_73_code (1 : Nat) (Option.some Jvm.ClassFile.FieldType.int)) ∈ G := tb_7 (List.mem_of_getElem? (i := 101) rfl) rfl
theorem k_1648 : (Jvm.Cond.methodLink "TurnerHeapLaw" (79 : Nat) ({ cls := "TurnerHeapModel", name := "length", desc := "()I" } : Jvm.MethodName)) ∈ G := tb_7 (List.mem_of_getElem? (i := 102) rfl) rfl
theorem k_1649 : (Jvm.Cond.instanceMethod ({ cls := "TurnerHeapModel", name := "length", desc := "()I" } : Jvm.MethodName)) ∈ G := tb_7 (List.mem_of_getElem? (i := 103) rfl) rfl
theorem k_1650 : (Jvm.Cond.selects "TurnerHeapModel" ({ cls := "TurnerHeapModel", name := "length", desc := "()I" } : Jvm.MethodName) ({ cls := "TurnerHeapModel", name := "length", desc := "()I" } : Jvm.MethodName)) ∈ G := tb_7 (List.mem_of_getElem? (i := 104) rfl) rfl
theorem k_1651 : (Jvm.Cond.code ({ cls := "TurnerHeapModel", name := "length", desc := "()I" } : Jvm.MethodName) prog_11_method_74_code (1 : Nat) (Option.some Jvm.ClassFile.FieldType.int)) ∈ G := tb_7 (List.mem_of_getElem? (i := 105) rfl) rfl
theorem k_1652 : (Jvm.Cond.methodLink "TurnerHeapLaw" (82 : Nat) ({ cls := "TurnerHeapModel", name := "letter", desc := "(I)I" } : Jvm.MethodName)) ∈ G := tb_7 (List.mem_of_getElem? (i := 106) rfl) rfl
theorem k_1653 : (Jvm.Cond.instanceMethod ({ cls := "TurnerHeapModel", name := "letter", desc := "(I)I" } : Jvm.MethodName)) ∈ G := tb_7 (List.mem_of_getElem? (i := 107) rfl) rfl
theorem k_1654 : (Jvm.Cond.selects "TurnerHeapModel" ({ cls := "TurnerHeapModel", name := "letter", desc := "(I)I" } : Jvm.MethodName) ({ cls := "TurnerHeapModel", name := "letter", desc := "(I)I" } : Jvm.MethodName)) ∈ G := tb_7 (List.mem_of_getElem? (i := 108) rfl) rfl
theorem k_1655 : (Jvm.Cond.code ({ cls := "TurnerHeapModel", name := "letter", desc := "(I)I" } : Jvm.MethodName) prog_11_method_75_code (2 : Nat) (Option.some Jvm.ClassFile.FieldType.int)) ∈ G := tb_7 (List.mem_of_getElem? (i := 109) rfl) rfl
theorem k_1656 : (Jvm.Cond.methodLink "TurnerHeapLaw" (85 : Nat) ({ cls := "TurnerHeapModel", name := "reached", desc := "()I" } : Jvm.MethodName)) ∈ G := tb_7 (List.mem_of_getElem? (i := 110) rfl) rfl
theorem k_1657 : (Jvm.Cond.instanceMethod ({ cls := "TurnerHeapModel", name := "reached", desc := "()I" } : Jvm.MethodName)) ∈ G := tb_7 (List.mem_of_getElem? (i := 111) rfl) rfl
theorem k_1658 : (Jvm.Cond.selects "TurnerHeapModel" ({ cls := "TurnerHeapModel", name := "reached", desc := "()I" } : Jvm.MethodName) ({ cls := "TurnerHeapModel", name := "reached", desc := "()I" } : Jvm.MethodName)) ∈ G := tb_7 (List.mem_of_getElem? (i := 112) rfl) rfl
theorem k_1659 : (Jvm.Cond.code ({ cls := "TurnerHeapModel", name := "reached", desc := "()I" } : Jvm.MethodName) prog_11_method_76_code (1 : Nat) (Option.some Jvm.ClassFile.FieldType.int)) ∈ G := tb_7 (List.mem_of_getElem? (i := 113) rfl) rfl
theorem k_1660 : (Jvm.Cond.methodLink "TurnerHeapLaw" (88 : Nat) ({ cls := "TurnerHeapModel", name := "count", desc := "(I)I" } : Jvm.MethodName)) ∈ G := tb_7 (List.mem_of_getElem? (i := 114) rfl) rfl
theorem k_1661 : (Jvm.Cond.instanceMethod ({ cls := "TurnerHeapModel", name := "count", desc := "(I)I" } : Jvm.MethodName)) ∈ G := tb_7 (List.mem_of_getElem? (i := 115) rfl) rfl
theorem k_1662 : (Jvm.Cond.selects "TurnerHeapModel" ({ cls := "TurnerHeapModel", name := "count", desc := "(I)I" } : Jvm.MethodName) ({ cls := "TurnerHeapModel", name := "count", desc := "(I)I" } : Jvm.MethodName)) ∈ G := tb_7 (List.mem_of_getElem? (i := 116) rfl) rfl
theorem k_1663 : (Jvm.Cond.code ({ cls := "TurnerHeapModel", name := "count", desc := "(I)I" } : Jvm.MethodName) prog_11_method_77_code (2 : Nat) (Option.some Jvm.ClassFile.FieldType.int)) ∈ G := tb_7 (List.mem_of_getElem? (i := 117) rfl) rfl
theorem k_1664 : (Jvm.Cond.methodLink "TurnerHeapLaw" (92 : Nat) ({ cls := "TurnerHeapModel", name := "form", desc := "(II)I" } : Jvm.MethodName)) ∈ G := tb_7 (List.mem_of_getElem? (i := 118) rfl) rfl
theorem k_1665 : (Jvm.Cond.instanceMethod ({ cls := "TurnerHeapModel", name := "form", desc := "(II)I" } : Jvm.MethodName)) ∈ G := tb_7 (List.mem_of_getElem? (i := 119) rfl) rfl
theorem k_1666 : (Jvm.Cond.selects "TurnerHeapModel" ({ cls := "TurnerHeapModel", name := "form", desc := "(II)I" } : Jvm.MethodName) ({ cls := "TurnerHeapModel", name := "form", desc := "(II)I" } : Jvm.MethodName)) ∈ G := tb_7 (List.mem_of_getElem? (i := 120) rfl) rfl
theorem k_1667 : (Jvm.Cond.code ({ cls := "TurnerHeapModel", name := "form", desc := "(II)I" } : Jvm.MethodName) prog_11_method_78_code (3 : Nat) (Option.some Jvm.ClassFile.FieldType.int)) ∈ G := tb_7 (List.mem_of_getElem? (i := 121) rfl) rfl
theorem k_1668 : (Jvm.Cond.constantLong "TurnerHeapLaw" (54 : Nat) (4294967295 : Int64)) ∈ G := tb_7 (List.mem_of_getElem? (i := 122) rfl) rfl
theorem k_1669 : (Jvm.Cond.sameMethod "java/lang/Throwable" "java/lang/Throwable" "fillInStackTrace" "(I)Ljava/lang/Throwable;") ∈ G := tb_7 (List.mem_of_getElem? (i := 123) rfl) rfl
theorem k_1670 : (Jvm.Cond.fieldLink "java/lang/String" (15 : Nat) "java/lang/String" "coder" "B") ∈ G := tb_7 (List.mem_of_getElem? (i := 124) rfl) rfl
theorem k_1671 : (Jvm.Cond.fieldLink "java/lang/String" (9 : Nat) "java/lang/String" "value" "[B") ∈ G := tb_7 (List.mem_of_getElem? (i := 125) rfl) rfl
theorem in_TH : ∀ w ∈ u_ws rn_TH fl_TH 10, w ∈ G := by
  show ∀ w ∈ [Cond.laysFinal rn_TH rn_TH "text" "[C", Cond.lays rn_TH rn_TH "written" "I", Cond.laysFinal rn_TH rn_TH "lexemes" "LTurnerHeap$Lexemes;", Cond.laysFinal rn_TH rn_TH "terms" "LTurnerHeap$Terms;", Cond.laysFinal rn_TH rn_TH "reader" "LTurnerHeap$Reader;", Cond.laysFinal rn_TH rn_TH "forms" "LTurnerHeap$Forms;", Cond.laysFinal rn_TH rn_TH "heap" "LTurnerHeap$Heap;", Cond.laysFinal rn_TH rn_TH "paper" "LTurnerHeap$Paper;", Cond.laysFinal rn_TH rn_TH "machine" "LTurnerHeap$Machine;", Cond.lays rn_TH rn_TH "loaded" "Z"], w ∈ G
  exact List.forall_mem_cons.mpr ⟨k_378, List.forall_mem_cons.mpr ⟨k_380, List.forall_mem_cons.mpr ⟨k_382, List.forall_mem_cons.mpr ⟨k_384, List.forall_mem_cons.mpr ⟨k_386, List.forall_mem_cons.mpr ⟨k_388, List.forall_mem_cons.mpr ⟨k_390, List.forall_mem_cons.mpr ⟨k_392, List.forall_mem_cons.mpr ⟨k_394, List.forall_mem_cons.mpr ⟨k_396, fun _ h => absurd h List.not_mem_nil⟩⟩⟩⟩⟩⟩⟩⟩⟩⟩
theorem in_LX : ∀ w ∈ u_ws rn_LX fl_LX 3, w ∈ G := by
  show ∀ w ∈ [Cond.laysFinal rn_LX rn_LX "kinds" "[I", Cond.laysFinal rn_LX rn_LX "values" "[I", Cond.lays rn_LX rn_LX "size" "I"], w ∈ G
  exact List.forall_mem_cons.mpr ⟨k_147, List.forall_mem_cons.mpr ⟨k_149, List.forall_mem_cons.mpr ⟨k_151, fun _ h => absurd h List.not_mem_nil⟩⟩⟩
theorem in_TM : ∀ w ∈ u_ws rn_TM fl_TM 8, w ∈ G := by
  show ∀ w ∈ [Cond.laysFinal rn_TM rn_TM "left" "[J", Cond.laysFinal rn_TM rn_TM "right" "[J", Cond.laysFinal rn_TM rn_TM "free" "[I", Cond.lays rn_TM rn_TM "freeSize" "I", Cond.laysFinal rn_TM rn_TM "order" "[I", Cond.laysFinal rn_TM rn_TM "has" "[Z", Cond.laysFinal rn_TM rn_TM "without" "[J", Cond.lays rn_TM rn_TM "tooBig" "Z"], w ∈ G
  exact List.forall_mem_cons.mpr ⟨k_170, List.forall_mem_cons.mpr ⟨k_172, List.forall_mem_cons.mpr ⟨k_174, List.forall_mem_cons.mpr ⟨k_176, List.forall_mem_cons.mpr ⟨k_178, List.forall_mem_cons.mpr ⟨k_180, List.forall_mem_cons.mpr ⟨k_182, List.forall_mem_cons.mpr ⟨k_184, fun _ h => absurd h List.not_mem_nil⟩⟩⟩⟩⟩⟩⟩⟩
theorem in_RD : ∀ w ∈ u_ws rn_RD fl_RD 12, w ∈ G := by
  show ∀ w ∈ [Cond.laysFinal rn_RD rn_RD "lexemes" "LTurnerHeap$Lexemes;", Cond.laysFinal rn_RD rn_RD "terms" "LTurnerHeap$Terms;", Cond.lays rn_RD rn_RD "at" "I", Cond.laysFinal rn_RD rn_RD "names" "[I", Cond.lays rn_RD rn_RD "named" "I", Cond.laysFinal rn_RD rn_RD "defined" "[J", Cond.lays rn_RD rn_RD "definitions" "I", Cond.lays rn_RD rn_RD "mainTerm" "J", Cond.laysFinal rn_RD rn_RD "scope" "[I", Cond.lays rn_RD rn_RD "inScope" "I", Cond.laysFinal rn_RD rn_RD "waiting" "[J", Cond.lays rn_RD rn_RD "waitingSize" "I"], w ∈ G
  exact List.forall_mem_cons.mpr ⟨k_207, List.forall_mem_cons.mpr ⟨k_209, List.forall_mem_cons.mpr ⟨k_211, List.forall_mem_cons.mpr ⟨k_213, List.forall_mem_cons.mpr ⟨k_215, List.forall_mem_cons.mpr ⟨k_217, List.forall_mem_cons.mpr ⟨k_219, List.forall_mem_cons.mpr ⟨k_221, List.forall_mem_cons.mpr ⟨k_223, List.forall_mem_cons.mpr ⟨k_225, List.forall_mem_cons.mpr ⟨k_227, List.forall_mem_cons.mpr ⟨k_229, fun _ h => absurd h List.not_mem_nil⟩⟩⟩⟩⟩⟩⟩⟩⟩⟩⟩⟩
theorem in_FM : ∀ w ∈ u_ws rn_FM fl_FM 1, w ∈ G := by
  show ∀ w ∈ [Cond.laysFinal rn_FM rn_FM "answers" "[I"], w ∈ G
  exact List.forall_mem_cons.mpr ⟨k_239, fun _ h => absurd h List.not_mem_nil⟩
theorem in_HP : ∀ w ∈ u_ws rn_HP fl_HP 12, w ∈ G := by
  show ∀ w ∈ [Cond.laysFinal rn_HP rn_HP "room" "I", Cond.laysFinal rn_HP rn_HP "left" "[J", Cond.laysFinal rn_HP rn_HP "right" "[J", Cond.laysFinal rn_HP rn_HP "free" "[I", Cond.lays rn_HP rn_HP "freeSize" "I", Cond.laysFinal rn_HP rn_HP "markedIn" "[I", Cond.lays rn_HP rn_HP "round" "I", Cond.laysFinal rn_HP rn_HP "toMark" "[I", Cond.lays rn_HP rn_HP "marks" "I", Cond.laysFinal rn_HP rn_HP "defined" "[J", Cond.lays rn_HP rn_HP "definitions" "I", Cond.laysFinal rn_HP rn_HP "places" "[I"], w ∈ G
  exact List.forall_mem_cons.mpr ⟨k_266, List.forall_mem_cons.mpr ⟨k_268, List.forall_mem_cons.mpr ⟨k_270, List.forall_mem_cons.mpr ⟨k_272, List.forall_mem_cons.mpr ⟨k_274, List.forall_mem_cons.mpr ⟨k_276, List.forall_mem_cons.mpr ⟨k_278, List.forall_mem_cons.mpr ⟨k_280, List.forall_mem_cons.mpr ⟨k_282, List.forall_mem_cons.mpr ⟨k_284, List.forall_mem_cons.mpr ⟨k_286, List.forall_mem_cons.mpr ⟨k_288, fun _ h => absurd h List.not_mem_nil⟩⟩⟩⟩⟩⟩⟩⟩⟩⟩⟩⟩
theorem in_PP : ∀ w ∈ u_ws rn_PP fl_PP 3, w ∈ G := by
  show ∀ w ∈ [Cond.laysFinal rn_PP rn_PP "first" "[C", Cond.laysFinal rn_PP rn_PP "digits" "[C", Cond.lays rn_PP rn_PP "printed" "I"], w ∈ G
  exact List.forall_mem_cons.mpr ⟨k_300, List.forall_mem_cons.mpr ⟨k_302, List.forall_mem_cons.mpr ⟨k_304, fun _ h => absurd h List.not_mem_nil⟩⟩⟩
theorem in_MC : ∀ w ∈ u_ws rn_MC fl_MC 18, w ∈ G := by
  show ∀ w ∈ [Cond.laysFinal rn_MC rn_MC "heap" "LTurnerHeap$Heap;", Cond.laysFinal rn_MC rn_MC "paper" "LTurnerHeap$Paper;", Cond.laysFinal rn_MC rn_MC "spine" "[I", Cond.lays rn_MC rn_MC "onSpines" "I", Cond.lays rn_MC rn_MC "mostOnSpines" "I", Cond.laysFinal rn_MC rn_MC "bases" "[I", Cond.laysFinal rn_MC rn_MC "askers" "[I", Cond.laysFinal rn_MC rn_MC "asksSecond" "[Z", Cond.laysFinal rn_MC rn_MC "firsts" "[I", Cond.lays rn_MC rn_MC "upperSpines" "I", Cond.lays rn_MC rn_MC "looked" "J", Cond.lays rn_MC rn_MC "rest" "J", Cond.lays rn_MC rn_MC "isLeftSide" "Z", Cond.lays rn_MC rn_MC "isRest" "Z", Cond.lays rn_MC rn_MC "pairLeft" "J", Cond.lays rn_MC rn_MC "pairRight" "J", Cond.lays rn_MC rn_MC "steps" "I", Cond.lays rn_MC rn_MC "stop" "I"], w ∈ G
  exact List.forall_mem_cons.mpr ⟨k_331, List.forall_mem_cons.mpr ⟨k_333, List.forall_mem_cons.mpr ⟨k_335, List.forall_mem_cons.mpr ⟨k_337, List.forall_mem_cons.mpr ⟨k_339, List.forall_mem_cons.mpr ⟨k_341, List.forall_mem_cons.mpr ⟨k_343, List.forall_mem_cons.mpr ⟨k_345, List.forall_mem_cons.mpr ⟨k_347, List.forall_mem_cons.mpr ⟨k_349, List.forall_mem_cons.mpr ⟨k_351, List.forall_mem_cons.mpr ⟨k_353, List.forall_mem_cons.mpr ⟨k_355, List.forall_mem_cons.mpr ⟨k_357, List.forall_mem_cons.mpr ⟨k_359, List.forall_mem_cons.mpr ⟨k_361, List.forall_mem_cons.mpr ⟨k_363, List.forall_mem_cons.mpr ⟨k_365, fun _ h => absurd h List.not_mem_nil⟩⟩⟩⟩⟩⟩⟩⟩⟩⟩⟩⟩⟩⟩⟩⟩⟩⟩
theorem in_MO : ∀ w ∈ u_ws rn_MO fl_MO 55, w ∈ G := by
  show ∀ w ∈ [Cond.lays rn_MO rn_MO "thrown" "I", Cond.laysFinal rn_MO rn_MO "room" "I", Cond.lays rn_MO rn_MO "length" "I", Cond.laysFinal rn_MO rn_MO "text" "[I", Cond.lays rn_MO rn_MO "lexemes" "I", Cond.lays rn_MO rn_MO "at" "I", Cond.lays rn_MO rn_MO "bad" "I", Cond.laysFinal rn_MO rn_MO "kind" "[I", Cond.laysFinal rn_MO rn_MO "what" "[J", Cond.laysFinal rn_MO rn_MO "left" "[J", Cond.laysFinal rn_MO rn_MO "right" "[J", Cond.lays rn_MO rn_MO "frees" "I", Cond.laysFinal rn_MO rn_MO "free" "[I", Cond.laysFinal rn_MO rn_MO "order" "[I", Cond.laysFinal rn_MO rn_MO "has" "[Z", Cond.laysFinal rn_MO rn_MO "becomes" "[J", Cond.lays rn_MO rn_MO "deep" "I", Cond.lays rn_MO rn_MO "operands" "I", Cond.lays rn_MO rn_MO "operations" "I", Cond.lays rn_MO rn_MO "bound" "I", Cond.laysFinal rn_MO rn_MO "sort" "[I", Cond.laysFinal rn_MO rn_MO "base" "[I", Cond.laysFinal rn_MO rn_MO "first" "[I", Cond.laysFinal rn_MO rn_MO "ready" "[Z", Cond.laysFinal rn_MO rn_MO "fresh" "[Z", Cond.laysFinal rn_MO rn_MO "operand" "[J", Cond.laysFinal rn_MO rn_MO "operation" "[I", Cond.laysFinal rn_MO rn_MO "names" "[J", Cond.lays rn_MO rn_MO "definitions" "I", Cond.laysFinal rn_MO rn_MO "defined" "[J", Cond.laysFinal rn_MO rn_MO "terms" "[J", Cond.laysFinal rn_MO rn_MO "forms" "[I", Cond.lays rn_MO rn_MO "there" "Z", Cond.laysFinal rn_MO rn_MO "one" "[J", Cond.laysFinal rn_MO rn_MO "two" "[J", Cond.laysFinal rn_MO rn_MO "marked" "[Z", Cond.laysFinal rn_MO rn_MO "walk" "[I", Cond.laysFinal rn_MO rn_MO "spine" "[I", Cond.lays rn_MO rn_MO "top" "I", Cond.lays rn_MO rn_MO "most" "I", Cond.lays rn_MO rn_MO "evals" "I", Cond.lays rn_MO rn_MO "steps" "I", Cond.lays rn_MO rn_MO "stop" "I", Cond.laysFinal rn_MO rn_MO "bases" "[I", Cond.laysFinal rn_MO rn_MO "waits" "[I", Cond.laysFinal rn_MO rn_MO "second" "[Z", Cond.laysFinal rn_MO rn_MO "number" "[I", Cond.lays rn_MO rn_MO "looked" "J", Cond.lays rn_MO rn_MO "rest" "J", Cond.lays rn_MO rn_MO "prints" "I", Cond.lays rn_MO rn_MO "out" "I", Cond.laysFinal rn_MO rn_MO "letters" "[I", Cond.laysFinal rn_MO rn_MO "gone" "[Z", Cond.lays rn_MO rn_MO "closed" "Z", Cond.laysFinal rn_MO rn_MO "place" "[I"], w ∈ G
  exact List.forall_mem_cons.mpr ⟨k_1246, List.forall_mem_cons.mpr ⟨k_1248, List.forall_mem_cons.mpr ⟨k_1250, List.forall_mem_cons.mpr ⟨k_1252, List.forall_mem_cons.mpr ⟨k_1254, List.forall_mem_cons.mpr ⟨k_1256, List.forall_mem_cons.mpr ⟨k_1258, List.forall_mem_cons.mpr ⟨k_1260, List.forall_mem_cons.mpr ⟨k_1262, List.forall_mem_cons.mpr ⟨k_1264, List.forall_mem_cons.mpr ⟨k_1266, List.forall_mem_cons.mpr ⟨k_1268, List.forall_mem_cons.mpr ⟨k_1270, List.forall_mem_cons.mpr ⟨k_1272, List.forall_mem_cons.mpr ⟨k_1274, List.forall_mem_cons.mpr ⟨k_1276, List.forall_mem_cons.mpr ⟨k_1278, List.forall_mem_cons.mpr ⟨k_1280, List.forall_mem_cons.mpr ⟨k_1282, List.forall_mem_cons.mpr ⟨k_1284, List.forall_mem_cons.mpr ⟨k_1286, List.forall_mem_cons.mpr ⟨k_1288, List.forall_mem_cons.mpr ⟨k_1290, List.forall_mem_cons.mpr ⟨k_1292, List.forall_mem_cons.mpr ⟨k_1294, List.forall_mem_cons.mpr ⟨k_1296, List.forall_mem_cons.mpr ⟨k_1298, List.forall_mem_cons.mpr ⟨k_1300, List.forall_mem_cons.mpr ⟨k_1302, List.forall_mem_cons.mpr ⟨k_1304, List.forall_mem_cons.mpr ⟨k_1306, List.forall_mem_cons.mpr ⟨k_1308, List.forall_mem_cons.mpr ⟨k_1310, List.forall_mem_cons.mpr ⟨k_1312, List.forall_mem_cons.mpr ⟨k_1314, List.forall_mem_cons.mpr ⟨k_1316, List.forall_mem_cons.mpr ⟨k_1318, List.forall_mem_cons.mpr ⟨k_1320, List.forall_mem_cons.mpr ⟨k_1322, List.forall_mem_cons.mpr ⟨k_1324, List.forall_mem_cons.mpr ⟨k_1326, List.forall_mem_cons.mpr ⟨k_1328, List.forall_mem_cons.mpr ⟨k_1330, List.forall_mem_cons.mpr ⟨k_1332, List.forall_mem_cons.mpr ⟨k_1334, List.forall_mem_cons.mpr ⟨k_1336, List.forall_mem_cons.mpr ⟨k_1338, List.forall_mem_cons.mpr ⟨k_1340, List.forall_mem_cons.mpr ⟨k_1342, List.forall_mem_cons.mpr ⟨k_1344, List.forall_mem_cons.mpr ⟨k_1346, List.forall_mem_cons.mpr ⟨k_1348, List.forall_mem_cons.mpr ⟨k_1350, List.forall_mem_cons.mpr ⟨k_1352, List.forall_mem_cons.mpr ⟨k_1354, fun _ h => absurd h List.not_mem_nil⟩⟩⟩⟩⟩⟩⟩⟩⟩⟩⟩⟩⟩⟩⟩⟩⟩⟩⟩⟩⟩⟩⟩⟩⟩⟩⟩⟩⟩⟩⟩⟩⟩⟩⟩⟩⟩⟩⟩⟩⟩⟩⟩⟩⟩⟩⟩⟩⟩⟩⟩⟩⟩⟩⟩
abbrev wz (y : MethodName) (b : ByteArray) (n : Nat) (r : Option FieldType) : List Cond := Cond.code y b n r :: G
abbrev wzw (y : MethodName) (b : ByteArray) (n : Nat) (r : Option FieldType) (hh : List (Nat × Nat × Nat × Nat)) : List Cond := Cond.codeWith y b n r hh :: G
theorem wz_G {w0 : Cond} {args : Array Value} {s : State} (h : ∀ w ∈ w0 :: G, w.before args s = true) : ∀ w ∈ G, w.before args s = true := fun w hw => h w (List.mem_cons_of_mem _ hw)
theorem gd_1 {w0 : Cond} (h : w0 ∈ G) : GoodIn G (w0 :: G) := fun w hw => (List.mem_cons.mp hw).elim (fun e => by subst e; exact ⟨h, G_ok _ h⟩) (fun hw => ⟨hw, G_ok _ hw⟩)
theorem gd_I {y : MethodName} {b : ByteArray} {n : Nat} {r : Option FieldType} (h : Cond.code y b n r ∈ G) : GoodIn G (wz y b n r) := gd_1 h
theorem gd_W {y : MethodName} {b : ByteArray} {n : Nat} {r : Option FieldType} {hh : List (Nat × Nat × Nat × Nat)} (h : Cond.codeWith y b n r hh ∈ G) : GoodIn G (wzw y b n r hh) := gd_1 h
theorem gd_V {own C : String} {i : Nat} {y : MethodName} {b : ByteArray} {n : Nat} {r : Option FieldType} (h1 : Cond.methodLink own i y ∈ G) (h2 : Cond.instanceMethod y ∈ G) (h3 : Cond.selects C y y ∈ G) (h4 : Cond.initialized C ∈ G) (h : Cond.code y b n r ∈ G) : GoodIn G (wsV own i C y (wz y b n r)) := by
  intro w hw
  rcases List.mem_append.mp hw with h5 | h5
  · have h6 : w ∈ G := by
      simp only [List.mem_cons, List.not_mem_nil, or_false] at h5
      rcases h5 with rfl | rfl | rfl | rfl
      · exact h1
      · exact h2
      · exact h3
      · exact h4
    exact ⟨h6, G_ok _ h6⟩
  · exact gd_1 h w h5
theorem gd_S {own : String} {i : Nat} {y : MethodName} {b : ByteArray} {n : Nat} {r : Option FieldType} (h1 : Cond.methodLink own i y ∈ G) (h2 : Cond.static y ∈ G) (h3 : Cond.initialized own ∈ G) (h : Cond.code y b n r ∈ G) : GoodIn G (wsS own i y (wz y b n r)) := by
  intro w hw
  rcases List.mem_append.mp hw with h5 | h5
  · have h6 : w ∈ G := by
      simp only [List.mem_cons, List.not_mem_nil, or_false] at h5
      rcases h5 with rfl | rfl | rfl
      · exact h1
      · exact h2
      · exact h3
    exact ⟨h6, G_ok _ h6⟩
  · exact gd_1 h w h5
def LITS : List (String × Nat × String) := [(rn_TH, 87, "not 1 to 8 characters"), (rn_TH, 100, "no character"), (rn_TH, 104, "the text is full"), (rn_TH, 142, "the terms are too big"), (rn_TH, 146, "not 1 to 500 steps"), (rn_TH, 151, "nothing goes"), (rn_TH, 164, "no such character"), (rn_TH, 171, "nothing is read"), (rn_TH, 176, "no such count"), (rn_TH, 190, "no such form"), (rn_LX, 48, "()[],:;.\\+-*<="), (rn_LX, 58, "no lexeme"), (rn_LX, 65, "too many lexemes"), (rn_RD, 93, "too many definitions"), (rn_RD, 107, "too many parameters, or two alike"), (rn_RD, 110, "too deep"), (rn_RD, 165, "no atom"), (rn_RD, 180, "a name that means nothing"), (rn_RD, 182, "another word is due"), (rn_RD, 184, "another lexeme is due")]
