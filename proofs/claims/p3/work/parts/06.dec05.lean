theorem d_RD_row_95 : decode b_RD_row 95 = .ok (.iload_n 2, 1) := by decide +kernel
theorem d_RD_row_96 : decode b_RD_row 96 = .ok (.bipush 17, 2) := by decide +kernel
theorem d_RD_row_98 : decode b_RD_row 98 = .ok (.invokestatic 177, 3) := by decide +kernel
theorem d_RD_row_101 : decode b_RD_row 101 = .ok (.invokevirtual 143, 3) := by decide +kernel
theorem d_RD_row_104 : decode b_RD_row 104 = .ok (.lreturn, 1) := by decide +kernel
theorem d_RD_await_0 : decode b_RD_await 0 = .ok (.aload_n 0, 1) := by decide +kernel
theorem d_RD_await_1 : decode b_RD_await 1 = .ok (.getfield 54, 3) := by decide +kernel
theorem d_RD_await_4 : decode b_RD_await 4 = .ok (.bipush 100, 2) := by decide +kernel
theorem d_RD_await_6 : decode b_RD_await 6 = .ok (.if_icmp .ge 23, 3) := by decide +kernel
theorem d_RD_await_9 : decode b_RD_await 9 = .ok (.aload_n 0, 1) := by decide +kernel
theorem d_RD_await_10 : decode b_RD_await 10 = .ok (.getfield 28, 3) := by decide +kernel
theorem d_RD_await_13 : decode b_RD_await 13 = .ok (.aload_n 0, 1) := by decide +kernel
theorem d_RD_await_14 : decode b_RD_await 14 = .ok (.getfield 54, 3) := by decide +kernel
theorem d_RD_await_17 : decode b_RD_await 17 = .ok (.lload_n 1, 1) := by decide +kernel
theorem d_RD_await_18 : decode b_RD_await 18 = .ok (.lastore, 1) := by decide +kernel
theorem d_RD_await_19 : decode b_RD_await 19 = .ok (.aload_n 0, 1) := by decide +kernel
theorem d_RD_await_20 : decode b_RD_await 20 = .ok (.dup, 1) := by decide +kernel
theorem d_RD_await_21 : decode b_RD_await 21 = .ok (.getfield 54, 3) := by decide +kernel
theorem d_RD_await_24 : decode b_RD_await 24 = .ok (.iconst 1, 1) := by decide +kernel
theorem d_RD_await_25 : decode b_RD_await 25 = .ok (.iadd, 1) := by decide +kernel
theorem d_RD_await_26 : decode b_RD_await 26 = .ok (.putfield 54, 3) := by decide +kernel
theorem d_RD_await_29 : decode b_RD_await 29 = .ok (.return_, 1) := by decide +kernel
theorem d_RD_pairUp_0 : decode b_RD_pairUp 0 = .ok (.lload_n 2, 1) := by decide +kernel
theorem d_RD_pairUp_1 : decode b_RD_pairUp 1 = .ok (.lstore 4, 2) := by decide +kernel
theorem d_RD_pairUp_3 : decode b_RD_pairUp 3 = .ok (.aload_n 0, 1) := by decide +kernel
theorem d_RD_pairUp_4 : decode b_RD_pairUp 4 = .ok (.getfield 54, 3) := by decide +kernel
theorem d_RD_pairUp_7 : decode b_RD_pairUp 7 = .ok (.iconst 1, 1) := by decide +kernel
theorem d_RD_pairUp_8 : decode b_RD_pairUp 8 = .ok (.isub, 1) := by decide +kernel
theorem d_RD_pairUp_9 : decode b_RD_pairUp 9 = .ok (.istore 6, 2) := by decide +kernel
theorem d_RD_pairUp_11 : decode b_RD_pairUp 11 = .ok (.iload 6, 2) := by decide +kernel
theorem d_RD_pairUp_13 : decode b_RD_pairUp 13 = .ok (.iload_n 1, 1) := by decide +kernel
theorem d_RD_pairUp_14 : decode b_RD_pairUp 14 = .ok (.if_icmp .lt 29, 3) := by decide +kernel
theorem d_RD_pairUp_17 : decode b_RD_pairUp 17 = .ok (.aload_n 0, 1) := by decide +kernel
theorem d_RD_pairUp_18 : decode b_RD_pairUp 18 = .ok (.getfield 13, 3) := by decide +kernel
theorem d_RD_pairUp_21 : decode b_RD_pairUp 21 = .ok (.bipush 16, 2) := by decide +kernel
theorem d_RD_pairUp_23 : decode b_RD_pairUp 23 = .ok (.aload_n 0, 1) := by decide +kernel
theorem d_RD_pairUp_24 : decode b_RD_pairUp 24 = .ok (.getfield 28, 3) := by decide +kernel
theorem d_RD_pairUp_27 : decode b_RD_pairUp 27 = .ok (.iload 6, 2) := by decide +kernel
theorem d_RD_pairUp_29 : decode b_RD_pairUp 29 = .ok (.laload, 1) := by decide +kernel
theorem d_RD_pairUp_30 : decode b_RD_pairUp 30 = .ok (.lload 4, 2) := by decide +kernel
theorem d_RD_pairUp_32 : decode b_RD_pairUp 32 = .ok (.invokevirtual 128, 3) := by decide +kernel
theorem d_RD_pairUp_35 : decode b_RD_pairUp 35 = .ok (.lstore 4, 2) := by decide +kernel
theorem d_RD_pairUp_37 : decode b_RD_pairUp 37 = .ok (.iinc 6 (-1), 3) := by decide +kernel
theorem d_RD_pairUp_40 : decode b_RD_pairUp 40 = .ok (.goto (-29), 3) := by decide +kernel
theorem d_RD_pairUp_43 : decode b_RD_pairUp 43 = .ok (.aload_n 0, 1) := by decide +kernel
theorem d_RD_pairUp_44 : decode b_RD_pairUp 44 = .ok (.iload_n 1, 1) := by decide +kernel
theorem d_RD_pairUp_45 : decode b_RD_pairUp 45 = .ok (.putfield 54, 3) := by decide +kernel
theorem d_RD_pairUp_48 : decode b_RD_pairUp 48 = .ok (.lload 4, 2) := by decide +kernel
theorem d_RD_pairUp_50 : decode b_RD_pairUp 50 = .ok (.lreturn, 1) := by decide +kernel
theorem d_RD_meaning_0 : decode b_RD_meaning 0 = .ok (.aload_n 0, 1) := by decide +kernel
theorem d_RD_meaning_1 : decode b_RD_meaning 1 = .ok (.iload_n 1, 1) := by decide +kernel
theorem d_RD_meaning_2 : decode b_RD_meaning 2 = .ok (.invokevirtual 102, 3) := by decide +kernel
theorem d_RD_meaning_5 : decode b_RD_meaning 5 = .ok (.ifCond .eq 10, 3) := by decide +kernel
theorem d_RD_meaning_8 : decode b_RD_meaning 8 = .ok (.bipush 24, 2) := by decide +kernel
theorem d_RD_meaning_10 : decode b_RD_meaning 10 = .ok (.iload_n 1, 1) := by decide +kernel
theorem d_RD_meaning_11 : decode b_RD_meaning 11 = .ok (.invokestatic 167, 3) := by decide +kernel
theorem d_RD_meaning_14 : decode b_RD_meaning 14 = .ok (.lreturn, 1) := by decide +kernel
theorem d_RD_meaning_15 : decode b_RD_meaning 15 = .ok (.iconst 0, 1) := by decide +kernel
theorem d_RD_meaning_16 : decode b_RD_meaning 16 = .ok (.istore_n 2, 1) := by decide +kernel
theorem d_RD_meaning_17 : decode b_RD_meaning 17 = .ok (.iload_n 2, 1) := by decide +kernel
theorem d_RD_meaning_18 : decode b_RD_meaning 18 = .ok (.aload_n 0, 1) := by decide +kernel
theorem d_RD_meaning_19 : decode b_RD_meaning 19 = .ok (.getfield 74, 3) := by decide +kernel
theorem d_RD_meaning_22 : decode b_RD_meaning 22 = .ok (.if_icmp .ge 25, 3) := by decide +kernel
theorem d_RD_meaning_25 : decode b_RD_meaning 25 = .ok (.aload_n 0, 1) := by decide +kernel
theorem d_RD_meaning_26 : decode b_RD_meaning 26 = .ok (.getfield 17, 3) := by decide +kernel
theorem d_RD_meaning_29 : decode b_RD_meaning 29 = .ok (.iload_n 2, 1) := by decide +kernel
theorem d_RD_meaning_30 : decode b_RD_meaning 30 = .ok (.iaload, 1) := by decide +kernel
theorem d_RD_meaning_31 : decode b_RD_meaning 31 = .ok (.iload_n 1, 1) := by decide +kernel
theorem d_RD_meaning_32 : decode b_RD_meaning 32 = .ok (.if_icmp .ne 9, 3) := by decide +kernel
theorem d_RD_meaning_35 : decode b_RD_meaning 35 = .ok (.iconst 1, 1) := by decide +kernel
theorem d_RD_meaning_36 : decode b_RD_meaning 36 = .ok (.iload_n 2, 1) := by decide +kernel
theorem d_RD_meaning_37 : decode b_RD_meaning 37 = .ok (.invokestatic 167, 3) := by decide +kernel
theorem d_RD_meaning_40 : decode b_RD_meaning 40 = .ok (.lreturn, 1) := by decide +kernel
theorem d_RD_meaning_41 : decode b_RD_meaning 41 = .ok (.iinc 2 1, 3) := by decide +kernel
theorem d_RD_meaning_44 : decode b_RD_meaning 44 = .ok (.goto (-27), 3) := by decide +kernel
theorem d_RD_meaning_47 : decode b_RD_meaning 47 = .ok (.iload_n 1, 1) := by decide +kernel
theorem d_RD_meaning_48 : decode b_RD_meaning 48 = .ok (.lookupswitch 54 #[(260, 36), (652, 42), (15020, 48)], 36) := by decide +kernel
theorem d_RD_meaning_84 : decode b_RD_meaning 84 = .ok (.bipush 18, 2) := by decide +kernel
theorem d_RD_meaning_86 : decode b_RD_meaning 86 = .ok (.invokestatic 177, 3) := by decide +kernel
theorem d_RD_meaning_89 : decode b_RD_meaning 89 = .ok (.lreturn, 1) := by decide +kernel
theorem d_RD_meaning_90 : decode b_RD_meaning 90 = .ok (.bipush 19, 2) := by decide +kernel
theorem d_RD_meaning_92 : decode b_RD_meaning 92 = .ok (.invokestatic 177, 3) := by decide +kernel
theorem d_RD_meaning_95 : decode b_RD_meaning 95 = .ok (.lreturn, 1) := by decide +kernel
theorem d_RD_meaning_96 : decode b_RD_meaning 96 = .ok (.bipush 20, 2) := by decide +kernel
theorem d_RD_meaning_98 : decode b_RD_meaning 98 = .ok (.invokestatic 177, 3) := by decide +kernel
theorem d_RD_meaning_101 : decode b_RD_meaning 101 = .ok (.lreturn, 1) := by decide +kernel
theorem d_RD_meaning_102 : decode b_RD_meaning 102 = .ok (.new 105, 3) := by decide +kernel
theorem d_RD_meaning_105 : decode b_RD_meaning 105 = .ok (.dup, 1) := by decide +kernel
theorem d_RD_meaning_106 : decode b_RD_meaning 106 = .ok (.ldc 180, 2) := by decide +kernel
theorem d_RD_meaning_108 : decode b_RD_meaning 108 = .ok (.invokespecial 109, 3) := by decide +kernel
theorem d_RD_meaning_111 : decode b_RD_meaning 111 = .ok (.athrow, 1) := by decide +kernel
theorem d_RD_isInScope_0 : decode b_RD_isInScope 0 = .ok (.iconst 0, 1) := by decide +kernel
theorem d_RD_isInScope_1 : decode b_RD_isInScope 1 = .ok (.istore_n 2, 1) := by decide +kernel
theorem d_RD_isInScope_2 : decode b_RD_isInScope 2 = .ok (.iload_n 2, 1) := by decide +kernel
theorem d_RD_isInScope_3 : decode b_RD_isInScope 3 = .ok (.aload_n 0, 1) := by decide +kernel
theorem d_RD_isInScope_4 : decode b_RD_isInScope 4 = .ok (.getfield 51, 3) := by decide +kernel
theorem d_RD_isInScope_7 : decode b_RD_isInScope 7 = .ok (.if_icmp .ge 21, 3) := by decide +kernel
theorem d_RD_isInScope_10 : decode b_RD_isInScope 10 = .ok (.aload_n 0, 1) := by decide +kernel
theorem d_RD_isInScope_11 : decode b_RD_isInScope 11 = .ok (.getfield 25, 3) := by decide +kernel
theorem d_RD_isInScope_14 : decode b_RD_isInScope 14 = .ok (.iload_n 2, 1) := by decide +kernel
theorem d_RD_isInScope_15 : decode b_RD_isInScope 15 = .ok (.iaload, 1) := by decide +kernel
theorem d_RD_isInScope_16 : decode b_RD_isInScope 16 = .ok (.iload_n 1, 1) := by decide +kernel
theorem d_RD_isInScope_17 : decode b_RD_isInScope 17 = .ok (.if_icmp .ne 5, 3) := by decide +kernel
theorem d_RD_isInScope_20 : decode b_RD_isInScope 20 = .ok (.iconst 1, 1) := by decide +kernel
theorem d_RD_isInScope_21 : decode b_RD_isInScope 21 = .ok (.ireturn, 1) := by decide +kernel
theorem d_RD_isInScope_22 : decode b_RD_isInScope 22 = .ok (.iinc 2 1, 3) := by decide +kernel
theorem d_RD_isInScope_25 : decode b_RD_isInScope 25 = .ok (.goto (-23), 3) := by decide +kernel
theorem d_RD_isInScope_28 : decode b_RD_isInScope 28 = .ok (.iconst 0, 1) := by decide +kernel
theorem d_RD_isInScope_29 : decode b_RD_isInScope 29 = .ok (.ireturn, 1) := by decide +kernel
theorem d_RD_isWord_0 : decode b_RD_isWord 0 = .ok (.aload_n 0, 1) := by decide +kernel
theorem d_RD_isWord_1 : decode b_RD_isWord 1 = .ok (.getfield 7, 3) := by decide +kernel
theorem d_RD_isWord_4 : decode b_RD_isWord 4 = .ok (.aload_n 0, 1) := by decide +kernel
theorem d_RD_isWord_5 : decode b_RD_isWord 5 = .ok (.getfield 48, 3) := by decide +kernel
theorem d_RD_isWord_8 : decode b_RD_isWord 8 = .ok (.invokevirtual 81, 3) := by decide +kernel
theorem d_RD_isWord_11 : decode b_RD_isWord 11 = .ok (.iconst 1, 1) := by decide +kernel
theorem d_RD_isWord_12 : decode b_RD_isWord 12 = .ok (.if_icmp .ne 22, 3) := by decide +kernel
theorem d_RD_isWord_15 : decode b_RD_isWord 15 = .ok (.aload_n 0, 1) := by decide +kernel
theorem d_RD_isWord_16 : decode b_RD_isWord 16 = .ok (.getfield 7, 3) := by decide +kernel
theorem d_RD_isWord_19 : decode b_RD_isWord 19 = .ok (.aload_n 0, 1) := by decide +kernel
theorem d_RD_isWord_20 : decode b_RD_isWord 20 = .ok (.getfield 48, 3) := by decide +kernel
theorem d_RD_isWord_23 : decode b_RD_isWord 23 = .ok (.invokevirtual 85, 3) := by decide +kernel
theorem d_RD_isWord_26 : decode b_RD_isWord 26 = .ok (.iload_n 1, 1) := by decide +kernel
theorem d_RD_isWord_27 : decode b_RD_isWord 27 = .ok (.if_icmp .ne 7, 3) := by decide +kernel
theorem d_RD_isWord_30 : decode b_RD_isWord 30 = .ok (.iconst 1, 1) := by decide +kernel
theorem d_RD_isWord_31 : decode b_RD_isWord 31 = .ok (.goto 4, 3) := by decide +kernel
theorem d_RD_isWord_34 : decode b_RD_isWord 34 = .ok (.iconst 0, 1) := by decide +kernel
theorem d_RD_isWord_35 : decode b_RD_isWord 35 = .ok (.ireturn, 1) := by decide +kernel
theorem d_RD_isAnyWord_0 : decode b_RD_isAnyWord 0 = .ok (.iload_n 0, 1) := by decide +kernel
theorem d_RD_isAnyWord_1 : decode b_RD_isAnyWord 1 = .ok (.sipush 4262, 3) := by decide +kernel
theorem d_RD_isAnyWord_4 : decode b_RD_isAnyWord 4 = .ok (.if_icmp .eq 22, 3) := by decide +kernel
theorem d_RD_isAnyWord_7 : decode b_RD_isAnyWord 7 = .ok (.iload_n 0, 1) := by decide +kernel
theorem d_RD_isAnyWord_8 : decode b_RD_isAnyWord 8 = .ok (.sipush 294, 3) := by decide +kernel
theorem d_RD_isAnyWord_11 : decode b_RD_isAnyWord 11 = .ok (.if_icmp .eq 15, 3) := by decide +kernel
theorem d_RD_isAnyWord_14 : decode b_RD_isAnyWord 14 = .ok (.iload_n 0, 1) := by decide +kernel
theorem d_RD_isAnyWord_15 : decode b_RD_isAnyWord 15 = .ok (.ldc 121, 2) := by decide +kernel
theorem d_RD_isAnyWord_17 : decode b_RD_isAnyWord 17 = .ok (.if_icmp .eq 9, 3) := by decide +kernel
theorem d_RD_isAnyWord_20 : decode b_RD_isAnyWord 20 = .ok (.iload_n 0, 1) := by decide +kernel
theorem d_RD_isAnyWord_21 : decode b_RD_isAnyWord 21 = .ok (.ldc 125, 2) := by decide +kernel
theorem d_RD_isAnyWord_23 : decode b_RD_isAnyWord 23 = .ok (.if_icmp .ne 7, 3) := by decide +kernel
theorem d_RD_isAnyWord_26 : decode b_RD_isAnyWord 26 = .ok (.iconst 1, 1) := by decide +kernel
theorem d_RD_isAnyWord_27 : decode b_RD_isAnyWord 27 = .ok (.goto 4, 3) := by decide +kernel
theorem d_RD_isAnyWord_30 : decode b_RD_isAnyWord 30 = .ok (.iconst 0, 1) := by decide +kernel
theorem d_RD_isAnyWord_31 : decode b_RD_isAnyWord 31 = .ok (.ireturn, 1) := by decide +kernel
theorem d_RD_expectWord_0 : decode b_RD_expectWord 0 = .ok (.aload_n 0, 1) := by decide +kernel
theorem d_RD_expectWord_1 : decode b_RD_expectWord 1 = .ok (.iload_n 1, 1) := by decide +kernel
theorem d_RD_expectWord_2 : decode b_RD_expectWord 2 = .ok (.invokevirtual 60, 3) := by decide +kernel
theorem d_RD_expectWord_5 : decode b_RD_expectWord 5 = .ok (.ifCond .ne 13, 3) := by decide +kernel
theorem d_RD_expectWord_8 : decode b_RD_expectWord 8 = .ok (.new 105, 3) := by decide +kernel
theorem d_RD_expectWord_11 : decode b_RD_expectWord 11 = .ok (.dup, 1) := by decide +kernel
theorem d_RD_expectWord_12 : decode b_RD_expectWord 12 = .ok (.ldc 182, 2) := by decide +kernel
theorem d_RD_expectWord_14 : decode b_RD_expectWord 14 = .ok (.invokespecial 109, 3) := by decide +kernel
theorem d_RD_expectWord_17 : decode b_RD_expectWord 17 = .ok (.athrow, 1) := by decide +kernel
theorem d_RD_expectWord_18 : decode b_RD_expectWord 18 = .ok (.aload_n 0, 1) := by decide +kernel
theorem d_RD_expectWord_19 : decode b_RD_expectWord 19 = .ok (.dup, 1) := by decide +kernel
theorem d_RD_expectWord_20 : decode b_RD_expectWord 20 = .ok (.getfield 48, 3) := by decide +kernel
theorem d_RD_expectWord_23 : decode b_RD_expectWord 23 = .ok (.iconst 1, 1) := by decide +kernel
theorem d_RD_expectWord_24 : decode b_RD_expectWord 24 = .ok (.iadd, 1) := by decide +kernel
theorem d_RD_expectWord_25 : decode b_RD_expectWord 25 = .ok (.putfield 48, 3) := by decide +kernel
theorem d_RD_expectWord_28 : decode b_RD_expectWord 28 = .ok (.return_, 1) := by decide +kernel
theorem d_RD_expect_0 : decode b_RD_expect 0 = .ok (.aload_n 0, 1) := by decide +kernel
theorem d_RD_expect_1 : decode b_RD_expect 1 = .ok (.getfield 7, 3) := by decide +kernel
theorem d_RD_expect_4 : decode b_RD_expect 4 = .ok (.aload_n 0, 1) := by decide +kernel
theorem d_RD_expect_5 : decode b_RD_expect 5 = .ok (.getfield 48, 3) := by decide +kernel
theorem d_RD_expect_8 : decode b_RD_expect 8 = .ok (.invokevirtual 81, 3) := by decide +kernel
theorem d_RD_expect_11 : decode b_RD_expect 11 = .ok (.iload_n 1, 1) := by decide +kernel
theorem d_RD_expect_12 : decode b_RD_expect 12 = .ok (.if_icmp .eq 13, 3) := by decide +kernel
theorem d_RD_expect_15 : decode b_RD_expect 15 = .ok (.new 105, 3) := by decide +kernel
theorem d_RD_expect_18 : decode b_RD_expect 18 = .ok (.dup, 1) := by decide +kernel
theorem d_RD_expect_19 : decode b_RD_expect 19 = .ok (.ldc 184, 2) := by decide +kernel
theorem d_RD_expect_21 : decode b_RD_expect 21 = .ok (.invokespecial 109, 3) := by decide +kernel
theorem d_RD_expect_24 : decode b_RD_expect 24 = .ok (.athrow, 1) := by decide +kernel
theorem d_RD_expect_25 : decode b_RD_expect 25 = .ok (.aload_n 0, 1) := by decide +kernel
theorem d_RD_expect_26 : decode b_RD_expect 26 = .ok (.dup, 1) := by decide +kernel
theorem d_RD_expect_27 : decode b_RD_expect 27 = .ok (.getfield 48, 3) := by decide +kernel
theorem d_RD_expect_30 : decode b_RD_expect 30 = .ok (.iconst 1, 1) := by decide +kernel
theorem d_RD_expect_31 : decode b_RD_expect 31 = .ok (.iadd, 1) := by decide +kernel
theorem d_RD_expect_32 : decode b_RD_expect 32 = .ok (.putfield 48, 3) := by decide +kernel
theorem d_RD_expect_35 : decode b_RD_expect 35 = .ok (.return_, 1) := by decide +kernel
theorem d_FM_init_0 : decode b_FM_init 0 = .ok (.aload_n 0, 1) := by decide +kernel
theorem d_FM_init_1 : decode b_FM_init 1 = .ok (.invokespecial 1, 3) := by decide +kernel
theorem d_FM_init_4 : decode b_FM_init 4 = .ok (.aload_n 0, 1) := by decide +kernel
theorem d_FM_init_5 : decode b_FM_init 5 = .ok (.bipush 27, 2) := by decide +kernel
theorem d_FM_init_7 : decode b_FM_init 7 = .ok (.newarray .int, 2) := by decide +kernel
theorem d_FM_init_9 : decode b_FM_init 9 = .ok (.putfield 9, 3) := by decide +kernel
theorem d_FM_init_12 : decode b_FM_init 12 = .ok (.return_, 1) := by decide +kernel
theorem d_FM_of_0 : decode b_FM_of 0 = .ok (.aload_n 0, 1) := by decide +kernel
theorem d_FM_of_1 : decode b_FM_of 1 = .ok (.getfield 9, 3) := by decide +kernel
theorem d_FM_of_4 : decode b_FM_of 4 = .ok (.iload_n 1, 1) := by decide +kernel
theorem d_FM_of_5 : decode b_FM_of 5 = .ok (.iconst 1, 1) := by decide +kernel
theorem d_FM_of_6 : decode b_FM_of 6 = .ok (.iadd, 1) := by decide +kernel
theorem d_FM_of_7 : decode b_FM_of 7 = .ok (.iconst 3, 1) := by decide +kernel
theorem d_FM_of_8 : decode b_FM_of 8 = .ok (.imul, 1) := by decide +kernel
theorem d_FM_of_9 : decode b_FM_of 9 = .ok (.iload_n 2, 1) := by decide +kernel
theorem d_FM_of_10 : decode b_FM_of 10 = .ok (.iadd, 1) := by decide +kernel
theorem d_FM_of_11 : decode b_FM_of 11 = .ok (.iaload, 1) := by decide +kernel
theorem d_FM_of_12 : decode b_FM_of 12 = .ok (.ireturn, 1) := by decide +kernel
theorem d_FM_note_0 : decode b_FM_note 0 = .ok (.iload_n 1, 1) := by decide +kernel
theorem d_FM_note_1 : decode b_FM_note 1 = .ok (.iconst 1, 1) := by decide +kernel
theorem d_FM_note_2 : decode b_FM_note 2 = .ok (.iadd, 1) := by decide +kernel
theorem d_FM_note_3 : decode b_FM_note 3 = .ok (.iconst 3, 1) := by decide +kernel
theorem d_FM_note_4 : decode b_FM_note 4 = .ok (.imul, 1) := by decide +kernel
theorem d_FM_note_5 : decode b_FM_note 5 = .ok (.istore 5, 2) := by decide +kernel
theorem d_FM_note_7 : decode b_FM_note 7 = .ok (.aload_n 2, 1) := by decide +kernel
theorem d_FM_note_8 : decode b_FM_note 8 = .ok (.lload_n 3, 1) := by decide +kernel
theorem d_FM_note_9 : decode b_FM_note 9 = .ok (.invokevirtual 13, 3) := by decide +kernel
theorem d_FM_note_12 : decode b_FM_note 12 = .ok (.istore 6, 2) := by decide +kernel
theorem d_FM_note_14 : decode b_FM_note 14 = .ok (.iconst 0, 1) := by decide +kernel
theorem d_FM_note_15 : decode b_FM_note 15 = .ok (.istore 7, 2) := by decide +kernel
theorem d_FM_note_17 : decode b_FM_note 17 = .ok (.lload_n 3, 1) := by decide +kernel
theorem d_FM_note_18 : decode b_FM_note 18 = .ok (.lstore 8, 2) := by decide +kernel
theorem d_FM_note_20 : decode b_FM_note 20 = .ok (.iload 7, 2) := by decide +kernel
theorem d_FM_note_22 : decode b_FM_note 22 = .ok (.iload 6, 2) := by decide +kernel
theorem d_FM_note_24 : decode b_FM_note 24 = .ok (.if_icmp .ge 28, 3) := by decide +kernel
theorem d_FM_note_27 : decode b_FM_note 27 = .ok (.lload 8, 2) := by decide +kernel
theorem d_FM_note_29 : decode b_FM_note 29 = .ok (.invokestatic 19, 3) := by decide +kernel
theorem d_FM_note_32 : decode b_FM_note 32 = .ok (.ifCond .eq 20, 3) := by decide +kernel
theorem d_FM_note_35 : decode b_FM_note 35 = .ok (.aload_n 2, 1) := by decide +kernel
theorem d_FM_note_36 : decode b_FM_note 36 = .ok (.lload 8, 2) := by decide +kernel
theorem d_FM_note_38 : decode b_FM_note 38 = .ok (.invokestatic 25, 3) := by decide +kernel
theorem d_FM_note_41 : decode b_FM_note 41 = .ok (.invokevirtual 28, 3) := by decide +kernel
theorem d_FM_note_44 : decode b_FM_note 44 = .ok (.lstore 8, 2) := by decide +kernel
theorem d_FM_note_46 : decode b_FM_note 46 = .ok (.iinc 7 1, 3) := by decide +kernel
theorem d_FM_note_49 : decode b_FM_note 49 = .ok (.goto (-29), 3) := by decide +kernel
theorem d_FM_note_52 : decode b_FM_note 52 = .ok (.aload_n 0, 1) := by decide +kernel
theorem d_FM_note_53 : decode b_FM_note 53 = .ok (.getfield 9, 3) := by decide +kernel
theorem d_FM_note_56 : decode b_FM_note 56 = .ok (.iload 5, 2) := by decide +kernel
theorem d_FM_note_58 : decode b_FM_note 58 = .ok (.iload 6, 2) := by decide +kernel
theorem d_FM_note_60 : decode b_FM_note 60 = .ok (.iastore, 1) := by decide +kernel
theorem d_FM_note_61 : decode b_FM_note 61 = .ok (.aload_n 0, 1) := by decide +kernel
theorem d_FM_note_62 : decode b_FM_note 62 = .ok (.getfield 9, 3) := by decide +kernel
theorem d_FM_note_65 : decode b_FM_note 65 = .ok (.iload 5, 2) := by decide +kernel
theorem d_FM_note_67 : decode b_FM_note 67 = .ok (.iconst 1, 1) := by decide +kernel
theorem d_FM_note_68 : decode b_FM_note 68 = .ok (.iadd, 1) := by decide +kernel
theorem d_FM_note_69 : decode b_FM_note 69 = .ok (.iload 7, 2) := by decide +kernel
theorem d_FM_note_71 : decode b_FM_note 71 = .ok (.iastore, 1) := by decide +kernel
theorem d_FM_note_72 : decode b_FM_note 72 = .ok (.aload_n 0, 1) := by decide +kernel
theorem d_FM_note_73 : decode b_FM_note 73 = .ok (.getfield 9, 3) := by decide +kernel
theorem d_FM_note_76 : decode b_FM_note 76 = .ok (.iload 5, 2) := by decide +kernel
theorem d_FM_note_78 : decode b_FM_note 78 = .ok (.iconst 2, 1) := by decide +kernel
theorem d_FM_note_79 : decode b_FM_note 79 = .ok (.iadd, 1) := by decide +kernel
theorem d_FM_note_80 : decode b_FM_note 80 = .ok (.lload 8, 2) := by decide +kernel
theorem d_FM_note_82 : decode b_FM_note 82 = .ok (.invokestatic 32, 3) := by decide +kernel
theorem d_FM_note_85 : decode b_FM_note 85 = .ok (.iastore, 1) := by decide +kernel
theorem d_FM_note_86 : decode b_FM_note 86 = .ok (.return_, 1) := by decide +kernel
theorem d_HP_init_0 : decode b_HP_init 0 = .ok (.aload_n 0, 1) := by decide +kernel
theorem d_HP_init_1 : decode b_HP_init 1 = .ok (.invokespecial 1, 3) := by decide +kernel
theorem d_HP_init_4 : decode b_HP_init 4 = .ok (.aload_n 0, 1) := by decide +kernel
theorem d_HP_init_5 : decode b_HP_init 5 = .ok (.iload_n 1, 1) := by decide +kernel
theorem d_HP_init_6 : decode b_HP_init 6 = .ok (.putfield 7, 3) := by decide +kernel
theorem d_HP_init_9 : decode b_HP_init 9 = .ok (.aload_n 0, 1) := by decide +kernel
theorem d_HP_init_10 : decode b_HP_init 10 = .ok (.iload_n 1, 1) := by decide +kernel
theorem d_HP_init_11 : decode b_HP_init 11 = .ok (.newarray .long, 2) := by decide +kernel
theorem d_HP_init_13 : decode b_HP_init 13 = .ok (.putfield 13, 3) := by decide +kernel
theorem d_HP_init_16 : decode b_HP_init 16 = .ok (.aload_n 0, 1) := by decide +kernel
theorem d_HP_init_17 : decode b_HP_init 17 = .ok (.iload_n 1, 1) := by decide +kernel
theorem d_HP_init_18 : decode b_HP_init 18 = .ok (.newarray .long, 2) := by decide +kernel
theorem d_HP_init_20 : decode b_HP_init 20 = .ok (.putfield 17, 3) := by decide +kernel
theorem d_HP_init_23 : decode b_HP_init 23 = .ok (.aload_n 0, 1) := by decide +kernel
theorem d_HP_init_24 : decode b_HP_init 24 = .ok (.iload_n 1, 1) := by decide +kernel
theorem d_HP_init_25 : decode b_HP_init 25 = .ok (.newarray .int, 2) := by decide +kernel
theorem d_HP_init_27 : decode b_HP_init 27 = .ok (.putfield 20, 3) := by decide +kernel
theorem d_HP_init_30 : decode b_HP_init 30 = .ok (.aload_n 0, 1) := by decide +kernel
theorem d_HP_init_31 : decode b_HP_init 31 = .ok (.iload_n 1, 1) := by decide +kernel
theorem d_HP_init_32 : decode b_HP_init 32 = .ok (.newarray .int, 2) := by decide +kernel
theorem d_HP_init_34 : decode b_HP_init 34 = .ok (.putfield 24, 3) := by decide +kernel
theorem d_HP_init_37 : decode b_HP_init 37 = .ok (.aload_n 0, 1) := by decide +kernel
theorem d_HP_init_38 : decode b_HP_init 38 = .ok (.iconst 0, 1) := by decide +kernel
theorem d_HP_init_39 : decode b_HP_init 39 = .ok (.putfield 27, 3) := by decide +kernel
theorem d_HP_init_42 : decode b_HP_init 42 = .ok (.aload_n 0, 1) := by decide +kernel
theorem d_HP_init_43 : decode b_HP_init 43 = .ok (.iload_n 1, 1) := by decide +kernel
theorem d_HP_init_44 : decode b_HP_init 44 = .ok (.newarray .int, 2) := by decide +kernel
theorem d_HP_init_46 : decode b_HP_init 46 = .ok (.putfield 30, 3) := by decide +kernel
theorem d_HP_init_49 : decode b_HP_init 49 = .ok (.aload_n 0, 1) := by decide +kernel
theorem d_HP_init_50 : decode b_HP_init 50 = .ok (.bipush 8, 2) := by decide +kernel
theorem d_HP_init_52 : decode b_HP_init 52 = .ok (.newarray .long, 2) := by decide +kernel
theorem d_HP_init_54 : decode b_HP_init 54 = .ok (.putfield 33, 3) := by decide +kernel
theorem d_HP_init_57 : decode b_HP_init 57 = .ok (.aload_n 0, 1) := by decide +kernel
theorem d_HP_init_58 : decode b_HP_init 58 = .ok (.sipush 1024, 3) := by decide +kernel
theorem d_HP_init_61 : decode b_HP_init 61 = .ok (.newarray .int, 2) := by decide +kernel
theorem d_HP_init_63 : decode b_HP_init 63 = .ok (.putfield 38, 3) := by decide +kernel
theorem d_HP_init_66 : decode b_HP_init 66 = .ok (.return_, 1) := by decide +kernel
theorem d_HP_room_0 : decode b_HP_room 0 = .ok (.aload_n 0, 1) := by decide +kernel
theorem d_HP_room_1 : decode b_HP_room 1 = .ok (.getfield 7, 3) := by decide +kernel
theorem d_HP_room_4 : decode b_HP_room 4 = .ok (.ireturn, 1) := by decide +kernel
theorem d_HP_freeCells_0 : decode b_HP_freeCells 0 = .ok (.aload_n 0, 1) := by decide +kernel
theorem d_HP_freeCells_1 : decode b_HP_freeCells 1 = .ok (.getfield 41, 3) := by decide +kernel
theorem d_HP_freeCells_4 : decode b_HP_freeCells 4 = .ok (.ireturn, 1) := by decide +kernel
theorem d_HP_leftOf_0 : decode b_HP_leftOf 0 = .ok (.aload_n 0, 1) := by decide +kernel
theorem d_HP_leftOf_1 : decode b_HP_leftOf 1 = .ok (.getfield 13, 3) := by decide +kernel
theorem d_HP_leftOf_4 : decode b_HP_leftOf 4 = .ok (.iload_n 1, 1) := by decide +kernel
theorem d_HP_leftOf_5 : decode b_HP_leftOf 5 = .ok (.laload, 1) := by decide +kernel
theorem d_HP_leftOf_6 : decode b_HP_leftOf 6 = .ok (.lreturn, 1) := by decide +kernel
theorem d_HP_rightOf_0 : decode b_HP_rightOf 0 = .ok (.aload_n 0, 1) := by decide +kernel
theorem d_HP_rightOf_1 : decode b_HP_rightOf 1 = .ok (.getfield 17, 3) := by decide +kernel
theorem d_HP_rightOf_4 : decode b_HP_rightOf 4 = .ok (.iload_n 1, 1) := by decide +kernel
theorem d_HP_rightOf_5 : decode b_HP_rightOf 5 = .ok (.laload, 1) := by decide +kernel
theorem d_HP_rightOf_6 : decode b_HP_rightOf 6 = .ok (.lreturn, 1) := by decide +kernel
theorem d_HP_defined_0 : decode b_HP_defined 0 = .ok (.iload_n 1, 1) := by decide +kernel
theorem d_HP_defined_1 : decode b_HP_defined 1 = .ok (.ifCond .lt 20, 3) := by decide +kernel
theorem d_HP_defined_4 : decode b_HP_defined 4 = .ok (.iload_n 1, 1) := by decide +kernel
theorem d_HP_defined_5 : decode b_HP_defined 5 = .ok (.aload_n 0, 1) := by decide +kernel
theorem d_HP_defined_6 : decode b_HP_defined 6 = .ok (.getfield 44, 3) := by decide +kernel
theorem d_HP_defined_9 : decode b_HP_defined 9 = .ok (.if_icmp .ge 12, 3) := by decide +kernel
theorem d_HP_defined_12 : decode b_HP_defined 12 = .ok (.aload_n 0, 1) := by decide +kernel
theorem d_HP_defined_13 : decode b_HP_defined 13 = .ok (.getfield 33, 3) := by decide +kernel
theorem d_HP_defined_16 : decode b_HP_defined 16 = .ok (.iload_n 1, 1) := by decide +kernel
theorem d_HP_defined_17 : decode b_HP_defined 17 = .ok (.laload, 1) := by decide +kernel
theorem d_HP_defined_18 : decode b_HP_defined 18 = .ok (.goto 8, 3) := by decide +kernel
theorem d_HP_defined_21 : decode b_HP_defined 21 = .ok (.bipush 17, 2) := by decide +kernel
theorem d_HP_defined_23 : decode b_HP_defined 23 = .ok (.invokestatic 49, 3) := by decide +kernel
theorem d_HP_defined_26 : decode b_HP_defined 26 = .ok (.lreturn, 1) := by decide +kernel
theorem d_HP_empty_0 : decode b_HP_empty 0 = .ok (.aload_n 0, 1) := by decide +kernel
theorem d_HP_empty_1 : decode b_HP_empty 1 = .ok (.iconst 0, 1) := by decide +kernel
theorem d_HP_empty_2 : decode b_HP_empty 2 = .ok (.putfield 44, 3) := by decide +kernel
theorem d_HP_empty_5 : decode b_HP_empty 5 = .ok (.aload_n 0, 1) := by decide +kernel
theorem d_HP_empty_6 : decode b_HP_empty 6 = .ok (.invokevirtual 53, 3) := by decide +kernel
theorem d_HP_empty_9 : decode b_HP_empty 9 = .ok (.aload_n 0, 1) := by decide +kernel
theorem d_HP_empty_10 : decode b_HP_empty 10 = .ok (.invokevirtual 56, 3) := by decide +kernel
theorem d_HP_empty_13 : decode b_HP_empty 13 = .ok (.return_, 1) := by decide +kernel
theorem d_HP_define_0 : decode b_HP_define 0 = .ok (.aload_n 0, 1) := by decide +kernel
theorem d_HP_define_1 : decode b_HP_define 1 = .ok (.getfield 33, 3) := by decide +kernel
theorem d_HP_define_4 : decode b_HP_define 4 = .ok (.iload_n 1, 1) := by decide +kernel
theorem d_HP_define_5 : decode b_HP_define 5 = .ok (.lload_n 2, 1) := by decide +kernel
theorem d_HP_define_6 : decode b_HP_define 6 = .ok (.lastore, 1) := by decide +kernel
theorem d_HP_define_7 : decode b_HP_define 7 = .ok (.aload_n 0, 1) := by decide +kernel
theorem d_HP_define_8 : decode b_HP_define 8 = .ok (.iload_n 1, 1) := by decide +kernel
theorem d_HP_define_9 : decode b_HP_define 9 = .ok (.iconst 1, 1) := by decide +kernel
theorem d_HP_define_10 : decode b_HP_define 10 = .ok (.iadd, 1) := by decide +kernel
theorem d_HP_define_11 : decode b_HP_define 11 = .ok (.putfield 44, 3) := by decide +kernel
theorem d_HP_define_14 : decode b_HP_define 14 = .ok (.return_, 1) := by decide +kernel
theorem d_HP_load_0 : decode b_HP_load 0 = .ok (.aload_n 1, 1) := by decide +kernel
theorem d_HP_load_1 : decode b_HP_load 1 = .ok (.lload_n 2, 1) := by decide +kernel
theorem d_HP_load_2 : decode b_HP_load 2 = .ok (.invokevirtual 59, 3) := by decide +kernel
theorem d_HP_load_5 : decode b_HP_load 5 = .ok (.istore 4, 2) := by decide +kernel
theorem d_HP_load_7 : decode b_HP_load 7 = .ok (.iconst 0, 1) := by decide +kernel
theorem d_HP_load_8 : decode b_HP_load 8 = .ok (.istore 5, 2) := by decide +kernel
theorem d_HP_load_10 : decode b_HP_load 10 = .ok (.iload 5, 2) := by decide +kernel
theorem d_HP_load_12 : decode b_HP_load 12 = .ok (.iload 4, 2) := by decide +kernel
theorem d_HP_load_14 : decode b_HP_load 14 = .ok (.if_icmp .ge 29, 3) := by decide +kernel
theorem d_HP_load_17 : decode b_HP_load 17 = .ok (.aload_n 0, 1) := by decide +kernel
theorem d_HP_load_18 : decode b_HP_load 18 = .ok (.getfield 38, 3) := by decide +kernel
theorem d_HP_load_21 : decode b_HP_load 21 = .ok (.aload_n 1, 1) := by decide +kernel
theorem d_HP_load_22 : decode b_HP_load 22 = .ok (.iload 5, 2) := by decide +kernel
theorem d_HP_load_24 : decode b_HP_load 24 = .ok (.invokevirtual 63, 3) := by decide +kernel
theorem d_HP_load_27 : decode b_HP_load 27 = .ok (.aload_n 0, 1) := by decide +kernel
theorem d_HP_load_28 : decode b_HP_load 28 = .ok (.lconst 0, 1) := by decide +kernel
theorem d_HP_load_29 : decode b_HP_load 29 = .ok (.lconst 0, 1) := by decide +kernel
theorem d_HP_load_30 : decode b_HP_load 30 = .ok (.invokevirtual 67, 3) := by decide +kernel
theorem d_HP_load_33 : decode b_HP_load 33 = .ok (.invokestatic 71, 3) := by decide +kernel
theorem d_HP_load_36 : decode b_HP_load 36 = .ok (.iastore, 1) := by decide +kernel
theorem d_HP_load_37 : decode b_HP_load 37 = .ok (.iinc 5 1, 3) := by decide +kernel
theorem d_HP_load_40 : decode b_HP_load 40 = .ok (.goto (-30), 3) := by decide +kernel
theorem d_HP_load_43 : decode b_HP_load 43 = .ok (.iconst 0, 1) := by decide +kernel
theorem d_HP_load_44 : decode b_HP_load 44 = .ok (.istore 5, 2) := by decide +kernel
theorem d_HP_load_46 : decode b_HP_load 46 = .ok (.iload 5, 2) := by decide +kernel
theorem d_HP_load_48 : decode b_HP_load 48 = .ok (.iload 4, 2) := by decide +kernel
theorem d_HP_load_50 : decode b_HP_load 50 = .ok (.if_icmp .ge 48, 3) := by decide +kernel
theorem d_HP_load_53 : decode b_HP_load 53 = .ok (.aload_n 1, 1) := by decide +kernel
theorem d_HP_load_54 : decode b_HP_load 54 = .ok (.iload 5, 2) := by decide +kernel
theorem d_HP_load_56 : decode b_HP_load 56 = .ok (.invokevirtual 63, 3) := by decide +kernel
theorem d_HP_load_59 : decode b_HP_load 59 = .ok (.istore 6, 2) := by decide +kernel
theorem d_HP_load_61 : decode b_HP_load 61 = .ok (.aload_n 0, 1) := by decide +kernel
theorem d_HP_load_62 : decode b_HP_load 62 = .ok (.aload_n 0, 1) := by decide +kernel
theorem d_HP_load_63 : decode b_HP_load 63 = .ok (.getfield 38, 3) := by decide +kernel
theorem d_HP_load_66 : decode b_HP_load 66 = .ok (.iload 6, 2) := by decide +kernel
theorem d_HP_load_68 : decode b_HP_load 68 = .ok (.iaload, 1) := by decide +kernel
theorem d_HP_load_69 : decode b_HP_load 69 = .ok (.aload_n 0, 1) := by decide +kernel
theorem d_HP_load_70 : decode b_HP_load 70 = .ok (.aload_n 1, 1) := by decide +kernel
theorem d_HP_load_71 : decode b_HP_load 71 = .ok (.iload 6, 2) := by decide +kernel
theorem d_HP_load_73 : decode b_HP_load 73 = .ok (.invokevirtual 74, 3) := by decide +kernel
theorem d_HP_load_76 : decode b_HP_load 76 = .ok (.invokevirtual 77, 3) := by decide +kernel
theorem d_HP_load_79 : decode b_HP_load 79 = .ok (.aload_n 0, 1) := by decide +kernel
theorem d_HP_load_80 : decode b_HP_load 80 = .ok (.aload_n 1, 1) := by decide +kernel
theorem d_HP_load_81 : decode b_HP_load 81 = .ok (.iload 6, 2) := by decide +kernel
theorem d_HP_load_83 : decode b_HP_load 83 = .ok (.invokevirtual 81, 3) := by decide +kernel
theorem d_HP_load_86 : decode b_HP_load 86 = .ok (.invokevirtual 77, 3) := by decide +kernel
theorem d_HP_load_89 : decode b_HP_load 89 = .ok (.invokevirtual 84, 3) := by decide +kernel
theorem d_HP_load_92 : decode b_HP_load 92 = .ok (.iinc 5 1, 3) := by decide +kernel
theorem d_HP_load_95 : decode b_HP_load 95 = .ok (.goto (-49), 3) := by decide +kernel
theorem d_HP_load_98 : decode b_HP_load 98 = .ok (.aload_n 0, 1) := by decide +kernel
theorem d_HP_load_99 : decode b_HP_load 99 = .ok (.lload_n 2, 1) := by decide +kernel
theorem d_HP_load_100 : decode b_HP_load 100 = .ok (.invokevirtual 77, 3) := by decide +kernel
theorem d_HP_load_103 : decode b_HP_load 103 = .ok (.lreturn, 1) := by decide +kernel
theorem d_HP_placed_0 : decode b_HP_placed 0 = .ok (.lload_n 1, 1) := by decide +kernel
theorem d_HP_placed_1 : decode b_HP_placed 1 = .ok (.invokestatic 88, 3) := by decide +kernel
theorem d_HP_placed_4 : decode b_HP_placed 4 = .ok (.ifCond .eq 20, 3) := by decide +kernel
theorem d_HP_placed_7 : decode b_HP_placed 7 = .ok (.bipush 23, 2) := by decide +kernel
theorem d_HP_placed_9 : decode b_HP_placed 9 = .ok (.aload_n 0, 1) := by decide +kernel
theorem d_HP_placed_10 : decode b_HP_placed 10 = .ok (.getfield 38, 3) := by decide +kernel
theorem d_HP_placed_13 : decode b_HP_placed 13 = .ok (.lload_n 1, 1) := by decide +kernel
theorem d_HP_placed_14 : decode b_HP_placed 14 = .ok (.invokestatic 71, 3) := by decide +kernel
theorem d_HP_placed_17 : decode b_HP_placed 17 = .ok (.iaload, 1) := by decide +kernel
theorem d_HP_placed_18 : decode b_HP_placed 18 = .ok (.invokestatic 92, 3) := by decide +kernel
theorem d_HP_placed_21 : decode b_HP_placed 21 = .ok (.goto 4, 3) := by decide +kernel
theorem d_HP_placed_24 : decode b_HP_placed 24 = .ok (.lload_n 1, 1) := by decide +kernel
theorem d_HP_placed_25 : decode b_HP_placed 25 = .ok (.lreturn, 1) := by decide +kernel
theorem d_HP_make_0 : decode b_HP_make 0 = .ok (.aload_n 0, 1) := by decide +kernel
theorem d_HP_make_1 : decode b_HP_make 1 = .ok (.getfield 41, 3) := by decide +kernel
theorem d_HP_make_4 : decode b_HP_make 4 = .ok (.ifCond .ne 9, 3) := by decide +kernel
theorem d_HP_make_7 : decode b_HP_make 7 = .ok (.bipush 17, 2) := by decide +kernel
