theorem d_MC_ask_71 : decode b_MC_ask 71 = .ok (.iload_n 2, 1) := by decide +kernel
theorem d_MC_ask_72 : decode b_MC_ask 72 = .ok (.bastore, 1) := by decide +kernel
theorem d_MC_ask_73 : decode b_MC_ask 73 = .ok (.aload_n 0, 1) := by decide +kernel
theorem d_MC_ask_74 : decode b_MC_ask 74 = .ok (.getfield 33, 3) := by decide +kernel
theorem d_MC_ask_77 : decode b_MC_ask 77 = .ok (.aload_n 0, 1) := by decide +kernel
theorem d_MC_ask_78 : decode b_MC_ask 78 = .ok (.getfield 49, 3) := by decide +kernel
theorem d_MC_ask_81 : decode b_MC_ask 81 = .ok (.iload_n 3, 1) := by decide +kernel
theorem d_MC_ask_82 : decode b_MC_ask 82 = .ok (.iastore, 1) := by decide +kernel
theorem d_MC_ask_83 : decode b_MC_ask 83 = .ok (.aload_n 0, 1) := by decide +kernel
theorem d_MC_ask_84 : decode b_MC_ask 84 = .ok (.lload 4, 2) := by decide +kernel
theorem d_MC_ask_86 : decode b_MC_ask 86 = .ok (.putfield 52, 3) := by decide +kernel
theorem d_MC_ask_89 : decode b_MC_ask 89 = .ok (.iconst 0, 1) := by decide +kernel
theorem d_MC_ask_90 : decode b_MC_ask 90 = .ok (.ireturn, 1) := by decide +kernel
theorem d_MC_haveValue_0 : decode b_MC_haveValue 0 = .ok (.aload_n 0, 1) := by decide +kernel
theorem d_MC_haveValue_1 : decode b_MC_haveValue 1 = .ok (.getfield 52, 3) := by decide +kernel
theorem d_MC_haveValue_4 : decode b_MC_haveValue 4 = .ok (.invokestatic 102, 3) := by decide +kernel
theorem d_MC_haveValue_7 : decode b_MC_haveValue 7 = .ok (.istore_n 3, 1) := by decide +kernel
theorem d_MC_haveValue_8 : decode b_MC_haveValue 8 = .ok (.iload_n 1, 1) := by decide +kernel
theorem d_MC_haveValue_9 : decode b_MC_haveValue 9 = .ok (.invokestatic 128, 3) := by decide +kernel
theorem d_MC_haveValue_12 : decode b_MC_haveValue 12 = .ok (.ifCond .eq 7, 3) := by decide +kernel
theorem d_MC_haveValue_15 : decode b_MC_haveValue 15 = .ok (.iload_n 1, 1) := by decide +kernel
theorem d_MC_haveValue_16 : decode b_MC_haveValue 16 = .ok (.goto 5, 3) := by decide +kernel
theorem d_MC_haveValue_19 : decode b_MC_haveValue 19 = .ok (.bipush 25, 2) := by decide +kernel
theorem d_MC_haveValue_21 : decode b_MC_haveValue 21 = .ok (.istore 4, 2) := by decide +kernel
theorem d_MC_haveValue_23 : decode b_MC_haveValue 23 = .ok (.iload_n 1, 1) := by decide +kernel
theorem d_MC_haveValue_24 : decode b_MC_haveValue 24 = .ok (.bipush 16, 2) := by decide +kernel
theorem d_MC_haveValue_26 : decode b_MC_haveValue 26 = .ok (.if_icmp .ne 30, 3) := by decide +kernel
theorem d_MC_haveValue_29 : decode b_MC_haveValue 29 = .ok (.iload_n 2, 1) := by decide +kernel
theorem d_MC_haveValue_30 : decode b_MC_haveValue 30 = .ok (.iconst 2, 1) := by decide +kernel
theorem d_MC_haveValue_31 : decode b_MC_haveValue 31 = .ok (.if_icmp .ne 25, 3) := by decide +kernel
theorem d_MC_haveValue_34 : decode b_MC_haveValue 34 = .ok (.bipush 16, 2) := by decide +kernel
theorem d_MC_haveValue_36 : decode b_MC_haveValue 36 = .ok (.istore 4, 2) := by decide +kernel
theorem d_MC_haveValue_38 : decode b_MC_haveValue 38 = .ok (.aload_n 0, 1) := by decide +kernel
theorem d_MC_haveValue_39 : decode b_MC_haveValue 39 = .ok (.aload_n 0, 1) := by decide +kernel
theorem d_MC_haveValue_40 : decode b_MC_haveValue 40 = .ok (.iconst 1, 1) := by decide +kernel
theorem d_MC_haveValue_41 : decode b_MC_haveValue 41 = .ok (.invokevirtual 135, 3) := by decide +kernel
theorem d_MC_haveValue_44 : decode b_MC_haveValue 44 = .ok (.putfield 177, 3) := by decide +kernel
theorem d_MC_haveValue_47 : decode b_MC_haveValue 47 = .ok (.aload_n 0, 1) := by decide +kernel
theorem d_MC_haveValue_48 : decode b_MC_haveValue 48 = .ok (.aload_n 0, 1) := by decide +kernel
theorem d_MC_haveValue_49 : decode b_MC_haveValue 49 = .ok (.iconst 2, 1) := by decide +kernel
theorem d_MC_haveValue_50 : decode b_MC_haveValue 50 = .ok (.invokevirtual 135, 3) := by decide +kernel
theorem d_MC_haveValue_53 : decode b_MC_haveValue 53 = .ok (.putfield 180, 3) := by decide +kernel
theorem d_MC_haveValue_56 : decode b_MC_haveValue 56 = .ok (.iload_n 2, 1) := by decide +kernel
theorem d_MC_haveValue_57 : decode b_MC_haveValue 57 = .ok (.ifCond .le 26, 3) := by decide +kernel
theorem d_MC_haveValue_60 : decode b_MC_haveValue 60 = .ok (.aload_n 0, 1) := by decide +kernel
theorem d_MC_haveValue_61 : decode b_MC_haveValue 61 = .ok (.bipush 23, 2) := by decide +kernel
theorem d_MC_haveValue_63 : decode b_MC_haveValue 63 = .ok (.aload_n 0, 1) := by decide +kernel
theorem d_MC_haveValue_64 : decode b_MC_haveValue 64 = .ok (.getfield 19, 3) := by decide +kernel
theorem d_MC_haveValue_67 : decode b_MC_haveValue 67 = .ok (.aload_n 0, 1) := by decide +kernel
theorem d_MC_haveValue_68 : decode b_MC_haveValue 68 = .ok (.getfield 23, 3) := by decide +kernel
theorem d_MC_haveValue_71 : decode b_MC_haveValue 71 = .ok (.aload_n 0, 1) := by decide +kernel
theorem d_MC_haveValue_72 : decode b_MC_haveValue 72 = .ok (.getfield 49, 3) := by decide +kernel
theorem d_MC_haveValue_75 : decode b_MC_haveValue 75 = .ok (.iaload, 1) := by decide +kernel
theorem d_MC_haveValue_76 : decode b_MC_haveValue 76 = .ok (.iaload, 1) := by decide +kernel
theorem d_MC_haveValue_77 : decode b_MC_haveValue 77 = .ok (.invokestatic 82, 3) := by decide +kernel
theorem d_MC_haveValue_80 : decode b_MC_haveValue 80 = .ok (.putfield 52, 3) := by decide +kernel
theorem d_MC_haveValue_83 : decode b_MC_haveValue 83 = .ok (.aload_n 0, 1) := by decide +kernel
theorem d_MC_haveValue_84 : decode b_MC_haveValue 84 = .ok (.aload_n 0, 1) := by decide +kernel
theorem d_MC_haveValue_85 : decode b_MC_haveValue 85 = .ok (.getfield 23, 3) := by decide +kernel
theorem d_MC_haveValue_88 : decode b_MC_haveValue 88 = .ok (.aload_n 0, 1) := by decide +kernel
theorem d_MC_haveValue_89 : decode b_MC_haveValue 89 = .ok (.getfield 49, 3) := by decide +kernel
theorem d_MC_haveValue_92 : decode b_MC_haveValue 92 = .ok (.iaload, 1) := by decide +kernel
theorem d_MC_haveValue_93 : decode b_MC_haveValue 93 = .ok (.putfield 43, 3) := by decide +kernel
theorem d_MC_haveValue_96 : decode b_MC_haveValue 96 = .ok (.aload_n 0, 1) := by decide +kernel
theorem d_MC_haveValue_97 : decode b_MC_haveValue 97 = .ok (.getfield 49, 3) := by decide +kernel
theorem d_MC_haveValue_100 : decode b_MC_haveValue 100 = .ok (.ifCond .ne 28, 3) := by decide +kernel
theorem d_MC_haveValue_103 : decode b_MC_haveValue 103 = .ok (.aload_n 0, 1) := by decide +kernel
theorem d_MC_haveValue_104 : decode b_MC_haveValue 104 = .ok (.getfield 63, 3) := by decide +kernel
theorem d_MC_haveValue_107 : decode b_MC_haveValue 107 = .ok (.ifCond .eq 13, 3) := by decide +kernel
theorem d_MC_haveValue_110 : decode b_MC_haveValue 110 = .ok (.aload_n 0, 1) := by decide +kernel
theorem d_MC_haveValue_111 : decode b_MC_haveValue 111 = .ok (.iload 4, 2) := by decide +kernel
theorem d_MC_haveValue_113 : decode b_MC_haveValue 113 = .ok (.iload_n 3, 1) := by decide +kernel
theorem d_MC_haveValue_114 : decode b_MC_haveValue 114 = .ok (.invokevirtual 183, 3) := by decide +kernel
theorem d_MC_haveValue_117 : decode b_MC_haveValue 117 = .ok (.goto 10, 3) := by decide +kernel
theorem d_MC_haveValue_120 : decode b_MC_haveValue 120 = .ok (.aload_n 0, 1) := by decide +kernel
theorem d_MC_haveValue_121 : decode b_MC_haveValue 121 = .ok (.iload 4, 2) := by decide +kernel
theorem d_MC_haveValue_123 : decode b_MC_haveValue 123 = .ok (.iload_n 3, 1) := by decide +kernel
theorem d_MC_haveValue_124 : decode b_MC_haveValue 124 = .ok (.invokevirtual 186, 3) := by decide +kernel
theorem d_MC_haveValue_127 : decode b_MC_haveValue 127 = .ok (.ireturn, 1) := by decide +kernel
theorem d_MC_haveValue_128 : decode b_MC_haveValue 128 = .ok (.aload_n 0, 1) := by decide +kernel
theorem d_MC_haveValue_129 : decode b_MC_haveValue 129 = .ok (.dup, 1) := by decide +kernel
theorem d_MC_haveValue_130 : decode b_MC_haveValue 130 = .ok (.getfield 49, 3) := by decide +kernel
theorem d_MC_haveValue_133 : decode b_MC_haveValue 133 = .ok (.iconst 1, 1) := by decide +kernel
theorem d_MC_haveValue_134 : decode b_MC_haveValue 134 = .ok (.isub, 1) := by decide +kernel
theorem d_MC_haveValue_135 : decode b_MC_haveValue 135 = .ok (.putfield 49, 3) := by decide +kernel
theorem d_MC_haveValue_138 : decode b_MC_haveValue 138 = .ok (.aload_n 0, 1) := by decide +kernel
theorem d_MC_haveValue_139 : decode b_MC_haveValue 139 = .ok (.iload 4, 2) := by decide +kernel
theorem d_MC_haveValue_141 : decode b_MC_haveValue 141 = .ok (.iload_n 3, 1) := by decide +kernel
theorem d_MC_haveValue_142 : decode b_MC_haveValue 142 = .ok (.invokevirtual 189, 3) := by decide +kernel
theorem d_MC_haveValue_145 : decode b_MC_haveValue 145 = .ok (.ireturn, 1) := by decide +kernel
theorem d_MC_goOn_0 : decode b_MC_goOn 0 = .ok (.aload_n 0, 1) := by decide +kernel
theorem d_MC_goOn_1 : decode b_MC_goOn 1 = .ok (.getfield 49, 3) := by decide +kernel
theorem d_MC_goOn_4 : decode b_MC_goOn 4 = .ok (.iconst 1, 1) := by decide +kernel
theorem d_MC_goOn_5 : decode b_MC_goOn 5 = .ok (.iadd, 1) := by decide +kernel
theorem d_MC_goOn_6 : decode b_MC_goOn 6 = .ok (.istore_n 3, 1) := by decide +kernel
theorem d_MC_goOn_7 : decode b_MC_goOn 7 = .ok (.aload_n 0, 1) := by decide +kernel
theorem d_MC_goOn_8 : decode b_MC_goOn 8 = .ok (.getfield 26, 3) := by decide +kernel
theorem d_MC_goOn_11 : decode b_MC_goOn 11 = .ok (.iload_n 3, 1) := by decide +kernel
theorem d_MC_goOn_12 : decode b_MC_goOn 12 = .ok (.iaload, 1) := by decide +kernel
theorem d_MC_goOn_13 : decode b_MC_goOn 13 = .ok (.istore 4, 2) := by decide +kernel
theorem d_MC_goOn_15 : decode b_MC_goOn 15 = .ok (.iload 4, 2) := by decide +kernel
theorem d_MC_goOn_17 : decode b_MC_goOn 17 = .ok (.bipush 10, 2) := by decide +kernel
theorem d_MC_goOn_19 : decode b_MC_goOn 19 = .ok (.if_icmp .ne 9, 3) := by decide +kernel
theorem d_MC_goOn_22 : decode b_MC_goOn 22 = .ok (.aload_n 0, 1) := by decide +kernel
theorem d_MC_goOn_23 : decode b_MC_goOn 23 = .ok (.iload_n 1, 1) := by decide +kernel
theorem d_MC_goOn_24 : decode b_MC_goOn 24 = .ok (.invokevirtual 192, 3) := by decide +kernel
theorem d_MC_goOn_27 : decode b_MC_goOn 27 = .ok (.ireturn, 1) := by decide +kernel
theorem d_MC_goOn_28 : decode b_MC_goOn 28 = .ok (.iload 4, 2) := by decide +kernel
theorem d_MC_goOn_30 : decode b_MC_goOn 30 = .ok (.bipush 18, 2) := by decide +kernel
theorem d_MC_goOn_32 : decode b_MC_goOn 32 = .ok (.if_icmp .lt 11, 3) := by decide +kernel
theorem d_MC_goOn_35 : decode b_MC_goOn 35 = .ok (.aload_n 0, 1) := by decide +kernel
theorem d_MC_goOn_36 : decode b_MC_goOn 36 = .ok (.iload 4, 2) := by decide +kernel
theorem d_MC_goOn_38 : decode b_MC_goOn 38 = .ok (.iload_n 1, 1) := by decide +kernel
theorem d_MC_goOn_39 : decode b_MC_goOn 39 = .ok (.invokevirtual 195, 3) := by decide +kernel
theorem d_MC_goOn_42 : decode b_MC_goOn 42 = .ok (.ireturn, 1) := by decide +kernel
theorem d_MC_goOn_43 : decode b_MC_goOn 43 = .ok (.iload_n 1, 1) := by decide +kernel
theorem d_MC_goOn_44 : decode b_MC_goOn 44 = .ok (.ifCond .eq 9, 3) := by decide +kernel
theorem d_MC_goOn_47 : decode b_MC_goOn 47 = .ok (.aload_n 0, 1) := by decide +kernel
theorem d_MC_goOn_48 : decode b_MC_goOn 48 = .ok (.iconst 2, 1) := by decide +kernel
theorem d_MC_goOn_49 : decode b_MC_goOn 49 = .ok (.invokevirtual 115, 3) := by decide +kernel
theorem d_MC_goOn_52 : decode b_MC_goOn 52 = .ok (.ireturn, 1) := by decide +kernel
theorem d_MC_goOn_53 : decode b_MC_goOn 53 = .ok (.aload_n 0, 1) := by decide +kernel
theorem d_MC_goOn_54 : decode b_MC_goOn 54 = .ok (.getfield 29, 3) := by decide +kernel
theorem d_MC_goOn_57 : decode b_MC_goOn 57 = .ok (.iload_n 3, 1) := by decide +kernel
theorem d_MC_goOn_58 : decode b_MC_goOn 58 = .ok (.baload, 1) := by decide +kernel
theorem d_MC_goOn_59 : decode b_MC_goOn 59 = .ok (.ifCond .ne 12, 3) := by decide +kernel
theorem d_MC_goOn_62 : decode b_MC_goOn 62 = .ok (.aload_n 0, 1) := by decide +kernel
theorem d_MC_goOn_63 : decode b_MC_goOn 63 = .ok (.iload 4, 2) := by decide +kernel
theorem d_MC_goOn_65 : decode b_MC_goOn 65 = .ok (.iconst 1, 1) := by decide +kernel
theorem d_MC_goOn_66 : decode b_MC_goOn 66 = .ok (.iload_n 2, 1) := by decide +kernel
theorem d_MC_goOn_67 : decode b_MC_goOn 67 = .ok (.invokevirtual 141, 3) := by decide +kernel
theorem d_MC_goOn_70 : decode b_MC_goOn 70 = .ok (.ireturn, 1) := by decide +kernel
theorem d_MC_goOn_71 : decode b_MC_goOn 71 = .ok (.aload_n 0, 1) := by decide +kernel
theorem d_MC_goOn_72 : decode b_MC_goOn 72 = .ok (.iconst 2, 1) := by decide +kernel
theorem d_MC_goOn_73 : decode b_MC_goOn 73 = .ok (.ldc2_w 163, 3) := by decide +kernel
theorem d_MC_goOn_76 : decode b_MC_goOn 76 = .ok (.iload 4, 2) := by decide +kernel
theorem d_MC_goOn_78 : decode b_MC_goOn 78 = .ok (.aload_n 0, 1) := by decide +kernel
theorem d_MC_goOn_79 : decode b_MC_goOn 79 = .ok (.getfield 33, 3) := by decide +kernel
theorem d_MC_goOn_82 : decode b_MC_goOn 82 = .ok (.iload_n 3, 1) := by decide +kernel
theorem d_MC_goOn_83 : decode b_MC_goOn 83 = .ok (.iaload, 1) := by decide +kernel
theorem d_MC_goOn_84 : decode b_MC_goOn 84 = .ok (.iload_n 2, 1) := by decide +kernel
theorem d_MC_goOn_85 : decode b_MC_goOn 85 = .ok (.invokestatic 198, 3) := by decide +kernel
theorem d_MC_goOn_88 : decode b_MC_goOn 88 = .ok (.invokevirtual 165, 3) := by decide +kernel
theorem d_MC_goOn_91 : decode b_MC_goOn 91 = .ok (.ireturn, 1) := by decide +kernel
theorem d_MC_choose_0 : decode b_MC_choose 0 = .ok (.iload_n 1, 1) := by decide +kernel
theorem d_MC_choose_1 : decode b_MC_choose 1 = .ok (.bipush 21, 2) := by decide +kernel
theorem d_MC_choose_3 : decode b_MC_choose 3 = .ok (.if_icmp .eq 15, 3) := by decide +kernel
theorem d_MC_choose_6 : decode b_MC_choose 6 = .ok (.iload_n 1, 1) := by decide +kernel
theorem d_MC_choose_7 : decode b_MC_choose 7 = .ok (.bipush 22, 2) := by decide +kernel
theorem d_MC_choose_9 : decode b_MC_choose 9 = .ok (.if_icmp .eq 9, 3) := by decide +kernel
theorem d_MC_choose_12 : decode b_MC_choose 12 = .ok (.aload_n 0, 1) := by decide +kernel
theorem d_MC_choose_13 : decode b_MC_choose 13 = .ok (.iconst 2, 1) := by decide +kernel
theorem d_MC_choose_14 : decode b_MC_choose 14 = .ok (.invokevirtual 115, 3) := by decide +kernel
theorem d_MC_choose_17 : decode b_MC_choose 17 = .ok (.ireturn, 1) := by decide +kernel
theorem d_MC_choose_18 : decode b_MC_choose 18 = .ok (.aload_n 0, 1) := by decide +kernel
theorem d_MC_choose_19 : decode b_MC_choose 19 = .ok (.iconst 3, 1) := by decide +kernel
theorem d_MC_choose_20 : decode b_MC_choose 20 = .ok (.ldc2_w 163, 3) := by decide +kernel
theorem d_MC_choose_23 : decode b_MC_choose 23 = .ok (.aload_n 0, 1) := by decide +kernel
theorem d_MC_choose_24 : decode b_MC_choose 24 = .ok (.iload_n 1, 1) := by decide +kernel
theorem d_MC_choose_25 : decode b_MC_choose 25 = .ok (.bipush 21, 2) := by decide +kernel
theorem d_MC_choose_27 : decode b_MC_choose 27 = .ok (.if_icmp .ne 7, 3) := by decide +kernel
theorem d_MC_choose_30 : decode b_MC_choose 30 = .ok (.iconst 2, 1) := by decide +kernel
theorem d_MC_choose_31 : decode b_MC_choose 31 = .ok (.goto 4, 3) := by decide +kernel
theorem d_MC_choose_34 : decode b_MC_choose 34 = .ok (.iconst 3, 1) := by decide +kernel
theorem d_MC_choose_35 : decode b_MC_choose 35 = .ok (.invokevirtual 135, 3) := by decide +kernel
theorem d_MC_choose_38 : decode b_MC_choose 38 = .ok (.invokevirtual 165, 3) := by decide +kernel
theorem d_MC_choose_41 : decode b_MC_choose 41 = .ok (.ireturn, 1) := by decide +kernel
theorem d_MC_takeApart_0 : decode b_MC_takeApart 0 = .ok (.iload_n 1, 1) := by decide +kernel
theorem d_MC_takeApart_1 : decode b_MC_takeApart 1 = .ok (.bipush 20, 2) := by decide +kernel
theorem d_MC_takeApart_3 : decode b_MC_takeApart 3 = .ok (.if_icmp .ne 38, 3) := by decide +kernel
theorem d_MC_takeApart_6 : decode b_MC_takeApart 6 = .ok (.iload_n 2, 1) := by decide +kernel
theorem d_MC_takeApart_7 : decode b_MC_takeApart 7 = .ok (.bipush 17, 2) := by decide +kernel
theorem d_MC_takeApart_9 : decode b_MC_takeApart 9 = .ok (.if_icmp .eq 9, 3) := by decide +kernel
theorem d_MC_takeApart_12 : decode b_MC_takeApart 12 = .ok (.iload_n 2, 1) := by decide +kernel
theorem d_MC_takeApart_13 : decode b_MC_takeApart 13 = .ok (.bipush 16, 2) := by decide +kernel
theorem d_MC_takeApart_15 : decode b_MC_takeApart 15 = .ok (.if_icmp .ne 26, 3) := by decide +kernel
theorem d_MC_takeApart_18 : decode b_MC_takeApart 18 = .ok (.aload_n 0, 1) := by decide +kernel
theorem d_MC_takeApart_19 : decode b_MC_takeApart 19 = .ok (.iconst 1, 1) := by decide +kernel
theorem d_MC_takeApart_20 : decode b_MC_takeApart 20 = .ok (.ldc2_w 163, 3) := by decide +kernel
theorem d_MC_takeApart_23 : decode b_MC_takeApart 23 = .ok (.iload_n 2, 1) := by decide +kernel
theorem d_MC_takeApart_24 : decode b_MC_takeApart 24 = .ok (.bipush 17, 2) := by decide +kernel
theorem d_MC_takeApart_26 : decode b_MC_takeApart 26 = .ok (.if_icmp .ne 7, 3) := by decide +kernel
theorem d_MC_takeApart_29 : decode b_MC_takeApart 29 = .ok (.iconst 1, 1) := by decide +kernel
theorem d_MC_takeApart_30 : decode b_MC_takeApart 30 = .ok (.goto 4, 3) := by decide +kernel
theorem d_MC_takeApart_33 : decode b_MC_takeApart 33 = .ok (.iconst 0, 1) := by decide +kernel
theorem d_MC_takeApart_34 : decode b_MC_takeApart 34 = .ok (.invokestatic 202, 3) := by decide +kernel
theorem d_MC_takeApart_37 : decode b_MC_takeApart 37 = .ok (.invokevirtual 165, 3) := by decide +kernel
theorem d_MC_takeApart_40 : decode b_MC_takeApart 40 = .ok (.ireturn, 1) := by decide +kernel
theorem d_MC_takeApart_41 : decode b_MC_takeApart 41 = .ok (.iload_n 2, 1) := by decide +kernel
theorem d_MC_takeApart_42 : decode b_MC_takeApart 42 = .ok (.bipush 16, 2) := by decide +kernel
theorem d_MC_takeApart_44 : decode b_MC_takeApart 44 = .ok (.if_icmp .eq 9, 3) := by decide +kernel
theorem d_MC_takeApart_47 : decode b_MC_takeApart 47 = .ok (.aload_n 0, 1) := by decide +kernel
theorem d_MC_takeApart_48 : decode b_MC_takeApart 48 = .ok (.iconst 2, 1) := by decide +kernel
theorem d_MC_takeApart_49 : decode b_MC_takeApart 49 = .ok (.invokevirtual 115, 3) := by decide +kernel
theorem d_MC_takeApart_52 : decode b_MC_takeApart 52 = .ok (.ireturn, 1) := by decide +kernel
theorem d_MC_takeApart_53 : decode b_MC_takeApart 53 = .ok (.aload_n 0, 1) := by decide +kernel
theorem d_MC_takeApart_54 : decode b_MC_takeApart 54 = .ok (.iconst 1, 1) := by decide +kernel
theorem d_MC_takeApart_55 : decode b_MC_takeApart 55 = .ok (.ldc2_w 163, 3) := by decide +kernel
theorem d_MC_takeApart_58 : decode b_MC_takeApart 58 = .ok (.iload_n 1, 1) := by decide +kernel
theorem d_MC_takeApart_59 : decode b_MC_takeApart 59 = .ok (.bipush 18, 2) := by decide +kernel
theorem d_MC_takeApart_61 : decode b_MC_takeApart 61 = .ok (.if_icmp .ne 10, 3) := by decide +kernel
theorem d_MC_takeApart_64 : decode b_MC_takeApart 64 = .ok (.aload_n 0, 1) := by decide +kernel
theorem d_MC_takeApart_65 : decode b_MC_takeApart 65 = .ok (.getfield 177, 3) := by decide +kernel
theorem d_MC_takeApart_68 : decode b_MC_takeApart 68 = .ok (.goto 7, 3) := by decide +kernel
theorem d_MC_takeApart_71 : decode b_MC_takeApart 71 = .ok (.aload_n 0, 1) := by decide +kernel
theorem d_MC_takeApart_72 : decode b_MC_takeApart 72 = .ok (.getfield 180, 3) := by decide +kernel
theorem d_MC_takeApart_75 : decode b_MC_takeApart 75 = .ok (.invokevirtual 165, 3) := by decide +kernel
theorem d_MC_takeApart_78 : decode b_MC_takeApart 78 = .ok (.ireturn, 1) := by decide +kernel
theorem d_MC_calculate_0 : decode b_MC_calculate 0 = .ok (.iload_n 0, 1) := by decide +kernel
theorem d_MC_calculate_1 : decode b_MC_calculate 1 = .ok (.tableswitch 69 11 14 #[31, 39, 47, 55], 31) := by decide +kernel
theorem d_MC_calculate_32 : decode b_MC_calculate 32 = .ok (.iconst 0, 1) := by decide +kernel
theorem d_MC_calculate_33 : decode b_MC_calculate 33 = .ok (.iload_n 1, 1) := by decide +kernel
theorem d_MC_calculate_34 : decode b_MC_calculate 34 = .ok (.iload_n 2, 1) := by decide +kernel
theorem d_MC_calculate_35 : decode b_MC_calculate 35 = .ok (.iadd, 1) := by decide +kernel
theorem d_MC_calculate_36 : decode b_MC_calculate 36 = .ok (.invokestatic 82, 3) := by decide +kernel
theorem d_MC_calculate_39 : decode b_MC_calculate 39 = .ok (.lreturn, 1) := by decide +kernel
theorem d_MC_calculate_40 : decode b_MC_calculate 40 = .ok (.iconst 0, 1) := by decide +kernel
theorem d_MC_calculate_41 : decode b_MC_calculate 41 = .ok (.iload_n 1, 1) := by decide +kernel
theorem d_MC_calculate_42 : decode b_MC_calculate 42 = .ok (.iload_n 2, 1) := by decide +kernel
theorem d_MC_calculate_43 : decode b_MC_calculate 43 = .ok (.isub, 1) := by decide +kernel
theorem d_MC_calculate_44 : decode b_MC_calculate 44 = .ok (.invokestatic 82, 3) := by decide +kernel
theorem d_MC_calculate_47 : decode b_MC_calculate 47 = .ok (.lreturn, 1) := by decide +kernel
theorem d_MC_calculate_48 : decode b_MC_calculate 48 = .ok (.iconst 0, 1) := by decide +kernel
theorem d_MC_calculate_49 : decode b_MC_calculate 49 = .ok (.iload_n 1, 1) := by decide +kernel
theorem d_MC_calculate_50 : decode b_MC_calculate 50 = .ok (.iload_n 2, 1) := by decide +kernel
theorem d_MC_calculate_51 : decode b_MC_calculate 51 = .ok (.imul, 1) := by decide +kernel
theorem d_MC_calculate_52 : decode b_MC_calculate 52 = .ok (.invokestatic 82, 3) := by decide +kernel
theorem d_MC_calculate_55 : decode b_MC_calculate 55 = .ok (.lreturn, 1) := by decide +kernel
theorem d_MC_calculate_56 : decode b_MC_calculate 56 = .ok (.iload_n 1, 1) := by decide +kernel
theorem d_MC_calculate_57 : decode b_MC_calculate 57 = .ok (.iload_n 2, 1) := by decide +kernel
theorem d_MC_calculate_58 : decode b_MC_calculate 58 = .ok (.if_icmp .ge 7, 3) := by decide +kernel
theorem d_MC_calculate_61 : decode b_MC_calculate 61 = .ok (.iconst 1, 1) := by decide +kernel
theorem d_MC_calculate_62 : decode b_MC_calculate 62 = .ok (.goto 4, 3) := by decide +kernel
theorem d_MC_calculate_65 : decode b_MC_calculate 65 = .ok (.iconst 0, 1) := by decide +kernel
theorem d_MC_calculate_66 : decode b_MC_calculate 66 = .ok (.invokestatic 202, 3) := by decide +kernel
theorem d_MC_calculate_69 : decode b_MC_calculate 69 = .ok (.lreturn, 1) := by decide +kernel
theorem d_MC_calculate_70 : decode b_MC_calculate 70 = .ok (.iload_n 1, 1) := by decide +kernel
theorem d_MC_calculate_71 : decode b_MC_calculate 71 = .ok (.iload_n 2, 1) := by decide +kernel
theorem d_MC_calculate_72 : decode b_MC_calculate 72 = .ok (.if_icmp .ne 7, 3) := by decide +kernel
theorem d_MC_calculate_75 : decode b_MC_calculate 75 = .ok (.iconst 1, 1) := by decide +kernel
theorem d_MC_calculate_76 : decode b_MC_calculate 76 = .ok (.goto 4, 3) := by decide +kernel
theorem d_MC_calculate_79 : decode b_MC_calculate 79 = .ok (.iconst 0, 1) := by decide +kernel
theorem d_MC_calculate_80 : decode b_MC_calculate 80 = .ok (.invokestatic 202, 3) := by decide +kernel
theorem d_MC_calculate_83 : decode b_MC_calculate 83 = .ok (.lreturn, 1) := by decide +kernel
theorem d_MC_truth_0 : decode b_MC_truth 0 = .ok (.iload_n 0, 1) := by decide +kernel
theorem d_MC_truth_1 : decode b_MC_truth 1 = .ok (.ifCond .eq 8, 3) := by decide +kernel
theorem d_MC_truth_4 : decode b_MC_truth 4 = .ok (.bipush 21, 2) := by decide +kernel
theorem d_MC_truth_6 : decode b_MC_truth 6 = .ok (.goto 5, 3) := by decide +kernel
theorem d_MC_truth_9 : decode b_MC_truth 9 = .ok (.bipush 22, 2) := by decide +kernel
theorem d_MC_truth_11 : decode b_MC_truth 11 = .ok (.invokestatic 56, 3) := by decide +kernel
theorem d_MC_truth_14 : decode b_MC_truth 14 = .ok (.lreturn, 1) := by decide +kernel
theorem d_MC_printTerm_0 : decode b_MC_printTerm 0 = .ok (.iload_n 1, 1) := by decide +kernel
theorem d_MC_printTerm_1 : decode b_MC_printTerm 1 = .ok (.bipush 16, 2) := by decide +kernel
theorem d_MC_printTerm_3 : decode b_MC_printTerm 3 = .ok (.if_icmp .ne 26, 3) := by decide +kernel
theorem d_MC_printTerm_6 : decode b_MC_printTerm 6 = .ok (.aload_n 0, 1) := by decide +kernel
theorem d_MC_printTerm_7 : decode b_MC_printTerm 7 = .ok (.aload_n 0, 1) := by decide +kernel
theorem d_MC_printTerm_8 : decode b_MC_printTerm 8 = .ok (.getfield 177, 3) := by decide +kernel
theorem d_MC_printTerm_11 : decode b_MC_printTerm 11 = .ok (.putfield 52, 3) := by decide +kernel
theorem d_MC_printTerm_14 : decode b_MC_printTerm 14 = .ok (.aload_n 0, 1) := by decide +kernel
theorem d_MC_printTerm_15 : decode b_MC_printTerm 15 = .ok (.aload_n 0, 1) := by decide +kernel
theorem d_MC_printTerm_16 : decode b_MC_printTerm 16 = .ok (.getfield 180, 3) := by decide +kernel
theorem d_MC_printTerm_19 : decode b_MC_printTerm 19 = .ok (.putfield 60, 3) := by decide +kernel
theorem d_MC_printTerm_22 : decode b_MC_printTerm 22 = .ok (.aload_n 0, 1) := by decide +kernel
theorem d_MC_printTerm_23 : decode b_MC_printTerm 23 = .ok (.iconst 1, 1) := by decide +kernel
theorem d_MC_printTerm_24 : decode b_MC_printTerm 24 = .ok (.putfield 63, 3) := by decide +kernel
theorem d_MC_printTerm_27 : decode b_MC_printTerm 27 = .ok (.iconst 0, 1) := by decide +kernel
theorem d_MC_printTerm_28 : decode b_MC_printTerm 28 = .ok (.ireturn, 1) := by decide +kernel
theorem d_MC_printTerm_29 : decode b_MC_printTerm 29 = .ok (.iload_n 1, 1) := by decide +kernel
theorem d_MC_printTerm_30 : decode b_MC_printTerm 30 = .ok (.bipush 25, 2) := by decide +kernel
theorem d_MC_printTerm_32 : decode b_MC_printTerm 32 = .ok (.if_icmp .eq 16, 3) := by decide +kernel
theorem d_MC_printTerm_35 : decode b_MC_printTerm 35 = .ok (.aload_n 0, 1) := by decide +kernel
theorem d_MC_printTerm_36 : decode b_MC_printTerm 36 = .ok (.getfield 67, 3) := by decide +kernel
theorem d_MC_printTerm_39 : decode b_MC_printTerm 39 = .ok (.ifCond .eq 15, 3) := by decide +kernel
theorem d_MC_printTerm_42 : decode b_MC_printTerm 42 = .ok (.iload_n 1, 1) := by decide +kernel
theorem d_MC_printTerm_43 : decode b_MC_printTerm 43 = .ok (.bipush 17, 2) := by decide +kernel
theorem d_MC_printTerm_45 : decode b_MC_printTerm 45 = .ok (.if_icmp .eq 9, 3) := by decide +kernel
theorem d_MC_printTerm_48 : decode b_MC_printTerm 48 = .ok (.aload_n 0, 1) := by decide +kernel
theorem d_MC_printTerm_49 : decode b_MC_printTerm 49 = .ok (.iconst 2, 1) := by decide +kernel
theorem d_MC_printTerm_50 : decode b_MC_printTerm 50 = .ok (.invokevirtual 115, 3) := by decide +kernel
theorem d_MC_printTerm_53 : decode b_MC_printTerm 53 = .ok (.ireturn, 1) := by decide +kernel
theorem d_MC_printTerm_54 : decode b_MC_printTerm 54 = .ok (.iload_n 1, 1) := by decide +kernel
theorem d_MC_printTerm_55 : decode b_MC_printTerm 55 = .ok (.bipush 17, 2) := by decide +kernel
theorem d_MC_printTerm_57 : decode b_MC_printTerm 57 = .ok (.if_icmp .eq 9, 3) := by decide +kernel
theorem d_MC_printTerm_60 : decode b_MC_printTerm 60 = .ok (.aload_n 0, 1) := by decide +kernel
theorem d_MC_printTerm_61 : decode b_MC_printTerm 61 = .ok (.iload_n 1, 1) := by decide +kernel
theorem d_MC_printTerm_62 : decode b_MC_printTerm 62 = .ok (.iload_n 2, 1) := by decide +kernel
theorem d_MC_printTerm_63 : decode b_MC_printTerm 63 = .ok (.invokevirtual 206, 3) := by decide +kernel
theorem d_MC_printTerm_66 : decode b_MC_printTerm 66 = .ok (.aload_n 0, 1) := by decide +kernel
theorem d_MC_printTerm_67 : decode b_MC_printTerm 67 = .ok (.iconst 1, 1) := by decide +kernel
theorem d_MC_printTerm_68 : decode b_MC_printTerm 68 = .ok (.putfield 36, 3) := by decide +kernel
theorem d_MC_printTerm_71 : decode b_MC_printTerm 71 = .ok (.iconst 1, 1) := by decide +kernel
theorem d_MC_printTerm_72 : decode b_MC_printTerm 72 = .ok (.ireturn, 1) := by decide +kernel
theorem d_MC_printLeftSide_0 : decode b_MC_printLeftSide 0 = .ok (.iload_n 1, 1) := by decide +kernel
theorem d_MC_printLeftSide_1 : decode b_MC_printLeftSide 1 = .ok (.invokestatic 145, 3) := by decide +kernel
theorem d_MC_printLeftSide_4 : decode b_MC_printLeftSide 4 = .ok (.ifCond .ne 9, 3) := by decide +kernel
theorem d_MC_printLeftSide_7 : decode b_MC_printLeftSide 7 = .ok (.aload_n 0, 1) := by decide +kernel
theorem d_MC_printLeftSide_8 : decode b_MC_printLeftSide 8 = .ok (.iconst 2, 1) := by decide +kernel
theorem d_MC_printLeftSide_9 : decode b_MC_printLeftSide 9 = .ok (.invokevirtual 115, 3) := by decide +kernel
theorem d_MC_printLeftSide_12 : decode b_MC_printLeftSide 12 = .ok (.ireturn, 1) := by decide +kernel
theorem d_MC_printLeftSide_13 : decode b_MC_printLeftSide 13 = .ok (.aload_n 0, 1) := by decide +kernel
theorem d_MC_printLeftSide_14 : decode b_MC_printLeftSide 14 = .ok (.iload_n 1, 1) := by decide +kernel
theorem d_MC_printLeftSide_15 : decode b_MC_printLeftSide 15 = .ok (.iload_n 2, 1) := by decide +kernel
theorem d_MC_printLeftSide_16 : decode b_MC_printLeftSide 16 = .ok (.invokevirtual 206, 3) := by decide +kernel
theorem d_MC_printLeftSide_19 : decode b_MC_printLeftSide 19 = .ok (.aload_n 0, 1) := by decide +kernel
theorem d_MC_printLeftSide_20 : decode b_MC_printLeftSide 20 = .ok (.getfield 15, 3) := by decide +kernel
theorem d_MC_printLeftSide_23 : decode b_MC_printLeftSide 23 = .ok (.bipush 32, 2) := by decide +kernel
theorem d_MC_printLeftSide_25 : decode b_MC_printLeftSide 25 = .ok (.invokevirtual 210, 3) := by decide +kernel
theorem d_MC_printLeftSide_28 : decode b_MC_printLeftSide 28 = .ok (.aload_n 0, 1) := by decide +kernel
theorem d_MC_printLeftSide_29 : decode b_MC_printLeftSide 29 = .ok (.aload_n 0, 1) := by decide +kernel
theorem d_MC_printLeftSide_30 : decode b_MC_printLeftSide 30 = .ok (.getfield 60, 3) := by decide +kernel
theorem d_MC_printLeftSide_33 : decode b_MC_printLeftSide 33 = .ok (.putfield 52, 3) := by decide +kernel
theorem d_MC_printLeftSide_36 : decode b_MC_printLeftSide 36 = .ok (.aload_n 0, 1) := by decide +kernel
theorem d_MC_printLeftSide_37 : decode b_MC_printLeftSide 37 = .ok (.bipush 17, 2) := by decide +kernel
theorem d_MC_printLeftSide_39 : decode b_MC_printLeftSide 39 = .ok (.invokestatic 56, 3) := by decide +kernel
theorem d_MC_printLeftSide_42 : decode b_MC_printLeftSide 42 = .ok (.putfield 60, 3) := by decide +kernel
theorem d_MC_printLeftSide_45 : decode b_MC_printLeftSide 45 = .ok (.aload_n 0, 1) := by decide +kernel
theorem d_MC_printLeftSide_46 : decode b_MC_printLeftSide 46 = .ok (.iconst 0, 1) := by decide +kernel
theorem d_MC_printLeftSide_47 : decode b_MC_printLeftSide 47 = .ok (.putfield 63, 3) := by decide +kernel
theorem d_MC_printLeftSide_50 : decode b_MC_printLeftSide 50 = .ok (.aload_n 0, 1) := by decide +kernel
theorem d_MC_printLeftSide_51 : decode b_MC_printLeftSide 51 = .ok (.iconst 1, 1) := by decide +kernel
theorem d_MC_printLeftSide_52 : decode b_MC_printLeftSide 52 = .ok (.putfield 67, 3) := by decide +kernel
theorem d_MC_printLeftSide_55 : decode b_MC_printLeftSide 55 = .ok (.iconst 1, 1) := by decide +kernel
theorem d_MC_printLeftSide_56 : decode b_MC_printLeftSide 56 = .ok (.ireturn, 1) := by decide +kernel
theorem d_MC_printValue_0 : decode b_MC_printValue 0 = .ok (.iload_n 1, 1) := by decide +kernel
theorem d_MC_printValue_1 : decode b_MC_printValue 1 = .ok (.ifCond .ne 14, 3) := by decide +kernel
theorem d_MC_printValue_4 : decode b_MC_printValue 4 = .ok (.aload_n 0, 1) := by decide +kernel
theorem d_MC_printValue_5 : decode b_MC_printValue 5 = .ok (.getfield 15, 3) := by decide +kernel
theorem d_MC_printValue_8 : decode b_MC_printValue 8 = .ok (.iload_n 2, 1) := by decide +kernel
theorem d_MC_printValue_9 : decode b_MC_printValue 9 = .ok (.invokevirtual 216, 3) := by decide +kernel
theorem d_MC_printValue_12 : decode b_MC_printValue 12 = .ok (.goto 23, 3) := by decide +kernel
theorem d_MC_printValue_15 : decode b_MC_printValue 15 = .ok (.aload_n 0, 1) := by decide +kernel
theorem d_MC_printValue_16 : decode b_MC_printValue 16 = .ok (.getfield 15, 3) := by decide +kernel
theorem d_MC_printValue_19 : decode b_MC_printValue 19 = .ok (.iload_n 1, 1) := by decide +kernel
theorem d_MC_printValue_20 : decode b_MC_printValue 20 = .ok (.bipush 21, 2) := by decide +kernel
theorem d_MC_printValue_22 : decode b_MC_printValue 22 = .ok (.if_icmp .ne 8, 3) := by decide +kernel
theorem d_MC_printValue_25 : decode b_MC_printValue 25 = .ok (.bipush 116, 2) := by decide +kernel
theorem d_MC_printValue_27 : decode b_MC_printValue 27 = .ok (.goto 5, 3) := by decide +kernel
theorem d_MC_printValue_30 : decode b_MC_printValue 30 = .ok (.bipush 102, 2) := by decide +kernel
theorem d_MC_printValue_32 : decode b_MC_printValue 32 = .ok (.invokevirtual 210, 3) := by decide +kernel
theorem d_MC_printValue_35 : decode b_MC_printValue 35 = .ok (.return_, 1) := by decide +kernel
theorem d_WD_of_0 : decode b_WD_of 0 = .ok (.iload_n 0, 1) := by decide +kernel
theorem d_WD_of_1 : decode b_WD_of 1 = .ok (.i2l, 1) := by decide +kernel
theorem d_WD_of_2 : decode b_WD_of 2 = .ok (.bipush 32, 2) := by decide +kernel
theorem d_WD_of_4 : decode b_WD_of 4 = .ok (.lshl, 1) := by decide +kernel
theorem d_WD_of_5 : decode b_WD_of 5 = .ok (.iload_n 1, 1) := by decide +kernel
theorem d_WD_of_6 : decode b_WD_of 6 = .ok (.i2l, 1) := by decide +kernel
theorem d_WD_of_7 : decode b_WD_of 7 = .ok (.ldc2_w 7, 3) := by decide +kernel
theorem d_WD_of_10 : decode b_WD_of 10 = .ok (.land, 1) := by decide +kernel
theorem d_WD_of_11 : decode b_WD_of 11 = .ok (.lor, 1) := by decide +kernel
theorem d_WD_of_12 : decode b_WD_of 12 = .ok (.lreturn, 1) := by decide +kernel
theorem d_WD_constant_0 : decode b_WD_constant 0 = .ok (.iload_n 0, 1) := by decide +kernel
theorem d_WD_constant_1 : decode b_WD_constant 1 = .ok (.i2l, 1) := by decide +kernel
theorem d_WD_constant_2 : decode b_WD_constant 2 = .ok (.bipush 32, 2) := by decide +kernel
theorem d_WD_constant_4 : decode b_WD_constant 4 = .ok (.lshl, 1) := by decide +kernel
theorem d_WD_constant_5 : decode b_WD_constant 5 = .ok (.lreturn, 1) := by decide +kernel
theorem d_WD_kind_0 : decode b_WD_kind 0 = .ok (.lload_n 0, 1) := by decide +kernel
theorem d_WD_kind_1 : decode b_WD_kind 1 = .ok (.bipush 32, 2) := by decide +kernel
theorem d_WD_kind_3 : decode b_WD_kind 3 = .ok (.lushr, 1) := by decide +kernel
theorem d_WD_kind_4 : decode b_WD_kind 4 = .ok (.l2i, 1) := by decide +kernel
theorem d_WD_kind_5 : decode b_WD_kind 5 = .ok (.ireturn, 1) := by decide +kernel
theorem d_WD_number_0 : decode b_WD_number 0 = .ok (.lload_n 0, 1) := by decide +kernel
theorem d_WD_number_1 : decode b_WD_number 1 = .ok (.l2i, 1) := by decide +kernel
theorem d_WD_number_2 : decode b_WD_number 2 = .ok (.ireturn, 1) := by decide +kernel
theorem d_WD_isCell_0 : decode b_WD_isCell 0 = .ok (.lload_n 0, 1) := by decide +kernel
theorem d_WD_isCell_1 : decode b_WD_isCell 1 = .ok (.bipush 32, 2) := by decide +kernel
theorem d_WD_isCell_3 : decode b_WD_isCell 3 = .ok (.lushr, 1) := by decide +kernel
theorem d_WD_isCell_4 : decode b_WD_isCell 4 = .ok (.l2i, 1) := by decide +kernel
theorem d_WD_isCell_5 : decode b_WD_isCell 5 = .ok (.bipush 23, 2) := by decide +kernel
theorem d_WD_isCell_7 : decode b_WD_isCell 7 = .ok (.if_icmp .ne 7, 3) := by decide +kernel
theorem d_WD_isCell_10 : decode b_WD_isCell 10 = .ok (.iconst 1, 1) := by decide +kernel
theorem d_WD_isCell_11 : decode b_WD_isCell 11 = .ok (.goto 4, 3) := by decide +kernel
theorem d_WD_isCell_14 : decode b_WD_isCell 14 = .ok (.iconst 0, 1) := by decide +kernel
theorem d_WD_isCell_15 : decode b_WD_isCell 15 = .ok (.ireturn, 1) := by decide +kernel
theorem d_MO_init_0 : decode b_MO_init 0 = .ok (.aload_n 0, 1) := by decide +kernel
theorem d_MO_init_1 : decode b_MO_init 1 = .ok (.invokespecial 1, 3) := by decide +kernel
theorem d_MO_init_4 : decode b_MO_init 4 = .ok (.aload_n 0, 1) := by decide +kernel
theorem d_MO_init_5 : decode b_MO_init 5 = .ok (.sipush 240, 3) := by decide +kernel
theorem d_MO_init_8 : decode b_MO_init 8 = .ok (.newarray .int, 2) := by decide +kernel
theorem d_MO_init_10 : decode b_MO_init 10 = .ok (.putfield 7, 3) := by decide +kernel
theorem d_MO_init_13 : decode b_MO_init 13 = .ok (.aload_n 0, 1) := by decide +kernel
theorem d_MO_init_14 : decode b_MO_init 14 = .ok (.bipush 101, 2) := by decide +kernel
theorem d_MO_init_16 : decode b_MO_init 16 = .ok (.newarray .int, 2) := by decide +kernel
theorem d_MO_init_18 : decode b_MO_init 18 = .ok (.putfield 13, 3) := by decide +kernel
theorem d_MO_init_21 : decode b_MO_init 21 = .ok (.aload_n 0, 1) := by decide +kernel
theorem d_MO_init_22 : decode b_MO_init 22 = .ok (.bipush 101, 2) := by decide +kernel
theorem d_MO_init_24 : decode b_MO_init 24 = .ok (.newarray .long, 2) := by decide +kernel
theorem d_MO_init_26 : decode b_MO_init 26 = .ok (.putfield 16, 3) := by decide +kernel
theorem d_MO_init_29 : decode b_MO_init 29 = .ok (.aload_n 0, 1) := by decide +kernel
theorem d_MO_init_30 : decode b_MO_init 30 = .ok (.sipush 2000, 3) := by decide +kernel
theorem d_MO_init_33 : decode b_MO_init 33 = .ok (.newarray .long, 2) := by decide +kernel
theorem d_MO_init_35 : decode b_MO_init 35 = .ok (.putfield 20, 3) := by decide +kernel
theorem d_MO_init_38 : decode b_MO_init 38 = .ok (.aload_n 0, 1) := by decide +kernel
theorem d_MO_init_39 : decode b_MO_init 39 = .ok (.sipush 2000, 3) := by decide +kernel
theorem d_MO_init_42 : decode b_MO_init 42 = .ok (.newarray .long, 2) := by decide +kernel
theorem d_MO_init_44 : decode b_MO_init 44 = .ok (.putfield 23, 3) := by decide +kernel
theorem d_MO_init_47 : decode b_MO_init 47 = .ok (.aload_n 0, 1) := by decide +kernel
theorem d_MO_init_48 : decode b_MO_init 48 = .ok (.sipush 2000, 3) := by decide +kernel
theorem d_MO_init_51 : decode b_MO_init 51 = .ok (.newarray .int, 2) := by decide +kernel
theorem d_MO_init_53 : decode b_MO_init 53 = .ok (.putfield 26, 3) := by decide +kernel
theorem d_MO_init_56 : decode b_MO_init 56 = .ok (.aload_n 0, 1) := by decide +kernel
