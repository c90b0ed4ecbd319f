theorem d_MC_step_33 : decode b_MC_step 33 = .ok (.iinc 2 1, 3) := by decide +kernel
theorem d_MC_step_36 : decode b_MC_step 36 = .ok (.goto (-32), 3) := by decide +kernel
theorem d_MC_step_39 : decode b_MC_step 39 = .ok (.iload_n 1, 1) := by decide +kernel
theorem d_MC_step_40 : decode b_MC_step 40 = .ok (.ifCond .eq 13, 3) := by decide +kernel
theorem d_MC_step_43 : decode b_MC_step 43 = .ok (.aload_n 0, 1) := by decide +kernel
theorem d_MC_step_44 : decode b_MC_step 44 = .ok (.dup, 1) := by decide +kernel
theorem d_MC_step_45 : decode b_MC_step 45 = .ok (.getfield 40, 3) := by decide +kernel
theorem d_MC_step_48 : decode b_MC_step 48 = .ok (.iconst 1, 1) := by decide +kernel
theorem d_MC_step_49 : decode b_MC_step 49 = .ok (.iadd, 1) := by decide +kernel
theorem d_MC_step_50 : decode b_MC_step 50 = .ok (.putfield 40, 3) := by decide +kernel
theorem d_MC_step_53 : decode b_MC_step 53 = .ok (.iload_n 1, 1) := by decide +kernel
theorem d_MC_step_54 : decode b_MC_step 54 = .ok (.ireturn, 1) := by decide +kernel
theorem d_MC_goLeft_0 : decode b_MC_goLeft 0 = .ok (.aload_n 0, 1) := by decide +kernel
theorem d_MC_goLeft_1 : decode b_MC_goLeft 1 = .ok (.getfield 43, 3) := by decide +kernel
theorem d_MC_goLeft_4 : decode b_MC_goLeft 4 = .ok (.sipush 150, 3) := by decide +kernel
theorem d_MC_goLeft_7 : decode b_MC_goLeft 7 = .ok (.if_icmp .ge 56, 3) := by decide +kernel
theorem d_MC_goLeft_10 : decode b_MC_goLeft 10 = .ok (.aload_n 0, 1) := by decide +kernel
theorem d_MC_goLeft_11 : decode b_MC_goLeft 11 = .ok (.getfield 52, 3) := by decide +kernel
theorem d_MC_goLeft_14 : decode b_MC_goLeft 14 = .ok (.invokestatic 98, 3) := by decide +kernel
theorem d_MC_goLeft_17 : decode b_MC_goLeft 17 = .ok (.ifCond .eq 46, 3) := by decide +kernel
theorem d_MC_goLeft_20 : decode b_MC_goLeft 20 = .ok (.aload_n 0, 1) := by decide +kernel
theorem d_MC_goLeft_21 : decode b_MC_goLeft 21 = .ok (.getfield 52, 3) := by decide +kernel
theorem d_MC_goLeft_24 : decode b_MC_goLeft 24 = .ok (.invokestatic 102, 3) := by decide +kernel
theorem d_MC_goLeft_27 : decode b_MC_goLeft 27 = .ok (.istore_n 1, 1) := by decide +kernel
theorem d_MC_goLeft_28 : decode b_MC_goLeft 28 = .ok (.aload_n 0, 1) := by decide +kernel
theorem d_MC_goLeft_29 : decode b_MC_goLeft 29 = .ok (.getfield 19, 3) := by decide +kernel
theorem d_MC_goLeft_32 : decode b_MC_goLeft 32 = .ok (.aload_n 0, 1) := by decide +kernel
theorem d_MC_goLeft_33 : decode b_MC_goLeft 33 = .ok (.getfield 43, 3) := by decide +kernel
theorem d_MC_goLeft_36 : decode b_MC_goLeft 36 = .ok (.iload_n 1, 1) := by decide +kernel
theorem d_MC_goLeft_37 : decode b_MC_goLeft 37 = .ok (.iastore, 1) := by decide +kernel
theorem d_MC_goLeft_38 : decode b_MC_goLeft 38 = .ok (.aload_n 0, 1) := by decide +kernel
theorem d_MC_goLeft_39 : decode b_MC_goLeft 39 = .ok (.dup, 1) := by decide +kernel
theorem d_MC_goLeft_40 : decode b_MC_goLeft 40 = .ok (.getfield 43, 3) := by decide +kernel
theorem d_MC_goLeft_43 : decode b_MC_goLeft 43 = .ok (.iconst 1, 1) := by decide +kernel
theorem d_MC_goLeft_44 : decode b_MC_goLeft 44 = .ok (.iadd, 1) := by decide +kernel
theorem d_MC_goLeft_45 : decode b_MC_goLeft 45 = .ok (.putfield 43, 3) := by decide +kernel
theorem d_MC_goLeft_48 : decode b_MC_goLeft 48 = .ok (.aload_n 0, 1) := by decide +kernel
theorem d_MC_goLeft_49 : decode b_MC_goLeft 49 = .ok (.aload_n 0, 1) := by decide +kernel
theorem d_MC_goLeft_50 : decode b_MC_goLeft 50 = .ok (.getfield 9, 3) := by decide +kernel
theorem d_MC_goLeft_53 : decode b_MC_goLeft 53 = .ok (.iload_n 1, 1) := by decide +kernel
theorem d_MC_goLeft_54 : decode b_MC_goLeft 54 = .ok (.invokevirtual 106, 3) := by decide +kernel
theorem d_MC_goLeft_57 : decode b_MC_goLeft 57 = .ok (.putfield 52, 3) := by decide +kernel
theorem d_MC_goLeft_60 : decode b_MC_goLeft 60 = .ok (.goto (-60), 3) := by decide +kernel
theorem d_MC_goLeft_63 : decode b_MC_goLeft 63 = .ok (.aload_n 0, 1) := by decide +kernel
theorem d_MC_goLeft_64 : decode b_MC_goLeft 64 = .ok (.aload_n 0, 1) := by decide +kernel
theorem d_MC_goLeft_65 : decode b_MC_goLeft 65 = .ok (.getfield 46, 3) := by decide +kernel
theorem d_MC_goLeft_68 : decode b_MC_goLeft 68 = .ok (.aload_n 0, 1) := by decide +kernel
theorem d_MC_goLeft_69 : decode b_MC_goLeft 69 = .ok (.getfield 43, 3) := by decide +kernel
theorem d_MC_goLeft_72 : decode b_MC_goLeft 72 = .ok (.invokestatic 109, 3) := by decide +kernel
theorem d_MC_goLeft_75 : decode b_MC_goLeft 75 = .ok (.putfield 46, 3) := by decide +kernel
theorem d_MC_goLeft_78 : decode b_MC_goLeft 78 = .ok (.aload_n 0, 1) := by decide +kernel
theorem d_MC_goLeft_79 : decode b_MC_goLeft 79 = .ok (.getfield 52, 3) := by decide +kernel
theorem d_MC_goLeft_82 : decode b_MC_goLeft 82 = .ok (.invokestatic 98, 3) := by decide +kernel
theorem d_MC_goLeft_85 : decode b_MC_goLeft 85 = .ok (.ifCond .eq 11, 3) := by decide +kernel
theorem d_MC_goLeft_88 : decode b_MC_goLeft 88 = .ok (.aload_n 0, 1) := by decide +kernel
theorem d_MC_goLeft_89 : decode b_MC_goLeft 89 = .ok (.iconst 4, 1) := by decide +kernel
theorem d_MC_goLeft_90 : decode b_MC_goLeft 90 = .ok (.invokevirtual 115, 3) := by decide +kernel
theorem d_MC_goLeft_93 : decode b_MC_goLeft 93 = .ok (.ifCond .eq 7, 3) := by decide +kernel
theorem d_MC_goLeft_96 : decode b_MC_goLeft 96 = .ok (.iconst 1, 1) := by decide +kernel
theorem d_MC_goLeft_97 : decode b_MC_goLeft 97 = .ok (.goto 4, 3) := by decide +kernel
theorem d_MC_goLeft_100 : decode b_MC_goLeft 100 = .ok (.iconst 0, 1) := by decide +kernel
theorem d_MC_goLeft_101 : decode b_MC_goLeft 101 = .ok (.ireturn, 1) := by decide +kernel
theorem d_MC_halt_0 : decode b_MC_halt 0 = .ok (.aload_n 0, 1) := by decide +kernel
theorem d_MC_halt_1 : decode b_MC_halt 1 = .ok (.iload_n 1, 1) := by decide +kernel
theorem d_MC_halt_2 : decode b_MC_halt 2 = .ok (.putfield 36, 3) := by decide +kernel
theorem d_MC_halt_5 : decode b_MC_halt 5 = .ok (.iconst 0, 1) := by decide +kernel
theorem d_MC_halt_6 : decode b_MC_halt 6 = .ok (.ireturn, 1) := by decide +kernel
theorem d_MC_act_0 : decode b_MC_act 0 = .ok (.aload_n 0, 1) := by decide +kernel
theorem d_MC_act_1 : decode b_MC_act 1 = .ok (.getfield 52, 3) := by decide +kernel
theorem d_MC_act_4 : decode b_MC_act 4 = .ok (.invokestatic 119, 3) := by decide +kernel
theorem d_MC_act_7 : decode b_MC_act 7 = .ok (.istore_n 1, 1) := by decide +kernel
theorem d_MC_act_8 : decode b_MC_act 8 = .ok (.aload_n 0, 1) := by decide +kernel
theorem d_MC_act_9 : decode b_MC_act 9 = .ok (.getfield 43, 3) := by decide +kernel
theorem d_MC_act_12 : decode b_MC_act 12 = .ok (.aload_n 0, 1) := by decide +kernel
theorem d_MC_act_13 : decode b_MC_act 13 = .ok (.getfield 23, 3) := by decide +kernel
theorem d_MC_act_16 : decode b_MC_act 16 = .ok (.aload_n 0, 1) := by decide +kernel
theorem d_MC_act_17 : decode b_MC_act 17 = .ok (.getfield 49, 3) := by decide +kernel
theorem d_MC_act_20 : decode b_MC_act 20 = .ok (.iaload, 1) := by decide +kernel
theorem d_MC_act_21 : decode b_MC_act 21 = .ok (.isub, 1) := by decide +kernel
theorem d_MC_act_22 : decode b_MC_act 22 = .ok (.istore_n 2, 1) := by decide +kernel
theorem d_MC_act_23 : decode b_MC_act 23 = .ok (.iload_n 1, 1) := by decide +kernel
theorem d_MC_act_24 : decode b_MC_act 24 = .ok (.iconst 1, 1) := by decide +kernel
theorem d_MC_act_25 : decode b_MC_act 25 = .ok (.if_icmp .ne 23, 3) := by decide +kernel
theorem d_MC_act_28 : decode b_MC_act 28 = .ok (.aload_n 0, 1) := by decide +kernel
theorem d_MC_act_29 : decode b_MC_act 29 = .ok (.aload_n 0, 1) := by decide +kernel
theorem d_MC_act_30 : decode b_MC_act 30 = .ok (.getfield 9, 3) := by decide +kernel
theorem d_MC_act_33 : decode b_MC_act 33 = .ok (.aload_n 0, 1) := by decide +kernel
theorem d_MC_act_34 : decode b_MC_act 34 = .ok (.getfield 52, 3) := by decide +kernel
theorem d_MC_act_37 : decode b_MC_act 37 = .ok (.invokestatic 102, 3) := by decide +kernel
theorem d_MC_act_40 : decode b_MC_act 40 = .ok (.invokevirtual 122, 3) := by decide +kernel
theorem d_MC_act_43 : decode b_MC_act 43 = .ok (.putfield 52, 3) := by decide +kernel
theorem d_MC_act_46 : decode b_MC_act 46 = .ok (.iconst 1, 1) := by decide +kernel
theorem d_MC_act_47 : decode b_MC_act 47 = .ok (.ireturn, 1) := by decide +kernel
theorem d_MC_act_48 : decode b_MC_act 48 = .ok (.iload_n 1, 1) := by decide +kernel
theorem d_MC_act_49 : decode b_MC_act 49 = .ok (.ifCond .lt 11, 3) := by decide +kernel
theorem d_MC_act_52 : decode b_MC_act 52 = .ok (.iload_n 1, 1) := by decide +kernel
theorem d_MC_act_53 : decode b_MC_act 53 = .ok (.getstatic 125, 3) := by decide +kernel
theorem d_MC_act_56 : decode b_MC_act 56 = .ok (.arraylength, 1) := by decide +kernel
theorem d_MC_act_57 : decode b_MC_act 57 = .ok (.if_icmp .lt 9, 3) := by decide +kernel
theorem d_MC_act_60 : decode b_MC_act 60 = .ok (.aload_n 0, 1) := by decide +kernel
theorem d_MC_act_61 : decode b_MC_act 61 = .ok (.iconst 2, 1) := by decide +kernel
theorem d_MC_act_62 : decode b_MC_act 62 = .ok (.invokevirtual 115, 3) := by decide +kernel
theorem d_MC_act_65 : decode b_MC_act 65 = .ok (.ireturn, 1) := by decide +kernel
theorem d_MC_act_66 : decode b_MC_act 66 = .ok (.iload_n 1, 1) := by decide +kernel
theorem d_MC_act_67 : decode b_MC_act 67 = .ok (.invokestatic 128, 3) := by decide +kernel
theorem d_MC_act_70 : decode b_MC_act 70 = .ok (.ifCond .ne 9, 3) := by decide +kernel
theorem d_MC_act_73 : decode b_MC_act 73 = .ok (.iload_n 1, 1) := by decide +kernel
theorem d_MC_act_74 : decode b_MC_act 74 = .ok (.bipush 16, 2) := by decide +kernel
theorem d_MC_act_76 : decode b_MC_act 76 = .ok (.if_icmp .ne 27, 3) := by decide +kernel
theorem d_MC_act_79 : decode b_MC_act 79 = .ok (.iload_n 2, 1) := by decide +kernel
theorem d_MC_act_80 : decode b_MC_act 80 = .ok (.getstatic 125, 3) := by decide +kernel
theorem d_MC_act_83 : decode b_MC_act 83 = .ok (.iload_n 1, 1) := by decide +kernel
theorem d_MC_act_84 : decode b_MC_act 84 = .ok (.iaload, 1) := by decide +kernel
theorem d_MC_act_85 : decode b_MC_act 85 = .ok (.if_icmp .le 11, 3) := by decide +kernel
theorem d_MC_act_88 : decode b_MC_act 88 = .ok (.aload_n 0, 1) := by decide +kernel
theorem d_MC_act_89 : decode b_MC_act 89 = .ok (.iconst 2, 1) := by decide +kernel
theorem d_MC_act_90 : decode b_MC_act 90 = .ok (.invokevirtual 115, 3) := by decide +kernel
theorem d_MC_act_93 : decode b_MC_act 93 = .ok (.goto 9, 3) := by decide +kernel
theorem d_MC_act_96 : decode b_MC_act 96 = .ok (.aload_n 0, 1) := by decide +kernel
theorem d_MC_act_97 : decode b_MC_act 97 = .ok (.iload_n 1, 1) := by decide +kernel
theorem d_MC_act_98 : decode b_MC_act 98 = .ok (.iload_n 2, 1) := by decide +kernel
theorem d_MC_act_99 : decode b_MC_act 99 = .ok (.invokevirtual 131, 3) := by decide +kernel
theorem d_MC_act_102 : decode b_MC_act 102 = .ok (.ireturn, 1) := by decide +kernel
theorem d_MC_act_103 : decode b_MC_act 103 = .ok (.iload_n 2, 1) := by decide +kernel
theorem d_MC_act_104 : decode b_MC_act 104 = .ok (.getstatic 125, 3) := by decide +kernel
theorem d_MC_act_107 : decode b_MC_act 107 = .ok (.iload_n 1, 1) := by decide +kernel
theorem d_MC_act_108 : decode b_MC_act 108 = .ok (.iaload, 1) := by decide +kernel
theorem d_MC_act_109 : decode b_MC_act 109 = .ok (.if_icmp .ge 10, 3) := by decide +kernel
theorem d_MC_act_112 : decode b_MC_act 112 = .ok (.aload_n 0, 1) := by decide +kernel
theorem d_MC_act_113 : decode b_MC_act 113 = .ok (.iload_n 1, 1) := by decide +kernel
theorem d_MC_act_114 : decode b_MC_act 114 = .ok (.iload_n 2, 1) := by decide +kernel
theorem d_MC_act_115 : decode b_MC_act 115 = .ok (.invokevirtual 131, 3) := by decide +kernel
theorem d_MC_act_118 : decode b_MC_act 118 = .ok (.ireturn, 1) := by decide +kernel
theorem d_MC_act_119 : decode b_MC_act 119 = .ok (.iload_n 1, 1) := by decide +kernel
theorem d_MC_act_120 : decode b_MC_act 120 = .ok (.iconst 2, 1) := by decide +kernel
theorem d_MC_act_121 : decode b_MC_act 121 = .ok (.if_icmp .ne 24, 3) := by decide +kernel
theorem d_MC_act_124 : decode b_MC_act 124 = .ok (.aload_n 0, 1) := by decide +kernel
theorem d_MC_act_125 : decode b_MC_act 125 = .ok (.aload_n 0, 1) := by decide +kernel
theorem d_MC_act_126 : decode b_MC_act 126 = .ok (.iconst 1, 1) := by decide +kernel
theorem d_MC_act_127 : decode b_MC_act 127 = .ok (.invokevirtual 135, 3) := by decide +kernel
theorem d_MC_act_130 : decode b_MC_act 130 = .ok (.putfield 52, 3) := by decide +kernel
theorem d_MC_act_133 : decode b_MC_act 133 = .ok (.aload_n 0, 1) := by decide +kernel
theorem d_MC_act_134 : decode b_MC_act 134 = .ok (.dup, 1) := by decide +kernel
theorem d_MC_act_135 : decode b_MC_act 135 = .ok (.getfield 43, 3) := by decide +kernel
theorem d_MC_act_138 : decode b_MC_act 138 = .ok (.iconst 1, 1) := by decide +kernel
theorem d_MC_act_139 : decode b_MC_act 139 = .ok (.isub, 1) := by decide +kernel
theorem d_MC_act_140 : decode b_MC_act 140 = .ok (.putfield 43, 3) := by decide +kernel
theorem d_MC_act_143 : decode b_MC_act 143 = .ok (.iconst 1, 1) := by decide +kernel
theorem d_MC_act_144 : decode b_MC_act 144 = .ok (.ireturn, 1) := by decide +kernel
theorem d_MC_act_145 : decode b_MC_act 145 = .ok (.iload_n 1, 1) := by decide +kernel
theorem d_MC_act_146 : decode b_MC_act 146 = .ok (.bipush 9, 2) := by decide +kernel
theorem d_MC_act_148 : decode b_MC_act 148 = .ok (.if_icmp .gt 11, 3) := by decide +kernel
theorem d_MC_act_151 : decode b_MC_act 151 = .ok (.aload_n 0, 1) := by decide +kernel
theorem d_MC_act_152 : decode b_MC_act 152 = .ok (.iload_n 1, 1) := by decide +kernel
theorem d_MC_act_153 : decode b_MC_act 153 = .ok (.invokevirtual 138, 3) := by decide +kernel
theorem d_MC_act_156 : decode b_MC_act 156 = .ok (.goto 10, 3) := by decide +kernel
theorem d_MC_act_159 : decode b_MC_act 159 = .ok (.aload_n 0, 1) := by decide +kernel
theorem d_MC_act_160 : decode b_MC_act 160 = .ok (.iload_n 1, 1) := by decide +kernel
theorem d_MC_act_161 : decode b_MC_act 161 = .ok (.iconst 0, 1) := by decide +kernel
theorem d_MC_act_162 : decode b_MC_act 162 = .ok (.iconst 0, 1) := by decide +kernel
theorem d_MC_act_163 : decode b_MC_act 163 = .ok (.invokevirtual 141, 3) := by decide +kernel
theorem d_MC_act_166 : decode b_MC_act 166 = .ok (.ireturn, 1) := by decide +kernel
theorem d_MC_isPlain_0 : decode b_MC_isPlain 0 = .ok (.iload_n 0, 1) := by decide +kernel
theorem d_MC_isPlain_1 : decode b_MC_isPlain 1 = .ok (.invokestatic 145, 3) := by decide +kernel
theorem d_MC_isPlain_4 : decode b_MC_isPlain 4 = .ok (.ifCond .ne 9, 3) := by decide +kernel
theorem d_MC_isPlain_7 : decode b_MC_isPlain 7 = .ok (.iload_n 0, 1) := by decide +kernel
theorem d_MC_isPlain_8 : decode b_MC_isPlain 8 = .ok (.bipush 17, 2) := by decide +kernel
theorem d_MC_isPlain_10 : decode b_MC_isPlain 10 = .ok (.if_icmp .ne 7, 3) := by decide +kernel
theorem d_MC_isPlain_13 : decode b_MC_isPlain 13 = .ok (.iconst 1, 1) := by decide +kernel
theorem d_MC_isPlain_14 : decode b_MC_isPlain 14 = .ok (.goto 4, 3) := by decide +kernel
theorem d_MC_isPlain_17 : decode b_MC_isPlain 17 = .ok (.iconst 0, 1) := by decide +kernel
theorem d_MC_isPlain_18 : decode b_MC_isPlain 18 = .ok (.ireturn, 1) := by decide +kernel
theorem d_MC_isPrintable_0 : decode b_MC_isPrintable 0 = .ok (.iload_n 0, 1) := by decide +kernel
theorem d_MC_isPrintable_1 : decode b_MC_isPrintable 1 = .ok (.ifCond .eq 15, 3) := by decide +kernel
theorem d_MC_isPrintable_4 : decode b_MC_isPrintable 4 = .ok (.iload_n 0, 1) := by decide +kernel
theorem d_MC_isPrintable_5 : decode b_MC_isPrintable 5 = .ok (.bipush 21, 2) := by decide +kernel
theorem d_MC_isPrintable_7 : decode b_MC_isPrintable 7 = .ok (.if_icmp .eq 9, 3) := by decide +kernel
theorem d_MC_isPrintable_10 : decode b_MC_isPrintable 10 = .ok (.iload_n 0, 1) := by decide +kernel
theorem d_MC_isPrintable_11 : decode b_MC_isPrintable 11 = .ok (.bipush 22, 2) := by decide +kernel
theorem d_MC_isPrintable_13 : decode b_MC_isPrintable 13 = .ok (.if_icmp .ne 7, 3) := by decide +kernel
theorem d_MC_isPrintable_16 : decode b_MC_isPrintable 16 = .ok (.iconst 1, 1) := by decide +kernel
theorem d_MC_isPrintable_17 : decode b_MC_isPrintable 17 = .ok (.goto 4, 3) := by decide +kernel
theorem d_MC_isPrintable_20 : decode b_MC_isPrintable 20 = .ok (.iconst 0, 1) := by decide +kernel
theorem d_MC_isPrintable_21 : decode b_MC_isPrintable 21 = .ok (.ireturn, 1) := by decide +kernel
theorem d_MC_argument_0 : decode b_MC_argument 0 = .ok (.aload_n 0, 1) := by decide +kernel
theorem d_MC_argument_1 : decode b_MC_argument 1 = .ok (.getfield 9, 3) := by decide +kernel
theorem d_MC_argument_4 : decode b_MC_argument 4 = .ok (.aload_n 0, 1) := by decide +kernel
theorem d_MC_argument_5 : decode b_MC_argument 5 = .ok (.getfield 19, 3) := by decide +kernel
theorem d_MC_argument_8 : decode b_MC_argument 8 = .ok (.aload_n 0, 1) := by decide +kernel
theorem d_MC_argument_9 : decode b_MC_argument 9 = .ok (.getfield 43, 3) := by decide +kernel
theorem d_MC_argument_12 : decode b_MC_argument 12 = .ok (.iload_n 1, 1) := by decide +kernel
theorem d_MC_argument_13 : decode b_MC_argument 13 = .ok (.isub, 1) := by decide +kernel
theorem d_MC_argument_14 : decode b_MC_argument 14 = .ok (.iaload, 1) := by decide +kernel
theorem d_MC_argument_15 : decode b_MC_argument 15 = .ok (.invokevirtual 148, 3) := by decide +kernel
theorem d_MC_argument_18 : decode b_MC_argument 18 = .ok (.lreturn, 1) := by decide +kernel
theorem d_MC_rewrite_0 : decode b_MC_rewrite 0 = .ok (.getstatic 151, 3) := by decide +kernel
theorem d_MC_rewrite_3 : decode b_MC_rewrite 3 = .ok (.iload_n 1, 1) := by decide +kernel
theorem d_MC_rewrite_4 : decode b_MC_rewrite 4 = .ok (.iaload, 1) := by decide +kernel
theorem d_MC_rewrite_5 : decode b_MC_rewrite 5 = .ok (.istore_n 2, 1) := by decide +kernel
theorem d_MC_rewrite_6 : decode b_MC_rewrite 6 = .ok (.aload_n 0, 1) := by decide +kernel
theorem d_MC_rewrite_7 : decode b_MC_rewrite 7 = .ok (.getfield 9, 3) := by decide +kernel
theorem d_MC_rewrite_10 : decode b_MC_rewrite 10 = .ok (.invokevirtual 154, 3) := by decide +kernel
theorem d_MC_rewrite_13 : decode b_MC_rewrite 13 = .ok (.iload_n 2, 1) := by decide +kernel
theorem d_MC_rewrite_14 : decode b_MC_rewrite 14 = .ok (.if_icmp .ge 15, 3) := by decide +kernel
theorem d_MC_rewrite_17 : decode b_MC_rewrite 17 = .ok (.aload_n 0, 1) := by decide +kernel
theorem d_MC_rewrite_18 : decode b_MC_rewrite 18 = .ok (.invokevirtual 157, 3) := by decide +kernel
theorem d_MC_rewrite_21 : decode b_MC_rewrite 21 = .ok (.pop, 1) := by decide +kernel
theorem d_MC_rewrite_22 : decode b_MC_rewrite 22 = .ok (.aload_n 0, 1) := by decide +kernel
theorem d_MC_rewrite_23 : decode b_MC_rewrite 23 = .ok (.getfield 9, 3) := by decide +kernel
theorem d_MC_rewrite_26 : decode b_MC_rewrite 26 = .ok (.invokevirtual 160, 3) := by decide +kernel
theorem d_MC_rewrite_29 : decode b_MC_rewrite 29 = .ok (.aload_n 0, 1) := by decide +kernel
theorem d_MC_rewrite_30 : decode b_MC_rewrite 30 = .ok (.getfield 9, 3) := by decide +kernel
theorem d_MC_rewrite_33 : decode b_MC_rewrite 33 = .ok (.invokevirtual 154, 3) := by decide +kernel
theorem d_MC_rewrite_36 : decode b_MC_rewrite 36 = .ok (.iload_n 2, 1) := by decide +kernel
theorem d_MC_rewrite_37 : decode b_MC_rewrite 37 = .ok (.if_icmp .ge 9, 3) := by decide +kernel
theorem d_MC_rewrite_40 : decode b_MC_rewrite 40 = .ok (.aload_n 0, 1) := by decide +kernel
theorem d_MC_rewrite_41 : decode b_MC_rewrite 41 = .ok (.iconst 3, 1) := by decide +kernel
theorem d_MC_rewrite_42 : decode b_MC_rewrite 42 = .ok (.invokevirtual 115, 3) := by decide +kernel
theorem d_MC_rewrite_45 : decode b_MC_rewrite 45 = .ok (.ireturn, 1) := by decide +kernel
theorem d_MC_rewrite_46 : decode b_MC_rewrite 46 = .ok (.aload_n 0, 1) := by decide +kernel
theorem d_MC_rewrite_47 : decode b_MC_rewrite 47 = .ok (.iconst 1, 1) := by decide +kernel
theorem d_MC_rewrite_48 : decode b_MC_rewrite 48 = .ok (.invokevirtual 135, 3) := by decide +kernel
theorem d_MC_rewrite_51 : decode b_MC_rewrite 51 = .ok (.lstore_n 3, 1) := by decide +kernel
theorem d_MC_rewrite_52 : decode b_MC_rewrite 52 = .ok (.aload_n 0, 1) := by decide +kernel
theorem d_MC_rewrite_53 : decode b_MC_rewrite 53 = .ok (.iconst 2, 1) := by decide +kernel
theorem d_MC_rewrite_54 : decode b_MC_rewrite 54 = .ok (.invokevirtual 135, 3) := by decide +kernel
theorem d_MC_rewrite_57 : decode b_MC_rewrite 57 = .ok (.lstore 5, 2) := by decide +kernel
theorem d_MC_rewrite_59 : decode b_MC_rewrite 59 = .ok (.getstatic 125, 3) := by decide +kernel
theorem d_MC_rewrite_62 : decode b_MC_rewrite 62 = .ok (.iload_n 1, 1) := by decide +kernel
theorem d_MC_rewrite_63 : decode b_MC_rewrite 63 = .ok (.iaload, 1) := by decide +kernel
theorem d_MC_rewrite_64 : decode b_MC_rewrite 64 = .ok (.iconst 2, 1) := by decide +kernel
theorem d_MC_rewrite_65 : decode b_MC_rewrite 65 = .ok (.if_icmp .le 11, 3) := by decide +kernel
theorem d_MC_rewrite_68 : decode b_MC_rewrite 68 = .ok (.aload_n 0, 1) := by decide +kernel
theorem d_MC_rewrite_69 : decode b_MC_rewrite 69 = .ok (.iconst 3, 1) := by decide +kernel
theorem d_MC_rewrite_70 : decode b_MC_rewrite 70 = .ok (.invokevirtual 135, 3) := by decide +kernel
theorem d_MC_rewrite_73 : decode b_MC_rewrite 73 = .ok (.goto 4, 3) := by decide +kernel
theorem d_MC_rewrite_76 : decode b_MC_rewrite 76 = .ok (.lconst 0, 1) := by decide +kernel
theorem d_MC_rewrite_77 : decode b_MC_rewrite 77 = .ok (.lstore 7, 2) := by decide +kernel
theorem d_MC_rewrite_79 : decode b_MC_rewrite 79 = .ok (.getstatic 125, 3) := by decide +kernel
theorem d_MC_rewrite_82 : decode b_MC_rewrite 82 = .ok (.iload_n 1, 1) := by decide +kernel
theorem d_MC_rewrite_83 : decode b_MC_rewrite 83 = .ok (.iaload, 1) := by decide +kernel
theorem d_MC_rewrite_84 : decode b_MC_rewrite 84 = .ok (.iconst 3, 1) := by decide +kernel
theorem d_MC_rewrite_85 : decode b_MC_rewrite 85 = .ok (.if_icmp .le 11, 3) := by decide +kernel
theorem d_MC_rewrite_88 : decode b_MC_rewrite 88 = .ok (.aload_n 0, 1) := by decide +kernel
theorem d_MC_rewrite_89 : decode b_MC_rewrite 89 = .ok (.iconst 4, 1) := by decide +kernel
theorem d_MC_rewrite_90 : decode b_MC_rewrite 90 = .ok (.invokevirtual 135, 3) := by decide +kernel
theorem d_MC_rewrite_93 : decode b_MC_rewrite 93 = .ok (.goto 4, 3) := by decide +kernel
theorem d_MC_rewrite_96 : decode b_MC_rewrite 96 = .ok (.lconst 0, 1) := by decide +kernel
theorem d_MC_rewrite_97 : decode b_MC_rewrite 97 = .ok (.lstore 9, 2) := by decide +kernel
theorem d_MC_rewrite_99 : decode b_MC_rewrite 99 = .ok (.iload_n 1, 1) := by decide +kernel
theorem d_MC_rewrite_100 : decode b_MC_rewrite 100 = .ok (.tableswitch 176 3 8 #[40, 50, 77, 95, 113, 149], 40) := by decide +kernel
theorem d_MC_rewrite_140 : decode b_MC_rewrite 140 = .ok (.aload_n 0, 1) := by decide +kernel
theorem d_MC_rewrite_141 : decode b_MC_rewrite 141 = .ok (.iconst 2, 1) := by decide +kernel
theorem d_MC_rewrite_142 : decode b_MC_rewrite 142 = .ok (.ldc2_w 163, 3) := by decide +kernel
theorem d_MC_rewrite_145 : decode b_MC_rewrite 145 = .ok (.lload_n 3, 1) := by decide +kernel
theorem d_MC_rewrite_146 : decode b_MC_rewrite 146 = .ok (.invokevirtual 165, 3) := by decide +kernel
theorem d_MC_rewrite_149 : decode b_MC_rewrite 149 = .ok (.ireturn, 1) := by decide +kernel
theorem d_MC_rewrite_150 : decode b_MC_rewrite 150 = .ok (.aload_n 0, 1) := by decide +kernel
theorem d_MC_rewrite_151 : decode b_MC_rewrite 151 = .ok (.iconst 3, 1) := by decide +kernel
theorem d_MC_rewrite_152 : decode b_MC_rewrite 152 = .ok (.aload_n 0, 1) := by decide +kernel
theorem d_MC_rewrite_153 : decode b_MC_rewrite 153 = .ok (.getfield 9, 3) := by decide +kernel
theorem d_MC_rewrite_156 : decode b_MC_rewrite 156 = .ok (.lload_n 3, 1) := by decide +kernel
theorem d_MC_rewrite_157 : decode b_MC_rewrite 157 = .ok (.lload 7, 2) := by decide +kernel
theorem d_MC_rewrite_159 : decode b_MC_rewrite 159 = .ok (.invokevirtual 169, 3) := by decide +kernel
theorem d_MC_rewrite_162 : decode b_MC_rewrite 162 = .ok (.aload_n 0, 1) := by decide +kernel
theorem d_MC_rewrite_163 : decode b_MC_rewrite 163 = .ok (.getfield 9, 3) := by decide +kernel
theorem d_MC_rewrite_166 : decode b_MC_rewrite 166 = .ok (.lload 5, 2) := by decide +kernel
theorem d_MC_rewrite_168 : decode b_MC_rewrite 168 = .ok (.lload 7, 2) := by decide +kernel
theorem d_MC_rewrite_170 : decode b_MC_rewrite 170 = .ok (.invokevirtual 169, 3) := by decide +kernel
theorem d_MC_rewrite_173 : decode b_MC_rewrite 173 = .ok (.invokevirtual 165, 3) := by decide +kernel
theorem d_MC_rewrite_176 : decode b_MC_rewrite 176 = .ok (.ireturn, 1) := by decide +kernel
theorem d_MC_rewrite_177 : decode b_MC_rewrite 177 = .ok (.aload_n 0, 1) := by decide +kernel
theorem d_MC_rewrite_178 : decode b_MC_rewrite 178 = .ok (.iconst 3, 1) := by decide +kernel
theorem d_MC_rewrite_179 : decode b_MC_rewrite 179 = .ok (.lload_n 3, 1) := by decide +kernel
theorem d_MC_rewrite_180 : decode b_MC_rewrite 180 = .ok (.aload_n 0, 1) := by decide +kernel
theorem d_MC_rewrite_181 : decode b_MC_rewrite 181 = .ok (.getfield 9, 3) := by decide +kernel
theorem d_MC_rewrite_184 : decode b_MC_rewrite 184 = .ok (.lload 5, 2) := by decide +kernel
theorem d_MC_rewrite_186 : decode b_MC_rewrite 186 = .ok (.lload 7, 2) := by decide +kernel
theorem d_MC_rewrite_188 : decode b_MC_rewrite 188 = .ok (.invokevirtual 169, 3) := by decide +kernel
theorem d_MC_rewrite_191 : decode b_MC_rewrite 191 = .ok (.invokevirtual 165, 3) := by decide +kernel
theorem d_MC_rewrite_194 : decode b_MC_rewrite 194 = .ok (.ireturn, 1) := by decide +kernel
theorem d_MC_rewrite_195 : decode b_MC_rewrite 195 = .ok (.aload_n 0, 1) := by decide +kernel
theorem d_MC_rewrite_196 : decode b_MC_rewrite 196 = .ok (.iconst 3, 1) := by decide +kernel
theorem d_MC_rewrite_197 : decode b_MC_rewrite 197 = .ok (.aload_n 0, 1) := by decide +kernel
theorem d_MC_rewrite_198 : decode b_MC_rewrite 198 = .ok (.getfield 9, 3) := by decide +kernel
theorem d_MC_rewrite_201 : decode b_MC_rewrite 201 = .ok (.lload_n 3, 1) := by decide +kernel
theorem d_MC_rewrite_202 : decode b_MC_rewrite 202 = .ok (.lload 7, 2) := by decide +kernel
theorem d_MC_rewrite_204 : decode b_MC_rewrite 204 = .ok (.invokevirtual 169, 3) := by decide +kernel
theorem d_MC_rewrite_207 : decode b_MC_rewrite 207 = .ok (.lload 5, 2) := by decide +kernel
theorem d_MC_rewrite_209 : decode b_MC_rewrite 209 = .ok (.invokevirtual 165, 3) := by decide +kernel
theorem d_MC_rewrite_212 : decode b_MC_rewrite 212 = .ok (.ireturn, 1) := by decide +kernel
theorem d_MC_rewrite_213 : decode b_MC_rewrite 213 = .ok (.aload_n 0, 1) := by decide +kernel
theorem d_MC_rewrite_214 : decode b_MC_rewrite 214 = .ok (.iconst 4, 1) := by decide +kernel
theorem d_MC_rewrite_215 : decode b_MC_rewrite 215 = .ok (.aload_n 0, 1) := by decide +kernel
theorem d_MC_rewrite_216 : decode b_MC_rewrite 216 = .ok (.getfield 9, 3) := by decide +kernel
theorem d_MC_rewrite_219 : decode b_MC_rewrite 219 = .ok (.lload_n 3, 1) := by decide +kernel
theorem d_MC_rewrite_220 : decode b_MC_rewrite 220 = .ok (.aload_n 0, 1) := by decide +kernel
theorem d_MC_rewrite_221 : decode b_MC_rewrite 221 = .ok (.getfield 9, 3) := by decide +kernel
theorem d_MC_rewrite_224 : decode b_MC_rewrite 224 = .ok (.lload 5, 2) := by decide +kernel
theorem d_MC_rewrite_226 : decode b_MC_rewrite 226 = .ok (.lload 9, 2) := by decide +kernel
theorem d_MC_rewrite_228 : decode b_MC_rewrite 228 = .ok (.invokevirtual 169, 3) := by decide +kernel
theorem d_MC_rewrite_231 : decode b_MC_rewrite 231 = .ok (.invokevirtual 169, 3) := by decide +kernel
theorem d_MC_rewrite_234 : decode b_MC_rewrite 234 = .ok (.aload_n 0, 1) := by decide +kernel
theorem d_MC_rewrite_235 : decode b_MC_rewrite 235 = .ok (.getfield 9, 3) := by decide +kernel
theorem d_MC_rewrite_238 : decode b_MC_rewrite 238 = .ok (.lload 7, 2) := by decide +kernel
theorem d_MC_rewrite_240 : decode b_MC_rewrite 240 = .ok (.lload 9, 2) := by decide +kernel
theorem d_MC_rewrite_242 : decode b_MC_rewrite 242 = .ok (.invokevirtual 169, 3) := by decide +kernel
theorem d_MC_rewrite_245 : decode b_MC_rewrite 245 = .ok (.invokevirtual 165, 3) := by decide +kernel
theorem d_MC_rewrite_248 : decode b_MC_rewrite 248 = .ok (.ireturn, 1) := by decide +kernel
theorem d_MC_rewrite_249 : decode b_MC_rewrite 249 = .ok (.aload_n 0, 1) := by decide +kernel
theorem d_MC_rewrite_250 : decode b_MC_rewrite 250 = .ok (.iconst 4, 1) := by decide +kernel
theorem d_MC_rewrite_251 : decode b_MC_rewrite 251 = .ok (.aload_n 0, 1) := by decide +kernel
theorem d_MC_rewrite_252 : decode b_MC_rewrite 252 = .ok (.getfield 9, 3) := by decide +kernel
theorem d_MC_rewrite_255 : decode b_MC_rewrite 255 = .ok (.lload_n 3, 1) := by decide +kernel
theorem d_MC_rewrite_256 : decode b_MC_rewrite 256 = .ok (.lload 5, 2) := by decide +kernel
theorem d_MC_rewrite_258 : decode b_MC_rewrite 258 = .ok (.invokevirtual 169, 3) := by decide +kernel
theorem d_MC_rewrite_261 : decode b_MC_rewrite 261 = .ok (.aload_n 0, 1) := by decide +kernel
theorem d_MC_rewrite_262 : decode b_MC_rewrite 262 = .ok (.getfield 9, 3) := by decide +kernel
theorem d_MC_rewrite_265 : decode b_MC_rewrite 265 = .ok (.lload 7, 2) := by decide +kernel
theorem d_MC_rewrite_267 : decode b_MC_rewrite 267 = .ok (.lload 9, 2) := by decide +kernel
theorem d_MC_rewrite_269 : decode b_MC_rewrite 269 = .ok (.invokevirtual 169, 3) := by decide +kernel
theorem d_MC_rewrite_272 : decode b_MC_rewrite 272 = .ok (.invokevirtual 165, 3) := by decide +kernel
theorem d_MC_rewrite_275 : decode b_MC_rewrite 275 = .ok (.ireturn, 1) := by decide +kernel
theorem d_MC_rewrite_276 : decode b_MC_rewrite 276 = .ok (.aload_n 0, 1) := by decide +kernel
theorem d_MC_rewrite_277 : decode b_MC_rewrite 277 = .ok (.iconst 4, 1) := by decide +kernel
theorem d_MC_rewrite_278 : decode b_MC_rewrite 278 = .ok (.aload_n 0, 1) := by decide +kernel
theorem d_MC_rewrite_279 : decode b_MC_rewrite 279 = .ok (.getfield 9, 3) := by decide +kernel
theorem d_MC_rewrite_282 : decode b_MC_rewrite 282 = .ok (.lload_n 3, 1) := by decide +kernel
theorem d_MC_rewrite_283 : decode b_MC_rewrite 283 = .ok (.aload_n 0, 1) := by decide +kernel
theorem d_MC_rewrite_284 : decode b_MC_rewrite 284 = .ok (.getfield 9, 3) := by decide +kernel
theorem d_MC_rewrite_287 : decode b_MC_rewrite 287 = .ok (.lload 5, 2) := by decide +kernel
theorem d_MC_rewrite_289 : decode b_MC_rewrite 289 = .ok (.lload 9, 2) := by decide +kernel
theorem d_MC_rewrite_291 : decode b_MC_rewrite 291 = .ok (.invokevirtual 169, 3) := by decide +kernel
theorem d_MC_rewrite_294 : decode b_MC_rewrite 294 = .ok (.invokevirtual 169, 3) := by decide +kernel
theorem d_MC_rewrite_297 : decode b_MC_rewrite 297 = .ok (.lload 7, 2) := by decide +kernel
theorem d_MC_rewrite_299 : decode b_MC_rewrite 299 = .ok (.invokevirtual 165, 3) := by decide +kernel
theorem d_MC_rewrite_302 : decode b_MC_rewrite 302 = .ok (.ireturn, 1) := by decide +kernel
theorem d_MC_overwrite_0 : decode b_MC_overwrite 0 = .ok (.aload_n 0, 1) := by decide +kernel
theorem d_MC_overwrite_1 : decode b_MC_overwrite 1 = .ok (.getfield 43, 3) := by decide +kernel
theorem d_MC_overwrite_4 : decode b_MC_overwrite 4 = .ok (.iload_n 1, 1) := by decide +kernel
theorem d_MC_overwrite_5 : decode b_MC_overwrite 5 = .ok (.isub, 1) := by decide +kernel
theorem d_MC_overwrite_6 : decode b_MC_overwrite 6 = .ok (.istore 6, 2) := by decide +kernel
theorem d_MC_overwrite_8 : decode b_MC_overwrite 8 = .ok (.aload_n 0, 1) := by decide +kernel
theorem d_MC_overwrite_9 : decode b_MC_overwrite 9 = .ok (.getfield 9, 3) := by decide +kernel
theorem d_MC_overwrite_12 : decode b_MC_overwrite 12 = .ok (.aload_n 0, 1) := by decide +kernel
theorem d_MC_overwrite_13 : decode b_MC_overwrite 13 = .ok (.getfield 19, 3) := by decide +kernel
theorem d_MC_overwrite_16 : decode b_MC_overwrite 16 = .ok (.iload 6, 2) := by decide +kernel
theorem d_MC_overwrite_18 : decode b_MC_overwrite 18 = .ok (.iaload, 1) := by decide +kernel
theorem d_MC_overwrite_19 : decode b_MC_overwrite 19 = .ok (.lload_n 2, 1) := by decide +kernel
theorem d_MC_overwrite_20 : decode b_MC_overwrite 20 = .ok (.lload 4, 2) := by decide +kernel
theorem d_MC_overwrite_22 : decode b_MC_overwrite 22 = .ok (.invokevirtual 173, 3) := by decide +kernel
theorem d_MC_overwrite_25 : decode b_MC_overwrite 25 = .ok (.aload_n 0, 1) := by decide +kernel
theorem d_MC_overwrite_26 : decode b_MC_overwrite 26 = .ok (.iload 6, 2) := by decide +kernel
theorem d_MC_overwrite_28 : decode b_MC_overwrite 28 = .ok (.iconst 1, 1) := by decide +kernel
theorem d_MC_overwrite_29 : decode b_MC_overwrite 29 = .ok (.iadd, 1) := by decide +kernel
theorem d_MC_overwrite_30 : decode b_MC_overwrite 30 = .ok (.putfield 43, 3) := by decide +kernel
theorem d_MC_overwrite_33 : decode b_MC_overwrite 33 = .ok (.aload_n 0, 1) := by decide +kernel
theorem d_MC_overwrite_34 : decode b_MC_overwrite 34 = .ok (.lload_n 2, 1) := by decide +kernel
theorem d_MC_overwrite_35 : decode b_MC_overwrite 35 = .ok (.putfield 52, 3) := by decide +kernel
theorem d_MC_overwrite_38 : decode b_MC_overwrite 38 = .ok (.iconst 1, 1) := by decide +kernel
theorem d_MC_overwrite_39 : decode b_MC_overwrite 39 = .ok (.ireturn, 1) := by decide +kernel
theorem d_MC_ask_0 : decode b_MC_ask 0 = .ok (.aload_n 0, 1) := by decide +kernel
theorem d_MC_ask_1 : decode b_MC_ask 1 = .ok (.getfield 49, 3) := by decide +kernel
theorem d_MC_ask_4 : decode b_MC_ask 4 = .ok (.bipush 40, 2) := by decide +kernel
theorem d_MC_ask_6 : decode b_MC_ask 6 = .ok (.if_icmp .lt 9, 3) := by decide +kernel
theorem d_MC_ask_9 : decode b_MC_ask 9 = .ok (.aload_n 0, 1) := by decide +kernel
theorem d_MC_ask_10 : decode b_MC_ask 10 = .ok (.iconst 4, 1) := by decide +kernel
theorem d_MC_ask_11 : decode b_MC_ask 11 = .ok (.invokevirtual 115, 3) := by decide +kernel
theorem d_MC_ask_14 : decode b_MC_ask 14 = .ok (.ireturn, 1) := by decide +kernel
theorem d_MC_ask_15 : decode b_MC_ask 15 = .ok (.aload_n 0, 1) := by decide +kernel
theorem d_MC_ask_16 : decode b_MC_ask 16 = .ok (.iload_n 2, 1) := by decide +kernel
theorem d_MC_ask_17 : decode b_MC_ask 17 = .ok (.ifCond .eq 7, 3) := by decide +kernel
theorem d_MC_ask_20 : decode b_MC_ask 20 = .ok (.iconst 2, 1) := by decide +kernel
theorem d_MC_ask_21 : decode b_MC_ask 21 = .ok (.goto 4, 3) := by decide +kernel
theorem d_MC_ask_24 : decode b_MC_ask 24 = .ok (.iconst 1, 1) := by decide +kernel
theorem d_MC_ask_25 : decode b_MC_ask 25 = .ok (.invokevirtual 135, 3) := by decide +kernel
theorem d_MC_ask_28 : decode b_MC_ask 28 = .ok (.lstore 4, 2) := by decide +kernel
theorem d_MC_ask_30 : decode b_MC_ask 30 = .ok (.aload_n 0, 1) := by decide +kernel
theorem d_MC_ask_31 : decode b_MC_ask 31 = .ok (.dup, 1) := by decide +kernel
theorem d_MC_ask_32 : decode b_MC_ask 32 = .ok (.getfield 49, 3) := by decide +kernel
theorem d_MC_ask_35 : decode b_MC_ask 35 = .ok (.iconst 1, 1) := by decide +kernel
theorem d_MC_ask_36 : decode b_MC_ask 36 = .ok (.iadd, 1) := by decide +kernel
theorem d_MC_ask_37 : decode b_MC_ask 37 = .ok (.putfield 49, 3) := by decide +kernel
theorem d_MC_ask_40 : decode b_MC_ask 40 = .ok (.aload_n 0, 1) := by decide +kernel
theorem d_MC_ask_41 : decode b_MC_ask 41 = .ok (.getfield 23, 3) := by decide +kernel
theorem d_MC_ask_44 : decode b_MC_ask 44 = .ok (.aload_n 0, 1) := by decide +kernel
theorem d_MC_ask_45 : decode b_MC_ask 45 = .ok (.getfield 49, 3) := by decide +kernel
theorem d_MC_ask_48 : decode b_MC_ask 48 = .ok (.aload_n 0, 1) := by decide +kernel
theorem d_MC_ask_49 : decode b_MC_ask 49 = .ok (.getfield 43, 3) := by decide +kernel
theorem d_MC_ask_52 : decode b_MC_ask 52 = .ok (.iastore, 1) := by decide +kernel
theorem d_MC_ask_53 : decode b_MC_ask 53 = .ok (.aload_n 0, 1) := by decide +kernel
theorem d_MC_ask_54 : decode b_MC_ask 54 = .ok (.getfield 26, 3) := by decide +kernel
theorem d_MC_ask_57 : decode b_MC_ask 57 = .ok (.aload_n 0, 1) := by decide +kernel
theorem d_MC_ask_58 : decode b_MC_ask 58 = .ok (.getfield 49, 3) := by decide +kernel
theorem d_MC_ask_61 : decode b_MC_ask 61 = .ok (.iload_n 1, 1) := by decide +kernel
theorem d_MC_ask_62 : decode b_MC_ask 62 = .ok (.iastore, 1) := by decide +kernel
theorem d_MC_ask_63 : decode b_MC_ask 63 = .ok (.aload_n 0, 1) := by decide +kernel
theorem d_MC_ask_64 : decode b_MC_ask 64 = .ok (.getfield 29, 3) := by decide +kernel
theorem d_MC_ask_67 : decode b_MC_ask 67 = .ok (.aload_n 0, 1) := by decide +kernel
theorem d_MC_ask_68 : decode b_MC_ask 68 = .ok (.getfield 49, 3) := by decide +kernel
