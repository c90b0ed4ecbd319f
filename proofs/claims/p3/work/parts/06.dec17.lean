theorem d_MO_letterOut_26 : decode b_MO_letterOut 26 = .ok (.iadd, 1) := by decide +kernel
theorem d_MO_letterOut_27 : decode b_MO_letterOut 27 = .ok (.putfield 364, 3) := by decide +kernel
theorem d_MO_letterOut_30 : decode b_MO_letterOut 30 = .ok (.return_, 1) := by decide +kernel
theorem d_MO_digits_0 : decode b_MO_digits 0 = .ok (.iload_n 1, 1) := by decide +kernel
theorem d_MO_digits_1 : decode b_MO_digits 1 = .ok (.ifCond .ge 9, 3) := by decide +kernel
theorem d_MO_digits_4 : decode b_MO_digits 4 = .ok (.iload_n 1, 1) := by decide +kernel
theorem d_MO_digits_5 : decode b_MO_digits 5 = .ok (.i2l, 1) := by decide +kernel
theorem d_MO_digits_6 : decode b_MO_digits 6 = .ok (.lneg, 1) := by decide +kernel
theorem d_MO_digits_7 : decode b_MO_digits 7 = .ok (.goto 5, 3) := by decide +kernel
theorem d_MO_digits_10 : decode b_MO_digits 10 = .ok (.iload_n 1, 1) := by decide +kernel
theorem d_MO_digits_11 : decode b_MO_digits 11 = .ok (.i2l, 1) := by decide +kernel
theorem d_MO_digits_12 : decode b_MO_digits 12 = .ok (.lstore_n 2, 1) := by decide +kernel
theorem d_MO_digits_13 : decode b_MO_digits 13 = .ok (.iload_n 1, 1) := by decide +kernel
theorem d_MO_digits_14 : decode b_MO_digits 14 = .ok (.ifCond .ge 9, 3) := by decide +kernel
theorem d_MO_digits_17 : decode b_MO_digits 17 = .ok (.aload_n 0, 1) := by decide +kernel
theorem d_MO_digits_18 : decode b_MO_digits 18 = .ok (.bipush 45, 2) := by decide +kernel
theorem d_MO_digits_20 : decode b_MO_digits 20 = .ok (.invokevirtual 404, 3) := by decide +kernel
theorem d_MO_digits_23 : decode b_MO_digits 23 = .ok (.lconst 1, 1) := by decide +kernel
theorem d_MO_digits_24 : decode b_MO_digits 24 = .ok (.lstore 4, 2) := by decide +kernel
theorem d_MO_digits_26 : decode b_MO_digits 26 = .ok (.lload_n 2, 1) := by decide +kernel
theorem d_MO_digits_27 : decode b_MO_digits 27 = .ok (.lload 4, 2) := by decide +kernel
theorem d_MO_digits_29 : decode b_MO_digits 29 = .ok (.ldiv, 1) := by decide +kernel
theorem d_MO_digits_30 : decode b_MO_digits 30 = .ok (.ldc2_w 407, 3) := by decide +kernel
theorem d_MO_digits_33 : decode b_MO_digits 33 = .ok (.lcmp, 1) := by decide +kernel
theorem d_MO_digits_34 : decode b_MO_digits 34 = .ok (.ifCond .le 14, 3) := by decide +kernel
theorem d_MO_digits_37 : decode b_MO_digits 37 = .ok (.lload 4, 2) := by decide +kernel
theorem d_MO_digits_39 : decode b_MO_digits 39 = .ok (.ldc2_w 149, 3) := by decide +kernel
theorem d_MO_digits_42 : decode b_MO_digits 42 = .ok (.lmul, 1) := by decide +kernel
theorem d_MO_digits_43 : decode b_MO_digits 43 = .ok (.lstore 4, 2) := by decide +kernel
theorem d_MO_digits_45 : decode b_MO_digits 45 = .ok (.goto (-19), 3) := by decide +kernel
theorem d_MO_digits_48 : decode b_MO_digits 48 = .ok (.lload 4, 2) := by decide +kernel
theorem d_MO_digits_50 : decode b_MO_digits 50 = .ok (.lstore 6, 2) := by decide +kernel
theorem d_MO_digits_52 : decode b_MO_digits 52 = .ok (.lload 6, 2) := by decide +kernel
theorem d_MO_digits_54 : decode b_MO_digits 54 = .ok (.lconst 0, 1) := by decide +kernel
theorem d_MO_digits_55 : decode b_MO_digits 55 = .ok (.lcmp, 1) := by decide +kernel
theorem d_MO_digits_56 : decode b_MO_digits 56 = .ok (.ifCond .le 30, 3) := by decide +kernel
theorem d_MO_digits_59 : decode b_MO_digits 59 = .ok (.aload_n 0, 1) := by decide +kernel
theorem d_MO_digits_60 : decode b_MO_digits 60 = .ok (.bipush 48, 2) := by decide +kernel
theorem d_MO_digits_62 : decode b_MO_digits 62 = .ok (.lload_n 2, 1) := by decide +kernel
theorem d_MO_digits_63 : decode b_MO_digits 63 = .ok (.lload 6, 2) := by decide +kernel
theorem d_MO_digits_65 : decode b_MO_digits 65 = .ok (.ldiv, 1) := by decide +kernel
theorem d_MO_digits_66 : decode b_MO_digits 66 = .ok (.ldc2_w 149, 3) := by decide +kernel
theorem d_MO_digits_69 : decode b_MO_digits 69 = .ok (.lrem, 1) := by decide +kernel
theorem d_MO_digits_70 : decode b_MO_digits 70 = .ok (.l2i, 1) := by decide +kernel
theorem d_MO_digits_71 : decode b_MO_digits 71 = .ok (.iadd, 1) := by decide +kernel
theorem d_MO_digits_72 : decode b_MO_digits 72 = .ok (.invokevirtual 404, 3) := by decide +kernel
theorem d_MO_digits_75 : decode b_MO_digits 75 = .ok (.lload 6, 2) := by decide +kernel
theorem d_MO_digits_77 : decode b_MO_digits 77 = .ok (.ldc2_w 149, 3) := by decide +kernel
theorem d_MO_digits_80 : decode b_MO_digits 80 = .ok (.ldiv, 1) := by decide +kernel
theorem d_MO_digits_81 : decode b_MO_digits 81 = .ok (.lstore 6, 2) := by decide +kernel
theorem d_MO_digits_83 : decode b_MO_digits 83 = .ok (.goto (-31), 3) := by decide +kernel
theorem d_MO_digits_86 : decode b_MO_digits 86 = .ok (.return_, 1) := by decide +kernel
theorem d_MO_say_0 : decode b_MO_say 0 = .ok (.lload_n 1, 1) := by decide +kernel
theorem d_MO_say_1 : decode b_MO_say 1 = .ok (.invokestatic 186, 3) := by decide +kernel
theorem d_MO_say_4 : decode b_MO_say 4 = .ok (.ifCond .ne 14, 3) := by decide +kernel
theorem d_MO_say_7 : decode b_MO_say 7 = .ok (.aload_n 0, 1) := by decide +kernel
theorem d_MO_say_8 : decode b_MO_say 8 = .ok (.lload_n 1, 1) := by decide +kernel
theorem d_MO_say_9 : decode b_MO_say 9 = .ok (.invokestatic 182, 3) := by decide +kernel
theorem d_MO_say_12 : decode b_MO_say 12 = .ok (.invokevirtual 409, 3) := by decide +kernel
theorem d_MO_say_15 : decode b_MO_say 15 = .ok (.goto 24, 3) := by decide +kernel
theorem d_MO_say_18 : decode b_MO_say 18 = .ok (.aload_n 0, 1) := by decide +kernel
theorem d_MO_say_19 : decode b_MO_say 19 = .ok (.lload_n 1, 1) := by decide +kernel
theorem d_MO_say_20 : decode b_MO_say 20 = .ok (.bipush 21, 2) := by decide +kernel
theorem d_MO_say_22 : decode b_MO_say 22 = .ok (.invokestatic 178, 3) := by decide +kernel
theorem d_MO_say_25 : decode b_MO_say 25 = .ok (.lcmp, 1) := by decide +kernel
theorem d_MO_say_26 : decode b_MO_say 26 = .ok (.ifCond .ne 8, 3) := by decide +kernel
theorem d_MO_say_29 : decode b_MO_say 29 = .ok (.bipush 116, 2) := by decide +kernel
theorem d_MO_say_31 : decode b_MO_say 31 = .ok (.goto 5, 3) := by decide +kernel
theorem d_MO_say_34 : decode b_MO_say 34 = .ok (.bipush 102, 2) := by decide +kernel
theorem d_MO_say_36 : decode b_MO_say 36 = .ok (.invokevirtual 404, 3) := by decide +kernel
theorem d_MO_say_39 : decode b_MO_say 39 = .ok (.return_, 1) := by decide +kernel
theorem d_MO_printed_0 : decode b_MO_printed 0 = .ok (.aload_n 0, 1) := by decide +kernel
theorem d_MO_printed_1 : decode b_MO_printed 1 = .ok (.iconst 0, 1) := by decide +kernel
theorem d_MO_printed_2 : decode b_MO_printed 2 = .ok (.putfield 342, 3) := by decide +kernel
theorem d_MO_printed_5 : decode b_MO_printed 5 = .ok (.aload_n 0, 1) := by decide +kernel
theorem d_MO_printed_6 : decode b_MO_printed 6 = .ok (.lload_n 1, 1) := by decide +kernel
theorem d_MO_printed_7 : decode b_MO_printed 7 = .ok (.putfield 357, 3) := by decide +kernel
theorem d_MO_printed_10 : decode b_MO_printed 10 = .ok (.iload_n 3, 1) := by decide +kernel
theorem d_MO_printed_11 : decode b_MO_printed 11 = .ok (.ifCond .ne 26, 3) := by decide +kernel
theorem d_MO_printed_14 : decode b_MO_printed 14 = .ok (.iload 8, 2) := by decide +kernel
theorem d_MO_printed_16 : decode b_MO_printed 16 = .ok (.ifCond .ne 21, 3) := by decide +kernel
theorem d_MO_printed_19 : decode b_MO_printed 19 = .ok (.lload_n 1, 1) := by decide +kernel
theorem d_MO_printed_20 : decode b_MO_printed 20 = .ok (.invokestatic 186, 3) := by decide +kernel
theorem d_MO_printed_23 : decode b_MO_printed 23 = .ok (.ifCond .eq 10, 3) := by decide +kernel
theorem d_MO_printed_26 : decode b_MO_printed 26 = .ok (.lload_n 1, 1) := by decide +kernel
theorem d_MO_printed_27 : decode b_MO_printed 27 = .ok (.invokestatic 393, 3) := by decide +kernel
theorem d_MO_printed_30 : decode b_MO_printed 30 = .ok (.ifCond .eq 7, 3) := by decide +kernel
theorem d_MO_printed_33 : decode b_MO_printed 33 = .ok (.iconst 1, 1) := by decide +kernel
theorem d_MO_printed_34 : decode b_MO_printed 34 = .ok (.goto 4, 3) := by decide +kernel
theorem d_MO_printed_37 : decode b_MO_printed 37 = .ok (.iconst 0, 1) := by decide +kernel
theorem d_MO_printed_38 : decode b_MO_printed 38 = .ok (.istore 9, 2) := by decide +kernel
theorem d_MO_printed_40 : decode b_MO_printed 40 = .ok (.aload_n 0, 1) := by decide +kernel
theorem d_MO_printed_41 : decode b_MO_printed 41 = .ok (.getfield 361, 3) := by decide +kernel
theorem d_MO_printed_44 : decode b_MO_printed 44 = .ok (.iconst 2, 1) := by decide +kernel
theorem d_MO_printed_45 : decode b_MO_printed 45 = .ok (.if_icmp .ne 51, 3) := by decide +kernel
theorem d_MO_printed_48 : decode b_MO_printed 48 = .ok (.iload 9, 2) := by decide +kernel
theorem d_MO_printed_50 : decode b_MO_printed 50 = .ok (.ifCond .ne 9, 3) := by decide +kernel
theorem d_MO_printed_53 : decode b_MO_printed 53 = .ok (.aload_n 0, 1) := by decide +kernel
theorem d_MO_printed_54 : decode b_MO_printed 54 = .ok (.iconst 2, 1) := by decide +kernel
theorem d_MO_printed_55 : decode b_MO_printed 55 = .ok (.putfield 354, 3) := by decide +kernel
theorem d_MO_printed_58 : decode b_MO_printed 58 = .ok (.return_, 1) := by decide +kernel
theorem d_MO_printed_59 : decode b_MO_printed 59 = .ok (.aload_n 0, 1) := by decide +kernel
theorem d_MO_printed_60 : decode b_MO_printed 60 = .ok (.lload_n 1, 1) := by decide +kernel
theorem d_MO_printed_61 : decode b_MO_printed 61 = .ok (.invokevirtual 412, 3) := by decide +kernel
theorem d_MO_printed_64 : decode b_MO_printed 64 = .ok (.aload_n 0, 1) := by decide +kernel
theorem d_MO_printed_65 : decode b_MO_printed 65 = .ok (.bipush 32, 2) := by decide +kernel
theorem d_MO_printed_67 : decode b_MO_printed 67 = .ok (.invokevirtual 404, 3) := by decide +kernel
theorem d_MO_printed_70 : decode b_MO_printed 70 = .ok (.aload_n 0, 1) := by decide +kernel
theorem d_MO_printed_71 : decode b_MO_printed 71 = .ok (.dup, 1) := by decide +kernel
theorem d_MO_printed_72 : decode b_MO_printed 72 = .ok (.getfield 351, 3) := by decide +kernel
theorem d_MO_printed_75 : decode b_MO_printed 75 = .ok (.iconst 1, 1) := by decide +kernel
theorem d_MO_printed_76 : decode b_MO_printed 76 = .ok (.iadd, 1) := by decide +kernel
theorem d_MO_printed_77 : decode b_MO_printed 77 = .ok (.putfield 351, 3) := by decide +kernel
theorem d_MO_printed_80 : decode b_MO_printed 80 = .ok (.aload_n 0, 1) := by decide +kernel
theorem d_MO_printed_81 : decode b_MO_printed 81 = .ok (.aload_n 0, 1) := by decide +kernel
theorem d_MO_printed_82 : decode b_MO_printed 82 = .ok (.getfield 371, 3) := by decide +kernel
theorem d_MO_printed_85 : decode b_MO_printed 85 = .ok (.putfield 357, 3) := by decide +kernel
theorem d_MO_printed_88 : decode b_MO_printed 88 = .ok (.aload_n 0, 1) := by decide +kernel
theorem d_MO_printed_89 : decode b_MO_printed 89 = .ok (.iconst 1, 1) := by decide +kernel
theorem d_MO_printed_90 : decode b_MO_printed 90 = .ok (.putfield 361, 3) := by decide +kernel
theorem d_MO_printed_93 : decode b_MO_printed 93 = .ok (.goto 87, 3) := by decide +kernel
theorem d_MO_printed_96 : decode b_MO_printed 96 = .ok (.iload_n 3, 1) := by decide +kernel
theorem d_MO_printed_97 : decode b_MO_printed 97 = .ok (.ifCond .eq 23, 3) := by decide +kernel
theorem d_MO_printed_100 : decode b_MO_printed 100 = .ok (.aload_n 0, 1) := by decide +kernel
theorem d_MO_printed_101 : decode b_MO_printed 101 = .ok (.lload 6, 2) := by decide +kernel
theorem d_MO_printed_103 : decode b_MO_printed 103 = .ok (.putfield 371, 3) := by decide +kernel
theorem d_MO_printed_106 : decode b_MO_printed 106 = .ok (.aload_n 0, 1) := by decide +kernel
theorem d_MO_printed_107 : decode b_MO_printed 107 = .ok (.lload 4, 2) := by decide +kernel
theorem d_MO_printed_109 : decode b_MO_printed 109 = .ok (.putfield 357, 3) := by decide +kernel
theorem d_MO_printed_112 : decode b_MO_printed 112 = .ok (.aload_n 0, 1) := by decide +kernel
theorem d_MO_printed_113 : decode b_MO_printed 113 = .ok (.iconst 2, 1) := by decide +kernel
theorem d_MO_printed_114 : decode b_MO_printed 114 = .ok (.putfield 361, 3) := by decide +kernel
theorem d_MO_printed_117 : decode b_MO_printed 117 = .ok (.goto 63, 3) := by decide +kernel
theorem d_MO_printed_120 : decode b_MO_printed 120 = .ok (.iload 9, 2) := by decide +kernel
theorem d_MO_printed_122 : decode b_MO_printed 122 = .ok (.ifCond .eq 10, 3) := by decide +kernel
theorem d_MO_printed_125 : decode b_MO_printed 125 = .ok (.aload_n 0, 1) := by decide +kernel
theorem d_MO_printed_126 : decode b_MO_printed 126 = .ok (.getfield 361, 3) := by decide +kernel
theorem d_MO_printed_129 : decode b_MO_printed 129 = .ok (.ifCond .eq 18, 3) := by decide +kernel
theorem d_MO_printed_132 : decode b_MO_printed 132 = .ok (.lload_n 1, 1) := by decide +kernel
theorem d_MO_printed_133 : decode b_MO_printed 133 = .ok (.bipush 17, 2) := by decide +kernel
theorem d_MO_printed_135 : decode b_MO_printed 135 = .ok (.invokestatic 178, 3) := by decide +kernel
theorem d_MO_printed_138 : decode b_MO_printed 138 = .ok (.lcmp, 1) := by decide +kernel
theorem d_MO_printed_139 : decode b_MO_printed 139 = .ok (.ifCond .ne 36, 3) := by decide +kernel
theorem d_MO_printed_142 : decode b_MO_printed 142 = .ok (.iload 8, 2) := by decide +kernel
theorem d_MO_printed_144 : decode b_MO_printed 144 = .ok (.ifCond .ne 31, 3) := by decide +kernel
theorem d_MO_printed_147 : decode b_MO_printed 147 = .ok (.iload 9, 2) := by decide +kernel
theorem d_MO_printed_149 : decode b_MO_printed 149 = .ok (.ifCond .eq 8, 3) := by decide +kernel
theorem d_MO_printed_152 : decode b_MO_printed 152 = .ok (.aload_n 0, 1) := by decide +kernel
theorem d_MO_printed_153 : decode b_MO_printed 153 = .ok (.lload_n 1, 1) := by decide +kernel
theorem d_MO_printed_154 : decode b_MO_printed 154 = .ok (.invokevirtual 412, 3) := by decide +kernel
theorem d_MO_printed_157 : decode b_MO_printed 157 = .ok (.aload_n 0, 1) := by decide +kernel
theorem d_MO_printed_158 : decode b_MO_printed 158 = .ok (.dup, 1) := by decide +kernel
theorem d_MO_printed_159 : decode b_MO_printed 159 = .ok (.getfield 351, 3) := by decide +kernel
theorem d_MO_printed_162 : decode b_MO_printed 162 = .ok (.iconst 1, 1) := by decide +kernel
theorem d_MO_printed_163 : decode b_MO_printed 163 = .ok (.iadd, 1) := by decide +kernel
theorem d_MO_printed_164 : decode b_MO_printed 164 = .ok (.putfield 351, 3) := by decide +kernel
theorem d_MO_printed_167 : decode b_MO_printed 167 = .ok (.aload_n 0, 1) := by decide +kernel
theorem d_MO_printed_168 : decode b_MO_printed 168 = .ok (.iconst 1, 1) := by decide +kernel
theorem d_MO_printed_169 : decode b_MO_printed 169 = .ok (.putfield 354, 3) := by decide +kernel
theorem d_MO_printed_172 : decode b_MO_printed 172 = .ok (.goto 8, 3) := by decide +kernel
theorem d_MO_printed_175 : decode b_MO_printed 175 = .ok (.aload_n 0, 1) := by decide +kernel
theorem d_MO_printed_176 : decode b_MO_printed 176 = .ok (.iconst 2, 1) := by decide +kernel
theorem d_MO_printed_177 : decode b_MO_printed 177 = .ok (.putfield 354, 3) := by decide +kernel
theorem d_MO_printed_180 : decode b_MO_printed 180 = .ok (.return_, 1) := by decide +kernel
theorem d_MO_value_0 : decode b_MO_value 0 = .ok (.iload_n 1, 1) := by decide +kernel
theorem d_MO_value_1 : decode b_MO_value 1 = .ok (.ifCond .eq 11, 3) := by decide +kernel
theorem d_MO_value_4 : decode b_MO_value 4 = .ok (.aload_n 0, 1) := by decide +kernel
theorem d_MO_value_5 : decode b_MO_value 5 = .ok (.iconst 0, 1) := by decide +kernel
theorem d_MO_value_6 : decode b_MO_value 6 = .ok (.invokevirtual 377, 3) := by decide +kernel
theorem d_MO_value_9 : decode b_MO_value 9 = .ok (.goto 4, 3) := by decide +kernel
theorem d_MO_value_12 : decode b_MO_value 12 = .ok (.lconst 0, 1) := by decide +kernel
theorem d_MO_value_13 : decode b_MO_value 13 = .ok (.lstore_n 3, 1) := by decide +kernel
theorem d_MO_value_14 : decode b_MO_value 14 = .ok (.iload_n 1, 1) := by decide +kernel
theorem d_MO_value_15 : decode b_MO_value 15 = .ok (.ifCond .eq 11, 3) := by decide +kernel
theorem d_MO_value_18 : decode b_MO_value 18 = .ok (.aload_n 0, 1) := by decide +kernel
theorem d_MO_value_19 : decode b_MO_value 19 = .ok (.iconst 1, 1) := by decide +kernel
theorem d_MO_value_20 : decode b_MO_value 20 = .ok (.invokevirtual 377, 3) := by decide +kernel
theorem d_MO_value_23 : decode b_MO_value 23 = .ok (.goto 4, 3) := by decide +kernel
theorem d_MO_value_26 : decode b_MO_value 26 = .ok (.lconst 0, 1) := by decide +kernel
theorem d_MO_value_27 : decode b_MO_value 27 = .ok (.lstore 5, 2) := by decide +kernel
theorem d_MO_value_29 : decode b_MO_value 29 = .ok (.aload_n 0, 1) := by decide +kernel
theorem d_MO_value_30 : decode b_MO_value 30 = .ok (.getfield 348, 3) := by decide +kernel
theorem d_MO_value_33 : decode b_MO_value 33 = .ok (.ifCond .le 19, 3) := by decide +kernel
theorem d_MO_value_36 : decode b_MO_value 36 = .ok (.aload_n 0, 1) := by decide +kernel
theorem d_MO_value_37 : decode b_MO_value 37 = .ok (.aload_n 0, 1) := by decide +kernel
theorem d_MO_value_38 : decode b_MO_value 38 = .ok (.getfield 357, 3) := by decide +kernel
theorem d_MO_value_41 : decode b_MO_value 41 = .ok (.iload_n 1, 1) := by decide +kernel
theorem d_MO_value_42 : decode b_MO_value 42 = .ok (.lload_n 3, 1) := by decide +kernel
theorem d_MO_value_43 : decode b_MO_value 43 = .ok (.lload 5, 2) := by decide +kernel
theorem d_MO_value_45 : decode b_MO_value 45 = .ok (.iload_n 2, 1) := by decide +kernel
theorem d_MO_value_46 : decode b_MO_value 46 = .ok (.invokevirtual 415, 3) := by decide +kernel
theorem d_MO_value_49 : decode b_MO_value 49 = .ok (.goto 16, 3) := by decide +kernel
theorem d_MO_value_52 : decode b_MO_value 52 = .ok (.aload_n 0, 1) := by decide +kernel
theorem d_MO_value_53 : decode b_MO_value 53 = .ok (.aload_n 0, 1) := by decide +kernel
theorem d_MO_value_54 : decode b_MO_value 54 = .ok (.getfield 357, 3) := by decide +kernel
theorem d_MO_value_57 : decode b_MO_value 57 = .ok (.iload_n 1, 1) := by decide +kernel
theorem d_MO_value_58 : decode b_MO_value 58 = .ok (.lload_n 3, 1) := by decide +kernel
theorem d_MO_value_59 : decode b_MO_value 59 = .ok (.lload 5, 2) := by decide +kernel
theorem d_MO_value_61 : decode b_MO_value 61 = .ok (.iload_n 2, 1) := by decide +kernel
theorem d_MO_value_62 : decode b_MO_value 62 = .ok (.invokevirtual 419, 3) := by decide +kernel
theorem d_MO_value_65 : decode b_MO_value 65 = .ok (.return_, 1) := by decide +kernel
theorem d_MO_act_0 : decode b_MO_act 0 = .ok (.aload_n 0, 1) := by decide +kernel
theorem d_MO_act_1 : decode b_MO_act 1 = .ok (.getfield 357, 3) := by decide +kernel
theorem d_MO_act_4 : decode b_MO_act 4 = .ok (.invokestatic 186, 3) := by decide +kernel
theorem d_MO_act_7 : decode b_MO_act 7 = .ok (.istore_n 1, 1) := by decide +kernel
theorem d_MO_act_8 : decode b_MO_act 8 = .ok (.iload_n 1, 1) := by decide +kernel
theorem d_MO_act_9 : decode b_MO_act 9 = .ok (.iconst 2, 1) := by decide +kernel
theorem d_MO_act_10 : decode b_MO_act 10 = .ok (.if_icmp .ne 13, 3) := by decide +kernel
theorem d_MO_act_13 : decode b_MO_act 13 = .ok (.aload_n 0, 1) := by decide +kernel
theorem d_MO_act_14 : decode b_MO_act 14 = .ok (.getfield 357, 3) := by decide +kernel
theorem d_MO_act_17 : decode b_MO_act 17 = .ok (.invokestatic 182, 3) := by decide +kernel
theorem d_MO_act_20 : decode b_MO_act 20 = .ok (.goto 4, 3) := by decide +kernel
theorem d_MO_act_23 : decode b_MO_act 23 = .ok (.iconst (-1), 1) := by decide +kernel
theorem d_MO_act_24 : decode b_MO_act 24 = .ok (.istore_n 2, 1) := by decide +kernel
theorem d_MO_act_25 : decode b_MO_act 25 = .ok (.aload_n 0, 1) := by decide +kernel
theorem d_MO_act_26 : decode b_MO_act 26 = .ok (.getfield 342, 3) := by decide +kernel
theorem d_MO_act_29 : decode b_MO_act 29 = .ok (.aload_n 0, 1) := by decide +kernel
theorem d_MO_act_30 : decode b_MO_act 30 = .ok (.invokevirtual 422, 3) := by decide +kernel
theorem d_MO_act_33 : decode b_MO_act 33 = .ok (.isub, 1) := by decide +kernel
theorem d_MO_act_34 : decode b_MO_act 34 = .ok (.istore_n 3, 1) := by decide +kernel
theorem d_MO_act_35 : decode b_MO_act 35 = .ok (.iload_n 1, 1) := by decide +kernel
theorem d_MO_act_36 : decode b_MO_act 36 = .ok (.iconst 1, 1) := by decide +kernel
theorem d_MO_act_37 : decode b_MO_act 37 = .ok (.if_icmp .ne 32, 3) := by decide +kernel
theorem d_MO_act_40 : decode b_MO_act 40 = .ok (.aload_n 0, 1) := by decide +kernel
theorem d_MO_act_41 : decode b_MO_act 41 = .ok (.aload_n 0, 1) := by decide +kernel
theorem d_MO_act_42 : decode b_MO_act 42 = .ok (.getfield 66, 3) := by decide +kernel
theorem d_MO_act_45 : decode b_MO_act 45 = .ok (.aload_n 0, 1) := by decide +kernel
theorem d_MO_act_46 : decode b_MO_act 46 = .ok (.getfield 357, 3) := by decide +kernel
theorem d_MO_act_49 : decode b_MO_act 49 = .ok (.invokestatic 182, 3) := by decide +kernel
theorem d_MO_act_52 : decode b_MO_act 52 = .ok (.laload, 1) := by decide +kernel
theorem d_MO_act_53 : decode b_MO_act 53 = .ok (.putfield 357, 3) := by decide +kernel
theorem d_MO_act_56 : decode b_MO_act 56 = .ok (.aload_n 0, 1) := by decide +kernel
theorem d_MO_act_57 : decode b_MO_act 57 = .ok (.dup, 1) := by decide +kernel
theorem d_MO_act_58 : decode b_MO_act 58 = .ok (.getfield 351, 3) := by decide +kernel
theorem d_MO_act_61 : decode b_MO_act 61 = .ok (.iconst 1, 1) := by decide +kernel
theorem d_MO_act_62 : decode b_MO_act 62 = .ok (.iadd, 1) := by decide +kernel
theorem d_MO_act_63 : decode b_MO_act 63 = .ok (.putfield 351, 3) := by decide +kernel
theorem d_MO_act_66 : decode b_MO_act 66 = .ok (.goto 129, 3) := by decide +kernel
theorem d_MO_act_69 : decode b_MO_act 69 = .ok (.iload_n 1, 1) := by decide +kernel
theorem d_MO_act_70 : decode b_MO_act 70 = .ok (.ifCond .eq 15, 3) := by decide +kernel
theorem d_MO_act_73 : decode b_MO_act 73 = .ok (.iload_n 2, 1) := by decide +kernel
theorem d_MO_act_74 : decode b_MO_act 74 = .ok (.bipush 17, 2) := by decide +kernel
theorem d_MO_act_76 : decode b_MO_act 76 = .ok (.if_icmp .eq 9, 3) := by decide +kernel
theorem d_MO_act_79 : decode b_MO_act 79 = .ok (.iload_n 2, 1) := by decide +kernel
theorem d_MO_act_80 : decode b_MO_act 80 = .ok (.bipush 20, 2) := by decide +kernel
theorem d_MO_act_82 : decode b_MO_act 82 = .ok (.if_icmp .le 24, 3) := by decide +kernel
theorem d_MO_act_85 : decode b_MO_act 85 = .ok (.iload_n 3, 1) := by decide +kernel
theorem d_MO_act_86 : decode b_MO_act 86 = .ok (.ifCond .le 11, 3) := by decide +kernel
theorem d_MO_act_89 : decode b_MO_act 89 = .ok (.aload_n 0, 1) := by decide +kernel
theorem d_MO_act_90 : decode b_MO_act 90 = .ok (.iconst 2, 1) := by decide +kernel
theorem d_MO_act_91 : decode b_MO_act 91 = .ok (.putfield 354, 3) := by decide +kernel
theorem d_MO_act_94 : decode b_MO_act 94 = .ok (.goto 101, 3) := by decide +kernel
theorem d_MO_act_97 : decode b_MO_act 97 = .ok (.aload_n 0, 1) := by decide +kernel
theorem d_MO_act_98 : decode b_MO_act 98 = .ok (.iconst 0, 1) := by decide +kernel
theorem d_MO_act_99 : decode b_MO_act 99 = .ok (.iconst 0, 1) := by decide +kernel
theorem d_MO_act_100 : decode b_MO_act 100 = .ok (.invokevirtual 425, 3) := by decide +kernel
theorem d_MO_act_103 : decode b_MO_act 103 = .ok (.goto 92, 3) := by decide +kernel
theorem d_MO_act_106 : decode b_MO_act 106 = .ok (.iload_n 2, 1) := by decide +kernel
theorem d_MO_act_107 : decode b_MO_act 107 = .ok (.bipush 16, 2) := by decide +kernel
theorem d_MO_act_109 : decode b_MO_act 109 = .ok (.if_icmp .ne 43, 3) := by decide +kernel
theorem d_MO_act_112 : decode b_MO_act 112 = .ok (.iload_n 3, 1) := by decide +kernel
theorem d_MO_act_113 : decode b_MO_act 113 = .ok (.iconst 2, 1) := by decide +kernel
theorem d_MO_act_114 : decode b_MO_act 114 = .ok (.if_icmp .le 11, 3) := by decide +kernel
theorem d_MO_act_117 : decode b_MO_act 117 = .ok (.aload_n 0, 1) := by decide +kernel
theorem d_MO_act_118 : decode b_MO_act 118 = .ok (.iconst 2, 1) := by decide +kernel
theorem d_MO_act_119 : decode b_MO_act 119 = .ok (.putfield 354, 3) := by decide +kernel
theorem d_MO_act_122 : decode b_MO_act 122 = .ok (.goto 73, 3) := by decide +kernel
theorem d_MO_act_125 : decode b_MO_act 125 = .ok (.aload_n 0, 1) := by decide +kernel
theorem d_MO_act_126 : decode b_MO_act 126 = .ok (.iload_n 3, 1) := by decide +kernel
theorem d_MO_act_127 : decode b_MO_act 127 = .ok (.iconst 2, 1) := by decide +kernel
theorem d_MO_act_128 : decode b_MO_act 128 = .ok (.if_icmp .ne 7, 3) := by decide +kernel
theorem d_MO_act_131 : decode b_MO_act 131 = .ok (.iconst 1, 1) := by decide +kernel
theorem d_MO_act_132 : decode b_MO_act 132 = .ok (.goto 4, 3) := by decide +kernel
theorem d_MO_act_135 : decode b_MO_act 135 = .ok (.iconst 0, 1) := by decide +kernel
theorem d_MO_act_136 : decode b_MO_act 136 = .ok (.iload_n 3, 1) := by decide +kernel
theorem d_MO_act_137 : decode b_MO_act 137 = .ok (.iconst 2, 1) := by decide +kernel
theorem d_MO_act_138 : decode b_MO_act 138 = .ok (.if_icmp .ge 7, 3) := by decide +kernel
theorem d_MO_act_141 : decode b_MO_act 141 = .ok (.iconst 1, 1) := by decide +kernel
theorem d_MO_act_142 : decode b_MO_act 142 = .ok (.goto 4, 3) := by decide +kernel
theorem d_MO_act_145 : decode b_MO_act 145 = .ok (.iconst 0, 1) := by decide +kernel
theorem d_MO_act_146 : decode b_MO_act 146 = .ok (.invokevirtual 425, 3) := by decide +kernel
theorem d_MO_act_149 : decode b_MO_act 149 = .ok (.goto 46, 3) := by decide +kernel
theorem d_MO_act_152 : decode b_MO_act 152 = .ok (.iload_n 3, 1) := by decide +kernel
theorem d_MO_act_153 : decode b_MO_act 153 = .ok (.iload_n 2, 1) := by decide +kernel
theorem d_MO_act_154 : decode b_MO_act 154 = .ok (.invokestatic 380, 3) := by decide +kernel
theorem d_MO_act_157 : decode b_MO_act 157 = .ok (.if_icmp .ge 12, 3) := by decide +kernel
theorem d_MO_act_160 : decode b_MO_act 160 = .ok (.aload_n 0, 1) := by decide +kernel
theorem d_MO_act_161 : decode b_MO_act 161 = .ok (.iconst 0, 1) := by decide +kernel
theorem d_MO_act_162 : decode b_MO_act 162 = .ok (.iconst 1, 1) := by decide +kernel
theorem d_MO_act_163 : decode b_MO_act 163 = .ok (.invokevirtual 425, 3) := by decide +kernel
theorem d_MO_act_166 : decode b_MO_act 166 = .ok (.goto 29, 3) := by decide +kernel
theorem d_MO_act_169 : decode b_MO_act 169 = .ok (.iload_n 2, 1) := by decide +kernel
theorem d_MO_act_170 : decode b_MO_act 170 = .ok (.bipush 10, 2) := by decide +kernel
theorem d_MO_act_172 : decode b_MO_act 172 = .ok (.if_icmp .ge 11, 3) := by decide +kernel
theorem d_MO_act_175 : decode b_MO_act 175 = .ok (.aload_n 0, 1) := by decide +kernel
theorem d_MO_act_176 : decode b_MO_act 176 = .ok (.iload_n 2, 1) := by decide +kernel
theorem d_MO_act_177 : decode b_MO_act 177 = .ok (.invokevirtual 429, 3) := by decide +kernel
theorem d_MO_act_180 : decode b_MO_act 180 = .ok (.goto 15, 3) := by decide +kernel
theorem d_MO_act_183 : decode b_MO_act 183 = .ok (.aload_n 0, 1) := by decide +kernel
theorem d_MO_act_184 : decode b_MO_act 184 = .ok (.iload_n 2, 1) := by decide +kernel
theorem d_MO_act_185 : decode b_MO_act 185 = .ok (.aload_n 0, 1) := by decide +kernel
theorem d_MO_act_186 : decode b_MO_act 186 = .ok (.iconst 0, 1) := by decide +kernel
theorem d_MO_act_187 : decode b_MO_act 187 = .ok (.invokevirtual 377, 3) := by decide +kernel
theorem d_MO_act_190 : decode b_MO_act 190 = .ok (.iconst 0, 1) := by decide +kernel
theorem d_MO_act_191 : decode b_MO_act 191 = .ok (.iconst 0, 1) := by decide +kernel
theorem d_MO_act_192 : decode b_MO_act 192 = .ok (.invokevirtual 400, 3) := by decide +kernel
theorem d_MO_act_195 : decode b_MO_act 195 = .ok (.return_, 1) := by decide +kernel
theorem d_MO_step_0 : decode b_MO_step 0 = .ok (.aload_n 0, 1) := by decide +kernel
theorem d_MO_step_1 : decode b_MO_step 1 = .ok (.getfield 351, 3) := by decide +kernel
theorem d_MO_step_4 : decode b_MO_step 4 = .ok (.istore_n 1, 1) := by decide +kernel
theorem d_MO_step_5 : decode b_MO_step 5 = .ok (.aload_n 0, 1) := by decide +kernel
theorem d_MO_step_6 : decode b_MO_step 6 = .ok (.getfield 351, 3) := by decide +kernel
theorem d_MO_step_9 : decode b_MO_step 9 = .ok (.iload_n 1, 1) := by decide +kernel
theorem d_MO_step_10 : decode b_MO_step 10 = .ok (.if_icmp .ne 121, 3) := by decide +kernel
theorem d_MO_step_13 : decode b_MO_step 13 = .ok (.aload_n 0, 1) := by decide +kernel
theorem d_MO_step_14 : decode b_MO_step 14 = .ok (.getfield 354, 3) := by decide +kernel
theorem d_MO_step_17 : decode b_MO_step 17 = .ok (.ifCond .ne 114, 3) := by decide +kernel
theorem d_MO_step_20 : decode b_MO_step 20 = .ok (.aload_n 0, 1) := by decide +kernel
theorem d_MO_step_21 : decode b_MO_step 21 = .ok (.getfield 357, 3) := by decide +kernel
theorem d_MO_step_24 : decode b_MO_step 24 = .ok (.invokestatic 186, 3) := by decide +kernel
theorem d_MO_step_27 : decode b_MO_step 27 = .ok (.iconst 3, 1) := by decide +kernel
theorem d_MO_step_28 : decode b_MO_step 28 = .ok (.if_icmp .eq 10, 3) := by decide +kernel
theorem d_MO_step_31 : decode b_MO_step 31 = .ok (.aload_n 0, 1) := by decide +kernel
theorem d_MO_step_32 : decode b_MO_step 32 = .ok (.invokevirtual 432, 3) := by decide +kernel
theorem d_MO_step_35 : decode b_MO_step 35 = .ok (.goto (-30), 3) := by decide +kernel
theorem d_MO_step_38 : decode b_MO_step 38 = .ok (.aload_n 0, 1) := by decide +kernel
theorem d_MO_step_39 : decode b_MO_step 39 = .ok (.getfield 342, 3) := by decide +kernel
theorem d_MO_step_42 : decode b_MO_step 42 = .ok (.sipush 150, 3) := by decide +kernel
theorem d_MO_step_45 : decode b_MO_step 45 = .ok (.if_icmp .ne 11, 3) := by decide +kernel
theorem d_MO_step_48 : decode b_MO_step 48 = .ok (.aload_n 0, 1) := by decide +kernel
theorem d_MO_step_49 : decode b_MO_step 49 = .ok (.iconst 4, 1) := by decide +kernel
theorem d_MO_step_50 : decode b_MO_step 50 = .ok (.putfield 354, 3) := by decide +kernel
theorem d_MO_step_53 : decode b_MO_step 53 = .ok (.goto (-48), 3) := by decide +kernel
theorem d_MO_step_56 : decode b_MO_step 56 = .ok (.aload_n 0, 1) := by decide +kernel
theorem d_MO_step_57 : decode b_MO_step 57 = .ok (.getfield 84, 3) := by decide +kernel
theorem d_MO_step_60 : decode b_MO_step 60 = .ok (.aload_n 0, 1) := by decide +kernel
theorem d_MO_step_61 : decode b_MO_step 61 = .ok (.getfield 342, 3) := by decide +kernel
theorem d_MO_step_64 : decode b_MO_step 64 = .ok (.aload_n 0, 1) := by decide +kernel
theorem d_MO_step_65 : decode b_MO_step 65 = .ok (.getfield 357, 3) := by decide +kernel
theorem d_MO_step_68 : decode b_MO_step 68 = .ok (.invokestatic 182, 3) := by decide +kernel
theorem d_MO_step_71 : decode b_MO_step 71 = .ok (.iastore, 1) := by decide +kernel
theorem d_MO_step_72 : decode b_MO_step 72 = .ok (.aload_n 0, 1) := by decide +kernel
theorem d_MO_step_73 : decode b_MO_step 73 = .ok (.dup, 1) := by decide +kernel
theorem d_MO_step_74 : decode b_MO_step 74 = .ok (.getfield 342, 3) := by decide +kernel
theorem d_MO_step_77 : decode b_MO_step 77 = .ok (.iconst 1, 1) := by decide +kernel
theorem d_MO_step_78 : decode b_MO_step 78 = .ok (.iadd, 1) := by decide +kernel
theorem d_MO_step_79 : decode b_MO_step 79 = .ok (.putfield 342, 3) := by decide +kernel
theorem d_MO_step_82 : decode b_MO_step 82 = .ok (.aload_n 0, 1) := by decide +kernel
theorem d_MO_step_83 : decode b_MO_step 83 = .ok (.aload_n 0, 1) := by decide +kernel
theorem d_MO_step_84 : decode b_MO_step 84 = .ok (.getfield 342, 3) := by decide +kernel
theorem d_MO_step_87 : decode b_MO_step 87 = .ok (.aload_n 0, 1) := by decide +kernel
theorem d_MO_step_88 : decode b_MO_step 88 = .ok (.getfield 345, 3) := by decide +kernel
theorem d_MO_step_91 : decode b_MO_step 91 = .ok (.if_icmp .le 10, 3) := by decide +kernel
theorem d_MO_step_94 : decode b_MO_step 94 = .ok (.aload_n 0, 1) := by decide +kernel
theorem d_MO_step_95 : decode b_MO_step 95 = .ok (.getfield 342, 3) := by decide +kernel
theorem d_MO_step_98 : decode b_MO_step 98 = .ok (.goto 7, 3) := by decide +kernel
theorem d_MO_step_101 : decode b_MO_step 101 = .ok (.aload_n 0, 1) := by decide +kernel
theorem d_MO_step_102 : decode b_MO_step 102 = .ok (.getfield 345, 3) := by decide +kernel
theorem d_MO_step_105 : decode b_MO_step 105 = .ok (.putfield 345, 3) := by decide +kernel
theorem d_MO_step_108 : decode b_MO_step 108 = .ok (.aload_n 0, 1) := by decide +kernel
theorem d_MO_step_109 : decode b_MO_step 109 = .ok (.aload_n 0, 1) := by decide +kernel
theorem d_MO_step_110 : decode b_MO_step 110 = .ok (.getfield 72, 3) := by decide +kernel
theorem d_MO_step_113 : decode b_MO_step 113 = .ok (.aload_n 0, 1) := by decide +kernel
theorem d_MO_step_114 : decode b_MO_step 114 = .ok (.getfield 84, 3) := by decide +kernel
theorem d_MO_step_117 : decode b_MO_step 117 = .ok (.aload_n 0, 1) := by decide +kernel
theorem d_MO_step_118 : decode b_MO_step 118 = .ok (.getfield 342, 3) := by decide +kernel
theorem d_MO_step_121 : decode b_MO_step 121 = .ok (.iconst 1, 1) := by decide +kernel
theorem d_MO_step_122 : decode b_MO_step 122 = .ok (.isub, 1) := by decide +kernel
theorem d_MO_step_123 : decode b_MO_step 123 = .ok (.iaload, 1) := by decide +kernel
theorem d_MO_step_124 : decode b_MO_step 124 = .ok (.laload, 1) := by decide +kernel
theorem d_MO_step_125 : decode b_MO_step 125 = .ok (.putfield 357, 3) := by decide +kernel
theorem d_MO_step_128 : decode b_MO_step 128 = .ok (.goto (-123), 3) := by decide +kernel
theorem d_MO_step_131 : decode b_MO_step 131 = .ok (.return_, 1) := by decide +kernel
theorem d_MO_run_0 : decode b_MO_run 0 = .ok (.aload_n 0, 1) := by decide +kernel
theorem d_MO_run_1 : decode b_MO_run 1 = .ok (.iconst 0, 1) := by decide +kernel
theorem d_MO_run_2 : decode b_MO_run 2 = .ok (.putfield 112, 3) := by decide +kernel
theorem d_MO_run_5 : decode b_MO_run 5 = .ok (.iload_n 1, 1) := by decide +kernel
theorem d_MO_run_6 : decode b_MO_run 6 = .ok (.iconst 1, 1) := by decide +kernel
theorem d_MO_run_7 : decode b_MO_run 7 = .ok (.sipush 500, 3) := by decide +kernel
theorem d_MO_run_10 : decode b_MO_run 10 = .ok (.invokestatic 115, 3) := by decide +kernel
theorem d_MO_run_13 : decode b_MO_run 13 = .ok (.ifCond .ne 9, 3) := by decide +kernel
theorem d_MO_run_16 : decode b_MO_run 16 = .ok (.aload_n 0, 1) := by decide +kernel
theorem d_MO_run_17 : decode b_MO_run 17 = .ok (.iconst 1, 1) := by decide +kernel
theorem d_MO_run_18 : decode b_MO_run 18 = .ok (.invokevirtual 119, 3) := by decide +kernel
theorem d_MO_run_21 : decode b_MO_run 21 = .ok (.ireturn, 1) := by decide +kernel
theorem d_MO_run_22 : decode b_MO_run 22 = .ok (.aload_n 0, 1) := by decide +kernel
theorem d_MO_run_23 : decode b_MO_run 23 = .ok (.getfield 321, 3) := by decide +kernel
theorem d_MO_run_26 : decode b_MO_run 26 = .ok (.ifCond .eq 10, 3) := by decide +kernel
theorem d_MO_run_29 : decode b_MO_run 29 = .ok (.aload_n 0, 1) := by decide +kernel
theorem d_MO_run_30 : decode b_MO_run 30 = .ok (.getfield 354, 3) := by decide +kernel
theorem d_MO_run_33 : decode b_MO_run 33 = .ok (.ifCond .le 9, 3) := by decide +kernel
theorem d_MO_run_36 : decode b_MO_run 36 = .ok (.aload_n 0, 1) := by decide +kernel
theorem d_MO_run_37 : decode b_MO_run 37 = .ok (.iconst 2, 1) := by decide +kernel
theorem d_MO_run_38 : decode b_MO_run 38 = .ok (.invokevirtual 119, 3) := by decide +kernel
theorem d_MO_run_41 : decode b_MO_run 41 = .ok (.ireturn, 1) := by decide +kernel
theorem d_MO_run_42 : decode b_MO_run 42 = .ok (.aload_n 0, 1) := by decide +kernel
theorem d_MO_run_43 : decode b_MO_run 43 = .ok (.getfield 351, 3) := by decide +kernel
theorem d_MO_run_46 : decode b_MO_run 46 = .ok (.istore_n 2, 1) := by decide +kernel
theorem d_MO_run_47 : decode b_MO_run 47 = .ok (.aload_n 0, 1) := by decide +kernel
theorem d_MO_run_48 : decode b_MO_run 48 = .ok (.getfield 351, 3) := by decide +kernel
