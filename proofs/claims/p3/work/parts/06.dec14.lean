theorem d_MO_collect_42 : decode b_MO_collect 42 = .ok (.lcmp, 1) := by decide +kernel
theorem d_MO_collect_43 : decode b_MO_collect 43 = .ok (.ifCond .ne 47, 3) := by decide +kernel
theorem d_MO_collect_46 : decode b_MO_collect 46 = .ok (.aload_n 0, 1) := by decide +kernel
theorem d_MO_collect_47 : decode b_MO_collect 47 = .ok (.invokevirtual 249, 3) := by decide +kernel
theorem d_MO_collect_50 : decode b_MO_collect 50 = .ok (.ifCond .eq 40, 3) := by decide +kernel
theorem d_MO_collect_53 : decode b_MO_collect 53 = .ok (.aload_n 0, 1) := by decide +kernel
theorem d_MO_collect_54 : decode b_MO_collect 54 = .ok (.getfield 240, 3) := by decide +kernel
theorem d_MO_collect_57 : decode b_MO_collect 57 = .ok (.bipush 8, 2) := by decide +kernel
theorem d_MO_collect_59 : decode b_MO_collect 59 = .ok (.if_icmp .ge 31, 3) := by decide +kernel
theorem d_MO_collect_62 : decode b_MO_collect 62 = .ok (.aload_n 0, 1) := by decide +kernel
theorem d_MO_collect_63 : decode b_MO_collect 63 = .ok (.getfield 63, 3) := by decide +kernel
theorem d_MO_collect_66 : decode b_MO_collect 66 = .ok (.aload_n 0, 1) := by decide +kernel
theorem d_MO_collect_67 : decode b_MO_collect 67 = .ok (.getfield 240, 3) := by decide +kernel
theorem d_MO_collect_70 : decode b_MO_collect 70 = .ok (.aload_n 0, 1) := by decide +kernel
theorem d_MO_collect_71 : decode b_MO_collect 71 = .ok (.getfield 16, 3) := by decide +kernel
theorem d_MO_collect_74 : decode b_MO_collect 74 = .ok (.aload_n 0, 1) := by decide +kernel
theorem d_MO_collect_75 : decode b_MO_collect 75 = .ok (.getfield 158, 3) := by decide +kernel
theorem d_MO_collect_78 : decode b_MO_collect 78 = .ok (.laload, 1) := by decide +kernel
theorem d_MO_collect_79 : decode b_MO_collect 79 = .ok (.lastore, 1) := by decide +kernel
theorem d_MO_collect_80 : decode b_MO_collect 80 = .ok (.aload_n 0, 1) := by decide +kernel
theorem d_MO_collect_81 : decode b_MO_collect 81 = .ok (.dup, 1) := by decide +kernel
theorem d_MO_collect_82 : decode b_MO_collect 82 = .ok (.getfield 240, 3) := by decide +kernel
theorem d_MO_collect_85 : decode b_MO_collect 85 = .ok (.iconst 1, 1) := by decide +kernel
theorem d_MO_collect_86 : decode b_MO_collect 86 = .ok (.iadd, 1) := by decide +kernel
theorem d_MO_collect_87 : decode b_MO_collect 87 = .ok (.putfield 240, 3) := by decide +kernel
theorem d_MO_collect_90 : decode b_MO_collect 90 = .ok (.iinc 1 1, 3) := by decide +kernel
theorem d_MO_collect_93 : decode b_MO_collect 93 = .ok (.goto (-86), 3) := by decide +kernel
theorem d_MO_collect_96 : decode b_MO_collect 96 = .ok (.return_, 1) := by decide +kernel
theorem d_MO_definition_0 : decode b_MO_definition 0 = .ok (.aload_n 0, 1) := by decide +kernel
theorem d_MO_definition_1 : decode b_MO_definition 1 = .ok (.dup, 1) := by decide +kernel
theorem d_MO_definition_2 : decode b_MO_definition 2 = .ok (.getfield 158, 3) := by decide +kernel
theorem d_MO_definition_5 : decode b_MO_definition 5 = .ok (.iconst 1, 1) := by decide +kernel
theorem d_MO_definition_6 : decode b_MO_definition 6 = .ok (.iadd, 1) := by decide +kernel
theorem d_MO_definition_7 : decode b_MO_definition 7 = .ok (.putfield 158, 3) := by decide +kernel
theorem d_MO_definition_10 : decode b_MO_definition 10 = .ok (.aload_n 0, 1) := by decide +kernel
theorem d_MO_definition_11 : decode b_MO_definition 11 = .ok (.iconst 0, 1) := by decide +kernel
theorem d_MO_definition_12 : decode b_MO_definition 12 = .ok (.putfield 237, 3) := by decide +kernel
theorem d_MO_definition_15 : decode b_MO_definition 15 = .ok (.aload_n 0, 1) := by decide +kernel
theorem d_MO_definition_16 : decode b_MO_definition 16 = .ok (.aload_n 0, 1) := by decide +kernel
theorem d_MO_definition_17 : decode b_MO_definition 17 = .ok (.invokevirtual 249, 3) := by decide +kernel
theorem d_MO_definition_20 : decode b_MO_definition 20 = .ok (.invokevirtual 269, 3) := by decide +kernel
theorem d_MO_definition_23 : decode b_MO_definition 23 = .ok (.aload_n 0, 1) := by decide +kernel
theorem d_MO_definition_24 : decode b_MO_definition 24 = .ok (.getfield 128, 3) := by decide +kernel
theorem d_MO_definition_27 : decode b_MO_definition 27 = .ok (.ifCond .ne 100, 3) := by decide +kernel
theorem d_MO_definition_30 : decode b_MO_definition 30 = .ok (.aload_n 0, 1) := by decide +kernel
theorem d_MO_definition_31 : decode b_MO_definition 31 = .ok (.getfield 237, 3) := by decide +kernel
theorem d_MO_definition_34 : decode b_MO_definition 34 = .ok (.bipush 6, 2) := by decide +kernel
theorem d_MO_definition_36 : decode b_MO_definition 36 = .ok (.if_icmp .ge 91, 3) := by decide +kernel
theorem d_MO_definition_39 : decode b_MO_definition 39 = .ok (.aload_n 0, 1) := by decide +kernel
theorem d_MO_definition_40 : decode b_MO_definition 40 = .ok (.invokevirtual 249, 3) := by decide +kernel
theorem d_MO_definition_43 : decode b_MO_definition 43 = .ok (.ifCond .eq 84, 3) := by decide +kernel
theorem d_MO_definition_46 : decode b_MO_definition 46 = .ok (.iconst 0, 1) := by decide +kernel
theorem d_MO_definition_47 : decode b_MO_definition 47 = .ok (.istore_n 2, 1) := by decide +kernel
theorem d_MO_definition_48 : decode b_MO_definition 48 = .ok (.iload_n 2, 1) := by decide +kernel
theorem d_MO_definition_49 : decode b_MO_definition 49 = .ok (.aload_n 0, 1) := by decide +kernel
theorem d_MO_definition_50 : decode b_MO_definition 50 = .ok (.getfield 237, 3) := by decide +kernel
theorem d_MO_definition_53 : decode b_MO_definition 53 = .ok (.if_icmp .ge 33, 3) := by decide +kernel
theorem d_MO_definition_56 : decode b_MO_definition 56 = .ok (.aload_n 0, 1) := by decide +kernel
theorem d_MO_definition_57 : decode b_MO_definition 57 = .ok (.getfield 60, 3) := by decide +kernel
theorem d_MO_definition_60 : decode b_MO_definition 60 = .ok (.iload_n 2, 1) := by decide +kernel
theorem d_MO_definition_61 : decode b_MO_definition 61 = .ok (.laload, 1) := by decide +kernel
theorem d_MO_definition_62 : decode b_MO_definition 62 = .ok (.aload_n 0, 1) := by decide +kernel
theorem d_MO_definition_63 : decode b_MO_definition 63 = .ok (.getfield 16, 3) := by decide +kernel
theorem d_MO_definition_66 : decode b_MO_definition 66 = .ok (.aload_n 0, 1) := by decide +kernel
theorem d_MO_definition_67 : decode b_MO_definition 67 = .ok (.getfield 158, 3) := by decide +kernel
theorem d_MO_definition_70 : decode b_MO_definition 70 = .ok (.laload, 1) := by decide +kernel
theorem d_MO_definition_71 : decode b_MO_definition 71 = .ok (.lcmp, 1) := by decide +kernel
theorem d_MO_definition_72 : decode b_MO_definition 72 = .ok (.ifCond .ne 8, 3) := by decide +kernel
theorem d_MO_definition_75 : decode b_MO_definition 75 = .ok (.aload_n 0, 1) := by decide +kernel
theorem d_MO_definition_76 : decode b_MO_definition 76 = .ok (.iconst 1, 1) := by decide +kernel
theorem d_MO_definition_77 : decode b_MO_definition 77 = .ok (.invokevirtual 134, 3) := by decide +kernel
theorem d_MO_definition_80 : decode b_MO_definition 80 = .ok (.iinc 2 1, 3) := by decide +kernel
theorem d_MO_definition_83 : decode b_MO_definition 83 = .ok (.goto (-35), 3) := by decide +kernel
theorem d_MO_definition_86 : decode b_MO_definition 86 = .ok (.aload_n 0, 1) := by decide +kernel
theorem d_MO_definition_87 : decode b_MO_definition 87 = .ok (.getfield 60, 3) := by decide +kernel
theorem d_MO_definition_90 : decode b_MO_definition 90 = .ok (.aload_n 0, 1) := by decide +kernel
theorem d_MO_definition_91 : decode b_MO_definition 91 = .ok (.getfield 237, 3) := by decide +kernel
theorem d_MO_definition_94 : decode b_MO_definition 94 = .ok (.aload_n 0, 1) := by decide +kernel
theorem d_MO_definition_95 : decode b_MO_definition 95 = .ok (.getfield 16, 3) := by decide +kernel
theorem d_MO_definition_98 : decode b_MO_definition 98 = .ok (.aload_n 0, 1) := by decide +kernel
theorem d_MO_definition_99 : decode b_MO_definition 99 = .ok (.getfield 158, 3) := by decide +kernel
theorem d_MO_definition_102 : decode b_MO_definition 102 = .ok (.laload, 1) := by decide +kernel
theorem d_MO_definition_103 : decode b_MO_definition 103 = .ok (.lastore, 1) := by decide +kernel
theorem d_MO_definition_104 : decode b_MO_definition 104 = .ok (.aload_n 0, 1) := by decide +kernel
theorem d_MO_definition_105 : decode b_MO_definition 105 = .ok (.dup, 1) := by decide +kernel
theorem d_MO_definition_106 : decode b_MO_definition 106 = .ok (.getfield 237, 3) := by decide +kernel
theorem d_MO_definition_109 : decode b_MO_definition 109 = .ok (.iconst 1, 1) := by decide +kernel
theorem d_MO_definition_110 : decode b_MO_definition 110 = .ok (.iadd, 1) := by decide +kernel
theorem d_MO_definition_111 : decode b_MO_definition 111 = .ok (.putfield 237, 3) := by decide +kernel
theorem d_MO_definition_114 : decode b_MO_definition 114 = .ok (.aload_n 0, 1) := by decide +kernel
theorem d_MO_definition_115 : decode b_MO_definition 115 = .ok (.dup, 1) := by decide +kernel
theorem d_MO_definition_116 : decode b_MO_definition 116 = .ok (.getfield 158, 3) := by decide +kernel
theorem d_MO_definition_119 : decode b_MO_definition 119 = .ok (.iconst 1, 1) := by decide +kernel
theorem d_MO_definition_120 : decode b_MO_definition 120 = .ok (.iadd, 1) := by decide +kernel
theorem d_MO_definition_121 : decode b_MO_definition 121 = .ok (.putfield 158, 3) := by decide +kernel
theorem d_MO_definition_124 : decode b_MO_definition 124 = .ok (.goto (-101), 3) := by decide +kernel
theorem d_MO_definition_127 : decode b_MO_definition 127 = .ok (.aload_n 0, 1) := by decide +kernel
theorem d_MO_definition_128 : decode b_MO_definition 128 = .ok (.getfield 128, 3) := by decide +kernel
theorem d_MO_definition_131 : decode b_MO_definition 131 = .ok (.ifCond .ne 13, 3) := by decide +kernel
theorem d_MO_definition_134 : decode b_MO_definition 134 = .ok (.aload_n 0, 1) := by decide +kernel
theorem d_MO_definition_135 : decode b_MO_definition 135 = .ok (.aload_n 0, 1) := by decide +kernel
theorem d_MO_definition_136 : decode b_MO_definition 136 = .ok (.bipush 61, 2) := by decide +kernel
theorem d_MO_definition_138 : decode b_MO_definition 138 = .ok (.invokevirtual 253, 3) := by decide +kernel
theorem d_MO_definition_141 : decode b_MO_definition 141 = .ok (.invokevirtual 269, 3) := by decide +kernel
theorem d_MO_definition_144 : decode b_MO_definition 144 = .ok (.aload_n 0, 1) := by decide +kernel
theorem d_MO_definition_145 : decode b_MO_definition 145 = .ok (.getfield 128, 3) := by decide +kernel
theorem d_MO_definition_148 : decode b_MO_definition 148 = .ok (.ifCond .ne 14, 3) := by decide +kernel
theorem d_MO_definition_151 : decode b_MO_definition 151 = .ok (.iload_n 1, 1) := by decide +kernel
theorem d_MO_definition_152 : decode b_MO_definition 152 = .ok (.bipush 8, 2) := by decide +kernel
theorem d_MO_definition_154 : decode b_MO_definition 154 = .ok (.if_icmp .ne 8, 3) := by decide +kernel
theorem d_MO_definition_157 : decode b_MO_definition 157 = .ok (.aload_n 0, 1) := by decide +kernel
theorem d_MO_definition_158 : decode b_MO_definition 158 = .ok (.iconst 2, 1) := by decide +kernel
theorem d_MO_definition_159 : decode b_MO_definition 159 = .ok (.invokevirtual 134, 3) := by decide +kernel
theorem d_MO_definition_162 : decode b_MO_definition 162 = .ok (.aload_n 0, 1) := by decide +kernel
theorem d_MO_definition_163 : decode b_MO_definition 163 = .ok (.getfield 128, 3) := by decide +kernel
theorem d_MO_definition_166 : decode b_MO_definition 166 = .ok (.ifCond .ne 10, 3) := by decide +kernel
theorem d_MO_definition_169 : decode b_MO_definition 169 = .ok (.aload_n 0, 1) := by decide +kernel
theorem d_MO_definition_170 : decode b_MO_definition 170 = .ok (.invokevirtual 318, 3) := by decide +kernel
theorem d_MO_definition_173 : decode b_MO_definition 173 = .ok (.goto 4, 3) := by decide +kernel
theorem d_MO_definition_176 : decode b_MO_definition 176 = .ok (.lconst 0, 1) := by decide +kernel
theorem d_MO_definition_177 : decode b_MO_definition 177 = .ok (.lstore_n 2, 1) := by decide +kernel
theorem d_MO_definition_178 : decode b_MO_definition 178 = .ok (.aload_n 0, 1) := by decide +kernel
theorem d_MO_definition_179 : decode b_MO_definition 179 = .ok (.getfield 128, 3) := by decide +kernel
theorem d_MO_definition_182 : decode b_MO_definition 182 = .ok (.ifCond .ne 13, 3) := by decide +kernel
theorem d_MO_definition_185 : decode b_MO_definition 185 = .ok (.aload_n 0, 1) := by decide +kernel
theorem d_MO_definition_186 : decode b_MO_definition 186 = .ok (.aload_n 0, 1) := by decide +kernel
theorem d_MO_definition_187 : decode b_MO_definition 187 = .ok (.bipush 59, 2) := by decide +kernel
theorem d_MO_definition_189 : decode b_MO_definition 189 = .ok (.invokevirtual 253, 3) := by decide +kernel
theorem d_MO_definition_192 : decode b_MO_definition 192 = .ok (.invokevirtual 269, 3) := by decide +kernel
theorem d_MO_definition_195 : decode b_MO_definition 195 = .ok (.aload_n 0, 1) := by decide +kernel
theorem d_MO_definition_196 : decode b_MO_definition 196 = .ok (.getfield 128, 3) := by decide +kernel
theorem d_MO_definition_199 : decode b_MO_definition 199 = .ok (.ifCond .ne 37, 3) := by decide +kernel
theorem d_MO_definition_202 : decode b_MO_definition 202 = .ok (.aload_n 0, 1) := by decide +kernel
theorem d_MO_definition_203 : decode b_MO_definition 203 = .ok (.getfield 237, 3) := by decide +kernel
theorem d_MO_definition_206 : decode b_MO_definition 206 = .ok (.ifCond .le 30, 3) := by decide +kernel
theorem d_MO_definition_209 : decode b_MO_definition 209 = .ok (.aload_n 0, 1) := by decide +kernel
theorem d_MO_definition_210 : decode b_MO_definition 210 = .ok (.dup, 1) := by decide +kernel
theorem d_MO_definition_211 : decode b_MO_definition 211 = .ok (.getfield 237, 3) := by decide +kernel
theorem d_MO_definition_214 : decode b_MO_definition 214 = .ok (.iconst 1, 1) := by decide +kernel
theorem d_MO_definition_215 : decode b_MO_definition 215 = .ok (.isub, 1) := by decide +kernel
theorem d_MO_definition_216 : decode b_MO_definition 216 = .ok (.putfield 237, 3) := by decide +kernel
theorem d_MO_definition_219 : decode b_MO_definition 219 = .ok (.aload_n 0, 1) := by decide +kernel
theorem d_MO_definition_220 : decode b_MO_definition 220 = .ok (.lload_n 2, 1) := by decide +kernel
theorem d_MO_definition_221 : decode b_MO_definition 221 = .ok (.iconst 4, 1) := by decide +kernel
theorem d_MO_definition_222 : decode b_MO_definition 222 = .ok (.aload_n 0, 1) := by decide +kernel
theorem d_MO_definition_223 : decode b_MO_definition 223 = .ok (.getfield 237, 3) := by decide +kernel
theorem d_MO_definition_226 : decode b_MO_definition 226 = .ok (.invokestatic 171, 3) := by decide +kernel
theorem d_MO_definition_229 : decode b_MO_definition 229 = .ok (.invokevirtual 295, 3) := by decide +kernel
theorem d_MO_definition_232 : decode b_MO_definition 232 = .ok (.lstore_n 2, 1) := by decide +kernel
theorem d_MO_definition_233 : decode b_MO_definition 233 = .ok (.goto (-38), 3) := by decide +kernel
theorem d_MO_definition_236 : decode b_MO_definition 236 = .ok (.lload_n 2, 1) := by decide +kernel
theorem d_MO_definition_237 : decode b_MO_definition 237 = .ok (.lreturn, 1) := by decide +kernel
theorem d_MO_keepForm_0 : decode b_MO_keepForm 0 = .ok (.aload_n 0, 1) := by decide +kernel
theorem d_MO_keepForm_1 : decode b_MO_keepForm 1 = .ok (.getfield 66, 3) := by decide +kernel
theorem d_MO_keepForm_4 : decode b_MO_keepForm 4 = .ok (.iload_n 1, 1) := by decide +kernel
theorem d_MO_keepForm_5 : decode b_MO_keepForm 5 = .ok (.laload, 1) := by decide +kernel
theorem d_MO_keepForm_6 : decode b_MO_keepForm 6 = .ok (.lstore_n 2, 1) := by decide +kernel
theorem d_MO_keepForm_7 : decode b_MO_keepForm 7 = .ok (.aload_n 0, 1) := by decide +kernel
theorem d_MO_keepForm_8 : decode b_MO_keepForm 8 = .ok (.getfield 69, 3) := by decide +kernel
theorem d_MO_keepForm_11 : decode b_MO_keepForm 11 = .ok (.iconst 3, 1) := by decide +kernel
theorem d_MO_keepForm_12 : decode b_MO_keepForm 12 = .ok (.iload_n 1, 1) := by decide +kernel
theorem d_MO_keepForm_13 : decode b_MO_keepForm 13 = .ok (.imul, 1) := by decide +kernel
theorem d_MO_keepForm_14 : decode b_MO_keepForm 14 = .ok (.aload_n 0, 1) := by decide +kernel
theorem d_MO_keepForm_15 : decode b_MO_keepForm 15 = .ok (.lload_n 2, 1) := by decide +kernel
theorem d_MO_keepForm_16 : decode b_MO_keepForm 16 = .ok (.invokevirtual 205, 3) := by decide +kernel
theorem d_MO_keepForm_19 : decode b_MO_keepForm 19 = .ok (.iastore, 1) := by decide +kernel
theorem d_MO_keepForm_20 : decode b_MO_keepForm 20 = .ok (.iconst 0, 1) := by decide +kernel
theorem d_MO_keepForm_21 : decode b_MO_keepForm 21 = .ok (.istore 4, 2) := by decide +kernel
theorem d_MO_keepForm_23 : decode b_MO_keepForm 23 = .ok (.lload_n 2, 1) := by decide +kernel
theorem d_MO_keepForm_24 : decode b_MO_keepForm 24 = .ok (.invokestatic 186, 3) := by decide +kernel
theorem d_MO_keepForm_27 : decode b_MO_keepForm 27 = .ok (.iconst 3, 1) := by decide +kernel
theorem d_MO_keepForm_28 : decode b_MO_keepForm 28 = .ok (.if_icmp .ne 19, 3) := by decide +kernel
theorem d_MO_keepForm_31 : decode b_MO_keepForm 31 = .ok (.aload_n 0, 1) := by decide +kernel
theorem d_MO_keepForm_32 : decode b_MO_keepForm 32 = .ok (.getfield 20, 3) := by decide +kernel
theorem d_MO_keepForm_35 : decode b_MO_keepForm 35 = .ok (.lload_n 2, 1) := by decide +kernel
theorem d_MO_keepForm_36 : decode b_MO_keepForm 36 = .ok (.invokestatic 182, 3) := by decide +kernel
theorem d_MO_keepForm_39 : decode b_MO_keepForm 39 = .ok (.laload, 1) := by decide +kernel
theorem d_MO_keepForm_40 : decode b_MO_keepForm 40 = .ok (.lstore_n 2, 1) := by decide +kernel
theorem d_MO_keepForm_41 : decode b_MO_keepForm 41 = .ok (.iinc 4 1, 3) := by decide +kernel
theorem d_MO_keepForm_44 : decode b_MO_keepForm 44 = .ok (.goto (-21), 3) := by decide +kernel
theorem d_MO_keepForm_47 : decode b_MO_keepForm 47 = .ok (.aload_n 0, 1) := by decide +kernel
theorem d_MO_keepForm_48 : decode b_MO_keepForm 48 = .ok (.getfield 69, 3) := by decide +kernel
theorem d_MO_keepForm_51 : decode b_MO_keepForm 51 = .ok (.iconst 3, 1) := by decide +kernel
theorem d_MO_keepForm_52 : decode b_MO_keepForm 52 = .ok (.iload_n 1, 1) := by decide +kernel
theorem d_MO_keepForm_53 : decode b_MO_keepForm 53 = .ok (.imul, 1) := by decide +kernel
theorem d_MO_keepForm_54 : decode b_MO_keepForm 54 = .ok (.iconst 1, 1) := by decide +kernel
theorem d_MO_keepForm_55 : decode b_MO_keepForm 55 = .ok (.iadd, 1) := by decide +kernel
theorem d_MO_keepForm_56 : decode b_MO_keepForm 56 = .ok (.iload 4, 2) := by decide +kernel
theorem d_MO_keepForm_58 : decode b_MO_keepForm 58 = .ok (.iastore, 1) := by decide +kernel
theorem d_MO_keepForm_59 : decode b_MO_keepForm 59 = .ok (.aload_n 0, 1) := by decide +kernel
theorem d_MO_keepForm_60 : decode b_MO_keepForm 60 = .ok (.getfield 69, 3) := by decide +kernel
theorem d_MO_keepForm_63 : decode b_MO_keepForm 63 = .ok (.iconst 3, 1) := by decide +kernel
theorem d_MO_keepForm_64 : decode b_MO_keepForm 64 = .ok (.iload_n 1, 1) := by decide +kernel
theorem d_MO_keepForm_65 : decode b_MO_keepForm 65 = .ok (.imul, 1) := by decide +kernel
theorem d_MO_keepForm_66 : decode b_MO_keepForm 66 = .ok (.iconst 2, 1) := by decide +kernel
theorem d_MO_keepForm_67 : decode b_MO_keepForm 67 = .ok (.iadd, 1) := by decide +kernel
theorem d_MO_keepForm_68 : decode b_MO_keepForm 68 = .ok (.lload_n 2, 1) := by decide +kernel
theorem d_MO_keepForm_69 : decode b_MO_keepForm 69 = .ok (.invokestatic 186, 3) := by decide +kernel
theorem d_MO_keepForm_72 : decode b_MO_keepForm 72 = .ok (.iconst 2, 1) := by decide +kernel
theorem d_MO_keepForm_73 : decode b_MO_keepForm 73 = .ok (.if_icmp .ne 10, 3) := by decide +kernel
theorem d_MO_keepForm_76 : decode b_MO_keepForm 76 = .ok (.lload_n 2, 1) := by decide +kernel
theorem d_MO_keepForm_77 : decode b_MO_keepForm 77 = .ok (.invokestatic 182, 3) := by decide +kernel
theorem d_MO_keepForm_80 : decode b_MO_keepForm 80 = .ok (.goto 7, 3) := by decide +kernel
theorem d_MO_keepForm_83 : decode b_MO_keepForm 83 = .ok (.lload_n 2, 1) := by decide +kernel
theorem d_MO_keepForm_84 : decode b_MO_keepForm 84 = .ok (.invokestatic 186, 3) := by decide +kernel
theorem d_MO_keepForm_87 : decode b_MO_keepForm 87 = .ok (.iastore, 1) := by decide +kernel
theorem d_MO_keepForm_88 : decode b_MO_keepForm 88 = .ok (.return_, 1) := by decide +kernel
theorem d_MO_moved_0 : decode b_MO_moved 0 = .ok (.lload_n 1, 1) := by decide +kernel
theorem d_MO_moved_1 : decode b_MO_moved 1 = .ok (.invokestatic 186, 3) := by decide +kernel
theorem d_MO_moved_4 : decode b_MO_moved 4 = .ok (.iconst 3, 1) := by decide +kernel
theorem d_MO_moved_5 : decode b_MO_moved 5 = .ok (.if_icmp .eq 5, 3) := by decide +kernel
theorem d_MO_moved_8 : decode b_MO_moved 8 = .ok (.lload_n 1, 1) := by decide +kernel
theorem d_MO_moved_9 : decode b_MO_moved 9 = .ok (.lreturn, 1) := by decide +kernel
theorem d_MO_moved_10 : decode b_MO_moved 10 = .ok (.aload_n 0, 1) := by decide +kernel
theorem d_MO_moved_11 : decode b_MO_moved 11 = .ok (.lload_n 1, 1) := by decide +kernel
theorem d_MO_moved_12 : decode b_MO_moved 12 = .ok (.invokevirtual 205, 3) := by decide +kernel
theorem d_MO_moved_15 : decode b_MO_moved 15 = .ok (.istore 4, 2) := by decide +kernel
theorem d_MO_moved_17 : decode b_MO_moved 17 = .ok (.iconst 0, 1) := by decide +kernel
theorem d_MO_moved_18 : decode b_MO_moved 18 = .ok (.istore 5, 2) := by decide +kernel
theorem d_MO_moved_20 : decode b_MO_moved 20 = .ok (.iload 5, 2) := by decide +kernel
theorem d_MO_moved_22 : decode b_MO_moved 22 = .ok (.iload 4, 2) := by decide +kernel
theorem d_MO_moved_24 : decode b_MO_moved 24 = .ok (.if_icmp .ge 25, 3) := by decide +kernel
theorem d_MO_moved_27 : decode b_MO_moved 27 = .ok (.aload_n 0, 1) := by decide +kernel
theorem d_MO_moved_28 : decode b_MO_moved 28 = .ok (.getfield 105, 3) := by decide +kernel
theorem d_MO_moved_31 : decode b_MO_moved 31 = .ok (.aload_n 0, 1) := by decide +kernel
theorem d_MO_moved_32 : decode b_MO_moved 32 = .ok (.getfield 29, 3) := by decide +kernel
theorem d_MO_moved_35 : decode b_MO_moved 35 = .ok (.iload 5, 2) := by decide +kernel
theorem d_MO_moved_37 : decode b_MO_moved 37 = .ok (.iaload, 1) := by decide +kernel
theorem d_MO_moved_38 : decode b_MO_moved 38 = .ok (.iload_n 3, 1) := by decide +kernel
theorem d_MO_moved_39 : decode b_MO_moved 39 = .ok (.iload 5, 2) := by decide +kernel
theorem d_MO_moved_41 : decode b_MO_moved 41 = .ok (.iadd, 1) := by decide +kernel
theorem d_MO_moved_42 : decode b_MO_moved 42 = .ok (.iastore, 1) := by decide +kernel
theorem d_MO_moved_43 : decode b_MO_moved 43 = .ok (.iinc 5 1, 3) := by decide +kernel
theorem d_MO_moved_46 : decode b_MO_moved 46 = .ok (.goto (-26), 3) := by decide +kernel
theorem d_MO_moved_49 : decode b_MO_moved 49 = .ok (.iconst 0, 1) := by decide +kernel
theorem d_MO_moved_50 : decode b_MO_moved 50 = .ok (.istore 5, 2) := by decide +kernel
theorem d_MO_moved_52 : decode b_MO_moved 52 = .ok (.iload 5, 2) := by decide +kernel
theorem d_MO_moved_54 : decode b_MO_moved 54 = .ok (.iload 4, 2) := by decide +kernel
theorem d_MO_moved_56 : decode b_MO_moved 56 = .ok (.if_icmp .ge 111, 3) := by decide +kernel
theorem d_MO_moved_59 : decode b_MO_moved 59 = .ok (.aload_n 0, 1) := by decide +kernel
theorem d_MO_moved_60 : decode b_MO_moved 60 = .ok (.getfield 20, 3) := by decide +kernel
theorem d_MO_moved_63 : decode b_MO_moved 63 = .ok (.aload_n 0, 1) := by decide +kernel
theorem d_MO_moved_64 : decode b_MO_moved 64 = .ok (.getfield 29, 3) := by decide +kernel
theorem d_MO_moved_67 : decode b_MO_moved 67 = .ok (.iload 5, 2) := by decide +kernel
theorem d_MO_moved_69 : decode b_MO_moved 69 = .ok (.iaload, 1) := by decide +kernel
theorem d_MO_moved_70 : decode b_MO_moved 70 = .ok (.laload, 1) := by decide +kernel
theorem d_MO_moved_71 : decode b_MO_moved 71 = .ok (.lstore 6, 2) := by decide +kernel
theorem d_MO_moved_73 : decode b_MO_moved 73 = .ok (.aload_n 0, 1) := by decide +kernel
theorem d_MO_moved_74 : decode b_MO_moved 74 = .ok (.getfield 23, 3) := by decide +kernel
theorem d_MO_moved_77 : decode b_MO_moved 77 = .ok (.aload_n 0, 1) := by decide +kernel
theorem d_MO_moved_78 : decode b_MO_moved 78 = .ok (.getfield 29, 3) := by decide +kernel
theorem d_MO_moved_81 : decode b_MO_moved 81 = .ok (.iload 5, 2) := by decide +kernel
theorem d_MO_moved_83 : decode b_MO_moved 83 = .ok (.iaload, 1) := by decide +kernel
theorem d_MO_moved_84 : decode b_MO_moved 84 = .ok (.laload, 1) := by decide +kernel
theorem d_MO_moved_85 : decode b_MO_moved 85 = .ok (.lstore 8, 2) := by decide +kernel
theorem d_MO_moved_87 : decode b_MO_moved 87 = .ok (.aload_n 0, 1) := by decide +kernel
theorem d_MO_moved_88 : decode b_MO_moved 88 = .ok (.getfield 72, 3) := by decide +kernel
theorem d_MO_moved_91 : decode b_MO_moved 91 = .ok (.iload_n 3, 1) := by decide +kernel
theorem d_MO_moved_92 : decode b_MO_moved 92 = .ok (.iload 5, 2) := by decide +kernel
theorem d_MO_moved_94 : decode b_MO_moved 94 = .ok (.iadd, 1) := by decide +kernel
theorem d_MO_moved_95 : decode b_MO_moved 95 = .ok (.lload 6, 2) := by decide +kernel
theorem d_MO_moved_97 : decode b_MO_moved 97 = .ok (.invokestatic 186, 3) := by decide +kernel
theorem d_MO_moved_100 : decode b_MO_moved 100 = .ok (.iconst 3, 1) := by decide +kernel
theorem d_MO_moved_101 : decode b_MO_moved 101 = .ok (.if_icmp .ne 20, 3) := by decide +kernel
theorem d_MO_moved_104 : decode b_MO_moved 104 = .ok (.iconst 3, 1) := by decide +kernel
theorem d_MO_moved_105 : decode b_MO_moved 105 = .ok (.aload_n 0, 1) := by decide +kernel
theorem d_MO_moved_106 : decode b_MO_moved 106 = .ok (.getfield 105, 3) := by decide +kernel
theorem d_MO_moved_109 : decode b_MO_moved 109 = .ok (.lload 6, 2) := by decide +kernel
theorem d_MO_moved_111 : decode b_MO_moved 111 = .ok (.invokestatic 182, 3) := by decide +kernel
theorem d_MO_moved_114 : decode b_MO_moved 114 = .ok (.iaload, 1) := by decide +kernel
theorem d_MO_moved_115 : decode b_MO_moved 115 = .ok (.invokestatic 171, 3) := by decide +kernel
theorem d_MO_moved_118 : decode b_MO_moved 118 = .ok (.goto 5, 3) := by decide +kernel
theorem d_MO_moved_121 : decode b_MO_moved 121 = .ok (.lload 6, 2) := by decide +kernel
theorem d_MO_moved_123 : decode b_MO_moved 123 = .ok (.lastore, 1) := by decide +kernel
theorem d_MO_moved_124 : decode b_MO_moved 124 = .ok (.aload_n 0, 1) := by decide +kernel
theorem d_MO_moved_125 : decode b_MO_moved 125 = .ok (.getfield 75, 3) := by decide +kernel
theorem d_MO_moved_128 : decode b_MO_moved 128 = .ok (.iload_n 3, 1) := by decide +kernel
theorem d_MO_moved_129 : decode b_MO_moved 129 = .ok (.iload 5, 2) := by decide +kernel
theorem d_MO_moved_131 : decode b_MO_moved 131 = .ok (.iadd, 1) := by decide +kernel
theorem d_MO_moved_132 : decode b_MO_moved 132 = .ok (.lload 8, 2) := by decide +kernel
theorem d_MO_moved_134 : decode b_MO_moved 134 = .ok (.invokestatic 186, 3) := by decide +kernel
theorem d_MO_moved_137 : decode b_MO_moved 137 = .ok (.iconst 3, 1) := by decide +kernel
theorem d_MO_moved_138 : decode b_MO_moved 138 = .ok (.if_icmp .ne 20, 3) := by decide +kernel
theorem d_MO_moved_141 : decode b_MO_moved 141 = .ok (.iconst 3, 1) := by decide +kernel
theorem d_MO_moved_142 : decode b_MO_moved 142 = .ok (.aload_n 0, 1) := by decide +kernel
theorem d_MO_moved_143 : decode b_MO_moved 143 = .ok (.getfield 105, 3) := by decide +kernel
theorem d_MO_moved_146 : decode b_MO_moved 146 = .ok (.lload 8, 2) := by decide +kernel
theorem d_MO_moved_148 : decode b_MO_moved 148 = .ok (.invokestatic 182, 3) := by decide +kernel
theorem d_MO_moved_151 : decode b_MO_moved 151 = .ok (.iaload, 1) := by decide +kernel
theorem d_MO_moved_152 : decode b_MO_moved 152 = .ok (.invokestatic 171, 3) := by decide +kernel
theorem d_MO_moved_155 : decode b_MO_moved 155 = .ok (.goto 5, 3) := by decide +kernel
theorem d_MO_moved_158 : decode b_MO_moved 158 = .ok (.lload 8, 2) := by decide +kernel
theorem d_MO_moved_160 : decode b_MO_moved 160 = .ok (.lastore, 1) := by decide +kernel
theorem d_MO_moved_161 : decode b_MO_moved 161 = .ok (.iinc 5 1, 3) := by decide +kernel
theorem d_MO_moved_164 : decode b_MO_moved 164 = .ok (.goto (-112), 3) := by decide +kernel
theorem d_MO_moved_167 : decode b_MO_moved 167 = .ok (.iconst 3, 1) := by decide +kernel
theorem d_MO_moved_168 : decode b_MO_moved 168 = .ok (.iload_n 3, 1) := by decide +kernel
theorem d_MO_moved_169 : decode b_MO_moved 169 = .ok (.invokestatic 171, 3) := by decide +kernel
theorem d_MO_moved_172 : decode b_MO_moved 172 = .ok (.lreturn, 1) := by decide +kernel
theorem d_MO_read_0 : decode b_MO_read 0 = .ok (.aload_n 0, 1) := by decide +kernel
theorem d_MO_read_1 : decode b_MO_read 1 = .ok (.iconst 0, 1) := by decide +kernel
theorem d_MO_read_2 : decode b_MO_read 2 = .ok (.putfield 112, 3) := by decide +kernel
theorem d_MO_read_5 : decode b_MO_read 5 = .ok (.aload_n 0, 1) := by decide +kernel
theorem d_MO_read_6 : decode b_MO_read 6 = .ok (.iconst 0, 1) := by decide +kernel
theorem d_MO_read_7 : decode b_MO_read 7 = .ok (.putfield 128, 3) := by decide +kernel
theorem d_MO_read_10 : decode b_MO_read 10 = .ok (.aload_n 0, 1) := by decide +kernel
theorem d_MO_read_11 : decode b_MO_read 11 = .ok (.iconst 0, 1) := by decide +kernel
theorem d_MO_read_12 : decode b_MO_read 12 = .ok (.putfield 321, 3) := by decide +kernel
theorem d_MO_read_15 : decode b_MO_read 15 = .ok (.aload_n 0, 1) := by decide +kernel
theorem d_MO_read_16 : decode b_MO_read 16 = .ok (.iconst 0, 1) := by decide +kernel
theorem d_MO_read_17 : decode b_MO_read 17 = .ok (.putfield 298, 3) := by decide +kernel
theorem d_MO_read_20 : decode b_MO_read 20 = .ok (.aload_n 0, 1) := by decide +kernel
theorem d_MO_read_21 : decode b_MO_read 21 = .ok (.sipush 2000, 3) := by decide +kernel
theorem d_MO_read_24 : decode b_MO_read 24 = .ok (.putfield 175, 3) := by decide +kernel
theorem d_MO_read_27 : decode b_MO_read 27 = .ok (.iconst 0, 1) := by decide +kernel
theorem d_MO_read_28 : decode b_MO_read 28 = .ok (.istore_n 1, 1) := by decide +kernel
theorem d_MO_read_29 : decode b_MO_read 29 = .ok (.iload_n 1, 1) := by decide +kernel
theorem d_MO_read_30 : decode b_MO_read 30 = .ok (.sipush 2000, 3) := by decide +kernel
theorem d_MO_read_33 : decode b_MO_read 33 = .ok (.if_icmp .ge 20, 3) := by decide +kernel
theorem d_MO_read_36 : decode b_MO_read 36 = .ok (.aload_n 0, 1) := by decide +kernel
theorem d_MO_read_37 : decode b_MO_read 37 = .ok (.getfield 26, 3) := by decide +kernel
theorem d_MO_read_40 : decode b_MO_read 40 = .ok (.iload_n 1, 1) := by decide +kernel
theorem d_MO_read_41 : decode b_MO_read 41 = .ok (.sipush 1999, 3) := by decide +kernel
theorem d_MO_read_44 : decode b_MO_read 44 = .ok (.iload_n 1, 1) := by decide +kernel
theorem d_MO_read_45 : decode b_MO_read 45 = .ok (.isub, 1) := by decide +kernel
theorem d_MO_read_46 : decode b_MO_read 46 = .ok (.iastore, 1) := by decide +kernel
theorem d_MO_read_47 : decode b_MO_read 47 = .ok (.iinc 1 1, 3) := by decide +kernel
theorem d_MO_read_50 : decode b_MO_read 50 = .ok (.goto (-21), 3) := by decide +kernel
theorem d_MO_read_53 : decode b_MO_read 53 = .ok (.aload_n 0, 1) := by decide +kernel
theorem d_MO_read_54 : decode b_MO_read 54 = .ok (.invokevirtual 324, 3) := by decide +kernel
theorem d_MO_read_57 : decode b_MO_read 57 = .ok (.aload_n 0, 1) := by decide +kernel
theorem d_MO_read_58 : decode b_MO_read 58 = .ok (.iconst 0, 1) := by decide +kernel
theorem d_MO_read_59 : decode b_MO_read 59 = .ok (.putfield 158, 3) := by decide +kernel
theorem d_MO_read_62 : decode b_MO_read 62 = .ok (.iconst 0, 1) := by decide +kernel
theorem d_MO_read_63 : decode b_MO_read 63 = .ok (.istore_n 1, 1) := by decide +kernel
theorem d_MO_read_64 : decode b_MO_read 64 = .ok (.aload_n 0, 1) := by decide +kernel
theorem d_MO_read_65 : decode b_MO_read 65 = .ok (.getfield 128, 3) := by decide +kernel
theorem d_MO_read_68 : decode b_MO_read 68 = .ok (.ifCond .ne 7, 3) := by decide +kernel
theorem d_MO_read_71 : decode b_MO_read 71 = .ok (.aload_n 0, 1) := by decide +kernel
theorem d_MO_read_72 : decode b_MO_read 72 = .ok (.invokevirtual 327, 3) := by decide +kernel
theorem d_MO_read_75 : decode b_MO_read 75 = .ok (.aload_n 0, 1) := by decide +kernel
theorem d_MO_read_76 : decode b_MO_read 76 = .ok (.iconst 0, 1) := by decide +kernel
theorem d_MO_read_77 : decode b_MO_read 77 = .ok (.putfield 158, 3) := by decide +kernel
theorem d_MO_read_80 : decode b_MO_read 80 = .ok (.aload_n 0, 1) := by decide +kernel
theorem d_MO_read_81 : decode b_MO_read 81 = .ok (.getfield 128, 3) := by decide +kernel
theorem d_MO_read_84 : decode b_MO_read 84 = .ok (.ifCond .ne 39, 3) := by decide +kernel
theorem d_MO_read_87 : decode b_MO_read 87 = .ok (.aload_n 0, 1) := by decide +kernel
theorem d_MO_read_88 : decode b_MO_read 88 = .ok (.ldc2_w 161, 3) := by decide +kernel
theorem d_MO_read_91 : decode b_MO_read 91 = .ok (.invokevirtual 265, 3) := by decide +kernel
theorem d_MO_read_94 : decode b_MO_read 94 = .ok (.ifCond .eq 29, 3) := by decide +kernel
theorem d_MO_read_97 : decode b_MO_read 97 = .ok (.aload_n 0, 1) := by decide +kernel
theorem d_MO_read_98 : decode b_MO_read 98 = .ok (.iload_n 1, 1) := by decide +kernel
theorem d_MO_read_99 : decode b_MO_read 99 = .ok (.invokevirtual 330, 3) := by decide +kernel
theorem d_MO_read_102 : decode b_MO_read 102 = .ok (.lstore_n 2, 1) := by decide +kernel
theorem d_MO_read_103 : decode b_MO_read 103 = .ok (.aload_n 0, 1) := by decide +kernel
theorem d_MO_read_104 : decode b_MO_read 104 = .ok (.getfield 128, 3) := by decide +kernel
theorem d_MO_read_107 : decode b_MO_read 107 = .ok (.ifCond .ne 10, 3) := by decide +kernel
theorem d_MO_read_110 : decode b_MO_read 110 = .ok (.aload_n 0, 1) := by decide +kernel
theorem d_MO_read_111 : decode b_MO_read 111 = .ok (.getfield 66, 3) := by decide +kernel
theorem d_MO_read_114 : decode b_MO_read 114 = .ok (.iload_n 1, 1) := by decide +kernel
theorem d_MO_read_115 : decode b_MO_read 115 = .ok (.lload_n 2, 1) := by decide +kernel
theorem d_MO_read_116 : decode b_MO_read 116 = .ok (.lastore, 1) := by decide +kernel
theorem d_MO_read_117 : decode b_MO_read 117 = .ok (.iinc 1 1, 3) := by decide +kernel
theorem d_MO_read_120 : decode b_MO_read 120 = .ok (.goto (-40), 3) := by decide +kernel
theorem d_MO_read_123 : decode b_MO_read 123 = .ok (.aload_n 0, 1) := by decide +kernel
theorem d_MO_read_124 : decode b_MO_read 124 = .ok (.iconst 0, 1) := by decide +kernel
theorem d_MO_read_125 : decode b_MO_read 125 = .ok (.putfield 237, 3) := by decide +kernel
theorem d_MO_read_128 : decode b_MO_read 128 = .ok (.aload_n 0, 1) := by decide +kernel
theorem d_MO_read_129 : decode b_MO_read 129 = .ok (.getfield 128, 3) := by decide +kernel
theorem d_MO_read_132 : decode b_MO_read 132 = .ok (.ifCond .ne 10, 3) := by decide +kernel
theorem d_MO_read_135 : decode b_MO_read 135 = .ok (.aload_n 0, 1) := by decide +kernel
theorem d_MO_read_136 : decode b_MO_read 136 = .ok (.invokevirtual 318, 3) := by decide +kernel
theorem d_MO_read_139 : decode b_MO_read 139 = .ok (.goto 4, 3) := by decide +kernel
theorem d_MO_read_142 : decode b_MO_read 142 = .ok (.lconst 0, 1) := by decide +kernel
theorem d_MO_read_143 : decode b_MO_read 143 = .ok (.lstore_n 2, 1) := by decide +kernel
theorem d_MO_read_144 : decode b_MO_read 144 = .ok (.aload_n 0, 1) := by decide +kernel
theorem d_MO_read_145 : decode b_MO_read 145 = .ok (.getfield 128, 3) := by decide +kernel
theorem d_MO_read_148 : decode b_MO_read 148 = .ok (.ifCond .ne 21, 3) := by decide +kernel
theorem d_MO_read_151 : decode b_MO_read 151 = .ok (.aload_n 0, 1) := by decide +kernel
theorem d_MO_read_152 : decode b_MO_read 152 = .ok (.getfield 13, 3) := by decide +kernel
theorem d_MO_read_155 : decode b_MO_read 155 = .ok (.aload_n 0, 1) := by decide +kernel
theorem d_MO_read_156 : decode b_MO_read 156 = .ok (.getfield 158, 3) := by decide +kernel
theorem d_MO_read_159 : decode b_MO_read 159 = .ok (.iaload, 1) := by decide +kernel
theorem d_MO_read_160 : decode b_MO_read 160 = .ok (.iconst 3, 1) := by decide +kernel
theorem d_MO_read_161 : decode b_MO_read 161 = .ok (.if_icmp .eq 8, 3) := by decide +kernel
theorem d_MO_read_164 : decode b_MO_read 164 = .ok (.aload_n 0, 1) := by decide +kernel
theorem d_MO_read_165 : decode b_MO_read 165 = .ok (.iconst 1, 1) := by decide +kernel
theorem d_MO_read_166 : decode b_MO_read 166 = .ok (.invokevirtual 134, 3) := by decide +kernel
theorem d_MO_read_169 : decode b_MO_read 169 = .ok (.aload_n 0, 1) := by decide +kernel
theorem d_MO_read_170 : decode b_MO_read 170 = .ok (.getfield 128, 3) := by decide +kernel
theorem d_MO_read_173 : decode b_MO_read 173 = .ok (.ifCond .le 12, 3) := by decide +kernel
theorem d_MO_read_176 : decode b_MO_read 176 = .ok (.aload_n 0, 1) := by decide +kernel
theorem d_MO_read_177 : decode b_MO_read 177 = .ok (.aload_n 0, 1) := by decide +kernel
theorem d_MO_read_178 : decode b_MO_read 178 = .ok (.getfield 128, 3) := by decide +kernel
theorem d_MO_read_181 : decode b_MO_read 181 = .ok (.invokevirtual 119, 3) := by decide +kernel
theorem d_MO_read_184 : decode b_MO_read 184 = .ok (.ireturn, 1) := by decide +kernel
theorem d_MO_read_185 : decode b_MO_read 185 = .ok (.aload_n 0, 1) := by decide +kernel
theorem d_MO_read_186 : decode b_MO_read 186 = .ok (.getfield 66, 3) := by decide +kernel
theorem d_MO_read_189 : decode b_MO_read 189 = .ok (.bipush 8, 2) := by decide +kernel
theorem d_MO_read_191 : decode b_MO_read 191 = .ok (.lload_n 2, 1) := by decide +kernel
