theorem d_MO_operator_25 : decode b_MO_operator 25 = .ok (.aload_n 0, 1) := by decide +kernel
theorem d_MO_operator_26 : decode b_MO_operator 26 = .ok (.getfield 57, 3) := by decide +kernel
theorem d_MO_operator_29 : decode b_MO_operator 29 = .ok (.aload_n 0, 1) := by decide +kernel
theorem d_MO_operator_30 : decode b_MO_operator 30 = .ok (.getfield 227, 3) := by decide +kernel
theorem d_MO_operator_33 : decode b_MO_operator 33 = .ok (.iconst 1, 1) := by decide +kernel
theorem d_MO_operator_34 : decode b_MO_operator 34 = .ok (.isub, 1) := by decide +kernel
theorem d_MO_operator_35 : decode b_MO_operator 35 = .ok (.iaload, 1) := by decide +kernel
theorem d_MO_operator_36 : decode b_MO_operator 36 = .ok (.invokestatic 283, 3) := by decide +kernel
theorem d_MO_operator_39 : decode b_MO_operator 39 = .ok (.iload_n 3, 1) := by decide +kernel
theorem d_MO_operator_40 : decode b_MO_operator 40 = .ok (.if_icmp .gt 26, 3) := by decide +kernel
theorem d_MO_operator_43 : decode b_MO_operator 43 = .ok (.aload_n 0, 1) := by decide +kernel
theorem d_MO_operator_44 : decode b_MO_operator 44 = .ok (.getfield 57, 3) := by decide +kernel
theorem d_MO_operator_47 : decode b_MO_operator 47 = .ok (.aload_n 0, 1) := by decide +kernel
theorem d_MO_operator_48 : decode b_MO_operator 48 = .ok (.getfield 227, 3) := by decide +kernel
theorem d_MO_operator_51 : decode b_MO_operator 51 = .ok (.iconst 1, 1) := by decide +kernel
theorem d_MO_operator_52 : decode b_MO_operator 52 = .ok (.isub, 1) := by decide +kernel
theorem d_MO_operator_53 : decode b_MO_operator 53 = .ok (.iaload, 1) := by decide +kernel
theorem d_MO_operator_54 : decode b_MO_operator 54 = .ok (.invokestatic 283, 3) := by decide +kernel
theorem d_MO_operator_57 : decode b_MO_operator 57 = .ok (.iload_n 3, 1) := by decide +kernel
theorem d_MO_operator_58 : decode b_MO_operator 58 = .ok (.if_icmp .ne 15, 3) := by decide +kernel
theorem d_MO_operator_61 : decode b_MO_operator 61 = .ok (.iload_n 3, 1) := by decide +kernel
theorem d_MO_operator_62 : decode b_MO_operator 62 = .ok (.iconst 2, 1) := by decide +kernel
theorem d_MO_operator_63 : decode b_MO_operator 63 = .ok (.if_icmp .le 10, 3) := by decide +kernel
theorem d_MO_operator_66 : decode b_MO_operator 66 = .ok (.aload_n 0, 1) := by decide +kernel
theorem d_MO_operator_67 : decode b_MO_operator 67 = .ok (.invokevirtual 286, 3) := by decide +kernel
theorem d_MO_operator_70 : decode b_MO_operator 70 = .ok (.goto (-58), 3) := by decide +kernel
theorem d_MO_operator_73 : decode b_MO_operator 73 = .ok (.iload_n 3, 1) := by decide +kernel
theorem d_MO_operator_74 : decode b_MO_operator 74 = .ok (.iconst 2, 1) := by decide +kernel
theorem d_MO_operator_75 : decode b_MO_operator 75 = .ok (.if_icmp .ne 39, 3) := by decide +kernel
theorem d_MO_operator_78 : decode b_MO_operator 78 = .ok (.aload_n 0, 1) := by decide +kernel
theorem d_MO_operator_79 : decode b_MO_operator 79 = .ok (.getfield 227, 3) := by decide +kernel
theorem d_MO_operator_82 : decode b_MO_operator 82 = .ok (.aload_n 0, 1) := by decide +kernel
theorem d_MO_operator_83 : decode b_MO_operator 83 = .ok (.getfield 42, 3) := by decide +kernel
theorem d_MO_operator_86 : decode b_MO_operator 86 = .ok (.iload_n 2, 1) := by decide +kernel
theorem d_MO_operator_87 : decode b_MO_operator 87 = .ok (.iaload, 1) := by decide +kernel
theorem d_MO_operator_88 : decode b_MO_operator 88 = .ok (.if_icmp .le 26, 3) := by decide +kernel
theorem d_MO_operator_91 : decode b_MO_operator 91 = .ok (.aload_n 0, 1) := by decide +kernel
theorem d_MO_operator_92 : decode b_MO_operator 92 = .ok (.getfield 57, 3) := by decide +kernel
theorem d_MO_operator_95 : decode b_MO_operator 95 = .ok (.aload_n 0, 1) := by decide +kernel
theorem d_MO_operator_96 : decode b_MO_operator 96 = .ok (.getfield 227, 3) := by decide +kernel
theorem d_MO_operator_99 : decode b_MO_operator 99 = .ok (.iconst 1, 1) := by decide +kernel
theorem d_MO_operator_100 : decode b_MO_operator 100 = .ok (.isub, 1) := by decide +kernel
theorem d_MO_operator_101 : decode b_MO_operator 101 = .ok (.iaload, 1) := by decide +kernel
theorem d_MO_operator_102 : decode b_MO_operator 102 = .ok (.invokestatic 283, 3) := by decide +kernel
theorem d_MO_operator_105 : decode b_MO_operator 105 = .ok (.iconst 2, 1) := by decide +kernel
theorem d_MO_operator_106 : decode b_MO_operator 106 = .ok (.if_icmp .ne 8, 3) := by decide +kernel
theorem d_MO_operator_109 : decode b_MO_operator 109 = .ok (.aload_n 0, 1) := by decide +kernel
theorem d_MO_operator_110 : decode b_MO_operator 110 = .ok (.iconst 1, 1) := by decide +kernel
theorem d_MO_operator_111 : decode b_MO_operator 111 = .ok (.invokevirtual 134, 3) := by decide +kernel
theorem d_MO_operator_114 : decode b_MO_operator 114 = .ok (.aload_n 0, 1) := by decide +kernel
theorem d_MO_operator_115 : decode b_MO_operator 115 = .ok (.getfield 57, 3) := by decide +kernel
theorem d_MO_operator_118 : decode b_MO_operator 118 = .ok (.aload_n 0, 1) := by decide +kernel
theorem d_MO_operator_119 : decode b_MO_operator 119 = .ok (.getfield 227, 3) := by decide +kernel
theorem d_MO_operator_122 : decode b_MO_operator 122 = .ok (.iload_n 1, 1) := by decide +kernel
theorem d_MO_operator_123 : decode b_MO_operator 123 = .ok (.iastore, 1) := by decide +kernel
theorem d_MO_operator_124 : decode b_MO_operator 124 = .ok (.aload_n 0, 1) := by decide +kernel
theorem d_MO_operator_125 : decode b_MO_operator 125 = .ok (.dup, 1) := by decide +kernel
theorem d_MO_operator_126 : decode b_MO_operator 126 = .ok (.getfield 227, 3) := by decide +kernel
theorem d_MO_operator_129 : decode b_MO_operator 129 = .ok (.iconst 1, 1) := by decide +kernel
theorem d_MO_operator_130 : decode b_MO_operator 130 = .ok (.iadd, 1) := by decide +kernel
theorem d_MO_operator_131 : decode b_MO_operator 131 = .ok (.putfield 227, 3) := by decide +kernel
theorem d_MO_operator_134 : decode b_MO_operator 134 = .ok (.aload_n 0, 1) := by decide +kernel
theorem d_MO_operator_135 : decode b_MO_operator 135 = .ok (.getfield 48, 3) := by decide +kernel
theorem d_MO_operator_138 : decode b_MO_operator 138 = .ok (.iload_n 2, 1) := by decide +kernel
theorem d_MO_operator_139 : decode b_MO_operator 139 = .ok (.iconst 0, 1) := by decide +kernel
theorem d_MO_operator_140 : decode b_MO_operator 140 = .ok (.bastore, 1) := by decide +kernel
theorem d_MO_operator_141 : decode b_MO_operator 141 = .ok (.aload_n 0, 1) := by decide +kernel
theorem d_MO_operator_142 : decode b_MO_operator 142 = .ok (.dup, 1) := by decide +kernel
theorem d_MO_operator_143 : decode b_MO_operator 143 = .ok (.getfield 158, 3) := by decide +kernel
theorem d_MO_operator_146 : decode b_MO_operator 146 = .ok (.iconst 1, 1) := by decide +kernel
theorem d_MO_operator_147 : decode b_MO_operator 147 = .ok (.iadd, 1) := by decide +kernel
theorem d_MO_operator_148 : decode b_MO_operator 148 = .ok (.putfield 158, 3) := by decide +kernel
theorem d_MO_operator_151 : decode b_MO_operator 151 = .ok (.return_, 1) := by decide +kernel
theorem d_MO_ended_0 : decode b_MO_ended 0 = .ok (.aload_n 0, 1) := by decide +kernel
theorem d_MO_ended_1 : decode b_MO_ended 1 = .ok (.getfield 221, 3) := by decide +kernel
theorem d_MO_ended_4 : decode b_MO_ended 4 = .ok (.iconst 1, 1) := by decide +kernel
theorem d_MO_ended_5 : decode b_MO_ended 5 = .ok (.isub, 1) := by decide +kernel
theorem d_MO_ended_6 : decode b_MO_ended 6 = .ok (.istore_n 1, 1) := by decide +kernel
theorem d_MO_ended_7 : decode b_MO_ended 7 = .ok (.aload_n 0, 1) := by decide +kernel
theorem d_MO_ended_8 : decode b_MO_ended 8 = .ok (.getfield 227, 3) := by decide +kernel
theorem d_MO_ended_11 : decode b_MO_ended 11 = .ok (.aload_n 0, 1) := by decide +kernel
theorem d_MO_ended_12 : decode b_MO_ended 12 = .ok (.getfield 42, 3) := by decide +kernel
theorem d_MO_ended_15 : decode b_MO_ended 15 = .ok (.iload_n 1, 1) := by decide +kernel
theorem d_MO_ended_16 : decode b_MO_ended 16 = .ok (.iaload, 1) := by decide +kernel
theorem d_MO_ended_17 : decode b_MO_ended 17 = .ok (.if_icmp .le 10, 3) := by decide +kernel
theorem d_MO_ended_20 : decode b_MO_ended 20 = .ok (.aload_n 0, 1) := by decide +kernel
theorem d_MO_ended_21 : decode b_MO_ended 21 = .ok (.invokevirtual 286, 3) := by decide +kernel
theorem d_MO_ended_24 : decode b_MO_ended 24 = .ok (.goto (-17), 3) := by decide +kernel
theorem d_MO_ended_27 : decode b_MO_ended 27 = .ok (.aload_n 0, 1) := by decide +kernel
theorem d_MO_ended_28 : decode b_MO_ended 28 = .ok (.getfield 48, 3) := by decide +kernel
theorem d_MO_ended_31 : decode b_MO_ended 31 = .ok (.iload_n 1, 1) := by decide +kernel
theorem d_MO_ended_32 : decode b_MO_ended 32 = .ok (.iconst 1, 1) := by decide +kernel
theorem d_MO_ended_33 : decode b_MO_ended 33 = .ok (.bastore, 1) := by decide +kernel
theorem d_MO_ended_34 : decode b_MO_ended 34 = .ok (.aload_n 0, 1) := by decide +kernel
theorem d_MO_ended_35 : decode b_MO_ended 35 = .ok (.getfield 39, 3) := by decide +kernel
theorem d_MO_ended_38 : decode b_MO_ended 38 = .ok (.iload_n 1, 1) := by decide +kernel
theorem d_MO_ended_39 : decode b_MO_ended 39 = .ok (.iaload, 1) := by decide +kernel
theorem d_MO_ended_40 : decode b_MO_ended 40 = .ok (.istore_n 2, 1) := by decide +kernel
theorem d_MO_ended_41 : decode b_MO_ended 41 = .ok (.iload_n 2, 1) := by decide +kernel
theorem d_MO_ended_42 : decode b_MO_ended 42 = .ok (.iconst 1, 1) := by decide +kernel
theorem d_MO_ended_43 : decode b_MO_ended 43 = .ok (.if_icmp .ne 41, 3) := by decide +kernel
theorem d_MO_ended_46 : decode b_MO_ended 46 = .ok (.aload_n 0, 1) := by decide +kernel
theorem d_MO_ended_47 : decode b_MO_ended 47 = .ok (.aload_n 0, 1) := by decide +kernel
theorem d_MO_ended_48 : decode b_MO_ended 48 = .ok (.bipush 41, 2) := by decide +kernel
theorem d_MO_ended_50 : decode b_MO_ended 50 = .ok (.invokevirtual 253, 3) := by decide +kernel
theorem d_MO_ended_53 : decode b_MO_ended 53 = .ok (.invokevirtual 269, 3) := by decide +kernel
theorem d_MO_ended_56 : decode b_MO_ended 56 = .ok (.aload_n 0, 1) := by decide +kernel
theorem d_MO_ended_57 : decode b_MO_ended 57 = .ok (.dup, 1) := by decide +kernel
theorem d_MO_ended_58 : decode b_MO_ended 58 = .ok (.getfield 221, 3) := by decide +kernel
theorem d_MO_ended_61 : decode b_MO_ended 61 = .ok (.iconst 1, 1) := by decide +kernel
theorem d_MO_ended_62 : decode b_MO_ended 62 = .ok (.isub, 1) := by decide +kernel
theorem d_MO_ended_63 : decode b_MO_ended 63 = .ok (.putfield 221, 3) := by decide +kernel
theorem d_MO_ended_66 : decode b_MO_ended 66 = .ok (.aload_n 0, 1) := by decide +kernel
theorem d_MO_ended_67 : decode b_MO_ended 67 = .ok (.getfield 128, 3) := by decide +kernel
theorem d_MO_ended_70 : decode b_MO_ended 70 = .ok (.ifCond .ne 184, 3) := by decide +kernel
theorem d_MO_ended_73 : decode b_MO_ended 73 = .ok (.aload_n 0, 1) := by decide +kernel
theorem d_MO_ended_74 : decode b_MO_ended 74 = .ok (.aload_n 0, 1) := by decide +kernel
theorem d_MO_ended_75 : decode b_MO_ended 75 = .ok (.invokevirtual 230, 3) := by decide +kernel
theorem d_MO_ended_78 : decode b_MO_ended 78 = .ok (.invokevirtual 256, 3) := by decide +kernel
theorem d_MO_ended_81 : decode b_MO_ended 81 = .ok (.goto 173, 3) := by decide +kernel
theorem d_MO_ended_84 : decode b_MO_ended 84 = .ok (.iload_n 2, 1) := by decide +kernel
theorem d_MO_ended_85 : decode b_MO_ended 85 = .ok (.iconst 2, 1) := by decide +kernel
theorem d_MO_ended_86 : decode b_MO_ended 86 = .ok (.if_icmp .ne 11, 3) := by decide +kernel
theorem d_MO_ended_89 : decode b_MO_ended 89 = .ok (.aload_n 0, 1) := by decide +kernel
theorem d_MO_ended_90 : decode b_MO_ended 90 = .ok (.iload_n 1, 1) := by decide +kernel
theorem d_MO_ended_91 : decode b_MO_ended 91 = .ok (.invokevirtual 289, 3) := by decide +kernel
theorem d_MO_ended_94 : decode b_MO_ended 94 = .ok (.goto 160, 3) := by decide +kernel
theorem d_MO_ended_97 : decode b_MO_ended 97 = .ok (.iload_n 2, 1) := by decide +kernel
theorem d_MO_ended_98 : decode b_MO_ended 98 = .ok (.iconst 3, 1) := by decide +kernel
theorem d_MO_ended_99 : decode b_MO_ended 99 = .ok (.if_icmp .eq 8, 3) := by decide +kernel
theorem d_MO_ended_102 : decode b_MO_ended 102 = .ok (.iload_n 2, 1) := by decide +kernel
theorem d_MO_ended_103 : decode b_MO_ended 103 = .ok (.iconst 4, 1) := by decide +kernel
theorem d_MO_ended_104 : decode b_MO_ended 104 = .ok (.if_icmp .ne 43, 3) := by decide +kernel
theorem d_MO_ended_107 : decode b_MO_ended 107 = .ok (.aload_n 0, 1) := by decide +kernel
theorem d_MO_ended_108 : decode b_MO_ended 108 = .ok (.aload_n 0, 1) := by decide +kernel
theorem d_MO_ended_109 : decode b_MO_ended 109 = .ok (.iload_n 2, 1) := by decide +kernel
theorem d_MO_ended_110 : decode b_MO_ended 110 = .ok (.iconst 3, 1) := by decide +kernel
theorem d_MO_ended_111 : decode b_MO_ended 111 = .ok (.if_icmp .ne 9, 3) := by decide +kernel
theorem d_MO_ended_114 : decode b_MO_ended 114 = .ok (.ldc2_w 165, 3) := by decide +kernel
theorem d_MO_ended_117 : decode b_MO_ended 117 = .ok (.goto 6, 3) := by decide +kernel
theorem d_MO_ended_120 : decode b_MO_ended 120 = .ok (.ldc2_w 167, 3) := by decide +kernel
theorem d_MO_ended_123 : decode b_MO_ended 123 = .ok (.invokevirtual 265, 3) := by decide +kernel
theorem d_MO_ended_126 : decode b_MO_ended 126 = .ok (.invokevirtual 269, 3) := by decide +kernel
theorem d_MO_ended_129 : decode b_MO_ended 129 = .ok (.aload_n 0, 1) := by decide +kernel
theorem d_MO_ended_130 : decode b_MO_ended 130 = .ok (.getfield 39, 3) := by decide +kernel
theorem d_MO_ended_133 : decode b_MO_ended 133 = .ok (.iload_n 1, 1) := by decide +kernel
theorem d_MO_ended_134 : decode b_MO_ended 134 = .ok (.dup2, 1) := by decide +kernel
theorem d_MO_ended_135 : decode b_MO_ended 135 = .ok (.iaload, 1) := by decide +kernel
theorem d_MO_ended_136 : decode b_MO_ended 136 = .ok (.iconst 1, 1) := by decide +kernel
theorem d_MO_ended_137 : decode b_MO_ended 137 = .ok (.iadd, 1) := by decide +kernel
theorem d_MO_ended_138 : decode b_MO_ended 138 = .ok (.iastore, 1) := by decide +kernel
theorem d_MO_ended_139 : decode b_MO_ended 139 = .ok (.aload_n 0, 1) := by decide +kernel
theorem d_MO_ended_140 : decode b_MO_ended 140 = .ok (.iload_n 1, 1) := by decide +kernel
theorem d_MO_ended_141 : decode b_MO_ended 141 = .ok (.invokevirtual 224, 3) := by decide +kernel
theorem d_MO_ended_144 : decode b_MO_ended 144 = .ok (.goto 110, 3) := by decide +kernel
theorem d_MO_ended_147 : decode b_MO_ended 147 = .ok (.iload_n 2, 1) := by decide +kernel
theorem d_MO_ended_148 : decode b_MO_ended 148 = .ok (.iconst 5, 1) := by decide +kernel
theorem d_MO_ended_149 : decode b_MO_ended 149 = .ok (.if_icmp .ne 59, 3) := by decide +kernel
theorem d_MO_ended_152 : decode b_MO_ended 152 = .ok (.aload_n 0, 1) := by decide +kernel
theorem d_MO_ended_153 : decode b_MO_ended 153 = .ok (.dup, 1) := by decide +kernel
theorem d_MO_ended_154 : decode b_MO_ended 154 = .ok (.getfield 221, 3) := by decide +kernel
theorem d_MO_ended_157 : decode b_MO_ended 157 = .ok (.iconst 1, 1) := by decide +kernel
theorem d_MO_ended_158 : decode b_MO_ended 158 = .ok (.isub, 1) := by decide +kernel
theorem d_MO_ended_159 : decode b_MO_ended 159 = .ok (.putfield 221, 3) := by decide +kernel
theorem d_MO_ended_162 : decode b_MO_ended 162 = .ok (.aload_n 0, 1) := by decide +kernel
theorem d_MO_ended_163 : decode b_MO_ended 163 = .ok (.invokevirtual 230, 3) := by decide +kernel
theorem d_MO_ended_166 : decode b_MO_ended 166 = .ok (.lstore_n 3, 1) := by decide +kernel
theorem d_MO_ended_167 : decode b_MO_ended 167 = .ok (.aload_n 0, 1) := by decide +kernel
theorem d_MO_ended_168 : decode b_MO_ended 168 = .ok (.invokevirtual 230, 3) := by decide +kernel
theorem d_MO_ended_171 : decode b_MO_ended 171 = .ok (.lstore 5, 2) := by decide +kernel
theorem d_MO_ended_173 : decode b_MO_ended 173 = .ok (.aload_n 0, 1) := by decide +kernel
theorem d_MO_ended_174 : decode b_MO_ended 174 = .ok (.invokevirtual 230, 3) := by decide +kernel
theorem d_MO_ended_177 : decode b_MO_ended 177 = .ok (.lstore 7, 2) := by decide +kernel
theorem d_MO_ended_179 : decode b_MO_ended 179 = .ok (.aload_n 0, 1) := by decide +kernel
theorem d_MO_ended_180 : decode b_MO_ended 180 = .ok (.aload_n 0, 1) := by decide +kernel
theorem d_MO_ended_181 : decode b_MO_ended 181 = .ok (.aload_n 0, 1) := by decide +kernel
theorem d_MO_ended_182 : decode b_MO_ended 182 = .ok (.aload_n 0, 1) := by decide +kernel
theorem d_MO_ended_183 : decode b_MO_ended 183 = .ok (.bipush 10, 2) := by decide +kernel
theorem d_MO_ended_185 : decode b_MO_ended 185 = .ok (.invokestatic 178, 3) := by decide +kernel
theorem d_MO_ended_188 : decode b_MO_ended 188 = .ok (.lload 7, 2) := by decide +kernel
theorem d_MO_ended_190 : decode b_MO_ended 190 = .ok (.invokevirtual 193, 3) := by decide +kernel
theorem d_MO_ended_193 : decode b_MO_ended 193 = .ok (.lload 5, 2) := by decide +kernel
theorem d_MO_ended_195 : decode b_MO_ended 195 = .ok (.invokevirtual 193, 3) := by decide +kernel
theorem d_MO_ended_198 : decode b_MO_ended 198 = .ok (.lload_n 3, 1) := by decide +kernel
theorem d_MO_ended_199 : decode b_MO_ended 199 = .ok (.invokevirtual 193, 3) := by decide +kernel
theorem d_MO_ended_202 : decode b_MO_ended 202 = .ok (.invokevirtual 292, 3) := by decide +kernel
theorem d_MO_ended_205 : decode b_MO_ended 205 = .ok (.goto 49, 3) := by decide +kernel
theorem d_MO_ended_208 : decode b_MO_ended 208 = .ok (.iload_n 2, 1) := by decide +kernel
theorem d_MO_ended_209 : decode b_MO_ended 209 = .ok (.bipush 6, 2) := by decide +kernel
theorem d_MO_ended_211 : decode b_MO_ended 211 = .ok (.if_icmp .ne 43, 3) := by decide +kernel
theorem d_MO_ended_214 : decode b_MO_ended 214 = .ok (.aload_n 0, 1) := by decide +kernel
theorem d_MO_ended_215 : decode b_MO_ended 215 = .ok (.dup, 1) := by decide +kernel
theorem d_MO_ended_216 : decode b_MO_ended 216 = .ok (.getfield 221, 3) := by decide +kernel
theorem d_MO_ended_219 : decode b_MO_ended 219 = .ok (.iconst 1, 1) := by decide +kernel
theorem d_MO_ended_220 : decode b_MO_ended 220 = .ok (.isub, 1) := by decide +kernel
theorem d_MO_ended_221 : decode b_MO_ended 221 = .ok (.putfield 221, 3) := by decide +kernel
theorem d_MO_ended_224 : decode b_MO_ended 224 = .ok (.aload_n 0, 1) := by decide +kernel
theorem d_MO_ended_225 : decode b_MO_ended 225 = .ok (.dup, 1) := by decide +kernel
theorem d_MO_ended_226 : decode b_MO_ended 226 = .ok (.getfield 237, 3) := by decide +kernel
theorem d_MO_ended_229 : decode b_MO_ended 229 = .ok (.iconst 1, 1) := by decide +kernel
theorem d_MO_ended_230 : decode b_MO_ended 230 = .ok (.isub, 1) := by decide +kernel
theorem d_MO_ended_231 : decode b_MO_ended 231 = .ok (.putfield 237, 3) := by decide +kernel
theorem d_MO_ended_234 : decode b_MO_ended 234 = .ok (.aload_n 0, 1) := by decide +kernel
theorem d_MO_ended_235 : decode b_MO_ended 235 = .ok (.aload_n 0, 1) := by decide +kernel
theorem d_MO_ended_236 : decode b_MO_ended 236 = .ok (.aload_n 0, 1) := by decide +kernel
theorem d_MO_ended_237 : decode b_MO_ended 237 = .ok (.invokevirtual 230, 3) := by decide +kernel
theorem d_MO_ended_240 : decode b_MO_ended 240 = .ok (.iconst 4, 1) := by decide +kernel
theorem d_MO_ended_241 : decode b_MO_ended 241 = .ok (.aload_n 0, 1) := by decide +kernel
theorem d_MO_ended_242 : decode b_MO_ended 242 = .ok (.getfield 237, 3) := by decide +kernel
theorem d_MO_ended_245 : decode b_MO_ended 245 = .ok (.invokestatic 171, 3) := by decide +kernel
theorem d_MO_ended_248 : decode b_MO_ended 248 = .ok (.invokevirtual 295, 3) := by decide +kernel
theorem d_MO_ended_251 : decode b_MO_ended 251 = .ok (.invokevirtual 292, 3) := by decide +kernel
theorem d_MO_ended_254 : decode b_MO_ended 254 = .ok (.return_, 1) := by decide +kernel
theorem d_MO_whole_0 : decode b_MO_whole 0 = .ok (.aload_n 0, 1) := by decide +kernel
theorem d_MO_whole_1 : decode b_MO_whole 1 = .ok (.lload_n 1, 1) := by decide +kernel
theorem d_MO_whole_2 : decode b_MO_whole 2 = .ok (.invokevirtual 234, 3) := by decide +kernel
theorem d_MO_whole_5 : decode b_MO_whole 5 = .ok (.aload_n 0, 1) := by decide +kernel
theorem d_MO_whole_6 : decode b_MO_whole 6 = .ok (.getfield 51, 3) := by decide +kernel
theorem d_MO_whole_9 : decode b_MO_whole 9 = .ok (.aload_n 0, 1) := by decide +kernel
theorem d_MO_whole_10 : decode b_MO_whole 10 = .ok (.getfield 221, 3) := by decide +kernel
theorem d_MO_whole_13 : decode b_MO_whole 13 = .ok (.iconst 1, 1) := by decide +kernel
theorem d_MO_whole_14 : decode b_MO_whole 14 = .ok (.isub, 1) := by decide +kernel
theorem d_MO_whole_15 : decode b_MO_whole 15 = .ok (.iconst 0, 1) := by decide +kernel
theorem d_MO_whole_16 : decode b_MO_whole 16 = .ok (.bastore, 1) := by decide +kernel
theorem d_MO_whole_17 : decode b_MO_whole 17 = .ok (.aload_n 0, 1) := by decide +kernel
theorem d_MO_whole_18 : decode b_MO_whole 18 = .ok (.getfield 48, 3) := by decide +kernel
theorem d_MO_whole_21 : decode b_MO_whole 21 = .ok (.aload_n 0, 1) := by decide +kernel
theorem d_MO_whole_22 : decode b_MO_whole 22 = .ok (.getfield 221, 3) := by decide +kernel
theorem d_MO_whole_25 : decode b_MO_whole 25 = .ok (.iconst 1, 1) := by decide +kernel
theorem d_MO_whole_26 : decode b_MO_whole 26 = .ok (.isub, 1) := by decide +kernel
theorem d_MO_whole_27 : decode b_MO_whole 27 = .ok (.iconst 1, 1) := by decide +kernel
theorem d_MO_whole_28 : decode b_MO_whole 28 = .ok (.bastore, 1) := by decide +kernel
theorem d_MO_whole_29 : decode b_MO_whole 29 = .ok (.aload_n 0, 1) := by decide +kernel
theorem d_MO_whole_30 : decode b_MO_whole 30 = .ok (.iconst 1, 1) := by decide +kernel
theorem d_MO_whole_31 : decode b_MO_whole 31 = .ok (.putfield 298, 3) := by decide +kernel
theorem d_MO_whole_34 : decode b_MO_whole 34 = .ok (.return_, 1) := by decide +kernel
theorem d_MO_listed_0 : decode b_MO_listed 0 = .ok (.aload_n 0, 1) := by decide +kernel
theorem d_MO_listed_1 : decode b_MO_listed 1 = .ok (.bipush 44, 2) := by decide +kernel
theorem d_MO_listed_3 : decode b_MO_listed 3 = .ok (.invokevirtual 253, 3) := by decide +kernel
theorem d_MO_listed_6 : decode b_MO_listed 6 = .ok (.ifCond .eq 19, 3) := by decide +kernel
theorem d_MO_listed_9 : decode b_MO_listed 9 = .ok (.aload_n 0, 1) := by decide +kernel
theorem d_MO_listed_10 : decode b_MO_listed 10 = .ok (.dup, 1) := by decide +kernel
theorem d_MO_listed_11 : decode b_MO_listed 11 = .ok (.getfield 158, 3) := by decide +kernel
theorem d_MO_listed_14 : decode b_MO_listed 14 = .ok (.iconst 1, 1) := by decide +kernel
theorem d_MO_listed_15 : decode b_MO_listed 15 = .ok (.iadd, 1) := by decide +kernel
theorem d_MO_listed_16 : decode b_MO_listed 16 = .ok (.putfield 158, 3) := by decide +kernel
theorem d_MO_listed_19 : decode b_MO_listed 19 = .ok (.aload_n 0, 1) := by decide +kernel
theorem d_MO_listed_20 : decode b_MO_listed 20 = .ok (.iload_n 1, 1) := by decide +kernel
theorem d_MO_listed_21 : decode b_MO_listed 21 = .ok (.invokevirtual 224, 3) := by decide +kernel
theorem d_MO_listed_24 : decode b_MO_listed 24 = .ok (.return_, 1) := by decide +kernel
theorem d_MO_listed_25 : decode b_MO_listed 25 = .ok (.aload_n 0, 1) := by decide +kernel
theorem d_MO_listed_26 : decode b_MO_listed 26 = .ok (.aload_n 0, 1) := by decide +kernel
theorem d_MO_listed_27 : decode b_MO_listed 27 = .ok (.bipush 93, 2) := by decide +kernel
theorem d_MO_listed_29 : decode b_MO_listed 29 = .ok (.invokevirtual 253, 3) := by decide +kernel
theorem d_MO_listed_32 : decode b_MO_listed 32 = .ok (.invokevirtual 269, 3) := by decide +kernel
theorem d_MO_listed_35 : decode b_MO_listed 35 = .ok (.aload_n 0, 1) := by decide +kernel
theorem d_MO_listed_36 : decode b_MO_listed 36 = .ok (.getfield 128, 3) := by decide +kernel
theorem d_MO_listed_39 : decode b_MO_listed 39 = .ok (.ifCond .le 4, 3) := by decide +kernel
theorem d_MO_listed_42 : decode b_MO_listed 42 = .ok (.return_, 1) := by decide +kernel
theorem d_MO_listed_43 : decode b_MO_listed 43 = .ok (.bipush 17, 2) := by decide +kernel
theorem d_MO_listed_45 : decode b_MO_listed 45 = .ok (.invokestatic 178, 3) := by decide +kernel
theorem d_MO_listed_48 : decode b_MO_listed 48 = .ok (.lstore_n 2, 1) := by decide +kernel
theorem d_MO_listed_49 : decode b_MO_listed 49 = .ok (.aload_n 0, 1) := by decide +kernel
theorem d_MO_listed_50 : decode b_MO_listed 50 = .ok (.getfield 218, 3) := by decide +kernel
theorem d_MO_listed_53 : decode b_MO_listed 53 = .ok (.aload_n 0, 1) := by decide +kernel
theorem d_MO_listed_54 : decode b_MO_listed 54 = .ok (.getfield 45, 3) := by decide +kernel
theorem d_MO_listed_57 : decode b_MO_listed 57 = .ok (.iload_n 1, 1) := by decide +kernel
theorem d_MO_listed_58 : decode b_MO_listed 58 = .ok (.iaload, 1) := by decide +kernel
theorem d_MO_listed_59 : decode b_MO_listed 59 = .ok (.if_icmp .le 25, 3) := by decide +kernel
theorem d_MO_listed_62 : decode b_MO_listed 62 = .ok (.aload_n 0, 1) := by decide +kernel
theorem d_MO_listed_63 : decode b_MO_listed 63 = .ok (.aload_n 0, 1) := by decide +kernel
theorem d_MO_listed_64 : decode b_MO_listed 64 = .ok (.bipush 16, 2) := by decide +kernel
theorem d_MO_listed_66 : decode b_MO_listed 66 = .ok (.invokestatic 178, 3) := by decide +kernel
theorem d_MO_listed_69 : decode b_MO_listed 69 = .ok (.aload_n 0, 1) := by decide +kernel
theorem d_MO_listed_70 : decode b_MO_listed 70 = .ok (.invokevirtual 230, 3) := by decide +kernel
theorem d_MO_listed_73 : decode b_MO_listed 73 = .ok (.invokevirtual 193, 3) := by decide +kernel
theorem d_MO_listed_76 : decode b_MO_listed 76 = .ok (.lload_n 2, 1) := by decide +kernel
theorem d_MO_listed_77 : decode b_MO_listed 77 = .ok (.invokevirtual 193, 3) := by decide +kernel
theorem d_MO_listed_80 : decode b_MO_listed 80 = .ok (.lstore_n 2, 1) := by decide +kernel
theorem d_MO_listed_81 : decode b_MO_listed 81 = .ok (.goto (-32), 3) := by decide +kernel
theorem d_MO_listed_84 : decode b_MO_listed 84 = .ok (.aload_n 0, 1) := by decide +kernel
theorem d_MO_listed_85 : decode b_MO_listed 85 = .ok (.dup, 1) := by decide +kernel
theorem d_MO_listed_86 : decode b_MO_listed 86 = .ok (.getfield 221, 3) := by decide +kernel
theorem d_MO_listed_89 : decode b_MO_listed 89 = .ok (.iconst 1, 1) := by decide +kernel
theorem d_MO_listed_90 : decode b_MO_listed 90 = .ok (.isub, 1) := by decide +kernel
theorem d_MO_listed_91 : decode b_MO_listed 91 = .ok (.putfield 221, 3) := by decide +kernel
theorem d_MO_listed_94 : decode b_MO_listed 94 = .ok (.aload_n 0, 1) := by decide +kernel
theorem d_MO_listed_95 : decode b_MO_listed 95 = .ok (.lload_n 2, 1) := by decide +kernel
theorem d_MO_listed_96 : decode b_MO_listed 96 = .ok (.invokevirtual 256, 3) := by decide +kernel
theorem d_MO_listed_99 : decode b_MO_listed 99 = .ok (.return_, 1) := by decide +kernel
theorem d_MO_expression_0 : decode b_MO_expression 0 = .ok (.aload_n 0, 1) := by decide +kernel
theorem d_MO_expression_1 : decode b_MO_expression 1 = .ok (.iconst 0, 1) := by decide +kernel
theorem d_MO_expression_2 : decode b_MO_expression 2 = .ok (.putfield 221, 3) := by decide +kernel
theorem d_MO_expression_5 : decode b_MO_expression 5 = .ok (.aload_n 0, 1) := by decide +kernel
theorem d_MO_expression_6 : decode b_MO_expression 6 = .ok (.iconst 0, 1) := by decide +kernel
theorem d_MO_expression_7 : decode b_MO_expression 7 = .ok (.putfield 218, 3) := by decide +kernel
theorem d_MO_expression_10 : decode b_MO_expression 10 = .ok (.aload_n 0, 1) := by decide +kernel
theorem d_MO_expression_11 : decode b_MO_expression 11 = .ok (.iconst 0, 1) := by decide +kernel
theorem d_MO_expression_12 : decode b_MO_expression 12 = .ok (.putfield 227, 3) := by decide +kernel
theorem d_MO_expression_15 : decode b_MO_expression 15 = .ok (.aload_n 0, 1) := by decide +kernel
theorem d_MO_expression_16 : decode b_MO_expression 16 = .ok (.iconst 0, 1) := by decide +kernel
theorem d_MO_expression_17 : decode b_MO_expression 17 = .ok (.invokevirtual 262, 3) := by decide +kernel
theorem d_MO_expression_20 : decode b_MO_expression 20 = .ok (.iconst 1, 1) := by decide +kernel
theorem d_MO_expression_21 : decode b_MO_expression 21 = .ok (.istore_n 1, 1) := by decide +kernel
theorem d_MO_expression_22 : decode b_MO_expression 22 = .ok (.iload_n 1, 1) := by decide +kernel
theorem d_MO_expression_23 : decode b_MO_expression 23 = .ok (.ifCond .eq 104, 3) := by decide +kernel
theorem d_MO_expression_26 : decode b_MO_expression 26 = .ok (.aload_n 0, 1) := by decide +kernel
theorem d_MO_expression_27 : decode b_MO_expression 27 = .ok (.getfield 128, 3) := by decide +kernel
theorem d_MO_expression_30 : decode b_MO_expression 30 = .ok (.ifCond .ne 97, 3) := by decide +kernel
theorem d_MO_expression_33 : decode b_MO_expression 33 = .ok (.aload_n 0, 1) := by decide +kernel
theorem d_MO_expression_34 : decode b_MO_expression 34 = .ok (.getfield 221, 3) := by decide +kernel
theorem d_MO_expression_37 : decode b_MO_expression 37 = .ok (.iconst 1, 1) := by decide +kernel
theorem d_MO_expression_38 : decode b_MO_expression 38 = .ok (.isub, 1) := by decide +kernel
theorem d_MO_expression_39 : decode b_MO_expression 39 = .ok (.istore_n 2, 1) := by decide +kernel
theorem d_MO_expression_40 : decode b_MO_expression 40 = .ok (.aload_n 0, 1) := by decide +kernel
theorem d_MO_expression_41 : decode b_MO_expression 41 = .ok (.getfield 298, 3) := by decide +kernel
theorem d_MO_expression_44 : decode b_MO_expression 44 = .ok (.istore_n 3, 1) := by decide +kernel
theorem d_MO_expression_45 : decode b_MO_expression 45 = .ok (.aload_n 0, 1) := by decide +kernel
theorem d_MO_expression_46 : decode b_MO_expression 46 = .ok (.iconst 0, 1) := by decide +kernel
theorem d_MO_expression_47 : decode b_MO_expression 47 = .ok (.putfield 298, 3) := by decide +kernel
theorem d_MO_expression_50 : decode b_MO_expression 50 = .ok (.aload_n 0, 1) := by decide +kernel
theorem d_MO_expression_51 : decode b_MO_expression 51 = .ok (.getfield 48, 3) := by decide +kernel
theorem d_MO_expression_54 : decode b_MO_expression 54 = .ok (.iload_n 2, 1) := by decide +kernel
theorem d_MO_expression_55 : decode b_MO_expression 55 = .ok (.baload, 1) := by decide +kernel
theorem d_MO_expression_56 : decode b_MO_expression 56 = .ok (.ifCond .ne 10, 3) := by decide +kernel
theorem d_MO_expression_59 : decode b_MO_expression 59 = .ok (.aload_n 0, 1) := by decide +kernel
theorem d_MO_expression_60 : decode b_MO_expression 60 = .ok (.invokevirtual 302, 3) := by decide +kernel
theorem d_MO_expression_63 : decode b_MO_expression 63 = .ok (.goto 61, 3) := by decide +kernel
theorem d_MO_expression_66 : decode b_MO_expression 66 = .ok (.iload_n 3, 1) := by decide +kernel
theorem d_MO_expression_67 : decode b_MO_expression 67 = .ok (.ifCond .ne 17, 3) := by decide +kernel
theorem d_MO_expression_70 : decode b_MO_expression 70 = .ok (.aload_n 0, 1) := by decide +kernel
theorem d_MO_expression_71 : decode b_MO_expression 71 = .ok (.invokevirtual 305, 3) := by decide +kernel
theorem d_MO_expression_74 : decode b_MO_expression 74 = .ok (.ifCond .eq 10, 3) := by decide +kernel
theorem d_MO_expression_77 : decode b_MO_expression 77 = .ok (.aload_n 0, 1) := by decide +kernel
theorem d_MO_expression_78 : decode b_MO_expression 78 = .ok (.invokevirtual 302, 3) := by decide +kernel
theorem d_MO_expression_81 : decode b_MO_expression 81 = .ok (.goto 43, 3) := by decide +kernel
theorem d_MO_expression_84 : decode b_MO_expression 84 = .ok (.iload_n 3, 1) := by decide +kernel
theorem d_MO_expression_85 : decode b_MO_expression 85 = .ok (.ifCond .ne 21, 3) := by decide +kernel
theorem d_MO_expression_88 : decode b_MO_expression 88 = .ok (.aload_n 0, 1) := by decide +kernel
theorem d_MO_expression_89 : decode b_MO_expression 89 = .ok (.invokevirtual 308, 3) := by decide +kernel
theorem d_MO_expression_92 : decode b_MO_expression 92 = .ok (.ifCond .lt 14, 3) := by decide +kernel
theorem d_MO_expression_95 : decode b_MO_expression 95 = .ok (.aload_n 0, 1) := by decide +kernel
theorem d_MO_expression_96 : decode b_MO_expression 96 = .ok (.aload_n 0, 1) := by decide +kernel
theorem d_MO_expression_97 : decode b_MO_expression 97 = .ok (.invokevirtual 308, 3) := by decide +kernel
theorem d_MO_expression_100 : decode b_MO_expression 100 = .ok (.invokevirtual 312, 3) := by decide +kernel
theorem d_MO_expression_103 : decode b_MO_expression 103 = .ok (.goto 21, 3) := by decide +kernel
theorem d_MO_expression_106 : decode b_MO_expression 106 = .ok (.aload_n 0, 1) := by decide +kernel
theorem d_MO_expression_107 : decode b_MO_expression 107 = .ok (.getfield 39, 3) := by decide +kernel
theorem d_MO_expression_110 : decode b_MO_expression 110 = .ok (.iload_n 2, 1) := by decide +kernel
theorem d_MO_expression_111 : decode b_MO_expression 111 = .ok (.iaload, 1) := by decide +kernel
theorem d_MO_expression_112 : decode b_MO_expression 112 = .ok (.ifCond .ne 8, 3) := by decide +kernel
theorem d_MO_expression_115 : decode b_MO_expression 115 = .ok (.iconst 0, 1) := by decide +kernel
theorem d_MO_expression_116 : decode b_MO_expression 116 = .ok (.istore_n 1, 1) := by decide +kernel
theorem d_MO_expression_117 : decode b_MO_expression 117 = .ok (.goto 7, 3) := by decide +kernel
theorem d_MO_expression_120 : decode b_MO_expression 120 = .ok (.aload_n 0, 1) := by decide +kernel
theorem d_MO_expression_121 : decode b_MO_expression 121 = .ok (.invokevirtual 315, 3) := by decide +kernel
theorem d_MO_expression_124 : decode b_MO_expression 124 = .ok (.goto (-102), 3) := by decide +kernel
theorem d_MO_expression_127 : decode b_MO_expression 127 = .ok (.aload_n 0, 1) := by decide +kernel
theorem d_MO_expression_128 : decode b_MO_expression 128 = .ok (.getfield 128, 3) := by decide +kernel
theorem d_MO_expression_131 : decode b_MO_expression 131 = .ok (.ifCond .ne 17, 3) := by decide +kernel
theorem d_MO_expression_134 : decode b_MO_expression 134 = .ok (.aload_n 0, 1) := by decide +kernel
theorem d_MO_expression_135 : decode b_MO_expression 135 = .ok (.getfield 227, 3) := by decide +kernel
theorem d_MO_expression_138 : decode b_MO_expression 138 = .ok (.ifCond .le 10, 3) := by decide +kernel
theorem d_MO_expression_141 : decode b_MO_expression 141 = .ok (.aload_n 0, 1) := by decide +kernel
theorem d_MO_expression_142 : decode b_MO_expression 142 = .ok (.invokevirtual 286, 3) := by decide +kernel
theorem d_MO_expression_145 : decode b_MO_expression 145 = .ok (.goto (-18), 3) := by decide +kernel
theorem d_MO_expression_148 : decode b_MO_expression 148 = .ok (.aload_n 0, 1) := by decide +kernel
theorem d_MO_expression_149 : decode b_MO_expression 149 = .ok (.getfield 128, 3) := by decide +kernel
theorem d_MO_expression_152 : decode b_MO_expression 152 = .ok (.ifCond .ne 10, 3) := by decide +kernel
theorem d_MO_expression_155 : decode b_MO_expression 155 = .ok (.aload_n 0, 1) := by decide +kernel
theorem d_MO_expression_156 : decode b_MO_expression 156 = .ok (.invokevirtual 230, 3) := by decide +kernel
theorem d_MO_expression_159 : decode b_MO_expression 159 = .ok (.goto 4, 3) := by decide +kernel
theorem d_MO_expression_162 : decode b_MO_expression 162 = .ok (.lconst 0, 1) := by decide +kernel
theorem d_MO_expression_163 : decode b_MO_expression 163 = .ok (.lreturn, 1) := by decide +kernel
theorem d_MO_collect_0 : decode b_MO_collect 0 = .ok (.aload_n 0, 1) := by decide +kernel
theorem d_MO_collect_1 : decode b_MO_collect 1 = .ok (.iconst 0, 1) := by decide +kernel
theorem d_MO_collect_2 : decode b_MO_collect 2 = .ok (.putfield 240, 3) := by decide +kernel
theorem d_MO_collect_5 : decode b_MO_collect 5 = .ok (.iconst 0, 1) := by decide +kernel
theorem d_MO_collect_6 : decode b_MO_collect 6 = .ok (.istore_n 1, 1) := by decide +kernel
theorem d_MO_collect_7 : decode b_MO_collect 7 = .ok (.iload_n 1, 1) := by decide +kernel
theorem d_MO_collect_8 : decode b_MO_collect 8 = .ok (.iconst 1, 1) := by decide +kernel
theorem d_MO_collect_9 : decode b_MO_collect 9 = .ok (.iadd, 1) := by decide +kernel
theorem d_MO_collect_10 : decode b_MO_collect 10 = .ok (.aload_n 0, 1) := by decide +kernel
theorem d_MO_collect_11 : decode b_MO_collect 11 = .ok (.getfield 131, 3) := by decide +kernel
theorem d_MO_collect_14 : decode b_MO_collect 14 = .ok (.if_icmp .ge 82, 3) := by decide +kernel
theorem d_MO_collect_17 : decode b_MO_collect 17 = .ok (.aload_n 0, 1) := by decide +kernel
theorem d_MO_collect_18 : decode b_MO_collect 18 = .ok (.iload_n 1, 1) := by decide +kernel
theorem d_MO_collect_19 : decode b_MO_collect 19 = .ok (.iconst 1, 1) := by decide +kernel
theorem d_MO_collect_20 : decode b_MO_collect 20 = .ok (.iadd, 1) := by decide +kernel
theorem d_MO_collect_21 : decode b_MO_collect 21 = .ok (.putfield 158, 3) := by decide +kernel
theorem d_MO_collect_24 : decode b_MO_collect 24 = .ok (.aload_n 0, 1) := by decide +kernel
theorem d_MO_collect_25 : decode b_MO_collect 25 = .ok (.getfield 13, 3) := by decide +kernel
theorem d_MO_collect_28 : decode b_MO_collect 28 = .ok (.iload_n 1, 1) := by decide +kernel
theorem d_MO_collect_29 : decode b_MO_collect 29 = .ok (.iaload, 1) := by decide +kernel
theorem d_MO_collect_30 : decode b_MO_collect 30 = .ok (.ifCond .ne 60, 3) := by decide +kernel
theorem d_MO_collect_33 : decode b_MO_collect 33 = .ok (.aload_n 0, 1) := by decide +kernel
theorem d_MO_collect_34 : decode b_MO_collect 34 = .ok (.getfield 16, 3) := by decide +kernel
theorem d_MO_collect_37 : decode b_MO_collect 37 = .ok (.iload_n 1, 1) := by decide +kernel
theorem d_MO_collect_38 : decode b_MO_collect 38 = .ok (.laload, 1) := by decide +kernel
theorem d_MO_collect_39 : decode b_MO_collect 39 = .ok (.ldc2_w 161, 3) := by decide +kernel
