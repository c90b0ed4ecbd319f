theorem d_TH_begin_89 : decode b_TH_begin 89 = .ok (.invokevirtual 205, 3) := by decide +kernel
theorem d_TH_begin_92 : decode b_TH_begin 92 = .ok (.aload_n 0, 1) := by decide +kernel
theorem d_TH_begin_93 : decode b_TH_begin 93 = .ok (.getfield 77, 3) := by decide +kernel
theorem d_TH_begin_96 : decode b_TH_begin 96 = .ok (.aload_n 0, 1) := by decide +kernel
theorem d_TH_begin_97 : decode b_TH_begin 97 = .ok (.getfield 61, 3) := by decide +kernel
theorem d_TH_begin_100 : decode b_TH_begin 100 = .ok (.aload_n 0, 1) := by decide +kernel
theorem d_TH_begin_101 : decode b_TH_begin 101 = .ok (.getfield 27, 3) := by decide +kernel
theorem d_TH_begin_104 : decode b_TH_begin 104 = .ok (.aload_n 0, 1) := by decide +kernel
theorem d_TH_begin_105 : decode b_TH_begin 105 = .ok (.getfield 36, 3) := by decide +kernel
theorem d_TH_begin_108 : decode b_TH_begin 108 = .ok (.invokevirtual 217, 3) := by decide +kernel
theorem d_TH_begin_111 : decode b_TH_begin 111 = .ok (.invokevirtual 209, 3) := by decide +kernel
theorem d_TH_begin_114 : decode b_TH_begin 114 = .ok (.invokevirtual 221, 3) := by decide +kernel
theorem d_TH_begin_117 : decode b_TH_begin 117 = .ok (.aload_n 0, 1) := by decide +kernel
theorem d_TH_begin_118 : decode b_TH_begin 118 = .ok (.iconst 1, 1) := by decide +kernel
theorem d_TH_begin_119 : decode b_TH_begin 119 = .ok (.putfield 81, 3) := by decide +kernel
theorem d_TH_begin_122 : decode b_TH_begin 122 = .ok (.return_, 1) := by decide +kernel
theorem d_LX_init_0 : decode b_LX_init 0 = .ok (.aload_n 0, 1) := by decide +kernel
theorem d_LX_init_1 : decode b_LX_init 1 = .ok (.invokespecial 1, 3) := by decide +kernel
theorem d_LX_init_4 : decode b_LX_init 4 = .ok (.aload_n 0, 1) := by decide +kernel
theorem d_LX_init_5 : decode b_LX_init 5 = .ok (.bipush 100, 2) := by decide +kernel
theorem d_LX_init_7 : decode b_LX_init 7 = .ok (.newarray .int, 2) := by decide +kernel
theorem d_LX_init_9 : decode b_LX_init 9 = .ok (.putfield 9, 3) := by decide +kernel
theorem d_LX_init_12 : decode b_LX_init 12 = .ok (.aload_n 0, 1) := by decide +kernel
theorem d_LX_init_13 : decode b_LX_init 13 = .ok (.bipush 100, 2) := by decide +kernel
theorem d_LX_init_15 : decode b_LX_init 15 = .ok (.newarray .int, 2) := by decide +kernel
theorem d_LX_init_17 : decode b_LX_init 17 = .ok (.putfield 13, 3) := by decide +kernel
theorem d_LX_init_20 : decode b_LX_init 20 = .ok (.aload_n 0, 1) := by decide +kernel
theorem d_LX_init_21 : decode b_LX_init 21 = .ok (.iconst 0, 1) := by decide +kernel
theorem d_LX_init_22 : decode b_LX_init 22 = .ok (.putfield 16, 3) := by decide +kernel
theorem d_LX_init_25 : decode b_LX_init 25 = .ok (.return_, 1) := by decide +kernel
theorem d_LX_size_0 : decode b_LX_size 0 = .ok (.aload_n 0, 1) := by decide +kernel
theorem d_LX_size_1 : decode b_LX_size 1 = .ok (.getfield 16, 3) := by decide +kernel
theorem d_LX_size_4 : decode b_LX_size 4 = .ok (.ireturn, 1) := by decide +kernel
theorem d_LX_kind_0 : decode b_LX_kind 0 = .ok (.iload_n 1, 1) := by decide +kernel
theorem d_LX_kind_1 : decode b_LX_kind 1 = .ok (.ifCond .lt 20, 3) := by decide +kernel
theorem d_LX_kind_4 : decode b_LX_kind 4 = .ok (.iload_n 1, 1) := by decide +kernel
theorem d_LX_kind_5 : decode b_LX_kind 5 = .ok (.aload_n 0, 1) := by decide +kernel
theorem d_LX_kind_6 : decode b_LX_kind 6 = .ok (.getfield 16, 3) := by decide +kernel
theorem d_LX_kind_9 : decode b_LX_kind 9 = .ok (.if_icmp .ge 12, 3) := by decide +kernel
theorem d_LX_kind_12 : decode b_LX_kind 12 = .ok (.aload_n 0, 1) := by decide +kernel
theorem d_LX_kind_13 : decode b_LX_kind 13 = .ok (.getfield 9, 3) := by decide +kernel
theorem d_LX_kind_16 : decode b_LX_kind 16 = .ok (.iload_n 1, 1) := by decide +kernel
theorem d_LX_kind_17 : decode b_LX_kind 17 = .ok (.iaload, 1) := by decide +kernel
theorem d_LX_kind_18 : decode b_LX_kind 18 = .ok (.goto 4, 3) := by decide +kernel
theorem d_LX_kind_21 : decode b_LX_kind 21 = .ok (.iconst 0, 1) := by decide +kernel
theorem d_LX_kind_22 : decode b_LX_kind 22 = .ok (.ireturn, 1) := by decide +kernel
theorem d_LX_value_0 : decode b_LX_value 0 = .ok (.iload_n 1, 1) := by decide +kernel
theorem d_LX_value_1 : decode b_LX_value 1 = .ok (.ifCond .lt 20, 3) := by decide +kernel
theorem d_LX_value_4 : decode b_LX_value 4 = .ok (.iload_n 1, 1) := by decide +kernel
theorem d_LX_value_5 : decode b_LX_value 5 = .ok (.aload_n 0, 1) := by decide +kernel
theorem d_LX_value_6 : decode b_LX_value 6 = .ok (.getfield 16, 3) := by decide +kernel
theorem d_LX_value_9 : decode b_LX_value 9 = .ok (.if_icmp .ge 12, 3) := by decide +kernel
theorem d_LX_value_12 : decode b_LX_value 12 = .ok (.aload_n 0, 1) := by decide +kernel
theorem d_LX_value_13 : decode b_LX_value 13 = .ok (.getfield 13, 3) := by decide +kernel
theorem d_LX_value_16 : decode b_LX_value 16 = .ok (.iload_n 1, 1) := by decide +kernel
theorem d_LX_value_17 : decode b_LX_value 17 = .ok (.iaload, 1) := by decide +kernel
theorem d_LX_value_18 : decode b_LX_value 18 = .ok (.goto 4, 3) := by decide +kernel
theorem d_LX_value_21 : decode b_LX_value 21 = .ok (.iconst 0, 1) := by decide +kernel
theorem d_LX_value_22 : decode b_LX_value 22 = .ok (.ireturn, 1) := by decide +kernel
theorem d_LX_cut_0 : decode b_LX_cut 0 = .ok (.aload_n 0, 1) := by decide +kernel
theorem d_LX_cut_1 : decode b_LX_cut 1 = .ok (.iconst 0, 1) := by decide +kernel
theorem d_LX_cut_2 : decode b_LX_cut 2 = .ok (.putfield 16, 3) := by decide +kernel
theorem d_LX_cut_5 : decode b_LX_cut 5 = .ok (.iconst 0, 1) := by decide +kernel
theorem d_LX_cut_6 : decode b_LX_cut 6 = .ok (.istore_n 3, 1) := by decide +kernel
theorem d_LX_cut_7 : decode b_LX_cut 7 = .ok (.iload_n 3, 1) := by decide +kernel
theorem d_LX_cut_8 : decode b_LX_cut 8 = .ok (.iload_n 2, 1) := by decide +kernel
theorem d_LX_cut_9 : decode b_LX_cut 9 = .ok (.if_icmp .ge 181, 3) := by decide +kernel
theorem d_LX_cut_12 : decode b_LX_cut 12 = .ok (.aload_n 1, 1) := by decide +kernel
theorem d_LX_cut_13 : decode b_LX_cut 13 = .ok (.iload_n 3, 1) := by decide +kernel
theorem d_LX_cut_14 : decode b_LX_cut 14 = .ok (.caload, 1) := by decide +kernel
theorem d_LX_cut_15 : decode b_LX_cut 15 = .ok (.istore 4, 2) := by decide +kernel
theorem d_LX_cut_17 : decode b_LX_cut 17 = .ok (.iload 4, 2) := by decide +kernel
theorem d_LX_cut_19 : decode b_LX_cut 19 = .ok (.invokestatic 20, 3) := by decide +kernel
theorem d_LX_cut_22 : decode b_LX_cut 22 = .ok (.ifCond .eq 38, 3) := by decide +kernel
theorem d_LX_cut_25 : decode b_LX_cut 25 = .ok (.aload_n 1, 1) := by decide +kernel
theorem d_LX_cut_26 : decode b_LX_cut 26 = .ok (.iload_n 3, 1) := by decide +kernel
theorem d_LX_cut_27 : decode b_LX_cut 27 = .ok (.iload_n 2, 1) := by decide +kernel
theorem d_LX_cut_28 : decode b_LX_cut 28 = .ok (.iload_n 3, 1) := by decide +kernel
theorem d_LX_cut_29 : decode b_LX_cut 29 = .ok (.iconst 4, 1) := by decide +kernel
theorem d_LX_cut_30 : decode b_LX_cut 30 = .ok (.iadd, 1) := by decide +kernel
theorem d_LX_cut_31 : decode b_LX_cut 31 = .ok (.invokestatic 24, 3) := by decide +kernel
theorem d_LX_cut_34 : decode b_LX_cut 34 = .ok (.iconst 1, 1) := by decide +kernel
theorem d_LX_cut_35 : decode b_LX_cut 35 = .ok (.invokestatic 30, 3) := by decide +kernel
theorem d_LX_cut_38 : decode b_LX_cut 38 = .ok (.istore 5, 2) := by decide +kernel
theorem d_LX_cut_40 : decode b_LX_cut 40 = .ok (.aload_n 0, 1) := by decide +kernel
theorem d_LX_cut_41 : decode b_LX_cut 41 = .ok (.iconst 1, 1) := by decide +kernel
theorem d_LX_cut_42 : decode b_LX_cut 42 = .ok (.aload_n 1, 1) := by decide +kernel
theorem d_LX_cut_43 : decode b_LX_cut 43 = .ok (.iload_n 3, 1) := by decide +kernel
theorem d_LX_cut_44 : decode b_LX_cut 44 = .ok (.iload 5, 2) := by decide +kernel
theorem d_LX_cut_46 : decode b_LX_cut 46 = .ok (.invokestatic 34, 3) := by decide +kernel
theorem d_LX_cut_49 : decode b_LX_cut 49 = .ok (.invokevirtual 38, 3) := by decide +kernel
theorem d_LX_cut_52 : decode b_LX_cut 52 = .ok (.iload 5, 2) := by decide +kernel
theorem d_LX_cut_54 : decode b_LX_cut 54 = .ok (.iconst 1, 1) := by decide +kernel
theorem d_LX_cut_55 : decode b_LX_cut 55 = .ok (.isub, 1) := by decide +kernel
theorem d_LX_cut_56 : decode b_LX_cut 56 = .ok (.istore_n 3, 1) := by decide +kernel
theorem d_LX_cut_57 : decode b_LX_cut 57 = .ok (.goto 127, 3) := by decide +kernel
theorem d_LX_cut_60 : decode b_LX_cut 60 = .ok (.iload 4, 2) := by decide +kernel
theorem d_LX_cut_62 : decode b_LX_cut 62 = .ok (.invokestatic 42, 3) := by decide +kernel
theorem d_LX_cut_65 : decode b_LX_cut 65 = .ok (.ifCond .eq 39, 3) := by decide +kernel
theorem d_LX_cut_68 : decode b_LX_cut 68 = .ok (.aload_n 1, 1) := by decide +kernel
theorem d_LX_cut_69 : decode b_LX_cut 69 = .ok (.iload_n 3, 1) := by decide +kernel
theorem d_LX_cut_70 : decode b_LX_cut 70 = .ok (.iload_n 2, 1) := by decide +kernel
theorem d_LX_cut_71 : decode b_LX_cut 71 = .ok (.iload_n 3, 1) := by decide +kernel
theorem d_LX_cut_72 : decode b_LX_cut 72 = .ok (.bipush 6, 2) := by decide +kernel
theorem d_LX_cut_74 : decode b_LX_cut 74 = .ok (.iadd, 1) := by decide +kernel
theorem d_LX_cut_75 : decode b_LX_cut 75 = .ok (.invokestatic 24, 3) := by decide +kernel
theorem d_LX_cut_78 : decode b_LX_cut 78 = .ok (.iconst 0, 1) := by decide +kernel
theorem d_LX_cut_79 : decode b_LX_cut 79 = .ok (.invokestatic 30, 3) := by decide +kernel
theorem d_LX_cut_82 : decode b_LX_cut 82 = .ok (.istore 5, 2) := by decide +kernel
theorem d_LX_cut_84 : decode b_LX_cut 84 = .ok (.aload_n 0, 1) := by decide +kernel
theorem d_LX_cut_85 : decode b_LX_cut 85 = .ok (.iconst 2, 1) := by decide +kernel
theorem d_LX_cut_86 : decode b_LX_cut 86 = .ok (.aload_n 1, 1) := by decide +kernel
theorem d_LX_cut_87 : decode b_LX_cut 87 = .ok (.iload_n 3, 1) := by decide +kernel
theorem d_LX_cut_88 : decode b_LX_cut 88 = .ok (.iload 5, 2) := by decide +kernel
theorem d_LX_cut_90 : decode b_LX_cut 90 = .ok (.invokestatic 45, 3) := by decide +kernel
theorem d_LX_cut_93 : decode b_LX_cut 93 = .ok (.invokevirtual 38, 3) := by decide +kernel
theorem d_LX_cut_96 : decode b_LX_cut 96 = .ok (.iload 5, 2) := by decide +kernel
theorem d_LX_cut_98 : decode b_LX_cut 98 = .ok (.iconst 1, 1) := by decide +kernel
theorem d_LX_cut_99 : decode b_LX_cut 99 = .ok (.isub, 1) := by decide +kernel
theorem d_LX_cut_100 : decode b_LX_cut 100 = .ok (.istore_n 3, 1) := by decide +kernel
theorem d_LX_cut_101 : decode b_LX_cut 101 = .ok (.goto 83, 3) := by decide +kernel
theorem d_LX_cut_104 : decode b_LX_cut 104 = .ok (.iload 4, 2) := by decide +kernel
theorem d_LX_cut_106 : decode b_LX_cut 106 = .ok (.bipush 61, 2) := by decide +kernel
theorem d_LX_cut_108 : decode b_LX_cut 108 = .ok (.if_icmp .ne 32, 3) := by decide +kernel
theorem d_LX_cut_111 : decode b_LX_cut 111 = .ok (.iload_n 3, 1) := by decide +kernel
theorem d_LX_cut_112 : decode b_LX_cut 112 = .ok (.iconst 1, 1) := by decide +kernel
theorem d_LX_cut_113 : decode b_LX_cut 113 = .ok (.iadd, 1) := by decide +kernel
theorem d_LX_cut_114 : decode b_LX_cut 114 = .ok (.iload_n 2, 1) := by decide +kernel
theorem d_LX_cut_115 : decode b_LX_cut 115 = .ok (.if_icmp .ge 25, 3) := by decide +kernel
theorem d_LX_cut_118 : decode b_LX_cut 118 = .ok (.aload_n 1, 1) := by decide +kernel
theorem d_LX_cut_119 : decode b_LX_cut 119 = .ok (.iload_n 3, 1) := by decide +kernel
theorem d_LX_cut_120 : decode b_LX_cut 120 = .ok (.iconst 1, 1) := by decide +kernel
theorem d_LX_cut_121 : decode b_LX_cut 121 = .ok (.iadd, 1) := by decide +kernel
theorem d_LX_cut_122 : decode b_LX_cut 122 = .ok (.caload, 1) := by decide +kernel
theorem d_LX_cut_123 : decode b_LX_cut 123 = .ok (.bipush 61, 2) := by decide +kernel
theorem d_LX_cut_125 : decode b_LX_cut 125 = .ok (.if_icmp .ne 15, 3) := by decide +kernel
theorem d_LX_cut_128 : decode b_LX_cut 128 = .ok (.aload_n 0, 1) := by decide +kernel
theorem d_LX_cut_129 : decode b_LX_cut 129 = .ok (.iconst 3, 1) := by decide +kernel
theorem d_LX_cut_130 : decode b_LX_cut 130 = .ok (.iconst 0, 1) := by decide +kernel
theorem d_LX_cut_131 : decode b_LX_cut 131 = .ok (.invokevirtual 38, 3) := by decide +kernel
theorem d_LX_cut_134 : decode b_LX_cut 134 = .ok (.iinc 3 1, 3) := by decide +kernel
theorem d_LX_cut_137 : decode b_LX_cut 137 = .ok (.goto 47, 3) := by decide +kernel
theorem d_LX_cut_140 : decode b_LX_cut 140 = .ok (.ldc 48, 2) := by decide +kernel
theorem d_LX_cut_142 : decode b_LX_cut 142 = .ok (.iload 4, 2) := by decide +kernel
theorem d_LX_cut_144 : decode b_LX_cut 144 = .ok (.invokevirtual 50, 3) := by decide +kernel
theorem d_LX_cut_147 : decode b_LX_cut 147 = .ok (.ifCond .lt 13, 3) := by decide +kernel
theorem d_LX_cut_150 : decode b_LX_cut 150 = .ok (.aload_n 0, 1) := by decide +kernel
theorem d_LX_cut_151 : decode b_LX_cut 151 = .ok (.iload 4, 2) := by decide +kernel
theorem d_LX_cut_153 : decode b_LX_cut 153 = .ok (.iconst 0, 1) := by decide +kernel
theorem d_LX_cut_154 : decode b_LX_cut 154 = .ok (.invokevirtual 38, 3) := by decide +kernel
theorem d_LX_cut_157 : decode b_LX_cut 157 = .ok (.goto 27, 3) := by decide +kernel
theorem d_LX_cut_160 : decode b_LX_cut 160 = .ok (.iload 4, 2) := by decide +kernel
theorem d_LX_cut_162 : decode b_LX_cut 162 = .ok (.bipush 32, 2) := by decide +kernel
theorem d_LX_cut_164 : decode b_LX_cut 164 = .ok (.if_icmp .eq 20, 3) := by decide +kernel
theorem d_LX_cut_167 : decode b_LX_cut 167 = .ok (.iload 4, 2) := by decide +kernel
theorem d_LX_cut_169 : decode b_LX_cut 169 = .ok (.bipush 10, 2) := by decide +kernel
theorem d_LX_cut_171 : decode b_LX_cut 171 = .ok (.if_icmp .eq 13, 3) := by decide +kernel
theorem d_LX_cut_174 : decode b_LX_cut 174 = .ok (.new 56, 3) := by decide +kernel
theorem d_LX_cut_177 : decode b_LX_cut 177 = .ok (.dup, 1) := by decide +kernel
theorem d_LX_cut_178 : decode b_LX_cut 178 = .ok (.ldc 58, 2) := by decide +kernel
theorem d_LX_cut_180 : decode b_LX_cut 180 = .ok (.invokespecial 60, 3) := by decide +kernel
theorem d_LX_cut_183 : decode b_LX_cut 183 = .ok (.athrow, 1) := by decide +kernel
theorem d_LX_cut_184 : decode b_LX_cut 184 = .ok (.iinc 3 1, 3) := by decide +kernel
theorem d_LX_cut_187 : decode b_LX_cut 187 = .ok (.goto (-180), 3) := by decide +kernel
theorem d_LX_cut_190 : decode b_LX_cut 190 = .ok (.return_, 1) := by decide +kernel
theorem d_LX_add_0 : decode b_LX_add 0 = .ok (.aload_n 0, 1) := by decide +kernel
theorem d_LX_add_1 : decode b_LX_add 1 = .ok (.getfield 16, 3) := by decide +kernel
theorem d_LX_add_4 : decode b_LX_add 4 = .ok (.bipush 100, 2) := by decide +kernel
theorem d_LX_add_6 : decode b_LX_add 6 = .ok (.if_icmp .lt 13, 3) := by decide +kernel
theorem d_LX_add_9 : decode b_LX_add 9 = .ok (.new 63, 3) := by decide +kernel
theorem d_LX_add_12 : decode b_LX_add 12 = .ok (.dup, 1) := by decide +kernel
theorem d_LX_add_13 : decode b_LX_add 13 = .ok (.ldc 65, 2) := by decide +kernel
theorem d_LX_add_15 : decode b_LX_add 15 = .ok (.invokespecial 67, 3) := by decide +kernel
theorem d_LX_add_18 : decode b_LX_add 18 = .ok (.athrow, 1) := by decide +kernel
theorem d_LX_add_19 : decode b_LX_add 19 = .ok (.aload_n 0, 1) := by decide +kernel
theorem d_LX_add_20 : decode b_LX_add 20 = .ok (.getfield 9, 3) := by decide +kernel
theorem d_LX_add_23 : decode b_LX_add 23 = .ok (.aload_n 0, 1) := by decide +kernel
theorem d_LX_add_24 : decode b_LX_add 24 = .ok (.getfield 16, 3) := by decide +kernel
theorem d_LX_add_27 : decode b_LX_add 27 = .ok (.iload_n 1, 1) := by decide +kernel
theorem d_LX_add_28 : decode b_LX_add 28 = .ok (.iastore, 1) := by decide +kernel
theorem d_LX_add_29 : decode b_LX_add 29 = .ok (.aload_n 0, 1) := by decide +kernel
theorem d_LX_add_30 : decode b_LX_add 30 = .ok (.getfield 13, 3) := by decide +kernel
theorem d_LX_add_33 : decode b_LX_add 33 = .ok (.aload_n 0, 1) := by decide +kernel
theorem d_LX_add_34 : decode b_LX_add 34 = .ok (.getfield 16, 3) := by decide +kernel
theorem d_LX_add_37 : decode b_LX_add 37 = .ok (.iload_n 2, 1) := by decide +kernel
theorem d_LX_add_38 : decode b_LX_add 38 = .ok (.iastore, 1) := by decide +kernel
theorem d_LX_add_39 : decode b_LX_add 39 = .ok (.aload_n 0, 1) := by decide +kernel
theorem d_LX_add_40 : decode b_LX_add 40 = .ok (.dup, 1) := by decide +kernel
theorem d_LX_add_41 : decode b_LX_add 41 = .ok (.getfield 16, 3) := by decide +kernel
theorem d_LX_add_44 : decode b_LX_add 44 = .ok (.iconst 1, 1) := by decide +kernel
theorem d_LX_add_45 : decode b_LX_add 45 = .ok (.iadd, 1) := by decide +kernel
theorem d_LX_add_46 : decode b_LX_add 46 = .ok (.putfield 16, 3) := by decide +kernel
theorem d_LX_add_49 : decode b_LX_add 49 = .ok (.return_, 1) := by decide +kernel
theorem d_LX_endOf_0 : decode b_LX_endOf 0 = .ok (.iload_n 1, 1) := by decide +kernel
theorem d_LX_endOf_1 : decode b_LX_endOf 1 = .ok (.istore 4, 2) := by decide +kernel
theorem d_LX_endOf_3 : decode b_LX_endOf 3 = .ok (.iload 4, 2) := by decide +kernel
theorem d_LX_endOf_5 : decode b_LX_endOf 5 = .ok (.iload_n 2, 1) := by decide +kernel
theorem d_LX_endOf_6 : decode b_LX_endOf 6 = .ok (.if_icmp .ge 36, 3) := by decide +kernel
theorem d_LX_endOf_9 : decode b_LX_endOf 9 = .ok (.iload_n 3, 1) := by decide +kernel
theorem d_LX_endOf_10 : decode b_LX_endOf 10 = .ok (.ifCond .eq 16, 3) := by decide +kernel
theorem d_LX_endOf_13 : decode b_LX_endOf 13 = .ok (.aload_n 0, 1) := by decide +kernel
theorem d_LX_endOf_14 : decode b_LX_endOf 14 = .ok (.iload 4, 2) := by decide +kernel
theorem d_LX_endOf_16 : decode b_LX_endOf 16 = .ok (.caload, 1) := by decide +kernel
theorem d_LX_endOf_17 : decode b_LX_endOf 17 = .ok (.invokestatic 20, 3) := by decide +kernel
theorem d_LX_endOf_20 : decode b_LX_endOf 20 = .ok (.ifCond .eq 22, 3) := by decide +kernel
theorem d_LX_endOf_23 : decode b_LX_endOf 23 = .ok (.goto 13, 3) := by decide +kernel
theorem d_LX_endOf_26 : decode b_LX_endOf 26 = .ok (.aload_n 0, 1) := by decide +kernel
theorem d_LX_endOf_27 : decode b_LX_endOf 27 = .ok (.iload 4, 2) := by decide +kernel
theorem d_LX_endOf_29 : decode b_LX_endOf 29 = .ok (.caload, 1) := by decide +kernel
theorem d_LX_endOf_30 : decode b_LX_endOf 30 = .ok (.invokestatic 42, 3) := by decide +kernel
theorem d_LX_endOf_33 : decode b_LX_endOf 33 = .ok (.ifCond .eq 9, 3) := by decide +kernel
theorem d_LX_endOf_36 : decode b_LX_endOf 36 = .ok (.iinc 4 1, 3) := by decide +kernel
theorem d_LX_endOf_39 : decode b_LX_endOf 39 = .ok (.goto (-36), 3) := by decide +kernel
theorem d_LX_endOf_42 : decode b_LX_endOf 42 = .ok (.iload 4, 2) := by decide +kernel
theorem d_LX_endOf_44 : decode b_LX_endOf 44 = .ok (.ireturn, 1) := by decide +kernel
theorem d_LX_nameOf_0 : decode b_LX_nameOf 0 = .ok (.iconst 0, 1) := by decide +kernel
theorem d_LX_nameOf_1 : decode b_LX_nameOf 1 = .ok (.istore_n 3, 1) := by decide +kernel
theorem d_LX_nameOf_2 : decode b_LX_nameOf 2 = .ok (.iload_n 1, 1) := by decide +kernel
theorem d_LX_nameOf_3 : decode b_LX_nameOf 3 = .ok (.istore 4, 2) := by decide +kernel
theorem d_LX_nameOf_5 : decode b_LX_nameOf 5 = .ok (.iload 4, 2) := by decide +kernel
theorem d_LX_nameOf_7 : decode b_LX_nameOf 7 = .ok (.iload_n 2, 1) := by decide +kernel
theorem d_LX_nameOf_8 : decode b_LX_nameOf 8 = .ok (.if_icmp .ge 24, 3) := by decide +kernel
theorem d_LX_nameOf_11 : decode b_LX_nameOf 11 = .ok (.iload_n 3, 1) := by decide +kernel
theorem d_LX_nameOf_12 : decode b_LX_nameOf 12 = .ok (.bipush 32, 2) := by decide +kernel
theorem d_LX_nameOf_14 : decode b_LX_nameOf 14 = .ok (.imul, 1) := by decide +kernel
theorem d_LX_nameOf_15 : decode b_LX_nameOf 15 = .ok (.aload_n 0, 1) := by decide +kernel
theorem d_LX_nameOf_16 : decode b_LX_nameOf 16 = .ok (.iload 4, 2) := by decide +kernel
theorem d_LX_nameOf_18 : decode b_LX_nameOf 18 = .ok (.caload, 1) := by decide +kernel
theorem d_LX_nameOf_19 : decode b_LX_nameOf 19 = .ok (.bipush 97, 2) := by decide +kernel
theorem d_LX_nameOf_21 : decode b_LX_nameOf 21 = .ok (.isub, 1) := by decide +kernel
theorem d_LX_nameOf_22 : decode b_LX_nameOf 22 = .ok (.iconst 1, 1) := by decide +kernel
theorem d_LX_nameOf_23 : decode b_LX_nameOf 23 = .ok (.iadd, 1) := by decide +kernel
theorem d_LX_nameOf_24 : decode b_LX_nameOf 24 = .ok (.iadd, 1) := by decide +kernel
theorem d_LX_nameOf_25 : decode b_LX_nameOf 25 = .ok (.istore_n 3, 1) := by decide +kernel
theorem d_LX_nameOf_26 : decode b_LX_nameOf 26 = .ok (.iinc 4 1, 3) := by decide +kernel
theorem d_LX_nameOf_29 : decode b_LX_nameOf 29 = .ok (.goto (-24), 3) := by decide +kernel
theorem d_LX_nameOf_32 : decode b_LX_nameOf 32 = .ok (.iload_n 3, 1) := by decide +kernel
theorem d_LX_nameOf_33 : decode b_LX_nameOf 33 = .ok (.ireturn, 1) := by decide +kernel
theorem d_LX_numberOf_0 : decode b_LX_numberOf 0 = .ok (.iconst 0, 1) := by decide +kernel
theorem d_LX_numberOf_1 : decode b_LX_numberOf 1 = .ok (.istore_n 3, 1) := by decide +kernel
theorem d_LX_numberOf_2 : decode b_LX_numberOf 2 = .ok (.iload_n 1, 1) := by decide +kernel
theorem d_LX_numberOf_3 : decode b_LX_numberOf 3 = .ok (.istore 4, 2) := by decide +kernel
theorem d_LX_numberOf_5 : decode b_LX_numberOf 5 = .ok (.iload 4, 2) := by decide +kernel
theorem d_LX_numberOf_7 : decode b_LX_numberOf 7 = .ok (.iload_n 2, 1) := by decide +kernel
theorem d_LX_numberOf_8 : decode b_LX_numberOf 8 = .ok (.if_icmp .ge 22, 3) := by decide +kernel
theorem d_LX_numberOf_11 : decode b_LX_numberOf 11 = .ok (.iload_n 3, 1) := by decide +kernel
theorem d_LX_numberOf_12 : decode b_LX_numberOf 12 = .ok (.bipush 10, 2) := by decide +kernel
theorem d_LX_numberOf_14 : decode b_LX_numberOf 14 = .ok (.imul, 1) := by decide +kernel
theorem d_LX_numberOf_15 : decode b_LX_numberOf 15 = .ok (.aload_n 0, 1) := by decide +kernel
theorem d_LX_numberOf_16 : decode b_LX_numberOf 16 = .ok (.iload 4, 2) := by decide +kernel
theorem d_LX_numberOf_18 : decode b_LX_numberOf 18 = .ok (.caload, 1) := by decide +kernel
theorem d_LX_numberOf_19 : decode b_LX_numberOf 19 = .ok (.bipush 48, 2) := by decide +kernel
theorem d_LX_numberOf_21 : decode b_LX_numberOf 21 = .ok (.isub, 1) := by decide +kernel
theorem d_LX_numberOf_22 : decode b_LX_numberOf 22 = .ok (.iadd, 1) := by decide +kernel
theorem d_LX_numberOf_23 : decode b_LX_numberOf 23 = .ok (.istore_n 3, 1) := by decide +kernel
theorem d_LX_numberOf_24 : decode b_LX_numberOf 24 = .ok (.iinc 4 1, 3) := by decide +kernel
theorem d_LX_numberOf_27 : decode b_LX_numberOf 27 = .ok (.goto (-22), 3) := by decide +kernel
theorem d_LX_numberOf_30 : decode b_LX_numberOf 30 = .ok (.iload_n 3, 1) := by decide +kernel
theorem d_LX_numberOf_31 : decode b_LX_numberOf 31 = .ok (.ireturn, 1) := by decide +kernel
theorem d_LX_isLetter_0 : decode b_LX_isLetter 0 = .ok (.iload_n 0, 1) := by decide +kernel
theorem d_LX_isLetter_1 : decode b_LX_isLetter 1 = .ok (.bipush 97, 2) := by decide +kernel
theorem d_LX_isLetter_3 : decode b_LX_isLetter 3 = .ok (.if_icmp .lt 13, 3) := by decide +kernel
theorem d_LX_isLetter_6 : decode b_LX_isLetter 6 = .ok (.iload_n 0, 1) := by decide +kernel
theorem d_LX_isLetter_7 : decode b_LX_isLetter 7 = .ok (.bipush 122, 2) := by decide +kernel
theorem d_LX_isLetter_9 : decode b_LX_isLetter 9 = .ok (.if_icmp .gt 7, 3) := by decide +kernel
theorem d_LX_isLetter_12 : decode b_LX_isLetter 12 = .ok (.iconst 1, 1) := by decide +kernel
theorem d_LX_isLetter_13 : decode b_LX_isLetter 13 = .ok (.goto 4, 3) := by decide +kernel
theorem d_LX_isLetter_16 : decode b_LX_isLetter 16 = .ok (.iconst 0, 1) := by decide +kernel
theorem d_LX_isLetter_17 : decode b_LX_isLetter 17 = .ok (.ireturn, 1) := by decide +kernel
theorem d_LX_isDigit_0 : decode b_LX_isDigit 0 = .ok (.iload_n 0, 1) := by decide +kernel
theorem d_LX_isDigit_1 : decode b_LX_isDigit 1 = .ok (.bipush 48, 2) := by decide +kernel
theorem d_LX_isDigit_3 : decode b_LX_isDigit 3 = .ok (.if_icmp .lt 13, 3) := by decide +kernel
theorem d_LX_isDigit_6 : decode b_LX_isDigit 6 = .ok (.iload_n 0, 1) := by decide +kernel
theorem d_LX_isDigit_7 : decode b_LX_isDigit 7 = .ok (.bipush 57, 2) := by decide +kernel
theorem d_LX_isDigit_9 : decode b_LX_isDigit 9 = .ok (.if_icmp .gt 7, 3) := by decide +kernel
theorem d_LX_isDigit_12 : decode b_LX_isDigit 12 = .ok (.iconst 1, 1) := by decide +kernel
theorem d_LX_isDigit_13 : decode b_LX_isDigit 13 = .ok (.goto 4, 3) := by decide +kernel
theorem d_LX_isDigit_16 : decode b_LX_isDigit 16 = .ok (.iconst 0, 1) := by decide +kernel
theorem d_LX_isDigit_17 : decode b_LX_isDigit 17 = .ok (.ireturn, 1) := by decide +kernel
theorem d_TM_init_0 : decode b_TM_init 0 = .ok (.aload_n 0, 1) := by decide +kernel
theorem d_TM_init_1 : decode b_TM_init 1 = .ok (.invokespecial 1, 3) := by decide +kernel
theorem d_TM_init_4 : decode b_TM_init 4 = .ok (.aload_n 0, 1) := by decide +kernel
theorem d_TM_init_5 : decode b_TM_init 5 = .ok (.sipush 1024, 3) := by decide +kernel
theorem d_TM_init_8 : decode b_TM_init 8 = .ok (.newarray .long, 2) := by decide +kernel
theorem d_TM_init_10 : decode b_TM_init 10 = .ok (.putfield 9, 3) := by decide +kernel
theorem d_TM_init_13 : decode b_TM_init 13 = .ok (.aload_n 0, 1) := by decide +kernel
theorem d_TM_init_14 : decode b_TM_init 14 = .ok (.sipush 1024, 3) := by decide +kernel
theorem d_TM_init_17 : decode b_TM_init 17 = .ok (.newarray .long, 2) := by decide +kernel
theorem d_TM_init_19 : decode b_TM_init 19 = .ok (.putfield 13, 3) := by decide +kernel
theorem d_TM_init_22 : decode b_TM_init 22 = .ok (.aload_n 0, 1) := by decide +kernel
theorem d_TM_init_23 : decode b_TM_init 23 = .ok (.sipush 1024, 3) := by decide +kernel
theorem d_TM_init_26 : decode b_TM_init 26 = .ok (.newarray .int, 2) := by decide +kernel
theorem d_TM_init_28 : decode b_TM_init 28 = .ok (.putfield 16, 3) := by decide +kernel
theorem d_TM_init_31 : decode b_TM_init 31 = .ok (.aload_n 0, 1) := by decide +kernel
theorem d_TM_init_32 : decode b_TM_init 32 = .ok (.iconst 0, 1) := by decide +kernel
theorem d_TM_init_33 : decode b_TM_init 33 = .ok (.putfield 20, 3) := by decide +kernel
theorem d_TM_init_36 : decode b_TM_init 36 = .ok (.aload_n 0, 1) := by decide +kernel
theorem d_TM_init_37 : decode b_TM_init 37 = .ok (.sipush 1024, 3) := by decide +kernel
theorem d_TM_init_40 : decode b_TM_init 40 = .ok (.newarray .int, 2) := by decide +kernel
theorem d_TM_init_42 : decode b_TM_init 42 = .ok (.putfield 24, 3) := by decide +kernel
theorem d_TM_init_45 : decode b_TM_init 45 = .ok (.aload_n 0, 1) := by decide +kernel
theorem d_TM_init_46 : decode b_TM_init 46 = .ok (.sipush 1024, 3) := by decide +kernel
theorem d_TM_init_49 : decode b_TM_init 49 = .ok (.newarray .boolean, 2) := by decide +kernel
theorem d_TM_init_51 : decode b_TM_init 51 = .ok (.putfield 27, 3) := by decide +kernel
theorem d_TM_init_54 : decode b_TM_init 54 = .ok (.aload_n 0, 1) := by decide +kernel
theorem d_TM_init_55 : decode b_TM_init 55 = .ok (.sipush 1024, 3) := by decide +kernel
theorem d_TM_init_58 : decode b_TM_init 58 = .ok (.newarray .long, 2) := by decide +kernel
theorem d_TM_init_60 : decode b_TM_init 60 = .ok (.putfield 31, 3) := by decide +kernel
theorem d_TM_init_63 : decode b_TM_init 63 = .ok (.aload_n 0, 1) := by decide +kernel
theorem d_TM_init_64 : decode b_TM_init 64 = .ok (.iconst 0, 1) := by decide +kernel
theorem d_TM_init_65 : decode b_TM_init 65 = .ok (.putfield 34, 3) := by decide +kernel
theorem d_TM_init_68 : decode b_TM_init 68 = .ok (.return_, 1) := by decide +kernel
theorem d_TM_clear_0 : decode b_TM_clear 0 = .ok (.iconst 0, 1) := by decide +kernel
theorem d_TM_clear_1 : decode b_TM_clear 1 = .ok (.istore_n 1, 1) := by decide +kernel
theorem d_TM_clear_2 : decode b_TM_clear 2 = .ok (.iload_n 1, 1) := by decide +kernel
theorem d_TM_clear_3 : decode b_TM_clear 3 = .ok (.sipush 1024, 3) := by decide +kernel
theorem d_TM_clear_6 : decode b_TM_clear 6 = .ok (.if_icmp .ge 20, 3) := by decide +kernel
theorem d_TM_clear_9 : decode b_TM_clear 9 = .ok (.aload_n 0, 1) := by decide +kernel
theorem d_TM_clear_10 : decode b_TM_clear 10 = .ok (.getfield 16, 3) := by decide +kernel
theorem d_TM_clear_13 : decode b_TM_clear 13 = .ok (.iload_n 1, 1) := by decide +kernel
theorem d_TM_clear_14 : decode b_TM_clear 14 = .ok (.sipush 1023, 3) := by decide +kernel
theorem d_TM_clear_17 : decode b_TM_clear 17 = .ok (.iload_n 1, 1) := by decide +kernel
theorem d_TM_clear_18 : decode b_TM_clear 18 = .ok (.isub, 1) := by decide +kernel
theorem d_TM_clear_19 : decode b_TM_clear 19 = .ok (.iastore, 1) := by decide +kernel
theorem d_TM_clear_20 : decode b_TM_clear 20 = .ok (.iinc 1 1, 3) := by decide +kernel
theorem d_TM_clear_23 : decode b_TM_clear 23 = .ok (.goto (-21), 3) := by decide +kernel
theorem d_TM_clear_26 : decode b_TM_clear 26 = .ok (.aload_n 0, 1) := by decide +kernel
theorem d_TM_clear_27 : decode b_TM_clear 27 = .ok (.sipush 1024, 3) := by decide +kernel
theorem d_TM_clear_30 : decode b_TM_clear 30 = .ok (.putfield 20, 3) := by decide +kernel
theorem d_TM_clear_33 : decode b_TM_clear 33 = .ok (.aload_n 0, 1) := by decide +kernel
theorem d_TM_clear_34 : decode b_TM_clear 34 = .ok (.iconst 0, 1) := by decide +kernel
theorem d_TM_clear_35 : decode b_TM_clear 35 = .ok (.putfield 34, 3) := by decide +kernel
theorem d_TM_clear_38 : decode b_TM_clear 38 = .ok (.return_, 1) := by decide +kernel
theorem d_TM_isTooBig_0 : decode b_TM_isTooBig 0 = .ok (.aload_n 0, 1) := by decide +kernel
theorem d_TM_isTooBig_1 : decode b_TM_isTooBig 1 = .ok (.getfield 34, 3) := by decide +kernel
theorem d_TM_isTooBig_4 : decode b_TM_isTooBig 4 = .ok (.ireturn, 1) := by decide +kernel
theorem d_TM_leftOf_0 : decode b_TM_leftOf 0 = .ok (.aload_n 0, 1) := by decide +kernel
theorem d_TM_leftOf_1 : decode b_TM_leftOf 1 = .ok (.getfield 9, 3) := by decide +kernel
theorem d_TM_leftOf_4 : decode b_TM_leftOf 4 = .ok (.iload_n 1, 1) := by decide +kernel
theorem d_TM_leftOf_5 : decode b_TM_leftOf 5 = .ok (.laload, 1) := by decide +kernel
theorem d_TM_leftOf_6 : decode b_TM_leftOf 6 = .ok (.lreturn, 1) := by decide +kernel
theorem d_TM_rightOf_0 : decode b_TM_rightOf 0 = .ok (.aload_n 0, 1) := by decide +kernel
theorem d_TM_rightOf_1 : decode b_TM_rightOf 1 = .ok (.getfield 13, 3) := by decide +kernel
theorem d_TM_rightOf_4 : decode b_TM_rightOf 4 = .ok (.iload_n 1, 1) := by decide +kernel
theorem d_TM_rightOf_5 : decode b_TM_rightOf 5 = .ok (.laload, 1) := by decide +kernel
theorem d_TM_rightOf_6 : decode b_TM_rightOf 6 = .ok (.lreturn, 1) := by decide +kernel
theorem d_TM_listed_0 : decode b_TM_listed 0 = .ok (.aload_n 0, 1) := by decide +kernel
theorem d_TM_listed_1 : decode b_TM_listed 1 = .ok (.getfield 24, 3) := by decide +kernel
theorem d_TM_listed_4 : decode b_TM_listed 4 = .ok (.iload_n 1, 1) := by decide +kernel
theorem d_TM_listed_5 : decode b_TM_listed 5 = .ok (.iaload, 1) := by decide +kernel
theorem d_TM_listed_6 : decode b_TM_listed 6 = .ok (.ireturn, 1) := by decide +kernel
theorem d_TM_apply_0 : decode b_TM_apply 0 = .ok (.aload_n 0, 1) := by decide +kernel
theorem d_TM_apply_1 : decode b_TM_apply 1 = .ok (.getfield 20, 3) := by decide +kernel
theorem d_TM_apply_4 : decode b_TM_apply 4 = .ok (.ifCond .ne 8, 3) := by decide +kernel
theorem d_TM_apply_7 : decode b_TM_apply 7 = .ok (.aload_n 0, 1) := by decide +kernel
theorem d_TM_apply_8 : decode b_TM_apply 8 = .ok (.iconst 1, 1) := by decide +kernel
theorem d_TM_apply_9 : decode b_TM_apply 9 = .ok (.putfield 34, 3) := by decide +kernel
theorem d_TM_apply_12 : decode b_TM_apply 12 = .ok (.aload_n 0, 1) := by decide +kernel
theorem d_TM_apply_13 : decode b_TM_apply 13 = .ok (.getfield 34, 3) := by decide +kernel
theorem d_TM_apply_16 : decode b_TM_apply 16 = .ok (.ifCond .eq 9, 3) := by decide +kernel
theorem d_TM_apply_19 : decode b_TM_apply 19 = .ok (.bipush 17, 2) := by decide +kernel
theorem d_TM_apply_21 : decode b_TM_apply 21 = .ok (.invokestatic 40, 3) := by decide +kernel
theorem d_TM_apply_24 : decode b_TM_apply 24 = .ok (.lreturn, 1) := by decide +kernel
theorem d_TM_apply_25 : decode b_TM_apply 25 = .ok (.aload_n 0, 1) := by decide +kernel
theorem d_TM_apply_26 : decode b_TM_apply 26 = .ok (.dup, 1) := by decide +kernel
theorem d_TM_apply_27 : decode b_TM_apply 27 = .ok (.getfield 20, 3) := by decide +kernel
theorem d_TM_apply_30 : decode b_TM_apply 30 = .ok (.iconst 1, 1) := by decide +kernel
theorem d_TM_apply_31 : decode b_TM_apply 31 = .ok (.isub, 1) := by decide +kernel
theorem d_TM_apply_32 : decode b_TM_apply 32 = .ok (.putfield 20, 3) := by decide +kernel
theorem d_TM_apply_35 : decode b_TM_apply 35 = .ok (.aload_n 0, 1) := by decide +kernel
theorem d_TM_apply_36 : decode b_TM_apply 36 = .ok (.getfield 16, 3) := by decide +kernel
theorem d_TM_apply_39 : decode b_TM_apply 39 = .ok (.aload_n 0, 1) := by decide +kernel
theorem d_TM_apply_40 : decode b_TM_apply 40 = .ok (.getfield 20, 3) := by decide +kernel
theorem d_TM_apply_43 : decode b_TM_apply 43 = .ok (.iaload, 1) := by decide +kernel
theorem d_TM_apply_44 : decode b_TM_apply 44 = .ok (.istore 5, 2) := by decide +kernel
theorem d_TM_apply_46 : decode b_TM_apply 46 = .ok (.aload_n 0, 1) := by decide +kernel
theorem d_TM_apply_47 : decode b_TM_apply 47 = .ok (.getfield 9, 3) := by decide +kernel
theorem d_TM_apply_50 : decode b_TM_apply 50 = .ok (.iload 5, 2) := by decide +kernel
theorem d_TM_apply_52 : decode b_TM_apply 52 = .ok (.lload_n 1, 1) := by decide +kernel
theorem d_TM_apply_53 : decode b_TM_apply 53 = .ok (.lastore, 1) := by decide +kernel
theorem d_TM_apply_54 : decode b_TM_apply 54 = .ok (.aload_n 0, 1) := by decide +kernel
theorem d_TM_apply_55 : decode b_TM_apply 55 = .ok (.getfield 13, 3) := by decide +kernel
theorem d_TM_apply_58 : decode b_TM_apply 58 = .ok (.iload 5, 2) := by decide +kernel
theorem d_TM_apply_60 : decode b_TM_apply 60 = .ok (.lload_n 3, 1) := by decide +kernel
theorem d_TM_apply_61 : decode b_TM_apply 61 = .ok (.lastore, 1) := by decide +kernel
theorem d_TM_apply_62 : decode b_TM_apply 62 = .ok (.bipush 23, 2) := by decide +kernel
theorem d_TM_apply_64 : decode b_TM_apply 64 = .ok (.iload 5, 2) := by decide +kernel
theorem d_TM_apply_66 : decode b_TM_apply 66 = .ok (.invokestatic 44, 3) := by decide +kernel
theorem d_TM_apply_69 : decode b_TM_apply 69 = .ok (.lreturn, 1) := by decide +kernel
theorem d_TM_applyToTwo_0 : decode b_TM_applyToTwo 0 = .ok (.aload_n 0, 1) := by decide +kernel
theorem d_TM_applyToTwo_1 : decode b_TM_applyToTwo 1 = .ok (.aload_n 0, 1) := by decide +kernel
theorem d_TM_applyToTwo_2 : decode b_TM_applyToTwo 2 = .ok (.iload_n 1, 1) := by decide +kernel
theorem d_TM_applyToTwo_3 : decode b_TM_applyToTwo 3 = .ok (.invokestatic 40, 3) := by decide +kernel
theorem d_TM_applyToTwo_6 : decode b_TM_applyToTwo 6 = .ok (.lload_n 2, 1) := by decide +kernel
theorem d_TM_applyToTwo_7 : decode b_TM_applyToTwo 7 = .ok (.invokevirtual 48, 3) := by decide +kernel
theorem d_TM_applyToTwo_10 : decode b_TM_applyToTwo 10 = .ok (.lload 4, 2) := by decide +kernel
theorem d_TM_applyToTwo_12 : decode b_TM_applyToTwo 12 = .ok (.invokevirtual 48, 3) := by decide +kernel
theorem d_TM_applyToTwo_15 : decode b_TM_applyToTwo 15 = .ok (.lreturn, 1) := by decide +kernel
theorem d_TM_list_0 : decode b_TM_list 0 = .ok (.iconst 0, 1) := by decide +kernel
theorem d_TM_list_1 : decode b_TM_list 1 = .ok (.istore_n 3, 1) := by decide +kernel
