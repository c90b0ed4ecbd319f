theorem d_MO_atom_4 : decode b_MO_atom 4 = .ok (.iconst 1, 1) := by decide +kernel
theorem d_MO_atom_5 : decode b_MO_atom 5 = .ok (.isub, 1) := by decide +kernel
theorem d_MO_atom_6 : decode b_MO_atom 6 = .ok (.istore_n 3, 1) := by decide +kernel
theorem d_MO_atom_7 : decode b_MO_atom 7 = .ok (.aload_n 0, 1) := by decide +kernel
theorem d_MO_atom_8 : decode b_MO_atom 8 = .ok (.getfield 51, 3) := by decide +kernel
theorem d_MO_atom_11 : decode b_MO_atom 11 = .ok (.iload_n 3, 1) := by decide +kernel
theorem d_MO_atom_12 : decode b_MO_atom 12 = .ok (.iconst 0, 1) := by decide +kernel
theorem d_MO_atom_13 : decode b_MO_atom 13 = .ok (.bastore, 1) := by decide +kernel
theorem d_MO_atom_14 : decode b_MO_atom 14 = .ok (.aload_n 0, 1) := by decide +kernel
theorem d_MO_atom_15 : decode b_MO_atom 15 = .ok (.getfield 48, 3) := by decide +kernel
theorem d_MO_atom_18 : decode b_MO_atom 18 = .ok (.iload_n 3, 1) := by decide +kernel
theorem d_MO_atom_19 : decode b_MO_atom 19 = .ok (.baload, 1) := by decide +kernel
theorem d_MO_atom_20 : decode b_MO_atom 20 = .ok (.ifCond .eq 23, 3) := by decide +kernel
theorem d_MO_atom_23 : decode b_MO_atom 23 = .ok (.aload_n 0, 1) := by decide +kernel
theorem d_MO_atom_24 : decode b_MO_atom 24 = .ok (.invokevirtual 230, 3) := by decide +kernel
theorem d_MO_atom_27 : decode b_MO_atom 27 = .ok (.lstore 4, 2) := by decide +kernel
theorem d_MO_atom_29 : decode b_MO_atom 29 = .ok (.aload_n 0, 1) := by decide +kernel
theorem d_MO_atom_30 : decode b_MO_atom 30 = .ok (.aload_n 0, 1) := by decide +kernel
theorem d_MO_atom_31 : decode b_MO_atom 31 = .ok (.lload 4, 2) := by decide +kernel
theorem d_MO_atom_33 : decode b_MO_atom 33 = .ok (.lload_n 1, 1) := by decide +kernel
theorem d_MO_atom_34 : decode b_MO_atom 34 = .ok (.invokevirtual 193, 3) := by decide +kernel
theorem d_MO_atom_37 : decode b_MO_atom 37 = .ok (.invokevirtual 234, 3) := by decide +kernel
theorem d_MO_atom_40 : decode b_MO_atom 40 = .ok (.goto 8, 3) := by decide +kernel
theorem d_MO_atom_43 : decode b_MO_atom 43 = .ok (.aload_n 0, 1) := by decide +kernel
theorem d_MO_atom_44 : decode b_MO_atom 44 = .ok (.lload_n 1, 1) := by decide +kernel
theorem d_MO_atom_45 : decode b_MO_atom 45 = .ok (.invokevirtual 234, 3) := by decide +kernel
theorem d_MO_atom_48 : decode b_MO_atom 48 = .ok (.aload_n 0, 1) := by decide +kernel
theorem d_MO_atom_49 : decode b_MO_atom 49 = .ok (.getfield 48, 3) := by decide +kernel
theorem d_MO_atom_52 : decode b_MO_atom 52 = .ok (.iload_n 3, 1) := by decide +kernel
theorem d_MO_atom_53 : decode b_MO_atom 53 = .ok (.iconst 1, 1) := by decide +kernel
theorem d_MO_atom_54 : decode b_MO_atom 54 = .ok (.bastore, 1) := by decide +kernel
theorem d_MO_atom_55 : decode b_MO_atom 55 = .ok (.return_, 1) := by decide +kernel
theorem d_MO_named_0 : decode b_MO_named 0 = .ok (.aload_n 0, 1) := by decide +kernel
theorem d_MO_named_1 : decode b_MO_named 1 = .ok (.getfield 237, 3) := by decide +kernel
theorem d_MO_named_4 : decode b_MO_named 4 = .ok (.iconst 1, 1) := by decide +kernel
theorem d_MO_named_5 : decode b_MO_named 5 = .ok (.isub, 1) := by decide +kernel
theorem d_MO_named_6 : decode b_MO_named 6 = .ok (.istore_n 3, 1) := by decide +kernel
theorem d_MO_named_7 : decode b_MO_named 7 = .ok (.iload_n 3, 1) := by decide +kernel
theorem d_MO_named_8 : decode b_MO_named 8 = .ok (.ifCond .lt 26, 3) := by decide +kernel
theorem d_MO_named_11 : decode b_MO_named 11 = .ok (.aload_n 0, 1) := by decide +kernel
theorem d_MO_named_12 : decode b_MO_named 12 = .ok (.getfield 60, 3) := by decide +kernel
theorem d_MO_named_15 : decode b_MO_named 15 = .ok (.iload_n 3, 1) := by decide +kernel
theorem d_MO_named_16 : decode b_MO_named 16 = .ok (.laload, 1) := by decide +kernel
theorem d_MO_named_17 : decode b_MO_named 17 = .ok (.lload_n 1, 1) := by decide +kernel
theorem d_MO_named_18 : decode b_MO_named 18 = .ok (.lcmp, 1) := by decide +kernel
theorem d_MO_named_19 : decode b_MO_named 19 = .ok (.ifCond .ne 9, 3) := by decide +kernel
theorem d_MO_named_22 : decode b_MO_named 22 = .ok (.iconst 4, 1) := by decide +kernel
theorem d_MO_named_23 : decode b_MO_named 23 = .ok (.iload_n 3, 1) := by decide +kernel
theorem d_MO_named_24 : decode b_MO_named 24 = .ok (.invokestatic 171, 3) := by decide +kernel
theorem d_MO_named_27 : decode b_MO_named 27 = .ok (.lreturn, 1) := by decide +kernel
theorem d_MO_named_28 : decode b_MO_named 28 = .ok (.iinc 3 (-1), 3) := by decide +kernel
theorem d_MO_named_31 : decode b_MO_named 31 = .ok (.goto (-24), 3) := by decide +kernel
theorem d_MO_named_34 : decode b_MO_named 34 = .ok (.iconst 0, 1) := by decide +kernel
theorem d_MO_named_35 : decode b_MO_named 35 = .ok (.istore_n 3, 1) := by decide +kernel
theorem d_MO_named_36 : decode b_MO_named 36 = .ok (.iload_n 3, 1) := by decide +kernel
theorem d_MO_named_37 : decode b_MO_named 37 = .ok (.aload_n 0, 1) := by decide +kernel
theorem d_MO_named_38 : decode b_MO_named 38 = .ok (.getfield 240, 3) := by decide +kernel
theorem d_MO_named_41 : decode b_MO_named 41 = .ok (.if_icmp .ge 26, 3) := by decide +kernel
theorem d_MO_named_44 : decode b_MO_named 44 = .ok (.aload_n 0, 1) := by decide +kernel
theorem d_MO_named_45 : decode b_MO_named 45 = .ok (.getfield 63, 3) := by decide +kernel
theorem d_MO_named_48 : decode b_MO_named 48 = .ok (.iload_n 3, 1) := by decide +kernel
theorem d_MO_named_49 : decode b_MO_named 49 = .ok (.laload, 1) := by decide +kernel
theorem d_MO_named_50 : decode b_MO_named 50 = .ok (.lload_n 1, 1) := by decide +kernel
theorem d_MO_named_51 : decode b_MO_named 51 = .ok (.lcmp, 1) := by decide +kernel
theorem d_MO_named_52 : decode b_MO_named 52 = .ok (.ifCond .ne 9, 3) := by decide +kernel
theorem d_MO_named_55 : decode b_MO_named 55 = .ok (.iconst 1, 1) := by decide +kernel
theorem d_MO_named_56 : decode b_MO_named 56 = .ok (.iload_n 3, 1) := by decide +kernel
theorem d_MO_named_57 : decode b_MO_named 57 = .ok (.invokestatic 171, 3) := by decide +kernel
theorem d_MO_named_60 : decode b_MO_named 60 = .ok (.lreturn, 1) := by decide +kernel
theorem d_MO_named_61 : decode b_MO_named 61 = .ok (.iinc 3 1, 3) := by decide +kernel
theorem d_MO_named_64 : decode b_MO_named 64 = .ok (.goto (-28), 3) := by decide +kernel
theorem d_MO_named_67 : decode b_MO_named 67 = .ok (.lload_n 1, 1) := by decide +kernel
theorem d_MO_named_68 : decode b_MO_named 68 = .ok (.ldc2_w 243, 3) := by decide +kernel
theorem d_MO_named_71 : decode b_MO_named 71 = .ok (.lcmp, 1) := by decide +kernel
theorem d_MO_named_72 : decode b_MO_named 72 = .ok (.ifCond .ne 8, 3) := by decide +kernel
theorem d_MO_named_75 : decode b_MO_named 75 = .ok (.bipush 18, 2) := by decide +kernel
theorem d_MO_named_77 : decode b_MO_named 77 = .ok (.goto 30, 3) := by decide +kernel
theorem d_MO_named_80 : decode b_MO_named 80 = .ok (.lload_n 1, 1) := by decide +kernel
theorem d_MO_named_81 : decode b_MO_named 81 = .ok (.ldc2_w 245, 3) := by decide +kernel
theorem d_MO_named_84 : decode b_MO_named 84 = .ok (.lcmp, 1) := by decide +kernel
theorem d_MO_named_85 : decode b_MO_named 85 = .ok (.ifCond .ne 8, 3) := by decide +kernel
theorem d_MO_named_88 : decode b_MO_named 88 = .ok (.bipush 19, 2) := by decide +kernel
theorem d_MO_named_90 : decode b_MO_named 90 = .ok (.goto 17, 3) := by decide +kernel
theorem d_MO_named_93 : decode b_MO_named 93 = .ok (.lload_n 1, 1) := by decide +kernel
theorem d_MO_named_94 : decode b_MO_named 94 = .ok (.ldc2_w 247, 3) := by decide +kernel
theorem d_MO_named_97 : decode b_MO_named 97 = .ok (.lcmp, 1) := by decide +kernel
theorem d_MO_named_98 : decode b_MO_named 98 = .ok (.ifCond .ne 8, 3) := by decide +kernel
theorem d_MO_named_101 : decode b_MO_named 101 = .ok (.bipush 20, 2) := by decide +kernel
theorem d_MO_named_103 : decode b_MO_named 103 = .ok (.goto 4, 3) := by decide +kernel
theorem d_MO_named_106 : decode b_MO_named 106 = .ok (.iconst (-1), 1) := by decide +kernel
theorem d_MO_named_107 : decode b_MO_named 107 = .ok (.istore_n 3, 1) := by decide +kernel
theorem d_MO_named_108 : decode b_MO_named 108 = .ok (.iload_n 3, 1) := by decide +kernel
theorem d_MO_named_109 : decode b_MO_named 109 = .ok (.ifCond .ge 8, 3) := by decide +kernel
theorem d_MO_named_112 : decode b_MO_named 112 = .ok (.aload_n 0, 1) := by decide +kernel
theorem d_MO_named_113 : decode b_MO_named 113 = .ok (.iconst 1, 1) := by decide +kernel
theorem d_MO_named_114 : decode b_MO_named 114 = .ok (.invokevirtual 134, 3) := by decide +kernel
theorem d_MO_named_117 : decode b_MO_named 117 = .ok (.iload_n 3, 1) := by decide +kernel
theorem d_MO_named_118 : decode b_MO_named 118 = .ok (.invokestatic 178, 3) := by decide +kernel
theorem d_MO_named_121 : decode b_MO_named 121 = .ok (.lreturn, 1) := by decide +kernel
theorem d_MO_beginsAtom_0 : decode b_MO_beginsAtom 0 = .ok (.aload_n 0, 1) := by decide +kernel
theorem d_MO_beginsAtom_1 : decode b_MO_beginsAtom 1 = .ok (.getfield 13, 3) := by decide +kernel
theorem d_MO_beginsAtom_4 : decode b_MO_beginsAtom 4 = .ok (.aload_n 0, 1) := by decide +kernel
theorem d_MO_beginsAtom_5 : decode b_MO_beginsAtom 5 = .ok (.getfield 158, 3) := by decide +kernel
theorem d_MO_beginsAtom_8 : decode b_MO_beginsAtom 8 = .ok (.iaload, 1) := by decide +kernel
theorem d_MO_beginsAtom_9 : decode b_MO_beginsAtom 9 = .ok (.iconst 1, 1) := by decide +kernel
theorem d_MO_beginsAtom_10 : decode b_MO_beginsAtom 10 = .ok (.if_icmp .eq 28, 3) := by decide +kernel
theorem d_MO_beginsAtom_13 : decode b_MO_beginsAtom 13 = .ok (.aload_n 0, 1) := by decide +kernel
theorem d_MO_beginsAtom_14 : decode b_MO_beginsAtom 14 = .ok (.invokevirtual 249, 3) := by decide +kernel
theorem d_MO_beginsAtom_17 : decode b_MO_beginsAtom 17 = .ok (.ifCond .ne 21, 3) := by decide +kernel
theorem d_MO_beginsAtom_20 : decode b_MO_beginsAtom 20 = .ok (.aload_n 0, 1) := by decide +kernel
theorem d_MO_beginsAtom_21 : decode b_MO_beginsAtom 21 = .ok (.bipush 40, 2) := by decide +kernel
theorem d_MO_beginsAtom_23 : decode b_MO_beginsAtom 23 = .ok (.invokevirtual 253, 3) := by decide +kernel
theorem d_MO_beginsAtom_26 : decode b_MO_beginsAtom 26 = .ok (.ifCond .ne 12, 3) := by decide +kernel
theorem d_MO_beginsAtom_29 : decode b_MO_beginsAtom 29 = .ok (.aload_n 0, 1) := by decide +kernel
theorem d_MO_beginsAtom_30 : decode b_MO_beginsAtom 30 = .ok (.bipush 91, 2) := by decide +kernel
theorem d_MO_beginsAtom_32 : decode b_MO_beginsAtom 32 = .ok (.invokevirtual 253, 3) := by decide +kernel
theorem d_MO_beginsAtom_35 : decode b_MO_beginsAtom 35 = .ok (.ifCond .eq 7, 3) := by decide +kernel
theorem d_MO_beginsAtom_38 : decode b_MO_beginsAtom 38 = .ok (.iconst 1, 1) := by decide +kernel
theorem d_MO_beginsAtom_39 : decode b_MO_beginsAtom 39 = .ok (.goto 4, 3) := by decide +kernel
theorem d_MO_beginsAtom_42 : decode b_MO_beginsAtom 42 = .ok (.iconst 0, 1) := by decide +kernel
theorem d_MO_beginsAtom_43 : decode b_MO_beginsAtom 43 = .ok (.ireturn, 1) := by decide +kernel
theorem d_MO_start_0 : decode b_MO_start 0 = .ok (.aload_n 0, 1) := by decide +kernel
theorem d_MO_start_1 : decode b_MO_start 1 = .ok (.getfield 221, 3) := by decide +kernel
theorem d_MO_start_4 : decode b_MO_start 4 = .ok (.iconst 1, 1) := by decide +kernel
theorem d_MO_start_5 : decode b_MO_start 5 = .ok (.isub, 1) := by decide +kernel
theorem d_MO_start_6 : decode b_MO_start 6 = .ok (.istore_n 1, 1) := by decide +kernel
theorem d_MO_start_7 : decode b_MO_start 7 = .ok (.aload_n 0, 1) := by decide +kernel
theorem d_MO_start_8 : decode b_MO_start 8 = .ok (.getfield 13, 3) := by decide +kernel
theorem d_MO_start_11 : decode b_MO_start 11 = .ok (.aload_n 0, 1) := by decide +kernel
theorem d_MO_start_12 : decode b_MO_start 12 = .ok (.getfield 158, 3) := by decide +kernel
theorem d_MO_start_15 : decode b_MO_start 15 = .ok (.iaload, 1) := by decide +kernel
theorem d_MO_start_16 : decode b_MO_start 16 = .ok (.iconst 1, 1) := by decide +kernel
theorem d_MO_start_17 : decode b_MO_start 17 = .ok (.if_icmp .ne 34, 3) := by decide +kernel
theorem d_MO_start_20 : decode b_MO_start 20 = .ok (.aload_n 0, 1) := by decide +kernel
theorem d_MO_start_21 : decode b_MO_start 21 = .ok (.iconst 0, 1) := by decide +kernel
theorem d_MO_start_22 : decode b_MO_start 22 = .ok (.aload_n 0, 1) := by decide +kernel
theorem d_MO_start_23 : decode b_MO_start 23 = .ok (.getfield 16, 3) := by decide +kernel
theorem d_MO_start_26 : decode b_MO_start 26 = .ok (.aload_n 0, 1) := by decide +kernel
theorem d_MO_start_27 : decode b_MO_start 27 = .ok (.getfield 158, 3) := by decide +kernel
theorem d_MO_start_30 : decode b_MO_start 30 = .ok (.laload, 1) := by decide +kernel
theorem d_MO_start_31 : decode b_MO_start 31 = .ok (.l2i, 1) := by decide +kernel
theorem d_MO_start_32 : decode b_MO_start 32 = .ok (.invokestatic 171, 3) := by decide +kernel
theorem d_MO_start_35 : decode b_MO_start 35 = .ok (.invokevirtual 256, 3) := by decide +kernel
theorem d_MO_start_38 : decode b_MO_start 38 = .ok (.aload_n 0, 1) := by decide +kernel
theorem d_MO_start_39 : decode b_MO_start 39 = .ok (.dup, 1) := by decide +kernel
theorem d_MO_start_40 : decode b_MO_start 40 = .ok (.getfield 158, 3) := by decide +kernel
theorem d_MO_start_43 : decode b_MO_start 43 = .ok (.iconst 1, 1) := by decide +kernel
theorem d_MO_start_44 : decode b_MO_start 44 = .ok (.iadd, 1) := by decide +kernel
theorem d_MO_start_45 : decode b_MO_start 45 = .ok (.putfield 158, 3) := by decide +kernel
theorem d_MO_start_48 : decode b_MO_start 48 = .ok (.goto 264, 3) := by decide +kernel
theorem d_MO_start_51 : decode b_MO_start 51 = .ok (.aload_n 0, 1) := by decide +kernel
theorem d_MO_start_52 : decode b_MO_start 52 = .ok (.invokevirtual 249, 3) := by decide +kernel
theorem d_MO_start_55 : decode b_MO_start 55 = .ok (.ifCond .eq 33, 3) := by decide +kernel
theorem d_MO_start_58 : decode b_MO_start 58 = .ok (.aload_n 0, 1) := by decide +kernel
theorem d_MO_start_59 : decode b_MO_start 59 = .ok (.aload_n 0, 1) := by decide +kernel
theorem d_MO_start_60 : decode b_MO_start 60 = .ok (.aload_n 0, 1) := by decide +kernel
theorem d_MO_start_61 : decode b_MO_start 61 = .ok (.getfield 16, 3) := by decide +kernel
theorem d_MO_start_64 : decode b_MO_start 64 = .ok (.aload_n 0, 1) := by decide +kernel
theorem d_MO_start_65 : decode b_MO_start 65 = .ok (.getfield 158, 3) := by decide +kernel
theorem d_MO_start_68 : decode b_MO_start 68 = .ok (.laload, 1) := by decide +kernel
theorem d_MO_start_69 : decode b_MO_start 69 = .ok (.invokevirtual 259, 3) := by decide +kernel
theorem d_MO_start_72 : decode b_MO_start 72 = .ok (.invokevirtual 256, 3) := by decide +kernel
theorem d_MO_start_75 : decode b_MO_start 75 = .ok (.aload_n 0, 1) := by decide +kernel
theorem d_MO_start_76 : decode b_MO_start 76 = .ok (.dup, 1) := by decide +kernel
theorem d_MO_start_77 : decode b_MO_start 77 = .ok (.getfield 158, 3) := by decide +kernel
theorem d_MO_start_80 : decode b_MO_start 80 = .ok (.iconst 1, 1) := by decide +kernel
theorem d_MO_start_81 : decode b_MO_start 81 = .ok (.iadd, 1) := by decide +kernel
theorem d_MO_start_82 : decode b_MO_start 82 = .ok (.putfield 158, 3) := by decide +kernel
theorem d_MO_start_85 : decode b_MO_start 85 = .ok (.goto 227, 3) := by decide +kernel
theorem d_MO_start_88 : decode b_MO_start 88 = .ok (.aload_n 0, 1) := by decide +kernel
theorem d_MO_start_89 : decode b_MO_start 89 = .ok (.bipush 40, 2) := by decide +kernel
theorem d_MO_start_91 : decode b_MO_start 91 = .ok (.invokevirtual 253, 3) := by decide +kernel
theorem d_MO_start_94 : decode b_MO_start 94 = .ok (.ifCond .eq 21, 3) := by decide +kernel
theorem d_MO_start_97 : decode b_MO_start 97 = .ok (.aload_n 0, 1) := by decide +kernel
theorem d_MO_start_98 : decode b_MO_start 98 = .ok (.dup, 1) := by decide +kernel
theorem d_MO_start_99 : decode b_MO_start 99 = .ok (.getfield 158, 3) := by decide +kernel
theorem d_MO_start_102 : decode b_MO_start 102 = .ok (.iconst 1, 1) := by decide +kernel
theorem d_MO_start_103 : decode b_MO_start 103 = .ok (.iadd, 1) := by decide +kernel
theorem d_MO_start_104 : decode b_MO_start 104 = .ok (.putfield 158, 3) := by decide +kernel
theorem d_MO_start_107 : decode b_MO_start 107 = .ok (.aload_n 0, 1) := by decide +kernel
theorem d_MO_start_108 : decode b_MO_start 108 = .ok (.iconst 1, 1) := by decide +kernel
theorem d_MO_start_109 : decode b_MO_start 109 = .ok (.invokevirtual 262, 3) := by decide +kernel
theorem d_MO_start_112 : decode b_MO_start 112 = .ok (.goto 200, 3) := by decide +kernel
theorem d_MO_start_115 : decode b_MO_start 115 = .ok (.aload_n 0, 1) := by decide +kernel
theorem d_MO_start_116 : decode b_MO_start 116 = .ok (.bipush 91, 2) := by decide +kernel
theorem d_MO_start_118 : decode b_MO_start 118 = .ok (.invokevirtual 253, 3) := by decide +kernel
theorem d_MO_start_121 : decode b_MO_start 121 = .ok (.ifCond .eq 52, 3) := by decide +kernel
theorem d_MO_start_124 : decode b_MO_start 124 = .ok (.aload_n 0, 1) := by decide +kernel
theorem d_MO_start_125 : decode b_MO_start 125 = .ok (.dup, 1) := by decide +kernel
theorem d_MO_start_126 : decode b_MO_start 126 = .ok (.getfield 158, 3) := by decide +kernel
theorem d_MO_start_129 : decode b_MO_start 129 = .ok (.iconst 1, 1) := by decide +kernel
theorem d_MO_start_130 : decode b_MO_start 130 = .ok (.iadd, 1) := by decide +kernel
theorem d_MO_start_131 : decode b_MO_start 131 = .ok (.putfield 158, 3) := by decide +kernel
theorem d_MO_start_134 : decode b_MO_start 134 = .ok (.aload_n 0, 1) := by decide +kernel
theorem d_MO_start_135 : decode b_MO_start 135 = .ok (.bipush 93, 2) := by decide +kernel
theorem d_MO_start_137 : decode b_MO_start 137 = .ok (.invokevirtual 253, 3) := by decide +kernel
theorem d_MO_start_140 : decode b_MO_start 140 = .ok (.ifCond .eq 25, 3) := by decide +kernel
theorem d_MO_start_143 : decode b_MO_start 143 = .ok (.aload_n 0, 1) := by decide +kernel
theorem d_MO_start_144 : decode b_MO_start 144 = .ok (.dup, 1) := by decide +kernel
theorem d_MO_start_145 : decode b_MO_start 145 = .ok (.getfield 158, 3) := by decide +kernel
theorem d_MO_start_148 : decode b_MO_start 148 = .ok (.iconst 1, 1) := by decide +kernel
theorem d_MO_start_149 : decode b_MO_start 149 = .ok (.iadd, 1) := by decide +kernel
theorem d_MO_start_150 : decode b_MO_start 150 = .ok (.putfield 158, 3) := by decide +kernel
theorem d_MO_start_153 : decode b_MO_start 153 = .ok (.aload_n 0, 1) := by decide +kernel
theorem d_MO_start_154 : decode b_MO_start 154 = .ok (.bipush 17, 2) := by decide +kernel
theorem d_MO_start_156 : decode b_MO_start 156 = .ok (.invokestatic 178, 3) := by decide +kernel
theorem d_MO_start_159 : decode b_MO_start 159 = .ok (.invokevirtual 256, 3) := by decide +kernel
theorem d_MO_start_162 : decode b_MO_start 162 = .ok (.goto 150, 3) := by decide +kernel
theorem d_MO_start_165 : decode b_MO_start 165 = .ok (.aload_n 0, 1) := by decide +kernel
theorem d_MO_start_166 : decode b_MO_start 166 = .ok (.iconst 2, 1) := by decide +kernel
theorem d_MO_start_167 : decode b_MO_start 167 = .ok (.invokevirtual 262, 3) := by decide +kernel
theorem d_MO_start_170 : decode b_MO_start 170 = .ok (.goto 142, 3) := by decide +kernel
theorem d_MO_start_173 : decode b_MO_start 173 = .ok (.aload_n 0, 1) := by decide +kernel
theorem d_MO_start_174 : decode b_MO_start 174 = .ok (.getfield 51, 3) := by decide +kernel
theorem d_MO_start_177 : decode b_MO_start 177 = .ok (.iload_n 1, 1) := by decide +kernel
theorem d_MO_start_178 : decode b_MO_start 178 = .ok (.baload, 1) := by decide +kernel
theorem d_MO_start_179 : decode b_MO_start 179 = .ok (.ifCond .eq 31, 3) := by decide +kernel
theorem d_MO_start_182 : decode b_MO_start 182 = .ok (.aload_n 0, 1) := by decide +kernel
theorem d_MO_start_183 : decode b_MO_start 183 = .ok (.ldc2_w 163, 3) := by decide +kernel
theorem d_MO_start_186 : decode b_MO_start 186 = .ok (.invokevirtual 265, 3) := by decide +kernel
theorem d_MO_start_189 : decode b_MO_start 189 = .ok (.ifCond .eq 21, 3) := by decide +kernel
theorem d_MO_start_192 : decode b_MO_start 192 = .ok (.aload_n 0, 1) := by decide +kernel
theorem d_MO_start_193 : decode b_MO_start 193 = .ok (.dup, 1) := by decide +kernel
theorem d_MO_start_194 : decode b_MO_start 194 = .ok (.getfield 158, 3) := by decide +kernel
theorem d_MO_start_197 : decode b_MO_start 197 = .ok (.iconst 1, 1) := by decide +kernel
theorem d_MO_start_198 : decode b_MO_start 198 = .ok (.iadd, 1) := by decide +kernel
theorem d_MO_start_199 : decode b_MO_start 199 = .ok (.putfield 158, 3) := by decide +kernel
theorem d_MO_start_202 : decode b_MO_start 202 = .ok (.aload_n 0, 1) := by decide +kernel
theorem d_MO_start_203 : decode b_MO_start 203 = .ok (.iconst 3, 1) := by decide +kernel
theorem d_MO_start_204 : decode b_MO_start 204 = .ok (.invokevirtual 262, 3) := by decide +kernel
theorem d_MO_start_207 : decode b_MO_start 207 = .ok (.goto 105, 3) := by decide +kernel
theorem d_MO_start_210 : decode b_MO_start 210 = .ok (.aload_n 0, 1) := by decide +kernel
theorem d_MO_start_211 : decode b_MO_start 211 = .ok (.getfield 51, 3) := by decide +kernel
theorem d_MO_start_214 : decode b_MO_start 214 = .ok (.iload_n 1, 1) := by decide +kernel
theorem d_MO_start_215 : decode b_MO_start 215 = .ok (.baload, 1) := by decide +kernel
theorem d_MO_start_216 : decode b_MO_start 216 = .ok (.ifCond .eq 91, 3) := by decide +kernel
theorem d_MO_start_219 : decode b_MO_start 219 = .ok (.aload_n 0, 1) := by decide +kernel
theorem d_MO_start_220 : decode b_MO_start 220 = .ok (.bipush 92, 2) := by decide +kernel
theorem d_MO_start_222 : decode b_MO_start 222 = .ok (.invokevirtual 253, 3) := by decide +kernel
theorem d_MO_start_225 : decode b_MO_start 225 = .ok (.ifCond .eq 82, 3) := by decide +kernel
theorem d_MO_start_228 : decode b_MO_start 228 = .ok (.aload_n 0, 1) := by decide +kernel
theorem d_MO_start_229 : decode b_MO_start 229 = .ok (.dup, 1) := by decide +kernel
theorem d_MO_start_230 : decode b_MO_start 230 = .ok (.getfield 158, 3) := by decide +kernel
theorem d_MO_start_233 : decode b_MO_start 233 = .ok (.iconst 1, 1) := by decide +kernel
theorem d_MO_start_234 : decode b_MO_start 234 = .ok (.iadd, 1) := by decide +kernel
theorem d_MO_start_235 : decode b_MO_start 235 = .ok (.putfield 158, 3) := by decide +kernel
theorem d_MO_start_238 : decode b_MO_start 238 = .ok (.aload_n 0, 1) := by decide +kernel
theorem d_MO_start_239 : decode b_MO_start 239 = .ok (.getfield 60, 3) := by decide +kernel
theorem d_MO_start_242 : decode b_MO_start 242 = .ok (.aload_n 0, 1) := by decide +kernel
theorem d_MO_start_243 : decode b_MO_start 243 = .ok (.getfield 237, 3) := by decide +kernel
theorem d_MO_start_246 : decode b_MO_start 246 = .ok (.aload_n 0, 1) := by decide +kernel
theorem d_MO_start_247 : decode b_MO_start 247 = .ok (.getfield 16, 3) := by decide +kernel
theorem d_MO_start_250 : decode b_MO_start 250 = .ok (.aload_n 0, 1) := by decide +kernel
theorem d_MO_start_251 : decode b_MO_start 251 = .ok (.getfield 158, 3) := by decide +kernel
theorem d_MO_start_254 : decode b_MO_start 254 = .ok (.laload, 1) := by decide +kernel
theorem d_MO_start_255 : decode b_MO_start 255 = .ok (.lastore, 1) := by decide +kernel
theorem d_MO_start_256 : decode b_MO_start 256 = .ok (.aload_n 0, 1) := by decide +kernel
theorem d_MO_start_257 : decode b_MO_start 257 = .ok (.aload_n 0, 1) := by decide +kernel
theorem d_MO_start_258 : decode b_MO_start 258 = .ok (.invokevirtual 249, 3) := by decide +kernel
theorem d_MO_start_261 : decode b_MO_start 261 = .ok (.invokevirtual 269, 3) := by decide +kernel
theorem d_MO_start_264 : decode b_MO_start 264 = .ok (.aload_n 0, 1) := by decide +kernel
theorem d_MO_start_265 : decode b_MO_start 265 = .ok (.getfield 128, 3) := by decide +kernel
theorem d_MO_start_268 : decode b_MO_start 268 = .ok (.ifCond .ne 13, 3) := by decide +kernel
theorem d_MO_start_271 : decode b_MO_start 271 = .ok (.aload_n 0, 1) := by decide +kernel
theorem d_MO_start_272 : decode b_MO_start 272 = .ok (.aload_n 0, 1) := by decide +kernel
theorem d_MO_start_273 : decode b_MO_start 273 = .ok (.bipush 46, 2) := by decide +kernel
theorem d_MO_start_275 : decode b_MO_start 275 = .ok (.invokevirtual 253, 3) := by decide +kernel
theorem d_MO_start_278 : decode b_MO_start 278 = .ok (.invokevirtual 269, 3) := by decide +kernel
theorem d_MO_start_281 : decode b_MO_start 281 = .ok (.aload_n 0, 1) := by decide +kernel
theorem d_MO_start_282 : decode b_MO_start 282 = .ok (.dup, 1) := by decide +kernel
theorem d_MO_start_283 : decode b_MO_start 283 = .ok (.getfield 237, 3) := by decide +kernel
theorem d_MO_start_286 : decode b_MO_start 286 = .ok (.iconst 1, 1) := by decide +kernel
theorem d_MO_start_287 : decode b_MO_start 287 = .ok (.iadd, 1) := by decide +kernel
theorem d_MO_start_288 : decode b_MO_start 288 = .ok (.putfield 237, 3) := by decide +kernel
theorem d_MO_start_291 : decode b_MO_start 291 = .ok (.aload_n 0, 1) := by decide +kernel
theorem d_MO_start_292 : decode b_MO_start 292 = .ok (.getfield 128, 3) := by decide +kernel
theorem d_MO_start_295 : decode b_MO_start 295 = .ok (.ifCond .ne 17, 3) := by decide +kernel
theorem d_MO_start_298 : decode b_MO_start 298 = .ok (.aload_n 0, 1) := by decide +kernel
theorem d_MO_start_299 : decode b_MO_start 299 = .ok (.bipush 6, 2) := by decide +kernel
theorem d_MO_start_301 : decode b_MO_start 301 = .ok (.invokevirtual 262, 3) := by decide +kernel
theorem d_MO_start_304 : decode b_MO_start 304 = .ok (.goto 8, 3) := by decide +kernel
theorem d_MO_start_307 : decode b_MO_start 307 = .ok (.aload_n 0, 1) := by decide +kernel
theorem d_MO_start_308 : decode b_MO_start 308 = .ok (.iconst 1, 1) := by decide +kernel
theorem d_MO_start_309 : decode b_MO_start 309 = .ok (.invokevirtual 134, 3) := by decide +kernel
theorem d_MO_start_312 : decode b_MO_start 312 = .ok (.return_, 1) := by decide +kernel
theorem d_MO_rank_0 : decode b_MO_rank 0 = .ok (.iload_n 0, 1) := by decide +kernel
theorem d_MO_rank_1 : decode b_MO_rank 1 = .ok (.bipush 16, 2) := by decide +kernel
theorem d_MO_rank_3 : decode b_MO_rank 3 = .ok (.if_icmp .ne 7, 3) := by decide +kernel
theorem d_MO_rank_6 : decode b_MO_rank 6 = .ok (.iconst 1, 1) := by decide +kernel
theorem d_MO_rank_7 : decode b_MO_rank 7 = .ok (.goto 30, 3) := by decide +kernel
theorem d_MO_rank_10 : decode b_MO_rank 10 = .ok (.iload_n 0, 1) := by decide +kernel
theorem d_MO_rank_11 : decode b_MO_rank 11 = .ok (.bipush 14, 2) := by decide +kernel
theorem d_MO_rank_13 : decode b_MO_rank 13 = .ok (.if_icmp .eq 9, 3) := by decide +kernel
theorem d_MO_rank_16 : decode b_MO_rank 16 = .ok (.iload_n 0, 1) := by decide +kernel
theorem d_MO_rank_17 : decode b_MO_rank 17 = .ok (.bipush 15, 2) := by decide +kernel
theorem d_MO_rank_19 : decode b_MO_rank 19 = .ok (.if_icmp .ne 7, 3) := by decide +kernel
theorem d_MO_rank_22 : decode b_MO_rank 22 = .ok (.iconst 2, 1) := by decide +kernel
theorem d_MO_rank_23 : decode b_MO_rank 23 = .ok (.goto 14, 3) := by decide +kernel
theorem d_MO_rank_26 : decode b_MO_rank 26 = .ok (.iload_n 0, 1) := by decide +kernel
theorem d_MO_rank_27 : decode b_MO_rank 27 = .ok (.bipush 13, 2) := by decide +kernel
theorem d_MO_rank_29 : decode b_MO_rank 29 = .ok (.if_icmp .ne 7, 3) := by decide +kernel
theorem d_MO_rank_32 : decode b_MO_rank 32 = .ok (.iconst 4, 1) := by decide +kernel
theorem d_MO_rank_33 : decode b_MO_rank 33 = .ok (.goto 4, 3) := by decide +kernel
theorem d_MO_rank_36 : decode b_MO_rank 36 = .ok (.iconst 3, 1) := by decide +kernel
theorem d_MO_rank_37 : decode b_MO_rank 37 = .ok (.ireturn, 1) := by decide +kernel
theorem d_MO_operationAt_0 : decode b_MO_operationAt 0 = .ok (.aload_n 0, 1) := by decide +kernel
theorem d_MO_operationAt_1 : decode b_MO_operationAt 1 = .ok (.getfield 13, 3) := by decide +kernel
theorem d_MO_operationAt_4 : decode b_MO_operationAt 4 = .ok (.aload_n 0, 1) := by decide +kernel
theorem d_MO_operationAt_5 : decode b_MO_operationAt 5 = .ok (.getfield 158, 3) := by decide +kernel
theorem d_MO_operationAt_8 : decode b_MO_operationAt 8 = .ok (.iaload, 1) := by decide +kernel
theorem d_MO_operationAt_9 : decode b_MO_operationAt 9 = .ok (.iconst 2, 1) := by decide +kernel
theorem d_MO_operationAt_10 : decode b_MO_operationAt 10 = .ok (.if_icmp .eq 5, 3) := by decide +kernel
theorem d_MO_operationAt_13 : decode b_MO_operationAt 13 = .ok (.iconst (-1), 1) := by decide +kernel
theorem d_MO_operationAt_14 : decode b_MO_operationAt 14 = .ok (.ireturn, 1) := by decide +kernel
theorem d_MO_operationAt_15 : decode b_MO_operationAt 15 = .ok (.aload_n 0, 1) := by decide +kernel
theorem d_MO_operationAt_16 : decode b_MO_operationAt 16 = .ok (.getfield 16, 3) := by decide +kernel
theorem d_MO_operationAt_19 : decode b_MO_operationAt 19 = .ok (.aload_n 0, 1) := by decide +kernel
theorem d_MO_operationAt_20 : decode b_MO_operationAt 20 = .ok (.getfield 158, 3) := by decide +kernel
theorem d_MO_operationAt_23 : decode b_MO_operationAt 23 = .ok (.laload, 1) := by decide +kernel
theorem d_MO_operationAt_24 : decode b_MO_operationAt 24 = .ok (.lstore_n 1, 1) := by decide +kernel
theorem d_MO_operationAt_25 : decode b_MO_operationAt 25 = .ok (.lload_n 1, 1) := by decide +kernel
theorem d_MO_operationAt_26 : decode b_MO_operationAt 26 = .ok (.ldc2_w 273, 3) := by decide +kernel
theorem d_MO_operationAt_29 : decode b_MO_operationAt 29 = .ok (.lcmp, 1) := by decide +kernel
theorem d_MO_operationAt_30 : decode b_MO_operationAt 30 = .ok (.ifCond .ne 8, 3) := by decide +kernel
theorem d_MO_operationAt_33 : decode b_MO_operationAt 33 = .ok (.bipush 11, 2) := by decide +kernel
theorem d_MO_operationAt_35 : decode b_MO_operationAt 35 = .ok (.goto 69, 3) := by decide +kernel
theorem d_MO_operationAt_38 : decode b_MO_operationAt 38 = .ok (.lload_n 1, 1) := by decide +kernel
theorem d_MO_operationAt_39 : decode b_MO_operationAt 39 = .ok (.ldc2_w 275, 3) := by decide +kernel
theorem d_MO_operationAt_42 : decode b_MO_operationAt 42 = .ok (.lcmp, 1) := by decide +kernel
theorem d_MO_operationAt_43 : decode b_MO_operationAt 43 = .ok (.ifCond .ne 8, 3) := by decide +kernel
theorem d_MO_operationAt_46 : decode b_MO_operationAt 46 = .ok (.bipush 12, 2) := by decide +kernel
theorem d_MO_operationAt_48 : decode b_MO_operationAt 48 = .ok (.goto 56, 3) := by decide +kernel
theorem d_MO_operationAt_51 : decode b_MO_operationAt 51 = .ok (.lload_n 1, 1) := by decide +kernel
theorem d_MO_operationAt_52 : decode b_MO_operationAt 52 = .ok (.ldc2_w 277, 3) := by decide +kernel
theorem d_MO_operationAt_55 : decode b_MO_operationAt 55 = .ok (.lcmp, 1) := by decide +kernel
theorem d_MO_operationAt_56 : decode b_MO_operationAt 56 = .ok (.ifCond .ne 8, 3) := by decide +kernel
theorem d_MO_operationAt_59 : decode b_MO_operationAt 59 = .ok (.bipush 13, 2) := by decide +kernel
theorem d_MO_operationAt_61 : decode b_MO_operationAt 61 = .ok (.goto 43, 3) := by decide +kernel
theorem d_MO_operationAt_64 : decode b_MO_operationAt 64 = .ok (.lload_n 1, 1) := by decide +kernel
theorem d_MO_operationAt_65 : decode b_MO_operationAt 65 = .ok (.ldc2_w 279, 3) := by decide +kernel
theorem d_MO_operationAt_68 : decode b_MO_operationAt 68 = .ok (.lcmp, 1) := by decide +kernel
theorem d_MO_operationAt_69 : decode b_MO_operationAt 69 = .ok (.ifCond .ne 8, 3) := by decide +kernel
theorem d_MO_operationAt_72 : decode b_MO_operationAt 72 = .ok (.bipush 14, 2) := by decide +kernel
theorem d_MO_operationAt_74 : decode b_MO_operationAt 74 = .ok (.goto 30, 3) := by decide +kernel
theorem d_MO_operationAt_77 : decode b_MO_operationAt 77 = .ok (.lload_n 1, 1) := by decide +kernel
theorem d_MO_operationAt_78 : decode b_MO_operationAt 78 = .ok (.ldc2_w 156, 3) := by decide +kernel
theorem d_MO_operationAt_81 : decode b_MO_operationAt 81 = .ok (.lcmp, 1) := by decide +kernel
theorem d_MO_operationAt_82 : decode b_MO_operationAt 82 = .ok (.ifCond .ne 8, 3) := by decide +kernel
theorem d_MO_operationAt_85 : decode b_MO_operationAt 85 = .ok (.bipush 15, 2) := by decide +kernel
theorem d_MO_operationAt_87 : decode b_MO_operationAt 87 = .ok (.goto 17, 3) := by decide +kernel
theorem d_MO_operationAt_90 : decode b_MO_operationAt 90 = .ok (.lload_n 1, 1) := by decide +kernel
theorem d_MO_operationAt_91 : decode b_MO_operationAt 91 = .ok (.ldc2_w 281, 3) := by decide +kernel
theorem d_MO_operationAt_94 : decode b_MO_operationAt 94 = .ok (.lcmp, 1) := by decide +kernel
theorem d_MO_operationAt_95 : decode b_MO_operationAt 95 = .ok (.ifCond .ne 8, 3) := by decide +kernel
theorem d_MO_operationAt_98 : decode b_MO_operationAt 98 = .ok (.bipush 16, 2) := by decide +kernel
theorem d_MO_operationAt_100 : decode b_MO_operationAt 100 = .ok (.goto 4, 3) := by decide +kernel
theorem d_MO_operationAt_103 : decode b_MO_operationAt 103 = .ok (.iconst (-1), 1) := by decide +kernel
theorem d_MO_operationAt_104 : decode b_MO_operationAt 104 = .ok (.ireturn, 1) := by decide +kernel
theorem d_MO_reduce_0 : decode b_MO_reduce 0 = .ok (.aload_n 0, 1) := by decide +kernel
theorem d_MO_reduce_1 : decode b_MO_reduce 1 = .ok (.dup, 1) := by decide +kernel
theorem d_MO_reduce_2 : decode b_MO_reduce 2 = .ok (.getfield 227, 3) := by decide +kernel
theorem d_MO_reduce_5 : decode b_MO_reduce 5 = .ok (.iconst 1, 1) := by decide +kernel
theorem d_MO_reduce_6 : decode b_MO_reduce 6 = .ok (.isub, 1) := by decide +kernel
theorem d_MO_reduce_7 : decode b_MO_reduce 7 = .ok (.putfield 227, 3) := by decide +kernel
theorem d_MO_reduce_10 : decode b_MO_reduce 10 = .ok (.aload_n 0, 1) := by decide +kernel
theorem d_MO_reduce_11 : decode b_MO_reduce 11 = .ok (.invokevirtual 230, 3) := by decide +kernel
theorem d_MO_reduce_14 : decode b_MO_reduce 14 = .ok (.lstore_n 1, 1) := by decide +kernel
theorem d_MO_reduce_15 : decode b_MO_reduce 15 = .ok (.aload_n 0, 1) := by decide +kernel
theorem d_MO_reduce_16 : decode b_MO_reduce 16 = .ok (.invokevirtual 230, 3) := by decide +kernel
theorem d_MO_reduce_19 : decode b_MO_reduce 19 = .ok (.lstore_n 3, 1) := by decide +kernel
theorem d_MO_reduce_20 : decode b_MO_reduce 20 = .ok (.aload_n 0, 1) := by decide +kernel
theorem d_MO_reduce_21 : decode b_MO_reduce 21 = .ok (.aload_n 0, 1) := by decide +kernel
theorem d_MO_reduce_22 : decode b_MO_reduce 22 = .ok (.aload_n 0, 1) := by decide +kernel
theorem d_MO_reduce_23 : decode b_MO_reduce 23 = .ok (.aload_n 0, 1) := by decide +kernel
theorem d_MO_reduce_24 : decode b_MO_reduce 24 = .ok (.getfield 57, 3) := by decide +kernel
theorem d_MO_reduce_27 : decode b_MO_reduce 27 = .ok (.aload_n 0, 1) := by decide +kernel
theorem d_MO_reduce_28 : decode b_MO_reduce 28 = .ok (.getfield 227, 3) := by decide +kernel
theorem d_MO_reduce_31 : decode b_MO_reduce 31 = .ok (.iaload, 1) := by decide +kernel
theorem d_MO_reduce_32 : decode b_MO_reduce 32 = .ok (.invokestatic 178, 3) := by decide +kernel
theorem d_MO_reduce_35 : decode b_MO_reduce 35 = .ok (.lload_n 3, 1) := by decide +kernel
theorem d_MO_reduce_36 : decode b_MO_reduce 36 = .ok (.invokevirtual 193, 3) := by decide +kernel
theorem d_MO_reduce_39 : decode b_MO_reduce 39 = .ok (.lload_n 1, 1) := by decide +kernel
theorem d_MO_reduce_40 : decode b_MO_reduce 40 = .ok (.invokevirtual 193, 3) := by decide +kernel
theorem d_MO_reduce_43 : decode b_MO_reduce 43 = .ok (.invokevirtual 234, 3) := by decide +kernel
theorem d_MO_reduce_46 : decode b_MO_reduce 46 = .ok (.return_, 1) := by decide +kernel
theorem d_MO_operator_0 : decode b_MO_operator 0 = .ok (.aload_n 0, 1) := by decide +kernel
theorem d_MO_operator_1 : decode b_MO_operator 1 = .ok (.getfield 221, 3) := by decide +kernel
theorem d_MO_operator_4 : decode b_MO_operator 4 = .ok (.iconst 1, 1) := by decide +kernel
theorem d_MO_operator_5 : decode b_MO_operator 5 = .ok (.isub, 1) := by decide +kernel
theorem d_MO_operator_6 : decode b_MO_operator 6 = .ok (.istore_n 2, 1) := by decide +kernel
theorem d_MO_operator_7 : decode b_MO_operator 7 = .ok (.iload_n 1, 1) := by decide +kernel
theorem d_MO_operator_8 : decode b_MO_operator 8 = .ok (.invokestatic 283, 3) := by decide +kernel
theorem d_MO_operator_11 : decode b_MO_operator 11 = .ok (.istore_n 3, 1) := by decide +kernel
theorem d_MO_operator_12 : decode b_MO_operator 12 = .ok (.aload_n 0, 1) := by decide +kernel
theorem d_MO_operator_13 : decode b_MO_operator 13 = .ok (.getfield 227, 3) := by decide +kernel
theorem d_MO_operator_16 : decode b_MO_operator 16 = .ok (.aload_n 0, 1) := by decide +kernel
theorem d_MO_operator_17 : decode b_MO_operator 17 = .ok (.getfield 42, 3) := by decide +kernel
theorem d_MO_operator_20 : decode b_MO_operator 20 = .ok (.iload_n 2, 1) := by decide +kernel
theorem d_MO_operator_21 : decode b_MO_operator 21 = .ok (.iaload, 1) := by decide +kernel
theorem d_MO_operator_22 : decode b_MO_operator 22 = .ok (.if_icmp .le 51, 3) := by decide +kernel
