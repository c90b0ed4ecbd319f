theorem d_TM_list_2 : decode b_TM_list 2 = .ok (.lload_n 1, 1) := by decide +kernel
theorem d_TM_list_3 : decode b_TM_list 3 = .ok (.invokestatic 52, 3) := by decide +kernel
theorem d_TM_list_6 : decode b_TM_list 6 = .ok (.ifCond .eq 16, 3) := by decide +kernel
theorem d_TM_list_9 : decode b_TM_list 9 = .ok (.aload_n 0, 1) := by decide +kernel
theorem d_TM_list_10 : decode b_TM_list 10 = .ok (.getfield 24, 3) := by decide +kernel
theorem d_TM_list_13 : decode b_TM_list 13 = .ok (.iload_n 3, 1) := by decide +kernel
theorem d_TM_list_14 : decode b_TM_list 14 = .ok (.lload_n 1, 1) := by decide +kernel
theorem d_TM_list_15 : decode b_TM_list 15 = .ok (.invokestatic 56, 3) := by decide +kernel
theorem d_TM_list_18 : decode b_TM_list 18 = .ok (.iastore, 1) := by decide +kernel
theorem d_TM_list_19 : decode b_TM_list 19 = .ok (.iinc 3 1, 3) := by decide +kernel
theorem d_TM_list_22 : decode b_TM_list 22 = .ok (.iconst 0, 1) := by decide +kernel
theorem d_TM_list_23 : decode b_TM_list 23 = .ok (.istore 4, 2) := by decide +kernel
theorem d_TM_list_25 : decode b_TM_list 25 = .ok (.iload 4, 2) := by decide +kernel
theorem d_TM_list_27 : decode b_TM_list 27 = .ok (.iload_n 3, 1) := by decide +kernel
theorem d_TM_list_28 : decode b_TM_list 28 = .ok (.if_icmp .ge 53, 3) := by decide +kernel
theorem d_TM_list_31 : decode b_TM_list 31 = .ok (.iload 4, 2) := by decide +kernel
theorem d_TM_list_33 : decode b_TM_list 33 = .ok (.sipush 1024, 3) := by decide +kernel
theorem d_TM_list_36 : decode b_TM_list 36 = .ok (.if_icmp .ge 45, 3) := by decide +kernel
theorem d_TM_list_39 : decode b_TM_list 39 = .ok (.aload_n 0, 1) := by decide +kernel
theorem d_TM_list_40 : decode b_TM_list 40 = .ok (.aload_n 0, 1) := by decide +kernel
theorem d_TM_list_41 : decode b_TM_list 41 = .ok (.getfield 9, 3) := by decide +kernel
theorem d_TM_list_44 : decode b_TM_list 44 = .ok (.aload_n 0, 1) := by decide +kernel
theorem d_TM_list_45 : decode b_TM_list 45 = .ok (.getfield 24, 3) := by decide +kernel
theorem d_TM_list_48 : decode b_TM_list 48 = .ok (.iload 4, 2) := by decide +kernel
theorem d_TM_list_50 : decode b_TM_list 50 = .ok (.iaload, 1) := by decide +kernel
theorem d_TM_list_51 : decode b_TM_list 51 = .ok (.laload, 1) := by decide +kernel
theorem d_TM_list_52 : decode b_TM_list 52 = .ok (.iload_n 3, 1) := by decide +kernel
theorem d_TM_list_53 : decode b_TM_list 53 = .ok (.invokevirtual 60, 3) := by decide +kernel
theorem d_TM_list_56 : decode b_TM_list 56 = .ok (.istore_n 3, 1) := by decide +kernel
theorem d_TM_list_57 : decode b_TM_list 57 = .ok (.aload_n 0, 1) := by decide +kernel
theorem d_TM_list_58 : decode b_TM_list 58 = .ok (.aload_n 0, 1) := by decide +kernel
theorem d_TM_list_59 : decode b_TM_list 59 = .ok (.getfield 13, 3) := by decide +kernel
theorem d_TM_list_62 : decode b_TM_list 62 = .ok (.aload_n 0, 1) := by decide +kernel
theorem d_TM_list_63 : decode b_TM_list 63 = .ok (.getfield 24, 3) := by decide +kernel
theorem d_TM_list_66 : decode b_TM_list 66 = .ok (.iload 4, 2) := by decide +kernel
theorem d_TM_list_68 : decode b_TM_list 68 = .ok (.iaload, 1) := by decide +kernel
theorem d_TM_list_69 : decode b_TM_list 69 = .ok (.laload, 1) := by decide +kernel
theorem d_TM_list_70 : decode b_TM_list 70 = .ok (.iload_n 3, 1) := by decide +kernel
theorem d_TM_list_71 : decode b_TM_list 71 = .ok (.invokevirtual 60, 3) := by decide +kernel
theorem d_TM_list_74 : decode b_TM_list 74 = .ok (.istore_n 3, 1) := by decide +kernel
theorem d_TM_list_75 : decode b_TM_list 75 = .ok (.iinc 4 1, 3) := by decide +kernel
theorem d_TM_list_78 : decode b_TM_list 78 = .ok (.goto (-53), 3) := by decide +kernel
theorem d_TM_list_81 : decode b_TM_list 81 = .ok (.iload_n 3, 1) := by decide +kernel
theorem d_TM_list_82 : decode b_TM_list 82 = .ok (.ireturn, 1) := by decide +kernel
theorem d_TM_listSide_0 : decode b_TM_listSide 0 = .ok (.lload_n 1, 1) := by decide +kernel
theorem d_TM_listSide_1 : decode b_TM_listSide 1 = .ok (.invokestatic 52, 3) := by decide +kernel
theorem d_TM_listSide_4 : decode b_TM_listSide 4 = .ok (.ifCond .eq 10, 3) := by decide +kernel
theorem d_TM_listSide_7 : decode b_TM_listSide 7 = .ok (.iload_n 3, 1) := by decide +kernel
theorem d_TM_listSide_8 : decode b_TM_listSide 8 = .ok (.sipush 1024, 3) := by decide +kernel
theorem d_TM_listSide_11 : decode b_TM_listSide 11 = .ok (.if_icmp .lt 5, 3) := by decide +kernel
theorem d_TM_listSide_14 : decode b_TM_listSide 14 = .ok (.iload_n 3, 1) := by decide +kernel
theorem d_TM_listSide_15 : decode b_TM_listSide 15 = .ok (.ireturn, 1) := by decide +kernel
theorem d_TM_listSide_16 : decode b_TM_listSide 16 = .ok (.aload_n 0, 1) := by decide +kernel
theorem d_TM_listSide_17 : decode b_TM_listSide 17 = .ok (.getfield 24, 3) := by decide +kernel
theorem d_TM_listSide_20 : decode b_TM_listSide 20 = .ok (.iload_n 3, 1) := by decide +kernel
theorem d_TM_listSide_21 : decode b_TM_listSide 21 = .ok (.lload_n 1, 1) := by decide +kernel
theorem d_TM_listSide_22 : decode b_TM_listSide 22 = .ok (.invokestatic 56, 3) := by decide +kernel
theorem d_TM_listSide_25 : decode b_TM_listSide 25 = .ok (.iastore, 1) := by decide +kernel
theorem d_TM_listSide_26 : decode b_TM_listSide 26 = .ok (.iload_n 3, 1) := by decide +kernel
theorem d_TM_listSide_27 : decode b_TM_listSide 27 = .ok (.iconst 1, 1) := by decide +kernel
theorem d_TM_listSide_28 : decode b_TM_listSide 28 = .ok (.iadd, 1) := by decide +kernel
theorem d_TM_listSide_29 : decode b_TM_listSide 29 = .ok (.ireturn, 1) := by decide +kernel
theorem d_TM_takeOut_0 : decode b_TM_takeOut 0 = .ok (.aload_n 0, 1) := by decide +kernel
theorem d_TM_takeOut_1 : decode b_TM_takeOut 1 = .ok (.getfield 34, 3) := by decide +kernel
theorem d_TM_takeOut_4 : decode b_TM_takeOut 4 = .ok (.ifCond .eq 5, 3) := by decide +kernel
theorem d_TM_takeOut_7 : decode b_TM_takeOut 7 = .ok (.lload_n 2, 1) := by decide +kernel
theorem d_TM_takeOut_8 : decode b_TM_takeOut 8 = .ok (.lreturn, 1) := by decide +kernel
theorem d_TM_takeOut_9 : decode b_TM_takeOut 9 = .ok (.bipush 24, 2) := by decide +kernel
theorem d_TM_takeOut_11 : decode b_TM_takeOut 11 = .ok (.iload_n 1, 1) := by decide +kernel
theorem d_TM_takeOut_12 : decode b_TM_takeOut 12 = .ok (.invokestatic 44, 3) := by decide +kernel
theorem d_TM_takeOut_15 : decode b_TM_takeOut 15 = .ok (.lstore 4, 2) := by decide +kernel
theorem d_TM_takeOut_17 : decode b_TM_takeOut 17 = .ok (.aload_n 0, 1) := by decide +kernel
theorem d_TM_takeOut_18 : decode b_TM_takeOut 18 = .ok (.lload_n 2, 1) := by decide +kernel
theorem d_TM_takeOut_19 : decode b_TM_takeOut 19 = .ok (.invokevirtual 64, 3) := by decide +kernel
theorem d_TM_takeOut_22 : decode b_TM_takeOut 22 = .ok (.istore 6, 2) := by decide +kernel
theorem d_TM_takeOut_24 : decode b_TM_takeOut 24 = .ok (.iload 6, 2) := by decide +kernel
theorem d_TM_takeOut_26 : decode b_TM_takeOut 26 = .ok (.iconst 1, 1) := by decide +kernel
theorem d_TM_takeOut_27 : decode b_TM_takeOut 27 = .ok (.isub, 1) := by decide +kernel
theorem d_TM_takeOut_28 : decode b_TM_takeOut 28 = .ok (.istore 7, 2) := by decide +kernel
theorem d_TM_takeOut_30 : decode b_TM_takeOut 30 = .ok (.iload 7, 2) := by decide +kernel
theorem d_TM_takeOut_32 : decode b_TM_takeOut 32 = .ok (.ifCond .lt 29, 3) := by decide +kernel
theorem d_TM_takeOut_35 : decode b_TM_takeOut 35 = .ok (.aload_n 0, 1) := by decide +kernel
theorem d_TM_takeOut_36 : decode b_TM_takeOut 36 = .ok (.getfield 34, 3) := by decide +kernel
theorem d_TM_takeOut_39 : decode b_TM_takeOut 39 = .ok (.ifCond .ne 22, 3) := by decide +kernel
theorem d_TM_takeOut_42 : decode b_TM_takeOut 42 = .ok (.aload_n 0, 1) := by decide +kernel
theorem d_TM_takeOut_43 : decode b_TM_takeOut 43 = .ok (.aload_n 0, 1) := by decide +kernel
theorem d_TM_takeOut_44 : decode b_TM_takeOut 44 = .ok (.getfield 24, 3) := by decide +kernel
theorem d_TM_takeOut_47 : decode b_TM_takeOut 47 = .ok (.iload 7, 2) := by decide +kernel
theorem d_TM_takeOut_49 : decode b_TM_takeOut 49 = .ok (.iaload, 1) := by decide +kernel
theorem d_TM_takeOut_50 : decode b_TM_takeOut 50 = .ok (.lload 4, 2) := by decide +kernel
theorem d_TM_takeOut_52 : decode b_TM_takeOut 52 = .ok (.invokevirtual 67, 3) := by decide +kernel
theorem d_TM_takeOut_55 : decode b_TM_takeOut 55 = .ok (.iinc 7 (-1), 3) := by decide +kernel
theorem d_TM_takeOut_58 : decode b_TM_takeOut 58 = .ok (.goto (-28), 3) := by decide +kernel
theorem d_TM_takeOut_61 : decode b_TM_takeOut 61 = .ok (.aload_n 0, 1) := by decide +kernel
theorem d_TM_takeOut_62 : decode b_TM_takeOut 62 = .ok (.lload_n 2, 1) := by decide +kernel
theorem d_TM_takeOut_63 : decode b_TM_takeOut 63 = .ok (.lload 4, 2) := by decide +kernel
theorem d_TM_takeOut_65 : decode b_TM_takeOut 65 = .ok (.invokevirtual 71, 3) := by decide +kernel
theorem d_TM_takeOut_68 : decode b_TM_takeOut 68 = .ok (.ifCond .eq 11, 3) := by decide +kernel
theorem d_TM_takeOut_71 : decode b_TM_takeOut 71 = .ok (.aload_n 0, 1) := by decide +kernel
theorem d_TM_takeOut_72 : decode b_TM_takeOut 72 = .ok (.lload_n 2, 1) := by decide +kernel
theorem d_TM_takeOut_73 : decode b_TM_takeOut 73 = .ok (.invokevirtual 75, 3) := by decide +kernel
theorem d_TM_takeOut_76 : decode b_TM_takeOut 76 = .ok (.goto 12, 3) := by decide +kernel
theorem d_TM_takeOut_79 : decode b_TM_takeOut 79 = .ok (.aload_n 0, 1) := by decide +kernel
theorem d_TM_takeOut_80 : decode b_TM_takeOut 80 = .ok (.iconst 3, 1) := by decide +kernel
theorem d_TM_takeOut_81 : decode b_TM_takeOut 81 = .ok (.invokestatic 40, 3) := by decide +kernel
theorem d_TM_takeOut_84 : decode b_TM_takeOut 84 = .ok (.lload_n 2, 1) := by decide +kernel
theorem d_TM_takeOut_85 : decode b_TM_takeOut 85 = .ok (.invokevirtual 48, 3) := by decide +kernel
theorem d_TM_takeOut_88 : decode b_TM_takeOut 88 = .ok (.lstore 7, 2) := by decide +kernel
theorem d_TM_takeOut_90 : decode b_TM_takeOut 90 = .ok (.aload_n 0, 1) := by decide +kernel
theorem d_TM_takeOut_91 : decode b_TM_takeOut 91 = .ok (.getfield 34, 3) := by decide +kernel
theorem d_TM_takeOut_94 : decode b_TM_takeOut 94 = .ok (.ifCond .ne 20, 3) := by decide +kernel
theorem d_TM_takeOut_97 : decode b_TM_takeOut 97 = .ok (.aload_n 0, 1) := by decide +kernel
theorem d_TM_takeOut_98 : decode b_TM_takeOut 98 = .ok (.lload 7, 2) := by decide +kernel
theorem d_TM_takeOut_100 : decode b_TM_takeOut 100 = .ok (.invokevirtual 64, 3) := by decide +kernel
theorem d_TM_takeOut_103 : decode b_TM_takeOut 103 = .ok (.sipush 400, 3) := by decide +kernel
theorem d_TM_takeOut_106 : decode b_TM_takeOut 106 = .ok (.if_icmp .le 8, 3) := by decide +kernel
theorem d_TM_takeOut_109 : decode b_TM_takeOut 109 = .ok (.aload_n 0, 1) := by decide +kernel
theorem d_TM_takeOut_110 : decode b_TM_takeOut 110 = .ok (.iconst 1, 1) := by decide +kernel
theorem d_TM_takeOut_111 : decode b_TM_takeOut 111 = .ok (.putfield 34, 3) := by decide +kernel
theorem d_TM_takeOut_114 : decode b_TM_takeOut 114 = .ok (.lload 7, 2) := by decide +kernel
theorem d_TM_takeOut_116 : decode b_TM_takeOut 116 = .ok (.lreturn, 1) := by decide +kernel
theorem d_TM_takeOutOf_0 : decode b_TM_takeOutOf 0 = .ok (.aload_n 0, 1) := by decide +kernel
theorem d_TM_takeOutOf_1 : decode b_TM_takeOutOf 1 = .ok (.getfield 9, 3) := by decide +kernel
theorem d_TM_takeOutOf_4 : decode b_TM_takeOutOf 4 = .ok (.iload_n 1, 1) := by decide +kernel
theorem d_TM_takeOutOf_5 : decode b_TM_takeOutOf 5 = .ok (.laload, 1) := by decide +kernel
theorem d_TM_takeOutOf_6 : decode b_TM_takeOutOf 6 = .ok (.lstore 4, 2) := by decide +kernel
theorem d_TM_takeOutOf_8 : decode b_TM_takeOutOf 8 = .ok (.aload_n 0, 1) := by decide +kernel
theorem d_TM_takeOutOf_9 : decode b_TM_takeOutOf 9 = .ok (.getfield 13, 3) := by decide +kernel
theorem d_TM_takeOutOf_12 : decode b_TM_takeOutOf 12 = .ok (.iload_n 1, 1) := by decide +kernel
theorem d_TM_takeOutOf_13 : decode b_TM_takeOutOf 13 = .ok (.laload, 1) := by decide +kernel
theorem d_TM_takeOutOf_14 : decode b_TM_takeOutOf 14 = .ok (.lstore 6, 2) := by decide +kernel
theorem d_TM_takeOutOf_16 : decode b_TM_takeOutOf 16 = .ok (.aload_n 0, 1) := by decide +kernel
theorem d_TM_takeOutOf_17 : decode b_TM_takeOutOf 17 = .ok (.lload 4, 2) := by decide +kernel
theorem d_TM_takeOutOf_19 : decode b_TM_takeOutOf 19 = .ok (.lload_n 2, 1) := by decide +kernel
theorem d_TM_takeOutOf_20 : decode b_TM_takeOutOf 20 = .ok (.invokevirtual 71, 3) := by decide +kernel
theorem d_TM_takeOutOf_23 : decode b_TM_takeOutOf 23 = .ok (.istore 8, 2) := by decide +kernel
theorem d_TM_takeOutOf_25 : decode b_TM_takeOutOf 25 = .ok (.aload_n 0, 1) := by decide +kernel
theorem d_TM_takeOutOf_26 : decode b_TM_takeOutOf 26 = .ok (.lload 6, 2) := by decide +kernel
theorem d_TM_takeOutOf_28 : decode b_TM_takeOutOf 28 = .ok (.lload_n 2, 1) := by decide +kernel
theorem d_TM_takeOutOf_29 : decode b_TM_takeOutOf 29 = .ok (.invokevirtual 71, 3) := by decide +kernel
theorem d_TM_takeOutOf_32 : decode b_TM_takeOutOf 32 = .ok (.istore 9, 2) := by decide +kernel
theorem d_TM_takeOutOf_34 : decode b_TM_takeOutOf 34 = .ok (.aload_n 0, 1) := by decide +kernel
theorem d_TM_takeOutOf_35 : decode b_TM_takeOutOf 35 = .ok (.getfield 27, 3) := by decide +kernel
theorem d_TM_takeOutOf_38 : decode b_TM_takeOutOf 38 = .ok (.iload_n 1, 1) := by decide +kernel
theorem d_TM_takeOutOf_39 : decode b_TM_takeOutOf 39 = .ok (.iload 8, 2) := by decide +kernel
theorem d_TM_takeOutOf_41 : decode b_TM_takeOutOf 41 = .ok (.ifCond .ne 8, 3) := by decide +kernel
theorem d_TM_takeOutOf_44 : decode b_TM_takeOutOf 44 = .ok (.iload 9, 2) := by decide +kernel
theorem d_TM_takeOutOf_46 : decode b_TM_takeOutOf 46 = .ok (.ifCond .eq 7, 3) := by decide +kernel
theorem d_TM_takeOutOf_49 : decode b_TM_takeOutOf 49 = .ok (.iconst 1, 1) := by decide +kernel
theorem d_TM_takeOutOf_50 : decode b_TM_takeOutOf 50 = .ok (.goto 4, 3) := by decide +kernel
theorem d_TM_takeOutOf_53 : decode b_TM_takeOutOf 53 = .ok (.iconst 0, 1) := by decide +kernel
theorem d_TM_takeOutOf_54 : decode b_TM_takeOutOf 54 = .ok (.bastore, 1) := by decide +kernel
theorem d_TM_takeOutOf_55 : decode b_TM_takeOutOf 55 = .ok (.aload_n 0, 1) := by decide +kernel
theorem d_TM_takeOutOf_56 : decode b_TM_takeOutOf 56 = .ok (.getfield 27, 3) := by decide +kernel
theorem d_TM_takeOutOf_59 : decode b_TM_takeOutOf 59 = .ok (.iload_n 1, 1) := by decide +kernel
theorem d_TM_takeOutOf_60 : decode b_TM_takeOutOf 60 = .ok (.baload, 1) := by decide +kernel
theorem d_TM_takeOutOf_61 : decode b_TM_takeOutOf 61 = .ok (.ifCond .ne 4, 3) := by decide +kernel
theorem d_TM_takeOutOf_64 : decode b_TM_takeOutOf 64 = .ok (.return_, 1) := by decide +kernel
theorem d_TM_takeOutOf_65 : decode b_TM_takeOutOf 65 = .ok (.iload 8, 2) := by decide +kernel
theorem d_TM_takeOutOf_67 : decode b_TM_takeOutOf 67 = .ok (.ifCond .eq 12, 3) := by decide +kernel
theorem d_TM_takeOutOf_70 : decode b_TM_takeOutOf 70 = .ok (.aload_n 0, 1) := by decide +kernel
theorem d_TM_takeOutOf_71 : decode b_TM_takeOutOf 71 = .ok (.lload 4, 2) := by decide +kernel
theorem d_TM_takeOutOf_73 : decode b_TM_takeOutOf 73 = .ok (.invokevirtual 75, 3) := by decide +kernel
theorem d_TM_takeOutOf_76 : decode b_TM_takeOutOf 76 = .ok (.goto 5, 3) := by decide +kernel
theorem d_TM_takeOutOf_79 : decode b_TM_takeOutOf 79 = .ok (.lload 4, 2) := by decide +kernel
theorem d_TM_takeOutOf_81 : decode b_TM_takeOutOf 81 = .ok (.lstore 10, 2) := by decide +kernel
theorem d_TM_takeOutOf_83 : decode b_TM_takeOutOf 83 = .ok (.iload 9, 2) := by decide +kernel
theorem d_TM_takeOutOf_85 : decode b_TM_takeOutOf 85 = .ok (.ifCond .eq 12, 3) := by decide +kernel
theorem d_TM_takeOutOf_88 : decode b_TM_takeOutOf 88 = .ok (.aload_n 0, 1) := by decide +kernel
theorem d_TM_takeOutOf_89 : decode b_TM_takeOutOf 89 = .ok (.lload 6, 2) := by decide +kernel
theorem d_TM_takeOutOf_91 : decode b_TM_takeOutOf 91 = .ok (.invokevirtual 75, 3) := by decide +kernel
theorem d_TM_takeOutOf_94 : decode b_TM_takeOutOf 94 = .ok (.goto 5, 3) := by decide +kernel
theorem d_TM_takeOutOf_97 : decode b_TM_takeOutOf 97 = .ok (.lload 6, 2) := by decide +kernel
theorem d_TM_takeOutOf_99 : decode b_TM_takeOutOf 99 = .ok (.lstore 12, 2) := by decide +kernel
theorem d_TM_takeOutOf_101 : decode b_TM_takeOutOf 101 = .ok (.iload 8, 2) := by decide +kernel
theorem d_TM_takeOutOf_103 : decode b_TM_takeOutOf 103 = .ok (.ifCond .eq 12, 3) := by decide +kernel
theorem d_TM_takeOutOf_106 : decode b_TM_takeOutOf 106 = .ok (.aload_n 0, 1) := by decide +kernel
theorem d_TM_takeOutOf_107 : decode b_TM_takeOutOf 107 = .ok (.lload 10, 2) := by decide +kernel
theorem d_TM_takeOutOf_109 : decode b_TM_takeOutOf 109 = .ok (.invokevirtual 79, 3) := by decide +kernel
theorem d_TM_takeOutOf_112 : decode b_TM_takeOutOf 112 = .ok (.ifCond .eq 7, 3) := by decide +kernel
theorem d_TM_takeOutOf_115 : decode b_TM_takeOutOf 115 = .ok (.iconst 1, 1) := by decide +kernel
theorem d_TM_takeOutOf_116 : decode b_TM_takeOutOf 116 = .ok (.goto 4, 3) := by decide +kernel
theorem d_TM_takeOutOf_119 : decode b_TM_takeOutOf 119 = .ok (.iconst 0, 1) := by decide +kernel
theorem d_TM_takeOutOf_120 : decode b_TM_takeOutOf 120 = .ok (.istore 14, 2) := by decide +kernel
theorem d_TM_takeOutOf_122 : decode b_TM_takeOutOf 122 = .ok (.iload 9, 2) := by decide +kernel
theorem d_TM_takeOutOf_124 : decode b_TM_takeOutOf 124 = .ok (.ifCond .eq 12, 3) := by decide +kernel
theorem d_TM_takeOutOf_127 : decode b_TM_takeOutOf 127 = .ok (.aload_n 0, 1) := by decide +kernel
theorem d_TM_takeOutOf_128 : decode b_TM_takeOutOf 128 = .ok (.lload 12, 2) := by decide +kernel
theorem d_TM_takeOutOf_130 : decode b_TM_takeOutOf 130 = .ok (.invokevirtual 79, 3) := by decide +kernel
theorem d_TM_takeOutOf_133 : decode b_TM_takeOutOf 133 = .ok (.ifCond .eq 7, 3) := by decide +kernel
theorem d_TM_takeOutOf_136 : decode b_TM_takeOutOf 136 = .ok (.iconst 1, 1) := by decide +kernel
theorem d_TM_takeOutOf_137 : decode b_TM_takeOutOf 137 = .ok (.goto 4, 3) := by decide +kernel
theorem d_TM_takeOutOf_140 : decode b_TM_takeOutOf 140 = .ok (.iconst 0, 1) := by decide +kernel
theorem d_TM_takeOutOf_141 : decode b_TM_takeOutOf 141 = .ok (.istore 15, 2) := by decide +kernel
theorem d_TM_takeOutOf_143 : decode b_TM_takeOutOf 143 = .ok (.iload 8, 2) := by decide +kernel
theorem d_TM_takeOutOf_145 : decode b_TM_takeOutOf 145 = .ok (.ifCond .eq 16, 3) := by decide +kernel
theorem d_TM_takeOutOf_148 : decode b_TM_takeOutOf 148 = .ok (.iload 14, 2) := by decide +kernel
theorem d_TM_takeOutOf_150 : decode b_TM_takeOutOf 150 = .ok (.ifCond .eq 11, 3) := by decide +kernel
theorem d_TM_takeOutOf_153 : decode b_TM_takeOutOf 153 = .ok (.aload_n 0, 1) := by decide +kernel
theorem d_TM_takeOutOf_154 : decode b_TM_takeOutOf 154 = .ok (.lload 10, 2) := by decide +kernel
theorem d_TM_takeOutOf_156 : decode b_TM_takeOutOf 156 = .ok (.invokevirtual 82, 3) := by decide +kernel
theorem d_TM_takeOutOf_159 : decode b_TM_takeOutOf 159 = .ok (.lstore 10, 2) := by decide +kernel
theorem d_TM_takeOutOf_161 : decode b_TM_takeOutOf 161 = .ok (.iload 9, 2) := by decide +kernel
theorem d_TM_takeOutOf_163 : decode b_TM_takeOutOf 163 = .ok (.ifCond .eq 16, 3) := by decide +kernel
theorem d_TM_takeOutOf_166 : decode b_TM_takeOutOf 166 = .ok (.iload 15, 2) := by decide +kernel
theorem d_TM_takeOutOf_168 : decode b_TM_takeOutOf 168 = .ok (.ifCond .eq 11, 3) := by decide +kernel
theorem d_TM_takeOutOf_171 : decode b_TM_takeOutOf 171 = .ok (.aload_n 0, 1) := by decide +kernel
theorem d_TM_takeOutOf_172 : decode b_TM_takeOutOf 172 = .ok (.lload 12, 2) := by decide +kernel
theorem d_TM_takeOutOf_174 : decode b_TM_takeOutOf 174 = .ok (.invokevirtual 82, 3) := by decide +kernel
theorem d_TM_takeOutOf_177 : decode b_TM_takeOutOf 177 = .ok (.lstore 12, 2) := by decide +kernel
theorem d_TM_takeOutOf_179 : decode b_TM_takeOutOf 179 = .ok (.aload_n 0, 1) := by decide +kernel
theorem d_TM_takeOutOf_180 : decode b_TM_takeOutOf 180 = .ok (.getfield 31, 3) := by decide +kernel
theorem d_TM_takeOutOf_183 : decode b_TM_takeOutOf 183 = .ok (.iload_n 1, 1) := by decide +kernel
theorem d_TM_takeOutOf_184 : decode b_TM_takeOutOf 184 = .ok (.iload 14, 2) := by decide +kernel
theorem d_TM_takeOutOf_186 : decode b_TM_takeOutOf 186 = .ok (.ifCond .eq 17, 3) := by decide +kernel
theorem d_TM_takeOutOf_189 : decode b_TM_takeOutOf 189 = .ok (.aload_n 0, 1) := by decide +kernel
theorem d_TM_takeOutOf_190 : decode b_TM_takeOutOf 190 = .ok (.iload_n 1, 1) := by decide +kernel
theorem d_TM_takeOutOf_191 : decode b_TM_takeOutOf 191 = .ok (.lload 10, 2) := by decide +kernel
theorem d_TM_takeOutOf_193 : decode b_TM_takeOutOf 193 = .ok (.lload 12, 2) := by decide +kernel
theorem d_TM_takeOutOf_195 : decode b_TM_takeOutOf 195 = .ok (.iload 15, 2) := by decide +kernel
theorem d_TM_takeOutOf_197 : decode b_TM_takeOutOf 197 = .ok (.invokevirtual 85, 3) := by decide +kernel
theorem d_TM_takeOutOf_200 : decode b_TM_takeOutOf 200 = .ok (.goto 14, 3) := by decide +kernel
theorem d_TM_takeOutOf_203 : decode b_TM_takeOutOf 203 = .ok (.aload_n 0, 1) := by decide +kernel
theorem d_TM_takeOutOf_204 : decode b_TM_takeOutOf 204 = .ok (.iload_n 1, 1) := by decide +kernel
theorem d_TM_takeOutOf_205 : decode b_TM_takeOutOf 205 = .ok (.lload 10, 2) := by decide +kernel
theorem d_TM_takeOutOf_207 : decode b_TM_takeOutOf 207 = .ok (.lload 12, 2) := by decide +kernel
theorem d_TM_takeOutOf_209 : decode b_TM_takeOutOf 209 = .ok (.iload 15, 2) := by decide +kernel
theorem d_TM_takeOutOf_211 : decode b_TM_takeOutOf 211 = .ok (.invokevirtual 89, 3) := by decide +kernel
theorem d_TM_takeOutOf_214 : decode b_TM_takeOutOf 214 = .ok (.lastore, 1) := by decide +kernel
theorem d_TM_takeOutOf_215 : decode b_TM_takeOutOf 215 = .ok (.return_, 1) := by decide +kernel
theorem d_TM_joinConstant_0 : decode b_TM_joinConstant 0 = .ok (.iload 6, 2) := by decide +kernel
theorem d_TM_joinConstant_2 : decode b_TM_joinConstant 2 = .ok (.ifCond .eq 20, 3) := by decide +kernel
theorem d_TM_joinConstant_5 : decode b_TM_joinConstant 5 = .ok (.aload_n 0, 1) := by decide +kernel
theorem d_TM_joinConstant_6 : decode b_TM_joinConstant 6 = .ok (.iconst 3, 1) := by decide +kernel
theorem d_TM_joinConstant_7 : decode b_TM_joinConstant 7 = .ok (.invokestatic 40, 3) := by decide +kernel
theorem d_TM_joinConstant_10 : decode b_TM_joinConstant 10 = .ok (.aload_n 0, 1) := by decide +kernel
theorem d_TM_joinConstant_11 : decode b_TM_joinConstant 11 = .ok (.iload_n 1, 1) := by decide +kernel
theorem d_TM_joinConstant_12 : decode b_TM_joinConstant 12 = .ok (.lload_n 2, 1) := by decide +kernel
theorem d_TM_joinConstant_13 : decode b_TM_joinConstant 13 = .ok (.lload 4, 2) := by decide +kernel
theorem d_TM_joinConstant_15 : decode b_TM_joinConstant 15 = .ok (.invokevirtual 92, 3) := by decide +kernel
theorem d_TM_joinConstant_18 : decode b_TM_joinConstant 18 = .ok (.invokevirtual 48, 3) := by decide +kernel
theorem d_TM_joinConstant_21 : decode b_TM_joinConstant 21 = .ok (.lreturn, 1) := by decide +kernel
theorem d_TM_joinConstant_22 : decode b_TM_joinConstant 22 = .ok (.lload 4, 2) := by decide +kernel
theorem d_TM_joinConstant_24 : decode b_TM_joinConstant 24 = .ok (.iconst 2, 1) := by decide +kernel
theorem d_TM_joinConstant_25 : decode b_TM_joinConstant 25 = .ok (.invokestatic 40, 3) := by decide +kernel
theorem d_TM_joinConstant_28 : decode b_TM_joinConstant 28 = .ok (.lcmp, 1) := by decide +kernel
theorem d_TM_joinConstant_29 : decode b_TM_joinConstant 29 = .ok (.ifCond .ne 10, 3) := by decide +kernel
theorem d_TM_joinConstant_32 : decode b_TM_joinConstant 32 = .ok (.aload_n 0, 1) := by decide +kernel
theorem d_TM_joinConstant_33 : decode b_TM_joinConstant 33 = .ok (.iload_n 1, 1) := by decide +kernel
theorem d_TM_joinConstant_34 : decode b_TM_joinConstant 34 = .ok (.invokevirtual 96, 3) := by decide +kernel
theorem d_TM_joinConstant_37 : decode b_TM_joinConstant 37 = .ok (.lload_n 2, 1) := by decide +kernel
theorem d_TM_joinConstant_38 : decode b_TM_joinConstant 38 = .ok (.lreturn, 1) := by decide +kernel
theorem d_TM_joinConstant_39 : decode b_TM_joinConstant 39 = .ok (.lload_n 2, 1) := by decide +kernel
theorem d_TM_joinConstant_40 : decode b_TM_joinConstant 40 = .ok (.invokestatic 52, 3) := by decide +kernel
theorem d_TM_joinConstant_43 : decode b_TM_joinConstant 43 = .ok (.ifCond .eq 50, 3) := by decide +kernel
theorem d_TM_joinConstant_46 : decode b_TM_joinConstant 46 = .ok (.lload_n 2, 1) := by decide +kernel
theorem d_TM_joinConstant_47 : decode b_TM_joinConstant 47 = .ok (.invokestatic 56, 3) := by decide +kernel
theorem d_TM_joinConstant_50 : decode b_TM_joinConstant 50 = .ok (.istore 7, 2) := by decide +kernel
theorem d_TM_joinConstant_52 : decode b_TM_joinConstant 52 = .ok (.aload_n 0, 1) := by decide +kernel
theorem d_TM_joinConstant_53 : decode b_TM_joinConstant 53 = .ok (.bipush 8, 2) := by decide +kernel
theorem d_TM_joinConstant_55 : decode b_TM_joinConstant 55 = .ok (.invokestatic 40, 3) := by decide +kernel
theorem d_TM_joinConstant_58 : decode b_TM_joinConstant 58 = .ok (.aload_n 0, 1) := by decide +kernel
theorem d_TM_joinConstant_59 : decode b_TM_joinConstant 59 = .ok (.getfield 9, 3) := by decide +kernel
theorem d_TM_joinConstant_62 : decode b_TM_joinConstant 62 = .ok (.iload 7, 2) := by decide +kernel
theorem d_TM_joinConstant_64 : decode b_TM_joinConstant 64 = .ok (.laload, 1) := by decide +kernel
theorem d_TM_joinConstant_65 : decode b_TM_joinConstant 65 = .ok (.invokevirtual 48, 3) := by decide +kernel
theorem d_TM_joinConstant_68 : decode b_TM_joinConstant 68 = .ok (.lstore 8, 2) := by decide +kernel
theorem d_TM_joinConstant_70 : decode b_TM_joinConstant 70 = .ok (.aload_n 0, 1) := by decide +kernel
theorem d_TM_joinConstant_71 : decode b_TM_joinConstant 71 = .ok (.iload_n 1, 1) := by decide +kernel
theorem d_TM_joinConstant_72 : decode b_TM_joinConstant 72 = .ok (.aload_n 0, 1) := by decide +kernel
theorem d_TM_joinConstant_73 : decode b_TM_joinConstant 73 = .ok (.iload 7, 2) := by decide +kernel
theorem d_TM_joinConstant_75 : decode b_TM_joinConstant 75 = .ok (.lload 8, 2) := by decide +kernel
theorem d_TM_joinConstant_77 : decode b_TM_joinConstant 77 = .ok (.aload_n 0, 1) := by decide +kernel
theorem d_TM_joinConstant_78 : decode b_TM_joinConstant 78 = .ok (.getfield 13, 3) := by decide +kernel
theorem d_TM_joinConstant_81 : decode b_TM_joinConstant 81 = .ok (.iload 7, 2) := by decide +kernel
theorem d_TM_joinConstant_83 : decode b_TM_joinConstant 83 = .ok (.laload, 1) := by decide +kernel
theorem d_TM_joinConstant_84 : decode b_TM_joinConstant 84 = .ok (.invokevirtual 92, 3) := by decide +kernel
theorem d_TM_joinConstant_87 : decode b_TM_joinConstant 87 = .ok (.lload 4, 2) := by decide +kernel
theorem d_TM_joinConstant_89 : decode b_TM_joinConstant 89 = .ok (.invokevirtual 92, 3) := by decide +kernel
theorem d_TM_joinConstant_92 : decode b_TM_joinConstant 92 = .ok (.lreturn, 1) := by decide +kernel
theorem d_TM_joinConstant_93 : decode b_TM_joinConstant 93 = .ok (.aload_n 0, 1) := by decide +kernel
theorem d_TM_joinConstant_94 : decode b_TM_joinConstant 94 = .ok (.iload_n 1, 1) := by decide +kernel
theorem d_TM_joinConstant_95 : decode b_TM_joinConstant 95 = .ok (.aload_n 0, 1) := by decide +kernel
theorem d_TM_joinConstant_96 : decode b_TM_joinConstant 96 = .ok (.iconst 5, 1) := by decide +kernel
theorem d_TM_joinConstant_97 : decode b_TM_joinConstant 97 = .ok (.invokestatic 40, 3) := by decide +kernel
theorem d_TM_joinConstant_100 : decode b_TM_joinConstant 100 = .ok (.lload_n 2, 1) := by decide +kernel
theorem d_TM_joinConstant_101 : decode b_TM_joinConstant 101 = .ok (.invokevirtual 48, 3) := by decide +kernel
theorem d_TM_joinConstant_104 : decode b_TM_joinConstant 104 = .ok (.lload 4, 2) := by decide +kernel
theorem d_TM_joinConstant_106 : decode b_TM_joinConstant 106 = .ok (.invokevirtual 92, 3) := by decide +kernel
theorem d_TM_joinConstant_109 : decode b_TM_joinConstant 109 = .ok (.lreturn, 1) := by decide +kernel
theorem d_TM_joinVarying_0 : decode b_TM_joinVarying 0 = .ok (.aload_n 0, 1) := by decide +kernel
theorem d_TM_joinVarying_1 : decode b_TM_joinVarying 1 = .ok (.lload_n 2, 1) := by decide +kernel
theorem d_TM_joinVarying_2 : decode b_TM_joinVarying 2 = .ok (.invokevirtual 100, 3) := by decide +kernel
theorem d_TM_joinVarying_5 : decode b_TM_joinVarying 5 = .ok (.ifCond .eq 44, 3) := by decide +kernel
theorem d_TM_joinVarying_8 : decode b_TM_joinVarying 8 = .ok (.aload_n 0, 1) := by decide +kernel
theorem d_TM_joinVarying_9 : decode b_TM_joinVarying 9 = .ok (.getfield 9, 3) := by decide +kernel
theorem d_TM_joinVarying_12 : decode b_TM_joinVarying 12 = .ok (.aload_n 0, 1) := by decide +kernel
theorem d_TM_joinVarying_13 : decode b_TM_joinVarying 13 = .ok (.getfield 9, 3) := by decide +kernel
theorem d_TM_joinVarying_16 : decode b_TM_joinVarying 16 = .ok (.lload_n 2, 1) := by decide +kernel
theorem d_TM_joinVarying_17 : decode b_TM_joinVarying 17 = .ok (.invokestatic 56, 3) := by decide +kernel
theorem d_TM_joinVarying_20 : decode b_TM_joinVarying 20 = .ok (.laload, 1) := by decide +kernel
theorem d_TM_joinVarying_21 : decode b_TM_joinVarying 21 = .ok (.invokestatic 56, 3) := by decide +kernel
theorem d_TM_joinVarying_24 : decode b_TM_joinVarying 24 = .ok (.iload 6, 2) := by decide +kernel
theorem d_TM_joinVarying_26 : decode b_TM_joinVarying 26 = .ok (.ifCond .eq 8, 3) := by decide +kernel
theorem d_TM_joinVarying_29 : decode b_TM_joinVarying 29 = .ok (.bipush 9, 2) := by decide +kernel
theorem d_TM_joinVarying_31 : decode b_TM_joinVarying 31 = .ok (.goto 5, 3) := by decide +kernel
theorem d_TM_joinVarying_34 : decode b_TM_joinVarying 34 = .ok (.bipush 7, 2) := by decide +kernel
theorem d_TM_joinVarying_36 : decode b_TM_joinVarying 36 = .ok (.invokestatic 40, 3) := by decide +kernel
theorem d_TM_joinVarying_39 : decode b_TM_joinVarying 39 = .ok (.lastore, 1) := by decide +kernel
theorem d_TM_joinVarying_40 : decode b_TM_joinVarying 40 = .ok (.aload_n 0, 1) := by decide +kernel
theorem d_TM_joinVarying_41 : decode b_TM_joinVarying 41 = .ok (.iload_n 1, 1) := by decide +kernel
theorem d_TM_joinVarying_42 : decode b_TM_joinVarying 42 = .ok (.lload_n 2, 1) := by decide +kernel
theorem d_TM_joinVarying_43 : decode b_TM_joinVarying 43 = .ok (.lload 4, 2) := by decide +kernel
theorem d_TM_joinVarying_45 : decode b_TM_joinVarying 45 = .ok (.invokevirtual 92, 3) := by decide +kernel
theorem d_TM_joinVarying_48 : decode b_TM_joinVarying 48 = .ok (.lreturn, 1) := by decide +kernel
theorem d_TM_joinVarying_49 : decode b_TM_joinVarying 49 = .ok (.aload_n 0, 1) := by decide +kernel
theorem d_TM_joinVarying_50 : decode b_TM_joinVarying 50 = .ok (.iload_n 1, 1) := by decide +kernel
theorem d_TM_joinVarying_51 : decode b_TM_joinVarying 51 = .ok (.aload_n 0, 1) := by decide +kernel
theorem d_TM_joinVarying_52 : decode b_TM_joinVarying 52 = .ok (.iload 6, 2) := by decide +kernel
theorem d_TM_joinVarying_54 : decode b_TM_joinVarying 54 = .ok (.ifCond .eq 8, 3) := by decide +kernel
theorem d_TM_joinVarying_57 : decode b_TM_joinVarying 57 = .ok (.bipush 6, 2) := by decide +kernel
theorem d_TM_joinVarying_59 : decode b_TM_joinVarying 59 = .ok (.goto 4, 3) := by decide +kernel
theorem d_TM_joinVarying_62 : decode b_TM_joinVarying 62 = .ok (.iconst 4, 1) := by decide +kernel
theorem d_TM_joinVarying_63 : decode b_TM_joinVarying 63 = .ok (.invokestatic 40, 3) := by decide +kernel
theorem d_TM_joinVarying_66 : decode b_TM_joinVarying 66 = .ok (.lload_n 2, 1) := by decide +kernel
theorem d_TM_joinVarying_67 : decode b_TM_joinVarying 67 = .ok (.invokevirtual 48, 3) := by decide +kernel
theorem d_TM_joinVarying_70 : decode b_TM_joinVarying 70 = .ok (.lload 4, 2) := by decide +kernel
theorem d_TM_joinVarying_72 : decode b_TM_joinVarying 72 = .ok (.invokevirtual 92, 3) := by decide +kernel
theorem d_TM_joinVarying_75 : decode b_TM_joinVarying 75 = .ok (.lreturn, 1) := by decide +kernel
theorem d_TM_isB_0 : decode b_TM_isB 0 = .ok (.lload_n 1, 1) := by decide +kernel
theorem d_TM_isB_1 : decode b_TM_isB 1 = .ok (.invokestatic 52, 3) := by decide +kernel
theorem d_TM_isB_4 : decode b_TM_isB 4 = .ok (.ifCond .ne 5, 3) := by decide +kernel
theorem d_TM_isB_7 : decode b_TM_isB 7 = .ok (.iconst 0, 1) := by decide +kernel
theorem d_TM_isB_8 : decode b_TM_isB 8 = .ok (.ireturn, 1) := by decide +kernel
theorem d_TM_isB_9 : decode b_TM_isB 9 = .ok (.aload_n 0, 1) := by decide +kernel
theorem d_TM_isB_10 : decode b_TM_isB 10 = .ok (.getfield 9, 3) := by decide +kernel
theorem d_TM_isB_13 : decode b_TM_isB 13 = .ok (.lload_n 1, 1) := by decide +kernel
theorem d_TM_isB_14 : decode b_TM_isB 14 = .ok (.invokestatic 56, 3) := by decide +kernel
theorem d_TM_isB_17 : decode b_TM_isB 17 = .ok (.laload, 1) := by decide +kernel
theorem d_TM_isB_18 : decode b_TM_isB 18 = .ok (.lstore_n 3, 1) := by decide +kernel
theorem d_TM_isB_19 : decode b_TM_isB 19 = .ok (.lload_n 3, 1) := by decide +kernel
theorem d_TM_isB_20 : decode b_TM_isB 20 = .ok (.invokestatic 52, 3) := by decide +kernel
theorem d_TM_isB_23 : decode b_TM_isB 23 = .ok (.ifCond .eq 24, 3) := by decide +kernel
theorem d_TM_isB_26 : decode b_TM_isB 26 = .ok (.aload_n 0, 1) := by decide +kernel
theorem d_TM_isB_27 : decode b_TM_isB 27 = .ok (.getfield 9, 3) := by decide +kernel
theorem d_TM_isB_30 : decode b_TM_isB 30 = .ok (.lload_n 3, 1) := by decide +kernel
theorem d_TM_isB_31 : decode b_TM_isB 31 = .ok (.invokestatic 56, 3) := by decide +kernel
theorem d_TM_isB_34 : decode b_TM_isB 34 = .ok (.laload, 1) := by decide +kernel
theorem d_TM_isB_35 : decode b_TM_isB 35 = .ok (.iconst 5, 1) := by decide +kernel
theorem d_TM_isB_36 : decode b_TM_isB 36 = .ok (.invokestatic 40, 3) := by decide +kernel
theorem d_TM_isB_39 : decode b_TM_isB 39 = .ok (.lcmp, 1) := by decide +kernel
theorem d_TM_isB_40 : decode b_TM_isB 40 = .ok (.ifCond .ne 7, 3) := by decide +kernel
theorem d_TM_isB_43 : decode b_TM_isB 43 = .ok (.iconst 1, 1) := by decide +kernel
theorem d_TM_isB_44 : decode b_TM_isB 44 = .ok (.goto 4, 3) := by decide +kernel
theorem d_TM_isB_47 : decode b_TM_isB 47 = .ok (.iconst 0, 1) := by decide +kernel
theorem d_TM_isB_48 : decode b_TM_isB 48 = .ok (.ireturn, 1) := by decide +kernel
theorem d_TM_isK_0 : decode b_TM_isK 0 = .ok (.lload_n 1, 1) := by decide +kernel
theorem d_TM_isK_1 : decode b_TM_isK 1 = .ok (.invokestatic 52, 3) := by decide +kernel
theorem d_TM_isK_4 : decode b_TM_isK 4 = .ok (.ifCond .eq 24, 3) := by decide +kernel
theorem d_TM_isK_7 : decode b_TM_isK 7 = .ok (.aload_n 0, 1) := by decide +kernel
theorem d_TM_isK_8 : decode b_TM_isK 8 = .ok (.getfield 9, 3) := by decide +kernel
theorem d_TM_isK_11 : decode b_TM_isK 11 = .ok (.lload_n 1, 1) := by decide +kernel
theorem d_TM_isK_12 : decode b_TM_isK 12 = .ok (.invokestatic 56, 3) := by decide +kernel
theorem d_TM_isK_15 : decode b_TM_isK 15 = .ok (.laload, 1) := by decide +kernel
theorem d_TM_isK_16 : decode b_TM_isK 16 = .ok (.iconst 3, 1) := by decide +kernel
theorem d_TM_isK_17 : decode b_TM_isK 17 = .ok (.invokestatic 40, 3) := by decide +kernel
theorem d_TM_isK_20 : decode b_TM_isK 20 = .ok (.lcmp, 1) := by decide +kernel
theorem d_TM_isK_21 : decode b_TM_isK 21 = .ok (.ifCond .ne 7, 3) := by decide +kernel
theorem d_TM_isK_24 : decode b_TM_isK 24 = .ok (.iconst 1, 1) := by decide +kernel
theorem d_TM_isK_25 : decode b_TM_isK 25 = .ok (.goto 4, 3) := by decide +kernel
theorem d_TM_isK_28 : decode b_TM_isK 28 = .ok (.iconst 0, 1) := by decide +kernel
theorem d_TM_isK_29 : decode b_TM_isK 29 = .ok (.ireturn, 1) := by decide +kernel
theorem d_TM_hasName_0 : decode b_TM_hasName 0 = .ok (.lload_n 1, 1) := by decide +kernel
theorem d_TM_hasName_1 : decode b_TM_hasName 1 = .ok (.invokestatic 52, 3) := by decide +kernel
theorem d_TM_hasName_4 : decode b_TM_hasName 4 = .ok (.ifCond .eq 15, 3) := by decide +kernel
theorem d_TM_hasName_7 : decode b_TM_hasName 7 = .ok (.aload_n 0, 1) := by decide +kernel
theorem d_TM_hasName_8 : decode b_TM_hasName 8 = .ok (.getfield 27, 3) := by decide +kernel
theorem d_TM_hasName_11 : decode b_TM_hasName 11 = .ok (.lload_n 1, 1) := by decide +kernel
theorem d_TM_hasName_12 : decode b_TM_hasName 12 = .ok (.invokestatic 56, 3) := by decide +kernel
theorem d_TM_hasName_15 : decode b_TM_hasName 15 = .ok (.baload, 1) := by decide +kernel
theorem d_TM_hasName_16 : decode b_TM_hasName 16 = .ok (.goto 14, 3) := by decide +kernel
theorem d_TM_hasName_19 : decode b_TM_hasName 19 = .ok (.lload_n 1, 1) := by decide +kernel
theorem d_TM_hasName_20 : decode b_TM_hasName 20 = .ok (.lload_n 3, 1) := by decide +kernel
theorem d_TM_hasName_21 : decode b_TM_hasName 21 = .ok (.lcmp, 1) := by decide +kernel
theorem d_TM_hasName_22 : decode b_TM_hasName 22 = .ok (.ifCond .ne 7, 3) := by decide +kernel
theorem d_TM_hasName_25 : decode b_TM_hasName 25 = .ok (.iconst 1, 1) := by decide +kernel
theorem d_TM_hasName_26 : decode b_TM_hasName 26 = .ok (.goto 4, 3) := by decide +kernel
theorem d_TM_hasName_29 : decode b_TM_hasName 29 = .ok (.iconst 0, 1) := by decide +kernel
theorem d_TM_hasName_30 : decode b_TM_hasName 30 = .ok (.ireturn, 1) := by decide +kernel
theorem d_TM_withoutName_0 : decode b_TM_withoutName 0 = .ok (.lload_n 1, 1) := by decide +kernel
theorem d_TM_withoutName_1 : decode b_TM_withoutName 1 = .ok (.invokestatic 52, 3) := by decide +kernel
theorem d_TM_withoutName_4 : decode b_TM_withoutName 4 = .ok (.ifCond .eq 15, 3) := by decide +kernel
theorem d_TM_withoutName_7 : decode b_TM_withoutName 7 = .ok (.aload_n 0, 1) := by decide +kernel
theorem d_TM_withoutName_8 : decode b_TM_withoutName 8 = .ok (.getfield 31, 3) := by decide +kernel
theorem d_TM_withoutName_11 : decode b_TM_withoutName 11 = .ok (.lload_n 1, 1) := by decide +kernel
theorem d_TM_withoutName_12 : decode b_TM_withoutName 12 = .ok (.invokestatic 56, 3) := by decide +kernel
theorem d_TM_withoutName_15 : decode b_TM_withoutName 15 = .ok (.laload, 1) := by decide +kernel
theorem d_TM_withoutName_16 : decode b_TM_withoutName 16 = .ok (.goto 7, 3) := by decide +kernel
theorem d_TM_withoutName_19 : decode b_TM_withoutName 19 = .ok (.iconst 2, 1) := by decide +kernel
theorem d_TM_withoutName_20 : decode b_TM_withoutName 20 = .ok (.invokestatic 40, 3) := by decide +kernel
