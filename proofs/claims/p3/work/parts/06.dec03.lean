theorem d_TM_withoutName_23 : decode b_TM_withoutName 23 = .ok (.lreturn, 1) := by decide +kernel
theorem d_TM_unwrap_0 : decode b_TM_unwrap 0 = .ok (.lload_n 1, 1) := by decide +kernel
theorem d_TM_unwrap_1 : decode b_TM_unwrap 1 = .ok (.invokestatic 56, 3) := by decide +kernel
theorem d_TM_unwrap_4 : decode b_TM_unwrap 4 = .ok (.istore_n 3, 1) := by decide +kernel
theorem d_TM_unwrap_5 : decode b_TM_unwrap 5 = .ok (.aload_n 0, 1) := by decide +kernel
theorem d_TM_unwrap_6 : decode b_TM_unwrap 6 = .ok (.iload_n 3, 1) := by decide +kernel
theorem d_TM_unwrap_7 : decode b_TM_unwrap 7 = .ok (.invokevirtual 96, 3) := by decide +kernel
theorem d_TM_unwrap_10 : decode b_TM_unwrap 10 = .ok (.aload_n 0, 1) := by decide +kernel
theorem d_TM_unwrap_11 : decode b_TM_unwrap 11 = .ok (.getfield 13, 3) := by decide +kernel
theorem d_TM_unwrap_14 : decode b_TM_unwrap 14 = .ok (.iload_n 3, 1) := by decide +kernel
theorem d_TM_unwrap_15 : decode b_TM_unwrap 15 = .ok (.laload, 1) := by decide +kernel
theorem d_TM_unwrap_16 : decode b_TM_unwrap 16 = .ok (.lreturn, 1) := by decide +kernel
theorem d_TM_put_0 : decode b_TM_put 0 = .ok (.aload_n 0, 1) := by decide +kernel
theorem d_TM_put_1 : decode b_TM_put 1 = .ok (.getfield 9, 3) := by decide +kernel
theorem d_TM_put_4 : decode b_TM_put 4 = .ok (.iload_n 1, 1) := by decide +kernel
theorem d_TM_put_5 : decode b_TM_put 5 = .ok (.lload_n 2, 1) := by decide +kernel
theorem d_TM_put_6 : decode b_TM_put 6 = .ok (.lastore, 1) := by decide +kernel
theorem d_TM_put_7 : decode b_TM_put 7 = .ok (.aload_n 0, 1) := by decide +kernel
theorem d_TM_put_8 : decode b_TM_put 8 = .ok (.getfield 13, 3) := by decide +kernel
theorem d_TM_put_11 : decode b_TM_put 11 = .ok (.iload_n 1, 1) := by decide +kernel
theorem d_TM_put_12 : decode b_TM_put 12 = .ok (.lload 4, 2) := by decide +kernel
theorem d_TM_put_14 : decode b_TM_put 14 = .ok (.lastore, 1) := by decide +kernel
theorem d_TM_put_15 : decode b_TM_put 15 = .ok (.bipush 23, 2) := by decide +kernel
theorem d_TM_put_17 : decode b_TM_put 17 = .ok (.iload_n 1, 1) := by decide +kernel
theorem d_TM_put_18 : decode b_TM_put 18 = .ok (.invokestatic 44, 3) := by decide +kernel
theorem d_TM_put_21 : decode b_TM_put 21 = .ok (.lreturn, 1) := by decide +kernel
theorem d_TM_drop_0 : decode b_TM_drop 0 = .ok (.aload_n 0, 1) := by decide +kernel
theorem d_TM_drop_1 : decode b_TM_drop 1 = .ok (.getfield 20, 3) := by decide +kernel
theorem d_TM_drop_4 : decode b_TM_drop 4 = .ok (.sipush 1024, 3) := by decide +kernel
theorem d_TM_drop_7 : decode b_TM_drop 7 = .ok (.if_icmp .ge 23, 3) := by decide +kernel
theorem d_TM_drop_10 : decode b_TM_drop 10 = .ok (.aload_n 0, 1) := by decide +kernel
theorem d_TM_drop_11 : decode b_TM_drop 11 = .ok (.getfield 16, 3) := by decide +kernel
theorem d_TM_drop_14 : decode b_TM_drop 14 = .ok (.aload_n 0, 1) := by decide +kernel
theorem d_TM_drop_15 : decode b_TM_drop 15 = .ok (.getfield 20, 3) := by decide +kernel
theorem d_TM_drop_18 : decode b_TM_drop 18 = .ok (.iload_n 1, 1) := by decide +kernel
theorem d_TM_drop_19 : decode b_TM_drop 19 = .ok (.iastore, 1) := by decide +kernel
theorem d_TM_drop_20 : decode b_TM_drop 20 = .ok (.aload_n 0, 1) := by decide +kernel
theorem d_TM_drop_21 : decode b_TM_drop 21 = .ok (.dup, 1) := by decide +kernel
theorem d_TM_drop_22 : decode b_TM_drop 22 = .ok (.getfield 20, 3) := by decide +kernel
theorem d_TM_drop_25 : decode b_TM_drop 25 = .ok (.iconst 1, 1) := by decide +kernel
theorem d_TM_drop_26 : decode b_TM_drop 26 = .ok (.iadd, 1) := by decide +kernel
theorem d_TM_drop_27 : decode b_TM_drop 27 = .ok (.putfield 20, 3) := by decide +kernel
theorem d_TM_drop_30 : decode b_TM_drop 30 = .ok (.return_, 1) := by decide +kernel
theorem d_RD_init_0 : decode b_RD_init 0 = .ok (.aload_n 0, 1) := by decide +kernel
theorem d_RD_init_1 : decode b_RD_init 1 = .ok (.invokespecial 1, 3) := by decide +kernel
theorem d_RD_init_4 : decode b_RD_init 4 = .ok (.aload_n 0, 1) := by decide +kernel
theorem d_RD_init_5 : decode b_RD_init 5 = .ok (.aload_n 1, 1) := by decide +kernel
theorem d_RD_init_6 : decode b_RD_init 6 = .ok (.putfield 7, 3) := by decide +kernel
theorem d_RD_init_9 : decode b_RD_init 9 = .ok (.aload_n 0, 1) := by decide +kernel
theorem d_RD_init_10 : decode b_RD_init 10 = .ok (.aload_n 2, 1) := by decide +kernel
theorem d_RD_init_11 : decode b_RD_init 11 = .ok (.putfield 13, 3) := by decide +kernel
theorem d_RD_init_14 : decode b_RD_init 14 = .ok (.aload_n 0, 1) := by decide +kernel
theorem d_RD_init_15 : decode b_RD_init 15 = .ok (.bipush 8, 2) := by decide +kernel
theorem d_RD_init_17 : decode b_RD_init 17 = .ok (.newarray .int, 2) := by decide +kernel
theorem d_RD_init_19 : decode b_RD_init 19 = .ok (.putfield 17, 3) := by decide +kernel
theorem d_RD_init_22 : decode b_RD_init 22 = .ok (.aload_n 0, 1) := by decide +kernel
theorem d_RD_init_23 : decode b_RD_init 23 = .ok (.bipush 8, 2) := by decide +kernel
theorem d_RD_init_25 : decode b_RD_init 25 = .ok (.newarray .long, 2) := by decide +kernel
theorem d_RD_init_27 : decode b_RD_init 27 = .ok (.putfield 21, 3) := by decide +kernel
theorem d_RD_init_30 : decode b_RD_init 30 = .ok (.aload_n 0, 1) := by decide +kernel
theorem d_RD_init_31 : decode b_RD_init 31 = .ok (.bipush 14, 2) := by decide +kernel
theorem d_RD_init_33 : decode b_RD_init 33 = .ok (.newarray .int, 2) := by decide +kernel
theorem d_RD_init_35 : decode b_RD_init 35 = .ok (.putfield 25, 3) := by decide +kernel
theorem d_RD_init_38 : decode b_RD_init 38 = .ok (.aload_n 0, 1) := by decide +kernel
theorem d_RD_init_39 : decode b_RD_init 39 = .ok (.bipush 100, 2) := by decide +kernel
theorem d_RD_init_41 : decode b_RD_init 41 = .ok (.newarray .long, 2) := by decide +kernel
theorem d_RD_init_43 : decode b_RD_init 43 = .ok (.putfield 28, 3) := by decide +kernel
theorem d_RD_init_46 : decode b_RD_init 46 = .ok (.return_, 1) := by decide +kernel
theorem d_RD_definitions_0 : decode b_RD_definitions 0 = .ok (.aload_n 0, 1) := by decide +kernel
theorem d_RD_definitions_1 : decode b_RD_definitions 1 = .ok (.getfield 31, 3) := by decide +kernel
theorem d_RD_definitions_4 : decode b_RD_definitions 4 = .ok (.ireturn, 1) := by decide +kernel
theorem d_RD_definition_0 : decode b_RD_definition 0 = .ok (.aload_n 0, 1) := by decide +kernel
theorem d_RD_definition_1 : decode b_RD_definition 1 = .ok (.getfield 21, 3) := by decide +kernel
theorem d_RD_definition_4 : decode b_RD_definition 4 = .ok (.iload_n 1, 1) := by decide +kernel
theorem d_RD_definition_5 : decode b_RD_definition 5 = .ok (.laload, 1) := by decide +kernel
theorem d_RD_definition_6 : decode b_RD_definition 6 = .ok (.lreturn, 1) := by decide +kernel
theorem d_RD_mainTerm_0 : decode b_RD_mainTerm 0 = .ok (.aload_n 0, 1) := by decide +kernel
theorem d_RD_mainTerm_1 : decode b_RD_mainTerm 1 = .ok (.getfield 35, 3) := by decide +kernel
theorem d_RD_mainTerm_4 : decode b_RD_mainTerm 4 = .ok (.lreturn, 1) := by decide +kernel
theorem d_RD_cells_0 : decode b_RD_cells 0 = .ok (.aload_n 0, 1) := by decide +kernel
theorem d_RD_cells_1 : decode b_RD_cells 1 = .ok (.getfield 13, 3) := by decide +kernel
theorem d_RD_cells_4 : decode b_RD_cells 4 = .ok (.aload_n 0, 1) := by decide +kernel
theorem d_RD_cells_5 : decode b_RD_cells 5 = .ok (.getfield 35, 3) := by decide +kernel
theorem d_RD_cells_8 : decode b_RD_cells 8 = .ok (.invokevirtual 39, 3) := by decide +kernel
theorem d_RD_cells_11 : decode b_RD_cells 11 = .ok (.istore_n 1, 1) := by decide +kernel
theorem d_RD_cells_12 : decode b_RD_cells 12 = .ok (.iconst 0, 1) := by decide +kernel
theorem d_RD_cells_13 : decode b_RD_cells 13 = .ok (.istore_n 2, 1) := by decide +kernel
theorem d_RD_cells_14 : decode b_RD_cells 14 = .ok (.iload_n 2, 1) := by decide +kernel
theorem d_RD_cells_15 : decode b_RD_cells 15 = .ok (.aload_n 0, 1) := by decide +kernel
theorem d_RD_cells_16 : decode b_RD_cells 16 = .ok (.getfield 31, 3) := by decide +kernel
theorem d_RD_cells_19 : decode b_RD_cells 19 = .ok (.if_icmp .ge 25, 3) := by decide +kernel
theorem d_RD_cells_22 : decode b_RD_cells 22 = .ok (.iload_n 1, 1) := by decide +kernel
theorem d_RD_cells_23 : decode b_RD_cells 23 = .ok (.aload_n 0, 1) := by decide +kernel
theorem d_RD_cells_24 : decode b_RD_cells 24 = .ok (.getfield 13, 3) := by decide +kernel
theorem d_RD_cells_27 : decode b_RD_cells 27 = .ok (.aload_n 0, 1) := by decide +kernel
theorem d_RD_cells_28 : decode b_RD_cells 28 = .ok (.getfield 21, 3) := by decide +kernel
theorem d_RD_cells_31 : decode b_RD_cells 31 = .ok (.iload_n 2, 1) := by decide +kernel
theorem d_RD_cells_32 : decode b_RD_cells 32 = .ok (.laload, 1) := by decide +kernel
theorem d_RD_cells_33 : decode b_RD_cells 33 = .ok (.invokevirtual 39, 3) := by decide +kernel
theorem d_RD_cells_36 : decode b_RD_cells 36 = .ok (.iadd, 1) := by decide +kernel
theorem d_RD_cells_37 : decode b_RD_cells 37 = .ok (.istore_n 1, 1) := by decide +kernel
theorem d_RD_cells_38 : decode b_RD_cells 38 = .ok (.iinc 2 1, 3) := by decide +kernel
theorem d_RD_cells_41 : decode b_RD_cells 41 = .ok (.goto (-27), 3) := by decide +kernel
theorem d_RD_cells_44 : decode b_RD_cells 44 = .ok (.iload_n 1, 1) := by decide +kernel
theorem d_RD_cells_45 : decode b_RD_cells 45 = .ok (.ireturn, 1) := by decide +kernel
theorem d_RD_begin_0 : decode b_RD_begin 0 = .ok (.aload_n 0, 1) := by decide +kernel
theorem d_RD_begin_1 : decode b_RD_begin 1 = .ok (.getfield 13, 3) := by decide +kernel
theorem d_RD_begin_4 : decode b_RD_begin 4 = .ok (.invokevirtual 45, 3) := by decide +kernel
theorem d_RD_begin_7 : decode b_RD_begin 7 = .ok (.aload_n 0, 1) := by decide +kernel
theorem d_RD_begin_8 : decode b_RD_begin 8 = .ok (.iconst 0, 1) := by decide +kernel
theorem d_RD_begin_9 : decode b_RD_begin 9 = .ok (.putfield 48, 3) := by decide +kernel
theorem d_RD_begin_12 : decode b_RD_begin 12 = .ok (.aload_n 0, 1) := by decide +kernel
theorem d_RD_begin_13 : decode b_RD_begin 13 = .ok (.iconst 0, 1) := by decide +kernel
theorem d_RD_begin_14 : decode b_RD_begin 14 = .ok (.putfield 31, 3) := by decide +kernel
theorem d_RD_begin_17 : decode b_RD_begin 17 = .ok (.aload_n 0, 1) := by decide +kernel
theorem d_RD_begin_18 : decode b_RD_begin 18 = .ok (.iconst 0, 1) := by decide +kernel
theorem d_RD_begin_19 : decode b_RD_begin 19 = .ok (.putfield 51, 3) := by decide +kernel
theorem d_RD_begin_22 : decode b_RD_begin 22 = .ok (.aload_n 0, 1) := by decide +kernel
theorem d_RD_begin_23 : decode b_RD_begin 23 = .ok (.iconst 0, 1) := by decide +kernel
theorem d_RD_begin_24 : decode b_RD_begin 24 = .ok (.putfield 54, 3) := by decide +kernel
theorem d_RD_begin_27 : decode b_RD_begin 27 = .ok (.aload_n 0, 1) := by decide +kernel
theorem d_RD_begin_28 : decode b_RD_begin 28 = .ok (.invokevirtual 57, 3) := by decide +kernel
theorem d_RD_begin_31 : decode b_RD_begin 31 = .ok (.return_, 1) := by decide +kernel
theorem d_RD_isAtDefinition_0 : decode b_RD_isAtDefinition 0 = .ok (.aload_n 0, 1) := by decide +kernel
theorem d_RD_isAtDefinition_1 : decode b_RD_isAtDefinition 1 = .ok (.sipush 4262, 3) := by decide +kernel
theorem d_RD_isAtDefinition_4 : decode b_RD_isAtDefinition 4 = .ok (.invokevirtual 60, 3) := by decide +kernel
theorem d_RD_isAtDefinition_7 : decode b_RD_isAtDefinition 7 = .ok (.ireturn, 1) := by decide +kernel
theorem d_RD_readMain_0 : decode b_RD_readMain 0 = .ok (.aload_n 0, 1) := by decide +kernel
theorem d_RD_readMain_1 : decode b_RD_readMain 1 = .ok (.iconst 0, 1) := by decide +kernel
theorem d_RD_readMain_2 : decode b_RD_readMain 2 = .ok (.putfield 51, 3) := by decide +kernel
theorem d_RD_readMain_5 : decode b_RD_readMain 5 = .ok (.aload_n 0, 1) := by decide +kernel
theorem d_RD_readMain_6 : decode b_RD_readMain 6 = .ok (.aload_n 0, 1) := by decide +kernel
theorem d_RD_readMain_7 : decode b_RD_readMain 7 = .ok (.iconst 1, 1) := by decide +kernel
theorem d_RD_readMain_8 : decode b_RD_readMain 8 = .ok (.invokevirtual 64, 3) := by decide +kernel
theorem d_RD_readMain_11 : decode b_RD_readMain 11 = .ok (.putfield 35, 3) := by decide +kernel
theorem d_RD_readMain_14 : decode b_RD_readMain 14 = .ok (.aload_n 0, 1) := by decide +kernel
theorem d_RD_readMain_15 : decode b_RD_readMain 15 = .ok (.iconst 0, 1) := by decide +kernel
theorem d_RD_readMain_16 : decode b_RD_readMain 16 = .ok (.invokevirtual 70, 3) := by decide +kernel
theorem d_RD_readMain_19 : decode b_RD_readMain 19 = .ok (.return_, 1) := by decide +kernel
theorem d_RD_findNames_0 : decode b_RD_findNames 0 = .ok (.aload_n 0, 1) := by decide +kernel
theorem d_RD_findNames_1 : decode b_RD_findNames 1 = .ok (.iconst 0, 1) := by decide +kernel
theorem d_RD_findNames_2 : decode b_RD_findNames 2 = .ok (.putfield 74, 3) := by decide +kernel
theorem d_RD_findNames_5 : decode b_RD_findNames 5 = .ok (.iconst 0, 1) := by decide +kernel
theorem d_RD_findNames_6 : decode b_RD_findNames 6 = .ok (.istore_n 1, 1) := by decide +kernel
theorem d_RD_findNames_7 : decode b_RD_findNames 7 = .ok (.iload_n 1, 1) := by decide +kernel
theorem d_RD_findNames_8 : decode b_RD_findNames 8 = .ok (.aload_n 0, 1) := by decide +kernel
theorem d_RD_findNames_9 : decode b_RD_findNames 9 = .ok (.getfield 7, 3) := by decide +kernel
theorem d_RD_findNames_12 : decode b_RD_findNames 12 = .ok (.invokevirtual 77, 3) := by decide +kernel
theorem d_RD_findNames_15 : decode b_RD_findNames 15 = .ok (.if_icmp .ge 126, 3) := by decide +kernel
theorem d_RD_findNames_18 : decode b_RD_findNames 18 = .ok (.aload_n 0, 1) := by decide +kernel
theorem d_RD_findNames_19 : decode b_RD_findNames 19 = .ok (.getfield 74, 3) := by decide +kernel
theorem d_RD_findNames_22 : decode b_RD_findNames 22 = .ok (.bipush 8, 2) := by decide +kernel
theorem d_RD_findNames_24 : decode b_RD_findNames 24 = .ok (.if_icmp .ge 117, 3) := by decide +kernel
theorem d_RD_findNames_27 : decode b_RD_findNames 27 = .ok (.iload_n 1, 1) := by decide +kernel
theorem d_RD_findNames_28 : decode b_RD_findNames 28 = .ok (.ifCond .eq 18, 3) := by decide +kernel
theorem d_RD_findNames_31 : decode b_RD_findNames 31 = .ok (.aload_n 0, 1) := by decide +kernel
theorem d_RD_findNames_32 : decode b_RD_findNames 32 = .ok (.getfield 7, 3) := by decide +kernel
theorem d_RD_findNames_35 : decode b_RD_findNames 35 = .ok (.iload_n 1, 1) := by decide +kernel
theorem d_RD_findNames_36 : decode b_RD_findNames 36 = .ok (.iconst 1, 1) := by decide +kernel
theorem d_RD_findNames_37 : decode b_RD_findNames 37 = .ok (.isub, 1) := by decide +kernel
theorem d_RD_findNames_38 : decode b_RD_findNames 38 = .ok (.invokevirtual 81, 3) := by decide +kernel
theorem d_RD_findNames_41 : decode b_RD_findNames 41 = .ok (.bipush 59, 2) := by decide +kernel
theorem d_RD_findNames_43 : decode b_RD_findNames 43 = .ok (.if_icmp .ne 7, 3) := by decide +kernel
theorem d_RD_findNames_46 : decode b_RD_findNames 46 = .ok (.iconst 1, 1) := by decide +kernel
theorem d_RD_findNames_47 : decode b_RD_findNames 47 = .ok (.goto 4, 3) := by decide +kernel
theorem d_RD_findNames_50 : decode b_RD_findNames 50 = .ok (.iconst 0, 1) := by decide +kernel
theorem d_RD_findNames_51 : decode b_RD_findNames 51 = .ok (.istore_n 2, 1) := by decide +kernel
theorem d_RD_findNames_52 : decode b_RD_findNames 52 = .ok (.aload_n 0, 1) := by decide +kernel
theorem d_RD_findNames_53 : decode b_RD_findNames 53 = .ok (.getfield 7, 3) := by decide +kernel
theorem d_RD_findNames_56 : decode b_RD_findNames 56 = .ok (.iload_n 1, 1) := by decide +kernel
theorem d_RD_findNames_57 : decode b_RD_findNames 57 = .ok (.invokevirtual 81, 3) := by decide +kernel
theorem d_RD_findNames_60 : decode b_RD_findNames 60 = .ok (.iconst 1, 1) := by decide +kernel
theorem d_RD_findNames_61 : decode b_RD_findNames 61 = .ok (.if_icmp .ne 21, 3) := by decide +kernel
theorem d_RD_findNames_64 : decode b_RD_findNames 64 = .ok (.aload_n 0, 1) := by decide +kernel
theorem d_RD_findNames_65 : decode b_RD_findNames 65 = .ok (.getfield 7, 3) := by decide +kernel
theorem d_RD_findNames_68 : decode b_RD_findNames 68 = .ok (.iload_n 1, 1) := by decide +kernel
theorem d_RD_findNames_69 : decode b_RD_findNames 69 = .ok (.invokevirtual 85, 3) := by decide +kernel
theorem d_RD_findNames_72 : decode b_RD_findNames 72 = .ok (.sipush 4262, 3) := by decide +kernel
theorem d_RD_findNames_75 : decode b_RD_findNames 75 = .ok (.if_icmp .ne 7, 3) := by decide +kernel
theorem d_RD_findNames_78 : decode b_RD_findNames 78 = .ok (.iconst 1, 1) := by decide +kernel
theorem d_RD_findNames_79 : decode b_RD_findNames 79 = .ok (.goto 4, 3) := by decide +kernel
theorem d_RD_findNames_82 : decode b_RD_findNames 82 = .ok (.iconst 0, 1) := by decide +kernel
theorem d_RD_findNames_83 : decode b_RD_findNames 83 = .ok (.istore_n 3, 1) := by decide +kernel
theorem d_RD_findNames_84 : decode b_RD_findNames 84 = .ok (.iload_n 2, 1) := by decide +kernel
theorem d_RD_findNames_85 : decode b_RD_findNames 85 = .ok (.ifCond .eq 50, 3) := by decide +kernel
theorem d_RD_findNames_88 : decode b_RD_findNames 88 = .ok (.iload_n 3, 1) := by decide +kernel
theorem d_RD_findNames_89 : decode b_RD_findNames 89 = .ok (.ifCond .eq 46, 3) := by decide +kernel
theorem d_RD_findNames_92 : decode b_RD_findNames 92 = .ok (.aload_n 0, 1) := by decide +kernel
theorem d_RD_findNames_93 : decode b_RD_findNames 93 = .ok (.getfield 7, 3) := by decide +kernel
theorem d_RD_findNames_96 : decode b_RD_findNames 96 = .ok (.iload_n 1, 1) := by decide +kernel
theorem d_RD_findNames_97 : decode b_RD_findNames 97 = .ok (.iconst 1, 1) := by decide +kernel
theorem d_RD_findNames_98 : decode b_RD_findNames 98 = .ok (.iadd, 1) := by decide +kernel
theorem d_RD_findNames_99 : decode b_RD_findNames 99 = .ok (.invokevirtual 81, 3) := by decide +kernel
theorem d_RD_findNames_102 : decode b_RD_findNames 102 = .ok (.iconst 1, 1) := by decide +kernel
theorem d_RD_findNames_103 : decode b_RD_findNames 103 = .ok (.if_icmp .ne 32, 3) := by decide +kernel
theorem d_RD_findNames_106 : decode b_RD_findNames 106 = .ok (.aload_n 0, 1) := by decide +kernel
theorem d_RD_findNames_107 : decode b_RD_findNames 107 = .ok (.getfield 17, 3) := by decide +kernel
theorem d_RD_findNames_110 : decode b_RD_findNames 110 = .ok (.aload_n 0, 1) := by decide +kernel
theorem d_RD_findNames_111 : decode b_RD_findNames 111 = .ok (.getfield 74, 3) := by decide +kernel
theorem d_RD_findNames_114 : decode b_RD_findNames 114 = .ok (.aload_n 0, 1) := by decide +kernel
theorem d_RD_findNames_115 : decode b_RD_findNames 115 = .ok (.getfield 7, 3) := by decide +kernel
theorem d_RD_findNames_118 : decode b_RD_findNames 118 = .ok (.iload_n 1, 1) := by decide +kernel
theorem d_RD_findNames_119 : decode b_RD_findNames 119 = .ok (.iconst 1, 1) := by decide +kernel
theorem d_RD_findNames_120 : decode b_RD_findNames 120 = .ok (.iadd, 1) := by decide +kernel
theorem d_RD_findNames_121 : decode b_RD_findNames 121 = .ok (.invokevirtual 85, 3) := by decide +kernel
theorem d_RD_findNames_124 : decode b_RD_findNames 124 = .ok (.iastore, 1) := by decide +kernel
theorem d_RD_findNames_125 : decode b_RD_findNames 125 = .ok (.aload_n 0, 1) := by decide +kernel
theorem d_RD_findNames_126 : decode b_RD_findNames 126 = .ok (.dup, 1) := by decide +kernel
theorem d_RD_findNames_127 : decode b_RD_findNames 127 = .ok (.getfield 74, 3) := by decide +kernel
theorem d_RD_findNames_130 : decode b_RD_findNames 130 = .ok (.iconst 1, 1) := by decide +kernel
theorem d_RD_findNames_131 : decode b_RD_findNames 131 = .ok (.iadd, 1) := by decide +kernel
theorem d_RD_findNames_132 : decode b_RD_findNames 132 = .ok (.putfield 74, 3) := by decide +kernel
theorem d_RD_findNames_135 : decode b_RD_findNames 135 = .ok (.iinc 1 1, 3) := by decide +kernel
theorem d_RD_findNames_138 : decode b_RD_findNames 138 = .ok (.goto (-131), 3) := by decide +kernel
theorem d_RD_findNames_141 : decode b_RD_findNames 141 = .ok (.return_, 1) := by decide +kernel
theorem d_RD_readDefinition_0 : decode b_RD_readDefinition 0 = .ok (.aload_n 0, 1) := by decide +kernel
theorem d_RD_readDefinition_1 : decode b_RD_readDefinition 1 = .ok (.dup, 1) := by decide +kernel
theorem d_RD_readDefinition_2 : decode b_RD_readDefinition 2 = .ok (.getfield 48, 3) := by decide +kernel
theorem d_RD_readDefinition_5 : decode b_RD_readDefinition 5 = .ok (.iconst 1, 1) := by decide +kernel
theorem d_RD_readDefinition_6 : decode b_RD_readDefinition 6 = .ok (.iadd, 1) := by decide +kernel
theorem d_RD_readDefinition_7 : decode b_RD_readDefinition 7 = .ok (.putfield 48, 3) := by decide +kernel
theorem d_RD_readDefinition_10 : decode b_RD_readDefinition 10 = .ok (.aload_n 0, 1) := by decide +kernel
theorem d_RD_readDefinition_11 : decode b_RD_readDefinition 11 = .ok (.iconst 1, 1) := by decide +kernel
theorem d_RD_readDefinition_12 : decode b_RD_readDefinition 12 = .ok (.invokevirtual 70, 3) := by decide +kernel
theorem d_RD_readDefinition_15 : decode b_RD_readDefinition 15 = .ok (.aload_n 0, 1) := by decide +kernel
theorem d_RD_readDefinition_16 : decode b_RD_readDefinition 16 = .ok (.iconst 0, 1) := by decide +kernel
theorem d_RD_readDefinition_17 : decode b_RD_readDefinition 17 = .ok (.putfield 51, 3) := by decide +kernel
theorem d_RD_readDefinition_20 : decode b_RD_readDefinition 20 = .ok (.iconst 0, 1) := by decide +kernel
theorem d_RD_readDefinition_21 : decode b_RD_readDefinition 21 = .ok (.istore_n 1, 1) := by decide +kernel
theorem d_RD_readDefinition_22 : decode b_RD_readDefinition 22 = .ok (.iload_n 1, 1) := by decide +kernel
theorem d_RD_readDefinition_23 : decode b_RD_readDefinition 23 = .ok (.bipush 6, 2) := by decide +kernel
theorem d_RD_readDefinition_25 : decode b_RD_readDefinition 25 = .ok (.if_icmp .gt 28, 3) := by decide +kernel
theorem d_RD_readDefinition_28 : decode b_RD_readDefinition 28 = .ok (.aload_n 0, 1) := by decide +kernel
theorem d_RD_readDefinition_29 : decode b_RD_readDefinition 29 = .ok (.getfield 7, 3) := by decide +kernel
theorem d_RD_readDefinition_32 : decode b_RD_readDefinition 32 = .ok (.aload_n 0, 1) := by decide +kernel
theorem d_RD_readDefinition_33 : decode b_RD_readDefinition 33 = .ok (.getfield 48, 3) := by decide +kernel
theorem d_RD_readDefinition_36 : decode b_RD_readDefinition 36 = .ok (.invokevirtual 81, 3) := by decide +kernel
theorem d_RD_readDefinition_39 : decode b_RD_readDefinition 39 = .ok (.iconst 1, 1) := by decide +kernel
theorem d_RD_readDefinition_40 : decode b_RD_readDefinition 40 = .ok (.if_icmp .ne 13, 3) := by decide +kernel
theorem d_RD_readDefinition_43 : decode b_RD_readDefinition 43 = .ok (.aload_n 0, 1) := by decide +kernel
theorem d_RD_readDefinition_44 : decode b_RD_readDefinition 44 = .ok (.invokevirtual 88, 3) := by decide +kernel
theorem d_RD_readDefinition_47 : decode b_RD_readDefinition 47 = .ok (.iinc 1 1, 3) := by decide +kernel
theorem d_RD_readDefinition_50 : decode b_RD_readDefinition 50 = .ok (.goto (-28), 3) := by decide +kernel
theorem d_RD_readDefinition_53 : decode b_RD_readDefinition 53 = .ok (.aload_n 0, 1) := by decide +kernel
theorem d_RD_readDefinition_54 : decode b_RD_readDefinition 54 = .ok (.getfield 51, 3) := by decide +kernel
theorem d_RD_readDefinition_57 : decode b_RD_readDefinition 57 = .ok (.istore_n 1, 1) := by decide +kernel
theorem d_RD_readDefinition_58 : decode b_RD_readDefinition 58 = .ok (.aload_n 0, 1) := by decide +kernel
theorem d_RD_readDefinition_59 : decode b_RD_readDefinition 59 = .ok (.bipush 61, 2) := by decide +kernel
theorem d_RD_readDefinition_61 : decode b_RD_readDefinition 61 = .ok (.invokevirtual 70, 3) := by decide +kernel
theorem d_RD_readDefinition_64 : decode b_RD_readDefinition 64 = .ok (.aload_n 0, 1) := by decide +kernel
theorem d_RD_readDefinition_65 : decode b_RD_readDefinition 65 = .ok (.getfield 31, 3) := by decide +kernel
theorem d_RD_readDefinition_68 : decode b_RD_readDefinition 68 = .ok (.bipush 8, 2) := by decide +kernel
theorem d_RD_readDefinition_70 : decode b_RD_readDefinition 70 = .ok (.if_icmp .lt 13, 3) := by decide +kernel
theorem d_RD_readDefinition_73 : decode b_RD_readDefinition 73 = .ok (.new 91, 3) := by decide +kernel
theorem d_RD_readDefinition_76 : decode b_RD_readDefinition 76 = .ok (.dup, 1) := by decide +kernel
theorem d_RD_readDefinition_77 : decode b_RD_readDefinition 77 = .ok (.ldc 93, 2) := by decide +kernel
theorem d_RD_readDefinition_79 : decode b_RD_readDefinition 79 = .ok (.invokespecial 95, 3) := by decide +kernel
theorem d_RD_readDefinition_82 : decode b_RD_readDefinition 82 = .ok (.athrow, 1) := by decide +kernel
theorem d_RD_readDefinition_83 : decode b_RD_readDefinition 83 = .ok (.aload_n 0, 1) := by decide +kernel
theorem d_RD_readDefinition_84 : decode b_RD_readDefinition 84 = .ok (.iconst 1, 1) := by decide +kernel
theorem d_RD_readDefinition_85 : decode b_RD_readDefinition 85 = .ok (.invokevirtual 64, 3) := by decide +kernel
theorem d_RD_readDefinition_88 : decode b_RD_readDefinition 88 = .ok (.lstore_n 2, 1) := by decide +kernel
theorem d_RD_readDefinition_89 : decode b_RD_readDefinition 89 = .ok (.aload_n 0, 1) := by decide +kernel
theorem d_RD_readDefinition_90 : decode b_RD_readDefinition 90 = .ok (.bipush 59, 2) := by decide +kernel
theorem d_RD_readDefinition_92 : decode b_RD_readDefinition 92 = .ok (.invokevirtual 70, 3) := by decide +kernel
theorem d_RD_readDefinition_95 : decode b_RD_readDefinition 95 = .ok (.iload_n 1, 1) := by decide +kernel
theorem d_RD_readDefinition_96 : decode b_RD_readDefinition 96 = .ok (.iconst 1, 1) := by decide +kernel
theorem d_RD_readDefinition_97 : decode b_RD_readDefinition 97 = .ok (.isub, 1) := by decide +kernel
theorem d_RD_readDefinition_98 : decode b_RD_readDefinition 98 = .ok (.istore 4, 2) := by decide +kernel
theorem d_RD_readDefinition_100 : decode b_RD_readDefinition 100 = .ok (.iload 4, 2) := by decide +kernel
theorem d_RD_readDefinition_102 : decode b_RD_readDefinition 102 = .ok (.ifCond .lt 25, 3) := by decide +kernel
theorem d_RD_readDefinition_105 : decode b_RD_readDefinition 105 = .ok (.aload_n 0, 1) := by decide +kernel
theorem d_RD_readDefinition_106 : decode b_RD_readDefinition 106 = .ok (.getfield 13, 3) := by decide +kernel
theorem d_RD_readDefinition_109 : decode b_RD_readDefinition 109 = .ok (.aload_n 0, 1) := by decide +kernel
theorem d_RD_readDefinition_110 : decode b_RD_readDefinition 110 = .ok (.getfield 25, 3) := by decide +kernel
theorem d_RD_readDefinition_113 : decode b_RD_readDefinition 113 = .ok (.iload 4, 2) := by decide +kernel
theorem d_RD_readDefinition_115 : decode b_RD_readDefinition 115 = .ok (.iaload, 1) := by decide +kernel
theorem d_RD_readDefinition_116 : decode b_RD_readDefinition 116 = .ok (.lload_n 2, 1) := by decide +kernel
theorem d_RD_readDefinition_117 : decode b_RD_readDefinition 117 = .ok (.invokevirtual 98, 3) := by decide +kernel
theorem d_RD_readDefinition_120 : decode b_RD_readDefinition 120 = .ok (.lstore_n 2, 1) := by decide +kernel
theorem d_RD_readDefinition_121 : decode b_RD_readDefinition 121 = .ok (.iinc 4 (-1), 3) := by decide +kernel
theorem d_RD_readDefinition_124 : decode b_RD_readDefinition 124 = .ok (.goto (-24), 3) := by decide +kernel
theorem d_RD_readDefinition_127 : decode b_RD_readDefinition 127 = .ok (.aload_n 0, 1) := by decide +kernel
theorem d_RD_readDefinition_128 : decode b_RD_readDefinition 128 = .ok (.getfield 21, 3) := by decide +kernel
theorem d_RD_readDefinition_131 : decode b_RD_readDefinition 131 = .ok (.aload_n 0, 1) := by decide +kernel
theorem d_RD_readDefinition_132 : decode b_RD_readDefinition 132 = .ok (.getfield 31, 3) := by decide +kernel
theorem d_RD_readDefinition_135 : decode b_RD_readDefinition 135 = .ok (.lload_n 2, 1) := by decide +kernel
theorem d_RD_readDefinition_136 : decode b_RD_readDefinition 136 = .ok (.lastore, 1) := by decide +kernel
theorem d_RD_readDefinition_137 : decode b_RD_readDefinition 137 = .ok (.aload_n 0, 1) := by decide +kernel
theorem d_RD_readDefinition_138 : decode b_RD_readDefinition 138 = .ok (.dup, 1) := by decide +kernel
theorem d_RD_readDefinition_139 : decode b_RD_readDefinition 139 = .ok (.getfield 31, 3) := by decide +kernel
theorem d_RD_readDefinition_142 : decode b_RD_readDefinition 142 = .ok (.iconst 1, 1) := by decide +kernel
theorem d_RD_readDefinition_143 : decode b_RD_readDefinition 143 = .ok (.iadd, 1) := by decide +kernel
theorem d_RD_readDefinition_144 : decode b_RD_readDefinition 144 = .ok (.putfield 31, 3) := by decide +kernel
theorem d_RD_readDefinition_147 : decode b_RD_readDefinition 147 = .ok (.return_, 1) := by decide +kernel
theorem d_RD_readParameter_0 : decode b_RD_readParameter 0 = .ok (.aload_n 0, 1) := by decide +kernel
theorem d_RD_readParameter_1 : decode b_RD_readParameter 1 = .ok (.getfield 7, 3) := by decide +kernel
theorem d_RD_readParameter_4 : decode b_RD_readParameter 4 = .ok (.aload_n 0, 1) := by decide +kernel
theorem d_RD_readParameter_5 : decode b_RD_readParameter 5 = .ok (.getfield 48, 3) := by decide +kernel
theorem d_RD_readParameter_8 : decode b_RD_readParameter 8 = .ok (.invokevirtual 85, 3) := by decide +kernel
theorem d_RD_readParameter_11 : decode b_RD_readParameter 11 = .ok (.istore_n 1, 1) := by decide +kernel
theorem d_RD_readParameter_12 : decode b_RD_readParameter 12 = .ok (.aload_n 0, 1) := by decide +kernel
theorem d_RD_readParameter_13 : decode b_RD_readParameter 13 = .ok (.getfield 51, 3) := by decide +kernel
theorem d_RD_readParameter_16 : decode b_RD_readParameter 16 = .ok (.bipush 6, 2) := by decide +kernel
theorem d_RD_readParameter_18 : decode b_RD_readParameter 18 = .ok (.if_icmp .ge 11, 3) := by decide +kernel
theorem d_RD_readParameter_21 : decode b_RD_readParameter 21 = .ok (.aload_n 0, 1) := by decide +kernel
theorem d_RD_readParameter_22 : decode b_RD_readParameter 22 = .ok (.iload_n 1, 1) := by decide +kernel
theorem d_RD_readParameter_23 : decode b_RD_readParameter 23 = .ok (.invokevirtual 102, 3) := by decide +kernel
theorem d_RD_readParameter_26 : decode b_RD_readParameter 26 = .ok (.ifCond .eq 13, 3) := by decide +kernel
theorem d_RD_readParameter_29 : decode b_RD_readParameter 29 = .ok (.new 105, 3) := by decide +kernel
theorem d_RD_readParameter_32 : decode b_RD_readParameter 32 = .ok (.dup, 1) := by decide +kernel
theorem d_RD_readParameter_33 : decode b_RD_readParameter 33 = .ok (.ldc 107, 2) := by decide +kernel
theorem d_RD_readParameter_35 : decode b_RD_readParameter 35 = .ok (.invokespecial 109, 3) := by decide +kernel
theorem d_RD_readParameter_38 : decode b_RD_readParameter 38 = .ok (.athrow, 1) := by decide +kernel
theorem d_RD_readParameter_39 : decode b_RD_readParameter 39 = .ok (.aload_n 0, 1) := by decide +kernel
theorem d_RD_readParameter_40 : decode b_RD_readParameter 40 = .ok (.getfield 25, 3) := by decide +kernel
theorem d_RD_readParameter_43 : decode b_RD_readParameter 43 = .ok (.aload_n 0, 1) := by decide +kernel
theorem d_RD_readParameter_44 : decode b_RD_readParameter 44 = .ok (.getfield 51, 3) := by decide +kernel
theorem d_RD_readParameter_47 : decode b_RD_readParameter 47 = .ok (.iload_n 1, 1) := by decide +kernel
theorem d_RD_readParameter_48 : decode b_RD_readParameter 48 = .ok (.iastore, 1) := by decide +kernel
theorem d_RD_readParameter_49 : decode b_RD_readParameter 49 = .ok (.aload_n 0, 1) := by decide +kernel
theorem d_RD_readParameter_50 : decode b_RD_readParameter 50 = .ok (.dup, 1) := by decide +kernel
theorem d_RD_readParameter_51 : decode b_RD_readParameter 51 = .ok (.getfield 51, 3) := by decide +kernel
theorem d_RD_readParameter_54 : decode b_RD_readParameter 54 = .ok (.iconst 1, 1) := by decide +kernel
theorem d_RD_readParameter_55 : decode b_RD_readParameter 55 = .ok (.iadd, 1) := by decide +kernel
theorem d_RD_readParameter_56 : decode b_RD_readParameter 56 = .ok (.putfield 51, 3) := by decide +kernel
theorem d_RD_readParameter_59 : decode b_RD_readParameter 59 = .ok (.aload_n 0, 1) := by decide +kernel
theorem d_RD_readParameter_60 : decode b_RD_readParameter 60 = .ok (.dup, 1) := by decide +kernel
theorem d_RD_readParameter_61 : decode b_RD_readParameter 61 = .ok (.getfield 48, 3) := by decide +kernel
theorem d_RD_readParameter_64 : decode b_RD_readParameter 64 = .ok (.iconst 1, 1) := by decide +kernel
theorem d_RD_readParameter_65 : decode b_RD_readParameter 65 = .ok (.iadd, 1) := by decide +kernel
theorem d_RD_readParameter_66 : decode b_RD_readParameter 66 = .ok (.putfield 48, 3) := by decide +kernel
theorem d_RD_readParameter_69 : decode b_RD_readParameter 69 = .ok (.return_, 1) := by decide +kernel
theorem d_RD_expression_0 : decode b_RD_expression 0 = .ok (.iload_n 1, 1) := by decide +kernel
theorem d_RD_expression_1 : decode b_RD_expression 1 = .ok (.bipush 8, 2) := by decide +kernel
theorem d_RD_expression_3 : decode b_RD_expression 3 = .ok (.if_icmp .le 13, 3) := by decide +kernel
theorem d_RD_expression_6 : decode b_RD_expression 6 = .ok (.new 91, 3) := by decide +kernel
theorem d_RD_expression_9 : decode b_RD_expression 9 = .ok (.dup, 1) := by decide +kernel
theorem d_RD_expression_10 : decode b_RD_expression 10 = .ok (.ldc 110, 2) := by decide +kernel
theorem d_RD_expression_12 : decode b_RD_expression 12 = .ok (.invokespecial 95, 3) := by decide +kernel
theorem d_RD_expression_15 : decode b_RD_expression 15 = .ok (.athrow, 1) := by decide +kernel
theorem d_RD_expression_16 : decode b_RD_expression 16 = .ok (.aload_n 0, 1) := by decide +kernel
theorem d_RD_expression_17 : decode b_RD_expression 17 = .ok (.sipush 294, 3) := by decide +kernel
theorem d_RD_expression_20 : decode b_RD_expression 20 = .ok (.invokevirtual 60, 3) := by decide +kernel
theorem d_RD_expression_23 : decode b_RD_expression 23 = .ok (.ifCond .eq 9, 3) := by decide +kernel
theorem d_RD_expression_26 : decode b_RD_expression 26 = .ok (.aload_n 0, 1) := by decide +kernel
theorem d_RD_expression_27 : decode b_RD_expression 27 = .ok (.iload_n 1, 1) := by decide +kernel
theorem d_RD_expression_28 : decode b_RD_expression 28 = .ok (.invokevirtual 112, 3) := by decide +kernel
theorem d_RD_expression_31 : decode b_RD_expression 31 = .ok (.lreturn, 1) := by decide +kernel
theorem d_RD_expression_32 : decode b_RD_expression 32 = .ok (.aload_n 0, 1) := by decide +kernel
theorem d_RD_expression_33 : decode b_RD_expression 33 = .ok (.getfield 7, 3) := by decide +kernel
theorem d_RD_expression_36 : decode b_RD_expression 36 = .ok (.aload_n 0, 1) := by decide +kernel
theorem d_RD_expression_37 : decode b_RD_expression 37 = .ok (.getfield 48, 3) := by decide +kernel
theorem d_RD_expression_40 : decode b_RD_expression 40 = .ok (.invokevirtual 81, 3) := by decide +kernel
theorem d_RD_expression_43 : decode b_RD_expression 43 = .ok (.bipush 92, 2) := by decide +kernel
theorem d_RD_expression_45 : decode b_RD_expression 45 = .ok (.if_icmp .ne 9, 3) := by decide +kernel
theorem d_RD_expression_48 : decode b_RD_expression 48 = .ok (.aload_n 0, 1) := by decide +kernel
theorem d_RD_expression_49 : decode b_RD_expression 49 = .ok (.iload_n 1, 1) := by decide +kernel
theorem d_RD_expression_50 : decode b_RD_expression 50 = .ok (.invokevirtual 115, 3) := by decide +kernel
theorem d_RD_expression_53 : decode b_RD_expression 53 = .ok (.lreturn, 1) := by decide +kernel
theorem d_RD_expression_54 : decode b_RD_expression 54 = .ok (.aload_n 0, 1) := by decide +kernel
theorem d_RD_expression_55 : decode b_RD_expression 55 = .ok (.iload_n 1, 1) := by decide +kernel
theorem d_RD_expression_56 : decode b_RD_expression 56 = .ok (.invokevirtual 118, 3) := by decide +kernel
theorem d_RD_expression_59 : decode b_RD_expression 59 = .ok (.lreturn, 1) := by decide +kernel
theorem d_RD_choice_0 : decode b_RD_choice 0 = .ok (.aload_n 0, 1) := by decide +kernel
theorem d_RD_choice_1 : decode b_RD_choice 1 = .ok (.dup, 1) := by decide +kernel
theorem d_RD_choice_2 : decode b_RD_choice 2 = .ok (.getfield 48, 3) := by decide +kernel
theorem d_RD_choice_5 : decode b_RD_choice 5 = .ok (.iconst 1, 1) := by decide +kernel
theorem d_RD_choice_6 : decode b_RD_choice 6 = .ok (.iadd, 1) := by decide +kernel
theorem d_RD_choice_7 : decode b_RD_choice 7 = .ok (.putfield 48, 3) := by decide +kernel
theorem d_RD_choice_10 : decode b_RD_choice 10 = .ok (.aload_n 0, 1) := by decide +kernel
theorem d_RD_choice_11 : decode b_RD_choice 11 = .ok (.iload_n 1, 1) := by decide +kernel
theorem d_RD_choice_12 : decode b_RD_choice 12 = .ok (.iconst 1, 1) := by decide +kernel
theorem d_RD_choice_13 : decode b_RD_choice 13 = .ok (.iadd, 1) := by decide +kernel
theorem d_RD_choice_14 : decode b_RD_choice 14 = .ok (.invokevirtual 64, 3) := by decide +kernel
theorem d_RD_choice_17 : decode b_RD_choice 17 = .ok (.lstore_n 2, 1) := by decide +kernel
theorem d_RD_choice_18 : decode b_RD_choice 18 = .ok (.aload_n 0, 1) := by decide +kernel
theorem d_RD_choice_19 : decode b_RD_choice 19 = .ok (.ldc 121, 2) := by decide +kernel
theorem d_RD_choice_21 : decode b_RD_choice 21 = .ok (.invokevirtual 122, 3) := by decide +kernel
theorem d_RD_choice_24 : decode b_RD_choice 24 = .ok (.aload_n 0, 1) := by decide +kernel
theorem d_RD_choice_25 : decode b_RD_choice 25 = .ok (.iload_n 1, 1) := by decide +kernel
theorem d_RD_choice_26 : decode b_RD_choice 26 = .ok (.iconst 1, 1) := by decide +kernel
theorem d_RD_choice_27 : decode b_RD_choice 27 = .ok (.iadd, 1) := by decide +kernel
theorem d_RD_choice_28 : decode b_RD_choice 28 = .ok (.invokevirtual 64, 3) := by decide +kernel
theorem d_RD_choice_31 : decode b_RD_choice 31 = .ok (.lstore 4, 2) := by decide +kernel
theorem d_RD_choice_33 : decode b_RD_choice 33 = .ok (.aload_n 0, 1) := by decide +kernel
theorem d_RD_choice_34 : decode b_RD_choice 34 = .ok (.ldc 125, 2) := by decide +kernel
theorem d_RD_choice_36 : decode b_RD_choice 36 = .ok (.invokevirtual 122, 3) := by decide +kernel
theorem d_RD_choice_39 : decode b_RD_choice 39 = .ok (.aload_n 0, 1) := by decide +kernel
theorem d_RD_choice_40 : decode b_RD_choice 40 = .ok (.iload_n 1, 1) := by decide +kernel
theorem d_RD_choice_41 : decode b_RD_choice 41 = .ok (.iconst 1, 1) := by decide +kernel
theorem d_RD_choice_42 : decode b_RD_choice 42 = .ok (.iadd, 1) := by decide +kernel
theorem d_RD_choice_43 : decode b_RD_choice 43 = .ok (.invokevirtual 64, 3) := by decide +kernel
theorem d_RD_choice_46 : decode b_RD_choice 46 = .ok (.lstore 6, 2) := by decide +kernel
theorem d_RD_choice_48 : decode b_RD_choice 48 = .ok (.aload_n 0, 1) := by decide +kernel
theorem d_RD_choice_49 : decode b_RD_choice 49 = .ok (.getfield 13, 3) := by decide +kernel
theorem d_RD_choice_52 : decode b_RD_choice 52 = .ok (.aload_n 0, 1) := by decide +kernel
theorem d_RD_choice_53 : decode b_RD_choice 53 = .ok (.getfield 13, 3) := by decide +kernel
theorem d_RD_choice_56 : decode b_RD_choice 56 = .ok (.bipush 10, 2) := by decide +kernel
theorem d_RD_choice_58 : decode b_RD_choice 58 = .ok (.lload_n 2, 1) := by decide +kernel
