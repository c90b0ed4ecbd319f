theorem d_HP_make_9 : decode b_HP_make 9 = .ok (.invokestatic 49, 3) := by decide +kernel
theorem d_HP_make_12 : decode b_HP_make 12 = .ok (.lreturn, 1) := by decide +kernel
theorem d_HP_make_13 : decode b_HP_make 13 = .ok (.aload_n 0, 1) := by decide +kernel
theorem d_HP_make_14 : decode b_HP_make 14 = .ok (.dup, 1) := by decide +kernel
theorem d_HP_make_15 : decode b_HP_make 15 = .ok (.getfield 41, 3) := by decide +kernel
theorem d_HP_make_18 : decode b_HP_make 18 = .ok (.iconst 1, 1) := by decide +kernel
theorem d_HP_make_19 : decode b_HP_make 19 = .ok (.isub, 1) := by decide +kernel
theorem d_HP_make_20 : decode b_HP_make 20 = .ok (.putfield 41, 3) := by decide +kernel
theorem d_HP_make_23 : decode b_HP_make 23 = .ok (.aload_n 0, 1) := by decide +kernel
theorem d_HP_make_24 : decode b_HP_make 24 = .ok (.getfield 20, 3) := by decide +kernel
theorem d_HP_make_27 : decode b_HP_make 27 = .ok (.aload_n 0, 1) := by decide +kernel
theorem d_HP_make_28 : decode b_HP_make 28 = .ok (.getfield 41, 3) := by decide +kernel
theorem d_HP_make_31 : decode b_HP_make 31 = .ok (.iaload, 1) := by decide +kernel
theorem d_HP_make_32 : decode b_HP_make 32 = .ok (.istore 5, 2) := by decide +kernel
theorem d_HP_make_34 : decode b_HP_make 34 = .ok (.aload_n 0, 1) := by decide +kernel
theorem d_HP_make_35 : decode b_HP_make 35 = .ok (.iload 5, 2) := by decide +kernel
theorem d_HP_make_37 : decode b_HP_make 37 = .ok (.lload_n 1, 1) := by decide +kernel
theorem d_HP_make_38 : decode b_HP_make 38 = .ok (.lload_n 3, 1) := by decide +kernel
theorem d_HP_make_39 : decode b_HP_make 39 = .ok (.invokevirtual 84, 3) := by decide +kernel
theorem d_HP_make_42 : decode b_HP_make 42 = .ok (.bipush 23, 2) := by decide +kernel
theorem d_HP_make_44 : decode b_HP_make 44 = .ok (.iload 5, 2) := by decide +kernel
theorem d_HP_make_46 : decode b_HP_make 46 = .ok (.invokestatic 92, 3) := by decide +kernel
theorem d_HP_make_49 : decode b_HP_make 49 = .ok (.lreturn, 1) := by decide +kernel
theorem d_HP_set_0 : decode b_HP_set 0 = .ok (.aload_n 0, 1) := by decide +kernel
theorem d_HP_set_1 : decode b_HP_set 1 = .ok (.getfield 13, 3) := by decide +kernel
theorem d_HP_set_4 : decode b_HP_set 4 = .ok (.iload_n 1, 1) := by decide +kernel
theorem d_HP_set_5 : decode b_HP_set 5 = .ok (.lload_n 2, 1) := by decide +kernel
theorem d_HP_set_6 : decode b_HP_set 6 = .ok (.lastore, 1) := by decide +kernel
theorem d_HP_set_7 : decode b_HP_set 7 = .ok (.aload_n 0, 1) := by decide +kernel
theorem d_HP_set_8 : decode b_HP_set 8 = .ok (.getfield 17, 3) := by decide +kernel
theorem d_HP_set_11 : decode b_HP_set 11 = .ok (.iload_n 1, 1) := by decide +kernel
theorem d_HP_set_12 : decode b_HP_set 12 = .ok (.lload 4, 2) := by decide +kernel
theorem d_HP_set_14 : decode b_HP_set 14 = .ok (.lastore, 1) := by decide +kernel
theorem d_HP_set_15 : decode b_HP_set 15 = .ok (.return_, 1) := by decide +kernel
theorem d_HP_unmark_0 : decode b_HP_unmark 0 = .ok (.aload_n 0, 1) := by decide +kernel
theorem d_HP_unmark_1 : decode b_HP_unmark 1 = .ok (.dup, 1) := by decide +kernel
theorem d_HP_unmark_2 : decode b_HP_unmark 2 = .ok (.getfield 27, 3) := by decide +kernel
theorem d_HP_unmark_5 : decode b_HP_unmark 5 = .ok (.iconst 1, 1) := by decide +kernel
theorem d_HP_unmark_6 : decode b_HP_unmark 6 = .ok (.iadd, 1) := by decide +kernel
theorem d_HP_unmark_7 : decode b_HP_unmark 7 = .ok (.putfield 27, 3) := by decide +kernel
theorem d_HP_unmark_10 : decode b_HP_unmark 10 = .ok (.aload_n 0, 1) := by decide +kernel
theorem d_HP_unmark_11 : decode b_HP_unmark 11 = .ok (.iconst 0, 1) := by decide +kernel
theorem d_HP_unmark_12 : decode b_HP_unmark 12 = .ok (.putfield 96, 3) := by decide +kernel
theorem d_HP_unmark_15 : decode b_HP_unmark 15 = .ok (.return_, 1) := by decide +kernel
theorem d_HP_marks_0 : decode b_HP_marks 0 = .ok (.aload_n 0, 1) := by decide +kernel
theorem d_HP_marks_1 : decode b_HP_marks 1 = .ok (.getfield 96, 3) := by decide +kernel
theorem d_HP_marks_4 : decode b_HP_marks 4 = .ok (.ireturn, 1) := by decide +kernel
theorem d_HP_markDefinitions_0 : decode b_HP_markDefinitions 0 = .ok (.iconst 0, 1) := by decide +kernel
theorem d_HP_markDefinitions_1 : decode b_HP_markDefinitions 1 = .ok (.istore_n 1, 1) := by decide +kernel
theorem d_HP_markDefinitions_2 : decode b_HP_markDefinitions 2 = .ok (.iload_n 1, 1) := by decide +kernel
theorem d_HP_markDefinitions_3 : decode b_HP_markDefinitions 3 = .ok (.aload_n 0, 1) := by decide +kernel
theorem d_HP_markDefinitions_4 : decode b_HP_markDefinitions 4 = .ok (.getfield 44, 3) := by decide +kernel
theorem d_HP_markDefinitions_7 : decode b_HP_markDefinitions 7 = .ok (.if_icmp .ge 19, 3) := by decide +kernel
theorem d_HP_markDefinitions_10 : decode b_HP_markDefinitions 10 = .ok (.aload_n 0, 1) := by decide +kernel
theorem d_HP_markDefinitions_11 : decode b_HP_markDefinitions 11 = .ok (.aload_n 0, 1) := by decide +kernel
theorem d_HP_markDefinitions_12 : decode b_HP_markDefinitions 12 = .ok (.getfield 33, 3) := by decide +kernel
theorem d_HP_markDefinitions_15 : decode b_HP_markDefinitions 15 = .ok (.iload_n 1, 1) := by decide +kernel
theorem d_HP_markDefinitions_16 : decode b_HP_markDefinitions 16 = .ok (.laload, 1) := by decide +kernel
theorem d_HP_markDefinitions_17 : decode b_HP_markDefinitions 17 = .ok (.invokevirtual 99, 3) := by decide +kernel
theorem d_HP_markDefinitions_20 : decode b_HP_markDefinitions 20 = .ok (.iinc 1 1, 3) := by decide +kernel
theorem d_HP_markDefinitions_23 : decode b_HP_markDefinitions 23 = .ok (.goto (-21), 3) := by decide +kernel
theorem d_HP_markDefinitions_26 : decode b_HP_markDefinitions 26 = .ok (.return_, 1) := by decide +kernel
theorem d_HP_mark_0 : decode b_HP_mark 0 = .ok (.aload_n 0, 1) := by decide +kernel
theorem d_HP_mark_1 : decode b_HP_mark 1 = .ok (.getfield 96, 3) := by decide +kernel
theorem d_HP_mark_4 : decode b_HP_mark 4 = .ok (.istore_n 3, 1) := by decide +kernel
theorem d_HP_mark_5 : decode b_HP_mark 5 = .ok (.aload_n 0, 1) := by decide +kernel
theorem d_HP_mark_6 : decode b_HP_mark 6 = .ok (.lload_n 1, 1) := by decide +kernel
theorem d_HP_mark_7 : decode b_HP_mark 7 = .ok (.invokevirtual 103, 3) := by decide +kernel
theorem d_HP_mark_10 : decode b_HP_mark 10 = .ok (.iload_n 3, 1) := by decide +kernel
theorem d_HP_mark_11 : decode b_HP_mark 11 = .ok (.istore 4, 2) := by decide +kernel
theorem d_HP_mark_13 : decode b_HP_mark 13 = .ok (.iload 4, 2) := by decide +kernel
theorem d_HP_mark_15 : decode b_HP_mark 15 = .ok (.aload_n 0, 1) := by decide +kernel
theorem d_HP_mark_16 : decode b_HP_mark 16 = .ok (.getfield 96, 3) := by decide +kernel
theorem d_HP_mark_19 : decode b_HP_mark 19 = .ok (.if_icmp .ge 50, 3) := by decide +kernel
theorem d_HP_mark_22 : decode b_HP_mark 22 = .ok (.iload 4, 2) := by decide +kernel
theorem d_HP_mark_24 : decode b_HP_mark 24 = .ok (.aload_n 0, 1) := by decide +kernel
theorem d_HP_mark_25 : decode b_HP_mark 25 = .ok (.getfield 7, 3) := by decide +kernel
theorem d_HP_mark_28 : decode b_HP_mark 28 = .ok (.if_icmp .ge 41, 3) := by decide +kernel
theorem d_HP_mark_31 : decode b_HP_mark 31 = .ok (.aload_n 0, 1) := by decide +kernel
theorem d_HP_mark_32 : decode b_HP_mark 32 = .ok (.aload_n 0, 1) := by decide +kernel
theorem d_HP_mark_33 : decode b_HP_mark 33 = .ok (.getfield 13, 3) := by decide +kernel
theorem d_HP_mark_36 : decode b_HP_mark 36 = .ok (.aload_n 0, 1) := by decide +kernel
theorem d_HP_mark_37 : decode b_HP_mark 37 = .ok (.getfield 30, 3) := by decide +kernel
theorem d_HP_mark_40 : decode b_HP_mark 40 = .ok (.iload 4, 2) := by decide +kernel
theorem d_HP_mark_42 : decode b_HP_mark 42 = .ok (.iaload, 1) := by decide +kernel
theorem d_HP_mark_43 : decode b_HP_mark 43 = .ok (.laload, 1) := by decide +kernel
theorem d_HP_mark_44 : decode b_HP_mark 44 = .ok (.invokevirtual 103, 3) := by decide +kernel
theorem d_HP_mark_47 : decode b_HP_mark 47 = .ok (.aload_n 0, 1) := by decide +kernel
theorem d_HP_mark_48 : decode b_HP_mark 48 = .ok (.aload_n 0, 1) := by decide +kernel
theorem d_HP_mark_49 : decode b_HP_mark 49 = .ok (.getfield 17, 3) := by decide +kernel
theorem d_HP_mark_52 : decode b_HP_mark 52 = .ok (.aload_n 0, 1) := by decide +kernel
theorem d_HP_mark_53 : decode b_HP_mark 53 = .ok (.getfield 30, 3) := by decide +kernel
theorem d_HP_mark_56 : decode b_HP_mark 56 = .ok (.iload 4, 2) := by decide +kernel
theorem d_HP_mark_58 : decode b_HP_mark 58 = .ok (.iaload, 1) := by decide +kernel
theorem d_HP_mark_59 : decode b_HP_mark 59 = .ok (.laload, 1) := by decide +kernel
theorem d_HP_mark_60 : decode b_HP_mark 60 = .ok (.invokevirtual 103, 3) := by decide +kernel
theorem d_HP_mark_63 : decode b_HP_mark 63 = .ok (.iinc 4 1, 3) := by decide +kernel
theorem d_HP_mark_66 : decode b_HP_mark 66 = .ok (.goto (-53), 3) := by decide +kernel
theorem d_HP_mark_69 : decode b_HP_mark 69 = .ok (.return_, 1) := by decide +kernel
theorem d_HP_note_0 : decode b_HP_note 0 = .ok (.lload_n 1, 1) := by decide +kernel
theorem d_HP_note_1 : decode b_HP_note 1 = .ok (.invokestatic 88, 3) := by decide +kernel
theorem d_HP_note_4 : decode b_HP_note 4 = .ok (.ifCond .ne 4, 3) := by decide +kernel
theorem d_HP_note_7 : decode b_HP_note 7 = .ok (.return_, 1) := by decide +kernel
theorem d_HP_note_8 : decode b_HP_note 8 = .ok (.lload_n 1, 1) := by decide +kernel
theorem d_HP_note_9 : decode b_HP_note 9 = .ok (.l2i, 1) := by decide +kernel
theorem d_HP_note_10 : decode b_HP_note 10 = .ok (.istore_n 3, 1) := by decide +kernel
theorem d_HP_note_11 : decode b_HP_note 11 = .ok (.aload_n 0, 1) := by decide +kernel
theorem d_HP_note_12 : decode b_HP_note 12 = .ok (.getfield 24, 3) := by decide +kernel
theorem d_HP_note_15 : decode b_HP_note 15 = .ok (.iload_n 3, 1) := by decide +kernel
theorem d_HP_note_16 : decode b_HP_note 16 = .ok (.iaload, 1) := by decide +kernel
theorem d_HP_note_17 : decode b_HP_note 17 = .ok (.aload_n 0, 1) := by decide +kernel
theorem d_HP_note_18 : decode b_HP_note 18 = .ok (.getfield 27, 3) := by decide +kernel
theorem d_HP_note_21 : decode b_HP_note 21 = .ok (.if_icmp .eq 44, 3) := by decide +kernel
theorem d_HP_note_24 : decode b_HP_note 24 = .ok (.aload_n 0, 1) := by decide +kernel
theorem d_HP_note_25 : decode b_HP_note 25 = .ok (.getfield 96, 3) := by decide +kernel
theorem d_HP_note_28 : decode b_HP_note 28 = .ok (.aload_n 0, 1) := by decide +kernel
theorem d_HP_note_29 : decode b_HP_note 29 = .ok (.getfield 7, 3) := by decide +kernel
theorem d_HP_note_32 : decode b_HP_note 32 = .ok (.if_icmp .ge 33, 3) := by decide +kernel
theorem d_HP_note_35 : decode b_HP_note 35 = .ok (.aload_n 0, 1) := by decide +kernel
theorem d_HP_note_36 : decode b_HP_note 36 = .ok (.getfield 24, 3) := by decide +kernel
theorem d_HP_note_39 : decode b_HP_note 39 = .ok (.iload_n 3, 1) := by decide +kernel
theorem d_HP_note_40 : decode b_HP_note 40 = .ok (.aload_n 0, 1) := by decide +kernel
theorem d_HP_note_41 : decode b_HP_note 41 = .ok (.getfield 27, 3) := by decide +kernel
theorem d_HP_note_44 : decode b_HP_note 44 = .ok (.iastore, 1) := by decide +kernel
theorem d_HP_note_45 : decode b_HP_note 45 = .ok (.aload_n 0, 1) := by decide +kernel
theorem d_HP_note_46 : decode b_HP_note 46 = .ok (.getfield 30, 3) := by decide +kernel
theorem d_HP_note_49 : decode b_HP_note 49 = .ok (.aload_n 0, 1) := by decide +kernel
theorem d_HP_note_50 : decode b_HP_note 50 = .ok (.getfield 96, 3) := by decide +kernel
theorem d_HP_note_53 : decode b_HP_note 53 = .ok (.iload_n 3, 1) := by decide +kernel
theorem d_HP_note_54 : decode b_HP_note 54 = .ok (.iastore, 1) := by decide +kernel
theorem d_HP_note_55 : decode b_HP_note 55 = .ok (.aload_n 0, 1) := by decide +kernel
theorem d_HP_note_56 : decode b_HP_note 56 = .ok (.dup, 1) := by decide +kernel
theorem d_HP_note_57 : decode b_HP_note 57 = .ok (.getfield 96, 3) := by decide +kernel
theorem d_HP_note_60 : decode b_HP_note 60 = .ok (.iconst 1, 1) := by decide +kernel
theorem d_HP_note_61 : decode b_HP_note 61 = .ok (.iadd, 1) := by decide +kernel
theorem d_HP_note_62 : decode b_HP_note 62 = .ok (.putfield 96, 3) := by decide +kernel
theorem d_HP_note_65 : decode b_HP_note 65 = .ok (.return_, 1) := by decide +kernel
theorem d_HP_sweep_0 : decode b_HP_sweep 0 = .ok (.aload_n 0, 1) := by decide +kernel
theorem d_HP_sweep_1 : decode b_HP_sweep 1 = .ok (.iconst 0, 1) := by decide +kernel
theorem d_HP_sweep_2 : decode b_HP_sweep 2 = .ok (.putfield 41, 3) := by decide +kernel
theorem d_HP_sweep_5 : decode b_HP_sweep 5 = .ok (.aload_n 0, 1) := by decide +kernel
theorem d_HP_sweep_6 : decode b_HP_sweep 6 = .ok (.getfield 7, 3) := by decide +kernel
theorem d_HP_sweep_9 : decode b_HP_sweep 9 = .ok (.iconst 1, 1) := by decide +kernel
theorem d_HP_sweep_10 : decode b_HP_sweep 10 = .ok (.isub, 1) := by decide +kernel
theorem d_HP_sweep_11 : decode b_HP_sweep 11 = .ok (.istore_n 1, 1) := by decide +kernel
theorem d_HP_sweep_12 : decode b_HP_sweep 12 = .ok (.iload_n 1, 1) := by decide +kernel
theorem d_HP_sweep_13 : decode b_HP_sweep 13 = .ok (.ifCond .lt 42, 3) := by decide +kernel
theorem d_HP_sweep_16 : decode b_HP_sweep 16 = .ok (.aload_n 0, 1) := by decide +kernel
theorem d_HP_sweep_17 : decode b_HP_sweep 17 = .ok (.getfield 24, 3) := by decide +kernel
theorem d_HP_sweep_20 : decode b_HP_sweep 20 = .ok (.iload_n 1, 1) := by decide +kernel
theorem d_HP_sweep_21 : decode b_HP_sweep 21 = .ok (.iaload, 1) := by decide +kernel
theorem d_HP_sweep_22 : decode b_HP_sweep 22 = .ok (.aload_n 0, 1) := by decide +kernel
theorem d_HP_sweep_23 : decode b_HP_sweep 23 = .ok (.getfield 27, 3) := by decide +kernel
theorem d_HP_sweep_26 : decode b_HP_sweep 26 = .ok (.if_icmp .eq 23, 3) := by decide +kernel
theorem d_HP_sweep_29 : decode b_HP_sweep 29 = .ok (.aload_n 0, 1) := by decide +kernel
theorem d_HP_sweep_30 : decode b_HP_sweep 30 = .ok (.getfield 20, 3) := by decide +kernel
theorem d_HP_sweep_33 : decode b_HP_sweep 33 = .ok (.aload_n 0, 1) := by decide +kernel
theorem d_HP_sweep_34 : decode b_HP_sweep 34 = .ok (.getfield 41, 3) := by decide +kernel
theorem d_HP_sweep_37 : decode b_HP_sweep 37 = .ok (.iload_n 1, 1) := by decide +kernel
theorem d_HP_sweep_38 : decode b_HP_sweep 38 = .ok (.iastore, 1) := by decide +kernel
theorem d_HP_sweep_39 : decode b_HP_sweep 39 = .ok (.aload_n 0, 1) := by decide +kernel
theorem d_HP_sweep_40 : decode b_HP_sweep 40 = .ok (.dup, 1) := by decide +kernel
theorem d_HP_sweep_41 : decode b_HP_sweep 41 = .ok (.getfield 41, 3) := by decide +kernel
theorem d_HP_sweep_44 : decode b_HP_sweep 44 = .ok (.iconst 1, 1) := by decide +kernel
theorem d_HP_sweep_45 : decode b_HP_sweep 45 = .ok (.iadd, 1) := by decide +kernel
theorem d_HP_sweep_46 : decode b_HP_sweep 46 = .ok (.putfield 41, 3) := by decide +kernel
theorem d_HP_sweep_49 : decode b_HP_sweep 49 = .ok (.iinc 1 (-1), 3) := by decide +kernel
theorem d_HP_sweep_52 : decode b_HP_sweep 52 = .ok (.goto (-40), 3) := by decide +kernel
theorem d_HP_sweep_55 : decode b_HP_sweep 55 = .ok (.return_, 1) := by decide +kernel
theorem d_PP_init_0 : decode b_PP_init 0 = .ok (.aload_n 0, 1) := by decide +kernel
theorem d_PP_init_1 : decode b_PP_init 1 = .ok (.invokespecial 1, 3) := by decide +kernel
theorem d_PP_init_4 : decode b_PP_init 4 = .ok (.aload_n 0, 1) := by decide +kernel
theorem d_PP_init_5 : decode b_PP_init 5 = .ok (.sipush 200, 3) := by decide +kernel
theorem d_PP_init_8 : decode b_PP_init 8 = .ok (.newarray .char, 2) := by decide +kernel
theorem d_PP_init_10 : decode b_PP_init 10 = .ok (.putfield 9, 3) := by decide +kernel
theorem d_PP_init_13 : decode b_PP_init 13 = .ok (.aload_n 0, 1) := by decide +kernel
theorem d_PP_init_14 : decode b_PP_init 14 = .ok (.bipush 10, 2) := by decide +kernel
theorem d_PP_init_16 : decode b_PP_init 16 = .ok (.newarray .char, 2) := by decide +kernel
theorem d_PP_init_18 : decode b_PP_init 18 = .ok (.putfield 13, 3) := by decide +kernel
theorem d_PP_init_21 : decode b_PP_init 21 = .ok (.aload_n 0, 1) := by decide +kernel
theorem d_PP_init_22 : decode b_PP_init 22 = .ok (.iconst 0, 1) := by decide +kernel
theorem d_PP_init_23 : decode b_PP_init 23 = .ok (.putfield 16, 3) := by decide +kernel
theorem d_PP_init_26 : decode b_PP_init 26 = .ok (.return_, 1) := by decide +kernel
theorem d_PP_clear_0 : decode b_PP_clear 0 = .ok (.aload_n 0, 1) := by decide +kernel
theorem d_PP_clear_1 : decode b_PP_clear 1 = .ok (.iconst 0, 1) := by decide +kernel
theorem d_PP_clear_2 : decode b_PP_clear 2 = .ok (.putfield 16, 3) := by decide +kernel
theorem d_PP_clear_5 : decode b_PP_clear 5 = .ok (.return_, 1) := by decide +kernel
theorem d_PP_printed_0 : decode b_PP_printed 0 = .ok (.aload_n 0, 1) := by decide +kernel
theorem d_PP_printed_1 : decode b_PP_printed 1 = .ok (.getfield 16, 3) := by decide +kernel
theorem d_PP_printed_4 : decode b_PP_printed 4 = .ok (.ireturn, 1) := by decide +kernel
theorem d_PP_kept_0 : decode b_PP_kept 0 = .ok (.aload_n 0, 1) := by decide +kernel
theorem d_PP_kept_1 : decode b_PP_kept 1 = .ok (.getfield 16, 3) := by decide +kernel
theorem d_PP_kept_4 : decode b_PP_kept 4 = .ok (.sipush 200, 3) := by decide +kernel
theorem d_PP_kept_7 : decode b_PP_kept 7 = .ok (.invokestatic 20, 3) := by decide +kernel
theorem d_PP_kept_10 : decode b_PP_kept 10 = .ok (.ireturn, 1) := by decide +kernel
theorem d_PP_at_0 : decode b_PP_at 0 = .ok (.aload_n 0, 1) := by decide +kernel
theorem d_PP_at_1 : decode b_PP_at 1 = .ok (.getfield 9, 3) := by decide +kernel
theorem d_PP_at_4 : decode b_PP_at 4 = .ok (.iload_n 1, 1) := by decide +kernel
theorem d_PP_at_5 : decode b_PP_at 5 = .ok (.caload, 1) := by decide +kernel
theorem d_PP_at_6 : decode b_PP_at 6 = .ok (.ireturn, 1) := by decide +kernel
theorem d_PP_print_0 : decode b_PP_print 0 = .ok (.aload_n 0, 1) := by decide +kernel
theorem d_PP_print_1 : decode b_PP_print 1 = .ok (.getfield 16, 3) := by decide +kernel
theorem d_PP_print_4 : decode b_PP_print 4 = .ok (.sipush 200, 3) := by decide +kernel
theorem d_PP_print_7 : decode b_PP_print 7 = .ok (.if_icmp .ge 13, 3) := by decide +kernel
theorem d_PP_print_10 : decode b_PP_print 10 = .ok (.aload_n 0, 1) := by decide +kernel
theorem d_PP_print_11 : decode b_PP_print 11 = .ok (.getfield 9, 3) := by decide +kernel
theorem d_PP_print_14 : decode b_PP_print 14 = .ok (.aload_n 0, 1) := by decide +kernel
theorem d_PP_print_15 : decode b_PP_print 15 = .ok (.getfield 16, 3) := by decide +kernel
theorem d_PP_print_18 : decode b_PP_print 18 = .ok (.iload_n 1, 1) := by decide +kernel
theorem d_PP_print_19 : decode b_PP_print 19 = .ok (.castore, 1) := by decide +kernel
theorem d_PP_print_20 : decode b_PP_print 20 = .ok (.aload_n 0, 1) := by decide +kernel
theorem d_PP_print_21 : decode b_PP_print 21 = .ok (.dup, 1) := by decide +kernel
theorem d_PP_print_22 : decode b_PP_print 22 = .ok (.getfield 16, 3) := by decide +kernel
theorem d_PP_print_25 : decode b_PP_print 25 = .ok (.iconst 1, 1) := by decide +kernel
theorem d_PP_print_26 : decode b_PP_print 26 = .ok (.iadd, 1) := by decide +kernel
theorem d_PP_print_27 : decode b_PP_print 27 = .ok (.putfield 16, 3) := by decide +kernel
theorem d_PP_print_30 : decode b_PP_print 30 = .ok (.return_, 1) := by decide +kernel
theorem d_PP_printNumber_0 : decode b_PP_printNumber 0 = .ok (.iload_n 1, 1) := by decide +kernel
theorem d_PP_printNumber_1 : decode b_PP_printNumber 1 = .ok (.i2l, 1) := by decide +kernel
theorem d_PP_printNumber_2 : decode b_PP_printNumber 2 = .ok (.lstore_n 2, 1) := by decide +kernel
theorem d_PP_printNumber_3 : decode b_PP_printNumber 3 = .ok (.lload_n 2, 1) := by decide +kernel
theorem d_PP_printNumber_4 : decode b_PP_printNumber 4 = .ok (.lconst 0, 1) := by decide +kernel
theorem d_PP_printNumber_5 : decode b_PP_printNumber 5 = .ok (.lcmp, 1) := by decide +kernel
theorem d_PP_printNumber_6 : decode b_PP_printNumber 6 = .ok (.ifCond .ge 12, 3) := by decide +kernel
theorem d_PP_printNumber_9 : decode b_PP_printNumber 9 = .ok (.aload_n 0, 1) := by decide +kernel
theorem d_PP_printNumber_10 : decode b_PP_printNumber 10 = .ok (.bipush 45, 2) := by decide +kernel
theorem d_PP_printNumber_12 : decode b_PP_printNumber 12 = .ok (.invokevirtual 26, 3) := by decide +kernel
theorem d_PP_printNumber_15 : decode b_PP_printNumber 15 = .ok (.lload_n 2, 1) := by decide +kernel
theorem d_PP_printNumber_16 : decode b_PP_printNumber 16 = .ok (.lneg, 1) := by decide +kernel
theorem d_PP_printNumber_17 : decode b_PP_printNumber 17 = .ok (.lstore_n 2, 1) := by decide +kernel
theorem d_PP_printNumber_18 : decode b_PP_printNumber 18 = .ok (.iconst 0, 1) := by decide +kernel
theorem d_PP_printNumber_19 : decode b_PP_printNumber 19 = .ok (.istore 4, 2) := by decide +kernel
theorem d_PP_printNumber_21 : decode b_PP_printNumber 21 = .ok (.aload_n 0, 1) := by decide +kernel
theorem d_PP_printNumber_22 : decode b_PP_printNumber 22 = .ok (.getfield 13, 3) := by decide +kernel
theorem d_PP_printNumber_25 : decode b_PP_printNumber 25 = .ok (.iload 4, 2) := by decide +kernel
theorem d_PP_printNumber_27 : decode b_PP_printNumber 27 = .ok (.ldc2_w 30, 3) := by decide +kernel
theorem d_PP_printNumber_30 : decode b_PP_printNumber 30 = .ok (.lload_n 2, 1) := by decide +kernel
theorem d_PP_printNumber_31 : decode b_PP_printNumber 31 = .ok (.ldc2_w 32, 3) := by decide +kernel
theorem d_PP_printNumber_34 : decode b_PP_printNumber 34 = .ok (.lrem, 1) := by decide +kernel
theorem d_PP_printNumber_35 : decode b_PP_printNumber 35 = .ok (.ladd, 1) := by decide +kernel
theorem d_PP_printNumber_36 : decode b_PP_printNumber 36 = .ok (.l2i, 1) := by decide +kernel
theorem d_PP_printNumber_37 : decode b_PP_printNumber 37 = .ok (.i2c, 1) := by decide +kernel
theorem d_PP_printNumber_38 : decode b_PP_printNumber 38 = .ok (.castore, 1) := by decide +kernel
theorem d_PP_printNumber_39 : decode b_PP_printNumber 39 = .ok (.lload_n 2, 1) := by decide +kernel
theorem d_PP_printNumber_40 : decode b_PP_printNumber 40 = .ok (.ldc2_w 32, 3) := by decide +kernel
theorem d_PP_printNumber_43 : decode b_PP_printNumber 43 = .ok (.ldiv, 1) := by decide +kernel
theorem d_PP_printNumber_44 : decode b_PP_printNumber 44 = .ok (.lstore_n 2, 1) := by decide +kernel
theorem d_PP_printNumber_45 : decode b_PP_printNumber 45 = .ok (.iinc 4 1, 3) := by decide +kernel
theorem d_PP_printNumber_48 : decode b_PP_printNumber 48 = .ok (.lload_n 2, 1) := by decide +kernel
theorem d_PP_printNumber_49 : decode b_PP_printNumber 49 = .ok (.lconst 0, 1) := by decide +kernel
theorem d_PP_printNumber_50 : decode b_PP_printNumber 50 = .ok (.lcmp, 1) := by decide +kernel
theorem d_PP_printNumber_51 : decode b_PP_printNumber 51 = .ok (.ifCond .le 10, 3) := by decide +kernel
theorem d_PP_printNumber_54 : decode b_PP_printNumber 54 = .ok (.iload 4, 2) := by decide +kernel
theorem d_PP_printNumber_56 : decode b_PP_printNumber 56 = .ok (.bipush 10, 2) := by decide +kernel
theorem d_PP_printNumber_58 : decode b_PP_printNumber 58 = .ok (.if_icmp .lt (-37), 3) := by decide +kernel
theorem d_PP_printNumber_61 : decode b_PP_printNumber 61 = .ok (.iload 4, 2) := by decide +kernel
theorem d_PP_printNumber_63 : decode b_PP_printNumber 63 = .ok (.iconst 1, 1) := by decide +kernel
theorem d_PP_printNumber_64 : decode b_PP_printNumber 64 = .ok (.isub, 1) := by decide +kernel
theorem d_PP_printNumber_65 : decode b_PP_printNumber 65 = .ok (.istore 5, 2) := by decide +kernel
theorem d_PP_printNumber_67 : decode b_PP_printNumber 67 = .ok (.iload 5, 2) := by decide +kernel
theorem d_PP_printNumber_69 : decode b_PP_printNumber 69 = .ok (.ifCond .lt 20, 3) := by decide +kernel
theorem d_PP_printNumber_72 : decode b_PP_printNumber 72 = .ok (.aload_n 0, 1) := by decide +kernel
theorem d_PP_printNumber_73 : decode b_PP_printNumber 73 = .ok (.aload_n 0, 1) := by decide +kernel
theorem d_PP_printNumber_74 : decode b_PP_printNumber 74 = .ok (.getfield 13, 3) := by decide +kernel
theorem d_PP_printNumber_77 : decode b_PP_printNumber 77 = .ok (.iload 5, 2) := by decide +kernel
theorem d_PP_printNumber_79 : decode b_PP_printNumber 79 = .ok (.caload, 1) := by decide +kernel
theorem d_PP_printNumber_80 : decode b_PP_printNumber 80 = .ok (.invokevirtual 26, 3) := by decide +kernel
theorem d_PP_printNumber_83 : decode b_PP_printNumber 83 = .ok (.iinc 5 (-1), 3) := by decide +kernel
theorem d_PP_printNumber_86 : decode b_PP_printNumber 86 = .ok (.goto (-19), 3) := by decide +kernel
theorem d_PP_printNumber_89 : decode b_PP_printNumber 89 = .ok (.return_, 1) := by decide +kernel
theorem d_MC_init_0 : decode b_MC_init 0 = .ok (.aload_n 0, 1) := by decide +kernel
theorem d_MC_init_1 : decode b_MC_init 1 = .ok (.invokespecial 3, 3) := by decide +kernel
theorem d_MC_init_4 : decode b_MC_init 4 = .ok (.aload_n 0, 1) := by decide +kernel
theorem d_MC_init_5 : decode b_MC_init 5 = .ok (.aload_n 1, 1) := by decide +kernel
theorem d_MC_init_6 : decode b_MC_init 6 = .ok (.putfield 9, 3) := by decide +kernel
theorem d_MC_init_9 : decode b_MC_init 9 = .ok (.aload_n 0, 1) := by decide +kernel
theorem d_MC_init_10 : decode b_MC_init 10 = .ok (.aload_n 2, 1) := by decide +kernel
theorem d_MC_init_11 : decode b_MC_init 11 = .ok (.putfield 15, 3) := by decide +kernel
theorem d_MC_init_14 : decode b_MC_init 14 = .ok (.aload_n 0, 1) := by decide +kernel
theorem d_MC_init_15 : decode b_MC_init 15 = .ok (.sipush 150, 3) := by decide +kernel
theorem d_MC_init_18 : decode b_MC_init 18 = .ok (.newarray .int, 2) := by decide +kernel
theorem d_MC_init_20 : decode b_MC_init 20 = .ok (.putfield 19, 3) := by decide +kernel
theorem d_MC_init_23 : decode b_MC_init 23 = .ok (.aload_n 0, 1) := by decide +kernel
theorem d_MC_init_24 : decode b_MC_init 24 = .ok (.bipush 41, 2) := by decide +kernel
theorem d_MC_init_26 : decode b_MC_init 26 = .ok (.newarray .int, 2) := by decide +kernel
theorem d_MC_init_28 : decode b_MC_init 28 = .ok (.putfield 23, 3) := by decide +kernel
theorem d_MC_init_31 : decode b_MC_init 31 = .ok (.aload_n 0, 1) := by decide +kernel
theorem d_MC_init_32 : decode b_MC_init 32 = .ok (.bipush 41, 2) := by decide +kernel
theorem d_MC_init_34 : decode b_MC_init 34 = .ok (.newarray .int, 2) := by decide +kernel
theorem d_MC_init_36 : decode b_MC_init 36 = .ok (.putfield 26, 3) := by decide +kernel
theorem d_MC_init_39 : decode b_MC_init 39 = .ok (.aload_n 0, 1) := by decide +kernel
theorem d_MC_init_40 : decode b_MC_init 40 = .ok (.bipush 41, 2) := by decide +kernel
theorem d_MC_init_42 : decode b_MC_init 42 = .ok (.newarray .boolean, 2) := by decide +kernel
theorem d_MC_init_44 : decode b_MC_init 44 = .ok (.putfield 29, 3) := by decide +kernel
theorem d_MC_init_47 : decode b_MC_init 47 = .ok (.aload_n 0, 1) := by decide +kernel
theorem d_MC_init_48 : decode b_MC_init 48 = .ok (.bipush 41, 2) := by decide +kernel
theorem d_MC_init_50 : decode b_MC_init 50 = .ok (.newarray .int, 2) := by decide +kernel
theorem d_MC_init_52 : decode b_MC_init 52 = .ok (.putfield 33, 3) := by decide +kernel
theorem d_MC_init_55 : decode b_MC_init 55 = .ok (.return_, 1) := by decide +kernel
theorem d_MC_stop_0 : decode b_MC_stop 0 = .ok (.aload_n 0, 1) := by decide +kernel
theorem d_MC_stop_1 : decode b_MC_stop 1 = .ok (.getfield 36, 3) := by decide +kernel
theorem d_MC_stop_4 : decode b_MC_stop 4 = .ok (.ireturn, 1) := by decide +kernel
theorem d_MC_steps_0 : decode b_MC_steps 0 = .ok (.aload_n 0, 1) := by decide +kernel
theorem d_MC_steps_1 : decode b_MC_steps 1 = .ok (.getfield 40, 3) := by decide +kernel
theorem d_MC_steps_4 : decode b_MC_steps 4 = .ok (.ireturn, 1) := by decide +kernel
theorem d_MC_onSpines_0 : decode b_MC_onSpines 0 = .ok (.aload_n 0, 1) := by decide +kernel
theorem d_MC_onSpines_1 : decode b_MC_onSpines 1 = .ok (.getfield 43, 3) := by decide +kernel
theorem d_MC_onSpines_4 : decode b_MC_onSpines 4 = .ok (.ireturn, 1) := by decide +kernel
theorem d_MC_mostOnSpines_0 : decode b_MC_mostOnSpines 0 = .ok (.aload_n 0, 1) := by decide +kernel
theorem d_MC_mostOnSpines_1 : decode b_MC_mostOnSpines 1 = .ok (.getfield 46, 3) := by decide +kernel
theorem d_MC_mostOnSpines_4 : decode b_MC_mostOnSpines 4 = .ok (.ireturn, 1) := by decide +kernel
theorem d_MC_begin_0 : decode b_MC_begin 0 = .ok (.aload_n 0, 1) := by decide +kernel
theorem d_MC_begin_1 : decode b_MC_begin 1 = .ok (.iconst 0, 1) := by decide +kernel
theorem d_MC_begin_2 : decode b_MC_begin 2 = .ok (.putfield 43, 3) := by decide +kernel
theorem d_MC_begin_5 : decode b_MC_begin 5 = .ok (.aload_n 0, 1) := by decide +kernel
theorem d_MC_begin_6 : decode b_MC_begin 6 = .ok (.iconst 0, 1) := by decide +kernel
theorem d_MC_begin_7 : decode b_MC_begin 7 = .ok (.putfield 46, 3) := by decide +kernel
theorem d_MC_begin_10 : decode b_MC_begin 10 = .ok (.aload_n 0, 1) := by decide +kernel
theorem d_MC_begin_11 : decode b_MC_begin 11 = .ok (.iconst 0, 1) := by decide +kernel
theorem d_MC_begin_12 : decode b_MC_begin 12 = .ok (.putfield 49, 3) := by decide +kernel
theorem d_MC_begin_15 : decode b_MC_begin 15 = .ok (.aload_n 0, 1) := by decide +kernel
theorem d_MC_begin_16 : decode b_MC_begin 16 = .ok (.getfield 23, 3) := by decide +kernel
theorem d_MC_begin_19 : decode b_MC_begin 19 = .ok (.iconst 0, 1) := by decide +kernel
theorem d_MC_begin_20 : decode b_MC_begin 20 = .ok (.iconst 0, 1) := by decide +kernel
theorem d_MC_begin_21 : decode b_MC_begin 21 = .ok (.iastore, 1) := by decide +kernel
theorem d_MC_begin_22 : decode b_MC_begin 22 = .ok (.aload_n 0, 1) := by decide +kernel
theorem d_MC_begin_23 : decode b_MC_begin 23 = .ok (.lload_n 1, 1) := by decide +kernel
theorem d_MC_begin_24 : decode b_MC_begin 24 = .ok (.putfield 52, 3) := by decide +kernel
theorem d_MC_begin_27 : decode b_MC_begin 27 = .ok (.aload_n 0, 1) := by decide +kernel
theorem d_MC_begin_28 : decode b_MC_begin 28 = .ok (.bipush 17, 2) := by decide +kernel
theorem d_MC_begin_30 : decode b_MC_begin 30 = .ok (.invokestatic 56, 3) := by decide +kernel
theorem d_MC_begin_33 : decode b_MC_begin 33 = .ok (.putfield 60, 3) := by decide +kernel
theorem d_MC_begin_36 : decode b_MC_begin 36 = .ok (.aload_n 0, 1) := by decide +kernel
theorem d_MC_begin_37 : decode b_MC_begin 37 = .ok (.iconst 0, 1) := by decide +kernel
theorem d_MC_begin_38 : decode b_MC_begin 38 = .ok (.putfield 63, 3) := by decide +kernel
theorem d_MC_begin_41 : decode b_MC_begin 41 = .ok (.aload_n 0, 1) := by decide +kernel
theorem d_MC_begin_42 : decode b_MC_begin 42 = .ok (.iconst 0, 1) := by decide +kernel
theorem d_MC_begin_43 : decode b_MC_begin 43 = .ok (.putfield 67, 3) := by decide +kernel
theorem d_MC_begin_46 : decode b_MC_begin 46 = .ok (.aload_n 0, 1) := by decide +kernel
theorem d_MC_begin_47 : decode b_MC_begin 47 = .ok (.iconst 0, 1) := by decide +kernel
theorem d_MC_begin_48 : decode b_MC_begin 48 = .ok (.putfield 40, 3) := by decide +kernel
theorem d_MC_begin_51 : decode b_MC_begin 51 = .ok (.aload_n 0, 1) := by decide +kernel
theorem d_MC_begin_52 : decode b_MC_begin 52 = .ok (.iconst 0, 1) := by decide +kernel
theorem d_MC_begin_53 : decode b_MC_begin 53 = .ok (.putfield 36, 3) := by decide +kernel
theorem d_MC_begin_56 : decode b_MC_begin 56 = .ok (.return_, 1) := by decide +kernel
theorem d_MC_markReached_0 : decode b_MC_markReached 0 = .ok (.aload_n 0, 1) := by decide +kernel
theorem d_MC_markReached_1 : decode b_MC_markReached 1 = .ok (.getfield 9, 3) := by decide +kernel
theorem d_MC_markReached_4 : decode b_MC_markReached 4 = .ok (.invokevirtual 70, 3) := by decide +kernel
theorem d_MC_markReached_7 : decode b_MC_markReached 7 = .ok (.aload_n 0, 1) := by decide +kernel
theorem d_MC_markReached_8 : decode b_MC_markReached 8 = .ok (.getfield 9, 3) := by decide +kernel
theorem d_MC_markReached_11 : decode b_MC_markReached 11 = .ok (.invokevirtual 75, 3) := by decide +kernel
theorem d_MC_markReached_14 : decode b_MC_markReached 14 = .ok (.aload_n 0, 1) := by decide +kernel
theorem d_MC_markReached_15 : decode b_MC_markReached 15 = .ok (.getfield 9, 3) := by decide +kernel
theorem d_MC_markReached_18 : decode b_MC_markReached 18 = .ok (.aload_n 0, 1) := by decide +kernel
theorem d_MC_markReached_19 : decode b_MC_markReached 19 = .ok (.getfield 52, 3) := by decide +kernel
theorem d_MC_markReached_22 : decode b_MC_markReached 22 = .ok (.invokevirtual 78, 3) := by decide +kernel
theorem d_MC_markReached_25 : decode b_MC_markReached 25 = .ok (.aload_n 0, 1) := by decide +kernel
theorem d_MC_markReached_26 : decode b_MC_markReached 26 = .ok (.getfield 9, 3) := by decide +kernel
theorem d_MC_markReached_29 : decode b_MC_markReached 29 = .ok (.aload_n 0, 1) := by decide +kernel
theorem d_MC_markReached_30 : decode b_MC_markReached 30 = .ok (.getfield 60, 3) := by decide +kernel
theorem d_MC_markReached_33 : decode b_MC_markReached 33 = .ok (.invokevirtual 78, 3) := by decide +kernel
theorem d_MC_markReached_36 : decode b_MC_markReached 36 = .ok (.iconst 0, 1) := by decide +kernel
theorem d_MC_markReached_37 : decode b_MC_markReached 37 = .ok (.istore_n 1, 1) := by decide +kernel
theorem d_MC_markReached_38 : decode b_MC_markReached 38 = .ok (.iload_n 1, 1) := by decide +kernel
theorem d_MC_markReached_39 : decode b_MC_markReached 39 = .ok (.aload_n 0, 1) := by decide +kernel
theorem d_MC_markReached_40 : decode b_MC_markReached 40 = .ok (.getfield 43, 3) := by decide +kernel
theorem d_MC_markReached_43 : decode b_MC_markReached 43 = .ok (.if_icmp .ge 27, 3) := by decide +kernel
theorem d_MC_markReached_46 : decode b_MC_markReached 46 = .ok (.aload_n 0, 1) := by decide +kernel
theorem d_MC_markReached_47 : decode b_MC_markReached 47 = .ok (.getfield 9, 3) := by decide +kernel
theorem d_MC_markReached_50 : decode b_MC_markReached 50 = .ok (.bipush 23, 2) := by decide +kernel
theorem d_MC_markReached_52 : decode b_MC_markReached 52 = .ok (.aload_n 0, 1) := by decide +kernel
theorem d_MC_markReached_53 : decode b_MC_markReached 53 = .ok (.getfield 19, 3) := by decide +kernel
theorem d_MC_markReached_56 : decode b_MC_markReached 56 = .ok (.iload_n 1, 1) := by decide +kernel
theorem d_MC_markReached_57 : decode b_MC_markReached 57 = .ok (.iaload, 1) := by decide +kernel
theorem d_MC_markReached_58 : decode b_MC_markReached 58 = .ok (.invokestatic 82, 3) := by decide +kernel
theorem d_MC_markReached_61 : decode b_MC_markReached 61 = .ok (.invokevirtual 78, 3) := by decide +kernel
theorem d_MC_markReached_64 : decode b_MC_markReached 64 = .ok (.iinc 1 1, 3) := by decide +kernel
theorem d_MC_markReached_67 : decode b_MC_markReached 67 = .ok (.goto (-29), 3) := by decide +kernel
theorem d_MC_markReached_70 : decode b_MC_markReached 70 = .ok (.aload_n 0, 1) := by decide +kernel
theorem d_MC_markReached_71 : decode b_MC_markReached 71 = .ok (.getfield 9, 3) := by decide +kernel
theorem d_MC_markReached_74 : decode b_MC_markReached 74 = .ok (.invokevirtual 86, 3) := by decide +kernel
theorem d_MC_markReached_77 : decode b_MC_markReached 77 = .ok (.ireturn, 1) := by decide +kernel
theorem d_MC_step_0 : decode b_MC_step 0 = .ok (.iconst 0, 1) := by decide +kernel
theorem d_MC_step_1 : decode b_MC_step 1 = .ok (.istore_n 1, 1) := by decide +kernel
theorem d_MC_step_2 : decode b_MC_step 2 = .ok (.iconst 0, 1) := by decide +kernel
theorem d_MC_step_3 : decode b_MC_step 3 = .ok (.istore_n 2, 1) := by decide +kernel
theorem d_MC_step_4 : decode b_MC_step 4 = .ok (.iload_n 2, 1) := by decide +kernel
theorem d_MC_step_5 : decode b_MC_step 5 = .ok (.ldc 90, 2) := by decide +kernel
theorem d_MC_step_7 : decode b_MC_step 7 = .ok (.if_icmp .ge 32, 3) := by decide +kernel
theorem d_MC_step_10 : decode b_MC_step 10 = .ok (.aload_n 0, 1) := by decide +kernel
theorem d_MC_step_11 : decode b_MC_step 11 = .ok (.getfield 36, 3) := by decide +kernel
theorem d_MC_step_14 : decode b_MC_step 14 = .ok (.ifCond .ne 25, 3) := by decide +kernel
theorem d_MC_step_17 : decode b_MC_step 17 = .ok (.iload_n 1, 1) := by decide +kernel
theorem d_MC_step_18 : decode b_MC_step 18 = .ok (.ifCond .ne 21, 3) := by decide +kernel
theorem d_MC_step_21 : decode b_MC_step 21 = .ok (.aload_n 0, 1) := by decide +kernel
theorem d_MC_step_22 : decode b_MC_step 22 = .ok (.invokevirtual 91, 3) := by decide +kernel
theorem d_MC_step_25 : decode b_MC_step 25 = .ok (.ifCond .eq 8, 3) := by decide +kernel
theorem d_MC_step_28 : decode b_MC_step 28 = .ok (.aload_n 0, 1) := by decide +kernel
theorem d_MC_step_29 : decode b_MC_step 29 = .ok (.invokevirtual 95, 3) := by decide +kernel
theorem d_MC_step_32 : decode b_MC_step 32 = .ok (.istore_n 1, 1) := by decide +kernel
