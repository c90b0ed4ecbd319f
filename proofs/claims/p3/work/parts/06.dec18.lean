theorem d_MO_run_51 : decode b_MO_run 51 = .ok (.iload_n 2, 1) := by decide +kernel
theorem d_MO_run_52 : decode b_MO_run 52 = .ok (.isub, 1) := by decide +kernel
theorem d_MO_run_53 : decode b_MO_run 53 = .ok (.iload_n 1, 1) := by decide +kernel
theorem d_MO_run_54 : decode b_MO_run 54 = .ok (.if_icmp .ge 17, 3) := by decide +kernel
theorem d_MO_run_57 : decode b_MO_run 57 = .ok (.aload_n 0, 1) := by decide +kernel
theorem d_MO_run_58 : decode b_MO_run 58 = .ok (.getfield 354, 3) := by decide +kernel
theorem d_MO_run_61 : decode b_MO_run 61 = .ok (.ifCond .ne 10, 3) := by decide +kernel
theorem d_MO_run_64 : decode b_MO_run 64 = .ok (.aload_n 0, 1) := by decide +kernel
theorem d_MO_run_65 : decode b_MO_run 65 = .ok (.invokevirtual 435, 3) := by decide +kernel
theorem d_MO_run_68 : decode b_MO_run 68 = .ok (.goto (-21), 3) := by decide +kernel
theorem d_MO_run_71 : decode b_MO_run 71 = .ok (.aload_n 0, 1) := by decide +kernel
theorem d_MO_run_72 : decode b_MO_run 72 = .ok (.getfield 351, 3) := by decide +kernel
theorem d_MO_run_75 : decode b_MO_run 75 = .ok (.iload_n 2, 1) := by decide +kernel
theorem d_MO_run_76 : decode b_MO_run 76 = .ok (.isub, 1) := by decide +kernel
theorem d_MO_run_77 : decode b_MO_run 77 = .ok (.ireturn, 1) := by decide +kernel
theorem d_MO_stopped_0 : decode b_MO_stopped 0 = .ok (.aload_n 0, 1) := by decide +kernel
theorem d_MO_stopped_1 : decode b_MO_stopped 1 = .ok (.iconst 0, 1) := by decide +kernel
theorem d_MO_stopped_2 : decode b_MO_stopped 2 = .ok (.putfield 112, 3) := by decide +kernel
theorem d_MO_stopped_5 : decode b_MO_stopped 5 = .ok (.aload_n 0, 1) := by decide +kernel
theorem d_MO_stopped_6 : decode b_MO_stopped 6 = .ok (.getfield 321, 3) := by decide +kernel
theorem d_MO_stopped_9 : decode b_MO_stopped 9 = .ok (.ifCond .eq 10, 3) := by decide +kernel
theorem d_MO_stopped_12 : decode b_MO_stopped 12 = .ok (.aload_n 0, 1) := by decide +kernel
theorem d_MO_stopped_13 : decode b_MO_stopped 13 = .ok (.getfield 354, 3) := by decide +kernel
theorem d_MO_stopped_16 : decode b_MO_stopped 16 = .ok (.goto 4, 3) := by decide +kernel
theorem d_MO_stopped_19 : decode b_MO_stopped 19 = .ok (.iconst (-1), 1) := by decide +kernel
theorem d_MO_stopped_20 : decode b_MO_stopped 20 = .ok (.ireturn, 1) := by decide +kernel
theorem d_MO_length_0 : decode b_MO_length 0 = .ok (.aload_n 0, 1) := by decide +kernel
theorem d_MO_length_1 : decode b_MO_length 1 = .ok (.iconst 0, 1) := by decide +kernel
theorem d_MO_length_2 : decode b_MO_length 2 = .ok (.putfield 112, 3) := by decide +kernel
theorem d_MO_length_5 : decode b_MO_length 5 = .ok (.aload_n 0, 1) := by decide +kernel
theorem d_MO_length_6 : decode b_MO_length 6 = .ok (.getfield 321, 3) := by decide +kernel
theorem d_MO_length_9 : decode b_MO_length 9 = .ok (.ifCond .eq 10, 3) := by decide +kernel
theorem d_MO_length_12 : decode b_MO_length 12 = .ok (.aload_n 0, 1) := by decide +kernel
theorem d_MO_length_13 : decode b_MO_length 13 = .ok (.getfield 364, 3) := by decide +kernel
theorem d_MO_length_16 : decode b_MO_length 16 = .ok (.goto 4, 3) := by decide +kernel
theorem d_MO_length_19 : decode b_MO_length 19 = .ok (.iconst 0, 1) := by decide +kernel
theorem d_MO_length_20 : decode b_MO_length 20 = .ok (.ireturn, 1) := by decide +kernel
theorem d_MO_letter_0 : decode b_MO_letter 0 = .ok (.aload_n 0, 1) := by decide +kernel
theorem d_MO_letter_1 : decode b_MO_letter 1 = .ok (.iconst 0, 1) := by decide +kernel
theorem d_MO_letter_2 : decode b_MO_letter 2 = .ok (.putfield 112, 3) := by decide +kernel
theorem d_MO_letter_5 : decode b_MO_letter 5 = .ok (.aload_n 0, 1) := by decide +kernel
theorem d_MO_letter_6 : decode b_MO_letter 6 = .ok (.getfield 321, 3) := by decide +kernel
theorem d_MO_letter_9 : decode b_MO_letter 9 = .ok (.ifCond .eq 31, 3) := by decide +kernel
theorem d_MO_letter_12 : decode b_MO_letter 12 = .ok (.iload_n 1, 1) := by decide +kernel
theorem d_MO_letter_13 : decode b_MO_letter 13 = .ok (.iconst 0, 1) := by decide +kernel
theorem d_MO_letter_14 : decode b_MO_letter 14 = .ok (.sipush 199, 3) := by decide +kernel
theorem d_MO_letter_17 : decode b_MO_letter 17 = .ok (.invokestatic 115, 3) := by decide +kernel
theorem d_MO_letter_20 : decode b_MO_letter 20 = .ok (.ifCond .eq 20, 3) := by decide +kernel
theorem d_MO_letter_23 : decode b_MO_letter 23 = .ok (.iload_n 1, 1) := by decide +kernel
theorem d_MO_letter_24 : decode b_MO_letter 24 = .ok (.aload_n 0, 1) := by decide +kernel
theorem d_MO_letter_25 : decode b_MO_letter 25 = .ok (.getfield 364, 3) := by decide +kernel
theorem d_MO_letter_28 : decode b_MO_letter 28 = .ok (.if_icmp .ge 12, 3) := by decide +kernel
theorem d_MO_letter_31 : decode b_MO_letter 31 = .ok (.aload_n 0, 1) := by decide +kernel
theorem d_MO_letter_32 : decode b_MO_letter 32 = .ok (.getfield 99, 3) := by decide +kernel
theorem d_MO_letter_35 : decode b_MO_letter 35 = .ok (.iload_n 1, 1) := by decide +kernel
theorem d_MO_letter_36 : decode b_MO_letter 36 = .ok (.iaload, 1) := by decide +kernel
theorem d_MO_letter_37 : decode b_MO_letter 37 = .ok (.goto 8, 3) := by decide +kernel
theorem d_MO_letter_40 : decode b_MO_letter 40 = .ok (.aload_n 0, 1) := by decide +kernel
theorem d_MO_letter_41 : decode b_MO_letter 41 = .ok (.iconst 1, 1) := by decide +kernel
theorem d_MO_letter_42 : decode b_MO_letter 42 = .ok (.invokevirtual 119, 3) := by decide +kernel
theorem d_MO_letter_45 : decode b_MO_letter 45 = .ok (.ireturn, 1) := by decide +kernel
theorem d_MO_reached_0 : decode b_MO_reached 0 = .ok (.aload_n 0, 1) := by decide +kernel
theorem d_MO_reached_1 : decode b_MO_reached 1 = .ok (.iconst 0, 1) := by decide +kernel
theorem d_MO_reached_2 : decode b_MO_reached 2 = .ok (.putfield 112, 3) := by decide +kernel
theorem d_MO_reached_5 : decode b_MO_reached 5 = .ok (.aload_n 0, 1) := by decide +kernel
theorem d_MO_reached_6 : decode b_MO_reached 6 = .ok (.getfield 321, 3) := by decide +kernel
theorem d_MO_reached_9 : decode b_MO_reached 9 = .ok (.ifCond .eq 10, 3) := by decide +kernel
theorem d_MO_reached_12 : decode b_MO_reached 12 = .ok (.aload_n 0, 1) := by decide +kernel
theorem d_MO_reached_13 : decode b_MO_reached 13 = .ok (.invokevirtual 374, 3) := by decide +kernel
theorem d_MO_reached_16 : decode b_MO_reached 16 = .ok (.goto 8, 3) := by decide +kernel
theorem d_MO_reached_19 : decode b_MO_reached 19 = .ok (.aload_n 0, 1) := by decide +kernel
theorem d_MO_reached_20 : decode b_MO_reached 20 = .ok (.iconst 1, 1) := by decide +kernel
theorem d_MO_reached_21 : decode b_MO_reached 21 = .ok (.invokevirtual 119, 3) := by decide +kernel
theorem d_MO_reached_24 : decode b_MO_reached 24 = .ok (.ireturn, 1) := by decide +kernel
theorem d_MO_count_0 : decode b_MO_count 0 = .ok (.aload_n 0, 1) := by decide +kernel
theorem d_MO_count_1 : decode b_MO_count 1 = .ok (.iconst 0, 1) := by decide +kernel
theorem d_MO_count_2 : decode b_MO_count 2 = .ok (.putfield 112, 3) := by decide +kernel
theorem d_MO_count_5 : decode b_MO_count 5 = .ok (.iload_n 1, 1) := by decide +kernel
theorem d_MO_count_6 : decode b_MO_count 6 = .ok (.iconst 0, 1) := by decide +kernel
theorem d_MO_count_7 : decode b_MO_count 7 = .ok (.iconst 4, 1) := by decide +kernel
theorem d_MO_count_8 : decode b_MO_count 8 = .ok (.invokestatic 115, 3) := by decide +kernel
theorem d_MO_count_11 : decode b_MO_count 11 = .ok (.ifCond .ne 9, 3) := by decide +kernel
theorem d_MO_count_14 : decode b_MO_count 14 = .ok (.aload_n 0, 1) := by decide +kernel
theorem d_MO_count_15 : decode b_MO_count 15 = .ok (.iconst 1, 1) := by decide +kernel
theorem d_MO_count_16 : decode b_MO_count 16 = .ok (.invokevirtual 119, 3) := by decide +kernel
theorem d_MO_count_19 : decode b_MO_count 19 = .ok (.ireturn, 1) := by decide +kernel
theorem d_MO_count_20 : decode b_MO_count 20 = .ok (.aload_n 0, 1) := by decide +kernel
theorem d_MO_count_21 : decode b_MO_count 21 = .ok (.getfield 321, 3) := by decide +kernel
theorem d_MO_count_24 : decode b_MO_count 24 = .ok (.ifCond .ne 5, 3) := by decide +kernel
theorem d_MO_count_27 : decode b_MO_count 27 = .ok (.iconst 0, 1) := by decide +kernel
theorem d_MO_count_28 : decode b_MO_count 28 = .ok (.ireturn, 1) := by decide +kernel
theorem d_MO_count_29 : decode b_MO_count 29 = .ok (.iload_n 1, 1) := by decide +kernel
theorem d_MO_count_30 : decode b_MO_count 30 = .ok (.iconst 3, 1) := by decide +kernel
theorem d_MO_count_31 : decode b_MO_count 31 = .ok (.if_icmp .ge 31, 3) := by decide +kernel
theorem d_MO_count_34 : decode b_MO_count 34 = .ok (.iload_n 1, 1) := by decide +kernel
theorem d_MO_count_35 : decode b_MO_count 35 = .ok (.ifCond .ne 10, 3) := by decide +kernel
theorem d_MO_count_38 : decode b_MO_count 38 = .ok (.aload_n 0, 1) := by decide +kernel
theorem d_MO_count_39 : decode b_MO_count 39 = .ok (.getfield 240, 3) := by decide +kernel
theorem d_MO_count_42 : decode b_MO_count 42 = .ok (.goto 19, 3) := by decide +kernel
theorem d_MO_count_45 : decode b_MO_count 45 = .ok (.iload_n 1, 1) := by decide +kernel
theorem d_MO_count_46 : decode b_MO_count 46 = .ok (.iconst 1, 1) := by decide +kernel
theorem d_MO_count_47 : decode b_MO_count 47 = .ok (.if_icmp .ne 10, 3) := by decide +kernel
theorem d_MO_count_50 : decode b_MO_count 50 = .ok (.aload_n 0, 1) := by decide +kernel
theorem d_MO_count_51 : decode b_MO_count 51 = .ok (.getfield 131, 3) := by decide +kernel
theorem d_MO_count_54 : decode b_MO_count 54 = .ok (.goto 7, 3) := by decide +kernel
theorem d_MO_count_57 : decode b_MO_count 57 = .ok (.aload_n 0, 1) := by decide +kernel
theorem d_MO_count_58 : decode b_MO_count 58 = .ok (.getfield 351, 3) := by decide +kernel
theorem d_MO_count_61 : decode b_MO_count 61 = .ok (.ireturn, 1) := by decide +kernel
theorem d_MO_count_62 : decode b_MO_count 62 = .ok (.iload_n 1, 1) := by decide +kernel
theorem d_MO_count_63 : decode b_MO_count 63 = .ok (.iconst 3, 1) := by decide +kernel
theorem d_MO_count_64 : decode b_MO_count 64 = .ok (.if_icmp .ne 10, 3) := by decide +kernel
theorem d_MO_count_67 : decode b_MO_count 67 = .ok (.aload_n 0, 1) := by decide +kernel
theorem d_MO_count_68 : decode b_MO_count 68 = .ok (.getfield 345, 3) := by decide +kernel
theorem d_MO_count_71 : decode b_MO_count 71 = .ok (.goto 7, 3) := by decide +kernel
theorem d_MO_count_74 : decode b_MO_count 74 = .ok (.aload_n 0, 1) := by decide +kernel
theorem d_MO_count_75 : decode b_MO_count 75 = .ok (.getfield 342, 3) := by decide +kernel
theorem d_MO_count_78 : decode b_MO_count 78 = .ok (.ireturn, 1) := by decide +kernel
theorem d_MO_form_0 : decode b_MO_form 0 = .ok (.aload_n 0, 1) := by decide +kernel
theorem d_MO_form_1 : decode b_MO_form 1 = .ok (.iconst 0, 1) := by decide +kernel
theorem d_MO_form_2 : decode b_MO_form 2 = .ok (.putfield 112, 3) := by decide +kernel
theorem d_MO_form_5 : decode b_MO_form 5 = .ok (.aload_n 0, 1) := by decide +kernel
theorem d_MO_form_6 : decode b_MO_form 6 = .ok (.getfield 321, 3) := by decide +kernel
theorem d_MO_form_9 : decode b_MO_form 9 = .ok (.ifCond .eq 26, 3) := by decide +kernel
theorem d_MO_form_12 : decode b_MO_form 12 = .ok (.iload_n 1, 1) := by decide +kernel
theorem d_MO_form_13 : decode b_MO_form 13 = .ok (.iconst (-1), 1) := by decide +kernel
theorem d_MO_form_14 : decode b_MO_form 14 = .ok (.aload_n 0, 1) := by decide +kernel
theorem d_MO_form_15 : decode b_MO_form 15 = .ok (.getfield 240, 3) := by decide +kernel
theorem d_MO_form_18 : decode b_MO_form 18 = .ok (.iconst 1, 1) := by decide +kernel
theorem d_MO_form_19 : decode b_MO_form 19 = .ok (.isub, 1) := by decide +kernel
theorem d_MO_form_20 : decode b_MO_form 20 = .ok (.invokestatic 115, 3) := by decide +kernel
theorem d_MO_form_23 : decode b_MO_form 23 = .ok (.ifCond .eq 12, 3) := by decide +kernel
theorem d_MO_form_26 : decode b_MO_form 26 = .ok (.iload_n 2, 1) := by decide +kernel
theorem d_MO_form_27 : decode b_MO_form 27 = .ok (.iconst 0, 1) := by decide +kernel
theorem d_MO_form_28 : decode b_MO_form 28 = .ok (.iconst 2, 1) := by decide +kernel
theorem d_MO_form_29 : decode b_MO_form 29 = .ok (.invokestatic 115, 3) := by decide +kernel
theorem d_MO_form_32 : decode b_MO_form 32 = .ok (.ifCond .ne 9, 3) := by decide +kernel
theorem d_MO_form_35 : decode b_MO_form 35 = .ok (.aload_n 0, 1) := by decide +kernel
theorem d_MO_form_36 : decode b_MO_form 36 = .ok (.iconst 1, 1) := by decide +kernel
theorem d_MO_form_37 : decode b_MO_form 37 = .ok (.invokevirtual 119, 3) := by decide +kernel
theorem d_MO_form_40 : decode b_MO_form 40 = .ok (.ireturn, 1) := by decide +kernel
theorem d_MO_form_41 : decode b_MO_form 41 = .ok (.aload_n 0, 1) := by decide +kernel
theorem d_MO_form_42 : decode b_MO_form 42 = .ok (.getfield 69, 3) := by decide +kernel
theorem d_MO_form_45 : decode b_MO_form 45 = .ok (.iconst 3, 1) := by decide +kernel
theorem d_MO_form_46 : decode b_MO_form 46 = .ok (.iload_n 1, 1) := by decide +kernel
theorem d_MO_form_47 : decode b_MO_form 47 = .ok (.ifCond .ge 8, 3) := by decide +kernel
theorem d_MO_form_50 : decode b_MO_form 50 = .ok (.bipush 8, 2) := by decide +kernel
theorem d_MO_form_52 : decode b_MO_form 52 = .ok (.goto 4, 3) := by decide +kernel
theorem d_MO_form_55 : decode b_MO_form 55 = .ok (.iload_n 1, 1) := by decide +kernel
theorem d_MO_form_56 : decode b_MO_form 56 = .ok (.imul, 1) := by decide +kernel
theorem d_MO_form_57 : decode b_MO_form 57 = .ok (.iload_n 2, 1) := by decide +kernel
theorem d_MO_form_58 : decode b_MO_form 58 = .ok (.iadd, 1) := by decide +kernel
theorem d_MO_form_59 : decode b_MO_form 59 = .ok (.iaload, 1) := by decide +kernel
theorem d_MO_form_60 : decode b_MO_form 60 = .ok (.ireturn, 1) := by decide +kernel
theorem d_LW_cell_0 : decode b_LW_cell 0 = .ok (.iload_n 1, 1) := by decide +kernel
theorem d_LW_cell_1 : decode b_LW_cell 1 = .ok (.aload_n 0, 1) := by decide +kernel
theorem d_LW_cell_2 : decode b_LW_cell 2 = .ok (.arraylength, 1) := by decide +kernel
theorem d_LW_cell_3 : decode b_LW_cell 3 = .ok (.if_icmp .ge 9, 3) := by decide +kernel
theorem d_LW_cell_6 : decode b_LW_cell 6 = .ok (.aload_n 0, 1) := by decide +kernel
theorem d_LW_cell_7 : decode b_LW_cell 7 = .ok (.iload_n 1, 1) := by decide +kernel
theorem d_LW_cell_8 : decode b_LW_cell 8 = .ok (.iaload, 1) := by decide +kernel
theorem d_LW_cell_9 : decode b_LW_cell 9 = .ok (.goto 4, 3) := by decide +kernel
theorem d_LW_cell_12 : decode b_LW_cell 12 = .ok (.iconst 0, 1) := by decide +kernel
theorem d_LW_cell_13 : decode b_LW_cell 13 = .ok (.ireturn, 1) := by decide +kernel
theorem d_LW_write_0 : decode b_LW_write 0 = .ok (.aload 4, 2) := by decide +kernel
theorem d_LW_write_2 : decode b_LW_write 2 = .ok (.iconst 0, 1) := by decide +kernel
theorem d_LW_write_3 : decode b_LW_write 3 = .ok (.aload_n 0, 1) := by decide +kernel
theorem d_LW_write_4 : decode b_LW_write 4 = .ok (.lload_n 1, 1) := by decide +kernel
theorem d_LW_write_5 : decode b_LW_write 5 = .ok (.iload_n 3, 1) := by decide +kernel
theorem d_LW_write_6 : decode b_LW_write 6 = .ok (.invokevirtual 7, 3) := by decide +kernel
theorem d_LW_write_9 : decode b_LW_write 9 = .ok (.i2l, 1) := by decide +kernel
theorem d_LW_write_10 : decode b_LW_write 10 = .ok (.lastore, 1) := by decide +kernel
theorem d_LW_write_11 : decode b_LW_write 11 = .ok (.goto 11, 3) := by decide +kernel
theorem d_LW_write_14 : decode b_LW_write 14 = .ok (.astore 5, 2) := by decide +kernel
theorem d_LW_write_16 : decode b_LW_write 16 = .ok (.iconst 1, 1) := by decide +kernel
theorem d_LW_write_17 : decode b_LW_write 17 = .ok (.ireturn, 1) := by decide +kernel
theorem d_LW_write_18 : decode b_LW_write 18 = .ok (.astore 5, 2) := by decide +kernel
theorem d_LW_write_20 : decode b_LW_write 20 = .ok (.iconst 2, 1) := by decide +kernel
theorem d_LW_write_21 : decode b_LW_write 21 = .ok (.ireturn, 1) := by decide +kernel
theorem d_LW_write_22 : decode b_LW_write 22 = .ok (.iconst 0, 1) := by decide +kernel
theorem d_LW_write_23 : decode b_LW_write 23 = .ok (.ireturn, 1) := by decide +kernel
theorem d_LW_read_0 : decode b_LW_read 0 = .ok (.aload_n 1, 1) := by decide +kernel
theorem d_LW_read_1 : decode b_LW_read 1 = .ok (.iconst 0, 1) := by decide +kernel
theorem d_LW_read_2 : decode b_LW_read 2 = .ok (.aload_n 0, 1) := by decide +kernel
theorem d_LW_read_3 : decode b_LW_read 3 = .ok (.invokevirtual 17, 3) := by decide +kernel
theorem d_LW_read_6 : decode b_LW_read 6 = .ok (.i2l, 1) := by decide +kernel
theorem d_LW_read_7 : decode b_LW_read 7 = .ok (.lastore, 1) := by decide +kernel
theorem d_LW_read_8 : decode b_LW_read 8 = .ok (.goto 12, 3) := by decide +kernel
theorem d_LW_read_11 : decode b_LW_read 11 = .ok (.astore_n 2, 1) := by decide +kernel
theorem d_LW_read_12 : decode b_LW_read 12 = .ok (.iconst 1, 1) := by decide +kernel
theorem d_LW_read_13 : decode b_LW_read 13 = .ok (.ireturn, 1) := by decide +kernel
theorem d_LW_read_14 : decode b_LW_read 14 = .ok (.astore_n 2, 1) := by decide +kernel
theorem d_LW_read_15 : decode b_LW_read 15 = .ok (.iconst 2, 1) := by decide +kernel
theorem d_LW_read_16 : decode b_LW_read 16 = .ok (.ireturn, 1) := by decide +kernel
theorem d_LW_read_17 : decode b_LW_read 17 = .ok (.astore_n 2, 1) := by decide +kernel
theorem d_LW_read_18 : decode b_LW_read 18 = .ok (.iconst 3, 1) := by decide +kernel
theorem d_LW_read_19 : decode b_LW_read 19 = .ok (.ireturn, 1) := by decide +kernel
theorem d_LW_read_20 : decode b_LW_read 20 = .ok (.iconst 0, 1) := by decide +kernel
theorem d_LW_read_21 : decode b_LW_read 21 = .ok (.ireturn, 1) := by decide +kernel
theorem d_LW_run_0 : decode b_LW_run 0 = .ok (.aload_n 2, 1) := by decide +kernel
theorem d_LW_run_1 : decode b_LW_run 1 = .ok (.iconst 0, 1) := by decide +kernel
theorem d_LW_run_2 : decode b_LW_run 2 = .ok (.aload_n 0, 1) := by decide +kernel
theorem d_LW_run_3 : decode b_LW_run 3 = .ok (.iload_n 1, 1) := by decide +kernel
theorem d_LW_run_4 : decode b_LW_run 4 = .ok (.invokevirtual 23, 3) := by decide +kernel
theorem d_LW_run_7 : decode b_LW_run 7 = .ok (.i2l, 1) := by decide +kernel
theorem d_LW_run_8 : decode b_LW_run 8 = .ok (.lastore, 1) := by decide +kernel
theorem d_LW_run_9 : decode b_LW_run 9 = .ok (.goto 9, 3) := by decide +kernel
theorem d_LW_run_12 : decode b_LW_run 12 = .ok (.astore_n 3, 1) := by decide +kernel
theorem d_LW_run_13 : decode b_LW_run 13 = .ok (.iconst 1, 1) := by decide +kernel
theorem d_LW_run_14 : decode b_LW_run 14 = .ok (.ireturn, 1) := by decide +kernel
theorem d_LW_run_15 : decode b_LW_run 15 = .ok (.astore_n 3, 1) := by decide +kernel
theorem d_LW_run_16 : decode b_LW_run 16 = .ok (.iconst 2, 1) := by decide +kernel
theorem d_LW_run_17 : decode b_LW_run 17 = .ok (.ireturn, 1) := by decide +kernel
theorem d_LW_run_18 : decode b_LW_run 18 = .ok (.iconst 0, 1) := by decide +kernel
theorem d_LW_run_19 : decode b_LW_run 19 = .ok (.ireturn, 1) := by decide +kernel
theorem d_LW_letter_0 : decode b_LW_letter 0 = .ok (.aload_n 2, 1) := by decide +kernel
theorem d_LW_letter_1 : decode b_LW_letter 1 = .ok (.iconst 0, 1) := by decide +kernel
theorem d_LW_letter_2 : decode b_LW_letter 2 = .ok (.aload_n 0, 1) := by decide +kernel
theorem d_LW_letter_3 : decode b_LW_letter 3 = .ok (.iload_n 1, 1) := by decide +kernel
theorem d_LW_letter_4 : decode b_LW_letter 4 = .ok (.invokevirtual 27, 3) := by decide +kernel
theorem d_LW_letter_7 : decode b_LW_letter 7 = .ok (.i2l, 1) := by decide +kernel
theorem d_LW_letter_8 : decode b_LW_letter 8 = .ok (.lastore, 1) := by decide +kernel
theorem d_LW_letter_9 : decode b_LW_letter 9 = .ok (.goto 6, 3) := by decide +kernel
theorem d_LW_letter_12 : decode b_LW_letter 12 = .ok (.astore_n 3, 1) := by decide +kernel
theorem d_LW_letter_13 : decode b_LW_letter 13 = .ok (.iconst 1, 1) := by decide +kernel
theorem d_LW_letter_14 : decode b_LW_letter 14 = .ok (.ireturn, 1) := by decide +kernel
theorem d_LW_letter_15 : decode b_LW_letter 15 = .ok (.iconst 0, 1) := by decide +kernel
theorem d_LW_letter_16 : decode b_LW_letter 16 = .ok (.ireturn, 1) := by decide +kernel
theorem d_LW_reached_0 : decode b_LW_reached 0 = .ok (.aload_n 1, 1) := by decide +kernel
theorem d_LW_reached_1 : decode b_LW_reached 1 = .ok (.iconst 0, 1) := by decide +kernel
theorem d_LW_reached_2 : decode b_LW_reached 2 = .ok (.aload_n 0, 1) := by decide +kernel
theorem d_LW_reached_3 : decode b_LW_reached 3 = .ok (.invokevirtual 32, 3) := by decide +kernel
theorem d_LW_reached_6 : decode b_LW_reached 6 = .ok (.i2l, 1) := by decide +kernel
theorem d_LW_reached_7 : decode b_LW_reached 7 = .ok (.lastore, 1) := by decide +kernel
theorem d_LW_reached_8 : decode b_LW_reached 8 = .ok (.goto 6, 3) := by decide +kernel
theorem d_LW_reached_11 : decode b_LW_reached 11 = .ok (.astore_n 2, 1) := by decide +kernel
theorem d_LW_reached_12 : decode b_LW_reached 12 = .ok (.iconst 1, 1) := by decide +kernel
theorem d_LW_reached_13 : decode b_LW_reached 13 = .ok (.ireturn, 1) := by decide +kernel
theorem d_LW_reached_14 : decode b_LW_reached 14 = .ok (.iconst 0, 1) := by decide +kernel
theorem d_LW_reached_15 : decode b_LW_reached 15 = .ok (.ireturn, 1) := by decide +kernel
theorem d_LW_count_0 : decode b_LW_count 0 = .ok (.aload_n 2, 1) := by decide +kernel
theorem d_LW_count_1 : decode b_LW_count 1 = .ok (.iconst 0, 1) := by decide +kernel
theorem d_LW_count_2 : decode b_LW_count 2 = .ok (.aload_n 0, 1) := by decide +kernel
theorem d_LW_count_3 : decode b_LW_count 3 = .ok (.iload_n 1, 1) := by decide +kernel
theorem d_LW_count_4 : decode b_LW_count 4 = .ok (.invokevirtual 35, 3) := by decide +kernel
theorem d_LW_count_7 : decode b_LW_count 7 = .ok (.i2l, 1) := by decide +kernel
theorem d_LW_count_8 : decode b_LW_count 8 = .ok (.lastore, 1) := by decide +kernel
theorem d_LW_count_9 : decode b_LW_count 9 = .ok (.goto 6, 3) := by decide +kernel
theorem d_LW_count_12 : decode b_LW_count 12 = .ok (.astore_n 3, 1) := by decide +kernel
theorem d_LW_count_13 : decode b_LW_count 13 = .ok (.iconst 1, 1) := by decide +kernel
theorem d_LW_count_14 : decode b_LW_count 14 = .ok (.ireturn, 1) := by decide +kernel
theorem d_LW_count_15 : decode b_LW_count 15 = .ok (.iconst 0, 1) := by decide +kernel
theorem d_LW_count_16 : decode b_LW_count 16 = .ok (.ireturn, 1) := by decide +kernel
theorem d_LW_form_0 : decode b_LW_form 0 = .ok (.aload_n 3, 1) := by decide +kernel
theorem d_LW_form_1 : decode b_LW_form 1 = .ok (.iconst 0, 1) := by decide +kernel
theorem d_LW_form_2 : decode b_LW_form 2 = .ok (.aload_n 0, 1) := by decide +kernel
theorem d_LW_form_3 : decode b_LW_form 3 = .ok (.iload_n 1, 1) := by decide +kernel
theorem d_LW_form_4 : decode b_LW_form 4 = .ok (.iload_n 2, 1) := by decide +kernel
theorem d_LW_form_5 : decode b_LW_form 5 = .ok (.invokevirtual 38, 3) := by decide +kernel
theorem d_LW_form_8 : decode b_LW_form 8 = .ok (.i2l, 1) := by decide +kernel
theorem d_LW_form_9 : decode b_LW_form 9 = .ok (.lastore, 1) := by decide +kernel
theorem d_LW_form_10 : decode b_LW_form 10 = .ok (.goto 7, 3) := by decide +kernel
theorem d_LW_form_13 : decode b_LW_form 13 = .ok (.astore 4, 2) := by decide +kernel
theorem d_LW_form_15 : decode b_LW_form 15 = .ok (.iconst 1, 1) := by decide +kernel
theorem d_LW_form_16 : decode b_LW_form 16 = .ok (.ireturn, 1) := by decide +kernel
theorem d_LW_form_17 : decode b_LW_form 17 = .ok (.iconst 0, 1) := by decide +kernel
theorem d_LW_form_18 : decode b_LW_form 18 = .ok (.ireturn, 1) := by decide +kernel
