theorem d_TH_init_0 : decode b_TH_init 0 = .ok (.aload_n 0, 1) := by decide +kernel
theorem d_TH_init_1 : decode b_TH_init 1 = .ok (.invokespecial 1, 3) := by decide +kernel
theorem d_TH_init_4 : decode b_TH_init 4 = .ok (.aload_n 0, 1) := by decide +kernel
theorem d_TH_init_5 : decode b_TH_init 5 = .ok (.sipush 240, 3) := by decide +kernel
theorem d_TH_init_8 : decode b_TH_init 8 = .ok (.newarray .char, 2) := by decide +kernel
theorem d_TH_init_10 : decode b_TH_init 10 = .ok (.putfield 9, 3) := by decide +kernel
theorem d_TH_init_13 : decode b_TH_init 13 = .ok (.aload_n 0, 1) := by decide +kernel
theorem d_TH_init_14 : decode b_TH_init 14 = .ok (.iconst 0, 1) := by decide +kernel
theorem d_TH_init_15 : decode b_TH_init 15 = .ok (.putfield 13, 3) := by decide +kernel
theorem d_TH_init_18 : decode b_TH_init 18 = .ok (.aload_n 0, 1) := by decide +kernel
theorem d_TH_init_19 : decode b_TH_init 19 = .ok (.new 17, 3) := by decide +kernel
theorem d_TH_init_22 : decode b_TH_init 22 = .ok (.dup, 1) := by decide +kernel
theorem d_TH_init_23 : decode b_TH_init 23 = .ok (.invokespecial 19, 3) := by decide +kernel
theorem d_TH_init_26 : decode b_TH_init 26 = .ok (.putfield 20, 3) := by decide +kernel
theorem d_TH_init_29 : decode b_TH_init 29 = .ok (.aload_n 0, 1) := by decide +kernel
theorem d_TH_init_30 : decode b_TH_init 30 = .ok (.new 24, 3) := by decide +kernel
theorem d_TH_init_33 : decode b_TH_init 33 = .ok (.dup, 1) := by decide +kernel
theorem d_TH_init_34 : decode b_TH_init 34 = .ok (.invokespecial 26, 3) := by decide +kernel
theorem d_TH_init_37 : decode b_TH_init 37 = .ok (.putfield 27, 3) := by decide +kernel
theorem d_TH_init_40 : decode b_TH_init 40 = .ok (.aload_n 0, 1) := by decide +kernel
theorem d_TH_init_41 : decode b_TH_init 41 = .ok (.new 31, 3) := by decide +kernel
theorem d_TH_init_44 : decode b_TH_init 44 = .ok (.dup, 1) := by decide +kernel
theorem d_TH_init_45 : decode b_TH_init 45 = .ok (.aload_n 0, 1) := by decide +kernel
theorem d_TH_init_46 : decode b_TH_init 46 = .ok (.getfield 20, 3) := by decide +kernel
theorem d_TH_init_49 : decode b_TH_init 49 = .ok (.aload_n 0, 1) := by decide +kernel
theorem d_TH_init_50 : decode b_TH_init 50 = .ok (.getfield 27, 3) := by decide +kernel
theorem d_TH_init_53 : decode b_TH_init 53 = .ok (.invokespecial 33, 3) := by decide +kernel
theorem d_TH_init_56 : decode b_TH_init 56 = .ok (.putfield 36, 3) := by decide +kernel
theorem d_TH_init_59 : decode b_TH_init 59 = .ok (.aload_n 0, 1) := by decide +kernel
theorem d_TH_init_60 : decode b_TH_init 60 = .ok (.new 40, 3) := by decide +kernel
theorem d_TH_init_63 : decode b_TH_init 63 = .ok (.dup, 1) := by decide +kernel
theorem d_TH_init_64 : decode b_TH_init 64 = .ok (.invokespecial 42, 3) := by decide +kernel
theorem d_TH_init_67 : decode b_TH_init 67 = .ok (.putfield 43, 3) := by decide +kernel
theorem d_TH_init_70 : decode b_TH_init 70 = .ok (.aload_n 0, 1) := by decide +kernel
theorem d_TH_init_71 : decode b_TH_init 71 = .ok (.new 47, 3) := by decide +kernel
theorem d_TH_init_74 : decode b_TH_init 74 = .ok (.dup, 1) := by decide +kernel
theorem d_TH_init_75 : decode b_TH_init 75 = .ok (.bipush 40, 2) := by decide +kernel
theorem d_TH_init_77 : decode b_TH_init 77 = .ok (.sipush 400, 3) := by decide +kernel
theorem d_TH_init_80 : decode b_TH_init 80 = .ok (.iload_n 1, 1) := by decide +kernel
theorem d_TH_init_81 : decode b_TH_init 81 = .ok (.invokestatic 49, 3) := by decide +kernel
theorem d_TH_init_84 : decode b_TH_init 84 = .ok (.invokestatic 55, 3) := by decide +kernel
theorem d_TH_init_87 : decode b_TH_init 87 = .ok (.invokespecial 58, 3) := by decide +kernel
theorem d_TH_init_90 : decode b_TH_init 90 = .ok (.putfield 61, 3) := by decide +kernel
theorem d_TH_init_93 : decode b_TH_init 93 = .ok (.aload_n 0, 1) := by decide +kernel
theorem d_TH_init_94 : decode b_TH_init 94 = .ok (.new 65, 3) := by decide +kernel
theorem d_TH_init_97 : decode b_TH_init 97 = .ok (.dup, 1) := by decide +kernel
theorem d_TH_init_98 : decode b_TH_init 98 = .ok (.invokespecial 67, 3) := by decide +kernel
theorem d_TH_init_101 : decode b_TH_init 101 = .ok (.putfield 68, 3) := by decide +kernel
theorem d_TH_init_104 : decode b_TH_init 104 = .ok (.aload_n 0, 1) := by decide +kernel
theorem d_TH_init_105 : decode b_TH_init 105 = .ok (.new 72, 3) := by decide +kernel
theorem d_TH_init_108 : decode b_TH_init 108 = .ok (.dup, 1) := by decide +kernel
theorem d_TH_init_109 : decode b_TH_init 109 = .ok (.aload_n 0, 1) := by decide +kernel
theorem d_TH_init_110 : decode b_TH_init 110 = .ok (.getfield 61, 3) := by decide +kernel
theorem d_TH_init_113 : decode b_TH_init 113 = .ok (.aload_n 0, 1) := by decide +kernel
theorem d_TH_init_114 : decode b_TH_init 114 = .ok (.getfield 68, 3) := by decide +kernel
theorem d_TH_init_117 : decode b_TH_init 117 = .ok (.invokespecial 74, 3) := by decide +kernel
theorem d_TH_init_120 : decode b_TH_init 120 = .ok (.putfield 77, 3) := by decide +kernel
theorem d_TH_init_123 : decode b_TH_init 123 = .ok (.aload_n 0, 1) := by decide +kernel
theorem d_TH_init_124 : decode b_TH_init 124 = .ok (.iconst 0, 1) := by decide +kernel
theorem d_TH_init_125 : decode b_TH_init 125 = .ok (.putfield 81, 3) := by decide +kernel
theorem d_TH_init_128 : decode b_TH_init 128 = .ok (.return_, 1) := by decide +kernel
theorem d_TH_write_0 : decode b_TH_write 0 = .ok (.iload_n 3, 1) := by decide +kernel
theorem d_TH_write_1 : decode b_TH_write 1 = .ok (.iconst 1, 1) := by decide +kernel
theorem d_TH_write_2 : decode b_TH_write 2 = .ok (.if_icmp .lt 9, 3) := by decide +kernel
theorem d_TH_write_5 : decode b_TH_write 5 = .ok (.iload_n 3, 1) := by decide +kernel
theorem d_TH_write_6 : decode b_TH_write 6 = .ok (.bipush 8, 2) := by decide +kernel
theorem d_TH_write_8 : decode b_TH_write 8 = .ok (.if_icmp .le 13, 3) := by decide +kernel
theorem d_TH_write_11 : decode b_TH_write 11 = .ok (.new 85, 3) := by decide +kernel
theorem d_TH_write_14 : decode b_TH_write 14 = .ok (.dup, 1) := by decide +kernel
theorem d_TH_write_15 : decode b_TH_write 15 = .ok (.ldc 87, 2) := by decide +kernel
theorem d_TH_write_17 : decode b_TH_write 17 = .ok (.invokespecial 89, 3) := by decide +kernel
theorem d_TH_write_20 : decode b_TH_write 20 = .ok (.athrow, 1) := by decide +kernel
theorem d_TH_write_21 : decode b_TH_write 21 = .ok (.iconst 0, 1) := by decide +kernel
theorem d_TH_write_22 : decode b_TH_write 22 = .ok (.istore 4, 2) := by decide +kernel
theorem d_TH_write_24 : decode b_TH_write 24 = .ok (.iload 4, 2) := by decide +kernel
theorem d_TH_write_26 : decode b_TH_write 26 = .ok (.iload_n 3, 1) := by decide +kernel
theorem d_TH_write_27 : decode b_TH_write 27 = .ok (.if_icmp .ge 31, 3) := by decide +kernel
theorem d_TH_write_30 : decode b_TH_write 30 = .ok (.lload_n 1, 1) := by decide +kernel
theorem d_TH_write_31 : decode b_TH_write 31 = .ok (.iload 4, 2) := by decide +kernel
theorem d_TH_write_33 : decode b_TH_write 33 = .ok (.invokestatic 92, 3) := by decide +kernel
theorem d_TH_write_36 : decode b_TH_write 36 = .ok (.invokestatic 96, 3) := by decide +kernel
theorem d_TH_write_39 : decode b_TH_write 39 = .ok (.ifCond .ne 13, 3) := by decide +kernel
theorem d_TH_write_42 : decode b_TH_write 42 = .ok (.new 85, 3) := by decide +kernel
theorem d_TH_write_45 : decode b_TH_write 45 = .ok (.dup, 1) := by decide +kernel
theorem d_TH_write_46 : decode b_TH_write 46 = .ok (.ldc 100, 2) := by decide +kernel
theorem d_TH_write_48 : decode b_TH_write 48 = .ok (.invokespecial 89, 3) := by decide +kernel
theorem d_TH_write_51 : decode b_TH_write 51 = .ok (.athrow, 1) := by decide +kernel
theorem d_TH_write_52 : decode b_TH_write 52 = .ok (.iinc 4 1, 3) := by decide +kernel
theorem d_TH_write_55 : decode b_TH_write 55 = .ok (.goto (-31), 3) := by decide +kernel
theorem d_TH_write_58 : decode b_TH_write 58 = .ok (.aload_n 0, 1) := by decide +kernel
theorem d_TH_write_59 : decode b_TH_write 59 = .ok (.getfield 13, 3) := by decide +kernel
theorem d_TH_write_62 : decode b_TH_write 62 = .ok (.iload_n 3, 1) := by decide +kernel
theorem d_TH_write_63 : decode b_TH_write 63 = .ok (.iadd, 1) := by decide +kernel
theorem d_TH_write_64 : decode b_TH_write 64 = .ok (.sipush 240, 3) := by decide +kernel
theorem d_TH_write_67 : decode b_TH_write 67 = .ok (.if_icmp .le 13, 3) := by decide +kernel
theorem d_TH_write_70 : decode b_TH_write 70 = .ok (.new 102, 3) := by decide +kernel
theorem d_TH_write_73 : decode b_TH_write 73 = .ok (.dup, 1) := by decide +kernel
theorem d_TH_write_74 : decode b_TH_write 74 = .ok (.ldc 104, 2) := by decide +kernel
theorem d_TH_write_76 : decode b_TH_write 76 = .ok (.invokespecial 106, 3) := by decide +kernel
theorem d_TH_write_79 : decode b_TH_write 79 = .ok (.athrow, 1) := by decide +kernel
theorem d_TH_write_80 : decode b_TH_write 80 = .ok (.iconst 0, 1) := by decide +kernel
theorem d_TH_write_81 : decode b_TH_write 81 = .ok (.istore 4, 2) := by decide +kernel
theorem d_TH_write_83 : decode b_TH_write 83 = .ok (.iload 4, 2) := by decide +kernel
theorem d_TH_write_85 : decode b_TH_write 85 = .ok (.iload_n 3, 1) := by decide +kernel
theorem d_TH_write_86 : decode b_TH_write 86 = .ok (.if_icmp .ge 35, 3) := by decide +kernel
theorem d_TH_write_89 : decode b_TH_write 89 = .ok (.aload_n 0, 1) := by decide +kernel
theorem d_TH_write_90 : decode b_TH_write 90 = .ok (.getfield 9, 3) := by decide +kernel
theorem d_TH_write_93 : decode b_TH_write 93 = .ok (.aload_n 0, 1) := by decide +kernel
theorem d_TH_write_94 : decode b_TH_write 94 = .ok (.getfield 13, 3) := by decide +kernel
theorem d_TH_write_97 : decode b_TH_write 97 = .ok (.lload_n 1, 1) := by decide +kernel
theorem d_TH_write_98 : decode b_TH_write 98 = .ok (.iload 4, 2) := by decide +kernel
theorem d_TH_write_100 : decode b_TH_write 100 = .ok (.invokestatic 92, 3) := by decide +kernel
theorem d_TH_write_103 : decode b_TH_write 103 = .ok (.i2c, 1) := by decide +kernel
theorem d_TH_write_104 : decode b_TH_write 104 = .ok (.castore, 1) := by decide +kernel
theorem d_TH_write_105 : decode b_TH_write 105 = .ok (.aload_n 0, 1) := by decide +kernel
theorem d_TH_write_106 : decode b_TH_write 106 = .ok (.dup, 1) := by decide +kernel
theorem d_TH_write_107 : decode b_TH_write 107 = .ok (.getfield 13, 3) := by decide +kernel
theorem d_TH_write_110 : decode b_TH_write 110 = .ok (.iconst 1, 1) := by decide +kernel
theorem d_TH_write_111 : decode b_TH_write 111 = .ok (.iadd, 1) := by decide +kernel
theorem d_TH_write_112 : decode b_TH_write 112 = .ok (.putfield 13, 3) := by decide +kernel
theorem d_TH_write_115 : decode b_TH_write 115 = .ok (.iinc 4 1, 3) := by decide +kernel
theorem d_TH_write_118 : decode b_TH_write 118 = .ok (.goto (-35), 3) := by decide +kernel
theorem d_TH_write_121 : decode b_TH_write 121 = .ok (.aload_n 0, 1) := by decide +kernel
theorem d_TH_write_122 : decode b_TH_write 122 = .ok (.getfield 13, 3) := by decide +kernel
theorem d_TH_write_125 : decode b_TH_write 125 = .ok (.ireturn, 1) := by decide +kernel
theorem d_TH_erase_0 : decode b_TH_erase 0 = .ok (.aload_n 0, 1) := by decide +kernel
theorem d_TH_erase_1 : decode b_TH_erase 1 = .ok (.getfield 13, 3) := by decide +kernel
theorem d_TH_erase_4 : decode b_TH_erase 4 = .ok (.istore_n 1, 1) := by decide +kernel
theorem d_TH_erase_5 : decode b_TH_erase 5 = .ok (.aload_n 0, 1) := by decide +kernel
theorem d_TH_erase_6 : decode b_TH_erase 6 = .ok (.iconst 0, 1) := by decide +kernel
theorem d_TH_erase_7 : decode b_TH_erase 7 = .ok (.putfield 13, 3) := by decide +kernel
theorem d_TH_erase_10 : decode b_TH_erase 10 = .ok (.iload_n 1, 1) := by decide +kernel
theorem d_TH_erase_11 : decode b_TH_erase 11 = .ok (.ireturn, 1) := by decide +kernel
theorem d_TH_read_0 : decode b_TH_read 0 = .ok (.aload_n 0, 1) := by decide +kernel
theorem d_TH_read_1 : decode b_TH_read 1 = .ok (.invokevirtual 107, 3) := by decide +kernel
theorem d_TH_read_4 : decode b_TH_read 4 = .ok (.aload_n 0, 1) := by decide +kernel
theorem d_TH_read_5 : decode b_TH_read 5 = .ok (.getfield 20, 3) := by decide +kernel
theorem d_TH_read_8 : decode b_TH_read 8 = .ok (.aload_n 0, 1) := by decide +kernel
theorem d_TH_read_9 : decode b_TH_read 9 = .ok (.getfield 9, 3) := by decide +kernel
theorem d_TH_read_12 : decode b_TH_read 12 = .ok (.aload_n 0, 1) := by decide +kernel
theorem d_TH_read_13 : decode b_TH_read 13 = .ok (.getfield 13, 3) := by decide +kernel
theorem d_TH_read_16 : decode b_TH_read 16 = .ok (.invokevirtual 110, 3) := by decide +kernel
theorem d_TH_read_19 : decode b_TH_read 19 = .ok (.aload_n 0, 1) := by decide +kernel
theorem d_TH_read_20 : decode b_TH_read 20 = .ok (.getfield 36, 3) := by decide +kernel
theorem d_TH_read_23 : decode b_TH_read 23 = .ok (.invokevirtual 114, 3) := by decide +kernel
theorem d_TH_read_26 : decode b_TH_read 26 = .ok (.iconst 0, 1) := by decide +kernel
theorem d_TH_read_27 : decode b_TH_read 27 = .ok (.istore_n 1, 1) := by decide +kernel
theorem d_TH_read_28 : decode b_TH_read 28 = .ok (.iload_n 1, 1) := by decide +kernel
theorem d_TH_read_29 : decode b_TH_read 29 = .ok (.aload_n 0, 1) := by decide +kernel
theorem d_TH_read_30 : decode b_TH_read 30 = .ok (.getfield 20, 3) := by decide +kernel
theorem d_TH_read_33 : decode b_TH_read 33 = .ok (.invokevirtual 117, 3) := by decide +kernel
theorem d_TH_read_36 : decode b_TH_read 36 = .ok (.if_icmp .ge 26, 3) := by decide +kernel
theorem d_TH_read_39 : decode b_TH_read 39 = .ok (.aload_n 0, 1) := by decide +kernel
theorem d_TH_read_40 : decode b_TH_read 40 = .ok (.getfield 36, 3) := by decide +kernel
theorem d_TH_read_43 : decode b_TH_read 43 = .ok (.invokevirtual 121, 3) := by decide +kernel
theorem d_TH_read_46 : decode b_TH_read 46 = .ok (.ifCond .eq 16, 3) := by decide +kernel
theorem d_TH_read_49 : decode b_TH_read 49 = .ok (.aload_n 0, 1) := by decide +kernel
theorem d_TH_read_50 : decode b_TH_read 50 = .ok (.getfield 36, 3) := by decide +kernel
theorem d_TH_read_53 : decode b_TH_read 53 = .ok (.invokevirtual 125, 3) := by decide +kernel
theorem d_TH_read_56 : decode b_TH_read 56 = .ok (.iinc 1 1, 3) := by decide +kernel
theorem d_TH_read_59 : decode b_TH_read 59 = .ok (.goto (-31), 3) := by decide +kernel
theorem d_TH_read_62 : decode b_TH_read 62 = .ok (.aload_n 0, 1) := by decide +kernel
theorem d_TH_read_63 : decode b_TH_read 63 = .ok (.getfield 36, 3) := by decide +kernel
theorem d_TH_read_66 : decode b_TH_read 66 = .ok (.invokevirtual 128, 3) := by decide +kernel
theorem d_TH_read_69 : decode b_TH_read 69 = .ok (.aload_n 0, 1) := by decide +kernel
theorem d_TH_read_70 : decode b_TH_read 70 = .ok (.getfield 36, 3) := by decide +kernel
theorem d_TH_read_73 : decode b_TH_read 73 = .ok (.invokevirtual 131, 3) := by decide +kernel
theorem d_TH_read_76 : decode b_TH_read 76 = .ok (.istore_n 1, 1) := by decide +kernel
theorem d_TH_read_77 : decode b_TH_read 77 = .ok (.aload_n 0, 1) := by decide +kernel
theorem d_TH_read_78 : decode b_TH_read 78 = .ok (.getfield 27, 3) := by decide +kernel
theorem d_TH_read_81 : decode b_TH_read 81 = .ok (.invokevirtual 134, 3) := by decide +kernel
theorem d_TH_read_84 : decode b_TH_read 84 = .ok (.ifCond .ne 14, 3) := by decide +kernel
theorem d_TH_read_87 : decode b_TH_read 87 = .ok (.iload_n 1, 1) := by decide +kernel
theorem d_TH_read_88 : decode b_TH_read 88 = .ok (.aload_n 0, 1) := by decide +kernel
theorem d_TH_read_89 : decode b_TH_read 89 = .ok (.getfield 61, 3) := by decide +kernel
theorem d_TH_read_92 : decode b_TH_read 92 = .ok (.invokevirtual 137, 3) := by decide +kernel
theorem d_TH_read_95 : decode b_TH_read 95 = .ok (.if_icmp .le 13, 3) := by decide +kernel
theorem d_TH_read_98 : decode b_TH_read 98 = .ok (.new 140, 3) := by decide +kernel
theorem d_TH_read_101 : decode b_TH_read 101 = .ok (.dup, 1) := by decide +kernel
theorem d_TH_read_102 : decode b_TH_read 102 = .ok (.ldc 142, 2) := by decide +kernel
theorem d_TH_read_104 : decode b_TH_read 104 = .ok (.invokespecial 144, 3) := by decide +kernel
theorem d_TH_read_107 : decode b_TH_read 107 = .ok (.athrow, 1) := by decide +kernel
theorem d_TH_read_108 : decode b_TH_read 108 = .ok (.aload_n 0, 1) := by decide +kernel
theorem d_TH_read_109 : decode b_TH_read 109 = .ok (.invokevirtual 145, 3) := by decide +kernel
theorem d_TH_read_112 : decode b_TH_read 112 = .ok (.iload_n 1, 1) := by decide +kernel
theorem d_TH_read_113 : decode b_TH_read 113 = .ok (.ireturn, 1) := by decide +kernel
theorem d_TH_run_0 : decode b_TH_run 0 = .ok (.iload_n 1, 1) := by decide +kernel
theorem d_TH_run_1 : decode b_TH_run 1 = .ok (.iconst 1, 1) := by decide +kernel
theorem d_TH_run_2 : decode b_TH_run 2 = .ok (.if_icmp .lt 10, 3) := by decide +kernel
theorem d_TH_run_5 : decode b_TH_run 5 = .ok (.iload_n 1, 1) := by decide +kernel
theorem d_TH_run_6 : decode b_TH_run 6 = .ok (.sipush 500, 3) := by decide +kernel
theorem d_TH_run_9 : decode b_TH_run 9 = .ok (.if_icmp .le 13, 3) := by decide +kernel
theorem d_TH_run_12 : decode b_TH_run 12 = .ok (.new 85, 3) := by decide +kernel
theorem d_TH_run_15 : decode b_TH_run 15 = .ok (.dup, 1) := by decide +kernel
theorem d_TH_run_16 : decode b_TH_run 16 = .ok (.ldc 146, 2) := by decide +kernel
theorem d_TH_run_18 : decode b_TH_run 18 = .ok (.invokespecial 89, 3) := by decide +kernel
theorem d_TH_run_21 : decode b_TH_run 21 = .ok (.athrow, 1) := by decide +kernel
theorem d_TH_run_22 : decode b_TH_run 22 = .ok (.aload_n 0, 1) := by decide +kernel
theorem d_TH_run_23 : decode b_TH_run 23 = .ok (.getfield 81, 3) := by decide +kernel
theorem d_TH_run_26 : decode b_TH_run 26 = .ok (.ifCond .eq 13, 3) := by decide +kernel
theorem d_TH_run_29 : decode b_TH_run 29 = .ok (.aload_n 0, 1) := by decide +kernel
theorem d_TH_run_30 : decode b_TH_run 30 = .ok (.getfield 77, 3) := by decide +kernel
theorem d_TH_run_33 : decode b_TH_run 33 = .ok (.invokevirtual 148, 3) := by decide +kernel
theorem d_TH_run_36 : decode b_TH_run 36 = .ok (.ifCond .eq 13, 3) := by decide +kernel
theorem d_TH_run_39 : decode b_TH_run 39 = .ok (.new 102, 3) := by decide +kernel
theorem d_TH_run_42 : decode b_TH_run 42 = .ok (.dup, 1) := by decide +kernel
theorem d_TH_run_43 : decode b_TH_run 43 = .ok (.ldc 151, 2) := by decide +kernel
theorem d_TH_run_45 : decode b_TH_run 45 = .ok (.invokespecial 106, 3) := by decide +kernel
theorem d_TH_run_48 : decode b_TH_run 48 = .ok (.athrow, 1) := by decide +kernel
theorem d_TH_run_49 : decode b_TH_run 49 = .ok (.iconst 0, 1) := by decide +kernel
theorem d_TH_run_50 : decode b_TH_run 50 = .ok (.istore_n 2, 1) := by decide +kernel
theorem d_TH_run_51 : decode b_TH_run 51 = .ok (.iload_n 2, 1) := by decide +kernel
theorem d_TH_run_52 : decode b_TH_run 52 = .ok (.iload_n 1, 1) := by decide +kernel
theorem d_TH_run_53 : decode b_TH_run 53 = .ok (.if_icmp .ge 19, 3) := by decide +kernel
theorem d_TH_run_56 : decode b_TH_run 56 = .ok (.aload_n 0, 1) := by decide +kernel
theorem d_TH_run_57 : decode b_TH_run 57 = .ok (.getfield 77, 3) := by decide +kernel
theorem d_TH_run_60 : decode b_TH_run 60 = .ok (.invokevirtual 153, 3) := by decide +kernel
theorem d_TH_run_63 : decode b_TH_run 63 = .ok (.ifCond .eq 9, 3) := by decide +kernel
theorem d_TH_run_66 : decode b_TH_run 66 = .ok (.iinc 2 1, 3) := by decide +kernel
theorem d_TH_run_69 : decode b_TH_run 69 = .ok (.goto (-18), 3) := by decide +kernel
theorem d_TH_run_72 : decode b_TH_run 72 = .ok (.iload_n 2, 1) := by decide +kernel
theorem d_TH_run_73 : decode b_TH_run 73 = .ok (.ireturn, 1) := by decide +kernel
theorem d_TH_stopped_0 : decode b_TH_stopped 0 = .ok (.aload_n 0, 1) := by decide +kernel
theorem d_TH_stopped_1 : decode b_TH_stopped 1 = .ok (.getfield 81, 3) := by decide +kernel
theorem d_TH_stopped_4 : decode b_TH_stopped 4 = .ok (.ifCond .eq 13, 3) := by decide +kernel
theorem d_TH_stopped_7 : decode b_TH_stopped 7 = .ok (.aload_n 0, 1) := by decide +kernel
theorem d_TH_stopped_8 : decode b_TH_stopped 8 = .ok (.getfield 77, 3) := by decide +kernel
theorem d_TH_stopped_11 : decode b_TH_stopped 11 = .ok (.invokevirtual 148, 3) := by decide +kernel
theorem d_TH_stopped_14 : decode b_TH_stopped 14 = .ok (.goto 4, 3) := by decide +kernel
theorem d_TH_stopped_17 : decode b_TH_stopped 17 = .ok (.iconst (-1), 1) := by decide +kernel
theorem d_TH_stopped_18 : decode b_TH_stopped 18 = .ok (.ireturn, 1) := by decide +kernel
theorem d_TH_length_0 : decode b_TH_length 0 = .ok (.aload_n 0, 1) := by decide +kernel
theorem d_TH_length_1 : decode b_TH_length 1 = .ok (.getfield 68, 3) := by decide +kernel
theorem d_TH_length_4 : decode b_TH_length 4 = .ok (.invokevirtual 156, 3) := by decide +kernel
theorem d_TH_length_7 : decode b_TH_length 7 = .ok (.ireturn, 1) := by decide +kernel
theorem d_TH_letter_0 : decode b_TH_letter 0 = .ok (.iload_n 1, 1) := by decide +kernel
theorem d_TH_letter_1 : decode b_TH_letter 1 = .ok (.ifCond .lt 14, 3) := by decide +kernel
theorem d_TH_letter_4 : decode b_TH_letter 4 = .ok (.iload_n 1, 1) := by decide +kernel
theorem d_TH_letter_5 : decode b_TH_letter 5 = .ok (.aload_n 0, 1) := by decide +kernel
theorem d_TH_letter_6 : decode b_TH_letter 6 = .ok (.getfield 68, 3) := by decide +kernel
theorem d_TH_letter_9 : decode b_TH_letter 9 = .ok (.invokevirtual 159, 3) := by decide +kernel
theorem d_TH_letter_12 : decode b_TH_letter 12 = .ok (.if_icmp .lt 13, 3) := by decide +kernel
theorem d_TH_letter_15 : decode b_TH_letter 15 = .ok (.new 162, 3) := by decide +kernel
theorem d_TH_letter_18 : decode b_TH_letter 18 = .ok (.dup, 1) := by decide +kernel
theorem d_TH_letter_19 : decode b_TH_letter 19 = .ok (.ldc 164, 2) := by decide +kernel
theorem d_TH_letter_21 : decode b_TH_letter 21 = .ok (.invokespecial 166, 3) := by decide +kernel
theorem d_TH_letter_24 : decode b_TH_letter 24 = .ok (.athrow, 1) := by decide +kernel
theorem d_TH_letter_25 : decode b_TH_letter 25 = .ok (.aload_n 0, 1) := by decide +kernel
theorem d_TH_letter_26 : decode b_TH_letter 26 = .ok (.getfield 68, 3) := by decide +kernel
theorem d_TH_letter_29 : decode b_TH_letter 29 = .ok (.iload_n 1, 1) := by decide +kernel
theorem d_TH_letter_30 : decode b_TH_letter 30 = .ok (.invokevirtual 167, 3) := by decide +kernel
theorem d_TH_letter_33 : decode b_TH_letter 33 = .ok (.ireturn, 1) := by decide +kernel
theorem d_TH_reached_0 : decode b_TH_reached 0 = .ok (.aload_n 0, 1) := by decide +kernel
theorem d_TH_reached_1 : decode b_TH_reached 1 = .ok (.getfield 81, 3) := by decide +kernel
theorem d_TH_reached_4 : decode b_TH_reached 4 = .ok (.ifCond .ne 13, 3) := by decide +kernel
theorem d_TH_reached_7 : decode b_TH_reached 7 = .ok (.new 102, 3) := by decide +kernel
theorem d_TH_reached_10 : decode b_TH_reached 10 = .ok (.dup, 1) := by decide +kernel
theorem d_TH_reached_11 : decode b_TH_reached 11 = .ok (.ldc 171, 2) := by decide +kernel
theorem d_TH_reached_13 : decode b_TH_reached 13 = .ok (.invokespecial 106, 3) := by decide +kernel
theorem d_TH_reached_16 : decode b_TH_reached 16 = .ok (.athrow, 1) := by decide +kernel
theorem d_TH_reached_17 : decode b_TH_reached 17 = .ok (.aload_n 0, 1) := by decide +kernel
theorem d_TH_reached_18 : decode b_TH_reached 18 = .ok (.getfield 77, 3) := by decide +kernel
theorem d_TH_reached_21 : decode b_TH_reached 21 = .ok (.invokevirtual 173, 3) := by decide +kernel
theorem d_TH_reached_24 : decode b_TH_reached 24 = .ok (.ireturn, 1) := by decide +kernel
theorem d_TH_count_0 : decode b_TH_count 0 = .ok (.iload_n 1, 1) := by decide +kernel
theorem d_TH_count_1 : decode b_TH_count 1 = .ok (.ifCond .lt 8, 3) := by decide +kernel
theorem d_TH_count_4 : decode b_TH_count 4 = .ok (.iload_n 1, 1) := by decide +kernel
theorem d_TH_count_5 : decode b_TH_count 5 = .ok (.iconst 4, 1) := by decide +kernel
theorem d_TH_count_6 : decode b_TH_count 6 = .ok (.if_icmp .le 13, 3) := by decide +kernel
theorem d_TH_count_9 : decode b_TH_count 9 = .ok (.new 162, 3) := by decide +kernel
theorem d_TH_count_12 : decode b_TH_count 12 = .ok (.dup, 1) := by decide +kernel
theorem d_TH_count_13 : decode b_TH_count 13 = .ok (.ldc 176, 2) := by decide +kernel
theorem d_TH_count_15 : decode b_TH_count 15 = .ok (.invokespecial 166, 3) := by decide +kernel
theorem d_TH_count_18 : decode b_TH_count 18 = .ok (.athrow, 1) := by decide +kernel
theorem d_TH_count_19 : decode b_TH_count 19 = .ok (.aload_n 0, 1) := by decide +kernel
theorem d_TH_count_20 : decode b_TH_count 20 = .ok (.getfield 81, 3) := by decide +kernel
theorem d_TH_count_23 : decode b_TH_count 23 = .ok (.ifCond .ne 5, 3) := by decide +kernel
theorem d_TH_count_26 : decode b_TH_count 26 = .ok (.iconst 0, 1) := by decide +kernel
theorem d_TH_count_27 : decode b_TH_count 27 = .ok (.ireturn, 1) := by decide +kernel
theorem d_TH_count_28 : decode b_TH_count 28 = .ok (.iload_n 1, 1) := by decide +kernel
theorem d_TH_count_29 : decode b_TH_count 29 = .ok (.tableswitch 63 0 3 #[31, 39, 47, 55], 31) := by decide +kernel
theorem d_TH_count_60 : decode b_TH_count 60 = .ok (.aload_n 0, 1) := by decide +kernel
theorem d_TH_count_61 : decode b_TH_count 61 = .ok (.getfield 36, 3) := by decide +kernel
theorem d_TH_count_64 : decode b_TH_count 64 = .ok (.invokevirtual 178, 3) := by decide +kernel
theorem d_TH_count_67 : decode b_TH_count 67 = .ok (.ireturn, 1) := by decide +kernel
theorem d_TH_count_68 : decode b_TH_count 68 = .ok (.aload_n 0, 1) := by decide +kernel
theorem d_TH_count_69 : decode b_TH_count 69 = .ok (.getfield 20, 3) := by decide +kernel
theorem d_TH_count_72 : decode b_TH_count 72 = .ok (.invokevirtual 117, 3) := by decide +kernel
theorem d_TH_count_75 : decode b_TH_count 75 = .ok (.ireturn, 1) := by decide +kernel
theorem d_TH_count_76 : decode b_TH_count 76 = .ok (.aload_n 0, 1) := by decide +kernel
theorem d_TH_count_77 : decode b_TH_count 77 = .ok (.getfield 77, 3) := by decide +kernel
theorem d_TH_count_80 : decode b_TH_count 80 = .ok (.invokevirtual 181, 3) := by decide +kernel
theorem d_TH_count_83 : decode b_TH_count 83 = .ok (.ireturn, 1) := by decide +kernel
theorem d_TH_count_84 : decode b_TH_count 84 = .ok (.aload_n 0, 1) := by decide +kernel
theorem d_TH_count_85 : decode b_TH_count 85 = .ok (.getfield 77, 3) := by decide +kernel
theorem d_TH_count_88 : decode b_TH_count 88 = .ok (.invokevirtual 184, 3) := by decide +kernel
theorem d_TH_count_91 : decode b_TH_count 91 = .ok (.ireturn, 1) := by decide +kernel
theorem d_TH_count_92 : decode b_TH_count 92 = .ok (.aload_n 0, 1) := by decide +kernel
theorem d_TH_count_93 : decode b_TH_count 93 = .ok (.getfield 77, 3) := by decide +kernel
theorem d_TH_count_96 : decode b_TH_count 96 = .ok (.invokevirtual 187, 3) := by decide +kernel
theorem d_TH_count_99 : decode b_TH_count 99 = .ok (.ireturn, 1) := by decide +kernel
theorem d_TH_form_0 : decode b_TH_form 0 = .ok (.aload_n 0, 1) := by decide +kernel
theorem d_TH_form_1 : decode b_TH_form 1 = .ok (.getfield 81, 3) := by decide +kernel
theorem d_TH_form_4 : decode b_TH_form 4 = .ok (.ifCond .eq 28, 3) := by decide +kernel
theorem d_TH_form_7 : decode b_TH_form 7 = .ok (.iload_n 1, 1) := by decide +kernel
theorem d_TH_form_8 : decode b_TH_form 8 = .ok (.iconst (-1), 1) := by decide +kernel
theorem d_TH_form_9 : decode b_TH_form 9 = .ok (.if_icmp .lt 23, 3) := by decide +kernel
theorem d_TH_form_12 : decode b_TH_form 12 = .ok (.iload_n 1, 1) := by decide +kernel
theorem d_TH_form_13 : decode b_TH_form 13 = .ok (.aload_n 0, 1) := by decide +kernel
theorem d_TH_form_14 : decode b_TH_form 14 = .ok (.getfield 36, 3) := by decide +kernel
theorem d_TH_form_17 : decode b_TH_form 17 = .ok (.invokevirtual 178, 3) := by decide +kernel
theorem d_TH_form_20 : decode b_TH_form 20 = .ok (.if_icmp .ge 12, 3) := by decide +kernel
theorem d_TH_form_23 : decode b_TH_form 23 = .ok (.iload_n 2, 1) := by decide +kernel
theorem d_TH_form_24 : decode b_TH_form 24 = .ok (.ifCond .lt 8, 3) := by decide +kernel
theorem d_TH_form_27 : decode b_TH_form 27 = .ok (.iload_n 2, 1) := by decide +kernel
theorem d_TH_form_28 : decode b_TH_form 28 = .ok (.iconst 2, 1) := by decide +kernel
theorem d_TH_form_29 : decode b_TH_form 29 = .ok (.if_icmp .le 13, 3) := by decide +kernel
theorem d_TH_form_32 : decode b_TH_form 32 = .ok (.new 162, 3) := by decide +kernel
theorem d_TH_form_35 : decode b_TH_form 35 = .ok (.dup, 1) := by decide +kernel
theorem d_TH_form_36 : decode b_TH_form 36 = .ok (.ldc 190, 2) := by decide +kernel
theorem d_TH_form_38 : decode b_TH_form 38 = .ok (.invokespecial 166, 3) := by decide +kernel
theorem d_TH_form_41 : decode b_TH_form 41 = .ok (.athrow, 1) := by decide +kernel
theorem d_TH_form_42 : decode b_TH_form 42 = .ok (.aload_n 0, 1) := by decide +kernel
theorem d_TH_form_43 : decode b_TH_form 43 = .ok (.getfield 43, 3) := by decide +kernel
theorem d_TH_form_46 : decode b_TH_form 46 = .ok (.iload_n 1, 1) := by decide +kernel
theorem d_TH_form_47 : decode b_TH_form 47 = .ok (.iload_n 2, 1) := by decide +kernel
theorem d_TH_form_48 : decode b_TH_form 48 = .ok (.invokevirtual 192, 3) := by decide +kernel
theorem d_TH_form_51 : decode b_TH_form 51 = .ok (.ireturn, 1) := by decide +kernel
theorem d_TH_byteOf_0 : decode b_TH_byteOf 0 = .ok (.lload_n 0, 1) := by decide +kernel
theorem d_TH_byteOf_1 : decode b_TH_byteOf 1 = .ok (.bipush 8, 2) := by decide +kernel
theorem d_TH_byteOf_3 : decode b_TH_byteOf 3 = .ok (.iload_n 2, 1) := by decide +kernel
theorem d_TH_byteOf_4 : decode b_TH_byteOf 4 = .ok (.imul, 1) := by decide +kernel
theorem d_TH_byteOf_5 : decode b_TH_byteOf 5 = .ok (.lushr, 1) := by decide +kernel
theorem d_TH_byteOf_6 : decode b_TH_byteOf 6 = .ok (.l2i, 1) := by decide +kernel
theorem d_TH_byteOf_7 : decode b_TH_byteOf 7 = .ok (.sipush 255, 3) := by decide +kernel
theorem d_TH_byteOf_10 : decode b_TH_byteOf 10 = .ok (.iand, 1) := by decide +kernel
theorem d_TH_byteOf_11 : decode b_TH_byteOf 11 = .ok (.ireturn, 1) := by decide +kernel
theorem d_TH_isCharacter_0 : decode b_TH_isCharacter 0 = .ok (.iload_n 0, 1) := by decide +kernel
theorem d_TH_isCharacter_1 : decode b_TH_isCharacter 1 = .ok (.bipush 10, 2) := by decide +kernel
theorem d_TH_isCharacter_3 : decode b_TH_isCharacter 3 = .ok (.if_icmp .eq 15, 3) := by decide +kernel
theorem d_TH_isCharacter_6 : decode b_TH_isCharacter 6 = .ok (.iload_n 0, 1) := by decide +kernel
theorem d_TH_isCharacter_7 : decode b_TH_isCharacter 7 = .ok (.bipush 32, 2) := by decide +kernel
theorem d_TH_isCharacter_9 : decode b_TH_isCharacter 9 = .ok (.if_icmp .lt 13, 3) := by decide +kernel
theorem d_TH_isCharacter_12 : decode b_TH_isCharacter 12 = .ok (.iload_n 0, 1) := by decide +kernel
theorem d_TH_isCharacter_13 : decode b_TH_isCharacter 13 = .ok (.bipush 126, 2) := by decide +kernel
theorem d_TH_isCharacter_15 : decode b_TH_isCharacter 15 = .ok (.if_icmp .gt 7, 3) := by decide +kernel
theorem d_TH_isCharacter_18 : decode b_TH_isCharacter 18 = .ok (.iconst 1, 1) := by decide +kernel
theorem d_TH_isCharacter_19 : decode b_TH_isCharacter 19 = .ok (.goto 4, 3) := by decide +kernel
theorem d_TH_isCharacter_22 : decode b_TH_isCharacter 22 = .ok (.iconst 0, 1) := by decide +kernel
theorem d_TH_isCharacter_23 : decode b_TH_isCharacter 23 = .ok (.ireturn, 1) := by decide +kernel
theorem d_TH_forget_0 : decode b_TH_forget 0 = .ok (.aload_n 0, 1) := by decide +kernel
theorem d_TH_forget_1 : decode b_TH_forget 1 = .ok (.iconst 0, 1) := by decide +kernel
theorem d_TH_forget_2 : decode b_TH_forget 2 = .ok (.putfield 81, 3) := by decide +kernel
theorem d_TH_forget_5 : decode b_TH_forget 5 = .ok (.aload_n 0, 1) := by decide +kernel
theorem d_TH_forget_6 : decode b_TH_forget 6 = .ok (.getfield 68, 3) := by decide +kernel
theorem d_TH_forget_9 : decode b_TH_forget 9 = .ok (.invokevirtual 195, 3) := by decide +kernel
theorem d_TH_forget_12 : decode b_TH_forget 12 = .ok (.return_, 1) := by decide +kernel
theorem d_TH_begin_0 : decode b_TH_begin 0 = .ok (.aload_n 0, 1) := by decide +kernel
theorem d_TH_begin_1 : decode b_TH_begin 1 = .ok (.getfield 61, 3) := by decide +kernel
theorem d_TH_begin_4 : decode b_TH_begin 4 = .ok (.invokevirtual 198, 3) := by decide +kernel
theorem d_TH_begin_7 : decode b_TH_begin 7 = .ok (.iconst 0, 1) := by decide +kernel
theorem d_TH_begin_8 : decode b_TH_begin 8 = .ok (.istore_n 1, 1) := by decide +kernel
theorem d_TH_begin_9 : decode b_TH_begin 9 = .ok (.iload_n 1, 1) := by decide +kernel
theorem d_TH_begin_10 : decode b_TH_begin 10 = .ok (.aload_n 0, 1) := by decide +kernel
theorem d_TH_begin_11 : decode b_TH_begin 11 = .ok (.getfield 36, 3) := by decide +kernel
theorem d_TH_begin_14 : decode b_TH_begin 14 = .ok (.invokevirtual 178, 3) := by decide +kernel
theorem d_TH_begin_17 : decode b_TH_begin 17 = .ok (.if_icmp .ge 56, 3) := by decide +kernel
theorem d_TH_begin_20 : decode b_TH_begin 20 = .ok (.aload_n 0, 1) := by decide +kernel
theorem d_TH_begin_21 : decode b_TH_begin 21 = .ok (.getfield 43, 3) := by decide +kernel
theorem d_TH_begin_24 : decode b_TH_begin 24 = .ok (.iload_n 1, 1) := by decide +kernel
theorem d_TH_begin_25 : decode b_TH_begin 25 = .ok (.aload_n 0, 1) := by decide +kernel
theorem d_TH_begin_26 : decode b_TH_begin 26 = .ok (.getfield 27, 3) := by decide +kernel
theorem d_TH_begin_29 : decode b_TH_begin 29 = .ok (.aload_n 0, 1) := by decide +kernel
theorem d_TH_begin_30 : decode b_TH_begin 30 = .ok (.getfield 36, 3) := by decide +kernel
theorem d_TH_begin_33 : decode b_TH_begin 33 = .ok (.iload_n 1, 1) := by decide +kernel
theorem d_TH_begin_34 : decode b_TH_begin 34 = .ok (.invokevirtual 201, 3) := by decide +kernel
theorem d_TH_begin_37 : decode b_TH_begin 37 = .ok (.invokevirtual 205, 3) := by decide +kernel
theorem d_TH_begin_40 : decode b_TH_begin 40 = .ok (.aload_n 0, 1) := by decide +kernel
theorem d_TH_begin_41 : decode b_TH_begin 41 = .ok (.getfield 61, 3) := by decide +kernel
theorem d_TH_begin_44 : decode b_TH_begin 44 = .ok (.iload_n 1, 1) := by decide +kernel
theorem d_TH_begin_45 : decode b_TH_begin 45 = .ok (.aload_n 0, 1) := by decide +kernel
theorem d_TH_begin_46 : decode b_TH_begin 46 = .ok (.getfield 61, 3) := by decide +kernel
theorem d_TH_begin_49 : decode b_TH_begin 49 = .ok (.aload_n 0, 1) := by decide +kernel
theorem d_TH_begin_50 : decode b_TH_begin 50 = .ok (.getfield 27, 3) := by decide +kernel
theorem d_TH_begin_53 : decode b_TH_begin 53 = .ok (.aload_n 0, 1) := by decide +kernel
theorem d_TH_begin_54 : decode b_TH_begin 54 = .ok (.getfield 36, 3) := by decide +kernel
theorem d_TH_begin_57 : decode b_TH_begin 57 = .ok (.iload_n 1, 1) := by decide +kernel
theorem d_TH_begin_58 : decode b_TH_begin 58 = .ok (.invokevirtual 201, 3) := by decide +kernel
theorem d_TH_begin_61 : decode b_TH_begin 61 = .ok (.invokevirtual 209, 3) := by decide +kernel
theorem d_TH_begin_64 : decode b_TH_begin 64 = .ok (.invokevirtual 213, 3) := by decide +kernel
theorem d_TH_begin_67 : decode b_TH_begin 67 = .ok (.iinc 1 1, 3) := by decide +kernel
theorem d_TH_begin_70 : decode b_TH_begin 70 = .ok (.goto (-61), 3) := by decide +kernel
theorem d_TH_begin_73 : decode b_TH_begin 73 = .ok (.aload_n 0, 1) := by decide +kernel
theorem d_TH_begin_74 : decode b_TH_begin 74 = .ok (.getfield 43, 3) := by decide +kernel
theorem d_TH_begin_77 : decode b_TH_begin 77 = .ok (.iconst (-1), 1) := by decide +kernel
theorem d_TH_begin_78 : decode b_TH_begin 78 = .ok (.aload_n 0, 1) := by decide +kernel
theorem d_TH_begin_79 : decode b_TH_begin 79 = .ok (.getfield 27, 3) := by decide +kernel
theorem d_TH_begin_82 : decode b_TH_begin 82 = .ok (.aload_n 0, 1) := by decide +kernel
theorem d_TH_begin_83 : decode b_TH_begin 83 = .ok (.getfield 36, 3) := by decide +kernel
theorem d_TH_begin_86 : decode b_TH_begin 86 = .ok (.invokevirtual 217, 3) := by decide +kernel
