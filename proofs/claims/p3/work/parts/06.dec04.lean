theorem d_RD_choice_59 : decode b_RD_choice 59 = .ok (.lload 4, 2) := by decide +kernel
theorem d_RD_choice_61 : decode b_RD_choice 61 = .ok (.invokevirtual 128, 3) := by decide +kernel
theorem d_RD_choice_64 : decode b_RD_choice 64 = .ok (.lload 6, 2) := by decide +kernel
theorem d_RD_choice_66 : decode b_RD_choice 66 = .ok (.invokevirtual 132, 3) := by decide +kernel
theorem d_RD_choice_69 : decode b_RD_choice 69 = .ok (.lreturn, 1) := by decide +kernel
theorem d_RD_function_0 : decode b_RD_function 0 = .ok (.aload_n 0, 1) := by decide +kernel
theorem d_RD_function_1 : decode b_RD_function 1 = .ok (.dup, 1) := by decide +kernel
theorem d_RD_function_2 : decode b_RD_function 2 = .ok (.getfield 48, 3) := by decide +kernel
theorem d_RD_function_5 : decode b_RD_function 5 = .ok (.iconst 1, 1) := by decide +kernel
theorem d_RD_function_6 : decode b_RD_function 6 = .ok (.iadd, 1) := by decide +kernel
theorem d_RD_function_7 : decode b_RD_function 7 = .ok (.putfield 48, 3) := by decide +kernel
theorem d_RD_function_10 : decode b_RD_function 10 = .ok (.aload_n 0, 1) := by decide +kernel
theorem d_RD_function_11 : decode b_RD_function 11 = .ok (.getfield 7, 3) := by decide +kernel
theorem d_RD_function_14 : decode b_RD_function 14 = .ok (.aload_n 0, 1) := by decide +kernel
theorem d_RD_function_15 : decode b_RD_function 15 = .ok (.getfield 48, 3) := by decide +kernel
theorem d_RD_function_18 : decode b_RD_function 18 = .ok (.invokevirtual 85, 3) := by decide +kernel
theorem d_RD_function_21 : decode b_RD_function 21 = .ok (.istore_n 2, 1) := by decide +kernel
theorem d_RD_function_22 : decode b_RD_function 22 = .ok (.aload_n 0, 1) := by decide +kernel
theorem d_RD_function_23 : decode b_RD_function 23 = .ok (.iconst 1, 1) := by decide +kernel
theorem d_RD_function_24 : decode b_RD_function 24 = .ok (.invokevirtual 70, 3) := by decide +kernel
theorem d_RD_function_27 : decode b_RD_function 27 = .ok (.aload_n 0, 1) := by decide +kernel
theorem d_RD_function_28 : decode b_RD_function 28 = .ok (.bipush 46, 2) := by decide +kernel
theorem d_RD_function_30 : decode b_RD_function 30 = .ok (.invokevirtual 70, 3) := by decide +kernel
theorem d_RD_function_33 : decode b_RD_function 33 = .ok (.aload_n 0, 1) := by decide +kernel
theorem d_RD_function_34 : decode b_RD_function 34 = .ok (.getfield 51, 3) := by decide +kernel
theorem d_RD_function_37 : decode b_RD_function 37 = .ok (.aload_n 0, 1) := by decide +kernel
theorem d_RD_function_38 : decode b_RD_function 38 = .ok (.getfield 25, 3) := by decide +kernel
theorem d_RD_function_41 : decode b_RD_function 41 = .ok (.arraylength, 1) := by decide +kernel
theorem d_RD_function_42 : decode b_RD_function 42 = .ok (.if_icmp .lt 13, 3) := by decide +kernel
theorem d_RD_function_45 : decode b_RD_function 45 = .ok (.new 91, 3) := by decide +kernel
theorem d_RD_function_48 : decode b_RD_function 48 = .ok (.dup, 1) := by decide +kernel
theorem d_RD_function_49 : decode b_RD_function 49 = .ok (.ldc 110, 2) := by decide +kernel
theorem d_RD_function_51 : decode b_RD_function 51 = .ok (.invokespecial 95, 3) := by decide +kernel
theorem d_RD_function_54 : decode b_RD_function 54 = .ok (.athrow, 1) := by decide +kernel
theorem d_RD_function_55 : decode b_RD_function 55 = .ok (.aload_n 0, 1) := by decide +kernel
theorem d_RD_function_56 : decode b_RD_function 56 = .ok (.getfield 25, 3) := by decide +kernel
theorem d_RD_function_59 : decode b_RD_function 59 = .ok (.aload_n 0, 1) := by decide +kernel
theorem d_RD_function_60 : decode b_RD_function 60 = .ok (.getfield 51, 3) := by decide +kernel
theorem d_RD_function_63 : decode b_RD_function 63 = .ok (.iload_n 2, 1) := by decide +kernel
theorem d_RD_function_64 : decode b_RD_function 64 = .ok (.iastore, 1) := by decide +kernel
theorem d_RD_function_65 : decode b_RD_function 65 = .ok (.aload_n 0, 1) := by decide +kernel
theorem d_RD_function_66 : decode b_RD_function 66 = .ok (.dup, 1) := by decide +kernel
theorem d_RD_function_67 : decode b_RD_function 67 = .ok (.getfield 51, 3) := by decide +kernel
theorem d_RD_function_70 : decode b_RD_function 70 = .ok (.iconst 1, 1) := by decide +kernel
theorem d_RD_function_71 : decode b_RD_function 71 = .ok (.iadd, 1) := by decide +kernel
theorem d_RD_function_72 : decode b_RD_function 72 = .ok (.putfield 51, 3) := by decide +kernel
theorem d_RD_function_75 : decode b_RD_function 75 = .ok (.aload_n 0, 1) := by decide +kernel
theorem d_RD_function_76 : decode b_RD_function 76 = .ok (.iload_n 1, 1) := by decide +kernel
theorem d_RD_function_77 : decode b_RD_function 77 = .ok (.iconst 1, 1) := by decide +kernel
theorem d_RD_function_78 : decode b_RD_function 78 = .ok (.iadd, 1) := by decide +kernel
theorem d_RD_function_79 : decode b_RD_function 79 = .ok (.invokevirtual 64, 3) := by decide +kernel
theorem d_RD_function_82 : decode b_RD_function 82 = .ok (.lstore_n 3, 1) := by decide +kernel
theorem d_RD_function_83 : decode b_RD_function 83 = .ok (.aload_n 0, 1) := by decide +kernel
theorem d_RD_function_84 : decode b_RD_function 84 = .ok (.dup, 1) := by decide +kernel
theorem d_RD_function_85 : decode b_RD_function 85 = .ok (.getfield 51, 3) := by decide +kernel
theorem d_RD_function_88 : decode b_RD_function 88 = .ok (.iconst 1, 1) := by decide +kernel
theorem d_RD_function_89 : decode b_RD_function 89 = .ok (.isub, 1) := by decide +kernel
theorem d_RD_function_90 : decode b_RD_function 90 = .ok (.putfield 51, 3) := by decide +kernel
theorem d_RD_function_93 : decode b_RD_function 93 = .ok (.aload_n 0, 1) := by decide +kernel
theorem d_RD_function_94 : decode b_RD_function 94 = .ok (.getfield 13, 3) := by decide +kernel
theorem d_RD_function_97 : decode b_RD_function 97 = .ok (.iload_n 2, 1) := by decide +kernel
theorem d_RD_function_98 : decode b_RD_function 98 = .ok (.lload_n 3, 1) := by decide +kernel
theorem d_RD_function_99 : decode b_RD_function 99 = .ok (.invokevirtual 98, 3) := by decide +kernel
theorem d_RD_function_102 : decode b_RD_function 102 = .ok (.lreturn, 1) := by decide +kernel
theorem d_RD_chain_0 : decode b_RD_chain 0 = .ok (.aload_n 0, 1) := by decide +kernel
theorem d_RD_chain_1 : decode b_RD_chain 1 = .ok (.getfield 54, 3) := by decide +kernel
theorem d_RD_chain_4 : decode b_RD_chain 4 = .ok (.istore_n 2, 1) := by decide +kernel
theorem d_RD_chain_5 : decode b_RD_chain 5 = .ok (.aload_n 0, 1) := by decide +kernel
theorem d_RD_chain_6 : decode b_RD_chain 6 = .ok (.iload_n 1, 1) := by decide +kernel
theorem d_RD_chain_7 : decode b_RD_chain 7 = .ok (.invokevirtual 136, 3) := by decide +kernel
theorem d_RD_chain_10 : decode b_RD_chain 10 = .ok (.lstore_n 3, 1) := by decide +kernel
theorem d_RD_chain_11 : decode b_RD_chain 11 = .ok (.iconst 0, 1) := by decide +kernel
theorem d_RD_chain_12 : decode b_RD_chain 12 = .ok (.istore 5, 2) := by decide +kernel
theorem d_RD_chain_14 : decode b_RD_chain 14 = .ok (.iload 5, 2) := by decide +kernel
theorem d_RD_chain_16 : decode b_RD_chain 16 = .ok (.aload_n 0, 1) := by decide +kernel
theorem d_RD_chain_17 : decode b_RD_chain 17 = .ok (.getfield 7, 3) := by decide +kernel
theorem d_RD_chain_20 : decode b_RD_chain 20 = .ok (.invokevirtual 77, 3) := by decide +kernel
theorem d_RD_chain_23 : decode b_RD_chain 23 = .ok (.if_icmp .ge 46, 3) := by decide +kernel
theorem d_RD_chain_26 : decode b_RD_chain 26 = .ok (.aload_n 0, 1) := by decide +kernel
theorem d_RD_chain_27 : decode b_RD_chain 27 = .ok (.getfield 7, 3) := by decide +kernel
theorem d_RD_chain_30 : decode b_RD_chain 30 = .ok (.aload_n 0, 1) := by decide +kernel
theorem d_RD_chain_31 : decode b_RD_chain 31 = .ok (.getfield 48, 3) := by decide +kernel
theorem d_RD_chain_34 : decode b_RD_chain 34 = .ok (.invokevirtual 81, 3) := by decide +kernel
theorem d_RD_chain_37 : decode b_RD_chain 37 = .ok (.bipush 58, 2) := by decide +kernel
theorem d_RD_chain_39 : decode b_RD_chain 39 = .ok (.if_icmp .ne 30, 3) := by decide +kernel
theorem d_RD_chain_42 : decode b_RD_chain 42 = .ok (.aload_n 0, 1) := by decide +kernel
theorem d_RD_chain_43 : decode b_RD_chain 43 = .ok (.dup, 1) := by decide +kernel
theorem d_RD_chain_44 : decode b_RD_chain 44 = .ok (.getfield 48, 3) := by decide +kernel
theorem d_RD_chain_47 : decode b_RD_chain 47 = .ok (.iconst 1, 1) := by decide +kernel
theorem d_RD_chain_48 : decode b_RD_chain 48 = .ok (.iadd, 1) := by decide +kernel
theorem d_RD_chain_49 : decode b_RD_chain 49 = .ok (.putfield 48, 3) := by decide +kernel
theorem d_RD_chain_52 : decode b_RD_chain 52 = .ok (.aload_n 0, 1) := by decide +kernel
theorem d_RD_chain_53 : decode b_RD_chain 53 = .ok (.lload_n 3, 1) := by decide +kernel
theorem d_RD_chain_54 : decode b_RD_chain 54 = .ok (.invokevirtual 139, 3) := by decide +kernel
theorem d_RD_chain_57 : decode b_RD_chain 57 = .ok (.aload_n 0, 1) := by decide +kernel
theorem d_RD_chain_58 : decode b_RD_chain 58 = .ok (.iload_n 1, 1) := by decide +kernel
theorem d_RD_chain_59 : decode b_RD_chain 59 = .ok (.invokevirtual 136, 3) := by decide +kernel
theorem d_RD_chain_62 : decode b_RD_chain 62 = .ok (.lstore_n 3, 1) := by decide +kernel
theorem d_RD_chain_63 : decode b_RD_chain 63 = .ok (.iinc 5 1, 3) := by decide +kernel
theorem d_RD_chain_66 : decode b_RD_chain 66 = .ok (.goto (-52), 3) := by decide +kernel
theorem d_RD_chain_69 : decode b_RD_chain 69 = .ok (.aload_n 0, 1) := by decide +kernel
theorem d_RD_chain_70 : decode b_RD_chain 70 = .ok (.iload_n 2, 1) := by decide +kernel
theorem d_RD_chain_71 : decode b_RD_chain 71 = .ok (.lload_n 3, 1) := by decide +kernel
theorem d_RD_chain_72 : decode b_RD_chain 72 = .ok (.invokevirtual 143, 3) := by decide +kernel
theorem d_RD_chain_75 : decode b_RD_chain 75 = .ok (.lreturn, 1) := by decide +kernel
theorem d_RD_comparison_0 : decode b_RD_comparison 0 = .ok (.aload_n 0, 1) := by decide +kernel
theorem d_RD_comparison_1 : decode b_RD_comparison 1 = .ok (.iload_n 1, 1) := by decide +kernel
theorem d_RD_comparison_2 : decode b_RD_comparison 2 = .ok (.invokevirtual 146, 3) := by decide +kernel
theorem d_RD_comparison_5 : decode b_RD_comparison 5 = .ok (.lstore_n 2, 1) := by decide +kernel
theorem d_RD_comparison_6 : decode b_RD_comparison 6 = .ok (.aload_n 0, 1) := by decide +kernel
theorem d_RD_comparison_7 : decode b_RD_comparison 7 = .ok (.getfield 7, 3) := by decide +kernel
theorem d_RD_comparison_10 : decode b_RD_comparison 10 = .ok (.aload_n 0, 1) := by decide +kernel
theorem d_RD_comparison_11 : decode b_RD_comparison 11 = .ok (.getfield 48, 3) := by decide +kernel
theorem d_RD_comparison_14 : decode b_RD_comparison 14 = .ok (.invokevirtual 81, 3) := by decide +kernel
theorem d_RD_comparison_17 : decode b_RD_comparison 17 = .ok (.istore 4, 2) := by decide +kernel
theorem d_RD_comparison_19 : decode b_RD_comparison 19 = .ok (.iload 4, 2) := by decide +kernel
theorem d_RD_comparison_21 : decode b_RD_comparison 21 = .ok (.bipush 60, 2) := by decide +kernel
theorem d_RD_comparison_23 : decode b_RD_comparison 23 = .ok (.if_icmp .eq 11, 3) := by decide +kernel
theorem d_RD_comparison_26 : decode b_RD_comparison 26 = .ok (.iload 4, 2) := by decide +kernel
theorem d_RD_comparison_28 : decode b_RD_comparison 28 = .ok (.iconst 3, 1) := by decide +kernel
theorem d_RD_comparison_29 : decode b_RD_comparison 29 = .ok (.if_icmp .eq 5, 3) := by decide +kernel
theorem d_RD_comparison_32 : decode b_RD_comparison 32 = .ok (.lload_n 2, 1) := by decide +kernel
theorem d_RD_comparison_33 : decode b_RD_comparison 33 = .ok (.lreturn, 1) := by decide +kernel
theorem d_RD_comparison_34 : decode b_RD_comparison 34 = .ok (.aload_n 0, 1) := by decide +kernel
theorem d_RD_comparison_35 : decode b_RD_comparison 35 = .ok (.dup, 1) := by decide +kernel
theorem d_RD_comparison_36 : decode b_RD_comparison 36 = .ok (.getfield 48, 3) := by decide +kernel
theorem d_RD_comparison_39 : decode b_RD_comparison 39 = .ok (.iconst 1, 1) := by decide +kernel
theorem d_RD_comparison_40 : decode b_RD_comparison 40 = .ok (.iadd, 1) := by decide +kernel
theorem d_RD_comparison_41 : decode b_RD_comparison 41 = .ok (.putfield 48, 3) := by decide +kernel
theorem d_RD_comparison_44 : decode b_RD_comparison 44 = .ok (.aload_n 0, 1) := by decide +kernel
theorem d_RD_comparison_45 : decode b_RD_comparison 45 = .ok (.iload_n 1, 1) := by decide +kernel
theorem d_RD_comparison_46 : decode b_RD_comparison 46 = .ok (.invokevirtual 146, 3) := by decide +kernel
theorem d_RD_comparison_49 : decode b_RD_comparison 49 = .ok (.lstore 5, 2) := by decide +kernel
theorem d_RD_comparison_51 : decode b_RD_comparison 51 = .ok (.aload_n 0, 1) := by decide +kernel
theorem d_RD_comparison_52 : decode b_RD_comparison 52 = .ok (.getfield 13, 3) := by decide +kernel
theorem d_RD_comparison_55 : decode b_RD_comparison 55 = .ok (.iload 4, 2) := by decide +kernel
theorem d_RD_comparison_57 : decode b_RD_comparison 57 = .ok (.bipush 60, 2) := by decide +kernel
theorem d_RD_comparison_59 : decode b_RD_comparison 59 = .ok (.if_icmp .ne 8, 3) := by decide +kernel
theorem d_RD_comparison_62 : decode b_RD_comparison 62 = .ok (.bipush 14, 2) := by decide +kernel
theorem d_RD_comparison_64 : decode b_RD_comparison 64 = .ok (.goto 5, 3) := by decide +kernel
theorem d_RD_comparison_67 : decode b_RD_comparison 67 = .ok (.bipush 15, 2) := by decide +kernel
theorem d_RD_comparison_69 : decode b_RD_comparison 69 = .ok (.lload_n 2, 1) := by decide +kernel
theorem d_RD_comparison_70 : decode b_RD_comparison 70 = .ok (.lload 5, 2) := by decide +kernel
theorem d_RD_comparison_72 : decode b_RD_comparison 72 = .ok (.invokevirtual 128, 3) := by decide +kernel
theorem d_RD_comparison_75 : decode b_RD_comparison 75 = .ok (.lreturn, 1) := by decide +kernel
theorem d_RD_sum_0 : decode b_RD_sum 0 = .ok (.aload_n 0, 1) := by decide +kernel
theorem d_RD_sum_1 : decode b_RD_sum 1 = .ok (.iload_n 1, 1) := by decide +kernel
theorem d_RD_sum_2 : decode b_RD_sum 2 = .ok (.invokevirtual 149, 3) := by decide +kernel
theorem d_RD_sum_5 : decode b_RD_sum 5 = .ok (.lstore_n 2, 1) := by decide +kernel
theorem d_RD_sum_6 : decode b_RD_sum 6 = .ok (.iconst 0, 1) := by decide +kernel
theorem d_RD_sum_7 : decode b_RD_sum 7 = .ok (.istore 4, 2) := by decide +kernel
theorem d_RD_sum_9 : decode b_RD_sum 9 = .ok (.iload 4, 2) := by decide +kernel
theorem d_RD_sum_11 : decode b_RD_sum 11 = .ok (.aload_n 0, 1) := by decide +kernel
theorem d_RD_sum_12 : decode b_RD_sum 12 = .ok (.getfield 7, 3) := by decide +kernel
theorem d_RD_sum_15 : decode b_RD_sum 15 = .ok (.invokevirtual 77, 3) := by decide +kernel
theorem d_RD_sum_18 : decode b_RD_sum 18 = .ok (.if_icmp .ge 92, 3) := by decide +kernel
theorem d_RD_sum_21 : decode b_RD_sum 21 = .ok (.aload_n 0, 1) := by decide +kernel
theorem d_RD_sum_22 : decode b_RD_sum 22 = .ok (.getfield 7, 3) := by decide +kernel
theorem d_RD_sum_25 : decode b_RD_sum 25 = .ok (.aload_n 0, 1) := by decide +kernel
theorem d_RD_sum_26 : decode b_RD_sum 26 = .ok (.getfield 48, 3) := by decide +kernel
theorem d_RD_sum_29 : decode b_RD_sum 29 = .ok (.invokevirtual 81, 3) := by decide +kernel
theorem d_RD_sum_32 : decode b_RD_sum 32 = .ok (.bipush 43, 2) := by decide +kernel
theorem d_RD_sum_34 : decode b_RD_sum 34 = .ok (.if_icmp .eq 19, 3) := by decide +kernel
theorem d_RD_sum_37 : decode b_RD_sum 37 = .ok (.aload_n 0, 1) := by decide +kernel
theorem d_RD_sum_38 : decode b_RD_sum 38 = .ok (.getfield 7, 3) := by decide +kernel
theorem d_RD_sum_41 : decode b_RD_sum 41 = .ok (.aload_n 0, 1) := by decide +kernel
theorem d_RD_sum_42 : decode b_RD_sum 42 = .ok (.getfield 48, 3) := by decide +kernel
theorem d_RD_sum_45 : decode b_RD_sum 45 = .ok (.invokevirtual 81, 3) := by decide +kernel
theorem d_RD_sum_48 : decode b_RD_sum 48 = .ok (.bipush 45, 2) := by decide +kernel
theorem d_RD_sum_50 : decode b_RD_sum 50 = .ok (.if_icmp .ne 60, 3) := by decide +kernel
theorem d_RD_sum_53 : decode b_RD_sum 53 = .ok (.aload_n 0, 1) := by decide +kernel
theorem d_RD_sum_54 : decode b_RD_sum 54 = .ok (.getfield 7, 3) := by decide +kernel
theorem d_RD_sum_57 : decode b_RD_sum 57 = .ok (.aload_n 0, 1) := by decide +kernel
theorem d_RD_sum_58 : decode b_RD_sum 58 = .ok (.getfield 48, 3) := by decide +kernel
theorem d_RD_sum_61 : decode b_RD_sum 61 = .ok (.invokevirtual 81, 3) := by decide +kernel
theorem d_RD_sum_64 : decode b_RD_sum 64 = .ok (.bipush 43, 2) := by decide +kernel
theorem d_RD_sum_66 : decode b_RD_sum 66 = .ok (.if_icmp .ne 8, 3) := by decide +kernel
theorem d_RD_sum_69 : decode b_RD_sum 69 = .ok (.bipush 11, 2) := by decide +kernel
theorem d_RD_sum_71 : decode b_RD_sum 71 = .ok (.goto 5, 3) := by decide +kernel
theorem d_RD_sum_74 : decode b_RD_sum 74 = .ok (.bipush 12, 2) := by decide +kernel
theorem d_RD_sum_76 : decode b_RD_sum 76 = .ok (.istore 5, 2) := by decide +kernel
theorem d_RD_sum_78 : decode b_RD_sum 78 = .ok (.aload_n 0, 1) := by decide +kernel
theorem d_RD_sum_79 : decode b_RD_sum 79 = .ok (.dup, 1) := by decide +kernel
theorem d_RD_sum_80 : decode b_RD_sum 80 = .ok (.getfield 48, 3) := by decide +kernel
theorem d_RD_sum_83 : decode b_RD_sum 83 = .ok (.iconst 1, 1) := by decide +kernel
theorem d_RD_sum_84 : decode b_RD_sum 84 = .ok (.iadd, 1) := by decide +kernel
theorem d_RD_sum_85 : decode b_RD_sum 85 = .ok (.putfield 48, 3) := by decide +kernel
theorem d_RD_sum_88 : decode b_RD_sum 88 = .ok (.aload_n 0, 1) := by decide +kernel
theorem d_RD_sum_89 : decode b_RD_sum 89 = .ok (.getfield 13, 3) := by decide +kernel
theorem d_RD_sum_92 : decode b_RD_sum 92 = .ok (.iload 5, 2) := by decide +kernel
theorem d_RD_sum_94 : decode b_RD_sum 94 = .ok (.lload_n 2, 1) := by decide +kernel
theorem d_RD_sum_95 : decode b_RD_sum 95 = .ok (.aload_n 0, 1) := by decide +kernel
theorem d_RD_sum_96 : decode b_RD_sum 96 = .ok (.iload_n 1, 1) := by decide +kernel
theorem d_RD_sum_97 : decode b_RD_sum 97 = .ok (.invokevirtual 149, 3) := by decide +kernel
theorem d_RD_sum_100 : decode b_RD_sum 100 = .ok (.invokevirtual 128, 3) := by decide +kernel
theorem d_RD_sum_103 : decode b_RD_sum 103 = .ok (.lstore_n 2, 1) := by decide +kernel
theorem d_RD_sum_104 : decode b_RD_sum 104 = .ok (.iinc 4 1, 3) := by decide +kernel
theorem d_RD_sum_107 : decode b_RD_sum 107 = .ok (.goto (-98), 3) := by decide +kernel
theorem d_RD_sum_110 : decode b_RD_sum 110 = .ok (.lload_n 2, 1) := by decide +kernel
theorem d_RD_sum_111 : decode b_RD_sum 111 = .ok (.lreturn, 1) := by decide +kernel
theorem d_RD_product_0 : decode b_RD_product 0 = .ok (.aload_n 0, 1) := by decide +kernel
theorem d_RD_product_1 : decode b_RD_product 1 = .ok (.iload_n 1, 1) := by decide +kernel
theorem d_RD_product_2 : decode b_RD_product 2 = .ok (.invokevirtual 152, 3) := by decide +kernel
theorem d_RD_product_5 : decode b_RD_product 5 = .ok (.lstore_n 2, 1) := by decide +kernel
theorem d_RD_product_6 : decode b_RD_product 6 = .ok (.iconst 0, 1) := by decide +kernel
theorem d_RD_product_7 : decode b_RD_product 7 = .ok (.istore 4, 2) := by decide +kernel
theorem d_RD_product_9 : decode b_RD_product 9 = .ok (.iload 4, 2) := by decide +kernel
theorem d_RD_product_11 : decode b_RD_product 11 = .ok (.aload_n 0, 1) := by decide +kernel
theorem d_RD_product_12 : decode b_RD_product 12 = .ok (.getfield 7, 3) := by decide +kernel
theorem d_RD_product_15 : decode b_RD_product 15 = .ok (.invokevirtual 77, 3) := by decide +kernel
theorem d_RD_product_18 : decode b_RD_product 18 = .ok (.if_icmp .ge 51, 3) := by decide +kernel
theorem d_RD_product_21 : decode b_RD_product 21 = .ok (.aload_n 0, 1) := by decide +kernel
theorem d_RD_product_22 : decode b_RD_product 22 = .ok (.getfield 7, 3) := by decide +kernel
theorem d_RD_product_25 : decode b_RD_product 25 = .ok (.aload_n 0, 1) := by decide +kernel
theorem d_RD_product_26 : decode b_RD_product 26 = .ok (.getfield 48, 3) := by decide +kernel
theorem d_RD_product_29 : decode b_RD_product 29 = .ok (.invokevirtual 81, 3) := by decide +kernel
theorem d_RD_product_32 : decode b_RD_product 32 = .ok (.bipush 42, 2) := by decide +kernel
theorem d_RD_product_34 : decode b_RD_product 34 = .ok (.if_icmp .ne 35, 3) := by decide +kernel
theorem d_RD_product_37 : decode b_RD_product 37 = .ok (.aload_n 0, 1) := by decide +kernel
theorem d_RD_product_38 : decode b_RD_product 38 = .ok (.dup, 1) := by decide +kernel
theorem d_RD_product_39 : decode b_RD_product 39 = .ok (.getfield 48, 3) := by decide +kernel
theorem d_RD_product_42 : decode b_RD_product 42 = .ok (.iconst 1, 1) := by decide +kernel
theorem d_RD_product_43 : decode b_RD_product 43 = .ok (.iadd, 1) := by decide +kernel
theorem d_RD_product_44 : decode b_RD_product 44 = .ok (.putfield 48, 3) := by decide +kernel
theorem d_RD_product_47 : decode b_RD_product 47 = .ok (.aload_n 0, 1) := by decide +kernel
theorem d_RD_product_48 : decode b_RD_product 48 = .ok (.getfield 13, 3) := by decide +kernel
theorem d_RD_product_51 : decode b_RD_product 51 = .ok (.bipush 13, 2) := by decide +kernel
theorem d_RD_product_53 : decode b_RD_product 53 = .ok (.lload_n 2, 1) := by decide +kernel
theorem d_RD_product_54 : decode b_RD_product 54 = .ok (.aload_n 0, 1) := by decide +kernel
theorem d_RD_product_55 : decode b_RD_product 55 = .ok (.iload_n 1, 1) := by decide +kernel
theorem d_RD_product_56 : decode b_RD_product 56 = .ok (.invokevirtual 152, 3) := by decide +kernel
theorem d_RD_product_59 : decode b_RD_product 59 = .ok (.invokevirtual 128, 3) := by decide +kernel
theorem d_RD_product_62 : decode b_RD_product 62 = .ok (.lstore_n 2, 1) := by decide +kernel
theorem d_RD_product_63 : decode b_RD_product 63 = .ok (.iinc 4 1, 3) := by decide +kernel
theorem d_RD_product_66 : decode b_RD_product 66 = .ok (.goto (-57), 3) := by decide +kernel
theorem d_RD_product_69 : decode b_RD_product 69 = .ok (.lload_n 2, 1) := by decide +kernel
theorem d_RD_product_70 : decode b_RD_product 70 = .ok (.lreturn, 1) := by decide +kernel
theorem d_RD_application_0 : decode b_RD_application 0 = .ok (.aload_n 0, 1) := by decide +kernel
theorem d_RD_application_1 : decode b_RD_application 1 = .ok (.iload_n 1, 1) := by decide +kernel
theorem d_RD_application_2 : decode b_RD_application 2 = .ok (.invokevirtual 155, 3) := by decide +kernel
theorem d_RD_application_5 : decode b_RD_application 5 = .ok (.lstore_n 2, 1) := by decide +kernel
theorem d_RD_application_6 : decode b_RD_application 6 = .ok (.iconst 0, 1) := by decide +kernel
theorem d_RD_application_7 : decode b_RD_application 7 = .ok (.istore 4, 2) := by decide +kernel
theorem d_RD_application_9 : decode b_RD_application 9 = .ok (.iload 4, 2) := by decide +kernel
theorem d_RD_application_11 : decode b_RD_application 11 = .ok (.aload_n 0, 1) := by decide +kernel
theorem d_RD_application_12 : decode b_RD_application 12 = .ok (.getfield 7, 3) := by decide +kernel
theorem d_RD_application_15 : decode b_RD_application 15 = .ok (.invokevirtual 77, 3) := by decide +kernel
theorem d_RD_application_18 : decode b_RD_application 18 = .ok (.if_icmp .ge 30, 3) := by decide +kernel
theorem d_RD_application_21 : decode b_RD_application 21 = .ok (.aload_n 0, 1) := by decide +kernel
theorem d_RD_application_22 : decode b_RD_application 22 = .ok (.invokevirtual 158, 3) := by decide +kernel
theorem d_RD_application_25 : decode b_RD_application 25 = .ok (.ifCond .eq 23, 3) := by decide +kernel
theorem d_RD_application_28 : decode b_RD_application 28 = .ok (.aload_n 0, 1) := by decide +kernel
theorem d_RD_application_29 : decode b_RD_application 29 = .ok (.getfield 13, 3) := by decide +kernel
theorem d_RD_application_32 : decode b_RD_application 32 = .ok (.lload_n 2, 1) := by decide +kernel
theorem d_RD_application_33 : decode b_RD_application 33 = .ok (.aload_n 0, 1) := by decide +kernel
theorem d_RD_application_34 : decode b_RD_application 34 = .ok (.iload_n 1, 1) := by decide +kernel
theorem d_RD_application_35 : decode b_RD_application 35 = .ok (.invokevirtual 155, 3) := by decide +kernel
theorem d_RD_application_38 : decode b_RD_application 38 = .ok (.invokevirtual 132, 3) := by decide +kernel
theorem d_RD_application_41 : decode b_RD_application 41 = .ok (.lstore_n 2, 1) := by decide +kernel
theorem d_RD_application_42 : decode b_RD_application 42 = .ok (.iinc 4 1, 3) := by decide +kernel
theorem d_RD_application_45 : decode b_RD_application 45 = .ok (.goto (-36), 3) := by decide +kernel
theorem d_RD_application_48 : decode b_RD_application 48 = .ok (.lload_n 2, 1) := by decide +kernel
theorem d_RD_application_49 : decode b_RD_application 49 = .ok (.lreturn, 1) := by decide +kernel
theorem d_RD_beginsAtom_0 : decode b_RD_beginsAtom 0 = .ok (.aload_n 0, 1) := by decide +kernel
theorem d_RD_beginsAtom_1 : decode b_RD_beginsAtom 1 = .ok (.getfield 7, 3) := by decide +kernel
theorem d_RD_beginsAtom_4 : decode b_RD_beginsAtom 4 = .ok (.aload_n 0, 1) := by decide +kernel
theorem d_RD_beginsAtom_5 : decode b_RD_beginsAtom 5 = .ok (.getfield 48, 3) := by decide +kernel
theorem d_RD_beginsAtom_8 : decode b_RD_beginsAtom 8 = .ok (.invokevirtual 81, 3) := by decide +kernel
theorem d_RD_beginsAtom_11 : decode b_RD_beginsAtom 11 = .ok (.istore_n 1, 1) := by decide +kernel
theorem d_RD_beginsAtom_12 : decode b_RD_beginsAtom 12 = .ok (.iload_n 1, 1) := by decide +kernel
theorem d_RD_beginsAtom_13 : decode b_RD_beginsAtom 13 = .ok (.iconst 2, 1) := by decide +kernel
theorem d_RD_beginsAtom_14 : decode b_RD_beginsAtom 14 = .ok (.if_icmp .eq 37, 3) := by decide +kernel
theorem d_RD_beginsAtom_17 : decode b_RD_beginsAtom 17 = .ok (.iload_n 1, 1) := by decide +kernel
theorem d_RD_beginsAtom_18 : decode b_RD_beginsAtom 18 = .ok (.bipush 40, 2) := by decide +kernel
theorem d_RD_beginsAtom_20 : decode b_RD_beginsAtom 20 = .ok (.if_icmp .eq 31, 3) := by decide +kernel
theorem d_RD_beginsAtom_23 : decode b_RD_beginsAtom 23 = .ok (.iload_n 1, 1) := by decide +kernel
theorem d_RD_beginsAtom_24 : decode b_RD_beginsAtom 24 = .ok (.bipush 91, 2) := by decide +kernel
theorem d_RD_beginsAtom_26 : decode b_RD_beginsAtom 26 = .ok (.if_icmp .eq 25, 3) := by decide +kernel
theorem d_RD_beginsAtom_29 : decode b_RD_beginsAtom 29 = .ok (.iload_n 1, 1) := by decide +kernel
theorem d_RD_beginsAtom_30 : decode b_RD_beginsAtom 30 = .ok (.iconst 1, 1) := by decide +kernel
theorem d_RD_beginsAtom_31 : decode b_RD_beginsAtom 31 = .ok (.if_icmp .ne 24, 3) := by decide +kernel
theorem d_RD_beginsAtom_34 : decode b_RD_beginsAtom 34 = .ok (.aload_n 0, 1) := by decide +kernel
theorem d_RD_beginsAtom_35 : decode b_RD_beginsAtom 35 = .ok (.getfield 7, 3) := by decide +kernel
theorem d_RD_beginsAtom_38 : decode b_RD_beginsAtom 38 = .ok (.aload_n 0, 1) := by decide +kernel
theorem d_RD_beginsAtom_39 : decode b_RD_beginsAtom 39 = .ok (.getfield 48, 3) := by decide +kernel
theorem d_RD_beginsAtom_42 : decode b_RD_beginsAtom 42 = .ok (.invokevirtual 85, 3) := by decide +kernel
theorem d_RD_beginsAtom_45 : decode b_RD_beginsAtom 45 = .ok (.invokestatic 162, 3) := by decide +kernel
theorem d_RD_beginsAtom_48 : decode b_RD_beginsAtom 48 = .ok (.ifCond .ne 7, 3) := by decide +kernel
theorem d_RD_beginsAtom_51 : decode b_RD_beginsAtom 51 = .ok (.iconst 1, 1) := by decide +kernel
theorem d_RD_beginsAtom_52 : decode b_RD_beginsAtom 52 = .ok (.goto 4, 3) := by decide +kernel
theorem d_RD_beginsAtom_55 : decode b_RD_beginsAtom 55 = .ok (.iconst 0, 1) := by decide +kernel
theorem d_RD_beginsAtom_56 : decode b_RD_beginsAtom 56 = .ok (.ireturn, 1) := by decide +kernel
theorem d_RD_atom_0 : decode b_RD_atom 0 = .ok (.aload_n 0, 1) := by decide +kernel
theorem d_RD_atom_1 : decode b_RD_atom 1 = .ok (.invokevirtual 158, 3) := by decide +kernel
theorem d_RD_atom_4 : decode b_RD_atom 4 = .ok (.ifCond .ne 13, 3) := by decide +kernel
theorem d_RD_atom_7 : decode b_RD_atom 7 = .ok (.new 105, 3) := by decide +kernel
theorem d_RD_atom_10 : decode b_RD_atom 10 = .ok (.dup, 1) := by decide +kernel
theorem d_RD_atom_11 : decode b_RD_atom 11 = .ok (.ldc 165, 2) := by decide +kernel
theorem d_RD_atom_13 : decode b_RD_atom 13 = .ok (.invokespecial 109, 3) := by decide +kernel
theorem d_RD_atom_16 : decode b_RD_atom 16 = .ok (.athrow, 1) := by decide +kernel
theorem d_RD_atom_17 : decode b_RD_atom 17 = .ok (.aload_n 0, 1) := by decide +kernel
theorem d_RD_atom_18 : decode b_RD_atom 18 = .ok (.getfield 7, 3) := by decide +kernel
theorem d_RD_atom_21 : decode b_RD_atom 21 = .ok (.aload_n 0, 1) := by decide +kernel
theorem d_RD_atom_22 : decode b_RD_atom 22 = .ok (.getfield 48, 3) := by decide +kernel
theorem d_RD_atom_25 : decode b_RD_atom 25 = .ok (.invokevirtual 81, 3) := by decide +kernel
theorem d_RD_atom_28 : decode b_RD_atom 28 = .ok (.istore_n 2, 1) := by decide +kernel
theorem d_RD_atom_29 : decode b_RD_atom 29 = .ok (.aload_n 0, 1) := by decide +kernel
theorem d_RD_atom_30 : decode b_RD_atom 30 = .ok (.getfield 7, 3) := by decide +kernel
theorem d_RD_atom_33 : decode b_RD_atom 33 = .ok (.aload_n 0, 1) := by decide +kernel
theorem d_RD_atom_34 : decode b_RD_atom 34 = .ok (.getfield 48, 3) := by decide +kernel
theorem d_RD_atom_37 : decode b_RD_atom 37 = .ok (.invokevirtual 85, 3) := by decide +kernel
theorem d_RD_atom_40 : decode b_RD_atom 40 = .ok (.istore_n 3, 1) := by decide +kernel
theorem d_RD_atom_41 : decode b_RD_atom 41 = .ok (.aload_n 0, 1) := by decide +kernel
theorem d_RD_atom_42 : decode b_RD_atom 42 = .ok (.dup, 1) := by decide +kernel
theorem d_RD_atom_43 : decode b_RD_atom 43 = .ok (.getfield 48, 3) := by decide +kernel
theorem d_RD_atom_46 : decode b_RD_atom 46 = .ok (.iconst 1, 1) := by decide +kernel
theorem d_RD_atom_47 : decode b_RD_atom 47 = .ok (.iadd, 1) := by decide +kernel
theorem d_RD_atom_48 : decode b_RD_atom 48 = .ok (.putfield 48, 3) := by decide +kernel
theorem d_RD_atom_51 : decode b_RD_atom 51 = .ok (.iload_n 2, 1) := by decide +kernel
theorem d_RD_atom_52 : decode b_RD_atom 52 = .ok (.iconst 2, 1) := by decide +kernel
theorem d_RD_atom_53 : decode b_RD_atom 53 = .ok (.if_icmp .ne 9, 3) := by decide +kernel
theorem d_RD_atom_56 : decode b_RD_atom 56 = .ok (.iconst 0, 1) := by decide +kernel
theorem d_RD_atom_57 : decode b_RD_atom 57 = .ok (.iload_n 3, 1) := by decide +kernel
theorem d_RD_atom_58 : decode b_RD_atom 58 = .ok (.invokestatic 167, 3) := by decide +kernel
theorem d_RD_atom_61 : decode b_RD_atom 61 = .ok (.lreturn, 1) := by decide +kernel
theorem d_RD_atom_62 : decode b_RD_atom 62 = .ok (.iload_n 2, 1) := by decide +kernel
theorem d_RD_atom_63 : decode b_RD_atom 63 = .ok (.iconst 1, 1) := by decide +kernel
theorem d_RD_atom_64 : decode b_RD_atom 64 = .ok (.if_icmp .ne 9, 3) := by decide +kernel
theorem d_RD_atom_67 : decode b_RD_atom 67 = .ok (.aload_n 0, 1) := by decide +kernel
theorem d_RD_atom_68 : decode b_RD_atom 68 = .ok (.iload_n 3, 1) := by decide +kernel
theorem d_RD_atom_69 : decode b_RD_atom 69 = .ok (.invokevirtual 171, 3) := by decide +kernel
theorem d_RD_atom_72 : decode b_RD_atom 72 = .ok (.lreturn, 1) := by decide +kernel
theorem d_RD_atom_73 : decode b_RD_atom 73 = .ok (.iload_n 2, 1) := by decide +kernel
theorem d_RD_atom_74 : decode b_RD_atom 74 = .ok (.bipush 91, 2) := by decide +kernel
theorem d_RD_atom_76 : decode b_RD_atom 76 = .ok (.if_icmp .ne 9, 3) := by decide +kernel
theorem d_RD_atom_79 : decode b_RD_atom 79 = .ok (.aload_n 0, 1) := by decide +kernel
theorem d_RD_atom_80 : decode b_RD_atom 80 = .ok (.iload_n 1, 1) := by decide +kernel
theorem d_RD_atom_81 : decode b_RD_atom 81 = .ok (.invokevirtual 174, 3) := by decide +kernel
theorem d_RD_atom_84 : decode b_RD_atom 84 = .ok (.lreturn, 1) := by decide +kernel
theorem d_RD_atom_85 : decode b_RD_atom 85 = .ok (.aload_n 0, 1) := by decide +kernel
theorem d_RD_atom_86 : decode b_RD_atom 86 = .ok (.iload_n 1, 1) := by decide +kernel
theorem d_RD_atom_87 : decode b_RD_atom 87 = .ok (.iconst 1, 1) := by decide +kernel
theorem d_RD_atom_88 : decode b_RD_atom 88 = .ok (.iadd, 1) := by decide +kernel
theorem d_RD_atom_89 : decode b_RD_atom 89 = .ok (.invokevirtual 64, 3) := by decide +kernel
theorem d_RD_atom_92 : decode b_RD_atom 92 = .ok (.lstore 4, 2) := by decide +kernel
theorem d_RD_atom_94 : decode b_RD_atom 94 = .ok (.aload_n 0, 1) := by decide +kernel
theorem d_RD_atom_95 : decode b_RD_atom 95 = .ok (.bipush 41, 2) := by decide +kernel
theorem d_RD_atom_97 : decode b_RD_atom 97 = .ok (.invokevirtual 70, 3) := by decide +kernel
theorem d_RD_atom_100 : decode b_RD_atom 100 = .ok (.lload 4, 2) := by decide +kernel
theorem d_RD_atom_102 : decode b_RD_atom 102 = .ok (.lreturn, 1) := by decide +kernel
theorem d_RD_row_0 : decode b_RD_row 0 = .ok (.aload_n 0, 1) := by decide +kernel
theorem d_RD_row_1 : decode b_RD_row 1 = .ok (.getfield 54, 3) := by decide +kernel
theorem d_RD_row_4 : decode b_RD_row 4 = .ok (.istore_n 2, 1) := by decide +kernel
theorem d_RD_row_5 : decode b_RD_row 5 = .ok (.aload_n 0, 1) := by decide +kernel
theorem d_RD_row_6 : decode b_RD_row 6 = .ok (.getfield 7, 3) := by decide +kernel
theorem d_RD_row_9 : decode b_RD_row 9 = .ok (.aload_n 0, 1) := by decide +kernel
theorem d_RD_row_10 : decode b_RD_row 10 = .ok (.getfield 48, 3) := by decide +kernel
theorem d_RD_row_13 : decode b_RD_row 13 = .ok (.invokevirtual 81, 3) := by decide +kernel
theorem d_RD_row_16 : decode b_RD_row 16 = .ok (.bipush 93, 2) := by decide +kernel
theorem d_RD_row_18 : decode b_RD_row 18 = .ok (.if_icmp .eq 70, 3) := by decide +kernel
theorem d_RD_row_21 : decode b_RD_row 21 = .ok (.aload_n 0, 1) := by decide +kernel
theorem d_RD_row_22 : decode b_RD_row 22 = .ok (.aload_n 0, 1) := by decide +kernel
theorem d_RD_row_23 : decode b_RD_row 23 = .ok (.iload_n 1, 1) := by decide +kernel
theorem d_RD_row_24 : decode b_RD_row 24 = .ok (.iconst 1, 1) := by decide +kernel
theorem d_RD_row_25 : decode b_RD_row 25 = .ok (.iadd, 1) := by decide +kernel
theorem d_RD_row_26 : decode b_RD_row 26 = .ok (.invokevirtual 64, 3) := by decide +kernel
theorem d_RD_row_29 : decode b_RD_row 29 = .ok (.invokevirtual 139, 3) := by decide +kernel
theorem d_RD_row_32 : decode b_RD_row 32 = .ok (.iconst 0, 1) := by decide +kernel
theorem d_RD_row_33 : decode b_RD_row 33 = .ok (.istore_n 3, 1) := by decide +kernel
theorem d_RD_row_34 : decode b_RD_row 34 = .ok (.iload_n 3, 1) := by decide +kernel
theorem d_RD_row_35 : decode b_RD_row 35 = .ok (.aload_n 0, 1) := by decide +kernel
theorem d_RD_row_36 : decode b_RD_row 36 = .ok (.getfield 7, 3) := by decide +kernel
theorem d_RD_row_39 : decode b_RD_row 39 = .ok (.invokevirtual 77, 3) := by decide +kernel
theorem d_RD_row_42 : decode b_RD_row 42 = .ok (.if_icmp .ge 46, 3) := by decide +kernel
theorem d_RD_row_45 : decode b_RD_row 45 = .ok (.aload_n 0, 1) := by decide +kernel
theorem d_RD_row_46 : decode b_RD_row 46 = .ok (.getfield 7, 3) := by decide +kernel
theorem d_RD_row_49 : decode b_RD_row 49 = .ok (.aload_n 0, 1) := by decide +kernel
theorem d_RD_row_50 : decode b_RD_row 50 = .ok (.getfield 48, 3) := by decide +kernel
theorem d_RD_row_53 : decode b_RD_row 53 = .ok (.invokevirtual 81, 3) := by decide +kernel
theorem d_RD_row_56 : decode b_RD_row 56 = .ok (.bipush 44, 2) := by decide +kernel
theorem d_RD_row_58 : decode b_RD_row 58 = .ok (.if_icmp .ne 30, 3) := by decide +kernel
theorem d_RD_row_61 : decode b_RD_row 61 = .ok (.aload_n 0, 1) := by decide +kernel
theorem d_RD_row_62 : decode b_RD_row 62 = .ok (.dup, 1) := by decide +kernel
theorem d_RD_row_63 : decode b_RD_row 63 = .ok (.getfield 48, 3) := by decide +kernel
theorem d_RD_row_66 : decode b_RD_row 66 = .ok (.iconst 1, 1) := by decide +kernel
theorem d_RD_row_67 : decode b_RD_row 67 = .ok (.iadd, 1) := by decide +kernel
theorem d_RD_row_68 : decode b_RD_row 68 = .ok (.putfield 48, 3) := by decide +kernel
theorem d_RD_row_71 : decode b_RD_row 71 = .ok (.aload_n 0, 1) := by decide +kernel
theorem d_RD_row_72 : decode b_RD_row 72 = .ok (.aload_n 0, 1) := by decide +kernel
theorem d_RD_row_73 : decode b_RD_row 73 = .ok (.iload_n 1, 1) := by decide +kernel
theorem d_RD_row_74 : decode b_RD_row 74 = .ok (.iconst 1, 1) := by decide +kernel
theorem d_RD_row_75 : decode b_RD_row 75 = .ok (.iadd, 1) := by decide +kernel
theorem d_RD_row_76 : decode b_RD_row 76 = .ok (.invokevirtual 64, 3) := by decide +kernel
theorem d_RD_row_79 : decode b_RD_row 79 = .ok (.invokevirtual 139, 3) := by decide +kernel
theorem d_RD_row_82 : decode b_RD_row 82 = .ok (.iinc 3 1, 3) := by decide +kernel
theorem d_RD_row_85 : decode b_RD_row 85 = .ok (.goto (-51), 3) := by decide +kernel
theorem d_RD_row_88 : decode b_RD_row 88 = .ok (.aload_n 0, 1) := by decide +kernel
theorem d_RD_row_89 : decode b_RD_row 89 = .ok (.bipush 93, 2) := by decide +kernel
theorem d_RD_row_91 : decode b_RD_row 91 = .ok (.invokevirtual 70, 3) := by decide +kernel
theorem d_RD_row_94 : decode b_RD_row 94 = .ok (.aload_n 0, 1) := by decide +kernel
