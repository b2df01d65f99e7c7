theorem dProduct_signAgainst_33 : decode prog_6_method_4_code 33 = .ok (.iload_n 2, 1) := by decide +kernel
theorem dProduct_signAgainst_34 : decode prog_6_method_4_code 34 = .ok (.laload, 1) := by decide +kernel
theorem dProduct_signAgainst_35 : decode prog_6_method_4_code 35 = .ok (.lcmp, 1) := by decide +kernel
theorem dProduct_signAgainst_36 : decode prog_6_method_4_code 36 = .ok (.ifCond .le 7, 3) := by decide +kernel
theorem dProduct_signAgainst_39 : decode prog_6_method_4_code 39 = .ok (.iconst 1, 1) := by decide +kernel
theorem dProduct_signAgainst_40 : decode prog_6_method_4_code 40 = .ok (.goto 4, 3) := by decide +kernel
theorem dProduct_signAgainst_43 : decode prog_6_method_4_code 43 = .ok (.iconst (-1), 1) := by decide +kernel
theorem dProduct_signAgainst_44 : decode prog_6_method_4_code 44 = .ok (.ireturn, 1) := by decide +kernel
theorem dProduct_signAgainst_45 : decode prog_6_method_4_code 45 = .ok (.iinc 2 (-1), 3) := by decide +kernel
theorem dProduct_signAgainst_48 : decode prog_6_method_4_code 48 = .ok (.goto (-45), 3) := by decide +kernel
theorem dProduct_signAgainst_51 : decode prog_6_method_4_code 51 = .ok (.iconst 0, 1) := by decide +kernel
theorem dProduct_signAgainst_52 : decode prog_6_method_4_code 52 = .ok (.ireturn, 1) := by decide +kernel
theorem dWE_compare_0 : decode prog_1_method_18_code 0 = .ok (.aload_n 0, 1) := by decide +kernel
theorem dWE_compare_1 : decode prog_1_method_18_code 1 = .ok (.iload_n 1, 1) := by decide +kernel
theorem dWE_compare_2 : decode prog_1_method_18_code 2 = .ok (.invokevirtual 81, 3) := by decide +kernel
theorem dWE_compare_5 : decode prog_1_method_18_code 5 = .ok (.ifCond .eq 11, 3) := by decide +kernel
theorem dWE_compare_8 : decode prog_1_method_18_code 8 = .ok (.aload_n 0, 1) := by decide +kernel
theorem dWE_compare_9 : decode prog_1_method_18_code 9 = .ok (.iload_n 2, 1) := by decide +kernel
theorem dWE_compare_10 : decode prog_1_method_18_code 10 = .ok (.invokevirtual 81, 3) := by decide +kernel
theorem dWE_compare_13 : decode prog_1_method_18_code 13 = .ok (.ifCond .ne 6, 3) := by decide +kernel
theorem dWE_compare_16 : decode prog_1_method_18_code 16 = .ok (.bipush (-2), 2) := by decide +kernel
theorem dWE_compare_18 : decode prog_1_method_18_code 18 = .ok (.ireturn, 1) := by decide +kernel
theorem dWE_compare_19 : decode prog_1_method_18_code 19 = .ok (.aload_n 0, 1) := by decide +kernel
theorem dWE_compare_20 : decode prog_1_method_18_code 20 = .ok (.getfield 36, 3) := by decide +kernel
theorem dWE_compare_23 : decode prog_1_method_18_code 23 = .ok (.aload_n 0, 1) := by decide +kernel
theorem dWE_compare_24 : decode prog_1_method_18_code 24 = .ok (.getfield 19, 3) := by decide +kernel
theorem dWE_compare_27 : decode prog_1_method_18_code 27 = .ok (.aload_n 0, 1) := by decide +kernel
theorem dWE_compare_28 : decode prog_1_method_18_code 28 = .ok (.getfield 10, 3) := by decide +kernel
theorem dWE_compare_31 : decode prog_1_method_18_code 31 = .ok (.aload_n 0, 1) := by decide +kernel
theorem dWE_compare_32 : decode prog_1_method_18_code 32 = .ok (.getfield 49, 3) := by decide +kernel
theorem dWE_compare_35 : decode prog_1_method_18_code 35 = .ok (.invokevirtual 142, 3) := by decide +kernel
theorem dWE_compare_38 : decode prog_1_method_18_code 38 = .ok (.aload_n 0, 1) := by decide +kernel
theorem dWE_compare_39 : decode prog_1_method_18_code 39 = .ok (.getfield 36, 3) := by decide +kernel
theorem dWE_compare_42 : decode prog_1_method_18_code 42 = .ok (.iload_n 1, 1) := by decide +kernel
theorem dWE_compare_43 : decode prog_1_method_18_code 43 = .ok (.iload_n 2, 1) := by decide +kernel
theorem dWE_compare_44 : decode prog_1_method_18_code 44 = .ok (.invokevirtual 149, 3) := by decide +kernel
theorem dWE_compare_47 : decode prog_1_method_18_code 47 = .ok (.ireturn, 1) := by decide +kernel
theorem dLaw_cell_0 : decode method_2_code 0 = .ok (.iload_n 1, 1) := by decide +kernel
theorem dLaw_cell_1 : decode method_2_code 1 = .ok (.aload_n 0, 1) := by decide +kernel
theorem dLaw_cell_2 : decode method_2_code 2 = .ok (.arraylength, 1) := by decide +kernel
theorem dLaw_cell_3 : decode method_2_code 3 = .ok (.if_icmp .ge 9, 3) := by decide +kernel
theorem dLaw_cell_6 : decode method_2_code 6 = .ok (.aload_n 0, 1) := by decide +kernel
theorem dLaw_cell_7 : decode method_2_code 7 = .ok (.iload_n 1, 1) := by decide +kernel
theorem dLaw_cell_8 : decode method_2_code 8 = .ok (.iaload, 1) := by decide +kernel
theorem dLaw_cell_9 : decode method_2_code 9 = .ok (.goto 4, 3) := by decide +kernel
theorem dLaw_cell_12 : decode method_2_code 12 = .ok (.iconst 0, 1) := by decide +kernel
theorem dLaw_cell_13 : decode method_2_code 13 = .ok (.ireturn, 1) := by decide +kernel
theorem dMo_init_0 : decode prog_10_method_1_code 0 = .ok (.aload_n 0, 1) := by decide +kernel
theorem dMo_init_1 : decode prog_10_method_1_code 1 = .ok (.invokespecial 1, 3) := by decide +kernel
theorem dMo_init_4 : decode prog_10_method_1_code 4 = .ok (.aload_n 0, 1) := by decide +kernel
theorem dMo_init_5 : decode prog_10_method_1_code 5 = .ok (.bipush 40, 2) := by decide +kernel
theorem dMo_init_7 : decode prog_10_method_1_code 7 = .ok (.newarray .int, 2) := by decide +kernel
theorem dMo_init_9 : decode prog_10_method_1_code 9 = .ok (.putfield 7, 3) := by decide +kernel
theorem dMo_init_12 : decode prog_10_method_1_code 12 = .ok (.aload_n 0, 1) := by decide +kernel
theorem dMo_init_13 : decode prog_10_method_1_code 13 = .ok (.bipush 20, 2) := by decide +kernel
theorem dMo_init_15 : decode prog_10_method_1_code 15 = .ok (.newarray .long, 2) := by decide +kernel
theorem dMo_init_17 : decode prog_10_method_1_code 17 = .ok (.putfield 13, 3) := by decide +kernel
theorem dMo_init_20 : decode prog_10_method_1_code 20 = .ok (.aload_n 0, 1) := by decide +kernel
theorem dMo_init_21 : decode prog_10_method_1_code 21 = .ok (.sipush 160, 3) := by decide +kernel
theorem dMo_init_24 : decode prog_10_method_1_code 24 = .ok (.newarray .int, 2) := by decide +kernel
theorem dMo_init_26 : decode prog_10_method_1_code 26 = .ok (.putfield 17, 3) := by decide +kernel
theorem dMo_init_29 : decode prog_10_method_1_code 29 = .ok (.aload_n 0, 1) := by decide +kernel
theorem dMo_init_30 : decode prog_10_method_1_code 30 = .ok (.bipush 64, 2) := by decide +kernel
theorem dMo_init_32 : decode prog_10_method_1_code 32 = .ok (.newarray .int, 2) := by decide +kernel
theorem dMo_init_34 : decode prog_10_method_1_code 34 = .ok (.putfield 20, 3) := by decide +kernel
theorem dMo_init_37 : decode prog_10_method_1_code 37 = .ok (.aload_n 0, 1) := by decide +kernel
theorem dMo_init_38 : decode prog_10_method_1_code 38 = .ok (.bipush 64, 2) := by decide +kernel
theorem dMo_init_40 : decode prog_10_method_1_code 40 = .ok (.newarray .int, 2) := by decide +kernel
theorem dMo_init_42 : decode prog_10_method_1_code 42 = .ok (.putfield 23, 3) := by decide +kernel
theorem dMo_init_45 : decode prog_10_method_1_code 45 = .ok (.aload_n 0, 1) := by decide +kernel
theorem dMo_init_46 : decode prog_10_method_1_code 46 = .ok (.sipush 1280, 3) := by decide +kernel
theorem dMo_init_49 : decode prog_10_method_1_code 49 = .ok (.newarray .long, 2) := by decide +kernel
theorem dMo_init_51 : decode prog_10_method_1_code 51 = .ok (.putfield 26, 3) := by decide +kernel
theorem dMo_init_54 : decode prog_10_method_1_code 54 = .ok (.aload_n 0, 1) := by decide +kernel
theorem dMo_init_55 : decode prog_10_method_1_code 55 = .ok (.bipush 24, 2) := by decide +kernel
theorem dMo_init_57 : decode prog_10_method_1_code 57 = .ok (.newarray .int, 2) := by decide +kernel
theorem dMo_init_59 : decode prog_10_method_1_code 59 = .ok (.putfield 29, 3) := by decide +kernel
theorem dMo_init_62 : decode prog_10_method_1_code 62 = .ok (.aload_n 0, 1) := by decide +kernel
theorem dMo_init_63 : decode prog_10_method_1_code 63 = .ok (.bipush 24, 2) := by decide +kernel
theorem dMo_init_65 : decode prog_10_method_1_code 65 = .ok (.newarray .int, 2) := by decide +kernel
theorem dMo_init_67 : decode prog_10_method_1_code 67 = .ok (.putfield 32, 3) := by decide +kernel
theorem dMo_init_70 : decode prog_10_method_1_code 70 = .ok (.aload_n 0, 1) := by decide +kernel
theorem dMo_init_71 : decode prog_10_method_1_code 71 = .ok (.bipush 24, 2) := by decide +kernel
theorem dMo_init_73 : decode prog_10_method_1_code 73 = .ok (.newarray .int, 2) := by decide +kernel
theorem dMo_init_75 : decode prog_10_method_1_code 75 = .ok (.putfield 35, 3) := by decide +kernel
theorem dMo_init_78 : decode prog_10_method_1_code 78 = .ok (.aload_n 0, 1) := by decide +kernel
theorem dMo_init_79 : decode prog_10_method_1_code 79 = .ok (.bipush 24, 2) := by decide +kernel
theorem dMo_init_81 : decode prog_10_method_1_code 81 = .ok (.newarray .int, 2) := by decide +kernel
theorem dMo_init_83 : decode prog_10_method_1_code 83 = .ok (.putfield 38, 3) := by decide +kernel
theorem dMo_init_86 : decode prog_10_method_1_code 86 = .ok (.aload_n 0, 1) := by decide +kernel
theorem dMo_init_87 : decode prog_10_method_1_code 87 = .ok (.sipush 480, 3) := by decide +kernel
theorem dMo_init_90 : decode prog_10_method_1_code 90 = .ok (.newarray .long, 2) := by decide +kernel
theorem dMo_init_92 : decode prog_10_method_1_code 92 = .ok (.putfield 41, 3) := by decide +kernel
theorem dMo_init_95 : decode prog_10_method_1_code 95 = .ok (.aload_n 0, 1) := by decide +kernel
theorem dMo_init_96 : decode prog_10_method_1_code 96 = .ok (.bipush 50, 2) := by decide +kernel
theorem dMo_init_98 : decode prog_10_method_1_code 98 = .ok (.newarray .int, 2) := by decide +kernel
theorem dMo_init_100 : decode prog_10_method_1_code 100 = .ok (.putfield 44, 3) := by decide +kernel
theorem dMo_init_103 : decode prog_10_method_1_code 103 = .ok (.aload_n 0, 1) := by decide +kernel
theorem dMo_init_104 : decode prog_10_method_1_code 104 = .ok (.bipush 50, 2) := by decide +kernel
theorem dMo_init_106 : decode prog_10_method_1_code 106 = .ok (.newarray .int, 2) := by decide +kernel
theorem dMo_init_108 : decode prog_10_method_1_code 108 = .ok (.putfield 47, 3) := by decide +kernel
theorem dMo_init_111 : decode prog_10_method_1_code 111 = .ok (.aload_n 0, 1) := by decide +kernel
theorem dMo_init_112 : decode prog_10_method_1_code 112 = .ok (.iload_n 1, 1) := by decide +kernel
theorem dMo_init_113 : decode prog_10_method_1_code 113 = .ok (.iconst 2, 1) := by decide +kernel
theorem dMo_init_114 : decode prog_10_method_1_code 114 = .ok (.if_icmp .ge 7, 3) := by decide +kernel
theorem dMo_init_117 : decode prog_10_method_1_code 117 = .ok (.iconst 2, 1) := by decide +kernel
theorem dMo_init_118 : decode prog_10_method_1_code 118 = .ok (.goto 13, 3) := by decide +kernel
theorem dMo_init_121 : decode prog_10_method_1_code 121 = .ok (.iload_n 1, 1) := by decide +kernel
theorem dMo_init_122 : decode prog_10_method_1_code 122 = .ok (.iconst 4, 1) := by decide +kernel
theorem dMo_init_123 : decode prog_10_method_1_code 123 = .ok (.if_icmp .le 7, 3) := by decide +kernel
theorem dMo_init_126 : decode prog_10_method_1_code 126 = .ok (.iconst 4, 1) := by decide +kernel
theorem dMo_init_127 : decode prog_10_method_1_code 127 = .ok (.goto 4, 3) := by decide +kernel
theorem dMo_init_130 : decode prog_10_method_1_code 130 = .ok (.iload_n 1, 1) := by decide +kernel
theorem dMo_init_131 : decode prog_10_method_1_code 131 = .ok (.putfield 50, 3) := by decide +kernel
theorem dMo_init_134 : decode prog_10_method_1_code 134 = .ok (.return_, 1) := by decide +kernel
theorem dMo_key_0 : decode prog_10_method_2_code 0 = .ok (.iload_n 1, 1) := by decide +kernel
theorem dMo_key_1 : decode prog_10_method_2_code 1 = .ok (.bipush 32, 2) := by decide +kernel
theorem dMo_key_3 : decode prog_10_method_2_code 3 = .ok (.if_icmp .lt 18, 3) := by decide +kernel
theorem dMo_key_6 : decode prog_10_method_2_code 6 = .ok (.iload_n 1, 1) := by decide +kernel
theorem dMo_key_7 : decode prog_10_method_2_code 7 = .ok (.bipush 126, 2) := by decide +kernel
theorem dMo_key_9 : decode prog_10_method_2_code 9 = .ok (.if_icmp .gt 12, 3) := by decide +kernel
theorem dMo_key_12 : decode prog_10_method_2_code 12 = .ok (.aload_n 0, 1) := by decide +kernel
theorem dMo_key_13 : decode prog_10_method_2_code 13 = .ok (.getfield 54, 3) := by decide +kernel
theorem dMo_key_16 : decode prog_10_method_2_code 16 = .ok (.bipush 40, 2) := by decide +kernel
theorem dMo_key_18 : decode prog_10_method_2_code 18 = .ok (.if_icmp .ne 5, 3) := by decide +kernel
theorem dMo_key_21 : decode prog_10_method_2_code 21 = .ok (.iconst 0, 1) := by decide +kernel
theorem dMo_key_22 : decode prog_10_method_2_code 22 = .ok (.ireturn, 1) := by decide +kernel
theorem dMo_key_23 : decode prog_10_method_2_code 23 = .ok (.aload_n 0, 1) := by decide +kernel
theorem dMo_key_24 : decode prog_10_method_2_code 24 = .ok (.getfield 7, 3) := by decide +kernel
theorem dMo_key_27 : decode prog_10_method_2_code 27 = .ok (.aload_n 0, 1) := by decide +kernel
theorem dMo_key_28 : decode prog_10_method_2_code 28 = .ok (.getfield 54, 3) := by decide +kernel
theorem dMo_key_31 : decode prog_10_method_2_code 31 = .ok (.iload_n 1, 1) := by decide +kernel
theorem dMo_key_32 : decode prog_10_method_2_code 32 = .ok (.iastore, 1) := by decide +kernel
theorem dMo_key_33 : decode prog_10_method_2_code 33 = .ok (.aload_n 0, 1) := by decide +kernel
theorem dMo_key_34 : decode prog_10_method_2_code 34 = .ok (.dup, 1) := by decide +kernel
theorem dMo_key_35 : decode prog_10_method_2_code 35 = .ok (.getfield 54, 3) := by decide +kernel
theorem dMo_key_38 : decode prog_10_method_2_code 38 = .ok (.iconst 1, 1) := by decide +kernel
theorem dMo_key_39 : decode prog_10_method_2_code 39 = .ok (.iadd, 1) := by decide +kernel
theorem dMo_key_40 : decode prog_10_method_2_code 40 = .ok (.putfield 54, 3) := by decide +kernel
theorem dMo_key_43 : decode prog_10_method_2_code 43 = .ok (.iconst 1, 1) := by decide +kernel
theorem dMo_key_44 : decode prog_10_method_2_code 44 = .ok (.ireturn, 1) := by decide +kernel
theorem dMo_clear_0 : decode prog_10_method_3_code 0 = .ok (.aload_n 0, 1) := by decide +kernel
theorem dMo_clear_1 : decode prog_10_method_3_code 1 = .ok (.getfield 54, 3) := by decide +kernel
theorem dMo_clear_4 : decode prog_10_method_3_code 4 = .ok (.istore_n 1, 1) := by decide +kernel
theorem dMo_clear_5 : decode prog_10_method_3_code 5 = .ok (.aload_n 0, 1) := by decide +kernel
theorem dMo_clear_6 : decode prog_10_method_3_code 6 = .ok (.iconst 0, 1) := by decide +kernel
theorem dMo_clear_7 : decode prog_10_method_3_code 7 = .ok (.putfield 54, 3) := by decide +kernel
theorem dMo_clear_10 : decode prog_10_method_3_code 10 = .ok (.iload_n 1, 1) := by decide +kernel
theorem dMo_clear_11 : decode prog_10_method_3_code 11 = .ok (.ireturn, 1) := by decide +kernel
theorem dMo_words_0 : decode prog_10_method_6_code 0 = .ok (.aload_n 0, 1) := by decide +kernel
theorem dMo_words_1 : decode prog_10_method_6_code 1 = .ok (.invokevirtual 66, 3) := by decide +kernel
theorem dMo_words_4 : decode prog_10_method_6_code 4 = .ok (.aload_n 0, 1) := by decide +kernel
theorem dMo_words_5 : decode prog_10_method_6_code 5 = .ok (.getfield 57, 3) := by decide +kernel
theorem dMo_words_8 : decode prog_10_method_6_code 8 = .ok (.ireturn, 1) := by decide +kernel
theorem dMo_read_0 : decode prog_10_method_5_code 0 = .ok (.aload_n 0, 1) := by decide +kernel
theorem dMo_read_1 : decode prog_10_method_5_code 1 = .ok (.iconst 0, 1) := by decide +kernel
theorem dMo_read_2 : decode prog_10_method_5_code 2 = .ok (.putfield 57, 3) := by decide +kernel
theorem dMo_read_5 : decode prog_10_method_5_code 5 = .ok (.iconst 0, 1) := by decide +kernel
theorem dMo_read_6 : decode prog_10_method_5_code 6 = .ok (.istore_n 1, 1) := by decide +kernel
theorem dMo_read_7 : decode prog_10_method_5_code 7 = .ok (.iconst 0, 1) := by decide +kernel
theorem dMo_read_8 : decode prog_10_method_5_code 8 = .ok (.istore_n 2, 1) := by decide +kernel
theorem dMo_read_9 : decode prog_10_method_5_code 9 = .ok (.iload_n 2, 1) := by decide +kernel
theorem dMo_read_10 : decode prog_10_method_5_code 10 = .ok (.sipush 160, 3) := by decide +kernel
theorem dMo_read_13 : decode prog_10_method_5_code 13 = .ok (.if_icmp .ge 16, 3) := by decide +kernel
theorem dMo_read_16 : decode prog_10_method_5_code 16 = .ok (.aload_n 0, 1) := by decide +kernel
theorem dMo_read_17 : decode prog_10_method_5_code 17 = .ok (.getfield 17, 3) := by decide +kernel
theorem dMo_read_20 : decode prog_10_method_5_code 20 = .ok (.iload_n 2, 1) := by decide +kernel
theorem dMo_read_21 : decode prog_10_method_5_code 21 = .ok (.iconst 0, 1) := by decide +kernel
theorem dMo_read_22 : decode prog_10_method_5_code 22 = .ok (.iastore, 1) := by decide +kernel
theorem dMo_read_23 : decode prog_10_method_5_code 23 = .ok (.iinc 2 1, 3) := by decide +kernel
theorem dMo_read_26 : decode prog_10_method_5_code 26 = .ok (.goto (-17), 3) := by decide +kernel
theorem dMo_read_29 : decode prog_10_method_5_code 29 = .ok (.iconst 0, 1) := by decide +kernel
theorem dMo_read_30 : decode prog_10_method_5_code 30 = .ok (.istore_n 2, 1) := by decide +kernel
theorem dMo_read_31 : decode prog_10_method_5_code 31 = .ok (.iload_n 2, 1) := by decide +kernel
theorem dMo_read_32 : decode prog_10_method_5_code 32 = .ok (.aload_n 0, 1) := by decide +kernel
theorem dMo_read_33 : decode prog_10_method_5_code 33 = .ok (.getfield 54, 3) := by decide +kernel
theorem dMo_read_36 : decode prog_10_method_5_code 36 = .ok (.if_icmp .ge 107, 3) := by decide +kernel
theorem dMo_read_39 : decode prog_10_method_5_code 39 = .ok (.aload_n 0, 1) := by decide +kernel
theorem dMo_read_40 : decode prog_10_method_5_code 40 = .ok (.getfield 7, 3) := by decide +kernel
theorem dMo_read_43 : decode prog_10_method_5_code 43 = .ok (.iload_n 2, 1) := by decide +kernel
theorem dMo_read_44 : decode prog_10_method_5_code 44 = .ok (.iaload, 1) := by decide +kernel
theorem dMo_read_45 : decode prog_10_method_5_code 45 = .ok (.invokestatic 60, 3) := by decide +kernel
theorem dMo_read_48 : decode prog_10_method_5_code 48 = .ok (.istore_n 3, 1) := by decide +kernel
theorem dMo_read_49 : decode prog_10_method_5_code 49 = .ok (.iload_n 3, 1) := by decide +kernel
theorem dMo_read_50 : decode prog_10_method_5_code 50 = .ok (.ifCond .ne 8, 3) := by decide +kernel
theorem dMo_read_53 : decode prog_10_method_5_code 53 = .ok (.iconst 0, 1) := by decide +kernel
theorem dMo_read_54 : decode prog_10_method_5_code 54 = .ok (.istore_n 1, 1) := by decide +kernel
theorem dMo_read_55 : decode prog_10_method_5_code 55 = .ok (.goto 82, 3) := by decide +kernel
theorem dMo_read_58 : decode prog_10_method_5_code 58 = .ok (.iload_n 1, 1) := by decide +kernel
theorem dMo_read_59 : decode prog_10_method_5_code 59 = .ok (.ifCond .ne 23, 3) := by decide +kernel
theorem dMo_read_62 : decode prog_10_method_5_code 62 = .ok (.aload_n 0, 1) := by decide +kernel
theorem dMo_read_63 : decode prog_10_method_5_code 63 = .ok (.getfield 13, 3) := by decide +kernel
theorem dMo_read_66 : decode prog_10_method_5_code 66 = .ok (.aload_n 0, 1) := by decide +kernel
theorem dMo_read_67 : decode prog_10_method_5_code 67 = .ok (.getfield 57, 3) := by decide +kernel
theorem dMo_read_70 : decode prog_10_method_5_code 70 = .ok (.lconst 0, 1) := by decide +kernel
theorem dMo_read_71 : decode prog_10_method_5_code 71 = .ok (.lastore, 1) := by decide +kernel
theorem dMo_read_72 : decode prog_10_method_5_code 72 = .ok (.aload_n 0, 1) := by decide +kernel
theorem dMo_read_73 : decode prog_10_method_5_code 73 = .ok (.dup, 1) := by decide +kernel
theorem dMo_read_74 : decode prog_10_method_5_code 74 = .ok (.getfield 57, 3) := by decide +kernel
theorem dMo_read_77 : decode prog_10_method_5_code 77 = .ok (.iconst 1, 1) := by decide +kernel
theorem dMo_read_78 : decode prog_10_method_5_code 78 = .ok (.iadd, 1) := by decide +kernel
theorem dMo_read_79 : decode prog_10_method_5_code 79 = .ok (.putfield 57, 3) := by decide +kernel
theorem dMo_read_82 : decode prog_10_method_5_code 82 = .ok (.iload_n 1, 1) := by decide +kernel
theorem dMo_read_83 : decode prog_10_method_5_code 83 = .ok (.bipush 8, 2) := by decide +kernel
theorem dMo_read_85 : decode prog_10_method_5_code 85 = .ok (.if_icmp .ge 49, 3) := by decide +kernel
theorem dMo_read_88 : decode prog_10_method_5_code 88 = .ok (.aload_n 0, 1) := by decide +kernel
theorem dMo_read_89 : decode prog_10_method_5_code 89 = .ok (.getfield 17, 3) := by decide +kernel
theorem dMo_read_92 : decode prog_10_method_5_code 92 = .ok (.bipush 8, 2) := by decide +kernel
theorem dMo_read_94 : decode prog_10_method_5_code 94 = .ok (.aload_n 0, 1) := by decide +kernel
theorem dMo_read_95 : decode prog_10_method_5_code 95 = .ok (.getfield 57, 3) := by decide +kernel
theorem dMo_read_98 : decode prog_10_method_5_code 98 = .ok (.iconst 1, 1) := by decide +kernel
theorem dMo_read_99 : decode prog_10_method_5_code 99 = .ok (.isub, 1) := by decide +kernel
theorem dMo_read_100 : decode prog_10_method_5_code 100 = .ok (.imul, 1) := by decide +kernel
theorem dMo_read_101 : decode prog_10_method_5_code 101 = .ok (.iload_n 1, 1) := by decide +kernel
theorem dMo_read_102 : decode prog_10_method_5_code 102 = .ok (.iadd, 1) := by decide +kernel
theorem dMo_read_103 : decode prog_10_method_5_code 103 = .ok (.iload_n 3, 1) := by decide +kernel
theorem dMo_read_104 : decode prog_10_method_5_code 104 = .ok (.iastore, 1) := by decide +kernel
theorem dMo_read_105 : decode prog_10_method_5_code 105 = .ok (.aload_n 0, 1) := by decide +kernel
theorem dMo_read_106 : decode prog_10_method_5_code 106 = .ok (.getfield 13, 3) := by decide +kernel
theorem dMo_read_109 : decode prog_10_method_5_code 109 = .ok (.aload_n 0, 1) := by decide +kernel
theorem dMo_read_110 : decode prog_10_method_5_code 110 = .ok (.getfield 57, 3) := by decide +kernel
theorem dMo_read_113 : decode prog_10_method_5_code 113 = .ok (.iconst 1, 1) := by decide +kernel
theorem dMo_read_114 : decode prog_10_method_5_code 114 = .ok (.isub, 1) := by decide +kernel
theorem dMo_read_115 : decode prog_10_method_5_code 115 = .ok (.ldc2_w 64, 3) := by decide +kernel
theorem dMo_read_118 : decode prog_10_method_5_code 118 = .ok (.aload_n 0, 1) := by decide +kernel
theorem dMo_read_119 : decode prog_10_method_5_code 119 = .ok (.getfield 13, 3) := by decide +kernel
theorem dMo_read_122 : decode prog_10_method_5_code 122 = .ok (.aload_n 0, 1) := by decide +kernel
theorem dMo_read_123 : decode prog_10_method_5_code 123 = .ok (.getfield 57, 3) := by decide +kernel
theorem dMo_read_126 : decode prog_10_method_5_code 126 = .ok (.iconst 1, 1) := by decide +kernel
theorem dMo_read_127 : decode prog_10_method_5_code 127 = .ok (.isub, 1) := by decide +kernel
theorem dMo_read_128 : decode prog_10_method_5_code 128 = .ok (.laload, 1) := by decide +kernel
theorem dMo_read_129 : decode prog_10_method_5_code 129 = .ok (.lmul, 1) := by decide +kernel
theorem dMo_read_130 : decode prog_10_method_5_code 130 = .ok (.iload_n 3, 1) := by decide +kernel
theorem dMo_read_131 : decode prog_10_method_5_code 131 = .ok (.i2l, 1) := by decide +kernel
theorem dMo_read_132 : decode prog_10_method_5_code 132 = .ok (.ladd, 1) := by decide +kernel
theorem dMo_read_133 : decode prog_10_method_5_code 133 = .ok (.lastore, 1) := by decide +kernel
theorem dMo_read_134 : decode prog_10_method_5_code 134 = .ok (.iinc 1 1, 3) := by decide +kernel
theorem dMo_read_137 : decode prog_10_method_5_code 137 = .ok (.iinc 2 1, 3) := by decide +kernel
theorem dMo_read_140 : decode prog_10_method_5_code 140 = .ok (.goto (-109), 3) := by decide +kernel
theorem dMo_read_143 : decode prog_10_method_5_code 143 = .ok (.return_, 1) := by decide +kernel
theorem dMo_plain_0 : decode prog_10_method_4_code 0 = .ok (.iload_n 0, 1) := by decide +kernel
theorem dMo_plain_1 : decode prog_10_method_4_code 1 = .ok (.bipush 65, 2) := by decide +kernel
theorem dMo_plain_3 : decode prog_10_method_4_code 3 = .ok (.if_icmp .lt 16, 3) := by decide +kernel
theorem dMo_plain_6 : decode prog_10_method_4_code 6 = .ok (.iload_n 0, 1) := by decide +kernel
theorem dMo_plain_7 : decode prog_10_method_4_code 7 = .ok (.bipush 90, 2) := by decide +kernel
theorem dMo_plain_9 : decode prog_10_method_4_code 9 = .ok (.if_icmp .gt 10, 3) := by decide +kernel
theorem dMo_plain_12 : decode prog_10_method_4_code 12 = .ok (.iload_n 0, 1) := by decide +kernel
theorem dMo_plain_13 : decode prog_10_method_4_code 13 = .ok (.bipush 32, 2) := by decide +kernel
theorem dMo_plain_15 : decode prog_10_method_4_code 15 = .ok (.iadd, 1) := by decide +kernel
theorem dMo_plain_16 : decode prog_10_method_4_code 16 = .ok (.goto 32, 3) := by decide +kernel
theorem dMo_plain_19 : decode prog_10_method_4_code 19 = .ok (.iload_n 0, 1) := by decide +kernel
theorem dMo_plain_20 : decode prog_10_method_4_code 20 = .ok (.bipush 97, 2) := by decide +kernel
theorem dMo_plain_22 : decode prog_10_method_4_code 22 = .ok (.if_icmp .lt 9, 3) := by decide +kernel
theorem dMo_plain_25 : decode prog_10_method_4_code 25 = .ok (.iload_n 0, 1) := by decide +kernel
theorem dMo_plain_26 : decode prog_10_method_4_code 26 = .ok (.bipush 122, 2) := by decide +kernel
theorem dMo_plain_28 : decode prog_10_method_4_code 28 = .ok (.if_icmp .le 15, 3) := by decide +kernel
theorem dMo_plain_31 : decode prog_10_method_4_code 31 = .ok (.iload_n 0, 1) := by decide +kernel
theorem dMo_plain_32 : decode prog_10_method_4_code 32 = .ok (.bipush 48, 2) := by decide +kernel
theorem dMo_plain_34 : decode prog_10_method_4_code 34 = .ok (.if_icmp .lt 13, 3) := by decide +kernel
theorem dMo_plain_37 : decode prog_10_method_4_code 37 = .ok (.iload_n 0, 1) := by decide +kernel
theorem dMo_plain_38 : decode prog_10_method_4_code 38 = .ok (.bipush 57, 2) := by decide +kernel
theorem dMo_plain_40 : decode prog_10_method_4_code 40 = .ok (.if_icmp .gt 7, 3) := by decide +kernel
theorem dMo_plain_43 : decode prog_10_method_4_code 43 = .ok (.iload_n 0, 1) := by decide +kernel
theorem dMo_plain_44 : decode prog_10_method_4_code 44 = .ok (.goto 4, 3) := by decide +kernel
theorem dMo_plain_47 : decode prog_10_method_4_code 47 = .ok (.iconst 0, 1) := by decide +kernel
theorem dMo_plain_48 : decode prog_10_method_4_code 48 = .ok (.ireturn, 1) := by decide +kernel
theorem dMo_letter_0 : decode prog_10_method_7_code 0 = .ok (.aload_n 0, 1) := by decide +kernel
theorem dMo_letter_1 : decode prog_10_method_7_code 1 = .ok (.invokevirtual 66, 3) := by decide +kernel
theorem dMo_letter_4 : decode prog_10_method_7_code 4 = .ok (.iload_n 1, 1) := by decide +kernel
theorem dMo_letter_5 : decode prog_10_method_7_code 5 = .ok (.ifCond .lt 35, 3) := by decide +kernel
theorem dMo_letter_8 : decode prog_10_method_7_code 8 = .ok (.iload_n 1, 1) := by decide +kernel
theorem dMo_letter_9 : decode prog_10_method_7_code 9 = .ok (.aload_n 0, 1) := by decide +kernel
theorem dMo_letter_10 : decode prog_10_method_7_code 10 = .ok (.getfield 57, 3) := by decide +kernel
theorem dMo_letter_13 : decode prog_10_method_7_code 13 = .ok (.if_icmp .ge 27, 3) := by decide +kernel
theorem dMo_letter_16 : decode prog_10_method_7_code 16 = .ok (.iload_n 2, 1) := by decide +kernel
theorem dMo_letter_17 : decode prog_10_method_7_code 17 = .ok (.ifCond .lt 23, 3) := by decide +kernel
theorem dMo_letter_20 : decode prog_10_method_7_code 20 = .ok (.iload_n 2, 1) := by decide +kernel
theorem dMo_letter_21 : decode prog_10_method_7_code 21 = .ok (.bipush 7, 2) := by decide +kernel
theorem dMo_letter_23 : decode prog_10_method_7_code 23 = .ok (.if_icmp .gt 17, 3) := by decide +kernel
theorem dMo_letter_26 : decode prog_10_method_7_code 26 = .ok (.aload_n 0, 1) := by decide +kernel
theorem dMo_letter_27 : decode prog_10_method_7_code 27 = .ok (.getfield 17, 3) := by decide +kernel
theorem dMo_letter_30 : decode prog_10_method_7_code 30 = .ok (.bipush 8, 2) := by decide +kernel
theorem dMo_letter_32 : decode prog_10_method_7_code 32 = .ok (.iload_n 1, 1) := by decide +kernel
theorem dMo_letter_33 : decode prog_10_method_7_code 33 = .ok (.imul, 1) := by decide +kernel
theorem dMo_letter_34 : decode prog_10_method_7_code 34 = .ok (.iload_n 2, 1) := by decide +kernel
theorem dMo_letter_35 : decode prog_10_method_7_code 35 = .ok (.iadd, 1) := by decide +kernel
theorem dMo_letter_36 : decode prog_10_method_7_code 36 = .ok (.iaload, 1) := by decide +kernel
theorem dMo_letter_37 : decode prog_10_method_7_code 37 = .ok (.ifCond .ne 5, 3) := by decide +kernel
theorem dMo_letter_40 : decode prog_10_method_7_code 40 = .ok (.iconst (-1), 1) := by decide +kernel
theorem dMo_letter_41 : decode prog_10_method_7_code 41 = .ok (.ireturn, 1) := by decide +kernel
theorem dMo_letter_42 : decode prog_10_method_7_code 42 = .ok (.aload_n 0, 1) := by decide +kernel
theorem dMo_letter_43 : decode prog_10_method_7_code 43 = .ok (.getfield 17, 3) := by decide +kernel
theorem dMo_letter_46 : decode prog_10_method_7_code 46 = .ok (.bipush 8, 2) := by decide +kernel
theorem dMo_letter_48 : decode prog_10_method_7_code 48 = .ok (.iload_n 1, 1) := by decide +kernel
theorem dMo_letter_49 : decode prog_10_method_7_code 49 = .ok (.imul, 1) := by decide +kernel
theorem dMo_letter_50 : decode prog_10_method_7_code 50 = .ok (.iload_n 2, 1) := by decide +kernel
theorem dMo_letter_51 : decode prog_10_method_7_code 51 = .ok (.iadd, 1) := by decide +kernel
theorem dMo_letter_52 : decode prog_10_method_7_code 52 = .ok (.iaload, 1) := by decide +kernel
theorem dMo_letter_53 : decode prog_10_method_7_code 53 = .ok (.ireturn, 1) := by decide +kernel
theorem dMo_pending_0 : decode prog_10_method_10_code 0 = .ok (.iconst 0, 1) := by decide +kernel
theorem dMo_pending_1 : decode prog_10_method_10_code 1 = .ok (.istore_n 1, 1) := by decide +kernel
theorem dMo_pending_2 : decode prog_10_method_10_code 2 = .ok (.iconst 0, 1) := by decide +kernel
theorem dMo_pending_3 : decode prog_10_method_10_code 3 = .ok (.istore_n 2, 1) := by decide +kernel
theorem dMo_pending_4 : decode prog_10_method_10_code 4 = .ok (.iload_n 2, 1) := by decide +kernel
theorem dMo_pending_5 : decode prog_10_method_10_code 5 = .ok (.aload_n 0, 1) := by decide +kernel
theorem dMo_pending_6 : decode prog_10_method_10_code 6 = .ok (.getfield 69, 3) := by decide +kernel
theorem dMo_pending_9 : decode prog_10_method_10_code 9 = .ok (.if_icmp .ge 18, 3) := by decide +kernel
theorem dMo_pending_12 : decode prog_10_method_10_code 12 = .ok (.iload_n 1, 1) := by decide +kernel
theorem dMo_pending_13 : decode prog_10_method_10_code 13 = .ok (.aload_n 0, 1) := by decide +kernel
theorem dMo_pending_14 : decode prog_10_method_10_code 14 = .ok (.getfield 38, 3) := by decide +kernel
theorem dMo_pending_17 : decode prog_10_method_10_code 17 = .ok (.iload_n 2, 1) := by decide +kernel
theorem dMo_pending_18 : decode prog_10_method_10_code 18 = .ok (.iaload, 1) := by decide +kernel
theorem dMo_pending_19 : decode prog_10_method_10_code 19 = .ok (.iadd, 1) := by decide +kernel
theorem dMo_pending_20 : decode prog_10_method_10_code 20 = .ok (.istore_n 1, 1) := by decide +kernel
theorem dMo_pending_21 : decode prog_10_method_10_code 21 = .ok (.iinc 2 1, 3) := by decide +kernel
theorem dMo_pending_24 : decode prog_10_method_10_code 24 = .ok (.goto (-20), 3) := by decide +kernel
theorem dMo_pending_27 : decode prog_10_method_10_code 27 = .ok (.iload_n 1, 1) := by decide +kernel
theorem dMo_pending_28 : decode prog_10_method_10_code 28 = .ok (.ireturn, 1) := by decide +kernel
theorem dMo_train_0 : decode prog_10_method_13_code 0 = .ok (.iload_n 1, 1) := by decide +kernel
theorem dMo_train_1 : decode prog_10_method_13_code 1 = .ok (.invokestatic 72, 3) := by decide +kernel
theorem dMo_train_4 : decode prog_10_method_13_code 4 = .ok (.ifCond .eq 15, 3) := by decide +kernel
theorem dMo_train_7 : decode prog_10_method_13_code 7 = .ok (.iload_n 2, 1) := by decide +kernel
theorem dMo_train_8 : decode prog_10_method_13_code 8 = .ok (.ifCond .lt 11, 3) := by decide +kernel
theorem dMo_train_11 : decode prog_10_method_13_code 11 = .ok (.iload_n 2, 1) := by decide +kernel
theorem dMo_train_12 : decode prog_10_method_13_code 12 = .ok (.aload_n 0, 1) := by decide +kernel
theorem dMo_train_13 : decode prog_10_method_13_code 13 = .ok (.getfield 50, 3) := by decide +kernel
theorem dMo_train_16 : decode prog_10_method_13_code 16 = .ok (.if_icmp .lt 5, 3) := by decide +kernel
theorem dMo_train_19 : decode prog_10_method_13_code 19 = .ok (.iconst (-1), 1) := by decide +kernel
theorem dMo_train_20 : decode prog_10_method_13_code 20 = .ok (.ireturn, 1) := by decide +kernel
theorem dMo_train_21 : decode prog_10_method_13_code 21 = .ok (.aload_n 0, 1) := by decide +kernel
theorem dMo_train_22 : decode prog_10_method_13_code 22 = .ok (.getfield 20, 3) := by decide +kernel
theorem dMo_train_25 : decode prog_10_method_13_code 25 = .ok (.iload_n 1, 1) := by decide +kernel
theorem dMo_train_26 : decode prog_10_method_13_code 26 = .ok (.iaload, 1) := by decide +kernel
theorem dMo_train_27 : decode prog_10_method_13_code 27 = .ok (.ifCond .le 6, 3) := by decide +kernel
theorem dMo_train_30 : decode prog_10_method_13_code 30 = .ok (.bipush (-2), 2) := by decide +kernel
theorem dMo_train_32 : decode prog_10_method_13_code 32 = .ok (.ireturn, 1) := by decide +kernel
theorem dMo_train_33 : decode prog_10_method_13_code 33 = .ok (.aload_n 0, 1) := by decide +kernel
theorem dMo_train_34 : decode prog_10_method_13_code 34 = .ok (.invokevirtual 76, 3) := by decide +kernel
theorem dMo_train_37 : decode prog_10_method_13_code 37 = .ok (.bipush 10, 2) := by decide +kernel
theorem dMo_train_39 : decode prog_10_method_13_code 39 = .ok (.if_icmp .ne 6, 3) := by decide +kernel
theorem dMo_train_42 : decode prog_10_method_13_code 42 = .ok (.bipush (-4), 2) := by decide +kernel
theorem dMo_train_44 : decode prog_10_method_13_code 44 = .ok (.ireturn, 1) := by decide +kernel
theorem dMo_train_45 : decode prog_10_method_13_code 45 = .ok (.aload_n 0, 1) := by decide +kernel
theorem dMo_train_46 : decode prog_10_method_13_code 46 = .ok (.invokevirtual 66, 3) := by decide +kernel
theorem dMo_train_49 : decode prog_10_method_13_code 49 = .ok (.iconst 1, 1) := by decide +kernel
theorem dMo_train_50 : decode prog_10_method_13_code 50 = .ok (.aload_n 0, 1) := by decide +kernel
theorem dMo_train_51 : decode prog_10_method_13_code 51 = .ok (.getfield 57, 3) := by decide +kernel
theorem dMo_train_54 : decode prog_10_method_13_code 54 = .ok (.iconst 3, 1) := by decide +kernel
theorem dMo_train_55 : decode prog_10_method_13_code 55 = .ok (.iadd, 1) := by decide +kernel
theorem dMo_train_56 : decode prog_10_method_13_code 56 = .ok (.iconst 4, 1) := by decide +kernel
theorem dMo_train_57 : decode prog_10_method_13_code 57 = .ok (.idiv, 1) := by decide +kernel
theorem dMo_train_58 : decode prog_10_method_13_code 58 = .ok (.iadd, 1) := by decide +kernel
theorem dMo_train_59 : decode prog_10_method_13_code 59 = .ok (.istore_n 3, 1) := by decide +kernel
theorem dMo_train_60 : decode prog_10_method_13_code 60 = .ok (.aload_n 0, 1) := by decide +kernel
theorem dMo_train_61 : decode prog_10_method_13_code 61 = .ok (.invokevirtual 80, 3) := by decide +kernel
theorem dMo_train_64 : decode prog_10_method_13_code 64 = .ok (.iload_n 3, 1) := by decide +kernel
theorem dMo_train_65 : decode prog_10_method_13_code 65 = .ok (.iadd, 1) := by decide +kernel
theorem dMo_train_66 : decode prog_10_method_13_code 66 = .ok (.bipush 24, 2) := by decide +kernel
theorem dMo_train_68 : decode prog_10_method_13_code 68 = .ok (.if_icmp .le 6, 3) := by decide +kernel
theorem dMo_train_71 : decode prog_10_method_13_code 71 = .ok (.bipush (-5), 2) := by decide +kernel
theorem dMo_train_73 : decode prog_10_method_13_code 73 = .ok (.ireturn, 1) := by decide +kernel
theorem dMo_train_74 : decode prog_10_method_13_code 74 = .ok (.aload_n 0, 1) := by decide +kernel
theorem dMo_train_75 : decode prog_10_method_13_code 75 = .ok (.iload_n 1, 1) := by decide +kernel
theorem dMo_train_76 : decode prog_10_method_13_code 76 = .ok (.iload_n 2, 1) := by decide +kernel
theorem dMo_train_77 : decode prog_10_method_13_code 77 = .ok (.iconst 1, 1) := by decide +kernel
theorem dMo_train_78 : decode prog_10_method_13_code 78 = .ok (.iadd, 1) := by decide +kernel
theorem dMo_train_79 : decode prog_10_method_13_code 79 = .ok (.aload_n 0, 1) := by decide +kernel
theorem dMo_train_80 : decode prog_10_method_13_code 80 = .ok (.getfield 57, 3) := by decide +kernel
theorem dMo_train_83 : decode prog_10_method_13_code 83 = .ok (.iload_n 3, 1) := by decide +kernel
theorem dMo_train_84 : decode prog_10_method_13_code 84 = .ok (.invokevirtual 83, 3) := by decide +kernel
theorem dMo_train_87 : decode prog_10_method_13_code 87 = .ok (.aload_n 0, 1) := by decide +kernel
theorem dMo_train_88 : decode prog_10_method_13_code 88 = .ok (.aload_n 0, 1) := by decide +kernel
theorem dMo_train_89 : decode prog_10_method_13_code 89 = .ok (.getfield 69, 3) := by decide +kernel
theorem dMo_train_92 : decode prog_10_method_13_code 92 = .ok (.iconst 1, 1) := by decide +kernel
theorem dMo_train_93 : decode prog_10_method_13_code 93 = .ok (.isub, 1) := by decide +kernel
theorem dMo_train_94 : decode prog_10_method_13_code 94 = .ok (.invokevirtual 87, 3) := by decide +kernel
theorem dMo_train_97 : decode prog_10_method_13_code 97 = .ok (.iload_n 3, 1) := by decide +kernel
theorem dMo_train_98 : decode prog_10_method_13_code 98 = .ok (.ireturn, 1) := by decide +kernel
theorem dMo_isId_0 : decode prog_10_method_8_code 0 = .ok (.iload_n 0, 1) := by decide +kernel
theorem dMo_isId_1 : decode prog_10_method_8_code 1 = .ok (.ifCond .lt 13, 3) := by decide +kernel
theorem dMo_isId_4 : decode prog_10_method_8_code 4 = .ok (.iload_n 0, 1) := by decide +kernel
theorem dMo_isId_5 : decode prog_10_method_8_code 5 = .ok (.bipush 31, 2) := by decide +kernel
theorem dMo_isId_7 : decode prog_10_method_8_code 7 = .ok (.if_icmp .gt 7, 3) := by decide +kernel
theorem dMo_isId_10 : decode prog_10_method_8_code 10 = .ok (.iconst 1, 1) := by decide +kernel
theorem dMo_isId_11 : decode prog_10_method_8_code 11 = .ok (.goto 4, 3) := by decide +kernel
theorem dMo_isId_14 : decode prog_10_method_8_code 14 = .ok (.iconst 0, 1) := by decide +kernel
theorem dMo_isId_15 : decode prog_10_method_8_code 15 = .ok (.ireturn, 1) := by decide +kernel
theorem dMo_inForce_0 : decode prog_10_method_9_code 0 = .ok (.iconst 0, 1) := by decide +kernel
theorem dMo_inForce_1 : decode prog_10_method_9_code 1 = .ok (.istore_n 1, 1) := by decide +kernel
theorem dMo_inForce_2 : decode prog_10_method_9_code 2 = .ok (.iconst 0, 1) := by decide +kernel
theorem dMo_inForce_3 : decode prog_10_method_9_code 3 = .ok (.istore_n 2, 1) := by decide +kernel
theorem dMo_inForce_4 : decode prog_10_method_9_code 4 = .ok (.iload_n 2, 1) := by decide +kernel
theorem dMo_inForce_5 : decode prog_10_method_9_code 5 = .ok (.bipush 32, 2) := by decide +kernel
theorem dMo_inForce_7 : decode prog_10_method_9_code 7 = .ok (.if_icmp .ge 26, 3) := by decide +kernel
theorem dMo_inForce_10 : decode prog_10_method_9_code 10 = .ok (.aload_n 0, 1) := by decide +kernel
theorem dMo_inForce_11 : decode prog_10_method_9_code 11 = .ok (.getfield 20, 3) := by decide +kernel
theorem dMo_inForce_14 : decode prog_10_method_9_code 14 = .ok (.iload_n 2, 1) := by decide +kernel
theorem dMo_inForce_15 : decode prog_10_method_9_code 15 = .ok (.iaload, 1) := by decide +kernel
theorem dMo_inForce_16 : decode prog_10_method_9_code 16 = .ok (.ifCond .le 9, 3) := by decide +kernel
theorem dMo_inForce_19 : decode prog_10_method_9_code 19 = .ok (.iload_n 1, 1) := by decide +kernel
theorem dMo_inForce_20 : decode prog_10_method_9_code 20 = .ok (.iconst 1, 1) := by decide +kernel
theorem dMo_inForce_21 : decode prog_10_method_9_code 21 = .ok (.iadd, 1) := by decide +kernel
theorem dMo_inForce_22 : decode prog_10_method_9_code 22 = .ok (.goto 4, 3) := by decide +kernel
theorem dMo_inForce_25 : decode prog_10_method_9_code 25 = .ok (.iload_n 1, 1) := by decide +kernel
theorem dMo_inForce_26 : decode prog_10_method_9_code 26 = .ok (.istore_n 1, 1) := by decide +kernel
theorem dMo_inForce_27 : decode prog_10_method_9_code 27 = .ok (.iinc 2 1, 3) := by decide +kernel
theorem dMo_inForce_30 : decode prog_10_method_9_code 30 = .ok (.goto (-26), 3) := by decide +kernel
theorem dMo_inForce_33 : decode prog_10_method_9_code 33 = .ok (.iload_n 1, 1) := by decide +kernel
theorem dMo_inForce_34 : decode prog_10_method_9_code 34 = .ok (.ireturn, 1) := by decide +kernel
theorem dMo_log_0 : decode prog_10_method_11_code 0 = .ok (.aload_n 0, 1) := by decide +kernel
theorem dMo_log_1 : decode prog_10_method_11_code 1 = .ok (.getfield 29, 3) := by decide +kernel
theorem dMo_log_4 : decode prog_10_method_11_code 4 = .ok (.aload_n 0, 1) := by decide +kernel
theorem dMo_log_5 : decode prog_10_method_11_code 5 = .ok (.getfield 69, 3) := by decide +kernel
theorem dMo_log_8 : decode prog_10_method_11_code 8 = .ok (.iload_n 1, 1) := by decide +kernel
theorem dMo_log_9 : decode prog_10_method_11_code 9 = .ok (.iastore, 1) := by decide +kernel
theorem dMo_log_10 : decode prog_10_method_11_code 10 = .ok (.aload_n 0, 1) := by decide +kernel
theorem dMo_log_11 : decode prog_10_method_11_code 11 = .ok (.getfield 32, 3) := by decide +kernel
theorem dMo_log_14 : decode prog_10_method_11_code 14 = .ok (.aload_n 0, 1) := by decide +kernel
theorem dMo_log_15 : decode prog_10_method_11_code 15 = .ok (.getfield 69, 3) := by decide +kernel
theorem dMo_log_18 : decode prog_10_method_11_code 18 = .ok (.iload_n 2, 1) := by decide +kernel
theorem dMo_log_19 : decode prog_10_method_11_code 19 = .ok (.iastore, 1) := by decide +kernel
theorem dMo_log_20 : decode prog_10_method_11_code 20 = .ok (.aload_n 0, 1) := by decide +kernel
theorem dMo_log_21 : decode prog_10_method_11_code 21 = .ok (.getfield 35, 3) := by decide +kernel
theorem dMo_log_24 : decode prog_10_method_11_code 24 = .ok (.aload_n 0, 1) := by decide +kernel
theorem dMo_log_25 : decode prog_10_method_11_code 25 = .ok (.getfield 69, 3) := by decide +kernel
theorem dMo_log_28 : decode prog_10_method_11_code 28 = .ok (.iload_n 3, 1) := by decide +kernel
theorem dMo_log_29 : decode prog_10_method_11_code 29 = .ok (.iastore, 1) := by decide +kernel
theorem dMo_log_30 : decode prog_10_method_11_code 30 = .ok (.aload_n 0, 1) := by decide +kernel
theorem dMo_log_31 : decode prog_10_method_11_code 31 = .ok (.getfield 38, 3) := by decide +kernel
theorem dMo_log_34 : decode prog_10_method_11_code 34 = .ok (.aload_n 0, 1) := by decide +kernel
theorem dMo_log_35 : decode prog_10_method_11_code 35 = .ok (.getfield 69, 3) := by decide +kernel
theorem dMo_log_38 : decode prog_10_method_11_code 38 = .ok (.iload 4, 2) := by decide +kernel
theorem dMo_log_40 : decode prog_10_method_11_code 40 = .ok (.iastore, 1) := by decide +kernel
theorem dMo_log_41 : decode prog_10_method_11_code 41 = .ok (.iconst 0, 1) := by decide +kernel
theorem dMo_log_42 : decode prog_10_method_11_code 42 = .ok (.istore 5, 2) := by decide +kernel
theorem dMo_log_44 : decode prog_10_method_11_code 44 = .ok (.iload 5, 2) := by decide +kernel
theorem dMo_log_46 : decode prog_10_method_11_code 46 = .ok (.iload_n 3, 1) := by decide +kernel
theorem dMo_log_47 : decode prog_10_method_11_code 47 = .ok (.if_icmp .ge 31, 3) := by decide +kernel
theorem dMo_log_50 : decode prog_10_method_11_code 50 = .ok (.aload_n 0, 1) := by decide +kernel
theorem dMo_log_51 : decode prog_10_method_11_code 51 = .ok (.getfield 41, 3) := by decide +kernel
theorem dMo_log_54 : decode prog_10_method_11_code 54 = .ok (.bipush 20, 2) := by decide +kernel
theorem dMo_log_56 : decode prog_10_method_11_code 56 = .ok (.aload_n 0, 1) := by decide +kernel
theorem dMo_log_57 : decode prog_10_method_11_code 57 = .ok (.getfield 69, 3) := by decide +kernel
theorem dMo_log_60 : decode prog_10_method_11_code 60 = .ok (.imul, 1) := by decide +kernel
theorem dMo_log_61 : decode prog_10_method_11_code 61 = .ok (.iload 5, 2) := by decide +kernel
theorem dMo_log_63 : decode prog_10_method_11_code 63 = .ok (.iadd, 1) := by decide +kernel
theorem dMo_log_64 : decode prog_10_method_11_code 64 = .ok (.aload_n 0, 1) := by decide +kernel
theorem dMo_log_65 : decode prog_10_method_11_code 65 = .ok (.getfield 13, 3) := by decide +kernel
theorem dMo_log_68 : decode prog_10_method_11_code 68 = .ok (.iload 5, 2) := by decide +kernel
theorem dMo_log_70 : decode prog_10_method_11_code 70 = .ok (.laload, 1) := by decide +kernel
theorem dMo_log_71 : decode prog_10_method_11_code 71 = .ok (.lastore, 1) := by decide +kernel
theorem dMo_log_72 : decode prog_10_method_11_code 72 = .ok (.iinc 5 1, 3) := by decide +kernel
theorem dMo_log_75 : decode prog_10_method_11_code 75 = .ok (.goto (-31), 3) := by decide +kernel
theorem dMo_log_78 : decode prog_10_method_11_code 78 = .ok (.aload_n 0, 1) := by decide +kernel
theorem dMo_log_79 : decode prog_10_method_11_code 79 = .ok (.dup, 1) := by decide +kernel
theorem dMo_log_80 : decode prog_10_method_11_code 80 = .ok (.getfield 69, 3) := by decide +kernel
theorem dMo_log_83 : decode prog_10_method_11_code 83 = .ok (.iconst 1, 1) := by decide +kernel
theorem dMo_log_84 : decode prog_10_method_11_code 84 = .ok (.iadd, 1) := by decide +kernel
theorem dMo_log_85 : decode prog_10_method_11_code 85 = .ok (.putfield 69, 3) := by decide +kernel
theorem dMo_log_88 : decode prog_10_method_11_code 88 = .ok (.return_, 1) := by decide +kernel
theorem dMo_apply_0 : decode prog_10_method_12_code 0 = .ok (.aload_n 0, 1) := by decide +kernel
theorem dMo_apply_1 : decode prog_10_method_12_code 1 = .ok (.getfield 29, 3) := by decide +kernel
theorem dMo_apply_4 : decode prog_10_method_12_code 4 = .ok (.iload_n 1, 1) := by decide +kernel
theorem dMo_apply_5 : decode prog_10_method_12_code 5 = .ok (.iaload, 1) := by decide +kernel
theorem dMo_apply_6 : decode prog_10_method_12_code 6 = .ok (.istore_n 2, 1) := by decide +kernel
theorem dMo_apply_7 : decode prog_10_method_12_code 7 = .ok (.aload_n 0, 1) := by decide +kernel
theorem dMo_apply_8 : decode prog_10_method_12_code 8 = .ok (.getfield 20, 3) := by decide +kernel
theorem dMo_apply_11 : decode prog_10_method_12_code 11 = .ok (.iload_n 2, 1) := by decide +kernel
theorem dMo_apply_12 : decode prog_10_method_12_code 12 = .ok (.aload_n 0, 1) := by decide +kernel
theorem dMo_apply_13 : decode prog_10_method_12_code 13 = .ok (.getfield 32, 3) := by decide +kernel
theorem dMo_apply_16 : decode prog_10_method_12_code 16 = .ok (.iload_n 1, 1) := by decide +kernel
theorem dMo_apply_17 : decode prog_10_method_12_code 17 = .ok (.iaload, 1) := by decide +kernel
theorem dMo_apply_18 : decode prog_10_method_12_code 18 = .ok (.iastore, 1) := by decide +kernel
theorem dMo_apply_19 : decode prog_10_method_12_code 19 = .ok (.aload_n 0, 1) := by decide +kernel
theorem dMo_apply_20 : decode prog_10_method_12_code 20 = .ok (.getfield 23, 3) := by decide +kernel
theorem dMo_apply_23 : decode prog_10_method_12_code 23 = .ok (.iload_n 2, 1) := by decide +kernel
theorem dMo_apply_24 : decode prog_10_method_12_code 24 = .ok (.aload_n 0, 1) := by decide +kernel
theorem dMo_apply_25 : decode prog_10_method_12_code 25 = .ok (.getfield 35, 3) := by decide +kernel
theorem dMo_apply_28 : decode prog_10_method_12_code 28 = .ok (.iload_n 1, 1) := by decide +kernel
theorem dMo_apply_29 : decode prog_10_method_12_code 29 = .ok (.iaload, 1) := by decide +kernel
theorem dMo_apply_30 : decode prog_10_method_12_code 30 = .ok (.iastore, 1) := by decide +kernel
theorem dMo_apply_31 : decode prog_10_method_12_code 31 = .ok (.iconst 0, 1) := by decide +kernel
theorem dMo_apply_32 : decode prog_10_method_12_code 32 = .ok (.istore_n 3, 1) := by decide +kernel
theorem dMo_apply_33 : decode prog_10_method_12_code 33 = .ok (.iload_n 3, 1) := by decide +kernel
theorem dMo_apply_34 : decode prog_10_method_12_code 34 = .ok (.aload_n 0, 1) := by decide +kernel
theorem dMo_apply_35 : decode prog_10_method_12_code 35 = .ok (.getfield 35, 3) := by decide +kernel
theorem dMo_apply_38 : decode prog_10_method_12_code 38 = .ok (.iload_n 1, 1) := by decide +kernel
theorem dMo_apply_39 : decode prog_10_method_12_code 39 = .ok (.iaload, 1) := by decide +kernel
theorem dMo_apply_40 : decode prog_10_method_12_code 40 = .ok (.if_icmp .ge 31, 3) := by decide +kernel
theorem dMo_apply_43 : decode prog_10_method_12_code 43 = .ok (.aload_n 0, 1) := by decide +kernel
theorem dMo_apply_44 : decode prog_10_method_12_code 44 = .ok (.getfield 26, 3) := by decide +kernel
theorem dMo_apply_47 : decode prog_10_method_12_code 47 = .ok (.bipush 20, 2) := by decide +kernel
theorem dMo_apply_49 : decode prog_10_method_12_code 49 = .ok (.iload_n 2, 1) := by decide +kernel
theorem dMo_apply_50 : decode prog_10_method_12_code 50 = .ok (.imul, 1) := by decide +kernel
theorem dMo_apply_51 : decode prog_10_method_12_code 51 = .ok (.iload_n 3, 1) := by decide +kernel
theorem dMo_apply_52 : decode prog_10_method_12_code 52 = .ok (.iadd, 1) := by decide +kernel
theorem dMo_apply_53 : decode prog_10_method_12_code 53 = .ok (.aload_n 0, 1) := by decide +kernel
theorem dMo_apply_54 : decode prog_10_method_12_code 54 = .ok (.getfield 41, 3) := by decide +kernel
theorem dMo_apply_57 : decode prog_10_method_12_code 57 = .ok (.bipush 20, 2) := by decide +kernel
theorem dMo_apply_59 : decode prog_10_method_12_code 59 = .ok (.iload_n 1, 1) := by decide +kernel
theorem dMo_apply_60 : decode prog_10_method_12_code 60 = .ok (.imul, 1) := by decide +kernel
theorem dMo_apply_61 : decode prog_10_method_12_code 61 = .ok (.iload_n 3, 1) := by decide +kernel
theorem dMo_apply_62 : decode prog_10_method_12_code 62 = .ok (.iadd, 1) := by decide +kernel
theorem dMo_apply_63 : decode prog_10_method_12_code 63 = .ok (.laload, 1) := by decide +kernel
theorem dMo_apply_64 : decode prog_10_method_12_code 64 = .ok (.lastore, 1) := by decide +kernel
theorem dMo_apply_65 : decode prog_10_method_12_code 65 = .ok (.iinc 3 1, 3) := by decide +kernel
theorem dMo_apply_68 : decode prog_10_method_12_code 68 = .ok (.goto (-35), 3) := by decide +kernel
theorem dMo_apply_71 : decode prog_10_method_12_code 71 = .ok (.return_, 1) := by decide +kernel
theorem dMo_untrain_0 : decode prog_10_method_14_code 0 = .ok (.iload_n 1, 1) := by decide +kernel
theorem dMo_untrain_1 : decode prog_10_method_14_code 1 = .ok (.invokestatic 72, 3) := by decide +kernel
theorem dMo_untrain_4 : decode prog_10_method_14_code 4 = .ok (.ifCond .ne 5, 3) := by decide +kernel
theorem dMo_untrain_7 : decode prog_10_method_14_code 7 = .ok (.iconst (-1), 1) := by decide +kernel
theorem dMo_untrain_8 : decode prog_10_method_14_code 8 = .ok (.ireturn, 1) := by decide +kernel
theorem dMo_untrain_9 : decode prog_10_method_14_code 9 = .ok (.aload_n 0, 1) := by decide +kernel
theorem dMo_untrain_10 : decode prog_10_method_14_code 10 = .ok (.getfield 20, 3) := by decide +kernel
theorem dMo_untrain_13 : decode prog_10_method_14_code 13 = .ok (.iload_n 1, 1) := by decide +kernel
theorem dMo_untrain_14 : decode prog_10_method_14_code 14 = .ok (.iaload, 1) := by decide +kernel
theorem dMo_untrain_15 : decode prog_10_method_14_code 15 = .ok (.iconst 1, 1) := by decide +kernel
theorem dMo_untrain_16 : decode prog_10_method_14_code 16 = .ok (.isub, 1) := by decide +kernel
theorem dMo_untrain_17 : decode prog_10_method_14_code 17 = .ok (.istore_n 2, 1) := by decide +kernel
theorem dMo_untrain_18 : decode prog_10_method_14_code 18 = .ok (.iload_n 2, 1) := by decide +kernel
theorem dMo_untrain_19 : decode prog_10_method_14_code 19 = .ok (.ifCond .ge 6, 3) := by decide +kernel
theorem dMo_untrain_22 : decode prog_10_method_14_code 22 = .ok (.bipush (-3), 2) := by decide +kernel
theorem dMo_untrain_24 : decode prog_10_method_14_code 24 = .ok (.ireturn, 1) := by decide +kernel
theorem dMo_untrain_25 : decode prog_10_method_14_code 25 = .ok (.aload_n 0, 1) := by decide +kernel
theorem dMo_untrain_26 : decode prog_10_method_14_code 26 = .ok (.invokevirtual 80, 3) := by decide +kernel
theorem dMo_untrain_29 : decode prog_10_method_14_code 29 = .ok (.bipush 24, 2) := by decide +kernel
theorem dMo_untrain_31 : decode prog_10_method_14_code 31 = .ok (.if_icmp .ne 6, 3) := by decide +kernel
theorem dMo_untrain_34 : decode prog_10_method_14_code 34 = .ok (.bipush (-5), 2) := by decide +kernel
theorem dMo_untrain_36 : decode prog_10_method_14_code 36 = .ok (.ireturn, 1) := by decide +kernel
theorem dMo_untrain_37 : decode prog_10_method_14_code 37 = .ok (.aload_n 0, 1) := by decide +kernel
theorem dMo_untrain_38 : decode prog_10_method_14_code 38 = .ok (.iload_n 1, 1) := by decide +kernel
theorem dMo_untrain_39 : decode prog_10_method_14_code 39 = .ok (.iconst 0, 1) := by decide +kernel
theorem dMo_untrain_40 : decode prog_10_method_14_code 40 = .ok (.iconst 0, 1) := by decide +kernel
theorem dMo_untrain_41 : decode prog_10_method_14_code 41 = .ok (.iconst 1, 1) := by decide +kernel
theorem dMo_untrain_42 : decode prog_10_method_14_code 42 = .ok (.invokevirtual 83, 3) := by decide +kernel
theorem dMo_untrain_45 : decode prog_10_method_14_code 45 = .ok (.aload_n 0, 1) := by decide +kernel
theorem dMo_untrain_46 : decode prog_10_method_14_code 46 = .ok (.aload_n 0, 1) := by decide +kernel
theorem dMo_untrain_47 : decode prog_10_method_14_code 47 = .ok (.getfield 69, 3) := by decide +kernel
theorem dMo_untrain_50 : decode prog_10_method_14_code 50 = .ok (.iconst 1, 1) := by decide +kernel
theorem dMo_untrain_51 : decode prog_10_method_14_code 51 = .ok (.isub, 1) := by decide +kernel
theorem dMo_untrain_52 : decode prog_10_method_14_code 52 = .ok (.invokevirtual 87, 3) := by decide +kernel
theorem dMo_untrain_55 : decode prog_10_method_14_code 55 = .ok (.iload_n 2, 1) := by decide +kernel
theorem dMo_untrain_56 : decode prog_10_method_14_code 56 = .ok (.ireturn, 1) := by decide +kernel
theorem dMo_sync_0 : decode prog_10_method_16_code 0 = .ok (.aload_n 0, 1) := by decide +kernel
theorem dMo_sync_1 : decode prog_10_method_16_code 1 = .ok (.invokevirtual 80, 3) := by decide +kernel
theorem dMo_sync_4 : decode prog_10_method_16_code 4 = .ok (.istore_n 1, 1) := by decide +kernel
theorem dMo_sync_5 : decode prog_10_method_16_code 5 = .ok (.aload_n 0, 1) := by decide +kernel
theorem dMo_sync_6 : decode prog_10_method_16_code 6 = .ok (.iconst 0, 1) := by decide +kernel
theorem dMo_sync_7 : decode prog_10_method_16_code 7 = .ok (.bipush 32, 2) := by decide +kernel
theorem dMo_sync_9 : decode prog_10_method_16_code 9 = .ok (.invokevirtual 91, 3) := by decide +kernel
theorem dMo_sync_12 : decode prog_10_method_16_code 12 = .ok (.aload_n 0, 1) := by decide +kernel
theorem dMo_sync_13 : decode prog_10_method_16_code 13 = .ok (.iconst 0, 1) := by decide +kernel
theorem dMo_sync_14 : decode prog_10_method_16_code 14 = .ok (.putfield 69, 3) := by decide +kernel
theorem dMo_sync_17 : decode prog_10_method_16_code 17 = .ok (.iload_n 1, 1) := by decide +kernel
theorem dMo_sync_18 : decode prog_10_method_16_code 18 = .ok (.ireturn, 1) := by decide +kernel
theorem dMo_copy_0 : decode prog_10_method_15_code 0 = .ok (.iconst 0, 1) := by decide +kernel
theorem dMo_copy_1 : decode prog_10_method_15_code 1 = .ok (.istore_n 3, 1) := by decide +kernel
theorem dMo_copy_2 : decode prog_10_method_15_code 2 = .ok (.iload_n 3, 1) := by decide +kernel
theorem dMo_copy_3 : decode prog_10_method_15_code 3 = .ok (.bipush 32, 2) := by decide +kernel
theorem dMo_copy_5 : decode prog_10_method_15_code 5 = .ok (.if_icmp .ge 41, 3) := by decide +kernel
theorem dMo_copy_8 : decode prog_10_method_15_code 8 = .ok (.aload_n 0, 1) := by decide +kernel
theorem dMo_copy_9 : decode prog_10_method_15_code 9 = .ok (.getfield 20, 3) := by decide +kernel
theorem dMo_copy_12 : decode prog_10_method_15_code 12 = .ok (.iload_n 2, 1) := by decide +kernel
theorem dMo_copy_13 : decode prog_10_method_15_code 13 = .ok (.iload_n 3, 1) := by decide +kernel
theorem dMo_copy_14 : decode prog_10_method_15_code 14 = .ok (.iadd, 1) := by decide +kernel
theorem dMo_copy_15 : decode prog_10_method_15_code 15 = .ok (.aload_n 0, 1) := by decide +kernel
theorem dMo_copy_16 : decode prog_10_method_15_code 16 = .ok (.getfield 20, 3) := by decide +kernel
theorem dMo_copy_19 : decode prog_10_method_15_code 19 = .ok (.iload_n 1, 1) := by decide +kernel
theorem dMo_copy_20 : decode prog_10_method_15_code 20 = .ok (.iload_n 3, 1) := by decide +kernel
theorem dMo_copy_21 : decode prog_10_method_15_code 21 = .ok (.iadd, 1) := by decide +kernel
theorem dMo_copy_22 : decode prog_10_method_15_code 22 = .ok (.iaload, 1) := by decide +kernel
theorem dMo_copy_23 : decode prog_10_method_15_code 23 = .ok (.iastore, 1) := by decide +kernel
theorem dMo_copy_24 : decode prog_10_method_15_code 24 = .ok (.aload_n 0, 1) := by decide +kernel
theorem dMo_copy_25 : decode prog_10_method_15_code 25 = .ok (.getfield 23, 3) := by decide +kernel
theorem dMo_copy_28 : decode prog_10_method_15_code 28 = .ok (.iload_n 2, 1) := by decide +kernel
theorem dMo_copy_29 : decode prog_10_method_15_code 29 = .ok (.iload_n 3, 1) := by decide +kernel
theorem dMo_copy_30 : decode prog_10_method_15_code 30 = .ok (.iadd, 1) := by decide +kernel
theorem dMo_copy_31 : decode prog_10_method_15_code 31 = .ok (.aload_n 0, 1) := by decide +kernel
theorem dMo_copy_32 : decode prog_10_method_15_code 32 = .ok (.getfield 23, 3) := by decide +kernel
theorem dMo_copy_35 : decode prog_10_method_15_code 35 = .ok (.iload_n 1, 1) := by decide +kernel
theorem dMo_copy_36 : decode prog_10_method_15_code 36 = .ok (.iload_n 3, 1) := by decide +kernel
theorem dMo_copy_37 : decode prog_10_method_15_code 37 = .ok (.iadd, 1) := by decide +kernel
theorem dMo_copy_38 : decode prog_10_method_15_code 38 = .ok (.iaload, 1) := by decide +kernel
theorem dMo_copy_39 : decode prog_10_method_15_code 39 = .ok (.iastore, 1) := by decide +kernel
theorem dMo_copy_40 : decode prog_10_method_15_code 40 = .ok (.iinc 3 1, 3) := by decide +kernel
theorem dMo_copy_43 : decode prog_10_method_15_code 43 = .ok (.goto (-41), 3) := by decide +kernel
theorem dMo_copy_46 : decode prog_10_method_15_code 46 = .ok (.iconst 0, 1) := by decide +kernel
theorem dMo_copy_47 : decode prog_10_method_15_code 47 = .ok (.istore_n 3, 1) := by decide +kernel
theorem dMo_copy_48 : decode prog_10_method_15_code 48 = .ok (.iload_n 3, 1) := by decide +kernel
theorem dMo_copy_49 : decode prog_10_method_15_code 49 = .ok (.sipush 640, 3) := by decide +kernel
theorem dMo_copy_52 : decode prog_10_method_15_code 52 = .ok (.if_icmp .ge 31, 3) := by decide +kernel
theorem dMo_copy_55 : decode prog_10_method_15_code 55 = .ok (.aload_n 0, 1) := by decide +kernel
theorem dMo_copy_56 : decode prog_10_method_15_code 56 = .ok (.getfield 26, 3) := by decide +kernel
theorem dMo_copy_59 : decode prog_10_method_15_code 59 = .ok (.bipush 20, 2) := by decide +kernel
theorem dMo_copy_61 : decode prog_10_method_15_code 61 = .ok (.iload_n 2, 1) := by decide +kernel
theorem dMo_copy_62 : decode prog_10_method_15_code 62 = .ok (.imul, 1) := by decide +kernel
theorem dMo_copy_63 : decode prog_10_method_15_code 63 = .ok (.iload_n 3, 1) := by decide +kernel
theorem dMo_copy_64 : decode prog_10_method_15_code 64 = .ok (.iadd, 1) := by decide +kernel
theorem dMo_copy_65 : decode prog_10_method_15_code 65 = .ok (.aload_n 0, 1) := by decide +kernel
