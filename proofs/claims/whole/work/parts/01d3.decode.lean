theorem dMo_copy_66 : decode prog_10_method_15_code 66 = .ok (.getfield 26, 3) := by decide +kernel
theorem dMo_copy_69 : decode prog_10_method_15_code 69 = .ok (.bipush 20, 2) := by decide +kernel
theorem dMo_copy_71 : decode prog_10_method_15_code 71 = .ok (.iload_n 1, 1) := by decide +kernel
theorem dMo_copy_72 : decode prog_10_method_15_code 72 = .ok (.imul, 1) := by decide +kernel
theorem dMo_copy_73 : decode prog_10_method_15_code 73 = .ok (.iload_n 3, 1) := by decide +kernel
theorem dMo_copy_74 : decode prog_10_method_15_code 74 = .ok (.iadd, 1) := by decide +kernel
theorem dMo_copy_75 : decode prog_10_method_15_code 75 = .ok (.laload, 1) := by decide +kernel
theorem dMo_copy_76 : decode prog_10_method_15_code 76 = .ok (.lastore, 1) := by decide +kernel
theorem dMo_copy_77 : decode prog_10_method_15_code 77 = .ok (.iinc 3 1, 3) := by decide +kernel
theorem dMo_copy_80 : decode prog_10_method_15_code 80 = .ok (.goto (-32), 3) := by decide +kernel
theorem dMo_copy_83 : decode prog_10_method_15_code 83 = .ok (.return_, 1) := by decide +kernel
theorem dMo_fail_0 : decode prog_10_method_17_code 0 = .ok (.aload_n 0, 1) := by decide +kernel
theorem dMo_fail_1 : decode prog_10_method_17_code 1 = .ok (.bipush 32, 2) := by decide +kernel
theorem dMo_fail_3 : decode prog_10_method_17_code 3 = .ok (.iconst 0, 1) := by decide +kernel
theorem dMo_fail_4 : decode prog_10_method_17_code 4 = .ok (.invokevirtual 91, 3) := by decide +kernel
theorem dMo_fail_7 : decode prog_10_method_17_code 7 = .ok (.iload_n 1, 1) := by decide +kernel
theorem dMo_fail_8 : decode prog_10_method_17_code 8 = .ok (.istore_n 2, 1) := by decide +kernel
theorem dMo_fail_9 : decode prog_10_method_17_code 9 = .ok (.iconst 0, 1) := by decide +kernel
theorem dMo_fail_10 : decode prog_10_method_17_code 10 = .ok (.istore_n 3, 1) := by decide +kernel
theorem dMo_fail_11 : decode prog_10_method_17_code 11 = .ok (.iload_n 3, 1) := by decide +kernel
theorem dMo_fail_12 : decode prog_10_method_17_code 12 = .ok (.aload_n 0, 1) := by decide +kernel
theorem dMo_fail_13 : decode prog_10_method_17_code 13 = .ok (.getfield 69, 3) := by decide +kernel
theorem dMo_fail_16 : decode prog_10_method_17_code 16 = .ok (.if_icmp .ge 33, 3) := by decide +kernel
theorem dMo_fail_19 : decode prog_10_method_17_code 19 = .ok (.aload_n 0, 1) := by decide +kernel
theorem dMo_fail_20 : decode prog_10_method_17_code 20 = .ok (.getfield 38, 3) := by decide +kernel
theorem dMo_fail_23 : decode prog_10_method_17_code 23 = .ok (.iload_n 3, 1) := by decide +kernel
theorem dMo_fail_24 : decode prog_10_method_17_code 24 = .ok (.iaload, 1) := by decide +kernel
theorem dMo_fail_25 : decode prog_10_method_17_code 25 = .ok (.iload_n 2, 1) := by decide +kernel
theorem dMo_fail_26 : decode prog_10_method_17_code 26 = .ok (.if_icmp .gt 23, 3) := by decide +kernel
theorem dMo_fail_29 : decode prog_10_method_17_code 29 = .ok (.iload_n 2, 1) := by decide +kernel
theorem dMo_fail_30 : decode prog_10_method_17_code 30 = .ok (.aload_n 0, 1) := by decide +kernel
theorem dMo_fail_31 : decode prog_10_method_17_code 31 = .ok (.getfield 38, 3) := by decide +kernel
theorem dMo_fail_34 : decode prog_10_method_17_code 34 = .ok (.iload_n 3, 1) := by decide +kernel
theorem dMo_fail_35 : decode prog_10_method_17_code 35 = .ok (.iaload, 1) := by decide +kernel
theorem dMo_fail_36 : decode prog_10_method_17_code 36 = .ok (.isub, 1) := by decide +kernel
theorem dMo_fail_37 : decode prog_10_method_17_code 37 = .ok (.istore_n 2, 1) := by decide +kernel
theorem dMo_fail_38 : decode prog_10_method_17_code 38 = .ok (.aload_n 0, 1) := by decide +kernel
theorem dMo_fail_39 : decode prog_10_method_17_code 39 = .ok (.iload_n 3, 1) := by decide +kernel
theorem dMo_fail_40 : decode prog_10_method_17_code 40 = .ok (.invokevirtual 87, 3) := by decide +kernel
theorem dMo_fail_43 : decode prog_10_method_17_code 43 = .ok (.iinc 3 1, 3) := by decide +kernel
theorem dMo_fail_46 : decode prog_10_method_17_code 46 = .ok (.goto (-35), 3) := by decide +kernel
theorem dMo_fail_49 : decode prog_10_method_17_code 49 = .ok (.aload_n 0, 1) := by decide +kernel
theorem dMo_fail_50 : decode prog_10_method_17_code 50 = .ok (.getfield 69, 3) := by decide +kernel
theorem dMo_fail_53 : decode prog_10_method_17_code 53 = .ok (.iload_n 3, 1) := by decide +kernel
theorem dMo_fail_54 : decode prog_10_method_17_code 54 = .ok (.isub, 1) := by decide +kernel
theorem dMo_fail_55 : decode prog_10_method_17_code 55 = .ok (.istore 4, 2) := by decide +kernel
theorem dMo_fail_57 : decode prog_10_method_17_code 57 = .ok (.aload_n 0, 1) := by decide +kernel
theorem dMo_fail_58 : decode prog_10_method_17_code 58 = .ok (.iconst 0, 1) := by decide +kernel
theorem dMo_fail_59 : decode prog_10_method_17_code 59 = .ok (.bipush 32, 2) := by decide +kernel
theorem dMo_fail_61 : decode prog_10_method_17_code 61 = .ok (.invokevirtual 91, 3) := by decide +kernel
theorem dMo_fail_64 : decode prog_10_method_17_code 64 = .ok (.aload_n 0, 1) := by decide +kernel
theorem dMo_fail_65 : decode prog_10_method_17_code 65 = .ok (.iconst 0, 1) := by decide +kernel
theorem dMo_fail_66 : decode prog_10_method_17_code 66 = .ok (.putfield 69, 3) := by decide +kernel
theorem dMo_fail_69 : decode prog_10_method_17_code 69 = .ok (.iload 4, 2) := by decide +kernel
theorem dMo_fail_71 : decode prog_10_method_17_code 71 = .ok (.ireturn, 1) := by decide +kernel
theorem dMo_documents_0 : decode prog_10_method_19_code 0 = .ok (.iload_n 1, 1) := by decide +kernel
theorem dMo_documents_1 : decode prog_10_method_19_code 1 = .ok (.iconst (-1), 1) := by decide +kernel
theorem dMo_documents_2 : decode prog_10_method_19_code 2 = .ok (.if_icmp .lt 11, 3) := by decide +kernel
theorem dMo_documents_5 : decode prog_10_method_19_code 5 = .ok (.iload_n 1, 1) := by decide +kernel
theorem dMo_documents_6 : decode prog_10_method_19_code 6 = .ok (.aload_n 0, 1) := by decide +kernel
theorem dMo_documents_7 : decode prog_10_method_19_code 7 = .ok (.getfield 50, 3) := by decide +kernel
theorem dMo_documents_10 : decode prog_10_method_19_code 10 = .ok (.if_icmp .lt 5, 3) := by decide +kernel
theorem dMo_documents_13 : decode prog_10_method_19_code 13 = .ok (.iconst (-1), 1) := by decide +kernel
theorem dMo_documents_14 : decode prog_10_method_19_code 14 = .ok (.ireturn, 1) := by decide +kernel
theorem dMo_documents_15 : decode prog_10_method_19_code 15 = .ok (.iconst 0, 1) := by decide +kernel
theorem dMo_documents_16 : decode prog_10_method_19_code 16 = .ok (.istore_n 2, 1) := by decide +kernel
theorem dMo_documents_17 : decode prog_10_method_19_code 17 = .ok (.iconst 0, 1) := by decide +kernel
theorem dMo_documents_18 : decode prog_10_method_19_code 18 = .ok (.istore_n 3, 1) := by decide +kernel
theorem dMo_documents_19 : decode prog_10_method_19_code 19 = .ok (.iload_n 3, 1) := by decide +kernel
theorem dMo_documents_20 : decode prog_10_method_19_code 20 = .ok (.bipush 32, 2) := by decide +kernel
theorem dMo_documents_22 : decode prog_10_method_19_code 22 = .ok (.if_icmp .ge 42, 3) := by decide +kernel
theorem dMo_documents_25 : decode prog_10_method_19_code 25 = .ok (.aload_n 0, 1) := by decide +kernel
theorem dMo_documents_26 : decode prog_10_method_19_code 26 = .ok (.getfield 20, 3) := by decide +kernel
theorem dMo_documents_29 : decode prog_10_method_19_code 29 = .ok (.iload_n 3, 1) := by decide +kernel
theorem dMo_documents_30 : decode prog_10_method_19_code 30 = .ok (.iaload, 1) := by decide +kernel
theorem dMo_documents_31 : decode prog_10_method_19_code 31 = .ok (.ifCond .le 25, 3) := by decide +kernel
theorem dMo_documents_34 : decode prog_10_method_19_code 34 = .ok (.iload_n 1, 1) := by decide +kernel
theorem dMo_documents_35 : decode prog_10_method_19_code 35 = .ok (.ifCond .lt 15, 3) := by decide +kernel
theorem dMo_documents_38 : decode prog_10_method_19_code 38 = .ok (.aload_n 0, 1) := by decide +kernel
theorem dMo_documents_39 : decode prog_10_method_19_code 39 = .ok (.getfield 20, 3) := by decide +kernel
theorem dMo_documents_42 : decode prog_10_method_19_code 42 = .ok (.iload_n 3, 1) := by decide +kernel
theorem dMo_documents_43 : decode prog_10_method_19_code 43 = .ok (.iaload, 1) := by decide +kernel
theorem dMo_documents_44 : decode prog_10_method_19_code 44 = .ok (.iload_n 1, 1) := by decide +kernel
theorem dMo_documents_45 : decode prog_10_method_19_code 45 = .ok (.iconst 1, 1) := by decide +kernel
theorem dMo_documents_46 : decode prog_10_method_19_code 46 = .ok (.iadd, 1) := by decide +kernel
theorem dMo_documents_47 : decode prog_10_method_19_code 47 = .ok (.if_icmp .ne 9, 3) := by decide +kernel
theorem dMo_documents_50 : decode prog_10_method_19_code 50 = .ok (.iload_n 2, 1) := by decide +kernel
theorem dMo_documents_51 : decode prog_10_method_19_code 51 = .ok (.iconst 1, 1) := by decide +kernel
theorem dMo_documents_52 : decode prog_10_method_19_code 52 = .ok (.iadd, 1) := by decide +kernel
theorem dMo_documents_53 : decode prog_10_method_19_code 53 = .ok (.goto 4, 3) := by decide +kernel
theorem dMo_documents_56 : decode prog_10_method_19_code 56 = .ok (.iload_n 2, 1) := by decide +kernel
theorem dMo_documents_57 : decode prog_10_method_19_code 57 = .ok (.istore_n 2, 1) := by decide +kernel
theorem dMo_documents_58 : decode prog_10_method_19_code 58 = .ok (.iinc 3 1, 3) := by decide +kernel
theorem dMo_documents_61 : decode prog_10_method_19_code 61 = .ok (.goto (-42), 3) := by decide +kernel
theorem dMo_documents_64 : decode prog_10_method_19_code 64 = .ok (.iload_n 2, 1) := by decide +kernel
theorem dMo_documents_65 : decode prog_10_method_19_code 65 = .ok (.ireturn, 1) := by decide +kernel
theorem dMo_total_0 : decode prog_10_method_20_code 0 = .ok (.aload_n 0, 1) := by decide +kernel
theorem dMo_total_1 : decode prog_10_method_20_code 1 = .ok (.iload_n 1, 1) := by decide +kernel
theorem dMo_total_2 : decode prog_10_method_20_code 2 = .ok (.invokevirtual 95, 3) := by decide +kernel
theorem dMo_total_5 : decode prog_10_method_20_code 5 = .ok (.ifCond .ne 5, 3) := by decide +kernel
theorem dMo_total_8 : decode prog_10_method_20_code 8 = .ok (.iconst (-1), 1) := by decide +kernel
theorem dMo_total_9 : decode prog_10_method_20_code 9 = .ok (.ireturn, 1) := by decide +kernel
theorem dMo_total_10 : decode prog_10_method_20_code 10 = .ok (.iconst 0, 1) := by decide +kernel
theorem dMo_total_11 : decode prog_10_method_20_code 11 = .ok (.istore_n 2, 1) := by decide +kernel
theorem dMo_total_12 : decode prog_10_method_20_code 12 = .ok (.iconst 0, 1) := by decide +kernel
theorem dMo_total_13 : decode prog_10_method_20_code 13 = .ok (.istore_n 3, 1) := by decide +kernel
theorem dMo_total_14 : decode prog_10_method_20_code 14 = .ok (.iload_n 3, 1) := by decide +kernel
theorem dMo_total_15 : decode prog_10_method_20_code 15 = .ok (.bipush 32, 2) := by decide +kernel
theorem dMo_total_17 : decode prog_10_method_20_code 17 = .ok (.if_icmp .ge 34, 3) := by decide +kernel
theorem dMo_total_20 : decode prog_10_method_20_code 20 = .ok (.aload_n 0, 1) := by decide +kernel
theorem dMo_total_21 : decode prog_10_method_20_code 21 = .ok (.getfield 20, 3) := by decide +kernel
theorem dMo_total_24 : decode prog_10_method_20_code 24 = .ok (.iload_n 3, 1) := by decide +kernel
theorem dMo_total_25 : decode prog_10_method_20_code 25 = .ok (.iaload, 1) := by decide +kernel
theorem dMo_total_26 : decode prog_10_method_20_code 26 = .ok (.iload_n 1, 1) := by decide +kernel
theorem dMo_total_27 : decode prog_10_method_20_code 27 = .ok (.iconst 1, 1) := by decide +kernel
theorem dMo_total_28 : decode prog_10_method_20_code 28 = .ok (.iadd, 1) := by decide +kernel
theorem dMo_total_29 : decode prog_10_method_20_code 29 = .ok (.if_icmp .ne 14, 3) := by decide +kernel
theorem dMo_total_32 : decode prog_10_method_20_code 32 = .ok (.iload_n 2, 1) := by decide +kernel
theorem dMo_total_33 : decode prog_10_method_20_code 33 = .ok (.aload_n 0, 1) := by decide +kernel
theorem dMo_total_34 : decode prog_10_method_20_code 34 = .ok (.getfield 23, 3) := by decide +kernel
theorem dMo_total_37 : decode prog_10_method_20_code 37 = .ok (.iload_n 3, 1) := by decide +kernel
theorem dMo_total_38 : decode prog_10_method_20_code 38 = .ok (.iaload, 1) := by decide +kernel
theorem dMo_total_39 : decode prog_10_method_20_code 39 = .ok (.iadd, 1) := by decide +kernel
theorem dMo_total_40 : decode prog_10_method_20_code 40 = .ok (.goto 4, 3) := by decide +kernel
theorem dMo_total_43 : decode prog_10_method_20_code 43 = .ok (.iload_n 2, 1) := by decide +kernel
theorem dMo_total_44 : decode prog_10_method_20_code 44 = .ok (.istore_n 2, 1) := by decide +kernel
theorem dMo_total_45 : decode prog_10_method_20_code 45 = .ok (.iinc 3 1, 3) := by decide +kernel
theorem dMo_total_48 : decode prog_10_method_20_code 48 = .ok (.goto (-34), 3) := by decide +kernel
theorem dMo_total_51 : decode prog_10_method_20_code 51 = .ok (.iload_n 2, 1) := by decide +kernel
theorem dMo_total_52 : decode prog_10_method_20_code 52 = .ok (.ireturn, 1) := by decide +kernel
theorem dMo_isClass_0 : decode prog_10_method_18_code 0 = .ok (.iload_n 1, 1) := by decide +kernel
theorem dMo_isClass_1 : decode prog_10_method_18_code 1 = .ok (.ifCond .lt 15, 3) := by decide +kernel
theorem dMo_isClass_4 : decode prog_10_method_18_code 4 = .ok (.iload_n 1, 1) := by decide +kernel
theorem dMo_isClass_5 : decode prog_10_method_18_code 5 = .ok (.aload_n 0, 1) := by decide +kernel
theorem dMo_isClass_6 : decode prog_10_method_18_code 6 = .ok (.getfield 50, 3) := by decide +kernel
theorem dMo_isClass_9 : decode prog_10_method_18_code 9 = .ok (.if_icmp .ge 7, 3) := by decide +kernel
theorem dMo_isClass_12 : decode prog_10_method_18_code 12 = .ok (.iconst 1, 1) := by decide +kernel
theorem dMo_isClass_13 : decode prog_10_method_18_code 13 = .ok (.goto 4, 3) := by decide +kernel
theorem dMo_isClass_16 : decode prog_10_method_18_code 16 = .ok (.iconst 0, 1) := by decide +kernel
theorem dMo_isClass_17 : decode prog_10_method_18_code 17 = .ok (.ireturn, 1) := by decide +kernel
theorem dMo_count_0 : decode prog_10_method_22_code 0 = .ok (.aload_n 0, 1) := by decide +kernel
theorem dMo_count_1 : decode prog_10_method_22_code 1 = .ok (.invokevirtual 66, 3) := by decide +kernel
theorem dMo_count_4 : decode prog_10_method_22_code 4 = .ok (.aload_n 0, 1) := by decide +kernel
theorem dMo_count_5 : decode prog_10_method_22_code 5 = .ok (.iload_n 1, 1) := by decide +kernel
theorem dMo_count_6 : decode prog_10_method_22_code 6 = .ok (.invokevirtual 95, 3) := by decide +kernel
theorem dMo_count_9 : decode prog_10_method_22_code 9 = .ok (.ifCond .eq 15, 3) := by decide +kernel
theorem dMo_count_12 : decode prog_10_method_22_code 12 = .ok (.iload_n 2, 1) := by decide +kernel
theorem dMo_count_13 : decode prog_10_method_22_code 13 = .ok (.ifCond .lt 11, 3) := by decide +kernel
theorem dMo_count_16 : decode prog_10_method_22_code 16 = .ok (.iload_n 2, 1) := by decide +kernel
theorem dMo_count_17 : decode prog_10_method_22_code 17 = .ok (.aload_n 0, 1) := by decide +kernel
theorem dMo_count_18 : decode prog_10_method_22_code 18 = .ok (.getfield 57, 3) := by decide +kernel
theorem dMo_count_21 : decode prog_10_method_22_code 21 = .ok (.if_icmp .lt 7, 3) := by decide +kernel
theorem dMo_count_24 : decode prog_10_method_22_code 24 = .ok (.iconst (-1), 1) := by decide +kernel
theorem dMo_count_25 : decode prog_10_method_22_code 25 = .ok (.goto 14, 3) := by decide +kernel
theorem dMo_count_28 : decode prog_10_method_22_code 28 = .ok (.aload_n 0, 1) := by decide +kernel
theorem dMo_count_29 : decode prog_10_method_22_code 29 = .ok (.iload_n 1, 1) := by decide +kernel
theorem dMo_count_30 : decode prog_10_method_22_code 30 = .ok (.aload_n 0, 1) := by decide +kernel
theorem dMo_count_31 : decode prog_10_method_22_code 31 = .ok (.getfield 13, 3) := by decide +kernel
theorem dMo_count_34 : decode prog_10_method_22_code 34 = .ok (.iload_n 2, 1) := by decide +kernel
theorem dMo_count_35 : decode prog_10_method_22_code 35 = .ok (.laload, 1) := by decide +kernel
theorem dMo_count_36 : decode prog_10_method_22_code 36 = .ok (.invokevirtual 98, 3) := by decide +kernel
theorem dMo_count_39 : decode prog_10_method_22_code 39 = .ok (.ireturn, 1) := by decide +kernel
theorem dMo_howOften_0 : decode prog_10_method_21_code 0 = .ok (.iconst 0, 1) := by decide +kernel
theorem dMo_howOften_1 : decode prog_10_method_21_code 1 = .ok (.istore 4, 2) := by decide +kernel
theorem dMo_howOften_3 : decode prog_10_method_21_code 3 = .ok (.iconst 0, 1) := by decide +kernel
theorem dMo_howOften_4 : decode prog_10_method_21_code 4 = .ok (.istore 5, 2) := by decide +kernel
theorem dMo_howOften_6 : decode prog_10_method_21_code 6 = .ok (.iload 5, 2) := by decide +kernel
theorem dMo_howOften_8 : decode prog_10_method_21_code 8 = .ok (.bipush 32, 2) := by decide +kernel
theorem dMo_howOften_10 : decode prog_10_method_21_code 10 = .ok (.if_icmp .ge 72, 3) := by decide +kernel
theorem dMo_howOften_13 : decode prog_10_method_21_code 13 = .ok (.iconst 0, 1) := by decide +kernel
theorem dMo_howOften_14 : decode prog_10_method_21_code 14 = .ok (.istore 6, 2) := by decide +kernel
theorem dMo_howOften_16 : decode prog_10_method_21_code 16 = .ok (.iload 6, 2) := by decide +kernel
theorem dMo_howOften_18 : decode prog_10_method_21_code 18 = .ok (.aload_n 0, 1) := by decide +kernel
theorem dMo_howOften_19 : decode prog_10_method_21_code 19 = .ok (.getfield 23, 3) := by decide +kernel
theorem dMo_howOften_22 : decode prog_10_method_21_code 22 = .ok (.iload 5, 2) := by decide +kernel
theorem dMo_howOften_24 : decode prog_10_method_21_code 24 = .ok (.iaload, 1) := by decide +kernel
theorem dMo_howOften_25 : decode prog_10_method_21_code 25 = .ok (.if_icmp .ge 51, 3) := by decide +kernel
theorem dMo_howOften_28 : decode prog_10_method_21_code 28 = .ok (.aload_n 0, 1) := by decide +kernel
theorem dMo_howOften_29 : decode prog_10_method_21_code 29 = .ok (.getfield 20, 3) := by decide +kernel
theorem dMo_howOften_32 : decode prog_10_method_21_code 32 = .ok (.iload 5, 2) := by decide +kernel
theorem dMo_howOften_34 : decode prog_10_method_21_code 34 = .ok (.iaload, 1) := by decide +kernel
theorem dMo_howOften_35 : decode prog_10_method_21_code 35 = .ok (.iload_n 1, 1) := by decide +kernel
theorem dMo_howOften_36 : decode prog_10_method_21_code 36 = .ok (.iconst 1, 1) := by decide +kernel
theorem dMo_howOften_37 : decode prog_10_method_21_code 37 = .ok (.iadd, 1) := by decide +kernel
theorem dMo_howOften_38 : decode prog_10_method_21_code 38 = .ok (.if_icmp .ne 28, 3) := by decide +kernel
theorem dMo_howOften_41 : decode prog_10_method_21_code 41 = .ok (.aload_n 0, 1) := by decide +kernel
theorem dMo_howOften_42 : decode prog_10_method_21_code 42 = .ok (.getfield 26, 3) := by decide +kernel
theorem dMo_howOften_45 : decode prog_10_method_21_code 45 = .ok (.bipush 20, 2) := by decide +kernel
theorem dMo_howOften_47 : decode prog_10_method_21_code 47 = .ok (.iload 5, 2) := by decide +kernel
theorem dMo_howOften_49 : decode prog_10_method_21_code 49 = .ok (.imul, 1) := by decide +kernel
theorem dMo_howOften_50 : decode prog_10_method_21_code 50 = .ok (.iload 6, 2) := by decide +kernel
theorem dMo_howOften_52 : decode prog_10_method_21_code 52 = .ok (.iadd, 1) := by decide +kernel
theorem dMo_howOften_53 : decode prog_10_method_21_code 53 = .ok (.laload, 1) := by decide +kernel
theorem dMo_howOften_54 : decode prog_10_method_21_code 54 = .ok (.lload_n 2, 1) := by decide +kernel
theorem dMo_howOften_55 : decode prog_10_method_21_code 55 = .ok (.lcmp, 1) := by decide +kernel
theorem dMo_howOften_56 : decode prog_10_method_21_code 56 = .ok (.ifCond .ne 10, 3) := by decide +kernel
theorem dMo_howOften_59 : decode prog_10_method_21_code 59 = .ok (.iload 4, 2) := by decide +kernel
theorem dMo_howOften_61 : decode prog_10_method_21_code 61 = .ok (.iconst 1, 1) := by decide +kernel
theorem dMo_howOften_62 : decode prog_10_method_21_code 62 = .ok (.iadd, 1) := by decide +kernel
theorem dMo_howOften_63 : decode prog_10_method_21_code 63 = .ok (.goto 5, 3) := by decide +kernel
theorem dMo_howOften_66 : decode prog_10_method_21_code 66 = .ok (.iload 4, 2) := by decide +kernel
theorem dMo_howOften_68 : decode prog_10_method_21_code 68 = .ok (.istore 4, 2) := by decide +kernel
theorem dMo_howOften_70 : decode prog_10_method_21_code 70 = .ok (.iinc 6 1, 3) := by decide +kernel
theorem dMo_howOften_73 : decode prog_10_method_21_code 73 = .ok (.goto (-57), 3) := by decide +kernel
theorem dMo_howOften_76 : decode prog_10_method_21_code 76 = .ok (.iinc 5 1, 3) := by decide +kernel
theorem dMo_howOften_79 : decode prog_10_method_21_code 79 = .ok (.goto (-73), 3) := by decide +kernel
theorem dMo_howOften_82 : decode prog_10_method_21_code 82 = .ok (.iload 4, 2) := by decide +kernel
theorem dMo_howOften_84 : decode prog_10_method_21_code 84 = .ok (.ireturn, 1) := by decide +kernel
theorem dMo_vocabulary_0 : decode prog_10_method_24_code 0 = .ok (.iconst 0, 1) := by decide +kernel
theorem dMo_vocabulary_1 : decode prog_10_method_24_code 1 = .ok (.istore_n 1, 1) := by decide +kernel
theorem dMo_vocabulary_2 : decode prog_10_method_24_code 2 = .ok (.iconst 0, 1) := by decide +kernel
theorem dMo_vocabulary_3 : decode prog_10_method_24_code 3 = .ok (.istore_n 2, 1) := by decide +kernel
theorem dMo_vocabulary_4 : decode prog_10_method_24_code 4 = .ok (.iload_n 2, 1) := by decide +kernel
theorem dMo_vocabulary_5 : decode prog_10_method_24_code 5 = .ok (.bipush 32, 2) := by decide +kernel
theorem dMo_vocabulary_7 : decode prog_10_method_24_code 7 = .ok (.if_icmp .ge 53, 3) := by decide +kernel
theorem dMo_vocabulary_10 : decode prog_10_method_24_code 10 = .ok (.iconst 0, 1) := by decide +kernel
theorem dMo_vocabulary_11 : decode prog_10_method_24_code 11 = .ok (.istore_n 3, 1) := by decide +kernel
theorem dMo_vocabulary_12 : decode prog_10_method_24_code 12 = .ok (.aload_n 0, 1) := by decide +kernel
theorem dMo_vocabulary_13 : decode prog_10_method_24_code 13 = .ok (.getfield 20, 3) := by decide +kernel
theorem dMo_vocabulary_16 : decode prog_10_method_24_code 16 = .ok (.iload_n 2, 1) := by decide +kernel
theorem dMo_vocabulary_17 : decode prog_10_method_24_code 17 = .ok (.iaload, 1) := by decide +kernel
theorem dMo_vocabulary_18 : decode prog_10_method_24_code 18 = .ok (.ifCond .le 36, 3) := by decide +kernel
theorem dMo_vocabulary_21 : decode prog_10_method_24_code 21 = .ok (.iload_n 3, 1) := by decide +kernel
theorem dMo_vocabulary_22 : decode prog_10_method_24_code 22 = .ok (.aload_n 0, 1) := by decide +kernel
theorem dMo_vocabulary_23 : decode prog_10_method_24_code 23 = .ok (.getfield 23, 3) := by decide +kernel
theorem dMo_vocabulary_26 : decode prog_10_method_24_code 26 = .ok (.iload_n 2, 1) := by decide +kernel
theorem dMo_vocabulary_27 : decode prog_10_method_24_code 27 = .ok (.iaload, 1) := by decide +kernel
theorem dMo_vocabulary_28 : decode prog_10_method_24_code 28 = .ok (.if_icmp .ge 26, 3) := by decide +kernel
theorem dMo_vocabulary_31 : decode prog_10_method_24_code 31 = .ok (.aload_n 0, 1) := by decide +kernel
theorem dMo_vocabulary_32 : decode prog_10_method_24_code 32 = .ok (.iload_n 2, 1) := by decide +kernel
theorem dMo_vocabulary_33 : decode prog_10_method_24_code 33 = .ok (.iload_n 3, 1) := by decide +kernel
theorem dMo_vocabulary_34 : decode prog_10_method_24_code 34 = .ok (.invokevirtual 102, 3) := by decide +kernel
theorem dMo_vocabulary_37 : decode prog_10_method_24_code 37 = .ok (.ifCond .eq 9, 3) := by decide +kernel
theorem dMo_vocabulary_40 : decode prog_10_method_24_code 40 = .ok (.iload_n 1, 1) := by decide +kernel
theorem dMo_vocabulary_41 : decode prog_10_method_24_code 41 = .ok (.iconst 1, 1) := by decide +kernel
theorem dMo_vocabulary_42 : decode prog_10_method_24_code 42 = .ok (.iadd, 1) := by decide +kernel
theorem dMo_vocabulary_43 : decode prog_10_method_24_code 43 = .ok (.goto 4, 3) := by decide +kernel
theorem dMo_vocabulary_46 : decode prog_10_method_24_code 46 = .ok (.iload_n 1, 1) := by decide +kernel
theorem dMo_vocabulary_47 : decode prog_10_method_24_code 47 = .ok (.istore_n 1, 1) := by decide +kernel
theorem dMo_vocabulary_48 : decode prog_10_method_24_code 48 = .ok (.iinc 3 1, 3) := by decide +kernel
theorem dMo_vocabulary_51 : decode prog_10_method_24_code 51 = .ok (.goto (-39), 3) := by decide +kernel
theorem dMo_vocabulary_54 : decode prog_10_method_24_code 54 = .ok (.iinc 2 1, 3) := by decide +kernel
theorem dMo_vocabulary_57 : decode prog_10_method_24_code 57 = .ok (.goto (-53), 3) := by decide +kernel
theorem dMo_vocabulary_60 : decode prog_10_method_24_code 60 = .ok (.iload_n 1, 1) := by decide +kernel
theorem dMo_vocabulary_61 : decode prog_10_method_24_code 61 = .ok (.ireturn, 1) := by decide +kernel
theorem dMo_isNew_0 : decode prog_10_method_23_code 0 = .ok (.aload_n 0, 1) := by decide +kernel
theorem dMo_isNew_1 : decode prog_10_method_23_code 1 = .ok (.getfield 26, 3) := by decide +kernel
theorem dMo_isNew_4 : decode prog_10_method_23_code 4 = .ok (.bipush 20, 2) := by decide +kernel
theorem dMo_isNew_6 : decode prog_10_method_23_code 6 = .ok (.iload_n 1, 1) := by decide +kernel
theorem dMo_isNew_7 : decode prog_10_method_23_code 7 = .ok (.imul, 1) := by decide +kernel
theorem dMo_isNew_8 : decode prog_10_method_23_code 8 = .ok (.iload_n 2, 1) := by decide +kernel
theorem dMo_isNew_9 : decode prog_10_method_23_code 9 = .ok (.iadd, 1) := by decide +kernel
theorem dMo_isNew_10 : decode prog_10_method_23_code 10 = .ok (.laload, 1) := by decide +kernel
theorem dMo_isNew_11 : decode prog_10_method_23_code 11 = .ok (.lstore_n 3, 1) := by decide +kernel
theorem dMo_isNew_12 : decode prog_10_method_23_code 12 = .ok (.iconst 0, 1) := by decide +kernel
theorem dMo_isNew_13 : decode prog_10_method_23_code 13 = .ok (.istore 5, 2) := by decide +kernel
theorem dMo_isNew_15 : decode prog_10_method_23_code 15 = .ok (.iload 5, 2) := by decide +kernel
theorem dMo_isNew_17 : decode prog_10_method_23_code 17 = .ok (.iload_n 1, 1) := by decide +kernel
theorem dMo_isNew_18 : decode prog_10_method_23_code 18 = .ok (.if_icmp .gt 70, 3) := by decide +kernel
theorem dMo_isNew_21 : decode prog_10_method_23_code 21 = .ok (.iconst 0, 1) := by decide +kernel
theorem dMo_isNew_22 : decode prog_10_method_23_code 22 = .ok (.istore 6, 2) := by decide +kernel
theorem dMo_isNew_24 : decode prog_10_method_23_code 24 = .ok (.aload_n 0, 1) := by decide +kernel
theorem dMo_isNew_25 : decode prog_10_method_23_code 25 = .ok (.getfield 20, 3) := by decide +kernel
theorem dMo_isNew_28 : decode prog_10_method_23_code 28 = .ok (.iload 5, 2) := by decide +kernel
theorem dMo_isNew_30 : decode prog_10_method_23_code 30 = .ok (.iaload, 1) := by decide +kernel
theorem dMo_isNew_31 : decode prog_10_method_23_code 31 = .ok (.ifCond .le 51, 3) := by decide +kernel
theorem dMo_isNew_34 : decode prog_10_method_23_code 34 = .ok (.iload 6, 2) := by decide +kernel
theorem dMo_isNew_36 : decode prog_10_method_23_code 36 = .ok (.iload 5, 2) := by decide +kernel
theorem dMo_isNew_38 : decode prog_10_method_23_code 38 = .ok (.iload_n 1, 1) := by decide +kernel
theorem dMo_isNew_39 : decode prog_10_method_23_code 39 = .ok (.if_icmp .ne 7, 3) := by decide +kernel
theorem dMo_isNew_42 : decode prog_10_method_23_code 42 = .ok (.iload_n 2, 1) := by decide +kernel
theorem dMo_isNew_43 : decode prog_10_method_23_code 43 = .ok (.goto 10, 3) := by decide +kernel
theorem dMo_isNew_46 : decode prog_10_method_23_code 46 = .ok (.aload_n 0, 1) := by decide +kernel
theorem dMo_isNew_47 : decode prog_10_method_23_code 47 = .ok (.getfield 23, 3) := by decide +kernel
theorem dMo_isNew_50 : decode prog_10_method_23_code 50 = .ok (.iload 5, 2) := by decide +kernel
theorem dMo_isNew_52 : decode prog_10_method_23_code 52 = .ok (.iaload, 1) := by decide +kernel
theorem dMo_isNew_53 : decode prog_10_method_23_code 53 = .ok (.if_icmp .ge 29, 3) := by decide +kernel
theorem dMo_isNew_56 : decode prog_10_method_23_code 56 = .ok (.aload_n 0, 1) := by decide +kernel
theorem dMo_isNew_57 : decode prog_10_method_23_code 57 = .ok (.getfield 26, 3) := by decide +kernel
theorem dMo_isNew_60 : decode prog_10_method_23_code 60 = .ok (.bipush 20, 2) := by decide +kernel
theorem dMo_isNew_62 : decode prog_10_method_23_code 62 = .ok (.iload 5, 2) := by decide +kernel
theorem dMo_isNew_64 : decode prog_10_method_23_code 64 = .ok (.imul, 1) := by decide +kernel
theorem dMo_isNew_65 : decode prog_10_method_23_code 65 = .ok (.iload 6, 2) := by decide +kernel
theorem dMo_isNew_67 : decode prog_10_method_23_code 67 = .ok (.iadd, 1) := by decide +kernel
theorem dMo_isNew_68 : decode prog_10_method_23_code 68 = .ok (.laload, 1) := by decide +kernel
theorem dMo_isNew_69 : decode prog_10_method_23_code 69 = .ok (.lload_n 3, 1) := by decide +kernel
theorem dMo_isNew_70 : decode prog_10_method_23_code 70 = .ok (.lcmp, 1) := by decide +kernel
theorem dMo_isNew_71 : decode prog_10_method_23_code 71 = .ok (.ifCond .ne 5, 3) := by decide +kernel
theorem dMo_isNew_74 : decode prog_10_method_23_code 74 = .ok (.iconst 0, 1) := by decide +kernel
theorem dMo_isNew_75 : decode prog_10_method_23_code 75 = .ok (.ireturn, 1) := by decide +kernel
theorem dMo_isNew_76 : decode prog_10_method_23_code 76 = .ok (.iinc 6 1, 3) := by decide +kernel
theorem dMo_isNew_79 : decode prog_10_method_23_code 79 = .ok (.goto (-55), 3) := by decide +kernel
theorem dMo_isNew_82 : decode prog_10_method_23_code 82 = .ok (.iinc 5 1, 3) := by decide +kernel
theorem dMo_isNew_85 : decode prog_10_method_23_code 85 = .ok (.goto (-70), 3) := by decide +kernel
theorem dMo_isNew_88 : decode prog_10_method_23_code 88 = .ok (.iconst 1, 1) := by decide +kernel
theorem dMo_isNew_89 : decode prog_10_method_23_code 89 = .ok (.ireturn, 1) := by decide +kernel
theorem dMo_label_0 : decode prog_10_method_25_code 0 = .ok (.iload_n 1, 1) := by decide +kernel
theorem dMo_label_1 : decode prog_10_method_25_code 1 = .ok (.invokestatic 72, 3) := by decide +kernel
theorem dMo_label_4 : decode prog_10_method_25_code 4 = .ok (.ifCond .eq 14, 3) := by decide +kernel
theorem dMo_label_7 : decode prog_10_method_25_code 7 = .ok (.aload_n 0, 1) := by decide +kernel
theorem dMo_label_8 : decode prog_10_method_25_code 8 = .ok (.getfield 20, 3) := by decide +kernel
theorem dMo_label_11 : decode prog_10_method_25_code 11 = .ok (.iload_n 1, 1) := by decide +kernel
theorem dMo_label_12 : decode prog_10_method_25_code 12 = .ok (.iaload, 1) := by decide +kernel
theorem dMo_label_13 : decode prog_10_method_25_code 13 = .ok (.iconst 1, 1) := by decide +kernel
theorem dMo_label_14 : decode prog_10_method_25_code 14 = .ok (.isub, 1) := by decide +kernel
theorem dMo_label_15 : decode prog_10_method_25_code 15 = .ok (.goto 4, 3) := by decide +kernel
theorem dMo_label_18 : decode prog_10_method_25_code 18 = .ok (.iconst (-1), 1) := by decide +kernel
theorem dMo_label_19 : decode prog_10_method_25_code 19 = .ok (.ireturn, 1) := by decide +kernel
theorem dMo_compare_0 : decode prog_10_method_28_code 0 = .ok (.aload_n 0, 1) := by decide +kernel
theorem dMo_compare_1 : decode prog_10_method_28_code 1 = .ok (.iload_n 1, 1) := by decide +kernel
theorem dMo_compare_2 : decode prog_10_method_28_code 2 = .ok (.invokevirtual 95, 3) := by decide +kernel
theorem dMo_compare_5 : decode prog_10_method_28_code 5 = .ok (.ifCond .eq 20, 3) := by decide +kernel
theorem dMo_compare_8 : decode prog_10_method_28_code 8 = .ok (.aload_n 0, 1) := by decide +kernel
theorem dMo_compare_9 : decode prog_10_method_28_code 9 = .ok (.iload_n 2, 1) := by decide +kernel
theorem dMo_compare_10 : decode prog_10_method_28_code 10 = .ok (.invokevirtual 95, 3) := by decide +kernel
theorem dMo_compare_13 : decode prog_10_method_28_code 13 = .ok (.ifCond .eq 12, 3) := by decide +kernel
theorem dMo_compare_16 : decode prog_10_method_28_code 16 = .ok (.aload_n 0, 1) := by decide +kernel
theorem dMo_compare_17 : decode prog_10_method_28_code 17 = .ok (.iload_n 1, 1) := by decide +kernel
theorem dMo_compare_18 : decode prog_10_method_28_code 18 = .ok (.iload_n 2, 1) := by decide +kernel
theorem dMo_compare_19 : decode prog_10_method_28_code 19 = .ok (.invokevirtual 119, 3) := by decide +kernel
theorem dMo_compare_22 : decode prog_10_method_28_code 22 = .ok (.goto 5, 3) := by decide +kernel
theorem dMo_compare_25 : decode prog_10_method_28_code 25 = .ok (.bipush (-2), 2) := by decide +kernel
theorem dMo_compare_27 : decode prog_10_method_28_code 27 = .ok (.ireturn, 1) := by decide +kernel
theorem dMo_against_0 : decode prog_10_method_27_code 0 = .ok (.iconst 0, 1) := by decide +kernel
theorem dMo_against_1 : decode prog_10_method_27_code 1 = .ok (.istore_n 3, 1) := by decide +kernel
theorem dMo_against_2 : decode prog_10_method_27_code 2 = .ok (.iload_n 3, 1) := by decide +kernel
theorem dMo_against_3 : decode prog_10_method_27_code 3 = .ok (.bipush 50, 2) := by decide +kernel
theorem dMo_against_5 : decode prog_10_method_27_code 5 = .ok (.if_icmp .ge 39, 3) := by decide +kernel
theorem dMo_against_8 : decode prog_10_method_27_code 8 = .ok (.aload_n 0, 1) := by decide +kernel
theorem dMo_against_9 : decode prog_10_method_27_code 9 = .ok (.getfield 44, 3) := by decide +kernel
theorem dMo_against_12 : decode prog_10_method_27_code 12 = .ok (.iload_n 3, 1) := by decide +kernel
theorem dMo_against_13 : decode prog_10_method_27_code 13 = .ok (.iload_n 3, 1) := by decide +kernel
theorem dMo_against_14 : decode prog_10_method_27_code 14 = .ok (.ifCond .ne 7, 3) := by decide +kernel
theorem dMo_against_17 : decode prog_10_method_27_code 17 = .ok (.iconst 1, 1) := by decide +kernel
theorem dMo_against_18 : decode prog_10_method_27_code 18 = .ok (.goto 4, 3) := by decide +kernel
theorem dMo_against_21 : decode prog_10_method_27_code 21 = .ok (.iconst 0, 1) := by decide +kernel
theorem dMo_against_22 : decode prog_10_method_27_code 22 = .ok (.iastore, 1) := by decide +kernel
theorem dMo_against_23 : decode prog_10_method_27_code 23 = .ok (.aload_n 0, 1) := by decide +kernel
theorem dMo_against_24 : decode prog_10_method_27_code 24 = .ok (.getfield 47, 3) := by decide +kernel
theorem dMo_against_27 : decode prog_10_method_27_code 27 = .ok (.iload_n 3, 1) := by decide +kernel
theorem dMo_against_28 : decode prog_10_method_27_code 28 = .ok (.iload_n 3, 1) := by decide +kernel
theorem dMo_against_29 : decode prog_10_method_27_code 29 = .ok (.ifCond .ne 7, 3) := by decide +kernel
theorem dMo_against_32 : decode prog_10_method_27_code 32 = .ok (.iconst 1, 1) := by decide +kernel
theorem dMo_against_33 : decode prog_10_method_27_code 33 = .ok (.goto 4, 3) := by decide +kernel
theorem dMo_against_36 : decode prog_10_method_27_code 36 = .ok (.iconst 0, 1) := by decide +kernel
theorem dMo_against_37 : decode prog_10_method_27_code 37 = .ok (.iastore, 1) := by decide +kernel
theorem dMo_against_38 : decode prog_10_method_27_code 38 = .ok (.iinc 3 1, 3) := by decide +kernel
theorem dMo_against_41 : decode prog_10_method_27_code 41 = .ok (.goto (-39), 3) := by decide +kernel
theorem dMo_against_44 : decode prog_10_method_27_code 44 = .ok (.aload_n 0, 1) := by decide +kernel
theorem dMo_against_45 : decode prog_10_method_27_code 45 = .ok (.invokevirtual 106, 3) := by decide +kernel
theorem dMo_against_48 : decode prog_10_method_27_code 48 = .ok (.iconst 1, 1) := by decide +kernel
theorem dMo_against_49 : decode prog_10_method_27_code 49 = .ok (.iadd, 1) := by decide +kernel
theorem dMo_against_50 : decode prog_10_method_27_code 50 = .ok (.istore_n 3, 1) := by decide +kernel
theorem dMo_against_51 : decode prog_10_method_27_code 51 = .ok (.aload_n 0, 1) := by decide +kernel
theorem dMo_against_52 : decode prog_10_method_27_code 52 = .ok (.iload_n 1, 1) := by decide +kernel
theorem dMo_against_53 : decode prog_10_method_27_code 53 = .ok (.invokevirtual 109, 3) := by decide +kernel
theorem dMo_against_56 : decode prog_10_method_27_code 56 = .ok (.iload_n 3, 1) := by decide +kernel
theorem dMo_against_57 : decode prog_10_method_27_code 57 = .ok (.iadd, 1) := by decide +kernel
theorem dMo_against_58 : decode prog_10_method_27_code 58 = .ok (.istore 4, 2) := by decide +kernel
theorem dMo_against_60 : decode prog_10_method_27_code 60 = .ok (.aload_n 0, 1) := by decide +kernel
theorem dMo_against_61 : decode prog_10_method_27_code 61 = .ok (.iload_n 2, 1) := by decide +kernel
theorem dMo_against_62 : decode prog_10_method_27_code 62 = .ok (.invokevirtual 109, 3) := by decide +kernel
theorem dMo_against_65 : decode prog_10_method_27_code 65 = .ok (.iload_n 3, 1) := by decide +kernel
theorem dMo_against_66 : decode prog_10_method_27_code 66 = .ok (.iadd, 1) := by decide +kernel
theorem dMo_against_67 : decode prog_10_method_27_code 67 = .ok (.istore 5, 2) := by decide +kernel
theorem dMo_against_69 : decode prog_10_method_27_code 69 = .ok (.aload_n 0, 1) := by decide +kernel
theorem dMo_against_70 : decode prog_10_method_27_code 70 = .ok (.iconst 1, 1) := by decide +kernel
theorem dMo_against_71 : decode prog_10_method_27_code 71 = .ok (.aload_n 0, 1) := by decide +kernel
theorem dMo_against_72 : decode prog_10_method_27_code 72 = .ok (.iload_n 1, 1) := by decide +kernel
theorem dMo_against_73 : decode prog_10_method_27_code 73 = .ok (.invokevirtual 112, 3) := by decide +kernel
theorem dMo_against_76 : decode prog_10_method_27_code 76 = .ok (.invokevirtual 115, 3) := by decide +kernel
theorem dMo_against_79 : decode prog_10_method_27_code 79 = .ok (.aload_n 0, 1) := by decide +kernel
theorem dMo_against_80 : decode prog_10_method_27_code 80 = .ok (.iconst 0, 1) := by decide +kernel
theorem dMo_against_81 : decode prog_10_method_27_code 81 = .ok (.aload_n 0, 1) := by decide +kernel
theorem dMo_against_82 : decode prog_10_method_27_code 82 = .ok (.iload_n 2, 1) := by decide +kernel
theorem dMo_against_83 : decode prog_10_method_27_code 83 = .ok (.invokevirtual 112, 3) := by decide +kernel
theorem dMo_against_86 : decode prog_10_method_27_code 86 = .ok (.invokevirtual 115, 3) := by decide +kernel
theorem dMo_against_89 : decode prog_10_method_27_code 89 = .ok (.aload_n 0, 1) := by decide +kernel
theorem dMo_against_90 : decode prog_10_method_27_code 90 = .ok (.invokevirtual 66, 3) := by decide +kernel
theorem dMo_against_93 : decode prog_10_method_27_code 93 = .ok (.iconst 0, 1) := by decide +kernel
theorem dMo_against_94 : decode prog_10_method_27_code 94 = .ok (.istore 6, 2) := by decide +kernel
theorem dMo_against_96 : decode prog_10_method_27_code 96 = .ok (.iload 6, 2) := by decide +kernel
theorem dMo_against_98 : decode prog_10_method_27_code 98 = .ok (.aload_n 0, 1) := by decide +kernel
theorem dMo_against_99 : decode prog_10_method_27_code 99 = .ok (.getfield 57, 3) := by decide +kernel
theorem dMo_against_102 : decode prog_10_method_27_code 102 = .ok (.if_icmp .ge 61, 3) := by decide +kernel
theorem dMo_against_105 : decode prog_10_method_27_code 105 = .ok (.aload_n 0, 1) := by decide +kernel
theorem dMo_against_106 : decode prog_10_method_27_code 106 = .ok (.iconst 1, 1) := by decide +kernel
theorem dMo_against_107 : decode prog_10_method_27_code 107 = .ok (.aload_n 0, 1) := by decide +kernel
theorem dMo_against_108 : decode prog_10_method_27_code 108 = .ok (.iload_n 1, 1) := by decide +kernel
theorem dMo_against_109 : decode prog_10_method_27_code 109 = .ok (.aload_n 0, 1) := by decide +kernel
theorem dMo_against_110 : decode prog_10_method_27_code 110 = .ok (.getfield 13, 3) := by decide +kernel
theorem dMo_against_113 : decode prog_10_method_27_code 113 = .ok (.iload 6, 2) := by decide +kernel
theorem dMo_against_115 : decode prog_10_method_27_code 115 = .ok (.laload, 1) := by decide +kernel
theorem dMo_against_116 : decode prog_10_method_27_code 116 = .ok (.invokevirtual 98, 3) := by decide +kernel
theorem dMo_against_119 : decode prog_10_method_27_code 119 = .ok (.iconst 1, 1) := by decide +kernel
theorem dMo_against_120 : decode prog_10_method_27_code 120 = .ok (.iadd, 1) := by decide +kernel
theorem dMo_against_121 : decode prog_10_method_27_code 121 = .ok (.invokevirtual 115, 3) := by decide +kernel
theorem dMo_against_124 : decode prog_10_method_27_code 124 = .ok (.aload_n 0, 1) := by decide +kernel
theorem dMo_against_125 : decode prog_10_method_27_code 125 = .ok (.iconst 1, 1) := by decide +kernel
theorem dMo_against_126 : decode prog_10_method_27_code 126 = .ok (.iload 5, 2) := by decide +kernel
theorem dMo_against_128 : decode prog_10_method_27_code 128 = .ok (.invokevirtual 115, 3) := by decide +kernel
theorem dMo_against_131 : decode prog_10_method_27_code 131 = .ok (.aload_n 0, 1) := by decide +kernel
theorem dMo_against_132 : decode prog_10_method_27_code 132 = .ok (.iconst 0, 1) := by decide +kernel
theorem dMo_against_133 : decode prog_10_method_27_code 133 = .ok (.aload_n 0, 1) := by decide +kernel
theorem dMo_against_134 : decode prog_10_method_27_code 134 = .ok (.iload_n 2, 1) := by decide +kernel
theorem dMo_against_135 : decode prog_10_method_27_code 135 = .ok (.aload_n 0, 1) := by decide +kernel
theorem dMo_against_136 : decode prog_10_method_27_code 136 = .ok (.getfield 13, 3) := by decide +kernel
theorem dMo_against_139 : decode prog_10_method_27_code 139 = .ok (.iload 6, 2) := by decide +kernel
theorem dMo_against_141 : decode prog_10_method_27_code 141 = .ok (.laload, 1) := by decide +kernel
theorem dMo_against_142 : decode prog_10_method_27_code 142 = .ok (.invokevirtual 98, 3) := by decide +kernel
theorem dMo_against_145 : decode prog_10_method_27_code 145 = .ok (.iconst 1, 1) := by decide +kernel
theorem dMo_against_146 : decode prog_10_method_27_code 146 = .ok (.iadd, 1) := by decide +kernel
theorem dMo_against_147 : decode prog_10_method_27_code 147 = .ok (.invokevirtual 115, 3) := by decide +kernel
theorem dMo_against_150 : decode prog_10_method_27_code 150 = .ok (.aload_n 0, 1) := by decide +kernel
theorem dMo_against_151 : decode prog_10_method_27_code 151 = .ok (.iconst 0, 1) := by decide +kernel
theorem dMo_against_152 : decode prog_10_method_27_code 152 = .ok (.iload 4, 2) := by decide +kernel
theorem dMo_against_154 : decode prog_10_method_27_code 154 = .ok (.invokevirtual 115, 3) := by decide +kernel
theorem dMo_against_157 : decode prog_10_method_27_code 157 = .ok (.iinc 6 1, 3) := by decide +kernel
theorem dMo_against_160 : decode prog_10_method_27_code 160 = .ok (.goto (-64), 3) := by decide +kernel
theorem dMo_against_163 : decode prog_10_method_27_code 163 = .ok (.bipush 49, 2) := by decide +kernel
theorem dMo_against_165 : decode prog_10_method_27_code 165 = .ok (.istore 6, 2) := by decide +kernel
theorem dMo_against_167 : decode prog_10_method_27_code 167 = .ok (.iload 6, 2) := by decide +kernel
theorem dMo_against_169 : decode prog_10_method_27_code 169 = .ok (.ifCond .lt 49, 3) := by decide +kernel
theorem dMo_against_172 : decode prog_10_method_27_code 172 = .ok (.aload_n 0, 1) := by decide +kernel
theorem dMo_against_173 : decode prog_10_method_27_code 173 = .ok (.getfield 44, 3) := by decide +kernel
theorem dMo_against_176 : decode prog_10_method_27_code 176 = .ok (.iload 6, 2) := by decide +kernel
theorem dMo_against_178 : decode prog_10_method_27_code 178 = .ok (.iaload, 1) := by decide +kernel
theorem dMo_against_179 : decode prog_10_method_27_code 179 = .ok (.aload_n 0, 1) := by decide +kernel
theorem dMo_against_180 : decode prog_10_method_27_code 180 = .ok (.getfield 47, 3) := by decide +kernel
theorem dMo_against_183 : decode prog_10_method_27_code 183 = .ok (.iload 6, 2) := by decide +kernel
theorem dMo_against_185 : decode prog_10_method_27_code 185 = .ok (.iaload, 1) := by decide +kernel
theorem dMo_against_186 : decode prog_10_method_27_code 186 = .ok (.if_icmp .eq 26, 3) := by decide +kernel
theorem dMo_against_189 : decode prog_10_method_27_code 189 = .ok (.aload_n 0, 1) := by decide +kernel
theorem dMo_against_190 : decode prog_10_method_27_code 190 = .ok (.getfield 44, 3) := by decide +kernel
theorem dMo_against_193 : decode prog_10_method_27_code 193 = .ok (.iload 6, 2) := by decide +kernel
theorem dMo_against_195 : decode prog_10_method_27_code 195 = .ok (.iaload, 1) := by decide +kernel
theorem dMo_against_196 : decode prog_10_method_27_code 196 = .ok (.aload_n 0, 1) := by decide +kernel
theorem dMo_against_197 : decode prog_10_method_27_code 197 = .ok (.getfield 47, 3) := by decide +kernel
theorem dMo_against_200 : decode prog_10_method_27_code 200 = .ok (.iload 6, 2) := by decide +kernel
theorem dMo_against_202 : decode prog_10_method_27_code 202 = .ok (.iaload, 1) := by decide +kernel
theorem dMo_against_203 : decode prog_10_method_27_code 203 = .ok (.if_icmp .le 7, 3) := by decide +kernel
theorem dMo_against_206 : decode prog_10_method_27_code 206 = .ok (.iconst 1, 1) := by decide +kernel
theorem dMo_against_207 : decode prog_10_method_27_code 207 = .ok (.goto 4, 3) := by decide +kernel
theorem dMo_against_210 : decode prog_10_method_27_code 210 = .ok (.iconst (-1), 1) := by decide +kernel
theorem dMo_against_211 : decode prog_10_method_27_code 211 = .ok (.ireturn, 1) := by decide +kernel
theorem dMo_against_212 : decode prog_10_method_27_code 212 = .ok (.iinc 6 (-1), 3) := by decide +kernel
theorem dMo_against_215 : decode prog_10_method_27_code 215 = .ok (.goto (-48), 3) := by decide +kernel
theorem dMo_against_218 : decode prog_10_method_27_code 218 = .ok (.iconst 0, 1) := by decide +kernel
theorem dMo_against_219 : decode prog_10_method_27_code 219 = .ok (.ireturn, 1) := by decide +kernel
theorem dMo_times_0 : decode prog_10_method_26_code 0 = .ok (.iconst 0, 1) := by decide +kernel
theorem dMo_times_1 : decode prog_10_method_26_code 1 = .ok (.istore_n 3, 1) := by decide +kernel
theorem dMo_times_2 : decode prog_10_method_26_code 2 = .ok (.iconst 0, 1) := by decide +kernel
theorem dMo_times_3 : decode prog_10_method_26_code 3 = .ok (.istore 4, 2) := by decide +kernel
theorem dMo_times_5 : decode prog_10_method_26_code 5 = .ok (.iload 4, 2) := by decide +kernel
theorem dMo_times_7 : decode prog_10_method_26_code 7 = .ok (.bipush 50, 2) := by decide +kernel
theorem dMo_times_9 : decode prog_10_method_26_code 9 = .ok (.if_icmp .ge 76, 3) := by decide +kernel
theorem dMo_times_12 : decode prog_10_method_26_code 12 = .ok (.iload_n 1, 1) := by decide +kernel
theorem dMo_times_13 : decode prog_10_method_26_code 13 = .ok (.ifCond .eq 13, 3) := by decide +kernel
theorem dMo_times_16 : decode prog_10_method_26_code 16 = .ok (.aload_n 0, 1) := by decide +kernel
theorem dMo_times_17 : decode prog_10_method_26_code 17 = .ok (.getfield 44, 3) := by decide +kernel
theorem dMo_times_20 : decode prog_10_method_26_code 20 = .ok (.iload 4, 2) := by decide +kernel
theorem dMo_times_22 : decode prog_10_method_26_code 22 = .ok (.iaload, 1) := by decide +kernel
theorem dMo_times_23 : decode prog_10_method_26_code 23 = .ok (.goto 10, 3) := by decide +kernel
theorem dMo_times_26 : decode prog_10_method_26_code 26 = .ok (.aload_n 0, 1) := by decide +kernel
theorem dMo_times_27 : decode prog_10_method_26_code 27 = .ok (.getfield 47, 3) := by decide +kernel
theorem dMo_times_30 : decode prog_10_method_26_code 30 = .ok (.iload 4, 2) := by decide +kernel
theorem dMo_times_32 : decode prog_10_method_26_code 32 = .ok (.iaload, 1) := by decide +kernel
theorem dMo_times_33 : decode prog_10_method_26_code 33 = .ok (.iload_n 2, 1) := by decide +kernel
theorem dMo_times_34 : decode prog_10_method_26_code 34 = .ok (.imul, 1) := by decide +kernel
theorem dMo_times_35 : decode prog_10_method_26_code 35 = .ok (.iload_n 3, 1) := by decide +kernel
theorem dMo_times_36 : decode prog_10_method_26_code 36 = .ok (.iadd, 1) := by decide +kernel
theorem dMo_times_37 : decode prog_10_method_26_code 37 = .ok (.istore 5, 2) := by decide +kernel
theorem dMo_times_39 : decode prog_10_method_26_code 39 = .ok (.iload 5, 2) := by decide +kernel
theorem dMo_times_41 : decode prog_10_method_26_code 41 = .ok (.sipush 1000, 3) := by decide +kernel
theorem dMo_times_44 : decode prog_10_method_26_code 44 = .ok (.idiv, 1) := by decide +kernel
theorem dMo_times_45 : decode prog_10_method_26_code 45 = .ok (.istore_n 3, 1) := by decide +kernel
theorem dMo_times_46 : decode prog_10_method_26_code 46 = .ok (.iload_n 1, 1) := by decide +kernel
theorem dMo_times_47 : decode prog_10_method_26_code 47 = .ok (.ifCond .eq 19, 3) := by decide +kernel
theorem dMo_times_50 : decode prog_10_method_26_code 50 = .ok (.aload_n 0, 1) := by decide +kernel
theorem dMo_times_51 : decode prog_10_method_26_code 51 = .ok (.getfield 44, 3) := by decide +kernel
theorem dMo_times_54 : decode prog_10_method_26_code 54 = .ok (.iload 4, 2) := by decide +kernel
theorem dMo_times_56 : decode prog_10_method_26_code 56 = .ok (.iload 5, 2) := by decide +kernel
theorem dMo_times_58 : decode prog_10_method_26_code 58 = .ok (.sipush 1000, 3) := by decide +kernel
theorem dMo_times_61 : decode prog_10_method_26_code 61 = .ok (.irem, 1) := by decide +kernel
theorem dMo_times_62 : decode prog_10_method_26_code 62 = .ok (.iastore, 1) := by decide +kernel
theorem dMo_times_63 : decode prog_10_method_26_code 63 = .ok (.goto 16, 3) := by decide +kernel
theorem dMo_times_66 : decode prog_10_method_26_code 66 = .ok (.aload_n 0, 1) := by decide +kernel
theorem dMo_times_67 : decode prog_10_method_26_code 67 = .ok (.getfield 47, 3) := by decide +kernel
theorem dMo_times_70 : decode prog_10_method_26_code 70 = .ok (.iload 4, 2) := by decide +kernel
theorem dMo_times_72 : decode prog_10_method_26_code 72 = .ok (.iload 5, 2) := by decide +kernel
theorem dMo_times_74 : decode prog_10_method_26_code 74 = .ok (.sipush 1000, 3) := by decide +kernel
theorem dMo_times_77 : decode prog_10_method_26_code 77 = .ok (.irem, 1) := by decide +kernel
theorem dMo_times_78 : decode prog_10_method_26_code 78 = .ok (.iastore, 1) := by decide +kernel
theorem dMo_times_79 : decode prog_10_method_26_code 79 = .ok (.iinc 4 1, 3) := by decide +kernel
theorem dMo_times_82 : decode prog_10_method_26_code 82 = .ok (.goto (-77), 3) := by decide +kernel
theorem dMo_times_85 : decode prog_10_method_26_code 85 = .ok (.return_, 1) := by decide +kernel
theorem dMo_order_0 : decode prog_10_method_30_code 0 = .ok (.iconst 0, 1) := by decide +kernel
theorem dMo_order_1 : decode prog_10_method_30_code 1 = .ok (.istore_n 2, 1) := by decide +kernel
theorem dMo_order_2 : decode prog_10_method_30_code 2 = .ok (.iload_n 2, 1) := by decide +kernel
theorem dMo_order_3 : decode prog_10_method_30_code 3 = .ok (.aload_n 0, 1) := by decide +kernel
theorem dMo_order_4 : decode prog_10_method_30_code 4 = .ok (.getfield 50, 3) := by decide +kernel
theorem dMo_order_7 : decode prog_10_method_30_code 7 = .ok (.if_icmp .ge 20, 3) := by decide +kernel
theorem dMo_order_10 : decode prog_10_method_30_code 10 = .ok (.aload_n 0, 1) := by decide +kernel
theorem dMo_order_11 : decode prog_10_method_30_code 11 = .ok (.iload_n 2, 1) := by decide +kernel
theorem dMo_order_12 : decode prog_10_method_30_code 12 = .ok (.invokevirtual 123, 3) := by decide +kernel
theorem dMo_order_15 : decode prog_10_method_30_code 15 = .ok (.iload_n 1, 1) := by decide +kernel
theorem dMo_order_16 : decode prog_10_method_30_code 16 = .ok (.if_icmp .ne 5, 3) := by decide +kernel
theorem dMo_order_19 : decode prog_10_method_30_code 19 = .ok (.iload_n 2, 1) := by decide +kernel
theorem dMo_order_20 : decode prog_10_method_30_code 20 = .ok (.ireturn, 1) := by decide +kernel
theorem dMo_order_21 : decode prog_10_method_30_code 21 = .ok (.iinc 2 1, 3) := by decide +kernel
theorem dMo_order_24 : decode prog_10_method_30_code 24 = .ok (.goto (-22), 3) := by decide +kernel
theorem dMo_order_27 : decode prog_10_method_30_code 27 = .ok (.iconst (-1), 1) := by decide +kernel
theorem dMo_order_28 : decode prog_10_method_30_code 28 = .ok (.ireturn, 1) := by decide +kernel
theorem dMo_place_0 : decode prog_10_method_29_code 0 = .ok (.iconst 0, 1) := by decide +kernel
theorem dMo_place_1 : decode prog_10_method_29_code 1 = .ok (.istore_n 2, 1) := by decide +kernel
theorem dMo_place_2 : decode prog_10_method_29_code 2 = .ok (.iconst 0, 1) := by decide +kernel
theorem dMo_place_3 : decode prog_10_method_29_code 3 = .ok (.istore_n 3, 1) := by decide +kernel
theorem dMo_place_4 : decode prog_10_method_29_code 4 = .ok (.iload_n 3, 1) := by decide +kernel
theorem dMo_place_5 : decode prog_10_method_29_code 5 = .ok (.aload_n 0, 1) := by decide +kernel
theorem dMo_place_6 : decode prog_10_method_29_code 6 = .ok (.getfield 50, 3) := by decide +kernel
theorem dMo_place_9 : decode prog_10_method_29_code 9 = .ok (.if_icmp .ge 40, 3) := by decide +kernel
theorem dMo_place_12 : decode prog_10_method_29_code 12 = .ok (.aload_n 0, 1) := by decide +kernel
theorem dMo_place_13 : decode prog_10_method_29_code 13 = .ok (.iload_n 3, 1) := by decide +kernel
theorem dMo_place_14 : decode prog_10_method_29_code 14 = .ok (.iload_n 1, 1) := by decide +kernel
theorem dMo_place_15 : decode prog_10_method_29_code 15 = .ok (.invokevirtual 119, 3) := by decide +kernel
theorem dMo_place_18 : decode prog_10_method_29_code 18 = .ok (.istore 4, 2) := by decide +kernel
theorem dMo_place_20 : decode prog_10_method_29_code 20 = .ok (.iload 4, 2) := by decide +kernel
theorem dMo_place_22 : decode prog_10_method_29_code 22 = .ok (.ifCond .gt 13, 3) := by decide +kernel
theorem dMo_place_25 : decode prog_10_method_29_code 25 = .ok (.iload 4, 2) := by decide +kernel
theorem dMo_place_27 : decode prog_10_method_29_code 27 = .ok (.ifCond .ne 14, 3) := by decide +kernel
theorem dMo_place_30 : decode prog_10_method_29_code 30 = .ok (.iload_n 3, 1) := by decide +kernel
theorem dMo_place_31 : decode prog_10_method_29_code 31 = .ok (.iload_n 1, 1) := by decide +kernel
theorem dMo_place_32 : decode prog_10_method_29_code 32 = .ok (.if_icmp .ge 9, 3) := by decide +kernel
theorem dMo_place_35 : decode prog_10_method_29_code 35 = .ok (.iload_n 2, 1) := by decide +kernel
theorem dMo_place_36 : decode prog_10_method_29_code 36 = .ok (.iconst 1, 1) := by decide +kernel
theorem dMo_place_37 : decode prog_10_method_29_code 37 = .ok (.iadd, 1) := by decide +kernel
theorem dMo_place_38 : decode prog_10_method_29_code 38 = .ok (.goto 4, 3) := by decide +kernel
theorem dMo_place_41 : decode prog_10_method_29_code 41 = .ok (.iload_n 2, 1) := by decide +kernel
theorem dMo_place_42 : decode prog_10_method_29_code 42 = .ok (.istore_n 2, 1) := by decide +kernel
theorem dMo_place_43 : decode prog_10_method_29_code 43 = .ok (.iinc 3 1, 3) := by decide +kernel
theorem dMo_place_46 : decode prog_10_method_29_code 46 = .ok (.goto (-42), 3) := by decide +kernel
theorem dMo_place_49 : decode prog_10_method_29_code 49 = .ok (.iload_n 2, 1) := by decide +kernel
theorem dMo_place_50 : decode prog_10_method_29_code 50 = .ok (.ireturn, 1) := by decide +kernel
theorem dMo_classify_0 : decode prog_10_method_31_code 0 = .ok (.aload_n 0, 1) := by decide +kernel
theorem dMo_classify_1 : decode prog_10_method_31_code 1 = .ok (.invokevirtual 76, 3) := by decide +kernel
theorem dMo_classify_4 : decode prog_10_method_31_code 4 = .ok (.ifCond .ne 7, 3) := by decide +kernel
theorem dMo_classify_7 : decode prog_10_method_31_code 7 = .ok (.iconst (-1), 1) := by decide +kernel
theorem dMo_classify_8 : decode prog_10_method_31_code 8 = .ok (.goto 8, 3) := by decide +kernel
theorem dMo_classify_11 : decode prog_10_method_31_code 11 = .ok (.aload_n 0, 1) := by decide +kernel
theorem dMo_classify_12 : decode prog_10_method_31_code 12 = .ok (.iconst 0, 1) := by decide +kernel
theorem dMo_classify_13 : decode prog_10_method_31_code 13 = .ok (.invokevirtual 126, 3) := by decide +kernel
theorem dMo_classify_16 : decode prog_10_method_31_code 16 = .ok (.ireturn, 1) := by decide +kernel
