theorem dWE_init_0 : decode prog_1_method_1_code 0 = .ok (.aload_n 0, 1) := by decide +kernel
theorem dWE_init_1 : decode prog_1_method_1_code 1 = .ok (.invokespecial 1, 3) := by decide +kernel
theorem dWE_init_4 : decode prog_1_method_1_code 4 = .ok (.aload_n 0, 1) := by decide +kernel
theorem dWE_init_5 : decode prog_1_method_1_code 5 = .ok (.new 7, 3) := by decide +kernel
theorem dWE_init_8 : decode prog_1_method_1_code 8 = .ok (.dup, 1) := by decide +kernel
theorem dWE_init_9 : decode prog_1_method_1_code 9 = .ok (.invokespecial 9, 3) := by decide +kernel
theorem dWE_init_12 : decode prog_1_method_1_code 12 = .ok (.putfield 10, 3) := by decide +kernel
theorem dWE_init_15 : decode prog_1_method_1_code 15 = .ok (.aload_n 0, 1) := by decide +kernel
theorem dWE_init_16 : decode prog_1_method_1_code 16 = .ok (.new 16, 3) := by decide +kernel
theorem dWE_init_19 : decode prog_1_method_1_code 19 = .ok (.dup, 1) := by decide +kernel
theorem dWE_init_20 : decode prog_1_method_1_code 20 = .ok (.invokespecial 18, 3) := by decide +kernel
theorem dWE_init_23 : decode prog_1_method_1_code 23 = .ok (.putfield 19, 3) := by decide +kernel
theorem dWE_init_26 : decode prog_1_method_1_code 26 = .ok (.aload_n 0, 1) := by decide +kernel
theorem dWE_init_27 : decode prog_1_method_1_code 27 = .ok (.new 16, 3) := by decide +kernel
theorem dWE_init_30 : decode prog_1_method_1_code 30 = .ok (.dup, 1) := by decide +kernel
theorem dWE_init_31 : decode prog_1_method_1_code 31 = .ok (.invokespecial 18, 3) := by decide +kernel
theorem dWE_init_34 : decode prog_1_method_1_code 34 = .ok (.putfield 23, 3) := by decide +kernel
theorem dWE_init_37 : decode prog_1_method_1_code 37 = .ok (.aload_n 0, 1) := by decide +kernel
theorem dWE_init_38 : decode prog_1_method_1_code 38 = .ok (.new 26, 3) := by decide +kernel
theorem dWE_init_41 : decode prog_1_method_1_code 41 = .ok (.dup, 1) := by decide +kernel
theorem dWE_init_42 : decode prog_1_method_1_code 42 = .ok (.invokespecial 28, 3) := by decide +kernel
theorem dWE_init_45 : decode prog_1_method_1_code 45 = .ok (.putfield 29, 3) := by decide +kernel
theorem dWE_init_48 : decode prog_1_method_1_code 48 = .ok (.aload_n 0, 1) := by decide +kernel
theorem dWE_init_49 : decode prog_1_method_1_code 49 = .ok (.new 33, 3) := by decide +kernel
theorem dWE_init_52 : decode prog_1_method_1_code 52 = .ok (.dup, 1) := by decide +kernel
theorem dWE_init_53 : decode prog_1_method_1_code 53 = .ok (.invokespecial 35, 3) := by decide +kernel
theorem dWE_init_56 : decode prog_1_method_1_code 56 = .ok (.putfield 36, 3) := by decide +kernel
theorem dWE_init_59 : decode prog_1_method_1_code 59 = .ok (.aload_n 0, 1) := by decide +kernel
theorem dWE_init_60 : decode prog_1_method_1_code 60 = .ok (.iconst 2, 1) := by decide +kernel
theorem dWE_init_61 : decode prog_1_method_1_code 61 = .ok (.iconst 4, 1) := by decide +kernel
theorem dWE_init_62 : decode prog_1_method_1_code 62 = .ok (.iload_n 1, 1) := by decide +kernel
theorem dWE_init_63 : decode prog_1_method_1_code 63 = .ok (.invokestatic 40, 3) := by decide +kernel
theorem dWE_init_66 : decode prog_1_method_1_code 66 = .ok (.invokestatic 46, 3) := by decide +kernel
theorem dWE_init_69 : decode prog_1_method_1_code 69 = .ok (.putfield 49, 3) := by decide +kernel
theorem dWE_init_72 : decode prog_1_method_1_code 72 = .ok (.return_, 1) := by decide +kernel
theorem dText_init_0 : decode prog_8_method_1_code 0 = .ok (.aload_n 0, 1) := by decide +kernel
theorem dText_init_1 : decode prog_8_method_1_code 1 = .ok (.invokespecial 3, 3) := by decide +kernel
theorem dText_init_4 : decode prog_8_method_1_code 4 = .ok (.aload_n 0, 1) := by decide +kernel
theorem dText_init_5 : decode prog_8_method_1_code 5 = .ok (.bipush 20, 2) := by decide +kernel
theorem dText_init_7 : decode prog_8_method_1_code 7 = .ok (.newarray .long, 2) := by decide +kernel
theorem dText_init_9 : decode prog_8_method_1_code 9 = .ok (.putfield 9, 3) := by decide +kernel
theorem dText_init_12 : decode prog_8_method_1_code 12 = .ok (.aload_n 0, 1) := by decide +kernel
theorem dText_init_13 : decode prog_8_method_1_code 13 = .ok (.iconst 0, 1) := by decide +kernel
theorem dText_init_14 : decode prog_8_method_1_code 14 = .ok (.putfield 15, 3) := by decide +kernel
theorem dText_init_17 : decode prog_8_method_1_code 17 = .ok (.aload_n 0, 1) := by decide +kernel
theorem dText_init_18 : decode prog_8_method_1_code 18 = .ok (.iconst 0, 1) := by decide +kernel
theorem dText_init_19 : decode prog_8_method_1_code 19 = .ok (.putfield 19, 3) := by decide +kernel
theorem dText_init_22 : decode prog_8_method_1_code 22 = .ok (.aload_n 0, 1) := by decide +kernel
theorem dText_init_23 : decode prog_8_method_1_code 23 = .ok (.iconst 0, 1) := by decide +kernel
theorem dText_init_24 : decode prog_8_method_1_code 24 = .ok (.putfield 22, 3) := by decide +kernel
theorem dText_init_27 : decode prog_8_method_1_code 27 = .ok (.return_, 1) := by decide +kernel
theorem dShelf_init_0 : decode prog_7_method_1_code 0 = .ok (.aload_n 0, 1) := by decide +kernel
theorem dShelf_init_1 : decode prog_7_method_1_code 1 = .ok (.invokespecial 3, 3) := by decide +kernel
theorem dShelf_init_4 : decode prog_7_method_1_code 4 = .ok (.aload_n 0, 1) := by decide +kernel
theorem dShelf_init_5 : decode prog_7_method_1_code 5 = .ok (.bipush 32, 2) := by decide +kernel
theorem dShelf_init_7 : decode prog_7_method_1_code 7 = .ok (.anewarray 9, 3) := by decide +kernel
theorem dShelf_init_10 : decode prog_7_method_1_code 10 = .ok (.putfield 11, 3) := by decide +kernel
theorem dShelf_init_13 : decode prog_7_method_1_code 13 = .ok (.aload_n 0, 1) := by decide +kernel
theorem dShelf_init_14 : decode prog_7_method_1_code 14 = .ok (.sipush 200, 3) := by decide +kernel
theorem dShelf_init_17 : decode prog_7_method_1_code 17 = .ok (.newarray .long, 2) := by decide +kernel
theorem dShelf_init_19 : decode prog_7_method_1_code 19 = .ok (.putfield 17, 3) := by decide +kernel
theorem dShelf_init_22 : decode prog_7_method_1_code 22 = .ok (.return_, 1) := by decide +kernel
theorem dLog_init_0 : decode prog_5_method_1_code 0 = .ok (.aload_n 0, 1) := by decide +kernel
theorem dLog_init_1 : decode prog_5_method_1_code 1 = .ok (.invokespecial 3, 3) := by decide +kernel
theorem dLog_init_4 : decode prog_5_method_1_code 4 = .ok (.aload_n 0, 1) := by decide +kernel
theorem dLog_init_5 : decode prog_5_method_1_code 5 = .ok (.bipush 24, 2) := by decide +kernel
theorem dLog_init_7 : decode prog_5_method_1_code 7 = .ok (.newarray .int, 2) := by decide +kernel
theorem dLog_init_9 : decode prog_5_method_1_code 9 = .ok (.putfield 9, 3) := by decide +kernel
theorem dLog_init_12 : decode prog_5_method_1_code 12 = .ok (.aload_n 0, 1) := by decide +kernel
theorem dLog_init_13 : decode prog_5_method_1_code 13 = .ok (.bipush 24, 2) := by decide +kernel
theorem dLog_init_15 : decode prog_5_method_1_code 15 = .ok (.newarray .int, 2) := by decide +kernel
theorem dLog_init_17 : decode prog_5_method_1_code 17 = .ok (.putfield 15, 3) := by decide +kernel
theorem dLog_init_20 : decode prog_5_method_1_code 20 = .ok (.aload_n 0, 1) := by decide +kernel
theorem dLog_init_21 : decode prog_5_method_1_code 21 = .ok (.bipush 24, 2) := by decide +kernel
theorem dLog_init_23 : decode prog_5_method_1_code 23 = .ok (.anewarray 18, 3) := by decide +kernel
theorem dLog_init_26 : decode prog_5_method_1_code 26 = .ok (.putfield 20, 3) := by decide +kernel
theorem dLog_init_29 : decode prog_5_method_1_code 29 = .ok (.aload_n 0, 1) := by decide +kernel
theorem dLog_init_30 : decode prog_5_method_1_code 30 = .ok (.iconst 0, 1) := by decide +kernel
theorem dLog_init_31 : decode prog_5_method_1_code 31 = .ok (.putfield 24, 3) := by decide +kernel
theorem dLog_init_34 : decode prog_5_method_1_code 34 = .ok (.aload_n 0, 1) := by decide +kernel
theorem dLog_init_35 : decode prog_5_method_1_code 35 = .ok (.iconst 0, 1) := by decide +kernel
theorem dLog_init_36 : decode prog_5_method_1_code 36 = .ok (.putfield 28, 3) := by decide +kernel
theorem dLog_init_39 : decode prog_5_method_1_code 39 = .ok (.return_, 1) := by decide +kernel
theorem dChances_init_0 : decode prog_2_method_1_code 0 = .ok (.aload_n 0, 1) := by decide +kernel
theorem dChances_init_1 : decode prog_2_method_1_code 1 = .ok (.invokespecial 3, 3) := by decide +kernel
theorem dChances_init_4 : decode prog_2_method_1_code 4 = .ok (.aload_n 0, 1) := by decide +kernel
theorem dChances_init_5 : decode prog_2_method_1_code 5 = .ok (.iconst 4, 1) := by decide +kernel
theorem dChances_init_6 : decode prog_2_method_1_code 6 = .ok (.newarray .int, 2) := by decide +kernel
theorem dChances_init_8 : decode prog_2_method_1_code 8 = .ok (.putfield 9, 3) := by decide +kernel
theorem dChances_init_11 : decode prog_2_method_1_code 11 = .ok (.aload_n 0, 1) := by decide +kernel
theorem dChances_init_12 : decode prog_2_method_1_code 12 = .ok (.iconst 4, 1) := by decide +kernel
theorem dChances_init_13 : decode prog_2_method_1_code 13 = .ok (.bipush 20, 2) := by decide +kernel
theorem dChances_init_15 : decode prog_2_method_1_code 15 = .ok (.multianewarray 15 2, 4) := by decide +kernel
theorem dChances_init_19 : decode prog_2_method_1_code 19 = .ok (.putfield 17, 3) := by decide +kernel
theorem dChances_init_22 : decode prog_2_method_1_code 22 = .ok (.aload_n 0, 1) := by decide +kernel
theorem dChances_init_23 : decode prog_2_method_1_code 23 = .ok (.iconst 4, 1) := by decide +kernel
theorem dChances_init_24 : decode prog_2_method_1_code 24 = .ok (.newarray .int, 2) := by decide +kernel
theorem dChances_init_26 : decode prog_2_method_1_code 26 = .ok (.putfield 20, 3) := by decide +kernel
theorem dChances_init_29 : decode prog_2_method_1_code 29 = .ok (.aload_n 0, 1) := by decide +kernel
theorem dChances_init_30 : decode prog_2_method_1_code 30 = .ok (.new 23, 3) := by decide +kernel
theorem dChances_init_33 : decode prog_2_method_1_code 33 = .ok (.dup, 1) := by decide +kernel
theorem dChances_init_34 : decode prog_2_method_1_code 34 = .ok (.invokespecial 25, 3) := by decide +kernel
theorem dChances_init_37 : decode prog_2_method_1_code 37 = .ok (.putfield 26, 3) := by decide +kernel
theorem dChances_init_40 : decode prog_2_method_1_code 40 = .ok (.aload_n 0, 1) := by decide +kernel
theorem dChances_init_41 : decode prog_2_method_1_code 41 = .ok (.new 23, 3) := by decide +kernel
theorem dChances_init_44 : decode prog_2_method_1_code 44 = .ok (.dup, 1) := by decide +kernel
theorem dChances_init_45 : decode prog_2_method_1_code 45 = .ok (.invokespecial 25, 3) := by decide +kernel
theorem dChances_init_48 : decode prog_2_method_1_code 48 = .ok (.putfield 30, 3) := by decide +kernel
theorem dChances_init_51 : decode prog_2_method_1_code 51 = .ok (.aload_n 0, 1) := by decide +kernel
theorem dChances_init_52 : decode prog_2_method_1_code 52 = .ok (.iconst 0, 1) := by decide +kernel
theorem dChances_init_53 : decode prog_2_method_1_code 53 = .ok (.putfield 33, 3) := by decide +kernel
theorem dChances_init_56 : decode prog_2_method_1_code 56 = .ok (.aload_n 0, 1) := by decide +kernel
theorem dChances_init_57 : decode prog_2_method_1_code 57 = .ok (.iconst 0, 1) := by decide +kernel
theorem dChances_init_58 : decode prog_2_method_1_code 58 = .ok (.putfield 37, 3) := by decide +kernel
theorem dChances_init_61 : decode prog_2_method_1_code 61 = .ok (.return_, 1) := by decide +kernel
theorem dProduct_init_0 : decode prog_6_method_1_code 0 = .ok (.aload_n 0, 1) := by decide +kernel
theorem dProduct_init_1 : decode prog_6_method_1_code 1 = .ok (.invokespecial 1, 3) := by decide +kernel
theorem dProduct_init_4 : decode prog_6_method_1_code 4 = .ok (.aload_n 0, 1) := by decide +kernel
theorem dProduct_init_5 : decode prog_6_method_1_code 5 = .ok (.bipush 12, 2) := by decide +kernel
theorem dProduct_init_7 : decode prog_6_method_1_code 7 = .ok (.newarray .long, 2) := by decide +kernel
theorem dProduct_init_9 : decode prog_6_method_1_code 9 = .ok (.putfield 9, 3) := by decide +kernel
theorem dProduct_init_12 : decode prog_6_method_1_code 12 = .ok (.return_, 1) := by decide +kernel
theorem dMath_min_0 : decode prog_12_method_69_code 0 = .ok (.iload_n 0, 1) := by decide +kernel
theorem dMath_min_1 : decode prog_12_method_69_code 1 = .ok (.iload_n 1, 1) := by decide +kernel
theorem dMath_min_2 : decode prog_12_method_69_code 2 = .ok (.if_icmp .gt 7, 3) := by decide +kernel
theorem dMath_min_5 : decode prog_12_method_69_code 5 = .ok (.iload_n 0, 1) := by decide +kernel
theorem dMath_min_6 : decode prog_12_method_69_code 6 = .ok (.goto 4, 3) := by decide +kernel
theorem dMath_min_9 : decode prog_12_method_69_code 9 = .ok (.iload_n 1, 1) := by decide +kernel
theorem dMath_min_10 : decode prog_12_method_69_code 10 = .ok (.ireturn, 1) := by decide +kernel
theorem dMath_max_0 : decode prog_12_method_65_code 0 = .ok (.iload_n 0, 1) := by decide +kernel
theorem dMath_max_1 : decode prog_12_method_65_code 1 = .ok (.iload_n 1, 1) := by decide +kernel
theorem dMath_max_2 : decode prog_12_method_65_code 2 = .ok (.if_icmp .lt 7, 3) := by decide +kernel
theorem dMath_max_5 : decode prog_12_method_65_code 5 = .ok (.iload_n 0, 1) := by decide +kernel
theorem dMath_max_6 : decode prog_12_method_65_code 6 = .ok (.goto 4, 3) := by decide +kernel
theorem dMath_max_9 : decode prog_12_method_65_code 9 = .ok (.iload_n 1, 1) := by decide +kernel
theorem dMath_max_10 : decode prog_12_method_65_code 10 = .ok (.ireturn, 1) := by decide +kernel
theorem dWE_key_0 : decode prog_1_method_2_code 0 = .ok (.aload_n 0, 1) := by decide +kernel
theorem dWE_key_1 : decode prog_1_method_2_code 1 = .ok (.getfield 10, 3) := by decide +kernel
theorem dWE_key_4 : decode prog_1_method_2_code 4 = .ok (.iload_n 1, 1) := by decide +kernel
theorem dWE_key_5 : decode prog_1_method_2_code 5 = .ok (.invokevirtual 53, 3) := by decide +kernel
theorem dWE_key_8 : decode prog_1_method_2_code 8 = .ok (.ireturn, 1) := by decide +kernel
theorem dText_append_0 : decode prog_8_method_2_code 0 = .ok (.iload_n 1, 1) := by decide +kernel
theorem dText_append_1 : decode prog_8_method_2_code 1 = .ok (.bipush 32, 2) := by decide +kernel
theorem dText_append_3 : decode prog_8_method_2_code 3 = .ok (.if_icmp .lt 18, 3) := by decide +kernel
theorem dText_append_6 : decode prog_8_method_2_code 6 = .ok (.iload_n 1, 1) := by decide +kernel
theorem dText_append_7 : decode prog_8_method_2_code 7 = .ok (.bipush 126, 2) := by decide +kernel
theorem dText_append_9 : decode prog_8_method_2_code 9 = .ok (.if_icmp .gt 12, 3) := by decide +kernel
theorem dText_append_12 : decode prog_8_method_2_code 12 = .ok (.aload_n 0, 1) := by decide +kernel
theorem dText_append_13 : decode prog_8_method_2_code 13 = .ok (.getfield 19, 3) := by decide +kernel
theorem dText_append_16 : decode prog_8_method_2_code 16 = .ok (.bipush 40, 2) := by decide +kernel
theorem dText_append_18 : decode prog_8_method_2_code 18 = .ok (.if_icmp .lt 5, 3) := by decide +kernel
theorem dText_append_21 : decode prog_8_method_2_code 21 = .ok (.iconst 0, 1) := by decide +kernel
theorem dText_append_22 : decode prog_8_method_2_code 22 = .ok (.ireturn, 1) := by decide +kernel
theorem dText_append_23 : decode prog_8_method_2_code 23 = .ok (.aload_n 0, 1) := by decide +kernel
theorem dText_append_24 : decode prog_8_method_2_code 24 = .ok (.dup, 1) := by decide +kernel
theorem dText_append_25 : decode prog_8_method_2_code 25 = .ok (.getfield 19, 3) := by decide +kernel
theorem dText_append_28 : decode prog_8_method_2_code 28 = .ok (.iconst 1, 1) := by decide +kernel
theorem dText_append_29 : decode prog_8_method_2_code 29 = .ok (.iadd, 1) := by decide +kernel
theorem dText_append_30 : decode prog_8_method_2_code 30 = .ok (.putfield 19, 3) := by decide +kernel
theorem dText_append_33 : decode prog_8_method_2_code 33 = .ok (.iload_n 1, 1) := by decide +kernel
theorem dText_append_34 : decode prog_8_method_2_code 34 = .ok (.invokestatic 25, 3) := by decide +kernel
theorem dText_append_37 : decode prog_8_method_2_code 37 = .ok (.istore_n 2, 1) := by decide +kernel
theorem dText_append_38 : decode prog_8_method_2_code 38 = .ok (.iload_n 2, 1) := by decide +kernel
theorem dText_append_39 : decode prog_8_method_2_code 39 = .ok (.iconst (-1), 1) := by decide +kernel
theorem dText_append_40 : decode prog_8_method_2_code 40 = .ok (.if_icmp .ne 11, 3) := by decide +kernel
theorem dText_append_43 : decode prog_8_method_2_code 43 = .ok (.aload_n 0, 1) := by decide +kernel
theorem dText_append_44 : decode prog_8_method_2_code 44 = .ok (.iconst 0, 1) := by decide +kernel
theorem dText_append_45 : decode prog_8_method_2_code 45 = .ok (.putfield 22, 3) := by decide +kernel
theorem dText_append_48 : decode prog_8_method_2_code 48 = .ok (.goto 8, 3) := by decide +kernel
theorem dText_append_51 : decode prog_8_method_2_code 51 = .ok (.aload_n 0, 1) := by decide +kernel
theorem dText_append_52 : decode prog_8_method_2_code 52 = .ok (.iload_n 2, 1) := by decide +kernel
theorem dText_append_53 : decode prog_8_method_2_code 53 = .ok (.invokevirtual 31, 3) := by decide +kernel
theorem dText_append_56 : decode prog_8_method_2_code 56 = .ok (.iconst 1, 1) := by decide +kernel
theorem dText_append_57 : decode prog_8_method_2_code 57 = .ok (.ireturn, 1) := by decide +kernel
theorem dLetters_fold_0 : decode prog_4_method_2_code 0 = .ok (.iload_n 0, 1) := by decide +kernel
theorem dLetters_fold_1 : decode prog_4_method_2_code 1 = .ok (.bipush 65, 2) := by decide +kernel
theorem dLetters_fold_3 : decode prog_4_method_2_code 3 = .ok (.if_icmp .lt 17, 3) := by decide +kernel
theorem dLetters_fold_6 : decode prog_4_method_2_code 6 = .ok (.iload_n 0, 1) := by decide +kernel
theorem dLetters_fold_7 : decode prog_4_method_2_code 7 = .ok (.bipush 90, 2) := by decide +kernel
theorem dLetters_fold_9 : decode prog_4_method_2_code 9 = .ok (.if_icmp .gt 11, 3) := by decide +kernel
theorem dLetters_fold_12 : decode prog_4_method_2_code 12 = .ok (.iload_n 0, 1) := by decide +kernel
theorem dLetters_fold_13 : decode prog_4_method_2_code 13 = .ok (.bipush 65, 2) := by decide +kernel
theorem dLetters_fold_15 : decode prog_4_method_2_code 15 = .ok (.isub, 1) := by decide +kernel
theorem dLetters_fold_16 : decode prog_4_method_2_code 16 = .ok (.bipush 97, 2) := by decide +kernel
theorem dLetters_fold_18 : decode prog_4_method_2_code 18 = .ok (.iadd, 1) := by decide +kernel
theorem dLetters_fold_19 : decode prog_4_method_2_code 19 = .ok (.ireturn, 1) := by decide +kernel
theorem dLetters_fold_20 : decode prog_4_method_2_code 20 = .ok (.iload_n 0, 1) := by decide +kernel
theorem dLetters_fold_21 : decode prog_4_method_2_code 21 = .ok (.bipush 97, 2) := by decide +kernel
theorem dLetters_fold_23 : decode prog_4_method_2_code 23 = .ok (.if_icmp .lt 9, 3) := by decide +kernel
theorem dLetters_fold_26 : decode prog_4_method_2_code 26 = .ok (.iload_n 0, 1) := by decide +kernel
theorem dLetters_fold_27 : decode prog_4_method_2_code 27 = .ok (.bipush 122, 2) := by decide +kernel
theorem dLetters_fold_29 : decode prog_4_method_2_code 29 = .ok (.if_icmp .le 15, 3) := by decide +kernel
theorem dLetters_fold_32 : decode prog_4_method_2_code 32 = .ok (.iload_n 0, 1) := by decide +kernel
theorem dLetters_fold_33 : decode prog_4_method_2_code 33 = .ok (.bipush 48, 2) := by decide +kernel
theorem dLetters_fold_35 : decode prog_4_method_2_code 35 = .ok (.if_icmp .lt 13, 3) := by decide +kernel
theorem dLetters_fold_38 : decode prog_4_method_2_code 38 = .ok (.iload_n 0, 1) := by decide +kernel
theorem dLetters_fold_39 : decode prog_4_method_2_code 39 = .ok (.bipush 57, 2) := by decide +kernel
theorem dLetters_fold_41 : decode prog_4_method_2_code 41 = .ok (.if_icmp .gt 7, 3) := by decide +kernel
theorem dLetters_fold_44 : decode prog_4_method_2_code 44 = .ok (.iconst 1, 1) := by decide +kernel
theorem dLetters_fold_45 : decode prog_4_method_2_code 45 = .ok (.goto 4, 3) := by decide +kernel
theorem dLetters_fold_48 : decode prog_4_method_2_code 48 = .ok (.iconst 0, 1) := by decide +kernel
theorem dLetters_fold_49 : decode prog_4_method_2_code 49 = .ok (.istore_n 1, 1) := by decide +kernel
theorem dLetters_fold_50 : decode prog_4_method_2_code 50 = .ok (.iload_n 1, 1) := by decide +kernel
theorem dLetters_fold_51 : decode prog_4_method_2_code 51 = .ok (.ifCond .eq 7, 3) := by decide +kernel
theorem dLetters_fold_54 : decode prog_4_method_2_code 54 = .ok (.iload_n 0, 1) := by decide +kernel
theorem dLetters_fold_55 : decode prog_4_method_2_code 55 = .ok (.goto 4, 3) := by decide +kernel
theorem dLetters_fold_58 : decode prog_4_method_2_code 58 = .ok (.iconst (-1), 1) := by decide +kernel
theorem dLetters_fold_59 : decode prog_4_method_2_code 59 = .ok (.ireturn, 1) := by decide +kernel
theorem dText_lengthenRun_0 : decode prog_8_method_3_code 0 = .ok (.aload_n 0, 1) := by decide +kernel
theorem dText_lengthenRun_1 : decode prog_8_method_3_code 1 = .ok (.getfield 22, 3) := by decide +kernel
theorem dText_lengthenRun_4 : decode prog_8_method_3_code 4 = .ok (.ifCond .ne 32, 3) := by decide +kernel
theorem dText_lengthenRun_7 : decode prog_8_method_3_code 7 = .ok (.aload_n 0, 1) := by decide +kernel
theorem dText_lengthenRun_8 : decode prog_8_method_3_code 8 = .ok (.getfield 15, 3) := by decide +kernel
theorem dText_lengthenRun_11 : decode prog_8_method_3_code 11 = .ok (.bipush 20, 2) := by decide +kernel
theorem dText_lengthenRun_13 : decode prog_8_method_3_code 13 = .ok (.if_icmp .ge 23, 3) := by decide +kernel
theorem dText_lengthenRun_16 : decode prog_8_method_3_code 16 = .ok (.aload_n 0, 1) := by decide +kernel
theorem dText_lengthenRun_17 : decode prog_8_method_3_code 17 = .ok (.getfield 9, 3) := by decide +kernel
theorem dText_lengthenRun_20 : decode prog_8_method_3_code 20 = .ok (.aload_n 0, 1) := by decide +kernel
theorem dText_lengthenRun_21 : decode prog_8_method_3_code 21 = .ok (.getfield 15, 3) := by decide +kernel
theorem dText_lengthenRun_24 : decode prog_8_method_3_code 24 = .ok (.lconst 0, 1) := by decide +kernel
theorem dText_lengthenRun_25 : decode prog_8_method_3_code 25 = .ok (.lastore, 1) := by decide +kernel
theorem dText_lengthenRun_26 : decode prog_8_method_3_code 26 = .ok (.aload_n 0, 1) := by decide +kernel
theorem dText_lengthenRun_27 : decode prog_8_method_3_code 27 = .ok (.dup, 1) := by decide +kernel
theorem dText_lengthenRun_28 : decode prog_8_method_3_code 28 = .ok (.getfield 15, 3) := by decide +kernel
theorem dText_lengthenRun_31 : decode prog_8_method_3_code 31 = .ok (.iconst 1, 1) := by decide +kernel
theorem dText_lengthenRun_32 : decode prog_8_method_3_code 32 = .ok (.iadd, 1) := by decide +kernel
theorem dText_lengthenRun_33 : decode prog_8_method_3_code 33 = .ok (.putfield 15, 3) := by decide +kernel
theorem dText_lengthenRun_36 : decode prog_8_method_3_code 36 = .ok (.aload_n 0, 1) := by decide +kernel
theorem dText_lengthenRun_37 : decode prog_8_method_3_code 37 = .ok (.getfield 22, 3) := by decide +kernel
theorem dText_lengthenRun_40 : decode prog_8_method_3_code 40 = .ok (.bipush 8, 2) := by decide +kernel
theorem dText_lengthenRun_42 : decode prog_8_method_3_code 42 = .ok (.if_icmp .ge 37, 3) := by decide +kernel
theorem dText_lengthenRun_45 : decode prog_8_method_3_code 45 = .ok (.aload_n 0, 1) := by decide +kernel
theorem dText_lengthenRun_46 : decode prog_8_method_3_code 46 = .ok (.getfield 15, 3) := by decide +kernel
theorem dText_lengthenRun_49 : decode prog_8_method_3_code 49 = .ok (.ifCond .le 30, 3) := by decide +kernel
theorem dText_lengthenRun_52 : decode prog_8_method_3_code 52 = .ok (.aload_n 0, 1) := by decide +kernel
theorem dText_lengthenRun_53 : decode prog_8_method_3_code 53 = .ok (.getfield 15, 3) := by decide +kernel
theorem dText_lengthenRun_56 : decode prog_8_method_3_code 56 = .ok (.iconst 1, 1) := by decide +kernel
theorem dText_lengthenRun_57 : decode prog_8_method_3_code 57 = .ok (.isub, 1) := by decide +kernel
theorem dText_lengthenRun_58 : decode prog_8_method_3_code 58 = .ok (.istore_n 2, 1) := by decide +kernel
theorem dText_lengthenRun_59 : decode prog_8_method_3_code 59 = .ok (.aload_n 0, 1) := by decide +kernel
theorem dText_lengthenRun_60 : decode prog_8_method_3_code 60 = .ok (.getfield 9, 3) := by decide +kernel
theorem dText_lengthenRun_63 : decode prog_8_method_3_code 63 = .ok (.iload_n 2, 1) := by decide +kernel
theorem dText_lengthenRun_64 : decode prog_8_method_3_code 64 = .ok (.aload_n 0, 1) := by decide +kernel
theorem dText_lengthenRun_65 : decode prog_8_method_3_code 65 = .ok (.getfield 9, 3) := by decide +kernel
theorem dText_lengthenRun_68 : decode prog_8_method_3_code 68 = .ok (.iload_n 2, 1) := by decide +kernel
theorem dText_lengthenRun_69 : decode prog_8_method_3_code 69 = .ok (.laload, 1) := by decide +kernel
theorem dText_lengthenRun_70 : decode prog_8_method_3_code 70 = .ok (.aload_n 0, 1) := by decide +kernel
theorem dText_lengthenRun_71 : decode prog_8_method_3_code 71 = .ok (.getfield 22, 3) := by decide +kernel
theorem dText_lengthenRun_74 : decode prog_8_method_3_code 74 = .ok (.iload_n 1, 1) := by decide +kernel
theorem dText_lengthenRun_75 : decode prog_8_method_3_code 75 = .ok (.invokestatic 35, 3) := by decide +kernel
theorem dText_lengthenRun_78 : decode prog_8_method_3_code 78 = .ok (.lastore, 1) := by decide +kernel
theorem dText_lengthenRun_79 : decode prog_8_method_3_code 79 = .ok (.aload_n 0, 1) := by decide +kernel
theorem dText_lengthenRun_80 : decode prog_8_method_3_code 80 = .ok (.dup, 1) := by decide +kernel
theorem dText_lengthenRun_81 : decode prog_8_method_3_code 81 = .ok (.getfield 22, 3) := by decide +kernel
theorem dText_lengthenRun_84 : decode prog_8_method_3_code 84 = .ok (.iconst 1, 1) := by decide +kernel
theorem dText_lengthenRun_85 : decode prog_8_method_3_code 85 = .ok (.iadd, 1) := by decide +kernel
theorem dText_lengthenRun_86 : decode prog_8_method_3_code 86 = .ok (.putfield 22, 3) := by decide +kernel
theorem dText_lengthenRun_89 : decode prog_8_method_3_code 89 = .ok (.return_, 1) := by decide +kernel
theorem dLetters_with_0 : decode prog_4_method_3_code 0 = .ok (.lload_n 0, 1) := by decide +kernel
theorem dLetters_with_1 : decode prog_4_method_3_code 1 = .ok (.iload_n 3, 1) := by decide +kernel
theorem dLetters_with_2 : decode prog_4_method_3_code 2 = .ok (.i2l, 1) := by decide +kernel
theorem dLetters_with_3 : decode prog_4_method_3_code 3 = .ok (.bipush 8, 2) := by decide +kernel
theorem dLetters_with_5 : decode prog_4_method_3_code 5 = .ok (.iload_n 2, 1) := by decide +kernel
theorem dLetters_with_6 : decode prog_4_method_3_code 6 = .ok (.imul, 1) := by decide +kernel
theorem dLetters_with_7 : decode prog_4_method_3_code 7 = .ok (.lshl, 1) := by decide +kernel
theorem dLetters_with_8 : decode prog_4_method_3_code 8 = .ok (.lor, 1) := by decide +kernel
theorem dLetters_with_9 : decode prog_4_method_3_code 9 = .ok (.lreturn, 1) := by decide +kernel
theorem dWE_clear_0 : decode prog_1_method_3_code 0 = .ok (.aload_n 0, 1) := by decide +kernel
theorem dWE_clear_1 : decode prog_1_method_3_code 1 = .ok (.getfield 10, 3) := by decide +kernel
theorem dWE_clear_4 : decode prog_1_method_3_code 4 = .ok (.invokevirtual 57, 3) := by decide +kernel
theorem dWE_clear_7 : decode prog_1_method_3_code 7 = .ok (.ireturn, 1) := by decide +kernel
theorem dText_empty_0 : decode prog_8_method_4_code 0 = .ok (.aload_n 0, 1) := by decide +kernel
theorem dText_empty_1 : decode prog_8_method_4_code 1 = .ok (.getfield 19, 3) := by decide +kernel
theorem dText_empty_4 : decode prog_8_method_4_code 4 = .ok (.istore_n 1, 1) := by decide +kernel
theorem dText_empty_5 : decode prog_8_method_4_code 5 = .ok (.aload_n 0, 1) := by decide +kernel
theorem dText_empty_6 : decode prog_8_method_4_code 6 = .ok (.iconst 0, 1) := by decide +kernel
theorem dText_empty_7 : decode prog_8_method_4_code 7 = .ok (.putfield 19, 3) := by decide +kernel
theorem dText_empty_10 : decode prog_8_method_4_code 10 = .ok (.aload_n 0, 1) := by decide +kernel
theorem dText_empty_11 : decode prog_8_method_4_code 11 = .ok (.iconst 0, 1) := by decide +kernel
theorem dText_empty_12 : decode prog_8_method_4_code 12 = .ok (.putfield 22, 3) := by decide +kernel
theorem dText_empty_15 : decode prog_8_method_4_code 15 = .ok (.aload_n 0, 1) := by decide +kernel
theorem dText_empty_16 : decode prog_8_method_4_code 16 = .ok (.iconst 0, 1) := by decide +kernel
theorem dText_empty_17 : decode prog_8_method_4_code 17 = .ok (.putfield 15, 3) := by decide +kernel
theorem dText_empty_20 : decode prog_8_method_4_code 20 = .ok (.iload_n 1, 1) := by decide +kernel
theorem dText_empty_21 : decode prog_8_method_4_code 21 = .ok (.ireturn, 1) := by decide +kernel
theorem dWE_words_0 : decode prog_1_method_4_code 0 = .ok (.aload_n 0, 1) := by decide +kernel
theorem dWE_words_1 : decode prog_1_method_4_code 1 = .ok (.getfield 10, 3) := by decide +kernel
theorem dWE_words_4 : decode prog_1_method_4_code 4 = .ok (.getfield 61, 3) := by decide +kernel
theorem dWE_words_7 : decode prog_1_method_4_code 7 = .ok (.ireturn, 1) := by decide +kernel
theorem dWE_letter_0 : decode prog_1_method_5_code 0 = .ok (.aload_n 0, 1) := by decide +kernel
theorem dWE_letter_1 : decode prog_1_method_5_code 1 = .ok (.getfield 10, 3) := by decide +kernel
theorem dWE_letter_4 : decode prog_1_method_5_code 4 = .ok (.iload_n 1, 1) := by decide +kernel
theorem dWE_letter_5 : decode prog_1_method_5_code 5 = .ok (.invokevirtual 64, 3) := by decide +kernel
theorem dWE_letter_8 : decode prog_1_method_5_code 8 = .ok (.ifCond .ne 5, 3) := by decide +kernel
theorem dWE_letter_11 : decode prog_1_method_5_code 11 = .ok (.iconst (-1), 1) := by decide +kernel
theorem dWE_letter_12 : decode prog_1_method_5_code 12 = .ok (.ireturn, 1) := by decide +kernel
theorem dWE_letter_13 : decode prog_1_method_5_code 13 = .ok (.aload_n 0, 1) := by decide +kernel
theorem dWE_letter_14 : decode prog_1_method_5_code 14 = .ok (.getfield 10, 3) := by decide +kernel
theorem dWE_letter_17 : decode prog_1_method_5_code 17 = .ok (.getfield 68, 3) := by decide +kernel
theorem dWE_letter_20 : decode prog_1_method_5_code 20 = .ok (.iload_n 1, 1) := by decide +kernel
theorem dWE_letter_21 : decode prog_1_method_5_code 21 = .ok (.laload, 1) := by decide +kernel
theorem dWE_letter_22 : decode prog_1_method_5_code 22 = .ok (.iload_n 2, 1) := by decide +kernel
theorem dWE_letter_23 : decode prog_1_method_5_code 23 = .ok (.invokestatic 72, 3) := by decide +kernel
theorem dWE_letter_26 : decode prog_1_method_5_code 26 = .ok (.ireturn, 1) := by decide +kernel
theorem dText_hasWord_0 : decode prog_8_method_5_code 0 = .ok (.iload_n 1, 1) := by decide +kernel
theorem dText_hasWord_1 : decode prog_8_method_5_code 1 = .ok (.ifCond .lt 15, 3) := by decide +kernel
theorem dText_hasWord_4 : decode prog_8_method_5_code 4 = .ok (.iload_n 1, 1) := by decide +kernel
theorem dText_hasWord_5 : decode prog_8_method_5_code 5 = .ok (.aload_n 0, 1) := by decide +kernel
theorem dText_hasWord_6 : decode prog_8_method_5_code 6 = .ok (.getfield 15, 3) := by decide +kernel
theorem dText_hasWord_9 : decode prog_8_method_5_code 9 = .ok (.if_icmp .ge 7, 3) := by decide +kernel
theorem dText_hasWord_12 : decode prog_8_method_5_code 12 = .ok (.iconst 1, 1) := by decide +kernel
theorem dText_hasWord_13 : decode prog_8_method_5_code 13 = .ok (.goto 4, 3) := by decide +kernel
theorem dText_hasWord_16 : decode prog_8_method_5_code 16 = .ok (.iconst 0, 1) := by decide +kernel
theorem dText_hasWord_17 : decode prog_8_method_5_code 17 = .ok (.ireturn, 1) := by decide +kernel
theorem dLetters_at_0 : decode prog_4_method_4_code 0 = .ok (.iload_n 2, 1) := by decide +kernel
theorem dLetters_at_1 : decode prog_4_method_4_code 1 = .ok (.ifCond .lt 9, 3) := by decide +kernel
theorem dLetters_at_4 : decode prog_4_method_4_code 4 = .ok (.iload_n 2, 1) := by decide +kernel
theorem dLetters_at_5 : decode prog_4_method_4_code 5 = .ok (.bipush 8, 2) := by decide +kernel
theorem dLetters_at_7 : decode prog_4_method_4_code 7 = .ok (.if_icmp .lt 5, 3) := by decide +kernel
theorem dLetters_at_10 : decode prog_4_method_4_code 10 = .ok (.iconst (-1), 1) := by decide +kernel
theorem dLetters_at_11 : decode prog_4_method_4_code 11 = .ok (.ireturn, 1) := by decide +kernel
theorem dLetters_at_12 : decode prog_4_method_4_code 12 = .ok (.lload_n 0, 1) := by decide +kernel
theorem dLetters_at_13 : decode prog_4_method_4_code 13 = .ok (.bipush 8, 2) := by decide +kernel
theorem dLetters_at_15 : decode prog_4_method_4_code 15 = .ok (.iload_n 2, 1) := by decide +kernel
theorem dLetters_at_16 : decode prog_4_method_4_code 16 = .ok (.imul, 1) := by decide +kernel
theorem dLetters_at_17 : decode prog_4_method_4_code 17 = .ok (.lushr, 1) := by decide +kernel
theorem dLetters_at_18 : decode prog_4_method_4_code 18 = .ok (.l2i, 1) := by decide +kernel
theorem dLetters_at_19 : decode prog_4_method_4_code 19 = .ok (.sipush 255, 3) := by decide +kernel
theorem dLetters_at_22 : decode prog_4_method_4_code 22 = .ok (.iand, 1) := by decide +kernel
theorem dLetters_at_23 : decode prog_4_method_4_code 23 = .ok (.istore_n 3, 1) := by decide +kernel
theorem dLetters_at_24 : decode prog_4_method_4_code 24 = .ok (.iload_n 3, 1) := by decide +kernel
theorem dLetters_at_25 : decode prog_4_method_4_code 25 = .ok (.ifCond .ne 7, 3) := by decide +kernel
theorem dLetters_at_28 : decode prog_4_method_4_code 28 = .ok (.iconst (-1), 1) := by decide +kernel
theorem dLetters_at_29 : decode prog_4_method_4_code 29 = .ok (.goto 4, 3) := by decide +kernel
theorem dLetters_at_32 : decode prog_4_method_4_code 32 = .ok (.iload_n 3, 1) := by decide +kernel
theorem dLetters_at_33 : decode prog_4_method_4_code 33 = .ok (.ireturn, 1) := by decide +kernel
theorem dWE_train_0 : decode prog_1_method_6_code 0 = .ok (.iload_n 1, 1) := by decide +kernel
theorem dWE_train_1 : decode prog_1_method_6_code 1 = .ok (.invokestatic 78, 3) := by decide +kernel
theorem dWE_train_4 : decode prog_1_method_6_code 4 = .ok (.ifCond .eq 11, 3) := by decide +kernel
theorem dWE_train_7 : decode prog_1_method_6_code 7 = .ok (.aload_n 0, 1) := by decide +kernel
theorem dWE_train_8 : decode prog_1_method_6_code 8 = .ok (.iload_n 2, 1) := by decide +kernel
theorem dWE_train_9 : decode prog_1_method_6_code 9 = .ok (.invokevirtual 81, 3) := by decide +kernel
theorem dWE_train_12 : decode prog_1_method_6_code 12 = .ok (.ifCond .ne 5, 3) := by decide +kernel
theorem dWE_train_15 : decode prog_1_method_6_code 15 = .ok (.iconst (-1), 1) := by decide +kernel
theorem dWE_train_16 : decode prog_1_method_6_code 16 = .ok (.ireturn, 1) := by decide +kernel
theorem dWE_train_17 : decode prog_1_method_6_code 17 = .ok (.aload_n 0, 1) := by decide +kernel
theorem dWE_train_18 : decode prog_1_method_6_code 18 = .ok (.getfield 19, 3) := by decide +kernel
theorem dWE_train_21 : decode prog_1_method_6_code 21 = .ok (.iload_n 1, 1) := by decide +kernel
theorem dWE_train_22 : decode prog_1_method_6_code 22 = .ok (.invokevirtual 84, 3) := by decide +kernel
theorem dWE_train_25 : decode prog_1_method_6_code 25 = .ok (.ifnull 6, 3) := by decide +kernel
theorem dWE_train_28 : decode prog_1_method_6_code 28 = .ok (.bipush (-2), 2) := by decide +kernel
theorem dWE_train_30 : decode prog_1_method_6_code 30 = .ok (.ireturn, 1) := by decide +kernel
theorem dWE_train_31 : decode prog_1_method_6_code 31 = .ok (.aload_n 0, 1) := by decide +kernel
theorem dWE_train_32 : decode prog_1_method_6_code 32 = .ok (.getfield 19, 3) := by decide +kernel
theorem dWE_train_35 : decode prog_1_method_6_code 35 = .ok (.invokevirtual 88, 3) := by decide +kernel
theorem dWE_train_38 : decode prog_1_method_6_code 38 = .ok (.bipush 10, 2) := by decide +kernel
theorem dWE_train_40 : decode prog_1_method_6_code 40 = .ok (.if_icmp .lt 6, 3) := by decide +kernel
theorem dWE_train_43 : decode prog_1_method_6_code 43 = .ok (.bipush (-4), 2) := by decide +kernel
theorem dWE_train_45 : decode prog_1_method_6_code 45 = .ok (.ireturn, 1) := by decide +kernel
theorem dWE_train_46 : decode prog_1_method_6_code 46 = .ok (.aload_n 0, 1) := by decide +kernel
theorem dWE_train_47 : decode prog_1_method_6_code 47 = .ok (.getfield 10, 3) := by decide +kernel
theorem dWE_train_50 : decode prog_1_method_6_code 50 = .ok (.getfield 61, 3) := by decide +kernel
theorem dWE_train_53 : decode prog_1_method_6_code 53 = .ok (.invokestatic 91, 3) := by decide +kernel
theorem dWE_train_56 : decode prog_1_method_6_code 56 = .ok (.istore_n 3, 1) := by decide +kernel
theorem dWE_train_57 : decode prog_1_method_6_code 57 = .ok (.aload_n 0, 1) := by decide +kernel
theorem dWE_train_58 : decode prog_1_method_6_code 58 = .ok (.getfield 29, 3) := by decide +kernel
theorem dWE_train_61 : decode prog_1_method_6_code 61 = .ok (.iload_n 3, 1) := by decide +kernel
theorem dWE_train_62 : decode prog_1_method_6_code 62 = .ok (.invokevirtual 95, 3) := by decide +kernel
theorem dWE_train_65 : decode prog_1_method_6_code 65 = .ok (.ifCond .ne 6, 3) := by decide +kernel
theorem dWE_train_68 : decode prog_1_method_6_code 68 = .ok (.bipush (-5), 2) := by decide +kernel
theorem dWE_train_70 : decode prog_1_method_6_code 70 = .ok (.ireturn, 1) := by decide +kernel
theorem dWE_train_71 : decode prog_1_method_6_code 71 = .ok (.aload_n 0, 1) := by decide +kernel
theorem dWE_train_72 : decode prog_1_method_6_code 72 = .ok (.iload_n 1, 1) := by decide +kernel
theorem dWE_train_73 : decode prog_1_method_6_code 73 = .ok (.new 98, 3) := by decide +kernel
theorem dWE_train_76 : decode prog_1_method_6_code 76 = .ok (.dup, 1) := by decide +kernel
theorem dWE_train_77 : decode prog_1_method_6_code 77 = .ok (.iload_n 2, 1) := by decide +kernel
theorem dWE_train_78 : decode prog_1_method_6_code 78 = .ok (.aload_n 0, 1) := by decide +kernel
theorem dWE_train_79 : decode prog_1_method_6_code 79 = .ok (.getfield 10, 3) := by decide +kernel
theorem dWE_train_82 : decode prog_1_method_6_code 82 = .ok (.invokevirtual 100, 3) := by decide +kernel
theorem dWE_train_85 : decode prog_1_method_6_code 85 = .ok (.invokespecial 104, 3) := by decide +kernel
theorem dWE_train_88 : decode prog_1_method_6_code 88 = .ok (.iload_n 3, 1) := by decide +kernel
theorem dWE_train_89 : decode prog_1_method_6_code 89 = .ok (.invokevirtual 107, 3) := by decide +kernel
theorem dWE_train_92 : decode prog_1_method_6_code 92 = .ok (.iload_n 3, 1) := by decide +kernel
theorem dWE_train_93 : decode prog_1_method_6_code 93 = .ok (.ireturn, 1) := by decide +kernel
theorem dWE_isId_0 : decode prog_1_method_20_code 0 = .ok (.iload_n 0, 1) := by decide +kernel
theorem dWE_isId_1 : decode prog_1_method_20_code 1 = .ok (.ifCond .lt 13, 3) := by decide +kernel
theorem dWE_isId_4 : decode prog_1_method_20_code 4 = .ok (.iload_n 0, 1) := by decide +kernel
theorem dWE_isId_5 : decode prog_1_method_20_code 5 = .ok (.bipush 32, 2) := by decide +kernel
theorem dWE_isId_7 : decode prog_1_method_20_code 7 = .ok (.if_icmp .ge 7, 3) := by decide +kernel
theorem dWE_isId_10 : decode prog_1_method_20_code 10 = .ok (.iconst 1, 1) := by decide +kernel
theorem dWE_isId_11 : decode prog_1_method_20_code 11 = .ok (.goto 4, 3) := by decide +kernel
theorem dWE_isId_14 : decode prog_1_method_20_code 14 = .ok (.iconst 0, 1) := by decide +kernel
theorem dWE_isId_15 : decode prog_1_method_20_code 15 = .ok (.ireturn, 1) := by decide +kernel
theorem dWE_isClass_0 : decode prog_1_method_19_code 0 = .ok (.iload_n 1, 1) := by decide +kernel
theorem dWE_isClass_1 : decode prog_1_method_19_code 1 = .ok (.ifCond .lt 15, 3) := by decide +kernel
theorem dWE_isClass_4 : decode prog_1_method_19_code 4 = .ok (.iload_n 1, 1) := by decide +kernel
theorem dWE_isClass_5 : decode prog_1_method_19_code 5 = .ok (.aload_n 0, 1) := by decide +kernel
theorem dWE_isClass_6 : decode prog_1_method_19_code 6 = .ok (.getfield 49, 3) := by decide +kernel
theorem dWE_isClass_9 : decode prog_1_method_19_code 9 = .ok (.if_icmp .ge 7, 3) := by decide +kernel
theorem dWE_isClass_12 : decode prog_1_method_19_code 12 = .ok (.iconst 1, 1) := by decide +kernel
theorem dWE_isClass_13 : decode prog_1_method_19_code 13 = .ok (.goto 4, 3) := by decide +kernel
theorem dWE_isClass_16 : decode prog_1_method_19_code 16 = .ok (.iconst 0, 1) := by decide +kernel
theorem dWE_isClass_17 : decode prog_1_method_19_code 17 = .ok (.ireturn, 1) := by decide +kernel
theorem dShelf_find_0 : decode prog_7_method_2_code 0 = .ok (.iload_n 1, 1) := by decide +kernel
theorem dShelf_find_1 : decode prog_7_method_2_code 1 = .ok (.invokestatic 21, 3) := by decide +kernel
theorem dShelf_find_4 : decode prog_7_method_2_code 4 = .ok (.ifCond .eq 12, 3) := by decide +kernel
theorem dShelf_find_7 : decode prog_7_method_2_code 7 = .ok (.aload_n 0, 1) := by decide +kernel
theorem dShelf_find_8 : decode prog_7_method_2_code 8 = .ok (.getfield 11, 3) := by decide +kernel
theorem dShelf_find_11 : decode prog_7_method_2_code 11 = .ok (.iload_n 1, 1) := by decide +kernel
theorem dShelf_find_12 : decode prog_7_method_2_code 12 = .ok (.aaload, 1) := by decide +kernel
theorem dShelf_find_13 : decode prog_7_method_2_code 13 = .ok (.goto 4, 3) := by decide +kernel
theorem dShelf_find_16 : decode prog_7_method_2_code 16 = .ok (.aconst_null, 1) := by decide +kernel
theorem dShelf_find_17 : decode prog_7_method_2_code 17 = .ok (.areturn, 1) := by decide +kernel
theorem dShelf_size_0 : decode prog_7_method_5_code 0 = .ok (.iconst 0, 1) := by decide +kernel
theorem dShelf_size_1 : decode prog_7_method_5_code 1 = .ok (.istore_n 1, 1) := by decide +kernel
theorem dShelf_size_2 : decode prog_7_method_5_code 2 = .ok (.aload_n 0, 1) := by decide +kernel
theorem dShelf_size_3 : decode prog_7_method_5_code 3 = .ok (.getfield 11, 3) := by decide +kernel
theorem dShelf_size_6 : decode prog_7_method_5_code 6 = .ok (.astore_n 2, 1) := by decide +kernel
theorem dShelf_size_7 : decode prog_7_method_5_code 7 = .ok (.aload_n 2, 1) := by decide +kernel
theorem dShelf_size_8 : decode prog_7_method_5_code 8 = .ok (.arraylength, 1) := by decide +kernel
theorem dShelf_size_9 : decode prog_7_method_5_code 9 = .ok (.istore_n 3, 1) := by decide +kernel
theorem dShelf_size_10 : decode prog_7_method_5_code 10 = .ok (.iconst 0, 1) := by decide +kernel
theorem dShelf_size_11 : decode prog_7_method_5_code 11 = .ok (.istore 4, 2) := by decide +kernel
theorem dShelf_size_13 : decode prog_7_method_5_code 13 = .ok (.iload 4, 2) := by decide +kernel
theorem dShelf_size_15 : decode prog_7_method_5_code 15 = .ok (.iload_n 3, 1) := by decide +kernel
theorem dShelf_size_16 : decode prog_7_method_5_code 16 = .ok (.if_icmp .ge 23, 3) := by decide +kernel
theorem dShelf_size_19 : decode prog_7_method_5_code 19 = .ok (.aload_n 2, 1) := by decide +kernel
theorem dShelf_size_20 : decode prog_7_method_5_code 20 = .ok (.iload 4, 2) := by decide +kernel
theorem dShelf_size_22 : decode prog_7_method_5_code 22 = .ok (.aaload, 1) := by decide +kernel
theorem dShelf_size_23 : decode prog_7_method_5_code 23 = .ok (.astore 5, 2) := by decide +kernel
theorem dShelf_size_25 : decode prog_7_method_5_code 25 = .ok (.aload 5, 2) := by decide +kernel
theorem dShelf_size_27 : decode prog_7_method_5_code 27 = .ok (.ifnull 6, 3) := by decide +kernel
theorem dShelf_size_30 : decode prog_7_method_5_code 30 = .ok (.iinc 1 1, 3) := by decide +kernel
theorem dShelf_size_33 : decode prog_7_method_5_code 33 = .ok (.iinc 4 1, 3) := by decide +kernel
theorem dShelf_size_36 : decode prog_7_method_5_code 36 = .ok (.goto (-23), 3) := by decide +kernel
theorem dShelf_size_39 : decode prog_7_method_5_code 39 = .ok (.iload_n 1, 1) := by decide +kernel
theorem dShelf_size_40 : decode prog_7_method_5_code 40 = .ok (.ireturn, 1) := by decide +kernel
theorem dWE_blocksToTrain_0 : decode prog_1_method_21_code 0 = .ok (.iconst 1, 1) := by decide +kernel
theorem dWE_blocksToTrain_1 : decode prog_1_method_21_code 1 = .ok (.iload_n 0, 1) := by decide +kernel
theorem dWE_blocksToTrain_2 : decode prog_1_method_21_code 2 = .ok (.iconst 4, 1) := by decide +kernel
theorem dWE_blocksToTrain_3 : decode prog_1_method_21_code 3 = .ok (.iadd, 1) := by decide +kernel
theorem dWE_blocksToTrain_4 : decode prog_1_method_21_code 4 = .ok (.iconst 1, 1) := by decide +kernel
theorem dWE_blocksToTrain_5 : decode prog_1_method_21_code 5 = .ok (.isub, 1) := by decide +kernel
theorem dWE_blocksToTrain_6 : decode prog_1_method_21_code 6 = .ok (.iconst 4, 1) := by decide +kernel
theorem dWE_blocksToTrain_7 : decode prog_1_method_21_code 7 = .ok (.idiv, 1) := by decide +kernel
theorem dWE_blocksToTrain_8 : decode prog_1_method_21_code 8 = .ok (.iadd, 1) := by decide +kernel
theorem dWE_blocksToTrain_9 : decode prog_1_method_21_code 9 = .ok (.ireturn, 1) := by decide +kernel
theorem dLog_hasRoomFor_0 : decode prog_5_method_2_code 0 = .ok (.aload_n 0, 1) := by decide +kernel
theorem dLog_hasRoomFor_1 : decode prog_5_method_2_code 1 = .ok (.getfield 28, 3) := by decide +kernel
theorem dLog_hasRoomFor_4 : decode prog_5_method_2_code 4 = .ok (.iload_n 1, 1) := by decide +kernel
theorem dLog_hasRoomFor_5 : decode prog_5_method_2_code 5 = .ok (.iadd, 1) := by decide +kernel
theorem dLog_hasRoomFor_6 : decode prog_5_method_2_code 6 = .ok (.bipush 24, 2) := by decide +kernel
theorem dLog_hasRoomFor_8 : decode prog_5_method_2_code 8 = .ok (.if_icmp .gt 7, 3) := by decide +kernel
theorem dLog_hasRoomFor_11 : decode prog_5_method_2_code 11 = .ok (.iconst 1, 1) := by decide +kernel
theorem dLog_hasRoomFor_12 : decode prog_5_method_2_code 12 = .ok (.goto 4, 3) := by decide +kernel
theorem dLog_hasRoomFor_15 : decode prog_5_method_2_code 15 = .ok (.iconst 0, 1) := by decide +kernel
theorem dLog_hasRoomFor_16 : decode prog_5_method_2_code 16 = .ok (.ireturn, 1) := by decide +kernel
theorem dText_copyOfWords_0 : decode prog_8_method_6_code 0 = .ok (.aload_n 0, 1) := by decide +kernel
theorem dText_copyOfWords_1 : decode prog_8_method_6_code 1 = .ok (.getfield 9, 3) := by decide +kernel
theorem dText_copyOfWords_4 : decode prog_8_method_6_code 4 = .ok (.aload_n 0, 1) := by decide +kernel
theorem dText_copyOfWords_5 : decode prog_8_method_6_code 5 = .ok (.getfield 15, 3) := by decide +kernel
theorem dText_copyOfWords_8 : decode prog_8_method_6_code 8 = .ok (.invokestatic 39, 3) := by decide +kernel
theorem dText_copyOfWords_11 : decode prog_8_method_6_code 11 = .ok (.areturn, 1) := by decide +kernel
theorem dArrays_copyOf_0 : decode prog_14_method_124_code 0 = .ok (.iload_n 1, 1) := by decide +kernel
theorem dArrays_copyOf_1 : decode prog_14_method_124_code 1 = .ok (.aload_n 0, 1) := by decide +kernel
theorem dArrays_copyOf_2 : decode prog_14_method_124_code 2 = .ok (.arraylength, 1) := by decide +kernel
theorem dArrays_copyOf_3 : decode prog_14_method_124_code 3 = .ok (.if_icmp .ne 11, 3) := by decide +kernel
theorem dArrays_copyOf_6 : decode prog_14_method_124_code 6 = .ok (.aload_n 0, 1) := by decide +kernel
theorem dArrays_copyOf_7 : decode prog_14_method_124_code 7 = .ok (.invokevirtual 319, 3) := by decide +kernel
theorem dArrays_copyOf_10 : decode prog_14_method_124_code 10 = .ok (.checkcast 320, 3) := by decide +kernel
theorem dArrays_copyOf_13 : decode prog_14_method_124_code 13 = .ok (.areturn, 1) := by decide +kernel
theorem dArrays_copyOf_14 : decode prog_14_method_124_code 14 = .ok (.iload_n 1, 1) := by decide +kernel
theorem dArrays_copyOf_15 : decode prog_14_method_124_code 15 = .ok (.newarray .long, 2) := by decide +kernel
theorem dArrays_copyOf_17 : decode prog_14_method_124_code 17 = .ok (.astore_n 2, 1) := by decide +kernel
theorem dArrays_copyOf_18 : decode prog_14_method_124_code 18 = .ok (.aload_n 0, 1) := by decide +kernel
theorem dArrays_copyOf_19 : decode prog_14_method_124_code 19 = .ok (.iconst 0, 1) := by decide +kernel
theorem dArrays_copyOf_20 : decode prog_14_method_124_code 20 = .ok (.aload_n 2, 1) := by decide +kernel
theorem dArrays_copyOf_21 : decode prog_14_method_124_code 21 = .ok (.iconst 0, 1) := by decide +kernel
theorem dArrays_copyOf_22 : decode prog_14_method_124_code 22 = .ok (.aload_n 0, 1) := by decide +kernel
theorem dArrays_copyOf_23 : decode prog_14_method_124_code 23 = .ok (.arraylength, 1) := by decide +kernel
theorem dArrays_copyOf_24 : decode prog_14_method_124_code 24 = .ok (.iload_n 1, 1) := by decide +kernel
theorem dArrays_copyOf_25 : decode prog_14_method_124_code 25 = .ok (.invokestatic 304, 3) := by decide +kernel
theorem dArrays_copyOf_28 : decode prog_14_method_124_code 28 = .ok (.invokestatic 150, 3) := by decide +kernel
theorem dArrays_copyOf_31 : decode prog_14_method_124_code 31 = .ok (.aload_n 2, 1) := by decide +kernel
theorem dArrays_copyOf_32 : decode prog_14_method_124_code 32 = .ok (.areturn, 1) := by decide +kernel
theorem dDocument_init_0 : decode prog_3_method_1_code 0 = .ok (.aload_n 0, 1) := by decide +kernel
theorem dDocument_init_1 : decode prog_3_method_1_code 1 = .ok (.invokespecial 1, 3) := by decide +kernel
theorem dDocument_init_4 : decode prog_3_method_1_code 4 = .ok (.aload_n 0, 1) := by decide +kernel
theorem dDocument_init_5 : decode prog_3_method_1_code 5 = .ok (.iload_n 1, 1) := by decide +kernel
theorem dDocument_init_6 : decode prog_3_method_1_code 6 = .ok (.putfield 7, 3) := by decide +kernel
theorem dDocument_init_9 : decode prog_3_method_1_code 9 = .ok (.aload_n 0, 1) := by decide +kernel
theorem dDocument_init_10 : decode prog_3_method_1_code 10 = .ok (.aload_n 2, 1) := by decide +kernel
theorem dDocument_init_11 : decode prog_3_method_1_code 11 = .ok (.putfield 13, 3) := by decide +kernel
theorem dDocument_init_14 : decode prog_3_method_1_code 14 = .ok (.return_, 1) := by decide +kernel
theorem dWE_change_0 : decode prog_1_method_22_code 0 = .ok (.aload_n 0, 1) := by decide +kernel
theorem dWE_change_1 : decode prog_1_method_22_code 1 = .ok (.getfield 29, 3) := by decide +kernel
theorem dWE_change_4 : decode prog_1_method_22_code 4 = .ok (.iload_n 1, 1) := by decide +kernel
theorem dWE_change_5 : decode prog_1_method_22_code 5 = .ok (.aload_n 2, 1) := by decide +kernel
theorem dWE_change_6 : decode prog_1_method_22_code 6 = .ok (.iload_n 3, 1) := by decide +kernel
theorem dWE_change_7 : decode prog_1_method_22_code 7 = .ok (.invokevirtual 152, 3) := by decide +kernel
theorem dWE_change_10 : decode prog_1_method_22_code 10 = .ok (.aload_n 0, 1) := by decide +kernel
theorem dWE_change_11 : decode prog_1_method_22_code 11 = .ok (.getfield 19, 3) := by decide +kernel
theorem dWE_change_14 : decode prog_1_method_22_code 14 = .ok (.iload_n 1, 1) := by decide +kernel
theorem dWE_change_15 : decode prog_1_method_22_code 15 = .ok (.aload_n 2, 1) := by decide +kernel
theorem dWE_change_16 : decode prog_1_method_22_code 16 = .ok (.invokevirtual 155, 3) := by decide +kernel
theorem dWE_change_19 : decode prog_1_method_22_code 19 = .ok (.return_, 1) := by decide +kernel
theorem dLog_write_0 : decode prog_5_method_3_code 0 = .ok (.aload_n 0, 1) := by decide +kernel
theorem dLog_write_1 : decode prog_5_method_3_code 1 = .ok (.getfield 24, 3) := by decide +kernel
theorem dLog_write_4 : decode prog_5_method_3_code 4 = .ok (.bipush 24, 2) := by decide +kernel
theorem dLog_write_6 : decode prog_5_method_3_code 6 = .ok (.if_icmp .ge 53, 3) := by decide +kernel
theorem dLog_write_9 : decode prog_5_method_3_code 9 = .ok (.aload_n 0, 1) := by decide +kernel
theorem dLog_write_10 : decode prog_5_method_3_code 10 = .ok (.getfield 9, 3) := by decide +kernel
theorem dLog_write_13 : decode prog_5_method_3_code 13 = .ok (.aload_n 0, 1) := by decide +kernel
theorem dLog_write_14 : decode prog_5_method_3_code 14 = .ok (.getfield 24, 3) := by decide +kernel
theorem dLog_write_17 : decode prog_5_method_3_code 17 = .ok (.iload_n 1, 1) := by decide +kernel
theorem dLog_write_18 : decode prog_5_method_3_code 18 = .ok (.iastore, 1) := by decide +kernel
theorem dLog_write_19 : decode prog_5_method_3_code 19 = .ok (.aload_n 0, 1) := by decide +kernel
theorem dLog_write_20 : decode prog_5_method_3_code 20 = .ok (.getfield 20, 3) := by decide +kernel
theorem dLog_write_23 : decode prog_5_method_3_code 23 = .ok (.aload_n 0, 1) := by decide +kernel
theorem dLog_write_24 : decode prog_5_method_3_code 24 = .ok (.getfield 24, 3) := by decide +kernel
theorem dLog_write_27 : decode prog_5_method_3_code 27 = .ok (.aload_n 2, 1) := by decide +kernel
theorem dLog_write_28 : decode prog_5_method_3_code 28 = .ok (.aastore, 1) := by decide +kernel
theorem dLog_write_29 : decode prog_5_method_3_code 29 = .ok (.aload_n 0, 1) := by decide +kernel
theorem dLog_write_30 : decode prog_5_method_3_code 30 = .ok (.getfield 15, 3) := by decide +kernel
theorem dLog_write_33 : decode prog_5_method_3_code 33 = .ok (.aload_n 0, 1) := by decide +kernel
theorem dLog_write_34 : decode prog_5_method_3_code 34 = .ok (.getfield 24, 3) := by decide +kernel
theorem dLog_write_37 : decode prog_5_method_3_code 37 = .ok (.iload_n 3, 1) := by decide +kernel
theorem dLog_write_38 : decode prog_5_method_3_code 38 = .ok (.iastore, 1) := by decide +kernel
theorem dLog_write_39 : decode prog_5_method_3_code 39 = .ok (.aload_n 0, 1) := by decide +kernel
theorem dLog_write_40 : decode prog_5_method_3_code 40 = .ok (.dup, 1) := by decide +kernel
theorem dLog_write_41 : decode prog_5_method_3_code 41 = .ok (.getfield 24, 3) := by decide +kernel
theorem dLog_write_44 : decode prog_5_method_3_code 44 = .ok (.iconst 1, 1) := by decide +kernel
theorem dLog_write_45 : decode prog_5_method_3_code 45 = .ok (.iadd, 1) := by decide +kernel
theorem dLog_write_46 : decode prog_5_method_3_code 46 = .ok (.putfield 24, 3) := by decide +kernel
theorem dLog_write_49 : decode prog_5_method_3_code 49 = .ok (.aload_n 0, 1) := by decide +kernel
theorem dLog_write_50 : decode prog_5_method_3_code 50 = .ok (.dup, 1) := by decide +kernel
theorem dLog_write_51 : decode prog_5_method_3_code 51 = .ok (.getfield 28, 3) := by decide +kernel
theorem dLog_write_54 : decode prog_5_method_3_code 54 = .ok (.iload_n 3, 1) := by decide +kernel
theorem dLog_write_55 : decode prog_5_method_3_code 55 = .ok (.iadd, 1) := by decide +kernel
theorem dLog_write_56 : decode prog_5_method_3_code 56 = .ok (.putfield 28, 3) := by decide +kernel
theorem dLog_write_59 : decode prog_5_method_3_code 59 = .ok (.return_, 1) := by decide +kernel
theorem dShelf_put_0 : decode prog_7_method_3_code 0 = .ok (.iload_n 1, 1) := by decide +kernel
theorem dShelf_put_1 : decode prog_7_method_3_code 1 = .ok (.invokestatic 21, 3) := by decide +kernel
theorem dShelf_put_4 : decode prog_7_method_3_code 4 = .ok (.ifCond .eq 10, 3) := by decide +kernel
theorem dShelf_put_7 : decode prog_7_method_3_code 7 = .ok (.aload_n 0, 1) := by decide +kernel
theorem dShelf_put_8 : decode prog_7_method_3_code 8 = .ok (.getfield 11, 3) := by decide +kernel
theorem dShelf_put_11 : decode prog_7_method_3_code 11 = .ok (.iload_n 1, 1) := by decide +kernel
theorem dShelf_put_12 : decode prog_7_method_3_code 12 = .ok (.aload_n 2, 1) := by decide +kernel
theorem dShelf_put_13 : decode prog_7_method_3_code 13 = .ok (.aastore, 1) := by decide +kernel
theorem dShelf_put_14 : decode prog_7_method_3_code 14 = .ok (.return_, 1) := by decide +kernel
theorem dWE_untrain_0 : decode prog_1_method_7_code 0 = .ok (.iload_n 1, 1) := by decide +kernel
theorem dWE_untrain_1 : decode prog_1_method_7_code 1 = .ok (.invokestatic 78, 3) := by decide +kernel
theorem dWE_untrain_4 : decode prog_1_method_7_code 4 = .ok (.ifCond .ne 5, 3) := by decide +kernel
theorem dWE_untrain_7 : decode prog_1_method_7_code 7 = .ok (.iconst (-1), 1) := by decide +kernel
theorem dWE_untrain_8 : decode prog_1_method_7_code 8 = .ok (.ireturn, 1) := by decide +kernel
theorem dWE_untrain_9 : decode prog_1_method_7_code 9 = .ok (.aload_n 0, 1) := by decide +kernel
theorem dWE_untrain_10 : decode prog_1_method_7_code 10 = .ok (.getfield 19, 3) := by decide +kernel
theorem dWE_untrain_13 : decode prog_1_method_7_code 13 = .ok (.iload_n 1, 1) := by decide +kernel
theorem dWE_untrain_14 : decode prog_1_method_7_code 14 = .ok (.invokevirtual 84, 3) := by decide +kernel
theorem dWE_untrain_17 : decode prog_1_method_7_code 17 = .ok (.astore_n 2, 1) := by decide +kernel
theorem dWE_untrain_18 : decode prog_1_method_7_code 18 = .ok (.aload_n 2, 1) := by decide +kernel
theorem dWE_untrain_19 : decode prog_1_method_7_code 19 = .ok (.ifnonnull 6, 3) := by decide +kernel
theorem dWE_untrain_22 : decode prog_1_method_7_code 22 = .ok (.bipush (-3), 2) := by decide +kernel
theorem dWE_untrain_24 : decode prog_1_method_7_code 24 = .ok (.ireturn, 1) := by decide +kernel
theorem dWE_untrain_25 : decode prog_1_method_7_code 25 = .ok (.aload_n 0, 1) := by decide +kernel
theorem dWE_untrain_26 : decode prog_1_method_7_code 26 = .ok (.getfield 29, 3) := by decide +kernel
theorem dWE_untrain_29 : decode prog_1_method_7_code 29 = .ok (.iconst 1, 1) := by decide +kernel
theorem dWE_untrain_30 : decode prog_1_method_7_code 30 = .ok (.invokevirtual 95, 3) := by decide +kernel
theorem dWE_untrain_33 : decode prog_1_method_7_code 33 = .ok (.ifCond .ne 6, 3) := by decide +kernel
theorem dWE_untrain_36 : decode prog_1_method_7_code 36 = .ok (.bipush (-5), 2) := by decide +kernel
theorem dWE_untrain_38 : decode prog_1_method_7_code 38 = .ok (.ireturn, 1) := by decide +kernel
theorem dWE_untrain_39 : decode prog_1_method_7_code 39 = .ok (.aload_n 0, 1) := by decide +kernel
theorem dWE_untrain_40 : decode prog_1_method_7_code 40 = .ok (.iload_n 1, 1) := by decide +kernel
theorem dWE_untrain_41 : decode prog_1_method_7_code 41 = .ok (.aconst_null, 1) := by decide +kernel
theorem dWE_untrain_42 : decode prog_1_method_7_code 42 = .ok (.iconst 1, 1) := by decide +kernel
theorem dWE_untrain_43 : decode prog_1_method_7_code 43 = .ok (.invokevirtual 107, 3) := by decide +kernel
theorem dWE_untrain_46 : decode prog_1_method_7_code 46 = .ok (.aload_n 2, 1) := by decide +kernel
theorem dWE_untrain_47 : decode prog_1_method_7_code 47 = .ok (.getfield 111, 3) := by decide +kernel
theorem dWE_untrain_50 : decode prog_1_method_7_code 50 = .ok (.ireturn, 1) := by decide +kernel
theorem dWE_sync_0 : decode prog_1_method_8_code 0 = .ok (.aload_n 0, 1) := by decide +kernel
theorem dWE_sync_1 : decode prog_1_method_8_code 1 = .ok (.getfield 23, 3) := by decide +kernel
theorem dWE_sync_4 : decode prog_1_method_8_code 4 = .ok (.aload_n 0, 1) := by decide +kernel
theorem dWE_sync_5 : decode prog_1_method_8_code 5 = .ok (.getfield 19, 3) := by decide +kernel
theorem dWE_sync_8 : decode prog_1_method_8_code 8 = .ok (.invokevirtual 114, 3) := by decide +kernel
theorem dWE_sync_11 : decode prog_1_method_8_code 11 = .ok (.aload_n 0, 1) := by decide +kernel
theorem dWE_sync_12 : decode prog_1_method_8_code 12 = .ok (.getfield 29, 3) := by decide +kernel
theorem dWE_sync_15 : decode prog_1_method_8_code 15 = .ok (.invokevirtual 118, 3) := by decide +kernel
theorem dWE_sync_18 : decode prog_1_method_8_code 18 = .ok (.ireturn, 1) := by decide +kernel
theorem dShelf_copyFrom_0 : decode prog_7_method_4_code 0 = .ok (.iconst 0, 1) := by decide +kernel
theorem dShelf_copyFrom_1 : decode prog_7_method_4_code 1 = .ok (.istore_n 2, 1) := by decide +kernel
theorem dShelf_copyFrom_2 : decode prog_7_method_4_code 2 = .ok (.iload_n 2, 1) := by decide +kernel
theorem dShelf_copyFrom_3 : decode prog_7_method_4_code 3 = .ok (.bipush 32, 2) := by decide +kernel
theorem dShelf_copyFrom_5 : decode prog_7_method_4_code 5 = .ok (.if_icmp .ge 21, 3) := by decide +kernel
theorem dShelf_copyFrom_8 : decode prog_7_method_4_code 8 = .ok (.aload_n 0, 1) := by decide +kernel
theorem dShelf_copyFrom_9 : decode prog_7_method_4_code 9 = .ok (.getfield 11, 3) := by decide +kernel
theorem dShelf_copyFrom_12 : decode prog_7_method_4_code 12 = .ok (.iload_n 2, 1) := by decide +kernel
theorem dShelf_copyFrom_13 : decode prog_7_method_4_code 13 = .ok (.aload_n 1, 1) := by decide +kernel
theorem dShelf_copyFrom_14 : decode prog_7_method_4_code 14 = .ok (.getfield 11, 3) := by decide +kernel
theorem dShelf_copyFrom_17 : decode prog_7_method_4_code 17 = .ok (.iload_n 2, 1) := by decide +kernel
theorem dShelf_copyFrom_18 : decode prog_7_method_4_code 18 = .ok (.aaload, 1) := by decide +kernel
