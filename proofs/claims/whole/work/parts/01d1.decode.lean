theorem dShelf_copyFrom_19 : decode prog_7_method_4_code 19 = .ok (.aastore, 1) := by decide +kernel
theorem dShelf_copyFrom_20 : decode prog_7_method_4_code 20 = .ok (.iinc 2 1, 3) := by decide +kernel
theorem dShelf_copyFrom_23 : decode prog_7_method_4_code 23 = .ok (.goto (-21), 3) := by decide +kernel
theorem dShelf_copyFrom_26 : decode prog_7_method_4_code 26 = .ok (.return_, 1) := by decide +kernel
theorem dLog_empty_0 : decode prog_5_method_5_code 0 = .ok (.aload_n 0, 1) := by decide +kernel
theorem dLog_empty_1 : decode prog_5_method_5_code 1 = .ok (.getfield 28, 3) := by decide +kernel
theorem dLog_empty_4 : decode prog_5_method_5_code 4 = .ok (.istore_n 1, 1) := by decide +kernel
theorem dLog_empty_5 : decode prog_5_method_5_code 5 = .ok (.aload_n 0, 1) := by decide +kernel
theorem dLog_empty_6 : decode prog_5_method_5_code 6 = .ok (.iconst 0, 1) := by decide +kernel
theorem dLog_empty_7 : decode prog_5_method_5_code 7 = .ok (.putfield 24, 3) := by decide +kernel
theorem dLog_empty_10 : decode prog_5_method_5_code 10 = .ok (.aload_n 0, 1) := by decide +kernel
theorem dLog_empty_11 : decode prog_5_method_5_code 11 = .ok (.iconst 0, 1) := by decide +kernel
theorem dLog_empty_12 : decode prog_5_method_5_code 12 = .ok (.putfield 28, 3) := by decide +kernel
theorem dLog_empty_15 : decode prog_5_method_5_code 15 = .ok (.iload_n 1, 1) := by decide +kernel
theorem dLog_empty_16 : decode prog_5_method_5_code 16 = .ok (.ireturn, 1) := by decide +kernel
theorem dWE_fail_0 : decode prog_1_method_9_code 0 = .ok (.aload_n 0, 1) := by decide +kernel
theorem dWE_fail_1 : decode prog_1_method_9_code 1 = .ok (.getfield 29, 3) := by decide +kernel
theorem dWE_fail_4 : decode prog_1_method_9_code 4 = .ok (.aload_n 0, 1) := by decide +kernel
theorem dWE_fail_5 : decode prog_1_method_9_code 5 = .ok (.getfield 23, 3) := by decide +kernel
theorem dWE_fail_8 : decode prog_1_method_9_code 8 = .ok (.iload_n 1, 1) := by decide +kernel
theorem dWE_fail_9 : decode prog_1_method_9_code 9 = .ok (.invokevirtual 119, 3) := by decide +kernel
theorem dWE_fail_12 : decode prog_1_method_9_code 12 = .ok (.istore_n 2, 1) := by decide +kernel
theorem dWE_fail_13 : decode prog_1_method_9_code 13 = .ok (.aload_n 0, 1) := by decide +kernel
theorem dWE_fail_14 : decode prog_1_method_9_code 14 = .ok (.getfield 19, 3) := by decide +kernel
theorem dWE_fail_17 : decode prog_1_method_9_code 17 = .ok (.aload_n 0, 1) := by decide +kernel
theorem dWE_fail_18 : decode prog_1_method_9_code 18 = .ok (.getfield 23, 3) := by decide +kernel
theorem dWE_fail_21 : decode prog_1_method_9_code 21 = .ok (.invokevirtual 114, 3) := by decide +kernel
theorem dWE_fail_24 : decode prog_1_method_9_code 24 = .ok (.aload_n 0, 1) := by decide +kernel
theorem dWE_fail_25 : decode prog_1_method_9_code 25 = .ok (.getfield 29, 3) := by decide +kernel
theorem dWE_fail_28 : decode prog_1_method_9_code 28 = .ok (.invokevirtual 118, 3) := by decide +kernel
theorem dWE_fail_31 : decode prog_1_method_9_code 31 = .ok (.pop, 1) := by decide +kernel
theorem dWE_fail_32 : decode prog_1_method_9_code 32 = .ok (.iload_n 2, 1) := by decide +kernel
theorem dWE_fail_33 : decode prog_1_method_9_code 33 = .ok (.ireturn, 1) := by decide +kernel
theorem dLog_replayOn_0 : decode prog_5_method_4_code 0 = .ok (.iload_n 2, 1) := by decide +kernel
theorem dLog_replayOn_1 : decode prog_5_method_4_code 1 = .ok (.istore_n 3, 1) := by decide +kernel
theorem dLog_replayOn_2 : decode prog_5_method_4_code 2 = .ok (.iconst 0, 1) := by decide +kernel
theorem dLog_replayOn_3 : decode prog_5_method_4_code 3 = .ok (.istore 4, 2) := by decide +kernel
theorem dLog_replayOn_5 : decode prog_5_method_4_code 5 = .ok (.iload 4, 2) := by decide +kernel
theorem dLog_replayOn_7 : decode prog_5_method_4_code 7 = .ok (.aload_n 0, 1) := by decide +kernel
theorem dLog_replayOn_8 : decode prog_5_method_4_code 8 = .ok (.getfield 24, 3) := by decide +kernel
theorem dLog_replayOn_11 : decode prog_5_method_4_code 11 = .ok (.if_icmp .ge 48, 3) := by decide +kernel
theorem dLog_replayOn_14 : decode prog_5_method_4_code 14 = .ok (.aload_n 0, 1) := by decide +kernel
theorem dLog_replayOn_15 : decode prog_5_method_4_code 15 = .ok (.getfield 15, 3) := by decide +kernel
theorem dLog_replayOn_18 : decode prog_5_method_4_code 18 = .ok (.iload 4, 2) := by decide +kernel
theorem dLog_replayOn_20 : decode prog_5_method_4_code 20 = .ok (.iaload, 1) := by decide +kernel
theorem dLog_replayOn_21 : decode prog_5_method_4_code 21 = .ok (.iload_n 3, 1) := by decide +kernel
theorem dLog_replayOn_22 : decode prog_5_method_4_code 22 = .ok (.if_icmp .gt 37, 3) := by decide +kernel
theorem dLog_replayOn_25 : decode prog_5_method_4_code 25 = .ok (.aload_n 1, 1) := by decide +kernel
theorem dLog_replayOn_26 : decode prog_5_method_4_code 26 = .ok (.aload_n 0, 1) := by decide +kernel
theorem dLog_replayOn_27 : decode prog_5_method_4_code 27 = .ok (.getfield 9, 3) := by decide +kernel
theorem dLog_replayOn_30 : decode prog_5_method_4_code 30 = .ok (.iload 4, 2) := by decide +kernel
theorem dLog_replayOn_32 : decode prog_5_method_4_code 32 = .ok (.iaload, 1) := by decide +kernel
theorem dLog_replayOn_33 : decode prog_5_method_4_code 33 = .ok (.aload_n 0, 1) := by decide +kernel
theorem dLog_replayOn_34 : decode prog_5_method_4_code 34 = .ok (.getfield 20, 3) := by decide +kernel
theorem dLog_replayOn_37 : decode prog_5_method_4_code 37 = .ok (.iload 4, 2) := by decide +kernel
theorem dLog_replayOn_39 : decode prog_5_method_4_code 39 = .ok (.aaload, 1) := by decide +kernel
theorem dLog_replayOn_40 : decode prog_5_method_4_code 40 = .ok (.invokevirtual 31, 3) := by decide +kernel
theorem dLog_replayOn_43 : decode prog_5_method_4_code 43 = .ok (.iload_n 3, 1) := by decide +kernel
theorem dLog_replayOn_44 : decode prog_5_method_4_code 44 = .ok (.aload_n 0, 1) := by decide +kernel
theorem dLog_replayOn_45 : decode prog_5_method_4_code 45 = .ok (.getfield 15, 3) := by decide +kernel
theorem dLog_replayOn_48 : decode prog_5_method_4_code 48 = .ok (.iload 4, 2) := by decide +kernel
theorem dLog_replayOn_50 : decode prog_5_method_4_code 50 = .ok (.iaload, 1) := by decide +kernel
theorem dLog_replayOn_51 : decode prog_5_method_4_code 51 = .ok (.isub, 1) := by decide +kernel
theorem dLog_replayOn_52 : decode prog_5_method_4_code 52 = .ok (.istore_n 3, 1) := by decide +kernel
theorem dLog_replayOn_53 : decode prog_5_method_4_code 53 = .ok (.iinc 4 1, 3) := by decide +kernel
theorem dLog_replayOn_56 : decode prog_5_method_4_code 56 = .ok (.goto (-51), 3) := by decide +kernel
theorem dLog_replayOn_59 : decode prog_5_method_4_code 59 = .ok (.aload_n 0, 1) := by decide +kernel
theorem dLog_replayOn_60 : decode prog_5_method_4_code 60 = .ok (.getfield 24, 3) := by decide +kernel
theorem dLog_replayOn_63 : decode prog_5_method_4_code 63 = .ok (.iload 4, 2) := by decide +kernel
theorem dLog_replayOn_65 : decode prog_5_method_4_code 65 = .ok (.isub, 1) := by decide +kernel
theorem dLog_replayOn_66 : decode prog_5_method_4_code 66 = .ok (.ireturn, 1) := by decide +kernel
theorem dWE_pending_0 : decode prog_1_method_10_code 0 = .ok (.aload_n 0, 1) := by decide +kernel
theorem dWE_pending_1 : decode prog_1_method_10_code 1 = .ok (.getfield 29, 3) := by decide +kernel
theorem dWE_pending_4 : decode prog_1_method_10_code 4 = .ok (.getfield 123, 3) := by decide +kernel
theorem dWE_pending_7 : decode prog_1_method_10_code 7 = .ok (.ireturn, 1) := by decide +kernel
theorem dWE_documents_0 : decode prog_1_method_11_code 0 = .ok (.iload_n 1, 1) := by decide +kernel
theorem dWE_documents_1 : decode prog_1_method_11_code 1 = .ok (.iconst (-1), 1) := by decide +kernel
theorem dWE_documents_2 : decode prog_1_method_11_code 2 = .ok (.if_icmp .ne 11, 3) := by decide +kernel
theorem dWE_documents_5 : decode prog_1_method_11_code 5 = .ok (.aload_n 0, 1) := by decide +kernel
theorem dWE_documents_6 : decode prog_1_method_11_code 6 = .ok (.getfield 19, 3) := by decide +kernel
theorem dWE_documents_9 : decode prog_1_method_11_code 9 = .ok (.invokevirtual 88, 3) := by decide +kernel
theorem dWE_documents_12 : decode prog_1_method_11_code 12 = .ok (.ireturn, 1) := by decide +kernel
theorem dWE_documents_13 : decode prog_1_method_11_code 13 = .ok (.aload_n 0, 1) := by decide +kernel
theorem dWE_documents_14 : decode prog_1_method_11_code 14 = .ok (.iload_n 1, 1) := by decide +kernel
theorem dWE_documents_15 : decode prog_1_method_11_code 15 = .ok (.invokevirtual 81, 3) := by decide +kernel
theorem dWE_documents_18 : decode prog_1_method_11_code 18 = .ok (.ifCond .eq 14, 3) := by decide +kernel
theorem dWE_documents_21 : decode prog_1_method_11_code 21 = .ok (.aload_n 0, 1) := by decide +kernel
theorem dWE_documents_22 : decode prog_1_method_11_code 22 = .ok (.getfield 19, 3) := by decide +kernel
theorem dWE_documents_25 : decode prog_1_method_11_code 25 = .ok (.iload_n 1, 1) := by decide +kernel
theorem dWE_documents_26 : decode prog_1_method_11_code 26 = .ok (.invokevirtual 126, 3) := by decide +kernel
theorem dWE_documents_29 : decode prog_1_method_11_code 29 = .ok (.goto 4, 3) := by decide +kernel
theorem dWE_documents_32 : decode prog_1_method_11_code 32 = .ok (.iconst (-1), 1) := by decide +kernel
theorem dWE_documents_33 : decode prog_1_method_11_code 33 = .ok (.ireturn, 1) := by decide +kernel
theorem dShelf_documentsOf_0 : decode prog_7_method_6_code 0 = .ok (.iconst 0, 1) := by decide +kernel
theorem dShelf_documentsOf_1 : decode prog_7_method_6_code 1 = .ok (.istore_n 2, 1) := by decide +kernel
theorem dShelf_documentsOf_2 : decode prog_7_method_6_code 2 = .ok (.aload_n 0, 1) := by decide +kernel
theorem dShelf_documentsOf_3 : decode prog_7_method_6_code 3 = .ok (.getfield 11, 3) := by decide +kernel
theorem dShelf_documentsOf_6 : decode prog_7_method_6_code 6 = .ok (.astore_n 3, 1) := by decide +kernel
theorem dShelf_documentsOf_7 : decode prog_7_method_6_code 7 = .ok (.aload_n 3, 1) := by decide +kernel
theorem dShelf_documentsOf_8 : decode prog_7_method_6_code 8 = .ok (.arraylength, 1) := by decide +kernel
theorem dShelf_documentsOf_9 : decode prog_7_method_6_code 9 = .ok (.istore 4, 2) := by decide +kernel
theorem dShelf_documentsOf_11 : decode prog_7_method_6_code 11 = .ok (.iconst 0, 1) := by decide +kernel
theorem dShelf_documentsOf_12 : decode prog_7_method_6_code 12 = .ok (.istore 5, 2) := by decide +kernel
theorem dShelf_documentsOf_14 : decode prog_7_method_6_code 14 = .ok (.iload 5, 2) := by decide +kernel
theorem dShelf_documentsOf_16 : decode prog_7_method_6_code 16 = .ok (.iload 4, 2) := by decide +kernel
theorem dShelf_documentsOf_18 : decode prog_7_method_6_code 18 = .ok (.if_icmp .ge 32, 3) := by decide +kernel
theorem dShelf_documentsOf_21 : decode prog_7_method_6_code 21 = .ok (.aload_n 3, 1) := by decide +kernel
theorem dShelf_documentsOf_22 : decode prog_7_method_6_code 22 = .ok (.iload 5, 2) := by decide +kernel
theorem dShelf_documentsOf_24 : decode prog_7_method_6_code 24 = .ok (.aaload, 1) := by decide +kernel
theorem dShelf_documentsOf_25 : decode prog_7_method_6_code 25 = .ok (.astore 6, 2) := by decide +kernel
theorem dShelf_documentsOf_27 : decode prog_7_method_6_code 27 = .ok (.aload 6, 2) := by decide +kernel
theorem dShelf_documentsOf_29 : decode prog_7_method_6_code 29 = .ok (.ifnull 15, 3) := by decide +kernel
theorem dShelf_documentsOf_32 : decode prog_7_method_6_code 32 = .ok (.aload 6, 2) := by decide +kernel
theorem dShelf_documentsOf_34 : decode prog_7_method_6_code 34 = .ok (.getfield 25, 3) := by decide +kernel
theorem dShelf_documentsOf_37 : decode prog_7_method_6_code 37 = .ok (.iload_n 1, 1) := by decide +kernel
theorem dShelf_documentsOf_38 : decode prog_7_method_6_code 38 = .ok (.if_icmp .ne 6, 3) := by decide +kernel
theorem dShelf_documentsOf_41 : decode prog_7_method_6_code 41 = .ok (.iinc 2 1, 3) := by decide +kernel
theorem dShelf_documentsOf_44 : decode prog_7_method_6_code 44 = .ok (.iinc 5 1, 3) := by decide +kernel
theorem dShelf_documentsOf_47 : decode prog_7_method_6_code 47 = .ok (.goto (-33), 3) := by decide +kernel
theorem dShelf_documentsOf_50 : decode prog_7_method_6_code 50 = .ok (.iload_n 2, 1) := by decide +kernel
theorem dShelf_documentsOf_51 : decode prog_7_method_6_code 51 = .ok (.ireturn, 1) := by decide +kernel
theorem dWE_total_0 : decode prog_1_method_12_code 0 = .ok (.aload_n 0, 1) := by decide +kernel
theorem dWE_total_1 : decode prog_1_method_12_code 1 = .ok (.iload_n 1, 1) := by decide +kernel
theorem dWE_total_2 : decode prog_1_method_12_code 2 = .ok (.invokevirtual 81, 3) := by decide +kernel
theorem dWE_total_5 : decode prog_1_method_12_code 5 = .ok (.ifCond .eq 14, 3) := by decide +kernel
theorem dWE_total_8 : decode prog_1_method_12_code 8 = .ok (.aload_n 0, 1) := by decide +kernel
theorem dWE_total_9 : decode prog_1_method_12_code 9 = .ok (.getfield 19, 3) := by decide +kernel
theorem dWE_total_12 : decode prog_1_method_12_code 12 = .ok (.iload_n 1, 1) := by decide +kernel
theorem dWE_total_13 : decode prog_1_method_12_code 13 = .ok (.invokevirtual 129, 3) := by decide +kernel
theorem dWE_total_16 : decode prog_1_method_12_code 16 = .ok (.goto 4, 3) := by decide +kernel
theorem dWE_total_19 : decode prog_1_method_12_code 19 = .ok (.iconst (-1), 1) := by decide +kernel
theorem dWE_total_20 : decode prog_1_method_12_code 20 = .ok (.ireturn, 1) := by decide +kernel
theorem dShelf_wordsOf_0 : decode prog_7_method_7_code 0 = .ok (.iconst 0, 1) := by decide +kernel
theorem dShelf_wordsOf_1 : decode prog_7_method_7_code 1 = .ok (.istore_n 2, 1) := by decide +kernel
theorem dShelf_wordsOf_2 : decode prog_7_method_7_code 2 = .ok (.aload_n 0, 1) := by decide +kernel
theorem dShelf_wordsOf_3 : decode prog_7_method_7_code 3 = .ok (.getfield 11, 3) := by decide +kernel
theorem dShelf_wordsOf_6 : decode prog_7_method_7_code 6 = .ok (.astore_n 3, 1) := by decide +kernel
theorem dShelf_wordsOf_7 : decode prog_7_method_7_code 7 = .ok (.aload_n 3, 1) := by decide +kernel
theorem dShelf_wordsOf_8 : decode prog_7_method_7_code 8 = .ok (.arraylength, 1) := by decide +kernel
theorem dShelf_wordsOf_9 : decode prog_7_method_7_code 9 = .ok (.istore 4, 2) := by decide +kernel
theorem dShelf_wordsOf_11 : decode prog_7_method_7_code 11 = .ok (.iconst 0, 1) := by decide +kernel
theorem dShelf_wordsOf_12 : decode prog_7_method_7_code 12 = .ok (.istore 5, 2) := by decide +kernel
theorem dShelf_wordsOf_14 : decode prog_7_method_7_code 14 = .ok (.iload 5, 2) := by decide +kernel
theorem dShelf_wordsOf_16 : decode prog_7_method_7_code 16 = .ok (.iload 4, 2) := by decide +kernel
theorem dShelf_wordsOf_18 : decode prog_7_method_7_code 18 = .ok (.if_icmp .ge 38, 3) := by decide +kernel
theorem dShelf_wordsOf_21 : decode prog_7_method_7_code 21 = .ok (.aload_n 3, 1) := by decide +kernel
theorem dShelf_wordsOf_22 : decode prog_7_method_7_code 22 = .ok (.iload 5, 2) := by decide +kernel
theorem dShelf_wordsOf_24 : decode prog_7_method_7_code 24 = .ok (.aaload, 1) := by decide +kernel
theorem dShelf_wordsOf_25 : decode prog_7_method_7_code 25 = .ok (.astore 6, 2) := by decide +kernel
theorem dShelf_wordsOf_27 : decode prog_7_method_7_code 27 = .ok (.aload 6, 2) := by decide +kernel
theorem dShelf_wordsOf_29 : decode prog_7_method_7_code 29 = .ok (.ifnull 21, 3) := by decide +kernel
theorem dShelf_wordsOf_32 : decode prog_7_method_7_code 32 = .ok (.aload 6, 2) := by decide +kernel
theorem dShelf_wordsOf_34 : decode prog_7_method_7_code 34 = .ok (.getfield 25, 3) := by decide +kernel
theorem dShelf_wordsOf_37 : decode prog_7_method_7_code 37 = .ok (.iload_n 1, 1) := by decide +kernel
theorem dShelf_wordsOf_38 : decode prog_7_method_7_code 38 = .ok (.if_icmp .ne 12, 3) := by decide +kernel
theorem dShelf_wordsOf_41 : decode prog_7_method_7_code 41 = .ok (.iload_n 2, 1) := by decide +kernel
theorem dShelf_wordsOf_42 : decode prog_7_method_7_code 42 = .ok (.aload 6, 2) := by decide +kernel
theorem dShelf_wordsOf_44 : decode prog_7_method_7_code 44 = .ok (.getfield 29, 3) := by decide +kernel
theorem dShelf_wordsOf_47 : decode prog_7_method_7_code 47 = .ok (.arraylength, 1) := by decide +kernel
theorem dShelf_wordsOf_48 : decode prog_7_method_7_code 48 = .ok (.iadd, 1) := by decide +kernel
theorem dShelf_wordsOf_49 : decode prog_7_method_7_code 49 = .ok (.istore_n 2, 1) := by decide +kernel
theorem dShelf_wordsOf_50 : decode prog_7_method_7_code 50 = .ok (.iinc 5 1, 3) := by decide +kernel
theorem dShelf_wordsOf_53 : decode prog_7_method_7_code 53 = .ok (.goto (-39), 3) := by decide +kernel
theorem dShelf_wordsOf_56 : decode prog_7_method_7_code 56 = .ok (.iload_n 2, 1) := by decide +kernel
theorem dShelf_wordsOf_57 : decode prog_7_method_7_code 57 = .ok (.ireturn, 1) := by decide +kernel
theorem dWE_count_0 : decode prog_1_method_13_code 0 = .ok (.aload_n 0, 1) := by decide +kernel
theorem dWE_count_1 : decode prog_1_method_13_code 1 = .ok (.iload_n 1, 1) := by decide +kernel
theorem dWE_count_2 : decode prog_1_method_13_code 2 = .ok (.invokevirtual 81, 3) := by decide +kernel
theorem dWE_count_5 : decode prog_1_method_13_code 5 = .ok (.ifCond .eq 14, 3) := by decide +kernel
theorem dWE_count_8 : decode prog_1_method_13_code 8 = .ok (.aload_n 0, 1) := by decide +kernel
theorem dWE_count_9 : decode prog_1_method_13_code 9 = .ok (.getfield 10, 3) := by decide +kernel
theorem dWE_count_12 : decode prog_1_method_13_code 12 = .ok (.iload_n 2, 1) := by decide +kernel
theorem dWE_count_13 : decode prog_1_method_13_code 13 = .ok (.invokevirtual 64, 3) := by decide +kernel
theorem dWE_count_16 : decode prog_1_method_13_code 16 = .ok (.ifCond .ne 5, 3) := by decide +kernel
theorem dWE_count_19 : decode prog_1_method_13_code 19 = .ok (.iconst (-1), 1) := by decide +kernel
theorem dWE_count_20 : decode prog_1_method_13_code 20 = .ok (.ireturn, 1) := by decide +kernel
theorem dWE_count_21 : decode prog_1_method_13_code 21 = .ok (.aload_n 0, 1) := by decide +kernel
theorem dWE_count_22 : decode prog_1_method_13_code 22 = .ok (.getfield 19, 3) := by decide +kernel
theorem dWE_count_25 : decode prog_1_method_13_code 25 = .ok (.iload_n 1, 1) := by decide +kernel
theorem dWE_count_26 : decode prog_1_method_13_code 26 = .ok (.aload_n 0, 1) := by decide +kernel
theorem dWE_count_27 : decode prog_1_method_13_code 27 = .ok (.getfield 10, 3) := by decide +kernel
theorem dWE_count_30 : decode prog_1_method_13_code 30 = .ok (.getfield 68, 3) := by decide +kernel
theorem dWE_count_33 : decode prog_1_method_13_code 33 = .ok (.iload_n 2, 1) := by decide +kernel
theorem dWE_count_34 : decode prog_1_method_13_code 34 = .ok (.laload, 1) := by decide +kernel
theorem dWE_count_35 : decode prog_1_method_13_code 35 = .ok (.invokevirtual 132, 3) := by decide +kernel
theorem dWE_count_38 : decode prog_1_method_13_code 38 = .ok (.ireturn, 1) := by decide +kernel
theorem dShelf_timesOf_0 : decode prog_7_method_8_code 0 = .ok (.iconst 0, 1) := by decide +kernel
theorem dShelf_timesOf_1 : decode prog_7_method_8_code 1 = .ok (.istore 4, 2) := by decide +kernel
theorem dShelf_timesOf_3 : decode prog_7_method_8_code 3 = .ok (.aload_n 0, 1) := by decide +kernel
theorem dShelf_timesOf_4 : decode prog_7_method_8_code 4 = .ok (.getfield 11, 3) := by decide +kernel
theorem dShelf_timesOf_7 : decode prog_7_method_8_code 7 = .ok (.astore 5, 2) := by decide +kernel
theorem dShelf_timesOf_9 : decode prog_7_method_8_code 9 = .ok (.aload 5, 2) := by decide +kernel
theorem dShelf_timesOf_11 : decode prog_7_method_8_code 11 = .ok (.arraylength, 1) := by decide +kernel
theorem dShelf_timesOf_12 : decode prog_7_method_8_code 12 = .ok (.istore 6, 2) := by decide +kernel
theorem dShelf_timesOf_14 : decode prog_7_method_8_code 14 = .ok (.iconst 0, 1) := by decide +kernel
theorem dShelf_timesOf_15 : decode prog_7_method_8_code 15 = .ok (.istore 7, 2) := by decide +kernel
theorem dShelf_timesOf_17 : decode prog_7_method_8_code 17 = .ok (.iload 7, 2) := by decide +kernel
theorem dShelf_timesOf_19 : decode prog_7_method_8_code 19 = .ok (.iload 6, 2) := by decide +kernel
theorem dShelf_timesOf_21 : decode prog_7_method_8_code 21 = .ok (.if_icmp .ge 41, 3) := by decide +kernel
theorem dShelf_timesOf_24 : decode prog_7_method_8_code 24 = .ok (.aload 5, 2) := by decide +kernel
theorem dShelf_timesOf_26 : decode prog_7_method_8_code 26 = .ok (.iload 7, 2) := by decide +kernel
theorem dShelf_timesOf_28 : decode prog_7_method_8_code 28 = .ok (.aaload, 1) := by decide +kernel
theorem dShelf_timesOf_29 : decode prog_7_method_8_code 29 = .ok (.astore 8, 2) := by decide +kernel
theorem dShelf_timesOf_31 : decode prog_7_method_8_code 31 = .ok (.aload 8, 2) := by decide +kernel
theorem dShelf_timesOf_33 : decode prog_7_method_8_code 33 = .ok (.ifnull 23, 3) := by decide +kernel
theorem dShelf_timesOf_36 : decode prog_7_method_8_code 36 = .ok (.aload 8, 2) := by decide +kernel
theorem dShelf_timesOf_38 : decode prog_7_method_8_code 38 = .ok (.getfield 25, 3) := by decide +kernel
theorem dShelf_timesOf_41 : decode prog_7_method_8_code 41 = .ok (.iload_n 1, 1) := by decide +kernel
theorem dShelf_timesOf_42 : decode prog_7_method_8_code 42 = .ok (.if_icmp .ne 14, 3) := by decide +kernel
theorem dShelf_timesOf_45 : decode prog_7_method_8_code 45 = .ok (.iload 4, 2) := by decide +kernel
theorem dShelf_timesOf_47 : decode prog_7_method_8_code 47 = .ok (.aload 8, 2) := by decide +kernel
theorem dShelf_timesOf_49 : decode prog_7_method_8_code 49 = .ok (.lload_n 2, 1) := by decide +kernel
theorem dShelf_timesOf_50 : decode prog_7_method_8_code 50 = .ok (.invokevirtual 32, 3) := by decide +kernel
theorem dShelf_timesOf_53 : decode prog_7_method_8_code 53 = .ok (.iadd, 1) := by decide +kernel
theorem dShelf_timesOf_54 : decode prog_7_method_8_code 54 = .ok (.istore 4, 2) := by decide +kernel
theorem dShelf_timesOf_56 : decode prog_7_method_8_code 56 = .ok (.iinc 7 1, 3) := by decide +kernel
theorem dShelf_timesOf_59 : decode prog_7_method_8_code 59 = .ok (.goto (-42), 3) := by decide +kernel
theorem dShelf_timesOf_62 : decode prog_7_method_8_code 62 = .ok (.iload 4, 2) := by decide +kernel
theorem dShelf_timesOf_64 : decode prog_7_method_8_code 64 = .ok (.ireturn, 1) := by decide +kernel
theorem dDocument_timesOf_0 : decode prog_3_method_2_code 0 = .ok (.iconst 0, 1) := by decide +kernel
theorem dDocument_timesOf_1 : decode prog_3_method_2_code 1 = .ok (.istore_n 3, 1) := by decide +kernel
theorem dDocument_timesOf_2 : decode prog_3_method_2_code 2 = .ok (.aload_n 0, 1) := by decide +kernel
theorem dDocument_timesOf_3 : decode prog_3_method_2_code 3 = .ok (.getfield 13, 3) := by decide +kernel
theorem dDocument_timesOf_6 : decode prog_3_method_2_code 6 = .ok (.astore 4, 2) := by decide +kernel
theorem dDocument_timesOf_8 : decode prog_3_method_2_code 8 = .ok (.aload 4, 2) := by decide +kernel
theorem dDocument_timesOf_10 : decode prog_3_method_2_code 10 = .ok (.arraylength, 1) := by decide +kernel
theorem dDocument_timesOf_11 : decode prog_3_method_2_code 11 = .ok (.istore 5, 2) := by decide +kernel
theorem dDocument_timesOf_13 : decode prog_3_method_2_code 13 = .ok (.iconst 0, 1) := by decide +kernel
theorem dDocument_timesOf_14 : decode prog_3_method_2_code 14 = .ok (.istore 6, 2) := by decide +kernel
theorem dDocument_timesOf_16 : decode prog_3_method_2_code 16 = .ok (.iload 6, 2) := by decide +kernel
theorem dDocument_timesOf_18 : decode prog_3_method_2_code 18 = .ok (.iload 5, 2) := by decide +kernel
theorem dDocument_timesOf_20 : decode prog_3_method_2_code 20 = .ok (.if_icmp .ge 26, 3) := by decide +kernel
theorem dDocument_timesOf_23 : decode prog_3_method_2_code 23 = .ok (.aload 4, 2) := by decide +kernel
theorem dDocument_timesOf_25 : decode prog_3_method_2_code 25 = .ok (.iload 6, 2) := by decide +kernel
theorem dDocument_timesOf_27 : decode prog_3_method_2_code 27 = .ok (.laload, 1) := by decide +kernel
theorem dDocument_timesOf_28 : decode prog_3_method_2_code 28 = .ok (.lstore 7, 2) := by decide +kernel
theorem dDocument_timesOf_30 : decode prog_3_method_2_code 30 = .ok (.lload 7, 2) := by decide +kernel
theorem dDocument_timesOf_32 : decode prog_3_method_2_code 32 = .ok (.lload_n 1, 1) := by decide +kernel
theorem dDocument_timesOf_33 : decode prog_3_method_2_code 33 = .ok (.lcmp, 1) := by decide +kernel
theorem dDocument_timesOf_34 : decode prog_3_method_2_code 34 = .ok (.ifCond .ne 6, 3) := by decide +kernel
theorem dDocument_timesOf_37 : decode prog_3_method_2_code 37 = .ok (.iinc 3 1, 3) := by decide +kernel
theorem dDocument_timesOf_40 : decode prog_3_method_2_code 40 = .ok (.iinc 6 1, 3) := by decide +kernel
theorem dDocument_timesOf_43 : decode prog_3_method_2_code 43 = .ok (.goto (-27), 3) := by decide +kernel
theorem dDocument_timesOf_46 : decode prog_3_method_2_code 46 = .ok (.iload_n 3, 1) := by decide +kernel
theorem dDocument_timesOf_47 : decode prog_3_method_2_code 47 = .ok (.ireturn, 1) := by decide +kernel
theorem dWE_vocabulary_0 : decode prog_1_method_14_code 0 = .ok (.aload_n 0, 1) := by decide +kernel
theorem dWE_vocabulary_1 : decode prog_1_method_14_code 1 = .ok (.getfield 19, 3) := by decide +kernel
theorem dWE_vocabulary_4 : decode prog_1_method_14_code 4 = .ok (.invokevirtual 136, 3) := by decide +kernel
theorem dWE_vocabulary_7 : decode prog_1_method_14_code 7 = .ok (.ireturn, 1) := by decide +kernel
theorem dShelf_differentWords_0 : decode prog_7_method_9_code 0 = .ok (.iconst 0, 1) := by decide +kernel
theorem dShelf_differentWords_1 : decode prog_7_method_9_code 1 = .ok (.istore_n 1, 1) := by decide +kernel
theorem dShelf_differentWords_2 : decode prog_7_method_9_code 2 = .ok (.aload_n 0, 1) := by decide +kernel
theorem dShelf_differentWords_3 : decode prog_7_method_9_code 3 = .ok (.getfield 11, 3) := by decide +kernel
theorem dShelf_differentWords_6 : decode prog_7_method_9_code 6 = .ok (.astore_n 2, 1) := by decide +kernel
theorem dShelf_differentWords_7 : decode prog_7_method_9_code 7 = .ok (.aload_n 2, 1) := by decide +kernel
theorem dShelf_differentWords_8 : decode prog_7_method_9_code 8 = .ok (.arraylength, 1) := by decide +kernel
theorem dShelf_differentWords_9 : decode prog_7_method_9_code 9 = .ok (.istore_n 3, 1) := by decide +kernel
theorem dShelf_differentWords_10 : decode prog_7_method_9_code 10 = .ok (.iconst 0, 1) := by decide +kernel
theorem dShelf_differentWords_11 : decode prog_7_method_9_code 11 = .ok (.istore 4, 2) := by decide +kernel
theorem dShelf_differentWords_13 : decode prog_7_method_9_code 13 = .ok (.iload 4, 2) := by decide +kernel
theorem dShelf_differentWords_15 : decode prog_7_method_9_code 15 = .ok (.iload_n 3, 1) := by decide +kernel
theorem dShelf_differentWords_16 : decode prog_7_method_9_code 16 = .ok (.if_icmp .ge 28, 3) := by decide +kernel
theorem dShelf_differentWords_19 : decode prog_7_method_9_code 19 = .ok (.aload_n 2, 1) := by decide +kernel
theorem dShelf_differentWords_20 : decode prog_7_method_9_code 20 = .ok (.iload 4, 2) := by decide +kernel
theorem dShelf_differentWords_22 : decode prog_7_method_9_code 22 = .ok (.aaload, 1) := by decide +kernel
theorem dShelf_differentWords_23 : decode prog_7_method_9_code 23 = .ok (.astore 5, 2) := by decide +kernel
theorem dShelf_differentWords_25 : decode prog_7_method_9_code 25 = .ok (.aload 5, 2) := by decide +kernel
theorem dShelf_differentWords_27 : decode prog_7_method_9_code 27 = .ok (.ifnull 11, 3) := by decide +kernel
theorem dShelf_differentWords_30 : decode prog_7_method_9_code 30 = .ok (.aload_n 0, 1) := by decide +kernel
theorem dShelf_differentWords_31 : decode prog_7_method_9_code 31 = .ok (.aload 5, 2) := by decide +kernel
theorem dShelf_differentWords_33 : decode prog_7_method_9_code 33 = .ok (.iload_n 1, 1) := by decide +kernel
theorem dShelf_differentWords_34 : decode prog_7_method_9_code 34 = .ok (.invokevirtual 36, 3) := by decide +kernel
theorem dShelf_differentWords_37 : decode prog_7_method_9_code 37 = .ok (.istore_n 1, 1) := by decide +kernel
theorem dShelf_differentWords_38 : decode prog_7_method_9_code 38 = .ok (.iinc 4 1, 3) := by decide +kernel
theorem dShelf_differentWords_41 : decode prog_7_method_9_code 41 = .ok (.goto (-28), 3) := by decide +kernel
theorem dShelf_differentWords_44 : decode prog_7_method_9_code 44 = .ok (.iload_n 1, 1) := by decide +kernel
theorem dShelf_differentWords_45 : decode prog_7_method_9_code 45 = .ok (.ireturn, 1) := by decide +kernel
theorem dShelf_noteNewWords_0 : decode prog_7_method_10_code 0 = .ok (.iload_n 2, 1) := by decide +kernel
theorem dShelf_noteNewWords_1 : decode prog_7_method_10_code 1 = .ok (.istore_n 3, 1) := by decide +kernel
theorem dShelf_noteNewWords_2 : decode prog_7_method_10_code 2 = .ok (.aload_n 1, 1) := by decide +kernel
theorem dShelf_noteNewWords_3 : decode prog_7_method_10_code 3 = .ok (.getfield 29, 3) := by decide +kernel
theorem dShelf_noteNewWords_6 : decode prog_7_method_10_code 6 = .ok (.astore 4, 2) := by decide +kernel
theorem dShelf_noteNewWords_8 : decode prog_7_method_10_code 8 = .ok (.aload 4, 2) := by decide +kernel
theorem dShelf_noteNewWords_10 : decode prog_7_method_10_code 10 = .ok (.arraylength, 1) := by decide +kernel
theorem dShelf_noteNewWords_11 : decode prog_7_method_10_code 11 = .ok (.istore 5, 2) := by decide +kernel
theorem dShelf_noteNewWords_13 : decode prog_7_method_10_code 13 = .ok (.iconst 0, 1) := by decide +kernel
theorem dShelf_noteNewWords_14 : decode prog_7_method_10_code 14 = .ok (.istore 6, 2) := by decide +kernel
theorem dShelf_noteNewWords_16 : decode prog_7_method_10_code 16 = .ok (.iload 6, 2) := by decide +kernel
theorem dShelf_noteNewWords_18 : decode prog_7_method_10_code 18 = .ok (.iload 5, 2) := by decide +kernel
theorem dShelf_noteNewWords_20 : decode prog_7_method_10_code 20 = .ok (.if_icmp .ge 46, 3) := by decide +kernel
theorem dShelf_noteNewWords_23 : decode prog_7_method_10_code 23 = .ok (.aload 4, 2) := by decide +kernel
theorem dShelf_noteNewWords_25 : decode prog_7_method_10_code 25 = .ok (.iload 6, 2) := by decide +kernel
theorem dShelf_noteNewWords_27 : decode prog_7_method_10_code 27 = .ok (.laload, 1) := by decide +kernel
theorem dShelf_noteNewWords_28 : decode prog_7_method_10_code 28 = .ok (.lstore 7, 2) := by decide +kernel
theorem dShelf_noteNewWords_30 : decode prog_7_method_10_code 30 = .ok (.iload_n 3, 1) := by decide +kernel
theorem dShelf_noteNewWords_31 : decode prog_7_method_10_code 31 = .ok (.aload_n 0, 1) := by decide +kernel
theorem dShelf_noteNewWords_32 : decode prog_7_method_10_code 32 = .ok (.getfield 17, 3) := by decide +kernel
theorem dShelf_noteNewWords_35 : decode prog_7_method_10_code 35 = .ok (.arraylength, 1) := by decide +kernel
theorem dShelf_noteNewWords_36 : decode prog_7_method_10_code 36 = .ok (.if_icmp .ge 24, 3) := by decide +kernel
theorem dShelf_noteNewWords_39 : decode prog_7_method_10_code 39 = .ok (.aload_n 0, 1) := by decide +kernel
theorem dShelf_noteNewWords_40 : decode prog_7_method_10_code 40 = .ok (.lload 7, 2) := by decide +kernel
theorem dShelf_noteNewWords_42 : decode prog_7_method_10_code 42 = .ok (.iload_n 3, 1) := by decide +kernel
theorem dShelf_noteNewWords_43 : decode prog_7_method_10_code 43 = .ok (.invokevirtual 40, 3) := by decide +kernel
theorem dShelf_noteNewWords_46 : decode prog_7_method_10_code 46 = .ok (.ifCond .ne 14, 3) := by decide +kernel
theorem dShelf_noteNewWords_49 : decode prog_7_method_10_code 49 = .ok (.aload_n 0, 1) := by decide +kernel
theorem dShelf_noteNewWords_50 : decode prog_7_method_10_code 50 = .ok (.getfield 17, 3) := by decide +kernel
theorem dShelf_noteNewWords_53 : decode prog_7_method_10_code 53 = .ok (.iload_n 3, 1) := by decide +kernel
theorem dShelf_noteNewWords_54 : decode prog_7_method_10_code 54 = .ok (.lload 7, 2) := by decide +kernel
theorem dShelf_noteNewWords_56 : decode prog_7_method_10_code 56 = .ok (.lastore, 1) := by decide +kernel
theorem dShelf_noteNewWords_57 : decode prog_7_method_10_code 57 = .ok (.iinc 3 1, 3) := by decide +kernel
theorem dShelf_noteNewWords_60 : decode prog_7_method_10_code 60 = .ok (.iinc 6 1, 3) := by decide +kernel
theorem dShelf_noteNewWords_63 : decode prog_7_method_10_code 63 = .ok (.goto (-47), 3) := by decide +kernel
theorem dShelf_noteNewWords_66 : decode prog_7_method_10_code 66 = .ok (.iload_n 3, 1) := by decide +kernel
theorem dShelf_noteNewWords_67 : decode prog_7_method_10_code 67 = .ok (.ireturn, 1) := by decide +kernel
theorem dShelf_isSeen_0 : decode prog_7_method_11_code 0 = .ok (.iconst 0, 1) := by decide +kernel
theorem dShelf_isSeen_1 : decode prog_7_method_11_code 1 = .ok (.istore 4, 2) := by decide +kernel
theorem dShelf_isSeen_3 : decode prog_7_method_11_code 3 = .ok (.iload 4, 2) := by decide +kernel
theorem dShelf_isSeen_5 : decode prog_7_method_11_code 5 = .ok (.iload_n 3, 1) := by decide +kernel
theorem dShelf_isSeen_6 : decode prog_7_method_11_code 6 = .ok (.if_icmp .ge 23, 3) := by decide +kernel
theorem dShelf_isSeen_9 : decode prog_7_method_11_code 9 = .ok (.aload_n 0, 1) := by decide +kernel
theorem dShelf_isSeen_10 : decode prog_7_method_11_code 10 = .ok (.getfield 17, 3) := by decide +kernel
theorem dShelf_isSeen_13 : decode prog_7_method_11_code 13 = .ok (.iload 4, 2) := by decide +kernel
theorem dShelf_isSeen_15 : decode prog_7_method_11_code 15 = .ok (.laload, 1) := by decide +kernel
theorem dShelf_isSeen_16 : decode prog_7_method_11_code 16 = .ok (.lload_n 1, 1) := by decide +kernel
theorem dShelf_isSeen_17 : decode prog_7_method_11_code 17 = .ok (.lcmp, 1) := by decide +kernel
theorem dShelf_isSeen_18 : decode prog_7_method_11_code 18 = .ok (.ifCond .ne 5, 3) := by decide +kernel
theorem dShelf_isSeen_21 : decode prog_7_method_11_code 21 = .ok (.iconst 1, 1) := by decide +kernel
theorem dShelf_isSeen_22 : decode prog_7_method_11_code 22 = .ok (.ireturn, 1) := by decide +kernel
theorem dShelf_isSeen_23 : decode prog_7_method_11_code 23 = .ok (.iinc 4 1, 3) := by decide +kernel
theorem dShelf_isSeen_26 : decode prog_7_method_11_code 26 = .ok (.goto (-23), 3) := by decide +kernel
theorem dShelf_isSeen_29 : decode prog_7_method_11_code 29 = .ok (.iconst 0, 1) := by decide +kernel
theorem dShelf_isSeen_30 : decode prog_7_method_11_code 30 = .ok (.ireturn, 1) := by decide +kernel
theorem dWE_label_0 : decode prog_1_method_15_code 0 = .ok (.aload_n 0, 1) := by decide +kernel
theorem dWE_label_1 : decode prog_1_method_15_code 1 = .ok (.getfield 19, 3) := by decide +kernel
theorem dWE_label_4 : decode prog_1_method_15_code 4 = .ok (.iload_n 1, 1) := by decide +kernel
theorem dWE_label_5 : decode prog_1_method_15_code 5 = .ok (.invokevirtual 84, 3) := by decide +kernel
theorem dWE_label_8 : decode prog_1_method_15_code 8 = .ok (.astore_n 2, 1) := by decide +kernel
theorem dWE_label_9 : decode prog_1_method_15_code 9 = .ok (.aload_n 2, 1) := by decide +kernel
theorem dWE_label_10 : decode prog_1_method_15_code 10 = .ok (.ifnonnull 7, 3) := by decide +kernel
theorem dWE_label_13 : decode prog_1_method_15_code 13 = .ok (.iconst (-1), 1) := by decide +kernel
theorem dWE_label_14 : decode prog_1_method_15_code 14 = .ok (.goto 7, 3) := by decide +kernel
theorem dWE_label_17 : decode prog_1_method_15_code 17 = .ok (.aload_n 2, 1) := by decide +kernel
theorem dWE_label_18 : decode prog_1_method_15_code 18 = .ok (.getfield 111, 3) := by decide +kernel
theorem dWE_label_21 : decode prog_1_method_15_code 21 = .ok (.ireturn, 1) := by decide +kernel
theorem dWE_classify_0 : decode prog_1_method_16_code 0 = .ok (.aload_n 0, 1) := by decide +kernel
theorem dWE_classify_1 : decode prog_1_method_16_code 1 = .ok (.getfield 19, 3) := by decide +kernel
theorem dWE_classify_4 : decode prog_1_method_16_code 4 = .ok (.invokevirtual 88, 3) := by decide +kernel
theorem dWE_classify_7 : decode prog_1_method_16_code 7 = .ok (.ifCond .ne 7, 3) := by decide +kernel
theorem dWE_classify_10 : decode prog_1_method_16_code 10 = .ok (.iconst (-1), 1) := by decide +kernel
theorem dWE_classify_11 : decode prog_1_method_16_code 11 = .ok (.goto 8, 3) := by decide +kernel
theorem dWE_classify_14 : decode prog_1_method_16_code 14 = .ok (.aload_n 0, 1) := by decide +kernel
theorem dWE_classify_15 : decode prog_1_method_16_code 15 = .ok (.iconst 0, 1) := by decide +kernel
theorem dWE_classify_16 : decode prog_1_method_16_code 16 = .ok (.invokevirtual 139, 3) := by decide +kernel
theorem dWE_classify_19 : decode prog_1_method_16_code 19 = .ok (.ireturn, 1) := by decide +kernel
theorem dWE_order_0 : decode prog_1_method_17_code 0 = .ok (.aload_n 0, 1) := by decide +kernel
theorem dWE_order_1 : decode prog_1_method_17_code 1 = .ok (.iload_n 1, 1) := by decide +kernel
theorem dWE_order_2 : decode prog_1_method_17_code 2 = .ok (.invokevirtual 81, 3) := by decide +kernel
theorem dWE_order_5 : decode prog_1_method_17_code 5 = .ok (.ifCond .ne 5, 3) := by decide +kernel
theorem dWE_order_8 : decode prog_1_method_17_code 8 = .ok (.iconst (-1), 1) := by decide +kernel
theorem dWE_order_9 : decode prog_1_method_17_code 9 = .ok (.ireturn, 1) := by decide +kernel
theorem dWE_order_10 : decode prog_1_method_17_code 10 = .ok (.aload_n 0, 1) := by decide +kernel
theorem dWE_order_11 : decode prog_1_method_17_code 11 = .ok (.getfield 36, 3) := by decide +kernel
theorem dWE_order_14 : decode prog_1_method_17_code 14 = .ok (.aload_n 0, 1) := by decide +kernel
theorem dWE_order_15 : decode prog_1_method_17_code 15 = .ok (.getfield 19, 3) := by decide +kernel
theorem dWE_order_18 : decode prog_1_method_17_code 18 = .ok (.aload_n 0, 1) := by decide +kernel
theorem dWE_order_19 : decode prog_1_method_17_code 19 = .ok (.getfield 10, 3) := by decide +kernel
theorem dWE_order_22 : decode prog_1_method_17_code 22 = .ok (.aload_n 0, 1) := by decide +kernel
theorem dWE_order_23 : decode prog_1_method_17_code 23 = .ok (.getfield 49, 3) := by decide +kernel
theorem dWE_order_26 : decode prog_1_method_17_code 26 = .ok (.invokevirtual 142, 3) := by decide +kernel
theorem dWE_order_29 : decode prog_1_method_17_code 29 = .ok (.aload_n 0, 1) := by decide +kernel
theorem dWE_order_30 : decode prog_1_method_17_code 30 = .ok (.getfield 36, 3) := by decide +kernel
theorem dWE_order_33 : decode prog_1_method_17_code 33 = .ok (.iload_n 1, 1) := by decide +kernel
theorem dWE_order_34 : decode prog_1_method_17_code 34 = .ok (.invokevirtual 146, 3) := by decide +kernel
theorem dWE_order_37 : decode prog_1_method_17_code 37 = .ok (.ireturn, 1) := by decide +kernel
theorem dChances_weigh_0 : decode prog_2_method_2_code 0 = .ok (.aload_n 0, 1) := by decide +kernel
theorem dChances_weigh_1 : decode prog_2_method_2_code 1 = .ok (.iload_n 3, 1) := by decide +kernel
theorem dChances_weigh_2 : decode prog_2_method_2_code 2 = .ok (.putfield 33, 3) := by decide +kernel
theorem dChances_weigh_5 : decode prog_2_method_2_code 5 = .ok (.aload_n 0, 1) := by decide +kernel
theorem dChances_weigh_6 : decode prog_2_method_2_code 6 = .ok (.aload_n 2, 1) := by decide +kernel
theorem dChances_weigh_7 : decode prog_2_method_2_code 7 = .ok (.getfield 40, 3) := by decide +kernel
theorem dChances_weigh_10 : decode prog_2_method_2_code 10 = .ok (.putfield 37, 3) := by decide +kernel
theorem dChances_weigh_13 : decode prog_2_method_2_code 13 = .ok (.aload_n 1, 1) := by decide +kernel
theorem dChances_weigh_14 : decode prog_2_method_2_code 14 = .ok (.invokevirtual 43, 3) := by decide +kernel
theorem dChances_weigh_17 : decode prog_2_method_2_code 17 = .ok (.istore 4, 2) := by decide +kernel
theorem dChances_weigh_19 : decode prog_2_method_2_code 19 = .ok (.iconst 0, 1) := by decide +kernel
theorem dChances_weigh_20 : decode prog_2_method_2_code 20 = .ok (.istore 5, 2) := by decide +kernel
theorem dChances_weigh_22 : decode prog_2_method_2_code 22 = .ok (.iload 5, 2) := by decide +kernel
theorem dChances_weigh_24 : decode prog_2_method_2_code 24 = .ok (.aload_n 0, 1) := by decide +kernel
theorem dChances_weigh_25 : decode prog_2_method_2_code 25 = .ok (.getfield 33, 3) := by decide +kernel
theorem dChances_weigh_28 : decode prog_2_method_2_code 28 = .ok (.if_icmp .ge 83, 3) := by decide +kernel
theorem dChances_weigh_31 : decode prog_2_method_2_code 31 = .ok (.aload_n 0, 1) := by decide +kernel
theorem dChances_weigh_32 : decode prog_2_method_2_code 32 = .ok (.getfield 9, 3) := by decide +kernel
theorem dChances_weigh_35 : decode prog_2_method_2_code 35 = .ok (.iload 5, 2) := by decide +kernel
theorem dChances_weigh_37 : decode prog_2_method_2_code 37 = .ok (.aload_n 1, 1) := by decide +kernel
theorem dChances_weigh_38 : decode prog_2_method_2_code 38 = .ok (.iload 5, 2) := by decide +kernel
theorem dChances_weigh_40 : decode prog_2_method_2_code 40 = .ok (.invokevirtual 49, 3) := by decide +kernel
theorem dChances_weigh_43 : decode prog_2_method_2_code 43 = .ok (.iastore, 1) := by decide +kernel
theorem dChances_weigh_44 : decode prog_2_method_2_code 44 = .ok (.aload_n 0, 1) := by decide +kernel
theorem dChances_weigh_45 : decode prog_2_method_2_code 45 = .ok (.getfield 20, 3) := by decide +kernel
theorem dChances_weigh_48 : decode prog_2_method_2_code 48 = .ok (.iload 5, 2) := by decide +kernel
theorem dChances_weigh_50 : decode prog_2_method_2_code 50 = .ok (.aload_n 1, 1) := by decide +kernel
theorem dChances_weigh_51 : decode prog_2_method_2_code 51 = .ok (.iload 5, 2) := by decide +kernel
theorem dChances_weigh_53 : decode prog_2_method_2_code 53 = .ok (.invokevirtual 53, 3) := by decide +kernel
theorem dChances_weigh_56 : decode prog_2_method_2_code 56 = .ok (.iload 4, 2) := by decide +kernel
theorem dChances_weigh_58 : decode prog_2_method_2_code 58 = .ok (.iadd, 1) := by decide +kernel
theorem dChances_weigh_59 : decode prog_2_method_2_code 59 = .ok (.iconst 1, 1) := by decide +kernel
theorem dChances_weigh_60 : decode prog_2_method_2_code 60 = .ok (.iadd, 1) := by decide +kernel
theorem dChances_weigh_61 : decode prog_2_method_2_code 61 = .ok (.iastore, 1) := by decide +kernel
theorem dChances_weigh_62 : decode prog_2_method_2_code 62 = .ok (.iconst 0, 1) := by decide +kernel
theorem dChances_weigh_63 : decode prog_2_method_2_code 63 = .ok (.istore 6, 2) := by decide +kernel
theorem dChances_weigh_65 : decode prog_2_method_2_code 65 = .ok (.iload 6, 2) := by decide +kernel
theorem dChances_weigh_67 : decode prog_2_method_2_code 67 = .ok (.aload_n 0, 1) := by decide +kernel
theorem dChances_weigh_68 : decode prog_2_method_2_code 68 = .ok (.getfield 37, 3) := by decide +kernel
theorem dChances_weigh_71 : decode prog_2_method_2_code 71 = .ok (.if_icmp .ge 34, 3) := by decide +kernel
theorem dChances_weigh_74 : decode prog_2_method_2_code 74 = .ok (.aload_n 0, 1) := by decide +kernel
theorem dChances_weigh_75 : decode prog_2_method_2_code 75 = .ok (.getfield 17, 3) := by decide +kernel
theorem dChances_weigh_78 : decode prog_2_method_2_code 78 = .ok (.iload 5, 2) := by decide +kernel
theorem dChances_weigh_80 : decode prog_2_method_2_code 80 = .ok (.aaload, 1) := by decide +kernel
theorem dChances_weigh_81 : decode prog_2_method_2_code 81 = .ok (.iload 6, 2) := by decide +kernel
theorem dChances_weigh_83 : decode prog_2_method_2_code 83 = .ok (.aload_n 1, 1) := by decide +kernel
theorem dChances_weigh_84 : decode prog_2_method_2_code 84 = .ok (.iload 5, 2) := by decide +kernel
theorem dChances_weigh_86 : decode prog_2_method_2_code 86 = .ok (.aload_n 2, 1) := by decide +kernel
theorem dChances_weigh_87 : decode prog_2_method_2_code 87 = .ok (.getfield 56, 3) := by decide +kernel
theorem dChances_weigh_90 : decode prog_2_method_2_code 90 = .ok (.iload 6, 2) := by decide +kernel
theorem dChances_weigh_92 : decode prog_2_method_2_code 92 = .ok (.laload, 1) := by decide +kernel
theorem dChances_weigh_93 : decode prog_2_method_2_code 93 = .ok (.invokevirtual 60, 3) := by decide +kernel
theorem dChances_weigh_96 : decode prog_2_method_2_code 96 = .ok (.iconst 1, 1) := by decide +kernel
theorem dChances_weigh_97 : decode prog_2_method_2_code 97 = .ok (.iadd, 1) := by decide +kernel
theorem dChances_weigh_98 : decode prog_2_method_2_code 98 = .ok (.iastore, 1) := by decide +kernel
theorem dChances_weigh_99 : decode prog_2_method_2_code 99 = .ok (.iinc 6 1, 3) := by decide +kernel
theorem dChances_weigh_102 : decode prog_2_method_2_code 102 = .ok (.goto (-37), 3) := by decide +kernel
theorem dChances_weigh_105 : decode prog_2_method_2_code 105 = .ok (.iinc 5 1, 3) := by decide +kernel
theorem dChances_weigh_108 : decode prog_2_method_2_code 108 = .ok (.goto (-86), 3) := by decide +kernel
theorem dChances_weigh_111 : decode prog_2_method_2_code 111 = .ok (.return_, 1) := by decide +kernel
theorem dChances_classAt_0 : decode prog_2_method_3_code 0 = .ok (.iconst 0, 1) := by decide +kernel
theorem dChances_classAt_1 : decode prog_2_method_3_code 1 = .ok (.istore_n 2, 1) := by decide +kernel
theorem dChances_classAt_2 : decode prog_2_method_3_code 2 = .ok (.iload_n 2, 1) := by decide +kernel
theorem dChances_classAt_3 : decode prog_2_method_3_code 3 = .ok (.aload_n 0, 1) := by decide +kernel
theorem dChances_classAt_4 : decode prog_2_method_3_code 4 = .ok (.getfield 33, 3) := by decide +kernel
theorem dChances_classAt_7 : decode prog_2_method_3_code 7 = .ok (.if_icmp .ge 20, 3) := by decide +kernel
theorem dChances_classAt_10 : decode prog_2_method_3_code 10 = .ok (.aload_n 0, 1) := by decide +kernel
theorem dChances_classAt_11 : decode prog_2_method_3_code 11 = .ok (.iload_n 2, 1) := by decide +kernel
theorem dChances_classAt_12 : decode prog_2_method_3_code 12 = .ok (.invokevirtual 64, 3) := by decide +kernel
theorem dChances_classAt_15 : decode prog_2_method_3_code 15 = .ok (.iload_n 1, 1) := by decide +kernel
theorem dChances_classAt_16 : decode prog_2_method_3_code 16 = .ok (.if_icmp .ne 5, 3) := by decide +kernel
theorem dChances_classAt_19 : decode prog_2_method_3_code 19 = .ok (.iload_n 2, 1) := by decide +kernel
theorem dChances_classAt_20 : decode prog_2_method_3_code 20 = .ok (.ireturn, 1) := by decide +kernel
theorem dChances_classAt_21 : decode prog_2_method_3_code 21 = .ok (.iinc 2 1, 3) := by decide +kernel
theorem dChances_classAt_24 : decode prog_2_method_3_code 24 = .ok (.goto (-22), 3) := by decide +kernel
theorem dChances_classAt_27 : decode prog_2_method_3_code 27 = .ok (.iconst (-1), 1) := by decide +kernel
theorem dChances_classAt_28 : decode prog_2_method_3_code 28 = .ok (.ireturn, 1) := by decide +kernel
theorem dChances_placeOf_0 : decode prog_2_method_4_code 0 = .ok (.iconst 0, 1) := by decide +kernel
theorem dChances_placeOf_1 : decode prog_2_method_4_code 1 = .ok (.istore_n 2, 1) := by decide +kernel
theorem dChances_placeOf_2 : decode prog_2_method_4_code 2 = .ok (.iconst 0, 1) := by decide +kernel
theorem dChances_placeOf_3 : decode prog_2_method_4_code 3 = .ok (.istore_n 3, 1) := by decide +kernel
theorem dChances_placeOf_4 : decode prog_2_method_4_code 4 = .ok (.iload_n 3, 1) := by decide +kernel
theorem dChances_placeOf_5 : decode prog_2_method_4_code 5 = .ok (.aload_n 0, 1) := by decide +kernel
theorem dChances_placeOf_6 : decode prog_2_method_4_code 6 = .ok (.getfield 33, 3) := by decide +kernel
theorem dChances_placeOf_9 : decode prog_2_method_4_code 9 = .ok (.if_icmp .ge 35, 3) := by decide +kernel
theorem dChances_placeOf_12 : decode prog_2_method_4_code 12 = .ok (.aload_n 0, 1) := by decide +kernel
theorem dChances_placeOf_13 : decode prog_2_method_4_code 13 = .ok (.iload_n 3, 1) := by decide +kernel
theorem dChances_placeOf_14 : decode prog_2_method_4_code 14 = .ok (.iload_n 1, 1) := by decide +kernel
theorem dChances_placeOf_15 : decode prog_2_method_4_code 15 = .ok (.invokevirtual 67, 3) := by decide +kernel
theorem dChances_placeOf_18 : decode prog_2_method_4_code 18 = .ok (.istore 4, 2) := by decide +kernel
theorem dChances_placeOf_20 : decode prog_2_method_4_code 20 = .ok (.iload 4, 2) := by decide +kernel
theorem dChances_placeOf_22 : decode prog_2_method_4_code 22 = .ok (.ifCond .gt 13, 3) := by decide +kernel
theorem dChances_placeOf_25 : decode prog_2_method_4_code 25 = .ok (.iload 4, 2) := by decide +kernel
theorem dChances_placeOf_27 : decode prog_2_method_4_code 27 = .ok (.ifCond .ne 11, 3) := by decide +kernel
theorem dChances_placeOf_30 : decode prog_2_method_4_code 30 = .ok (.iload_n 3, 1) := by decide +kernel
theorem dChances_placeOf_31 : decode prog_2_method_4_code 31 = .ok (.iload_n 1, 1) := by decide +kernel
theorem dChances_placeOf_32 : decode prog_2_method_4_code 32 = .ok (.if_icmp .ge 6, 3) := by decide +kernel
theorem dChances_placeOf_35 : decode prog_2_method_4_code 35 = .ok (.iinc 2 1, 3) := by decide +kernel
theorem dChances_placeOf_38 : decode prog_2_method_4_code 38 = .ok (.iinc 3 1, 3) := by decide +kernel
theorem dChances_placeOf_41 : decode prog_2_method_4_code 41 = .ok (.goto (-37), 3) := by decide +kernel
theorem dChances_placeOf_44 : decode prog_2_method_4_code 44 = .ok (.iload_n 2, 1) := by decide +kernel
theorem dChances_placeOf_45 : decode prog_2_method_4_code 45 = .ok (.ireturn, 1) := by decide +kernel
theorem dChances_signOf_0 : decode prog_2_method_5_code 0 = .ok (.aload_n 0, 1) := by decide +kernel
theorem dChances_signOf_1 : decode prog_2_method_5_code 1 = .ok (.aload_n 0, 1) := by decide +kernel
theorem dChances_signOf_2 : decode prog_2_method_5_code 2 = .ok (.getfield 26, 3) := by decide +kernel
theorem dChances_signOf_5 : decode prog_2_method_5_code 5 = .ok (.iload_n 1, 1) := by decide +kernel
theorem dChances_signOf_6 : decode prog_2_method_5_code 6 = .ok (.iload_n 2, 1) := by decide +kernel
theorem dChances_signOf_7 : decode prog_2_method_5_code 7 = .ok (.invokevirtual 71, 3) := by decide +kernel
theorem dChances_signOf_10 : decode prog_2_method_5_code 10 = .ok (.aload_n 0, 1) := by decide +kernel
theorem dChances_signOf_11 : decode prog_2_method_5_code 11 = .ok (.aload_n 0, 1) := by decide +kernel
theorem dChances_signOf_12 : decode prog_2_method_5_code 12 = .ok (.getfield 30, 3) := by decide +kernel
theorem dChances_signOf_15 : decode prog_2_method_5_code 15 = .ok (.iload_n 2, 1) := by decide +kernel
theorem dChances_signOf_16 : decode prog_2_method_5_code 16 = .ok (.iload_n 1, 1) := by decide +kernel
theorem dChances_signOf_17 : decode prog_2_method_5_code 17 = .ok (.invokevirtual 71, 3) := by decide +kernel
theorem dChances_signOf_20 : decode prog_2_method_5_code 20 = .ok (.aload_n 0, 1) := by decide +kernel
theorem dChances_signOf_21 : decode prog_2_method_5_code 21 = .ok (.getfield 26, 3) := by decide +kernel
theorem dChances_signOf_24 : decode prog_2_method_5_code 24 = .ok (.aload_n 0, 1) := by decide +kernel
theorem dChances_signOf_25 : decode prog_2_method_5_code 25 = .ok (.getfield 30, 3) := by decide +kernel
theorem dChances_signOf_28 : decode prog_2_method_5_code 28 = .ok (.invokevirtual 75, 3) := by decide +kernel
theorem dChances_signOf_31 : decode prog_2_method_5_code 31 = .ok (.ireturn, 1) := by decide +kernel
theorem dChances_multiplyOut_0 : decode prog_2_method_6_code 0 = .ok (.aload_n 1, 1) := by decide +kernel
theorem dChances_multiplyOut_1 : decode prog_2_method_6_code 1 = .ok (.aload_n 0, 1) := by decide +kernel
theorem dChances_multiplyOut_2 : decode prog_2_method_6_code 2 = .ok (.getfield 9, 3) := by decide +kernel
theorem dChances_multiplyOut_5 : decode prog_2_method_6_code 5 = .ok (.iload_n 2, 1) := by decide +kernel
theorem dChances_multiplyOut_6 : decode prog_2_method_6_code 6 = .ok (.iaload, 1) := by decide +kernel
theorem dChances_multiplyOut_7 : decode prog_2_method_6_code 7 = .ok (.invokevirtual 79, 3) := by decide +kernel
theorem dChances_multiplyOut_10 : decode prog_2_method_6_code 10 = .ok (.iconst 0, 1) := by decide +kernel
theorem dChances_multiplyOut_11 : decode prog_2_method_6_code 11 = .ok (.istore 4, 2) := by decide +kernel
theorem dChances_multiplyOut_13 : decode prog_2_method_6_code 13 = .ok (.iload 4, 2) := by decide +kernel
theorem dChances_multiplyOut_15 : decode prog_2_method_6_code 15 = .ok (.aload_n 0, 1) := by decide +kernel
theorem dChances_multiplyOut_16 : decode prog_2_method_6_code 16 = .ok (.getfield 37, 3) := by decide +kernel
theorem dChances_multiplyOut_19 : decode prog_2_method_6_code 19 = .ok (.if_icmp .ge 32, 3) := by decide +kernel
theorem dChances_multiplyOut_22 : decode prog_2_method_6_code 22 = .ok (.aload_n 1, 1) := by decide +kernel
theorem dChances_multiplyOut_23 : decode prog_2_method_6_code 23 = .ok (.aload_n 0, 1) := by decide +kernel
theorem dChances_multiplyOut_24 : decode prog_2_method_6_code 24 = .ok (.getfield 17, 3) := by decide +kernel
theorem dChances_multiplyOut_27 : decode prog_2_method_6_code 27 = .ok (.iload_n 2, 1) := by decide +kernel
theorem dChances_multiplyOut_28 : decode prog_2_method_6_code 28 = .ok (.aaload, 1) := by decide +kernel
theorem dChances_multiplyOut_29 : decode prog_2_method_6_code 29 = .ok (.iload 4, 2) := by decide +kernel
theorem dChances_multiplyOut_31 : decode prog_2_method_6_code 31 = .ok (.iaload, 1) := by decide +kernel
theorem dChances_multiplyOut_32 : decode prog_2_method_6_code 32 = .ok (.invokevirtual 83, 3) := by decide +kernel
theorem dChances_multiplyOut_35 : decode prog_2_method_6_code 35 = .ok (.aload_n 1, 1) := by decide +kernel
theorem dChances_multiplyOut_36 : decode prog_2_method_6_code 36 = .ok (.aload_n 0, 1) := by decide +kernel
theorem dChances_multiplyOut_37 : decode prog_2_method_6_code 37 = .ok (.getfield 20, 3) := by decide +kernel
theorem dChances_multiplyOut_40 : decode prog_2_method_6_code 40 = .ok (.iload_n 3, 1) := by decide +kernel
theorem dChances_multiplyOut_41 : decode prog_2_method_6_code 41 = .ok (.iaload, 1) := by decide +kernel
theorem dChances_multiplyOut_42 : decode prog_2_method_6_code 42 = .ok (.invokevirtual 83, 3) := by decide +kernel
theorem dChances_multiplyOut_45 : decode prog_2_method_6_code 45 = .ok (.iinc 4 1, 3) := by decide +kernel
theorem dChances_multiplyOut_48 : decode prog_2_method_6_code 48 = .ok (.goto (-35), 3) := by decide +kernel
theorem dChances_multiplyOut_51 : decode prog_2_method_6_code 51 = .ok (.return_, 1) := by decide +kernel
theorem dProduct_start_0 : decode prog_6_method_2_code 0 = .ok (.aload_n 0, 1) := by decide +kernel
theorem dProduct_start_1 : decode prog_6_method_2_code 1 = .ok (.getfield 9, 3) := by decide +kernel
theorem dProduct_start_4 : decode prog_6_method_2_code 4 = .ok (.lconst 0, 1) := by decide +kernel
theorem dProduct_start_5 : decode prog_6_method_2_code 5 = .ok (.invokestatic 13, 3) := by decide +kernel
theorem dProduct_start_8 : decode prog_6_method_2_code 8 = .ok (.aload_n 0, 1) := by decide +kernel
theorem dProduct_start_9 : decode prog_6_method_2_code 9 = .ok (.getfield 9, 3) := by decide +kernel
theorem dProduct_start_12 : decode prog_6_method_2_code 12 = .ok (.iconst 0, 1) := by decide +kernel
theorem dProduct_start_13 : decode prog_6_method_2_code 13 = .ok (.iload_n 1, 1) := by decide +kernel
theorem dProduct_start_14 : decode prog_6_method_2_code 14 = .ok (.i2l, 1) := by decide +kernel
theorem dProduct_start_15 : decode prog_6_method_2_code 15 = .ok (.lastore, 1) := by decide +kernel
theorem dProduct_start_16 : decode prog_6_method_2_code 16 = .ok (.return_, 1) := by decide +kernel
theorem dArrays_fill_0 : decode prog_14_method_101_code 0 = .ok (.iconst 0, 1) := by decide +kernel
theorem dArrays_fill_1 : decode prog_14_method_101_code 1 = .ok (.istore_n 3, 1) := by decide +kernel
theorem dArrays_fill_2 : decode prog_14_method_101_code 2 = .ok (.aload_n 0, 1) := by decide +kernel
theorem dArrays_fill_3 : decode prog_14_method_101_code 3 = .ok (.arraylength, 1) := by decide +kernel
theorem dArrays_fill_4 : decode prog_14_method_101_code 4 = .ok (.istore 4, 2) := by decide +kernel
theorem dArrays_fill_6 : decode prog_14_method_101_code 6 = .ok (.iload_n 3, 1) := by decide +kernel
theorem dArrays_fill_7 : decode prog_14_method_101_code 7 = .ok (.iload 4, 2) := by decide +kernel
theorem dArrays_fill_9 : decode prog_14_method_101_code 9 = .ok (.if_icmp .ge 13, 3) := by decide +kernel
theorem dArrays_fill_12 : decode prog_14_method_101_code 12 = .ok (.aload_n 0, 1) := by decide +kernel
theorem dArrays_fill_13 : decode prog_14_method_101_code 13 = .ok (.iload_n 3, 1) := by decide +kernel
theorem dArrays_fill_14 : decode prog_14_method_101_code 14 = .ok (.lload_n 1, 1) := by decide +kernel
theorem dArrays_fill_15 : decode prog_14_method_101_code 15 = .ok (.lastore, 1) := by decide +kernel
theorem dArrays_fill_16 : decode prog_14_method_101_code 16 = .ok (.iinc 3 1, 3) := by decide +kernel
theorem dArrays_fill_19 : decode prog_14_method_101_code 19 = .ok (.goto (-13), 3) := by decide +kernel
theorem dArrays_fill_22 : decode prog_14_method_101_code 22 = .ok (.return_, 1) := by decide +kernel
theorem dProduct_times_0 : decode prog_6_method_3_code 0 = .ok (.lconst 0, 1) := by decide +kernel
theorem dProduct_times_1 : decode prog_6_method_3_code 1 = .ok (.lstore_n 2, 1) := by decide +kernel
theorem dProduct_times_2 : decode prog_6_method_3_code 2 = .ok (.iconst 0, 1) := by decide +kernel
theorem dProduct_times_3 : decode prog_6_method_3_code 3 = .ok (.istore 4, 2) := by decide +kernel
theorem dProduct_times_5 : decode prog_6_method_3_code 5 = .ok (.iload 4, 2) := by decide +kernel
theorem dProduct_times_7 : decode prog_6_method_3_code 7 = .ok (.bipush 12, 2) := by decide +kernel
theorem dProduct_times_9 : decode prog_6_method_3_code 9 = .ok (.if_icmp .ge 42, 3) := by decide +kernel
theorem dProduct_times_12 : decode prog_6_method_3_code 12 = .ok (.aload_n 0, 1) := by decide +kernel
theorem dProduct_times_13 : decode prog_6_method_3_code 13 = .ok (.getfield 9, 3) := by decide +kernel
theorem dProduct_times_16 : decode prog_6_method_3_code 16 = .ok (.iload 4, 2) := by decide +kernel
theorem dProduct_times_18 : decode prog_6_method_3_code 18 = .ok (.laload, 1) := by decide +kernel
theorem dProduct_times_19 : decode prog_6_method_3_code 19 = .ok (.iload_n 1, 1) := by decide +kernel
theorem dProduct_times_20 : decode prog_6_method_3_code 20 = .ok (.i2l, 1) := by decide +kernel
theorem dProduct_times_21 : decode prog_6_method_3_code 21 = .ok (.lmul, 1) := by decide +kernel
theorem dProduct_times_22 : decode prog_6_method_3_code 22 = .ok (.lload_n 2, 1) := by decide +kernel
theorem dProduct_times_23 : decode prog_6_method_3_code 23 = .ok (.ladd, 1) := by decide +kernel
theorem dProduct_times_24 : decode prog_6_method_3_code 24 = .ok (.lstore 5, 2) := by decide +kernel
theorem dProduct_times_26 : decode prog_6_method_3_code 26 = .ok (.aload_n 0, 1) := by decide +kernel
theorem dProduct_times_27 : decode prog_6_method_3_code 27 = .ok (.getfield 9, 3) := by decide +kernel
theorem dProduct_times_30 : decode prog_6_method_3_code 30 = .ok (.iload 4, 2) := by decide +kernel
theorem dProduct_times_32 : decode prog_6_method_3_code 32 = .ok (.lload 5, 2) := by decide +kernel
theorem dProduct_times_34 : decode prog_6_method_3_code 34 = .ok (.ldc2_w 19, 3) := by decide +kernel
theorem dProduct_times_37 : decode prog_6_method_3_code 37 = .ok (.land, 1) := by decide +kernel
theorem dProduct_times_38 : decode prog_6_method_3_code 38 = .ok (.lastore, 1) := by decide +kernel
theorem dProduct_times_39 : decode prog_6_method_3_code 39 = .ok (.lload 5, 2) := by decide +kernel
theorem dProduct_times_41 : decode prog_6_method_3_code 41 = .ok (.bipush 32, 2) := by decide +kernel
theorem dProduct_times_43 : decode prog_6_method_3_code 43 = .ok (.lushr, 1) := by decide +kernel
theorem dProduct_times_44 : decode prog_6_method_3_code 44 = .ok (.lstore_n 2, 1) := by decide +kernel
theorem dProduct_times_45 : decode prog_6_method_3_code 45 = .ok (.iinc 4 1, 3) := by decide +kernel
theorem dProduct_times_48 : decode prog_6_method_3_code 48 = .ok (.goto (-43), 3) := by decide +kernel
theorem dProduct_times_51 : decode prog_6_method_3_code 51 = .ok (.return_, 1) := by decide +kernel
theorem dProduct_signAgainst_0 : decode prog_6_method_4_code 0 = .ok (.bipush 11, 2) := by decide +kernel
theorem dProduct_signAgainst_2 : decode prog_6_method_4_code 2 = .ok (.istore_n 2, 1) := by decide +kernel
theorem dProduct_signAgainst_3 : decode prog_6_method_4_code 3 = .ok (.iload_n 2, 1) := by decide +kernel
theorem dProduct_signAgainst_4 : decode prog_6_method_4_code 4 = .ok (.ifCond .lt 47, 3) := by decide +kernel
theorem dProduct_signAgainst_7 : decode prog_6_method_4_code 7 = .ok (.aload_n 0, 1) := by decide +kernel
theorem dProduct_signAgainst_8 : decode prog_6_method_4_code 8 = .ok (.getfield 9, 3) := by decide +kernel
theorem dProduct_signAgainst_11 : decode prog_6_method_4_code 11 = .ok (.iload_n 2, 1) := by decide +kernel
theorem dProduct_signAgainst_12 : decode prog_6_method_4_code 12 = .ok (.laload, 1) := by decide +kernel
theorem dProduct_signAgainst_13 : decode prog_6_method_4_code 13 = .ok (.aload_n 1, 1) := by decide +kernel
theorem dProduct_signAgainst_14 : decode prog_6_method_4_code 14 = .ok (.getfield 9, 3) := by decide +kernel
theorem dProduct_signAgainst_17 : decode prog_6_method_4_code 17 = .ok (.iload_n 2, 1) := by decide +kernel
theorem dProduct_signAgainst_18 : decode prog_6_method_4_code 18 = .ok (.laload, 1) := by decide +kernel
theorem dProduct_signAgainst_19 : decode prog_6_method_4_code 19 = .ok (.lcmp, 1) := by decide +kernel
theorem dProduct_signAgainst_20 : decode prog_6_method_4_code 20 = .ok (.ifCond .eq 25, 3) := by decide +kernel
theorem dProduct_signAgainst_23 : decode prog_6_method_4_code 23 = .ok (.aload_n 0, 1) := by decide +kernel
theorem dProduct_signAgainst_24 : decode prog_6_method_4_code 24 = .ok (.getfield 9, 3) := by decide +kernel
theorem dProduct_signAgainst_27 : decode prog_6_method_4_code 27 = .ok (.iload_n 2, 1) := by decide +kernel
theorem dProduct_signAgainst_28 : decode prog_6_method_4_code 28 = .ok (.laload, 1) := by decide +kernel
theorem dProduct_signAgainst_29 : decode prog_6_method_4_code 29 = .ok (.aload_n 1, 1) := by decide +kernel
theorem dProduct_signAgainst_30 : decode prog_6_method_4_code 30 = .ok (.getfield 9, 3) := by decide +kernel
