theorem dX8_streetCount_2 : decode cX8_streetCount 2 = .ok (.getfield 13, 3) := by decide +kernel
theorem dX8_streetCount_5 : decode cX8_streetCount 5 = .ok (.iconst 3, 1) := by decide +kernel
theorem dX8_streetCount_6 : decode cX8_streetCount 6 = .ok (.iaload, 1) := by decide +kernel
theorem dX8_streetCount_7 : decode cX8_streetCount 7 = .ok (.invokevirtual 271, 3) := by decide +kernel
theorem dX8_streetCount_10 : decode cX8_streetCount 10 = .ok (.ireturn, 1) := by decide +kernel
theorem dX8_borrowerCount_0 : decode cX8_borrowerCount 0 = .ok (.aload_n 0, 1) := by decide +kernel
theorem dX8_borrowerCount_1 : decode cX8_borrowerCount 1 = .ok (.aload_n 0, 1) := by decide +kernel
theorem dX8_borrowerCount_2 : decode cX8_borrowerCount 2 = .ok (.getfield 13, 3) := by decide +kernel
theorem dX8_borrowerCount_5 : decode cX8_borrowerCount 5 = .ok (.iconst 4, 1) := by decide +kernel
theorem dX8_borrowerCount_6 : decode cX8_borrowerCount 6 = .ok (.iaload, 1) := by decide +kernel
theorem dX8_borrowerCount_7 : decode cX8_borrowerCount 7 = .ok (.invokevirtual 271, 3) := by decide +kernel
theorem dX8_borrowerCount_10 : decode cX8_borrowerCount 10 = .ok (.ireturn, 1) := by decide +kernel
theorem dX8_loanCount_0 : decode cX8_loanCount 0 = .ok (.aload_n 0, 1) := by decide +kernel
theorem dX8_loanCount_1 : decode cX8_loanCount 1 = .ok (.aload_n 0, 1) := by decide +kernel
theorem dX8_loanCount_2 : decode cX8_loanCount 2 = .ok (.getfield 13, 3) := by decide +kernel
theorem dX8_loanCount_5 : decode cX8_loanCount 5 = .ok (.bipush 6, 2) := by decide +kernel
theorem dX8_loanCount_7 : decode cX8_loanCount 7 = .ok (.iaload, 1) := by decide +kernel
theorem dX8_loanCount_8 : decode cX8_loanCount 8 = .ok (.invokevirtual 271, 3) := by decide +kernel
theorem dX8_loanCount_11 : decode cX8_loanCount 11 = .ok (.ireturn, 1) := by decide +kernel
theorem dX8_permitCount_0 : decode cX8_permitCount 0 = .ok (.aload_n 0, 1) := by decide +kernel
theorem dX8_permitCount_1 : decode cX8_permitCount 1 = .ok (.aload_n 0, 1) := by decide +kernel
theorem dX8_permitCount_2 : decode cX8_permitCount 2 = .ok (.getfield 13, 3) := by decide +kernel
theorem dX8_permitCount_5 : decode cX8_permitCount 5 = .ok (.iconst 5, 1) := by decide +kernel
theorem dX8_permitCount_6 : decode cX8_permitCount 6 = .ok (.iaload, 1) := by decide +kernel
theorem dX8_permitCount_7 : decode cX8_permitCount 7 = .ok (.invokevirtual 271, 3) := by decide +kernel
theorem dX8_permitCount_10 : decode cX8_permitCount 10 = .ok (.ireturn, 1) := by decide +kernel
theorem dX8_loansWith_0 : decode cX8_loansWith 0 = .ok (.iload_n 1, 1) := by decide +kernel
theorem dX8_loansWith_1 : decode cX8_loansWith 1 = .ok (.iconst 0, 1) := by decide +kernel
theorem dX8_loansWith_2 : decode cX8_loansWith 2 = .ok (.iconst 5, 1) := by decide +kernel
theorem dX8_loansWith_3 : decode cX8_loansWith 3 = .ok (.invokestatic 67, 3) := by decide +kernel
theorem dX8_loansWith_6 : decode cX8_loansWith 6 = .ok (.ifCond .ne 9, 3) := by decide +kernel
theorem dX8_loansWith_9 : decode cX8_loansWith 9 = .ok (.aload_n 0, 1) := by decide +kernel
theorem dX8_loansWith_10 : decode cX8_loansWith 10 = .ok (.iconst 1, 1) := by decide +kernel
theorem dX8_loansWith_11 : decode cX8_loansWith 11 = .ok (.invokevirtual 265, 3) := by decide +kernel
theorem dX8_loansWith_14 : decode cX8_loansWith 14 = .ok (.ireturn, 1) := by decide +kernel
theorem dX8_loansWith_15 : decode cX8_loansWith 15 = .ok (.iconst 0, 1) := by decide +kernel
theorem dX8_loansWith_16 : decode cX8_loansWith 16 = .ok (.istore_n 2, 1) := by decide +kernel
theorem dX8_loansWith_17 : decode cX8_loansWith 17 = .ok (.iconst 0, 1) := by decide +kernel
theorem dX8_loansWith_18 : decode cX8_loansWith 18 = .ok (.istore_n 3, 1) := by decide +kernel
theorem dX8_loansWith_19 : decode cX8_loansWith 19 = .ok (.iload_n 3, 1) := by decide +kernel
theorem dX8_loansWith_20 : decode cX8_loansWith 20 = .ok (.aload_n 0, 1) := by decide +kernel
theorem dX8_loansWith_21 : decode cX8_loansWith 21 = .ok (.getfield 13, 3) := by decide +kernel
theorem dX8_loansWith_24 : decode cX8_loansWith 24 = .ok (.bipush 6, 2) := by decide +kernel
theorem dX8_loansWith_26 : decode cX8_loansWith 26 = .ok (.iaload, 1) := by decide +kernel
theorem dX8_loansWith_27 : decode cX8_loansWith 27 = .ok (.if_icmp .ge 32, 3) := by decide +kernel
theorem dX8_loansWith_30 : decode cX8_loansWith 30 = .ok (.iload_n 2, 1) := by decide +kernel
theorem dX8_loansWith_31 : decode cX8_loansWith 31 = .ok (.aload_n 0, 1) := by decide +kernel
theorem dX8_loansWith_32 : decode cX8_loansWith 32 = .ok (.getfield 13, 3) := by decide +kernel
theorem dX8_loansWith_35 : decode cX8_loansWith 35 = .ok (.iload_n 3, 1) := by decide +kernel
theorem dX8_loansWith_36 : decode cX8_loansWith 36 = .ok (.invokestatic 93, 3) := by decide +kernel
theorem dX8_loansWith_39 : decode cX8_loansWith 39 = .ok (.iconst 4, 1) := by decide +kernel
theorem dX8_loansWith_40 : decode cX8_loansWith 40 = .ok (.iadd, 1) := by decide +kernel
theorem dX8_loansWith_41 : decode cX8_loansWith 41 = .ok (.iaload, 1) := by decide +kernel
theorem dX8_loansWith_42 : decode cX8_loansWith 42 = .ok (.iload_n 1, 1) := by decide +kernel
theorem dX8_loansWith_43 : decode cX8_loansWith 43 = .ok (.if_icmp .ne 7, 3) := by decide +kernel
theorem dX8_loansWith_46 : decode cX8_loansWith 46 = .ok (.iconst 1, 1) := by decide +kernel
theorem dX8_loansWith_47 : decode cX8_loansWith 47 = .ok (.goto 4, 3) := by decide +kernel
theorem dX8_loansWith_50 : decode cX8_loansWith 50 = .ok (.iconst 0, 1) := by decide +kernel
theorem dX8_loansWith_51 : decode cX8_loansWith 51 = .ok (.iadd, 1) := by decide +kernel
theorem dX8_loansWith_52 : decode cX8_loansWith 52 = .ok (.istore_n 2, 1) := by decide +kernel
theorem dX8_loansWith_53 : decode cX8_loansWith 53 = .ok (.iinc 3 1, 3) := by decide +kernel
theorem dX8_loansWith_56 : decode cX8_loansWith 56 = .ok (.goto (-37), 3) := by decide +kernel
theorem dX8_loansWith_59 : decode cX8_loansWith 59 = .ok (.aload_n 0, 1) := by decide +kernel
theorem dX8_loansWith_60 : decode cX8_loansWith 60 = .ok (.iload_n 2, 1) := by decide +kernel
theorem dX8_loansWith_61 : decode cX8_loansWith 61 = .ok (.invokevirtual 271, 3) := by decide +kernel
theorem dX8_loansWith_64 : decode cX8_loansWith 64 = .ok (.ireturn, 1) := by decide +kernel
theorem dX8_undoCount_0 : decode cX8_undoCount 0 = .ok (.aload_n 0, 1) := by decide +kernel
theorem dX8_undoCount_1 : decode cX8_undoCount 1 = .ok (.aload_n 0, 1) := by decide +kernel
theorem dX8_undoCount_2 : decode cX8_undoCount 2 = .ok (.getfield 163, 3) := by decide +kernel
theorem dX8_undoCount_5 : decode cX8_undoCount 5 = .ok (.invokevirtual 271, 3) := by decide +kernel
theorem dX8_undoCount_8 : decode cX8_undoCount 8 = .ok (.ireturn, 1) := by decide +kernel
theorem dX8_noiseNow_0 : decode cX8_noiseNow 0 = .ok (.aload_n 0, 1) := by decide +kernel
theorem dX8_noiseNow_1 : decode cX8_noiseNow 1 = .ok (.iload_n 1, 1) := by decide +kernel
theorem dX8_noiseNow_2 : decode cX8_noiseNow 2 = .ok (.invokevirtual 289, 3) := by decide +kernel
theorem dX8_noiseNow_5 : decode cX8_noiseNow 5 = .ok (.ifCond .eq 21, 3) := by decide +kernel
theorem dX8_noiseNow_8 : decode cX8_noiseNow 8 = .ok (.aload_n 0, 1) := by decide +kernel
theorem dX8_noiseNow_9 : decode cX8_noiseNow 9 = .ok (.aload_n 0, 1) := by decide +kernel
theorem dX8_noiseNow_10 : decode cX8_noiseNow 10 = .ok (.iload_n 1, 1) := by decide +kernel
theorem dX8_noiseNow_11 : decode cX8_noiseNow 11 = .ok (.aload_n 0, 1) := by decide +kernel
theorem dX8_noiseNow_12 : decode cX8_noiseNow 12 = .ok (.getfield 13, 3) := by decide +kernel
theorem dX8_noiseNow_15 : decode cX8_noiseNow 15 = .ok (.iconst 2, 1) := by decide +kernel
theorem dX8_noiseNow_16 : decode cX8_noiseNow 16 = .ok (.iaload, 1) := by decide +kernel
theorem dX8_noiseNow_17 : decode cX8_noiseNow 17 = .ok (.invokevirtual 144, 3) := by decide +kernel
theorem dX8_noiseNow_20 : decode cX8_noiseNow 20 = .ok (.invokevirtual 271, 3) := by decide +kernel
theorem dX8_noiseNow_23 : decode cX8_noiseNow 23 = .ok (.goto 8, 3) := by decide +kernel
theorem dX8_noiseNow_26 : decode cX8_noiseNow 26 = .ok (.aload_n 0, 1) := by decide +kernel
theorem dX8_noiseNow_27 : decode cX8_noiseNow 27 = .ok (.iconst 1, 1) := by decide +kernel
theorem dX8_noiseNow_28 : decode cX8_noiseNow 28 = .ok (.invokevirtual 265, 3) := by decide +kernel
theorem dX8_noiseNow_31 : decode cX8_noiseNow 31 = .ok (.ireturn, 1) := by decide +kernel
theorem dX8_noiseAt_0 : decode cX8_noiseAt 0 = .ok (.aload_n 0, 1) := by decide +kernel
theorem dX8_noiseAt_1 : decode cX8_noiseAt 1 = .ok (.iload_n 1, 1) := by decide +kernel
theorem dX8_noiseAt_2 : decode cX8_noiseAt 2 = .ok (.invokevirtual 289, 3) := by decide +kernel
theorem dX8_noiseAt_5 : decode cX8_noiseAt 5 = .ok (.ifCond .ne 9, 3) := by decide +kernel
theorem dX8_noiseAt_8 : decode cX8_noiseAt 8 = .ok (.aload_n 0, 1) := by decide +kernel
theorem dX8_noiseAt_9 : decode cX8_noiseAt 9 = .ok (.iconst 1, 1) := by decide +kernel
theorem dX8_noiseAt_10 : decode cX8_noiseAt 10 = .ok (.invokevirtual 265, 3) := by decide +kernel
theorem dX8_noiseAt_13 : decode cX8_noiseAt 13 = .ok (.ireturn, 1) := by decide +kernel
theorem dX8_noiseAt_14 : decode cX8_noiseAt 14 = .ok (.aload_n 0, 1) := by decide +kernel
theorem dX8_noiseAt_15 : decode cX8_noiseAt 15 = .ok (.iload_n 2, 1) := by decide +kernel
theorem dX8_noiseAt_16 : decode cX8_noiseAt 16 = .ok (.invokevirtual 84, 3) := by decide +kernel
theorem dX8_noiseAt_19 : decode cX8_noiseAt 19 = .ok (.ifCond .eq 16, 3) := by decide +kernel
theorem dX8_noiseAt_22 : decode cX8_noiseAt 22 = .ok (.aload_n 0, 1) := by decide +kernel
theorem dX8_noiseAt_23 : decode cX8_noiseAt 23 = .ok (.aload_n 0, 1) := by decide +kernel
theorem dX8_noiseAt_24 : decode cX8_noiseAt 24 = .ok (.iload_n 1, 1) := by decide +kernel
theorem dX8_noiseAt_25 : decode cX8_noiseAt 25 = .ok (.iload_n 2, 1) := by decide +kernel
theorem dX8_noiseAt_26 : decode cX8_noiseAt 26 = .ok (.invokevirtual 144, 3) := by decide +kernel
theorem dX8_noiseAt_29 : decode cX8_noiseAt 29 = .ok (.invokevirtual 271, 3) := by decide +kernel
theorem dX8_noiseAt_32 : decode cX8_noiseAt 32 = .ok (.goto 8, 3) := by decide +kernel
theorem dX8_noiseAt_35 : decode cX8_noiseAt 35 = .ok (.aload_n 0, 1) := by decide +kernel
theorem dX8_noiseAt_36 : decode cX8_noiseAt 36 = .ok (.iconst 2, 1) := by decide +kernel
theorem dX8_noiseAt_37 : decode cX8_noiseAt 37 = .ok (.invokevirtual 265, 3) := by decide +kernel
theorem dX8_noiseAt_40 : decode cX8_noiseAt 40 = .ok (.ireturn, 1) := by decide +kernel
theorem dX8_noiseTotal_0 : decode cX8_noiseTotal 0 = .ok (.aload_n 0, 1) := by decide +kernel
theorem dX8_noiseTotal_1 : decode cX8_noiseTotal 1 = .ok (.iload_n 1, 1) := by decide +kernel
theorem dX8_noiseTotal_2 : decode cX8_noiseTotal 2 = .ok (.invokevirtual 289, 3) := by decide +kernel
theorem dX8_noiseTotal_5 : decode cX8_noiseTotal 5 = .ok (.ifCond .eq 21, 3) := by decide +kernel
theorem dX8_noiseTotal_8 : decode cX8_noiseTotal 8 = .ok (.aload_n 0, 1) := by decide +kernel
theorem dX8_noiseTotal_9 : decode cX8_noiseTotal 9 = .ok (.aload_n 0, 1) := by decide +kernel
theorem dX8_noiseTotal_10 : decode cX8_noiseTotal 10 = .ok (.getfield 13, 3) := by decide +kernel
theorem dX8_noiseTotal_13 : decode cX8_noiseTotal 13 = .ok (.iload_n 1, 1) := by decide +kernel
theorem dX8_noiseTotal_14 : decode cX8_noiseTotal 14 = .ok (.invokestatic 71, 3) := by decide +kernel
theorem dX8_noiseTotal_17 : decode cX8_noiseTotal 17 = .ok (.iconst 2, 1) := by decide +kernel
theorem dX8_noiseTotal_18 : decode cX8_noiseTotal 18 = .ok (.iadd, 1) := by decide +kernel
theorem dX8_noiseTotal_19 : decode cX8_noiseTotal 19 = .ok (.iaload, 1) := by decide +kernel
theorem dX8_noiseTotal_20 : decode cX8_noiseTotal 20 = .ok (.invokevirtual 271, 3) := by decide +kernel
theorem dX8_noiseTotal_23 : decode cX8_noiseTotal 23 = .ok (.goto 8, 3) := by decide +kernel
theorem dX8_noiseTotal_26 : decode cX8_noiseTotal 26 = .ok (.aload_n 0, 1) := by decide +kernel
theorem dX8_noiseTotal_27 : decode cX8_noiseTotal 27 = .ok (.iconst 1, 1) := by decide +kernel
theorem dX8_noiseTotal_28 : decode cX8_noiseTotal 28 = .ok (.invokevirtual 265, 3) := by decide +kernel
theorem dX8_noiseTotal_31 : decode cX8_noiseTotal 31 = .ok (.ireturn, 1) := by decide +kernel
theorem dX8_quietHours_0 : decode cX8_quietHours 0 = .ok (.aload_n 0, 1) := by decide +kernel
theorem dX8_quietHours_1 : decode cX8_quietHours 1 = .ok (.iload_n 1, 1) := by decide +kernel
theorem dX8_quietHours_2 : decode cX8_quietHours 2 = .ok (.invokevirtual 289, 3) := by decide +kernel
theorem dX8_quietHours_5 : decode cX8_quietHours 5 = .ok (.ifCond .eq 21, 3) := by decide +kernel
theorem dX8_quietHours_8 : decode cX8_quietHours 8 = .ok (.aload_n 0, 1) := by decide +kernel
theorem dX8_quietHours_9 : decode cX8_quietHours 9 = .ok (.aload_n 0, 1) := by decide +kernel
theorem dX8_quietHours_10 : decode cX8_quietHours 10 = .ok (.getfield 13, 3) := by decide +kernel
theorem dX8_quietHours_13 : decode cX8_quietHours 13 = .ok (.iload_n 1, 1) := by decide +kernel
theorem dX8_quietHours_14 : decode cX8_quietHours 14 = .ok (.invokestatic 71, 3) := by decide +kernel
theorem dX8_quietHours_17 : decode cX8_quietHours 17 = .ok (.iconst 3, 1) := by decide +kernel
theorem dX8_quietHours_18 : decode cX8_quietHours 18 = .ok (.iadd, 1) := by decide +kernel
theorem dX8_quietHours_19 : decode cX8_quietHours 19 = .ok (.iaload, 1) := by decide +kernel
theorem dX8_quietHours_20 : decode cX8_quietHours 20 = .ok (.invokevirtual 271, 3) := by decide +kernel
theorem dX8_quietHours_23 : decode cX8_quietHours 23 = .ok (.goto 8, 3) := by decide +kernel
theorem dX8_quietHours_26 : decode cX8_quietHours 26 = .ok (.aload_n 0, 1) := by decide +kernel
theorem dX8_quietHours_27 : decode cX8_quietHours 27 = .ok (.iconst 1, 1) := by decide +kernel
theorem dX8_quietHours_28 : decode cX8_quietHours 28 = .ok (.invokevirtual 265, 3) := by decide +kernel
theorem dX8_quietHours_31 : decode cX8_quietHours 31 = .ok (.ireturn, 1) := by decide +kernel
theorem dX8_loudestStreet_0 : decode cX8_loudestStreet 0 = .ok (.iconst (-1), 1) := by decide +kernel
theorem dX8_loudestStreet_1 : decode cX8_loudestStreet 1 = .ok (.istore_n 1, 1) := by decide +kernel
theorem dX8_loudestStreet_2 : decode cX8_loudestStreet 2 = .ok (.iconst 0, 1) := by decide +kernel
theorem dX8_loudestStreet_3 : decode cX8_loudestStreet 3 = .ok (.istore_n 2, 1) := by decide +kernel
theorem dX8_loudestStreet_4 : decode cX8_loudestStreet 4 = .ok (.iload_n 2, 1) := by decide +kernel
theorem dX8_loudestStreet_5 : decode cX8_loudestStreet 5 = .ok (.aload_n 0, 1) := by decide +kernel
theorem dX8_loudestStreet_6 : decode cX8_loudestStreet 6 = .ok (.getfield 13, 3) := by decide +kernel
theorem dX8_loudestStreet_9 : decode cX8_loudestStreet 9 = .ok (.iconst 3, 1) := by decide +kernel
theorem dX8_loudestStreet_10 : decode cX8_loudestStreet 10 = .ok (.iaload, 1) := by decide +kernel
theorem dX8_loudestStreet_11 : decode cX8_loudestStreet 11 = .ok (.if_icmp .ge 45, 3) := by decide +kernel
theorem dX8_loudestStreet_14 : decode cX8_loudestStreet 14 = .ok (.iload_n 1, 1) := by decide +kernel
theorem dX8_loudestStreet_15 : decode cX8_loudestStreet 15 = .ok (.iconst (-1), 1) := by decide +kernel
theorem dX8_loudestStreet_16 : decode cX8_loudestStreet 16 = .ok (.if_icmp .eq 28, 3) := by decide +kernel
theorem dX8_loudestStreet_19 : decode cX8_loudestStreet 19 = .ok (.aload_n 0, 1) := by decide +kernel
theorem dX8_loudestStreet_20 : decode cX8_loudestStreet 20 = .ok (.getfield 13, 3) := by decide +kernel
theorem dX8_loudestStreet_23 : decode cX8_loudestStreet 23 = .ok (.iload_n 2, 1) := by decide +kernel
theorem dX8_loudestStreet_24 : decode cX8_loudestStreet 24 = .ok (.invokestatic 71, 3) := by decide +kernel
theorem dX8_loudestStreet_27 : decode cX8_loudestStreet 27 = .ok (.iconst 2, 1) := by decide +kernel
theorem dX8_loudestStreet_28 : decode cX8_loudestStreet 28 = .ok (.iadd, 1) := by decide +kernel
theorem dX8_loudestStreet_29 : decode cX8_loudestStreet 29 = .ok (.iaload, 1) := by decide +kernel
theorem dX8_loudestStreet_30 : decode cX8_loudestStreet 30 = .ok (.aload_n 0, 1) := by decide +kernel
theorem dX8_loudestStreet_31 : decode cX8_loudestStreet 31 = .ok (.getfield 13, 3) := by decide +kernel
theorem dX8_loudestStreet_34 : decode cX8_loudestStreet 34 = .ok (.iload_n 1, 1) := by decide +kernel
theorem dX8_loudestStreet_35 : decode cX8_loudestStreet 35 = .ok (.invokestatic 71, 3) := by decide +kernel
theorem dX8_loudestStreet_38 : decode cX8_loudestStreet 38 = .ok (.iconst 2, 1) := by decide +kernel
theorem dX8_loudestStreet_39 : decode cX8_loudestStreet 39 = .ok (.iadd, 1) := by decide +kernel
theorem dX8_loudestStreet_40 : decode cX8_loudestStreet 40 = .ok (.iaload, 1) := by decide +kernel
theorem dX8_loudestStreet_41 : decode cX8_loudestStreet 41 = .ok (.if_icmp .le 7, 3) := by decide +kernel
theorem dX8_loudestStreet_44 : decode cX8_loudestStreet 44 = .ok (.iload_n 2, 1) := by decide +kernel
theorem dX8_loudestStreet_45 : decode cX8_loudestStreet 45 = .ok (.goto 4, 3) := by decide +kernel
theorem dX8_loudestStreet_48 : decode cX8_loudestStreet 48 = .ok (.iload_n 1, 1) := by decide +kernel
theorem dX8_loudestStreet_49 : decode cX8_loudestStreet 49 = .ok (.istore_n 1, 1) := by decide +kernel
theorem dX8_loudestStreet_50 : decode cX8_loudestStreet 50 = .ok (.iinc 2 1, 3) := by decide +kernel
theorem dX8_loudestStreet_53 : decode cX8_loudestStreet 53 = .ok (.goto (-49), 3) := by decide +kernel
theorem dX8_loudestStreet_56 : decode cX8_loudestStreet 56 = .ok (.aload_n 0, 1) := by decide +kernel
theorem dX8_loudestStreet_57 : decode cX8_loudestStreet 57 = .ok (.iload_n 1, 1) := by decide +kernel
theorem dX8_loudestStreet_58 : decode cX8_loudestStreet 58 = .ok (.invokevirtual 271, 3) := by decide +kernel
theorem dX8_loudestStreet_61 : decode cX8_loudestStreet 61 = .ok (.ireturn, 1) := by decide +kernel
theorem dX8_ofBorrower_0 : decode cX8_ofBorrower 0 = .ok (.aload_n 0, 1) := by decide +kernel
theorem dX8_ofBorrower_1 : decode cX8_ofBorrower 1 = .ok (.iload_n 1, 1) := by decide +kernel
theorem dX8_ofBorrower_2 : decode cX8_ofBorrower 2 = .ok (.invokevirtual 292, 3) := by decide +kernel
theorem dX8_ofBorrower_5 : decode cX8_ofBorrower 5 = .ok (.ifCond .eq 21, 3) := by decide +kernel
theorem dX8_ofBorrower_8 : decode cX8_ofBorrower 8 = .ok (.aload_n 0, 1) := by decide +kernel
theorem dX8_ofBorrower_9 : decode cX8_ofBorrower 9 = .ok (.aload_n 0, 1) := by decide +kernel
theorem dX8_ofBorrower_10 : decode cX8_ofBorrower 10 = .ok (.getfield 13, 3) := by decide +kernel
theorem dX8_ofBorrower_13 : decode cX8_ofBorrower 13 = .ok (.iload_n 1, 1) := by decide +kernel
theorem dX8_ofBorrower_14 : decode cX8_ofBorrower 14 = .ok (.invokestatic 78, 3) := by decide +kernel
theorem dX8_ofBorrower_17 : decode cX8_ofBorrower 17 = .ok (.iload_n 2, 1) := by decide +kernel
theorem dX8_ofBorrower_18 : decode cX8_ofBorrower 18 = .ok (.iadd, 1) := by decide +kernel
theorem dX8_ofBorrower_19 : decode cX8_ofBorrower 19 = .ok (.iaload, 1) := by decide +kernel
theorem dX8_ofBorrower_20 : decode cX8_ofBorrower 20 = .ok (.invokevirtual 271, 3) := by decide +kernel
theorem dX8_ofBorrower_23 : decode cX8_ofBorrower 23 = .ok (.goto 8, 3) := by decide +kernel
theorem dX8_ofBorrower_26 : decode cX8_ofBorrower 26 = .ok (.aload_n 0, 1) := by decide +kernel
theorem dX8_ofBorrower_27 : decode cX8_ofBorrower 27 = .ok (.iconst 1, 1) := by decide +kernel
theorem dX8_ofBorrower_28 : decode cX8_ofBorrower 28 = .ok (.invokevirtual 265, 3) := by decide +kernel
theorem dX8_ofBorrower_31 : decode cX8_ofBorrower 31 = .ok (.ireturn, 1) := by decide +kernel
theorem dX8_streetOf_0 : decode cX8_streetOf 0 = .ok (.aload_n 0, 1) := by decide +kernel
theorem dX8_streetOf_1 : decode cX8_streetOf 1 = .ok (.iload_n 1, 1) := by decide +kernel
theorem dX8_streetOf_2 : decode cX8_streetOf 2 = .ok (.iconst 0, 1) := by decide +kernel
theorem dX8_streetOf_3 : decode cX8_streetOf 3 = .ok (.invokevirtual 295, 3) := by decide +kernel
theorem dX8_streetOf_6 : decode cX8_streetOf 6 = .ok (.ireturn, 1) := by decide +kernel
theorem dX8_illnessOf_0 : decode cX8_illnessOf 0 = .ok (.aload_n 0, 1) := by decide +kernel
theorem dX8_illnessOf_1 : decode cX8_illnessOf 1 = .ok (.iload_n 1, 1) := by decide +kernel
theorem dX8_illnessOf_2 : decode cX8_illnessOf 2 = .ok (.iconst 1, 1) := by decide +kernel
theorem dX8_illnessOf_3 : decode cX8_illnessOf 3 = .ok (.invokevirtual 295, 3) := by decide +kernel
theorem dX8_illnessOf_6 : decode cX8_illnessOf 6 = .ok (.ireturn, 1) := by decide +kernel
theorem dX8_creditOf_0 : decode cX8_creditOf 0 = .ok (.aload_n 0, 1) := by decide +kernel
theorem dX8_creditOf_1 : decode cX8_creditOf 1 = .ok (.iload_n 1, 1) := by decide +kernel
theorem dX8_creditOf_2 : decode cX8_creditOf 2 = .ok (.iconst 2, 1) := by decide +kernel
theorem dX8_creditOf_3 : decode cX8_creditOf 3 = .ok (.invokevirtual 295, 3) := by decide +kernel
theorem dX8_creditOf_6 : decode cX8_creditOf 6 = .ok (.ireturn, 1) := by decide +kernel
theorem dX8_overdueLoans_0 : decode cX8_overdueLoans 0 = .ok (.aload_n 0, 1) := by decide +kernel
theorem dX8_overdueLoans_1 : decode cX8_overdueLoans 1 = .ok (.iload_n 1, 1) := by decide +kernel
theorem dX8_overdueLoans_2 : decode cX8_overdueLoans 2 = .ok (.invokevirtual 292, 3) := by decide +kernel
theorem dX8_overdueLoans_5 : decode cX8_overdueLoans 5 = .ok (.ifCond .ne 9, 3) := by decide +kernel
theorem dX8_overdueLoans_8 : decode cX8_overdueLoans 8 = .ok (.aload_n 0, 1) := by decide +kernel
theorem dX8_overdueLoans_9 : decode cX8_overdueLoans 9 = .ok (.iconst 1, 1) := by decide +kernel
theorem dX8_overdueLoans_10 : decode cX8_overdueLoans 10 = .ok (.invokevirtual 265, 3) := by decide +kernel
theorem dX8_overdueLoans_13 : decode cX8_overdueLoans 13 = .ok (.ireturn, 1) := by decide +kernel
theorem dX8_overdueLoans_14 : decode cX8_overdueLoans 14 = .ok (.iconst 0, 1) := by decide +kernel
theorem dX8_overdueLoans_15 : decode cX8_overdueLoans 15 = .ok (.istore_n 2, 1) := by decide +kernel
theorem dX8_overdueLoans_16 : decode cX8_overdueLoans 16 = .ok (.iconst 0, 1) := by decide +kernel
theorem dX8_overdueLoans_17 : decode cX8_overdueLoans 17 = .ok (.istore_n 3, 1) := by decide +kernel
theorem dX8_overdueLoans_18 : decode cX8_overdueLoans 18 = .ok (.iload_n 3, 1) := by decide +kernel
theorem dX8_overdueLoans_19 : decode cX8_overdueLoans 19 = .ok (.aload_n 0, 1) := by decide +kernel
theorem dX8_overdueLoans_20 : decode cX8_overdueLoans 20 = .ok (.getfield 13, 3) := by decide +kernel
theorem dX8_overdueLoans_23 : decode cX8_overdueLoans 23 = .ok (.bipush 6, 2) := by decide +kernel
theorem dX8_overdueLoans_25 : decode cX8_overdueLoans 25 = .ok (.iaload, 1) := by decide +kernel
theorem dX8_overdueLoans_26 : decode cX8_overdueLoans 26 = .ok (.if_icmp .ge 47, 3) := by decide +kernel
theorem dX8_overdueLoans_29 : decode cX8_overdueLoans 29 = .ok (.iload_n 2, 1) := by decide +kernel
theorem dX8_overdueLoans_30 : decode cX8_overdueLoans 30 = .ok (.aload_n 0, 1) := by decide +kernel
theorem dX8_overdueLoans_31 : decode cX8_overdueLoans 31 = .ok (.getfield 13, 3) := by decide +kernel
theorem dX8_overdueLoans_34 : decode cX8_overdueLoans 34 = .ok (.iload_n 3, 1) := by decide +kernel
theorem dX8_overdueLoans_35 : decode cX8_overdueLoans 35 = .ok (.invokestatic 93, 3) := by decide +kernel
theorem dX8_overdueLoans_38 : decode cX8_overdueLoans 38 = .ok (.iconst 0, 1) := by decide +kernel
theorem dX8_overdueLoans_39 : decode cX8_overdueLoans 39 = .ok (.iadd, 1) := by decide +kernel
theorem dX8_overdueLoans_40 : decode cX8_overdueLoans 40 = .ok (.iaload, 1) := by decide +kernel
theorem dX8_overdueLoans_41 : decode cX8_overdueLoans 41 = .ok (.iload_n 1, 1) := by decide +kernel
theorem dX8_overdueLoans_42 : decode cX8_overdueLoans 42 = .ok (.if_icmp .ne 22, 3) := by decide +kernel
theorem dX8_overdueLoans_45 : decode cX8_overdueLoans 45 = .ok (.aload_n 0, 1) := by decide +kernel
theorem dX8_overdueLoans_46 : decode cX8_overdueLoans 46 = .ok (.getfield 13, 3) := by decide +kernel
theorem dX8_overdueLoans_49 : decode cX8_overdueLoans 49 = .ok (.iload_n 3, 1) := by decide +kernel
theorem dX8_overdueLoans_50 : decode cX8_overdueLoans 50 = .ok (.invokestatic 93, 3) := by decide +kernel
theorem dX8_overdueLoans_53 : decode cX8_overdueLoans 53 = .ok (.iconst 4, 1) := by decide +kernel
theorem dX8_overdueLoans_54 : decode cX8_overdueLoans 54 = .ok (.iadd, 1) := by decide +kernel
theorem dX8_overdueLoans_55 : decode cX8_overdueLoans 55 = .ok (.iaload, 1) := by decide +kernel
theorem dX8_overdueLoans_56 : decode cX8_overdueLoans 56 = .ok (.iconst 4, 1) := by decide +kernel
theorem dX8_overdueLoans_57 : decode cX8_overdueLoans 57 = .ok (.if_icmp .ne 7, 3) := by decide +kernel
theorem dX8_overdueLoans_60 : decode cX8_overdueLoans 60 = .ok (.iconst 1, 1) := by decide +kernel
theorem dX8_overdueLoans_61 : decode cX8_overdueLoans 61 = .ok (.goto 4, 3) := by decide +kernel
theorem dX8_overdueLoans_64 : decode cX8_overdueLoans 64 = .ok (.iconst 0, 1) := by decide +kernel
theorem dX8_overdueLoans_65 : decode cX8_overdueLoans 65 = .ok (.iadd, 1) := by decide +kernel
theorem dX8_overdueLoans_66 : decode cX8_overdueLoans 66 = .ok (.istore_n 2, 1) := by decide +kernel
theorem dX8_overdueLoans_67 : decode cX8_overdueLoans 67 = .ok (.iinc 3 1, 3) := by decide +kernel
theorem dX8_overdueLoans_70 : decode cX8_overdueLoans 70 = .ok (.goto (-52), 3) := by decide +kernel
theorem dX8_overdueLoans_73 : decode cX8_overdueLoans 73 = .ok (.aload_n 0, 1) := by decide +kernel
theorem dX8_overdueLoans_74 : decode cX8_overdueLoans 74 = .ok (.iload_n 2, 1) := by decide +kernel
theorem dX8_overdueLoans_75 : decode cX8_overdueLoans 75 = .ok (.invokevirtual 271, 3) := by decide +kernel
theorem dX8_overdueLoans_78 : decode cX8_overdueLoans 78 = .ok (.ireturn, 1) := by decide +kernel
theorem dX8_mostIll_0 : decode cX8_mostIll 0 = .ok (.iconst (-1), 1) := by decide +kernel
theorem dX8_mostIll_1 : decode cX8_mostIll 1 = .ok (.istore_n 1, 1) := by decide +kernel
theorem dX8_mostIll_2 : decode cX8_mostIll 2 = .ok (.iconst 0, 1) := by decide +kernel
theorem dX8_mostIll_3 : decode cX8_mostIll 3 = .ok (.istore_n 2, 1) := by decide +kernel
theorem dX8_mostIll_4 : decode cX8_mostIll 4 = .ok (.iload_n 2, 1) := by decide +kernel
theorem dX8_mostIll_5 : decode cX8_mostIll 5 = .ok (.aload_n 0, 1) := by decide +kernel
theorem dX8_mostIll_6 : decode cX8_mostIll 6 = .ok (.getfield 13, 3) := by decide +kernel
theorem dX8_mostIll_9 : decode cX8_mostIll 9 = .ok (.iconst 4, 1) := by decide +kernel
theorem dX8_mostIll_10 : decode cX8_mostIll 10 = .ok (.iaload, 1) := by decide +kernel
theorem dX8_mostIll_11 : decode cX8_mostIll 11 = .ok (.if_icmp .ge 45, 3) := by decide +kernel
theorem dX8_mostIll_14 : decode cX8_mostIll 14 = .ok (.iload_n 1, 1) := by decide +kernel
theorem dX8_mostIll_15 : decode cX8_mostIll 15 = .ok (.iconst (-1), 1) := by decide +kernel
theorem dX8_mostIll_16 : decode cX8_mostIll 16 = .ok (.if_icmp .eq 28, 3) := by decide +kernel
theorem dX8_mostIll_19 : decode cX8_mostIll 19 = .ok (.aload_n 0, 1) := by decide +kernel
theorem dX8_mostIll_20 : decode cX8_mostIll 20 = .ok (.getfield 13, 3) := by decide +kernel
theorem dX8_mostIll_23 : decode cX8_mostIll 23 = .ok (.iload_n 2, 1) := by decide +kernel
theorem dX8_mostIll_24 : decode cX8_mostIll 24 = .ok (.invokestatic 78, 3) := by decide +kernel
theorem dX8_mostIll_27 : decode cX8_mostIll 27 = .ok (.iconst 1, 1) := by decide +kernel
theorem dX8_mostIll_28 : decode cX8_mostIll 28 = .ok (.iadd, 1) := by decide +kernel
theorem dX8_mostIll_29 : decode cX8_mostIll 29 = .ok (.iaload, 1) := by decide +kernel
theorem dX8_mostIll_30 : decode cX8_mostIll 30 = .ok (.aload_n 0, 1) := by decide +kernel
theorem dX8_mostIll_31 : decode cX8_mostIll 31 = .ok (.getfield 13, 3) := by decide +kernel
theorem dX8_mostIll_34 : decode cX8_mostIll 34 = .ok (.iload_n 1, 1) := by decide +kernel
theorem dX8_mostIll_35 : decode cX8_mostIll 35 = .ok (.invokestatic 78, 3) := by decide +kernel
theorem dX8_mostIll_38 : decode cX8_mostIll 38 = .ok (.iconst 1, 1) := by decide +kernel
theorem dX8_mostIll_39 : decode cX8_mostIll 39 = .ok (.iadd, 1) := by decide +kernel
theorem dX8_mostIll_40 : decode cX8_mostIll 40 = .ok (.iaload, 1) := by decide +kernel
theorem dX8_mostIll_41 : decode cX8_mostIll 41 = .ok (.if_icmp .le 7, 3) := by decide +kernel
theorem dX8_mostIll_44 : decode cX8_mostIll 44 = .ok (.iload_n 2, 1) := by decide +kernel
theorem dX8_mostIll_45 : decode cX8_mostIll 45 = .ok (.goto 4, 3) := by decide +kernel
theorem dX8_mostIll_48 : decode cX8_mostIll 48 = .ok (.iload_n 1, 1) := by decide +kernel
theorem dX8_mostIll_49 : decode cX8_mostIll 49 = .ok (.istore_n 1, 1) := by decide +kernel
theorem dX8_mostIll_50 : decode cX8_mostIll 50 = .ok (.iinc 2 1, 3) := by decide +kernel
theorem dX8_mostIll_53 : decode cX8_mostIll 53 = .ok (.goto (-49), 3) := by decide +kernel
theorem dX8_mostIll_56 : decode cX8_mostIll 56 = .ok (.aload_n 0, 1) := by decide +kernel
theorem dX8_mostIll_57 : decode cX8_mostIll 57 = .ok (.iload_n 1, 1) := by decide +kernel
theorem dX8_mostIll_58 : decode cX8_mostIll 58 = .ok (.invokevirtual 271, 3) := by decide +kernel
theorem dX8_mostIll_61 : decode cX8_mostIll 61 = .ok (.ireturn, 1) := by decide +kernel
theorem dX8_ofLoan_0 : decode cX8_ofLoan 0 = .ok (.aload_n 0, 1) := by decide +kernel
theorem dX8_ofLoan_1 : decode cX8_ofLoan 1 = .ok (.iload_n 1, 1) := by decide +kernel
theorem dX8_ofLoan_2 : decode cX8_ofLoan 2 = .ok (.invokevirtual 298, 3) := by decide +kernel
theorem dX8_ofLoan_5 : decode cX8_ofLoan 5 = .ok (.ifCond .eq 21, 3) := by decide +kernel
theorem dX8_ofLoan_8 : decode cX8_ofLoan 8 = .ok (.aload_n 0, 1) := by decide +kernel
theorem dX8_ofLoan_9 : decode cX8_ofLoan 9 = .ok (.aload_n 0, 1) := by decide +kernel
theorem dX8_ofLoan_10 : decode cX8_ofLoan 10 = .ok (.getfield 13, 3) := by decide +kernel
theorem dX8_ofLoan_13 : decode cX8_ofLoan 13 = .ok (.iload_n 1, 1) := by decide +kernel
theorem dX8_ofLoan_14 : decode cX8_ofLoan 14 = .ok (.invokestatic 93, 3) := by decide +kernel
theorem dX8_ofLoan_17 : decode cX8_ofLoan 17 = .ok (.iload_n 2, 1) := by decide +kernel
theorem dX8_ofLoan_18 : decode cX8_ofLoan 18 = .ok (.iadd, 1) := by decide +kernel
theorem dX8_ofLoan_19 : decode cX8_ofLoan 19 = .ok (.iaload, 1) := by decide +kernel
theorem dX8_ofLoan_20 : decode cX8_ofLoan 20 = .ok (.invokevirtual 271, 3) := by decide +kernel
theorem dX8_ofLoan_23 : decode cX8_ofLoan 23 = .ok (.goto 8, 3) := by decide +kernel
theorem dX8_ofLoan_26 : decode cX8_ofLoan 26 = .ok (.aload_n 0, 1) := by decide +kernel
theorem dX8_ofLoan_27 : decode cX8_ofLoan 27 = .ok (.iconst 1, 1) := by decide +kernel
theorem dX8_ofLoan_28 : decode cX8_ofLoan 28 = .ok (.invokevirtual 265, 3) := by decide +kernel
theorem dX8_ofLoan_31 : decode cX8_ofLoan 31 = .ok (.ireturn, 1) := by decide +kernel
theorem dX8_borrowerOf_0 : decode cX8_borrowerOf 0 = .ok (.aload_n 0, 1) := by decide +kernel
theorem dX8_borrowerOf_1 : decode cX8_borrowerOf 1 = .ok (.iload_n 1, 1) := by decide +kernel
theorem dX8_borrowerOf_2 : decode cX8_borrowerOf 2 = .ok (.iconst 0, 1) := by decide +kernel
theorem dX8_borrowerOf_3 : decode cX8_borrowerOf 3 = .ok (.invokevirtual 301, 3) := by decide +kernel
theorem dX8_borrowerOf_6 : decode cX8_borrowerOf 6 = .ok (.ireturn, 1) := by decide +kernel
theorem dX8_startOf_0 : decode cX8_startOf 0 = .ok (.aload_n 0, 1) := by decide +kernel
theorem dX8_startOf_1 : decode cX8_startOf 1 = .ok (.iload_n 1, 1) := by decide +kernel
theorem dX8_startOf_2 : decode cX8_startOf 2 = .ok (.iconst 1, 1) := by decide +kernel
theorem dX8_startOf_3 : decode cX8_startOf 3 = .ok (.invokevirtual 301, 3) := by decide +kernel
theorem dX8_startOf_6 : decode cX8_startOf 6 = .ok (.ireturn, 1) := by decide +kernel
theorem dX8_lengthOf_0 : decode cX8_lengthOf 0 = .ok (.aload_n 0, 1) := by decide +kernel
theorem dX8_lengthOf_1 : decode cX8_lengthOf 1 = .ok (.iload_n 1, 1) := by decide +kernel
theorem dX8_lengthOf_2 : decode cX8_lengthOf 2 = .ok (.iconst 2, 1) := by decide +kernel
theorem dX8_lengthOf_3 : decode cX8_lengthOf 3 = .ok (.invokevirtual 301, 3) := by decide +kernel
theorem dX8_lengthOf_6 : decode cX8_lengthOf 6 = .ok (.ireturn, 1) := by decide +kernel
theorem dX8_priceOf_0 : decode cX8_priceOf 0 = .ok (.aload_n 0, 1) := by decide +kernel
theorem dX8_priceOf_1 : decode cX8_priceOf 1 = .ok (.iload_n 1, 1) := by decide +kernel
theorem dX8_priceOf_2 : decode cX8_priceOf 2 = .ok (.iconst 3, 1) := by decide +kernel
theorem dX8_priceOf_3 : decode cX8_priceOf 3 = .ok (.invokevirtual 301, 3) := by decide +kernel
theorem dX8_priceOf_6 : decode cX8_priceOf 6 = .ok (.ireturn, 1) := by decide +kernel
theorem dX8_statusOf_0 : decode cX8_statusOf 0 = .ok (.aload_n 0, 1) := by decide +kernel
theorem dX8_statusOf_1 : decode cX8_statusOf 1 = .ok (.iload_n 1, 1) := by decide +kernel
theorem dX8_statusOf_2 : decode cX8_statusOf 2 = .ok (.iconst 4, 1) := by decide +kernel
theorem dX8_statusOf_3 : decode cX8_statusOf 3 = .ok (.invokevirtual 301, 3) := by decide +kernel
theorem dX8_statusOf_6 : decode cX8_statusOf 6 = .ok (.ireturn, 1) := by decide +kernel
theorem dX8_holderOf_0 : decode cX8_holderOf 0 = .ok (.aload_n 0, 1) := by decide +kernel
theorem dX8_holderOf_1 : decode cX8_holderOf 1 = .ok (.iload_n 1, 1) := by decide +kernel
theorem dX8_holderOf_2 : decode cX8_holderOf 2 = .ok (.invokevirtual 84, 3) := by decide +kernel
theorem dX8_holderOf_5 : decode cX8_holderOf 5 = .ok (.ifCond .eq 15, 3) := by decide +kernel
theorem dX8_holderOf_8 : decode cX8_holderOf 8 = .ok (.aload_n 0, 1) := by decide +kernel
theorem dX8_holderOf_9 : decode cX8_holderOf 9 = .ok (.aload_n 0, 1) := by decide +kernel
theorem dX8_holderOf_10 : decode cX8_holderOf 10 = .ok (.iload_n 1, 1) := by decide +kernel
theorem dX8_holderOf_11 : decode cX8_holderOf 11 = .ok (.invokevirtual 109, 3) := by decide +kernel
theorem dX8_holderOf_14 : decode cX8_holderOf 14 = .ok (.invokevirtual 271, 3) := by decide +kernel
theorem dX8_holderOf_17 : decode cX8_holderOf 17 = .ok (.goto 8, 3) := by decide +kernel
theorem dX8_holderOf_20 : decode cX8_holderOf 20 = .ok (.aload_n 0, 1) := by decide +kernel
theorem dX8_holderOf_21 : decode cX8_holderOf 21 = .ok (.iconst 1, 1) := by decide +kernel
theorem dX8_holderOf_22 : decode cX8_holderOf 22 = .ok (.invokevirtual 265, 3) := by decide +kernel
theorem dX8_holderOf_25 : decode cX8_holderOf 25 = .ok (.ireturn, 1) := by decide +kernel
theorem dX8_permitFor_0 : decode cX8_permitFor 0 = .ok (.aload_n 0, 1) := by decide +kernel
theorem dX8_permitFor_1 : decode cX8_permitFor 1 = .ok (.iload_n 1, 1) := by decide +kernel
theorem dX8_permitFor_2 : decode cX8_permitFor 2 = .ok (.invokevirtual 289, 3) := by decide +kernel
theorem dX8_permitFor_5 : decode cX8_permitFor 5 = .ok (.ifCond .ne 9, 3) := by decide +kernel
theorem dX8_permitFor_8 : decode cX8_permitFor 8 = .ok (.aload_n 0, 1) := by decide +kernel
theorem dX8_permitFor_9 : decode cX8_permitFor 9 = .ok (.iconst 1, 1) := by decide +kernel
theorem dX8_permitFor_10 : decode cX8_permitFor 10 = .ok (.invokevirtual 265, 3) := by decide +kernel
theorem dX8_permitFor_13 : decode cX8_permitFor 13 = .ok (.ireturn, 1) := by decide +kernel
theorem dX8_permitFor_14 : decode cX8_permitFor 14 = .ok (.aload_n 0, 1) := by decide +kernel
theorem dX8_permitFor_15 : decode cX8_permitFor 15 = .ok (.iload_n 2, 1) := by decide +kernel
theorem dX8_permitFor_16 : decode cX8_permitFor 16 = .ok (.invokevirtual 84, 3) := by decide +kernel
theorem dX8_permitFor_19 : decode cX8_permitFor 19 = .ok (.ifCond .eq 16, 3) := by decide +kernel
theorem dX8_permitFor_22 : decode cX8_permitFor 22 = .ok (.aload_n 0, 1) := by decide +kernel
theorem dX8_permitFor_23 : decode cX8_permitFor 23 = .ok (.aload_n 0, 1) := by decide +kernel
theorem dX8_permitFor_24 : decode cX8_permitFor 24 = .ok (.iload_n 1, 1) := by decide +kernel
theorem dX8_permitFor_25 : decode cX8_permitFor 25 = .ok (.iload_n 2, 1) := by decide +kernel
theorem dX8_permitFor_26 : decode cX8_permitFor 26 = .ok (.invokevirtual 118, 3) := by decide +kernel
theorem dX8_permitFor_29 : decode cX8_permitFor 29 = .ok (.invokevirtual 271, 3) := by decide +kernel
theorem dX8_permitFor_32 : decode cX8_permitFor 32 = .ok (.goto 8, 3) := by decide +kernel
theorem dX8_permitFor_35 : decode cX8_permitFor 35 = .ok (.aload_n 0, 1) := by decide +kernel
theorem dX8_permitFor_36 : decode cX8_permitFor 36 = .ok (.iconst 2, 1) := by decide +kernel
theorem dX8_permitFor_37 : decode cX8_permitFor 37 = .ok (.invokevirtual 265, 3) := by decide +kernel
theorem dX8_permitFor_40 : decode cX8_permitFor 40 = .ok (.ireturn, 1) := by decide +kernel
theorem dX8_freeMany_0 : decode cX8_freeMany 0 = .ok (.iconst 0, 1) := by decide +kernel
theorem dX8_freeMany_1 : decode cX8_freeMany 1 = .ok (.istore_n 1, 1) := by decide +kernel
theorem dX8_freeMany_2 : decode cX8_freeMany 2 = .ok (.iconst 0, 1) := by decide +kernel
theorem dX8_freeMany_3 : decode cX8_freeMany 3 = .ok (.istore_n 2, 1) := by decide +kernel
theorem dX8_freeMany_4 : decode cX8_freeMany 4 = .ok (.iload_n 2, 1) := by decide +kernel
theorem dX8_freeMany_5 : decode cX8_freeMany 5 = .ok (.bipush 48, 2) := by decide +kernel
theorem dX8_freeMany_7 : decode cX8_freeMany 7 = .ok (.if_icmp .ge 33, 3) := by decide +kernel
theorem dX8_freeMany_10 : decode cX8_freeMany 10 = .ok (.iload_n 1, 1) := by decide +kernel
theorem dX8_freeMany_11 : decode cX8_freeMany 11 = .ok (.aload_n 0, 1) := by decide +kernel
theorem dX8_freeMany_12 : decode cX8_freeMany 12 = .ok (.aload_n 0, 1) := by decide +kernel
theorem dX8_freeMany_13 : decode cX8_freeMany 13 = .ok (.getfield 13, 3) := by decide +kernel
theorem dX8_freeMany_16 : decode cX8_freeMany 16 = .ok (.iconst 2, 1) := by decide +kernel
theorem dX8_freeMany_17 : decode cX8_freeMany 17 = .ok (.iaload, 1) := by decide +kernel
theorem dX8_freeMany_18 : decode cX8_freeMany 18 = .ok (.iload_n 2, 1) := by decide +kernel
theorem dX8_freeMany_19 : decode cX8_freeMany 19 = .ok (.iadd, 1) := by decide +kernel
theorem dX8_freeMany_20 : decode cX8_freeMany 20 = .ok (.invokevirtual 109, 3) := by decide +kernel
theorem dX8_freeMany_23 : decode cX8_freeMany 23 = .ok (.iconst (-1), 1) := by decide +kernel
theorem dX8_freeMany_24 : decode cX8_freeMany 24 = .ok (.if_icmp .ne 7, 3) := by decide +kernel
theorem dX8_freeMany_27 : decode cX8_freeMany 27 = .ok (.iconst 1, 1) := by decide +kernel
theorem dX8_freeMany_28 : decode cX8_freeMany 28 = .ok (.goto 4, 3) := by decide +kernel
theorem dX8_freeMany_31 : decode cX8_freeMany 31 = .ok (.iconst 0, 1) := by decide +kernel
theorem dX8_freeMany_32 : decode cX8_freeMany 32 = .ok (.iadd, 1) := by decide +kernel
theorem dX8_freeMany_33 : decode cX8_freeMany 33 = .ok (.istore_n 1, 1) := by decide +kernel
theorem dX8_freeMany_34 : decode cX8_freeMany 34 = .ok (.iinc 2 1, 3) := by decide +kernel
theorem dX8_freeMany_37 : decode cX8_freeMany 37 = .ok (.goto (-33), 3) := by decide +kernel
theorem dX8_freeMany_40 : decode cX8_freeMany 40 = .ok (.iload_n 1, 1) := by decide +kernel
theorem dX8_freeMany_41 : decode cX8_freeMany 41 = .ok (.ireturn, 1) := by decide +kernel
theorem dX8_freeHours_0 : decode cX8_freeHours 0 = .ok (.aload_n 0, 1) := by decide +kernel
theorem dX8_freeHours_1 : decode cX8_freeHours 1 = .ok (.aload_n 0, 1) := by decide +kernel
theorem dX8_freeHours_2 : decode cX8_freeHours 2 = .ok (.invokevirtual 304, 3) := by decide +kernel
theorem dX8_freeHours_5 : decode cX8_freeHours 5 = .ok (.invokevirtual 271, 3) := by decide +kernel
theorem dX8_freeHours_8 : decode cX8_freeHours 8 = .ok (.ireturn, 1) := by decide +kernel
theorem dX8_quote_0 : decode cX8_quote 0 = .ok (.aload_n 0, 1) := by decide +kernel
theorem dX8_quote_1 : decode cX8_quote 1 = .ok (.iload_n 1, 1) := by decide +kernel
theorem dX8_quote_2 : decode cX8_quote 2 = .ok (.invokevirtual 292, 3) := by decide +kernel
theorem dX8_quote_5 : decode cX8_quote 5 = .ok (.ifCond .ne 9, 3) := by decide +kernel
theorem dX8_quote_8 : decode cX8_quote 8 = .ok (.aload_n 0, 1) := by decide +kernel
theorem dX8_quote_9 : decode cX8_quote 9 = .ok (.iconst 1, 1) := by decide +kernel
theorem dX8_quote_10 : decode cX8_quote 10 = .ok (.invokevirtual 265, 3) := by decide +kernel
theorem dX8_quote_13 : decode cX8_quote 13 = .ok (.ireturn, 1) := by decide +kernel
theorem dX8_quote_14 : decode cX8_quote 14 = .ok (.iload_n 2, 1) := by decide +kernel
theorem dX8_quote_15 : decode cX8_quote 15 = .ok (.iconst 1, 1) := by decide +kernel
theorem dX8_quote_16 : decode cX8_quote 16 = .ok (.bipush 6, 2) := by decide +kernel
theorem dX8_quote_18 : decode cX8_quote 18 = .ok (.invokestatic 67, 3) := by decide +kernel
theorem dX8_quote_21 : decode cX8_quote 21 = .ok (.ifCond .eq 16, 3) := by decide +kernel
theorem dX8_quote_24 : decode cX8_quote 24 = .ok (.aload_n 0, 1) := by decide +kernel
theorem dX8_quote_25 : decode cX8_quote 25 = .ok (.aload_n 0, 1) := by decide +kernel
theorem dX8_quote_26 : decode cX8_quote 26 = .ok (.iload_n 1, 1) := by decide +kernel
theorem dX8_quote_27 : decode cX8_quote 27 = .ok (.iload_n 2, 1) := by decide +kernel
theorem dX8_quote_28 : decode cX8_quote 28 = .ok (.invokevirtual 135, 3) := by decide +kernel
theorem dX8_quote_31 : decode cX8_quote 31 = .ok (.invokevirtual 271, 3) := by decide +kernel
theorem dX8_quote_34 : decode cX8_quote 34 = .ok (.goto 8, 3) := by decide +kernel
theorem dX8_quote_37 : decode cX8_quote 37 = .ok (.aload_n 0, 1) := by decide +kernel
theorem dX8_quote_38 : decode cX8_quote 38 = .ok (.iconst 2, 1) := by decide +kernel
theorem dX8_quote_39 : decode cX8_quote 39 = .ok (.invokevirtual 265, 3) := by decide +kernel
theorem dX8_quote_42 : decode cX8_quote 42 = .ok (.ireturn, 1) := by decide +kernel
theorem dX8_refusal_0 : decode cX8_refusal 0 = .ok (.aload_n 0, 1) := by decide +kernel
theorem dX8_refusal_1 : decode cX8_refusal 1 = .ok (.iload_n 1, 1) := by decide +kernel
theorem dX8_refusal_2 : decode cX8_refusal 2 = .ok (.invokevirtual 292, 3) := by decide +kernel
theorem dX8_refusal_5 : decode cX8_refusal 5 = .ok (.ifCond .ne 9, 3) := by decide +kernel
theorem dX8_refusal_8 : decode cX8_refusal 8 = .ok (.aload_n 0, 1) := by decide +kernel
theorem dX8_refusal_9 : decode cX8_refusal 9 = .ok (.iconst 1, 1) := by decide +kernel
theorem dX8_refusal_10 : decode cX8_refusal 10 = .ok (.invokevirtual 265, 3) := by decide +kernel
theorem dX8_refusal_13 : decode cX8_refusal 13 = .ok (.ireturn, 1) := by decide +kernel
theorem dX8_refusal_14 : decode cX8_refusal 14 = .ok (.aload_n 0, 1) := by decide +kernel
theorem dX8_refusal_15 : decode cX8_refusal 15 = .ok (.iload_n 2, 1) := by decide +kernel
theorem dX8_refusal_16 : decode cX8_refusal 16 = .ok (.iload_n 3, 1) := by decide +kernel
theorem dX8_refusal_17 : decode cX8_refusal 17 = .ok (.bipush 6, 2) := by decide +kernel
theorem dX8_refusal_19 : decode cX8_refusal 19 = .ok (.invokevirtual 307, 3) := by decide +kernel
theorem dX8_refusal_22 : decode cX8_refusal 22 = .ok (.ifCond .eq 17, 3) := by decide +kernel
theorem dX8_refusal_25 : decode cX8_refusal 25 = .ok (.aload_n 0, 1) := by decide +kernel
theorem dX8_refusal_26 : decode cX8_refusal 26 = .ok (.aload_n 0, 1) := by decide +kernel
theorem dX8_refusal_27 : decode cX8_refusal 27 = .ok (.iload_n 1, 1) := by decide +kernel
theorem dX8_refusal_28 : decode cX8_refusal 28 = .ok (.iload_n 2, 1) := by decide +kernel
theorem dX8_refusal_29 : decode cX8_refusal 29 = .ok (.iload_n 3, 1) := by decide +kernel
theorem dX8_refusal_30 : decode cX8_refusal 30 = .ok (.invokevirtual 232, 3) := by decide +kernel
theorem dX8_refusal_33 : decode cX8_refusal 33 = .ok (.invokevirtual 271, 3) := by decide +kernel
theorem dX8_refusal_36 : decode cX8_refusal 36 = .ok (.goto 8, 3) := by decide +kernel
theorem dX8_refusal_39 : decode cX8_refusal 39 = .ok (.aload_n 0, 1) := by decide +kernel
theorem dX8_refusal_40 : decode cX8_refusal 40 = .ok (.iconst 2, 1) := by decide +kernel
theorem dX8_refusal_41 : decode cX8_refusal 41 = .ok (.invokevirtual 265, 3) := by decide +kernel
theorem dX8_refusal_44 : decode cX8_refusal 44 = .ok (.ireturn, 1) := by decide +kernel
theorem dX8_causeOf_0 : decode cX8_causeOf 0 = .ok (.iload_n 1, 1) := by decide +kernel
theorem dX8_causeOf_1 : decode cX8_causeOf 1 = .ok (.tableswitch 79 1 4 #[31, 37, 50, 59], 31) := by decide +kernel
theorem dX8_causeOf_32 : decode cX8_causeOf 32 = .ok (.aload_n 0, 1) := by decide +kernel
theorem dX8_causeOf_33 : decode cX8_causeOf 33 = .ok (.iload_n 2, 1) := by decide +kernel
theorem dX8_causeOf_34 : decode cX8_causeOf 34 = .ok (.invokevirtual 125, 3) := by decide +kernel
theorem dX8_causeOf_37 : decode cX8_causeOf 37 = .ok (.ireturn, 1) := by decide +kernel
theorem dX8_causeOf_38 : decode cX8_causeOf 38 = .ok (.aload_n 0, 1) := by decide +kernel
theorem dX8_causeOf_39 : decode cX8_causeOf 39 = .ok (.aload_n 0, 1) := by decide +kernel
theorem dX8_causeOf_40 : decode cX8_causeOf 40 = .ok (.iload_n 2, 1) := by decide +kernel
theorem dX8_causeOf_41 : decode cX8_causeOf 41 = .ok (.invokevirtual 106, 3) := by decide +kernel
theorem dX8_causeOf_44 : decode cX8_causeOf 44 = .ok (.iload_n 3, 1) := by decide +kernel
theorem dX8_causeOf_45 : decode cX8_causeOf 45 = .ok (.iload 4, 2) := by decide +kernel
theorem dX8_causeOf_47 : decode cX8_causeOf 47 = .ok (.invokevirtual 128, 3) := by decide +kernel
theorem dX8_causeOf_50 : decode cX8_causeOf 50 = .ok (.ireturn, 1) := by decide +kernel
theorem dX8_causeOf_51 : decode cX8_causeOf 51 = .ok (.aload_n 0, 1) := by decide +kernel
theorem dX8_causeOf_52 : decode cX8_causeOf 52 = .ok (.iload_n 2, 1) := by decide +kernel
theorem dX8_causeOf_53 : decode cX8_causeOf 53 = .ok (.iload_n 3, 1) := by decide +kernel
theorem dX8_causeOf_54 : decode cX8_causeOf 54 = .ok (.iload 4, 2) := by decide +kernel
theorem dX8_causeOf_56 : decode cX8_causeOf 56 = .ok (.invokevirtual 132, 3) := by decide +kernel
theorem dX8_causeOf_59 : decode cX8_causeOf 59 = .ok (.ireturn, 1) := by decide +kernel
theorem dX8_causeOf_60 : decode cX8_causeOf 60 = .ok (.aload_n 0, 1) := by decide +kernel
theorem dX8_causeOf_61 : decode cX8_causeOf 61 = .ok (.iload_n 2, 1) := by decide +kernel
theorem dX8_causeOf_62 : decode cX8_causeOf 62 = .ok (.iload 4, 2) := by decide +kernel
theorem dX8_causeOf_64 : decode cX8_causeOf 64 = .ok (.invokevirtual 135, 3) := by decide +kernel
theorem dX8_causeOf_67 : decode cX8_causeOf 67 = .ok (.aload_n 0, 1) := by decide +kernel
theorem dX8_causeOf_68 : decode cX8_causeOf 68 = .ok (.getfield 13, 3) := by decide +kernel
theorem dX8_causeOf_71 : decode cX8_causeOf 71 = .ok (.iload_n 2, 1) := by decide +kernel
theorem dX8_causeOf_72 : decode cX8_causeOf 72 = .ok (.invokestatic 78, 3) := by decide +kernel
theorem dX8_causeOf_75 : decode cX8_causeOf 75 = .ok (.iconst 2, 1) := by decide +kernel
theorem dX8_causeOf_76 : decode cX8_causeOf 76 = .ok (.iadd, 1) := by decide +kernel
theorem dX8_causeOf_77 : decode cX8_causeOf 77 = .ok (.iaload, 1) := by decide +kernel
theorem dX8_causeOf_78 : decode cX8_causeOf 78 = .ok (.isub, 1) := by decide +kernel
theorem dX8_causeOf_79 : decode cX8_causeOf 79 = .ok (.ireturn, 1) := by decide +kernel
theorem dX8_causeOf_80 : decode cX8_causeOf 80 = .ok (.iconst (-1), 1) := by decide +kernel
theorem dX8_causeOf_81 : decode cX8_causeOf 81 = .ok (.ireturn, 1) := by decide +kernel
theorem dX8_refusalCause_0 : decode cX8_refusalCause 0 = .ok (.aload_n 0, 1) := by decide +kernel
theorem dX8_refusalCause_1 : decode cX8_refusalCause 1 = .ok (.iload_n 1, 1) := by decide +kernel
theorem dX8_refusalCause_2 : decode cX8_refusalCause 2 = .ok (.invokevirtual 292, 3) := by decide +kernel
theorem dX8_refusalCause_5 : decode cX8_refusalCause 5 = .ok (.ifCond .ne 9, 3) := by decide +kernel
theorem dX8_refusalCause_8 : decode cX8_refusalCause 8 = .ok (.aload_n 0, 1) := by decide +kernel
theorem dX8_refusalCause_9 : decode cX8_refusalCause 9 = .ok (.iconst 1, 1) := by decide +kernel
theorem dX8_refusalCause_10 : decode cX8_refusalCause 10 = .ok (.invokevirtual 265, 3) := by decide +kernel
theorem dX8_refusalCause_13 : decode cX8_refusalCause 13 = .ok (.ireturn, 1) := by decide +kernel
theorem dX8_refusalCause_14 : decode cX8_refusalCause 14 = .ok (.aload_n 0, 1) := by decide +kernel
theorem dX8_refusalCause_15 : decode cX8_refusalCause 15 = .ok (.iload_n 2, 1) := by decide +kernel
theorem dX8_refusalCause_16 : decode cX8_refusalCause 16 = .ok (.iload_n 3, 1) := by decide +kernel
theorem dX8_refusalCause_17 : decode cX8_refusalCause 17 = .ok (.bipush 6, 2) := by decide +kernel
theorem dX8_refusalCause_19 : decode cX8_refusalCause 19 = .ok (.invokevirtual 307, 3) := by decide +kernel
theorem dX8_refusalCause_22 : decode cX8_refusalCause 22 = .ok (.ifCond .ne 9, 3) := by decide +kernel
theorem dX8_refusalCause_25 : decode cX8_refusalCause 25 = .ok (.aload_n 0, 1) := by decide +kernel
theorem dX8_refusalCause_26 : decode cX8_refusalCause 26 = .ok (.iconst 2, 1) := by decide +kernel
theorem dX8_refusalCause_27 : decode cX8_refusalCause 27 = .ok (.invokevirtual 265, 3) := by decide +kernel
theorem dX8_refusalCause_30 : decode cX8_refusalCause 30 = .ok (.ireturn, 1) := by decide +kernel
theorem dX8_refusalCause_31 : decode cX8_refusalCause 31 = .ok (.aload_n 0, 1) := by decide +kernel
theorem dX8_refusalCause_32 : decode cX8_refusalCause 32 = .ok (.aload_n 0, 1) := by decide +kernel
theorem dX8_refusalCause_33 : decode cX8_refusalCause 33 = .ok (.aload_n 0, 1) := by decide +kernel
theorem dX8_refusalCause_34 : decode cX8_refusalCause 34 = .ok (.iload_n 1, 1) := by decide +kernel
theorem dX8_refusalCause_35 : decode cX8_refusalCause 35 = .ok (.iload_n 2, 1) := by decide +kernel
theorem dX8_refusalCause_36 : decode cX8_refusalCause 36 = .ok (.iload_n 3, 1) := by decide +kernel
theorem dX8_refusalCause_37 : decode cX8_refusalCause 37 = .ok (.invokevirtual 232, 3) := by decide +kernel
theorem dX8_refusalCause_40 : decode cX8_refusalCause 40 = .ok (.iload_n 1, 1) := by decide +kernel
theorem dX8_refusalCause_41 : decode cX8_refusalCause 41 = .ok (.iload_n 2, 1) := by decide +kernel
theorem dX8_refusalCause_42 : decode cX8_refusalCause 42 = .ok (.iload_n 3, 1) := by decide +kernel
theorem dX8_refusalCause_43 : decode cX8_refusalCause 43 = .ok (.invokevirtual 310, 3) := by decide +kernel
theorem dX8_refusalCause_46 : decode cX8_refusalCause 46 = .ok (.invokevirtual 271, 3) := by decide +kernel
theorem dX8_refusalCause_49 : decode cX8_refusalCause 49 = .ok (.ireturn, 1) := by decide +kernel
theorem dX8_displacedBy_0 : decode cX8_displacedBy 0 = .ok (.aload_n 0, 1) := by decide +kernel
theorem dX8_displacedBy_1 : decode cX8_displacedBy 1 = .ok (.iload_n 1, 1) := by decide +kernel
theorem dX8_displacedBy_2 : decode cX8_displacedBy 2 = .ok (.invokevirtual 292, 3) := by decide +kernel
theorem dX8_displacedBy_5 : decode cX8_displacedBy 5 = .ok (.ifCond .ne 9, 3) := by decide +kernel
theorem dX8_displacedBy_8 : decode cX8_displacedBy 8 = .ok (.aload_n 0, 1) := by decide +kernel
theorem dX8_displacedBy_9 : decode cX8_displacedBy 9 = .ok (.iconst 1, 1) := by decide +kernel
theorem dX8_displacedBy_10 : decode cX8_displacedBy 10 = .ok (.invokevirtual 265, 3) := by decide +kernel
theorem dX8_displacedBy_13 : decode cX8_displacedBy 13 = .ok (.ireturn, 1) := by decide +kernel
theorem dX8_displacedBy_14 : decode cX8_displacedBy 14 = .ok (.aload_n 0, 1) := by decide +kernel
theorem dX8_displacedBy_15 : decode cX8_displacedBy 15 = .ok (.iload_n 2, 1) := by decide +kernel
theorem dX8_displacedBy_16 : decode cX8_displacedBy 16 = .ok (.iload_n 3, 1) := by decide +kernel
theorem dX8_displacedBy_17 : decode cX8_displacedBy 17 = .ok (.bipush 6, 2) := by decide +kernel
theorem dX8_displacedBy_19 : decode cX8_displacedBy 19 = .ok (.invokevirtual 307, 3) := by decide +kernel
theorem dX8_displacedBy_22 : decode cX8_displacedBy 22 = .ok (.ifCond .ne 9, 3) := by decide +kernel
theorem dX8_displacedBy_25 : decode cX8_displacedBy 25 = .ok (.aload_n 0, 1) := by decide +kernel
theorem dX8_displacedBy_26 : decode cX8_displacedBy 26 = .ok (.iconst 2, 1) := by decide +kernel
theorem dX8_displacedBy_27 : decode cX8_displacedBy 27 = .ok (.invokevirtual 265, 3) := by decide +kernel
theorem dX8_displacedBy_30 : decode cX8_displacedBy 30 = .ok (.ireturn, 1) := by decide +kernel
theorem dX8_displacedBy_31 : decode cX8_displacedBy 31 = .ok (.aload_n 0, 1) := by decide +kernel
theorem dX8_displacedBy_32 : decode cX8_displacedBy 32 = .ok (.aload_n 0, 1) := by decide +kernel
theorem dX8_displacedBy_33 : decode cX8_displacedBy 33 = .ok (.iload_n 1, 1) := by decide +kernel
theorem dX8_displacedBy_34 : decode cX8_displacedBy 34 = .ok (.iload_n 2, 1) := by decide +kernel
theorem dX8_displacedBy_35 : decode cX8_displacedBy 35 = .ok (.iload_n 3, 1) := by decide +kernel
theorem dX8_displacedBy_36 : decode cX8_displacedBy 36 = .ok (.invokevirtual 232, 3) := by decide +kernel
theorem dX8_displacedBy_39 : decode cX8_displacedBy 39 = .ok (.ifCond .ne 12, 3) := by decide +kernel
theorem dX8_displacedBy_42 : decode cX8_displacedBy 42 = .ok (.aload_n 0, 1) := by decide +kernel
theorem dX8_displacedBy_43 : decode cX8_displacedBy 43 = .ok (.iload_n 2, 1) := by decide +kernel
theorem dX8_displacedBy_44 : decode cX8_displacedBy 44 = .ok (.iload_n 3, 1) := by decide +kernel
theorem dX8_displacedBy_45 : decode cX8_displacedBy 45 = .ok (.invokevirtual 314, 3) := by decide +kernel
theorem dX8_displacedBy_48 : decode cX8_displacedBy 48 = .ok (.goto 4, 3) := by decide +kernel
theorem dX8_displacedBy_51 : decode cX8_displacedBy 51 = .ok (.iconst (-1), 1) := by decide +kernel
theorem dX8_displacedBy_52 : decode cX8_displacedBy 52 = .ok (.invokevirtual 271, 3) := by decide +kernel
theorem dX8_displacedBy_55 : decode cX8_displacedBy 55 = .ok (.ireturn, 1) := by decide +kernel
theorem dX8_earliest_0 : decode cX8_earliest 0 = .ok (.iconst 0, 1) := by decide +kernel
theorem dX8_earliest_1 : decode cX8_earliest 1 = .ok (.istore 4, 2) := by decide +kernel
theorem dX8_earliest_3 : decode cX8_earliest 3 = .ok (.iload 4, 2) := by decide +kernel
theorem dX8_earliest_5 : decode cX8_earliest 5 = .ok (.iload_n 2, 1) := by decide +kernel
theorem dX8_earliest_6 : decode cX8_earliest 6 = .ok (.iadd, 1) := by decide +kernel
theorem dX8_earliest_7 : decode cX8_earliest 7 = .ok (.bipush 48, 2) := by decide +kernel
theorem dX8_earliest_9 : decode cX8_earliest 9 = .ok (.if_icmp .gt 45, 3) := by decide +kernel
theorem dX8_earliest_12 : decode cX8_earliest 12 = .ok (.aload_n 0, 1) := by decide +kernel
theorem dX8_earliest_13 : decode cX8_earliest 13 = .ok (.getfield 13, 3) := by decide +kernel
theorem dX8_earliest_16 : decode cX8_earliest 16 = .ok (.iconst 2, 1) := by decide +kernel
theorem dX8_earliest_17 : decode cX8_earliest 17 = .ok (.iaload, 1) := by decide +kernel
theorem dX8_earliest_18 : decode cX8_earliest 18 = .ok (.iload 4, 2) := by decide +kernel
theorem dX8_earliest_20 : decode cX8_earliest 20 = .ok (.iadd, 1) := by decide +kernel
theorem dX8_earliest_21 : decode cX8_earliest 21 = .ok (.istore 5, 2) := by decide +kernel
theorem dX8_earliest_23 : decode cX8_earliest 23 = .ok (.aload_n 0, 1) := by decide +kernel
theorem dX8_earliest_24 : decode cX8_earliest 24 = .ok (.iload_n 1, 1) := by decide +kernel
theorem dX8_earliest_25 : decode cX8_earliest 25 = .ok (.iload 5, 2) := by decide +kernel
theorem dX8_earliest_27 : decode cX8_earliest 27 = .ok (.iload_n 2, 1) := by decide +kernel
theorem dX8_earliest_28 : decode cX8_earliest 28 = .ok (.invokevirtual 232, 3) := by decide +kernel
theorem dX8_earliest_31 : decode cX8_earliest 31 = .ok (.ifCond .ne 17, 3) := by decide +kernel
theorem dX8_earliest_34 : decode cX8_earliest 34 = .ok (.aload_n 0, 1) := by decide +kernel
theorem dX8_earliest_35 : decode cX8_earliest 35 = .ok (.iload 5, 2) := by decide +kernel
theorem dX8_earliest_37 : decode cX8_earliest 37 = .ok (.iload_n 2, 1) := by decide +kernel
theorem dX8_earliest_38 : decode cX8_earliest 38 = .ok (.invokevirtual 314, 3) := by decide +kernel
theorem dX8_earliest_41 : decode cX8_earliest 41 = .ok (.iload_n 3, 1) := by decide +kernel
theorem dX8_earliest_42 : decode cX8_earliest 42 = .ok (.if_icmp .gt 6, 3) := by decide +kernel
theorem dX8_earliest_45 : decode cX8_earliest 45 = .ok (.iload 5, 2) := by decide +kernel
theorem dX8_earliest_47 : decode cX8_earliest 47 = .ok (.ireturn, 1) := by decide +kernel
theorem dX8_earliest_48 : decode cX8_earliest 48 = .ok (.iinc 4 1, 3) := by decide +kernel
theorem dX8_earliest_51 : decode cX8_earliest 51 = .ok (.goto (-48), 3) := by decide +kernel
theorem dX8_earliest_54 : decode cX8_earliest 54 = .ok (.iconst (-1), 1) := by decide +kernel
theorem dX8_earliest_55 : decode cX8_earliest 55 = .ok (.ireturn, 1) := by decide +kernel
theorem dX8_earliestStart_0 : decode cX8_earliestStart 0 = .ok (.aload_n 0, 1) := by decide +kernel
theorem dX8_earliestStart_1 : decode cX8_earliestStart 1 = .ok (.iload_n 1, 1) := by decide +kernel
theorem dX8_earliestStart_2 : decode cX8_earliestStart 2 = .ok (.invokevirtual 292, 3) := by decide +kernel
theorem dX8_earliestStart_5 : decode cX8_earliestStart 5 = .ok (.ifCond .ne 9, 3) := by decide +kernel
theorem dX8_earliestStart_8 : decode cX8_earliestStart 8 = .ok (.aload_n 0, 1) := by decide +kernel
theorem dX8_earliestStart_9 : decode cX8_earliestStart 9 = .ok (.iconst 1, 1) := by decide +kernel
theorem dX8_earliestStart_10 : decode cX8_earliestStart 10 = .ok (.invokevirtual 265, 3) := by decide +kernel
theorem dX8_earliestStart_13 : decode cX8_earliestStart 13 = .ok (.ireturn, 1) := by decide +kernel
theorem dX8_earliestStart_14 : decode cX8_earliestStart 14 = .ok (.iload_n 2, 1) := by decide +kernel
theorem dX8_earliestStart_15 : decode cX8_earliestStart 15 = .ok (.iconst 1, 1) := by decide +kernel
theorem dX8_earliestStart_16 : decode cX8_earliestStart 16 = .ok (.bipush 6, 2) := by decide +kernel
theorem dX8_earliestStart_18 : decode cX8_earliestStart 18 = .ok (.invokestatic 67, 3) := by decide +kernel
theorem dX8_earliestStart_21 : decode cX8_earliestStart 21 = .ok (.ifCond .eq 18, 3) := by decide +kernel
theorem dX8_earliestStart_24 : decode cX8_earliestStart 24 = .ok (.aload_n 0, 1) := by decide +kernel
theorem dX8_earliestStart_25 : decode cX8_earliestStart 25 = .ok (.aload_n 0, 1) := by decide +kernel
theorem dX8_earliestStart_26 : decode cX8_earliestStart 26 = .ok (.iload_n 1, 1) := by decide +kernel
theorem dX8_earliestStart_27 : decode cX8_earliestStart 27 = .ok (.iload_n 2, 1) := by decide +kernel
theorem dX8_earliestStart_28 : decode cX8_earliestStart 28 = .ok (.bipush 30, 2) := by decide +kernel
theorem dX8_earliestStart_30 : decode cX8_earliestStart 30 = .ok (.invokevirtual 317, 3) := by decide +kernel
theorem dX8_earliestStart_33 : decode cX8_earliestStart 33 = .ok (.invokevirtual 271, 3) := by decide +kernel
theorem dX8_earliestStart_36 : decode cX8_earliestStart 36 = .ok (.goto 8, 3) := by decide +kernel
theorem dX8_earliestStart_39 : decode cX8_earliestStart 39 = .ok (.aload_n 0, 1) := by decide +kernel
theorem dX8_earliestStart_40 : decode cX8_earliestStart 40 = .ok (.iconst 2, 1) := by decide +kernel
theorem dX8_earliestStart_41 : decode cX8_earliestStart 41 = .ok (.invokevirtual 265, 3) := by decide +kernel
theorem dX8_earliestStart_44 : decode cX8_earliestStart 44 = .ok (.ireturn, 1) := by decide +kernel
theorem dX8_earliestPeacefulStart_0 : decode cX8_earliestPeacefulStart 0 = .ok (.aload_n 0, 1) := by decide +kernel
theorem dX8_earliestPeacefulStart_1 : decode cX8_earliestPeacefulStart 1 = .ok (.iload_n 1, 1) := by decide +kernel
theorem dX8_earliestPeacefulStart_2 : decode cX8_earliestPeacefulStart 2 = .ok (.invokevirtual 292, 3) := by decide +kernel
theorem dX8_earliestPeacefulStart_5 : decode cX8_earliestPeacefulStart 5 = .ok (.ifCond .ne 9, 3) := by decide +kernel
theorem dX8_earliestPeacefulStart_8 : decode cX8_earliestPeacefulStart 8 = .ok (.aload_n 0, 1) := by decide +kernel
theorem dX8_earliestPeacefulStart_9 : decode cX8_earliestPeacefulStart 9 = .ok (.iconst 1, 1) := by decide +kernel
theorem dX8_earliestPeacefulStart_10 : decode cX8_earliestPeacefulStart 10 = .ok (.invokevirtual 265, 3) := by decide +kernel
theorem dX8_earliestPeacefulStart_13 : decode cX8_earliestPeacefulStart 13 = .ok (.ireturn, 1) := by decide +kernel
theorem dX8_earliestPeacefulStart_14 : decode cX8_earliestPeacefulStart 14 = .ok (.iload_n 2, 1) := by decide +kernel
theorem dX8_earliestPeacefulStart_15 : decode cX8_earliestPeacefulStart 15 = .ok (.iconst 1, 1) := by decide +kernel
theorem dX8_earliestPeacefulStart_16 : decode cX8_earliestPeacefulStart 16 = .ok (.bipush 6, 2) := by decide +kernel
theorem dX8_earliestPeacefulStart_18 : decode cX8_earliestPeacefulStart 18 = .ok (.invokestatic 67, 3) := by decide +kernel
theorem dX8_earliestPeacefulStart_21 : decode cX8_earliestPeacefulStart 21 = .ok (.ifCond .eq 17, 3) := by decide +kernel
theorem dX8_earliestPeacefulStart_24 : decode cX8_earliestPeacefulStart 24 = .ok (.aload_n 0, 1) := by decide +kernel
theorem dX8_earliestPeacefulStart_25 : decode cX8_earliestPeacefulStart 25 = .ok (.aload_n 0, 1) := by decide +kernel
theorem dX8_earliestPeacefulStart_26 : decode cX8_earliestPeacefulStart 26 = .ok (.iload_n 1, 1) := by decide +kernel
theorem dX8_earliestPeacefulStart_27 : decode cX8_earliestPeacefulStart 27 = .ok (.iload_n 2, 1) := by decide +kernel
theorem dX8_earliestPeacefulStart_28 : decode cX8_earliestPeacefulStart 28 = .ok (.iconst 0, 1) := by decide +kernel
theorem dX8_earliestPeacefulStart_29 : decode cX8_earliestPeacefulStart 29 = .ok (.invokevirtual 317, 3) := by decide +kernel
theorem dX8_earliestPeacefulStart_32 : decode cX8_earliestPeacefulStart 32 = .ok (.invokevirtual 271, 3) := by decide +kernel
theorem dX8_earliestPeacefulStart_35 : decode cX8_earliestPeacefulStart 35 = .ok (.goto 8, 3) := by decide +kernel
theorem dX8_earliestPeacefulStart_38 : decode cX8_earliestPeacefulStart 38 = .ok (.aload_n 0, 1) := by decide +kernel
theorem dX8_earliestPeacefulStart_39 : decode cX8_earliestPeacefulStart 39 = .ok (.iconst 2, 1) := by decide +kernel
theorem dX8_earliestPeacefulStart_40 : decode cX8_earliestPeacefulStart 40 = .ok (.invokevirtual 265, 3) := by decide +kernel
theorem dX8_earliestPeacefulStart_43 : decode cX8_earliestPeacefulStart 43 = .ok (.ireturn, 1) := by decide +kernel
theorem dX8_illnessAfter_0 : decode cX8_illnessAfter 0 = .ok (.aload_n 0, 1) := by decide +kernel
theorem dX8_illnessAfter_1 : decode cX8_illnessAfter 1 = .ok (.iload_n 1, 1) := by decide +kernel
theorem dX8_illnessAfter_2 : decode cX8_illnessAfter 2 = .ok (.invokevirtual 292, 3) := by decide +kernel
theorem dX8_illnessAfter_5 : decode cX8_illnessAfter 5 = .ok (.ifCond .ne 9, 3) := by decide +kernel
theorem dX8_illnessAfter_8 : decode cX8_illnessAfter 8 = .ok (.aload_n 0, 1) := by decide +kernel
theorem dX8_illnessAfter_9 : decode cX8_illnessAfter 9 = .ok (.iconst 1, 1) := by decide +kernel
theorem dX8_illnessAfter_10 : decode cX8_illnessAfter 10 = .ok (.invokevirtual 265, 3) := by decide +kernel
theorem dX8_illnessAfter_13 : decode cX8_illnessAfter 13 = .ok (.ireturn, 1) := by decide +kernel
theorem dX8_illnessAfter_14 : decode cX8_illnessAfter 14 = .ok (.iload_n 2, 1) := by decide +kernel
theorem dX8_illnessAfter_15 : decode cX8_illnessAfter 15 = .ok (.iconst 0, 1) := by decide +kernel
theorem dX8_illnessAfter_16 : decode cX8_illnessAfter 16 = .ok (.sipush 200, 3) := by decide +kernel
theorem dX8_illnessAfter_19 : decode cX8_illnessAfter 19 = .ok (.invokestatic 67, 3) := by decide +kernel
theorem dX8_illnessAfter_22 : decode cX8_illnessAfter 22 = .ok (.ifCond .ne 9, 3) := by decide +kernel
theorem dX8_illnessAfter_25 : decode cX8_illnessAfter 25 = .ok (.aload_n 0, 1) := by decide +kernel
theorem dX8_illnessAfter_26 : decode cX8_illnessAfter 26 = .ok (.iconst 2, 1) := by decide +kernel
theorem dX8_illnessAfter_27 : decode cX8_illnessAfter 27 = .ok (.invokevirtual 265, 3) := by decide +kernel
theorem dX8_illnessAfter_30 : decode cX8_illnessAfter 30 = .ok (.ireturn, 1) := by decide +kernel
theorem dX8_illnessAfter_31 : decode cX8_illnessAfter 31 = .ok (.aload_n 0, 1) := by decide +kernel
theorem dX8_illnessAfter_32 : decode cX8_illnessAfter 32 = .ok (.invokevirtual 274, 3) := by decide +kernel
theorem dX8_illnessAfter_35 : decode cX8_illnessAfter 35 = .ok (.aload_n 0, 1) := by decide +kernel
theorem dX8_illnessAfter_36 : decode cX8_illnessAfter 36 = .ok (.iload_n 2, 1) := by decide +kernel
theorem dX8_illnessAfter_37 : decode cX8_illnessAfter 37 = .ok (.invokevirtual 60, 3) := by decide +kernel
theorem dX8_illnessAfter_40 : decode cX8_illnessAfter 40 = .ok (.istore_n 3, 1) := by decide +kernel
theorem dX8_illnessAfter_41 : decode cX8_illnessAfter 41 = .ok (.aload_n 0, 1) := by decide +kernel
theorem dX8_illnessAfter_42 : decode cX8_illnessAfter 42 = .ok (.getfield 13, 3) := by decide +kernel
theorem dX8_illnessAfter_45 : decode cX8_illnessAfter 45 = .ok (.iload_n 1, 1) := by decide +kernel
theorem dX8_illnessAfter_46 : decode cX8_illnessAfter 46 = .ok (.invokestatic 78, 3) := by decide +kernel
theorem dX8_illnessAfter_49 : decode cX8_illnessAfter 49 = .ok (.iconst 1, 1) := by decide +kernel
theorem dX8_illnessAfter_50 : decode cX8_illnessAfter 50 = .ok (.iadd, 1) := by decide +kernel
theorem dX8_illnessAfter_51 : decode cX8_illnessAfter 51 = .ok (.iaload, 1) := by decide +kernel
theorem dX8_illnessAfter_52 : decode cX8_illnessAfter 52 = .ok (.istore 4, 2) := by decide +kernel
theorem dX8_illnessAfter_54 : decode cX8_illnessAfter 54 = .ok (.aload_n 0, 1) := by decide +kernel
theorem dX8_illnessAfter_55 : decode cX8_illnessAfter 55 = .ok (.invokevirtual 283, 3) := by decide +kernel
theorem dX8_illnessAfter_58 : decode cX8_illnessAfter 58 = .ok (.aload_n 0, 1) := by decide +kernel
theorem dX8_illnessAfter_59 : decode cX8_illnessAfter 59 = .ok (.iload 4, 2) := by decide +kernel
theorem dX8_illnessAfter_61 : decode cX8_illnessAfter 61 = .ok (.invokevirtual 271, 3) := by decide +kernel
theorem dX8_illnessAfter_64 : decode cX8_illnessAfter 64 = .ok (.ireturn, 1) := by decide +kernel
theorem dX8_meanNoise_0 : decode cX8_meanNoise 0 = .ok (.aload_n 0, 1) := by decide +kernel
theorem dX8_meanNoise_1 : decode cX8_meanNoise 1 = .ok (.aload_n 0, 1) := by decide +kernel
theorem dX8_meanNoise_2 : decode cX8_meanNoise 2 = .ok (.iload_n 1, 1) := by decide +kernel
theorem dX8_meanNoise_3 : decode cX8_meanNoise 3 = .ok (.invokevirtual 289, 3) := by decide +kernel
theorem dX8_meanNoise_6 : decode cX8_meanNoise 6 = .ok (.ifCond .eq 7, 3) := by decide +kernel
theorem dX8_meanNoise_9 : decode cX8_meanNoise 9 = .ok (.iconst 0, 1) := by decide +kernel
theorem dX8_meanNoise_10 : decode cX8_meanNoise 10 = .ok (.goto 4, 3) := by decide +kernel
theorem dX8_meanNoise_13 : decode cX8_meanNoise 13 = .ok (.iconst 1, 1) := by decide +kernel
theorem dX8_meanNoise_14 : decode cX8_meanNoise 14 = .ok (.putfield 64, 3) := by decide +kernel
theorem dX8_meanNoise_17 : decode cX8_meanNoise 17 = .ok (.aload_n 0, 1) := by decide +kernel
theorem dX8_meanNoise_18 : decode cX8_meanNoise 18 = .ok (.getfield 64, 3) := by decide +kernel
theorem dX8_meanNoise_21 : decode cX8_meanNoise 21 = .ok (.iconst 1, 1) := by decide +kernel
theorem dX8_meanNoise_22 : decode cX8_meanNoise 22 = .ok (.if_icmp .eq 12, 3) := by decide +kernel
theorem dX8_meanNoise_25 : decode cX8_meanNoise 25 = .ok (.aload_n 0, 1) := by decide +kernel
theorem dX8_meanNoise_26 : decode cX8_meanNoise 26 = .ok (.getfield 13, 3) := by decide +kernel
theorem dX8_meanNoise_29 : decode cX8_meanNoise 29 = .ok (.iconst 2, 1) := by decide +kernel
theorem dX8_meanNoise_30 : decode cX8_meanNoise 30 = .ok (.iaload, 1) := by decide +kernel
theorem dX8_meanNoise_31 : decode cX8_meanNoise 31 = .ok (.ifCond .ne 5, 3) := by decide +kernel
theorem dX8_meanNoise_34 : decode cX8_meanNoise 34 = .ok (.dconst 0, 1) := by decide +kernel
theorem dX8_meanNoise_35 : decode cX8_meanNoise 35 = .ok (.dreturn, 1) := by decide +kernel
theorem dX8_meanNoise_36 : decode cX8_meanNoise 36 = .ok (.aload_n 0, 1) := by decide +kernel
theorem dX8_meanNoise_37 : decode cX8_meanNoise 37 = .ok (.getfield 13, 3) := by decide +kernel
theorem dX8_meanNoise_40 : decode cX8_meanNoise 40 = .ok (.iload_n 1, 1) := by decide +kernel
theorem dX8_meanNoise_41 : decode cX8_meanNoise 41 = .ok (.invokestatic 71, 3) := by decide +kernel
theorem dX8_meanNoise_44 : decode cX8_meanNoise 44 = .ok (.iconst 2, 1) := by decide +kernel
theorem dX8_meanNoise_45 : decode cX8_meanNoise 45 = .ok (.iadd, 1) := by decide +kernel
theorem dX8_meanNoise_46 : decode cX8_meanNoise 46 = .ok (.iaload, 1) := by decide +kernel
theorem dX8_meanNoise_47 : decode cX8_meanNoise 47 = .ok (.i2d, 1) := by decide +kernel
theorem dX8_meanNoise_48 : decode cX8_meanNoise 48 = .ok (.aload_n 0, 1) := by decide +kernel
theorem dX8_meanNoise_49 : decode cX8_meanNoise 49 = .ok (.getfield 13, 3) := by decide +kernel
theorem dX8_meanNoise_52 : decode cX8_meanNoise 52 = .ok (.iconst 2, 1) := by decide +kernel
theorem dX8_meanNoise_53 : decode cX8_meanNoise 53 = .ok (.iaload, 1) := by decide +kernel
theorem dX8_meanNoise_54 : decode cX8_meanNoise 54 = .ok (.i2d, 1) := by decide +kernel
theorem dX8_meanNoise_55 : decode cX8_meanNoise 55 = .ok (.ddiv, 1) := by decide +kernel
theorem dX8_meanNoise_56 : decode cX8_meanNoise 56 = .ok (.dreturn, 1) := by decide +kernel
theorem dX8_lentShare_0 : decode cX8_lentShare 0 = .ok (.aload_n 0, 1) := by decide +kernel
theorem dX8_lentShare_1 : decode cX8_lentShare 1 = .ok (.iconst 0, 1) := by decide +kernel
theorem dX8_lentShare_2 : decode cX8_lentShare 2 = .ok (.putfield 64, 3) := by decide +kernel
theorem dX8_lentShare_5 : decode cX8_lentShare 5 = .ok (.bipush 48, 2) := by decide +kernel
theorem dX8_lentShare_7 : decode cX8_lentShare 7 = .ok (.aload_n 0, 1) := by decide +kernel
theorem dX8_lentShare_8 : decode cX8_lentShare 8 = .ok (.invokevirtual 304, 3) := by decide +kernel
theorem dX8_lentShare_11 : decode cX8_lentShare 11 = .ok (.isub, 1) := by decide +kernel
theorem dX8_lentShare_12 : decode cX8_lentShare 12 = .ok (.i2f, 1) := by decide +kernel
theorem dX8_lentShare_13 : decode cX8_lentShare 13 = .ok (.ldc_w 320, 3) := by decide +kernel
theorem dX8_lentShare_16 : decode cX8_lentShare 16 = .ok (.fdiv, 1) := by decide +kernel
theorem dX8_lentShare_17 : decode cX8_lentShare 17 = .ok (.freturn, 1) := by decide +kernel
theorem dX8_twiceHeld_0 : decode cX8_twiceHeld 0 = .ok (.iconst 0, 1) := by decide +kernel
theorem dX8_twiceHeld_1 : decode cX8_twiceHeld 1 = .ok (.istore_n 1, 1) := by decide +kernel
theorem dX8_twiceHeld_2 : decode cX8_twiceHeld 2 = .ok (.iconst 0, 1) := by decide +kernel
theorem dX8_twiceHeld_3 : decode cX8_twiceHeld 3 = .ok (.istore_n 2, 1) := by decide +kernel
theorem dX8_twiceHeld_4 : decode cX8_twiceHeld 4 = .ok (.iload_n 2, 1) := by decide +kernel
theorem dX8_twiceHeld_5 : decode cX8_twiceHeld 5 = .ok (.bipush 48, 2) := by decide +kernel
theorem dX8_twiceHeld_7 : decode cX8_twiceHeld 7 = .ok (.if_icmp .ge 70, 3) := by decide +kernel
theorem dX8_twiceHeld_10 : decode cX8_twiceHeld 10 = .ok (.iconst 0, 1) := by decide +kernel
theorem dX8_twiceHeld_11 : decode cX8_twiceHeld 11 = .ok (.istore_n 3, 1) := by decide +kernel
theorem dX8_twiceHeld_12 : decode cX8_twiceHeld 12 = .ok (.iconst 0, 1) := by decide +kernel
theorem dX8_twiceHeld_13 : decode cX8_twiceHeld 13 = .ok (.istore 4, 2) := by decide +kernel
theorem dX8_twiceHeld_15 : decode cX8_twiceHeld 15 = .ok (.iload 4, 2) := by decide +kernel
theorem dX8_twiceHeld_17 : decode cX8_twiceHeld 17 = .ok (.aload_n 0, 1) := by decide +kernel
theorem dX8_twiceHeld_18 : decode cX8_twiceHeld 18 = .ok (.getfield 13, 3) := by decide +kernel
theorem dX8_twiceHeld_21 : decode cX8_twiceHeld 21 = .ok (.bipush 6, 2) := by decide +kernel
theorem dX8_twiceHeld_23 : decode cX8_twiceHeld 23 = .ok (.iaload, 1) := by decide +kernel
theorem dX8_twiceHeld_24 : decode cX8_twiceHeld 24 = .ok (.if_icmp .ge 34, 3) := by decide +kernel
theorem dX8_twiceHeld_27 : decode cX8_twiceHeld 27 = .ok (.iload_n 3, 1) := by decide +kernel
theorem dX8_twiceHeld_28 : decode cX8_twiceHeld 28 = .ok (.aload_n 0, 1) := by decide +kernel
theorem dX8_twiceHeld_29 : decode cX8_twiceHeld 29 = .ok (.iload 4, 2) := by decide +kernel
theorem dX8_twiceHeld_31 : decode cX8_twiceHeld 31 = .ok (.aload_n 0, 1) := by decide +kernel
theorem dX8_twiceHeld_32 : decode cX8_twiceHeld 32 = .ok (.getfield 13, 3) := by decide +kernel
theorem dX8_twiceHeld_35 : decode cX8_twiceHeld 35 = .ok (.iconst 2, 1) := by decide +kernel
theorem dX8_twiceHeld_36 : decode cX8_twiceHeld 36 = .ok (.iaload, 1) := by decide +kernel
theorem dX8_twiceHeld_37 : decode cX8_twiceHeld 37 = .ok (.iload_n 2, 1) := by decide +kernel
theorem dX8_twiceHeld_38 : decode cX8_twiceHeld 38 = .ok (.iadd, 1) := by decide +kernel
theorem dX8_twiceHeld_39 : decode cX8_twiceHeld 39 = .ok (.invokevirtual 102, 3) := by decide +kernel
theorem dX8_twiceHeld_42 : decode cX8_twiceHeld 42 = .ok (.ifCond .eq 7, 3) := by decide +kernel
theorem dX8_twiceHeld_45 : decode cX8_twiceHeld 45 = .ok (.iconst 1, 1) := by decide +kernel
theorem dX8_twiceHeld_46 : decode cX8_twiceHeld 46 = .ok (.goto 4, 3) := by decide +kernel
theorem dX8_twiceHeld_49 : decode cX8_twiceHeld 49 = .ok (.iconst 0, 1) := by decide +kernel
theorem dX8_twiceHeld_50 : decode cX8_twiceHeld 50 = .ok (.iadd, 1) := by decide +kernel
theorem dX8_twiceHeld_51 : decode cX8_twiceHeld 51 = .ok (.istore_n 3, 1) := by decide +kernel
theorem dX8_twiceHeld_52 : decode cX8_twiceHeld 52 = .ok (.iinc 4 1, 3) := by decide +kernel
theorem dX8_twiceHeld_55 : decode cX8_twiceHeld 55 = .ok (.goto (-40), 3) := by decide +kernel
theorem dX8_twiceHeld_58 : decode cX8_twiceHeld 58 = .ok (.iload_n 1, 1) := by decide +kernel
theorem dX8_twiceHeld_59 : decode cX8_twiceHeld 59 = .ok (.iload_n 3, 1) := by decide +kernel
theorem dX8_twiceHeld_60 : decode cX8_twiceHeld 60 = .ok (.iconst 1, 1) := by decide +kernel
theorem dX8_twiceHeld_61 : decode cX8_twiceHeld 61 = .ok (.if_icmp .le 7, 3) := by decide +kernel
theorem dX8_twiceHeld_64 : decode cX8_twiceHeld 64 = .ok (.iconst 1, 1) := by decide +kernel
theorem dX8_twiceHeld_65 : decode cX8_twiceHeld 65 = .ok (.goto 4, 3) := by decide +kernel
theorem dX8_twiceHeld_68 : decode cX8_twiceHeld 68 = .ok (.iconst 0, 1) := by decide +kernel
theorem dX8_twiceHeld_69 : decode cX8_twiceHeld 69 = .ok (.iadd, 1) := by decide +kernel
theorem dX8_twiceHeld_70 : decode cX8_twiceHeld 70 = .ok (.istore_n 1, 1) := by decide +kernel
theorem dX8_twiceHeld_71 : decode cX8_twiceHeld 71 = .ok (.iinc 2 1, 3) := by decide +kernel
theorem dX8_twiceHeld_74 : decode cX8_twiceHeld 74 = .ok (.goto (-70), 3) := by decide +kernel
theorem dX8_twiceHeld_77 : decode cX8_twiceHeld 77 = .ok (.iload_n 1, 1) := by decide +kernel
theorem dX8_twiceHeld_78 : decode cX8_twiceHeld 78 = .ok (.ireturn, 1) := by decide +kernel
theorem dX8_ledgerDifference_0 : decode cX8_ledgerDifference 0 = .ok (.aload_n 0, 1) := by decide +kernel
theorem dX8_ledgerDifference_1 : decode cX8_ledgerDifference 1 = .ok (.getfield 13, 3) := by decide +kernel
theorem dX8_ledgerDifference_4 : decode cX8_ledgerDifference 4 = .ok (.bipush 8, 2) := by decide +kernel
theorem dX8_ledgerDifference_6 : decode cX8_ledgerDifference 6 = .ok (.iaload, 1) := by decide +kernel
theorem dX8_ledgerDifference_7 : decode cX8_ledgerDifference 7 = .ok (.aload_n 0, 1) := by decide +kernel
theorem dX8_ledgerDifference_8 : decode cX8_ledgerDifference 8 = .ok (.getfield 13, 3) := by decide +kernel
theorem dX8_ledgerDifference_11 : decode cX8_ledgerDifference 11 = .ok (.bipush 7, 2) := by decide +kernel
theorem dX8_ledgerDifference_13 : decode cX8_ledgerDifference 13 = .ok (.iaload, 1) := by decide +kernel
theorem dX8_ledgerDifference_14 : decode cX8_ledgerDifference 14 = .ok (.isub, 1) := by decide +kernel
theorem dX8_ledgerDifference_15 : decode cX8_ledgerDifference 15 = .ok (.istore_n 1, 1) := by decide +kernel
theorem dX8_ledgerDifference_16 : decode cX8_ledgerDifference 16 = .ok (.iconst 0, 1) := by decide +kernel
theorem dX8_ledgerDifference_17 : decode cX8_ledgerDifference 17 = .ok (.istore_n 2, 1) := by decide +kernel
theorem dX8_ledgerDifference_18 : decode cX8_ledgerDifference 18 = .ok (.iload_n 2, 1) := by decide +kernel
theorem dX8_ledgerDifference_19 : decode cX8_ledgerDifference 19 = .ok (.aload_n 0, 1) := by decide +kernel
theorem dX8_ledgerDifference_20 : decode cX8_ledgerDifference 20 = .ok (.getfield 13, 3) := by decide +kernel
theorem dX8_ledgerDifference_23 : decode cX8_ledgerDifference 23 = .ok (.iconst 4, 1) := by decide +kernel
theorem dX8_ledgerDifference_24 : decode cX8_ledgerDifference 24 = .ok (.iaload, 1) := by decide +kernel
theorem dX8_ledgerDifference_25 : decode cX8_ledgerDifference 25 = .ok (.if_icmp .ge 23, 3) := by decide +kernel
theorem dX8_ledgerDifference_28 : decode cX8_ledgerDifference 28 = .ok (.iload_n 1, 1) := by decide +kernel
theorem dX8_ledgerDifference_29 : decode cX8_ledgerDifference 29 = .ok (.aload_n 0, 1) := by decide +kernel
theorem dX8_ledgerDifference_30 : decode cX8_ledgerDifference 30 = .ok (.getfield 13, 3) := by decide +kernel
theorem dX8_ledgerDifference_33 : decode cX8_ledgerDifference 33 = .ok (.iload_n 2, 1) := by decide +kernel
theorem dX8_ledgerDifference_34 : decode cX8_ledgerDifference 34 = .ok (.invokestatic 78, 3) := by decide +kernel
theorem dX8_ledgerDifference_37 : decode cX8_ledgerDifference 37 = .ok (.iconst 2, 1) := by decide +kernel
theorem dX8_ledgerDifference_38 : decode cX8_ledgerDifference 38 = .ok (.iadd, 1) := by decide +kernel
theorem dX8_ledgerDifference_39 : decode cX8_ledgerDifference 39 = .ok (.iaload, 1) := by decide +kernel
theorem dX8_ledgerDifference_40 : decode cX8_ledgerDifference 40 = .ok (.iadd, 1) := by decide +kernel
theorem dX8_ledgerDifference_41 : decode cX8_ledgerDifference 41 = .ok (.istore_n 1, 1) := by decide +kernel
theorem dX8_ledgerDifference_42 : decode cX8_ledgerDifference 42 = .ok (.iinc 2 1, 3) := by decide +kernel
theorem dX8_ledgerDifference_45 : decode cX8_ledgerDifference 45 = .ok (.goto (-27), 3) := by decide +kernel
theorem dX8_ledgerDifference_48 : decode cX8_ledgerDifference 48 = .ok (.iconst 0, 1) := by decide +kernel
theorem dX8_ledgerDifference_49 : decode cX8_ledgerDifference 49 = .ok (.istore_n 2, 1) := by decide +kernel
theorem dX8_ledgerDifference_50 : decode cX8_ledgerDifference 50 = .ok (.iload_n 2, 1) := by decide +kernel
theorem dX8_ledgerDifference_51 : decode cX8_ledgerDifference 51 = .ok (.aload_n 0, 1) := by decide +kernel
theorem dX8_ledgerDifference_52 : decode cX8_ledgerDifference 52 = .ok (.getfield 13, 3) := by decide +kernel
theorem dX8_ledgerDifference_55 : decode cX8_ledgerDifference 55 = .ok (.bipush 6, 2) := by decide +kernel
theorem dX8_ledgerDifference_57 : decode cX8_ledgerDifference 57 = .ok (.iaload, 1) := by decide +kernel
theorem dX8_ledgerDifference_58 : decode cX8_ledgerDifference 58 = .ok (.if_icmp .ge 42, 3) := by decide +kernel
theorem dX8_ledgerDifference_61 : decode cX8_ledgerDifference 61 = .ok (.iload_n 1, 1) := by decide +kernel
theorem dX8_ledgerDifference_62 : decode cX8_ledgerDifference 62 = .ok (.aload_n 0, 1) := by decide +kernel
theorem dX8_ledgerDifference_63 : decode cX8_ledgerDifference 63 = .ok (.getfield 13, 3) := by decide +kernel
theorem dX8_ledgerDifference_66 : decode cX8_ledgerDifference 66 = .ok (.iload_n 2, 1) := by decide +kernel
theorem dX8_ledgerDifference_67 : decode cX8_ledgerDifference 67 = .ok (.invokestatic 93, 3) := by decide +kernel
theorem dX8_ledgerDifference_70 : decode cX8_ledgerDifference 70 = .ok (.iconst 4, 1) := by decide +kernel
theorem dX8_ledgerDifference_71 : decode cX8_ledgerDifference 71 = .ok (.iadd, 1) := by decide +kernel
theorem dX8_ledgerDifference_72 : decode cX8_ledgerDifference 72 = .ok (.iaload, 1) := by decide +kernel
theorem dX8_ledgerDifference_73 : decode cX8_ledgerDifference 73 = .ok (.iconst 5, 1) := by decide +kernel
theorem dX8_ledgerDifference_74 : decode cX8_ledgerDifference 74 = .ok (.if_icmp .ne 7, 3) := by decide +kernel
theorem dX8_ledgerDifference_77 : decode cX8_ledgerDifference 77 = .ok (.iconst 0, 1) := by decide +kernel
theorem dX8_ledgerDifference_78 : decode cX8_ledgerDifference 78 = .ok (.goto 14, 3) := by decide +kernel
theorem dX8_ledgerDifference_81 : decode cX8_ledgerDifference 81 = .ok (.aload_n 0, 1) := by decide +kernel
theorem dX8_ledgerDifference_82 : decode cX8_ledgerDifference 82 = .ok (.getfield 13, 3) := by decide +kernel
theorem dX8_ledgerDifference_85 : decode cX8_ledgerDifference 85 = .ok (.iload_n 2, 1) := by decide +kernel
theorem dX8_ledgerDifference_86 : decode cX8_ledgerDifference 86 = .ok (.invokestatic 93, 3) := by decide +kernel
theorem dX8_ledgerDifference_89 : decode cX8_ledgerDifference 89 = .ok (.iconst 3, 1) := by decide +kernel
theorem dX8_ledgerDifference_90 : decode cX8_ledgerDifference 90 = .ok (.iadd, 1) := by decide +kernel
theorem dX8_ledgerDifference_91 : decode cX8_ledgerDifference 91 = .ok (.iaload, 1) := by decide +kernel
theorem dX8_ledgerDifference_92 : decode cX8_ledgerDifference 92 = .ok (.iadd, 1) := by decide +kernel
theorem dX8_ledgerDifference_93 : decode cX8_ledgerDifference 93 = .ok (.istore_n 1, 1) := by decide +kernel
theorem dX8_ledgerDifference_94 : decode cX8_ledgerDifference 94 = .ok (.iinc 2 1, 3) := by decide +kernel
theorem dX8_ledgerDifference_97 : decode cX8_ledgerDifference 97 = .ok (.goto (-47), 3) := by decide +kernel
theorem dX8_ledgerDifference_100 : decode cX8_ledgerDifference 100 = .ok (.aload_n 0, 1) := by decide +kernel
theorem dX8_ledgerDifference_101 : decode cX8_ledgerDifference 101 = .ok (.iload_n 1, 1) := by decide +kernel
theorem dX8_ledgerDifference_102 : decode cX8_ledgerDifference 102 = .ok (.invokestatic 321, 3) := by decide +kernel
theorem dX8_ledgerDifference_105 : decode cX8_ledgerDifference 105 = .ok (.aload_n 0, 1) := by decide +kernel
theorem dX8_ledgerDifference_106 : decode cX8_ledgerDifference 106 = .ok (.invokevirtual 324, 3) := by decide +kernel
theorem dX8_ledgerDifference_109 : decode cX8_ledgerDifference 109 = .ok (.iadd, 1) := by decide +kernel
theorem dX8_ledgerDifference_110 : decode cX8_ledgerDifference 110 = .ok (.invokevirtual 271, 3) := by decide +kernel
theorem dX8_ledgerDifference_113 : decode cX8_ledgerDifference 113 = .ok (.ireturn, 1) := by decide +kernel
theorem dX8_lend_0 : decode cX8_lend 0 = .ok (.aload_n 0, 1) := by decide +kernel
theorem dX8_lend_1 : decode cX8_lend 1 = .ok (.iload_n 1, 1) := by decide +kernel
theorem dX8_lend_2 : decode cX8_lend 2 = .ok (.invokevirtual 292, 3) := by decide +kernel
theorem dX8_lend_5 : decode cX8_lend 5 = .ok (.ifCond .ne 9, 3) := by decide +kernel
theorem dX8_lend_8 : decode cX8_lend 8 = .ok (.aload_n 0, 1) := by decide +kernel
theorem dX8_lend_9 : decode cX8_lend 9 = .ok (.iconst 1, 1) := by decide +kernel
theorem dX8_lend_10 : decode cX8_lend 10 = .ok (.invokevirtual 265, 3) := by decide +kernel
theorem dX8_lend_13 : decode cX8_lend 13 = .ok (.ireturn, 1) := by decide +kernel
theorem dX8_lend_14 : decode cX8_lend 14 = .ok (.aload_n 0, 1) := by decide +kernel
theorem dX8_lend_15 : decode cX8_lend 15 = .ok (.iload_n 2, 1) := by decide +kernel
theorem dX8_lend_16 : decode cX8_lend 16 = .ok (.iload_n 3, 1) := by decide +kernel
theorem dX8_lend_17 : decode cX8_lend 17 = .ok (.bipush 6, 2) := by decide +kernel
theorem dX8_lend_19 : decode cX8_lend 19 = .ok (.invokevirtual 307, 3) := by decide +kernel
theorem dX8_lend_22 : decode cX8_lend 22 = .ok (.ifCond .ne 9, 3) := by decide +kernel
theorem dX8_lend_25 : decode cX8_lend 25 = .ok (.aload_n 0, 1) := by decide +kernel
theorem dX8_lend_26 : decode cX8_lend 26 = .ok (.iconst 2, 1) := by decide +kernel
theorem dX8_lend_27 : decode cX8_lend 27 = .ok (.invokevirtual 265, 3) := by decide +kernel
theorem dX8_lend_30 : decode cX8_lend 30 = .ok (.ireturn, 1) := by decide +kernel
theorem dX8_lend_31 : decode cX8_lend 31 = .ok (.aload_n 0, 1) := by decide +kernel
theorem dX8_lend_32 : decode cX8_lend 32 = .ok (.iload_n 1, 1) := by decide +kernel
theorem dX8_lend_33 : decode cX8_lend 33 = .ok (.iload_n 2, 1) := by decide +kernel
theorem dX8_lend_34 : decode cX8_lend 34 = .ok (.iload_n 3, 1) := by decide +kernel
theorem dX8_lend_35 : decode cX8_lend 35 = .ok (.invokevirtual 232, 3) := by decide +kernel
theorem dX8_lend_38 : decode cX8_lend 38 = .ok (.ifCond .eq 9, 3) := by decide +kernel
theorem dX8_lend_41 : decode cX8_lend 41 = .ok (.aload_n 0, 1) := by decide +kernel
theorem dX8_lend_42 : decode cX8_lend 42 = .ok (.iconst 3, 1) := by decide +kernel
theorem dX8_lend_43 : decode cX8_lend 43 = .ok (.invokevirtual 265, 3) := by decide +kernel
theorem dX8_lend_46 : decode cX8_lend 46 = .ok (.ireturn, 1) := by decide +kernel
theorem dX8_lend_47 : decode cX8_lend 47 = .ok (.aload_n 0, 1) := by decide +kernel
theorem dX8_lend_48 : decode cX8_lend 48 = .ok (.invokevirtual 327, 3) := by decide +kernel
theorem dX8_lend_51 : decode cX8_lend 51 = .ok (.aload_n 0, 1) := by decide +kernel
theorem dX8_lend_52 : decode cX8_lend 52 = .ok (.iload_n 1, 1) := by decide +kernel
theorem dX8_lend_53 : decode cX8_lend 53 = .ok (.iload_n 2, 1) := by decide +kernel
theorem dX8_lend_54 : decode cX8_lend 54 = .ok (.iload_n 3, 1) := by decide +kernel
theorem dX8_lend_55 : decode cX8_lend 55 = .ok (.invokevirtual 57, 3) := by decide +kernel
theorem dX8_lend_58 : decode cX8_lend 58 = .ok (.aload_n 0, 1) := by decide +kernel
theorem dX8_lend_59 : decode cX8_lend 59 = .ok (.aload_n 0, 1) := by decide +kernel
theorem dX8_lend_60 : decode cX8_lend 60 = .ok (.getfield 13, 3) := by decide +kernel
theorem dX8_lend_63 : decode cX8_lend 63 = .ok (.bipush 6, 2) := by decide +kernel
theorem dX8_lend_65 : decode cX8_lend 65 = .ok (.iaload, 1) := by decide +kernel
theorem dX8_lend_66 : decode cX8_lend 66 = .ok (.iconst 1, 1) := by decide +kernel
theorem dX8_lend_67 : decode cX8_lend 67 = .ok (.isub, 1) := by decide +kernel
theorem dX8_lend_68 : decode cX8_lend 68 = .ok (.invokevirtual 271, 3) := by decide +kernel
theorem dX8_lend_71 : decode cX8_lend 71 = .ok (.ireturn, 1) := by decide +kernel
theorem dX8_cancel_0 : decode cX8_cancel 0 = .ok (.aload_n 0, 1) := by decide +kernel
theorem dX8_cancel_1 : decode cX8_cancel 1 = .ok (.iload_n 1, 1) := by decide +kernel
theorem dX8_cancel_2 : decode cX8_cancel 2 = .ok (.invokevirtual 298, 3) := by decide +kernel
theorem dX8_cancel_5 : decode cX8_cancel 5 = .ok (.ifCond .ne 9, 3) := by decide +kernel
theorem dX8_cancel_8 : decode cX8_cancel 8 = .ok (.aload_n 0, 1) := by decide +kernel
theorem dX8_cancel_9 : decode cX8_cancel 9 = .ok (.iconst 1, 1) := by decide +kernel
theorem dX8_cancel_10 : decode cX8_cancel 10 = .ok (.invokevirtual 265, 3) := by decide +kernel
theorem dX8_cancel_13 : decode cX8_cancel 13 = .ok (.ireturn, 1) := by decide +kernel
theorem dX8_cancel_14 : decode cX8_cancel 14 = .ok (.aload_n 0, 1) := by decide +kernel
theorem dX8_cancel_15 : decode cX8_cancel 15 = .ok (.getfield 13, 3) := by decide +kernel
theorem dX8_cancel_18 : decode cX8_cancel 18 = .ok (.iload_n 1, 1) := by decide +kernel
theorem dX8_cancel_19 : decode cX8_cancel 19 = .ok (.invokestatic 93, 3) := by decide +kernel
theorem dX8_cancel_22 : decode cX8_cancel 22 = .ok (.iconst 4, 1) := by decide +kernel
theorem dX8_cancel_23 : decode cX8_cancel 23 = .ok (.iadd, 1) := by decide +kernel
theorem dX8_cancel_24 : decode cX8_cancel 24 = .ok (.iaload, 1) := by decide +kernel
theorem dX8_cancel_25 : decode cX8_cancel 25 = .ok (.ifCond .eq 9, 3) := by decide +kernel
theorem dX8_cancel_28 : decode cX8_cancel 28 = .ok (.aload_n 0, 1) := by decide +kernel
theorem dX8_cancel_29 : decode cX8_cancel 29 = .ok (.iconst 2, 1) := by decide +kernel
theorem dX8_cancel_30 : decode cX8_cancel 30 = .ok (.invokevirtual 265, 3) := by decide +kernel
theorem dX8_cancel_33 : decode cX8_cancel 33 = .ok (.ireturn, 1) := by decide +kernel
theorem dX8_cancel_34 : decode cX8_cancel 34 = .ok (.aload_n 0, 1) := by decide +kernel
theorem dX8_cancel_35 : decode cX8_cancel 35 = .ok (.invokevirtual 327, 3) := by decide +kernel
theorem dX8_cancel_38 : decode cX8_cancel 38 = .ok (.aload_n 0, 1) := by decide +kernel
theorem dX8_cancel_39 : decode cX8_cancel 39 = .ok (.iload_n 1, 1) := by decide +kernel
theorem dX8_cancel_40 : decode cX8_cancel 40 = .ok (.invokevirtual 141, 3) := by decide +kernel
theorem dX8_cancel_43 : decode cX8_cancel 43 = .ok (.aload_n 0, 1) := by decide +kernel
theorem dX8_cancel_44 : decode cX8_cancel 44 = .ok (.aload_n 0, 1) := by decide +kernel
theorem dX8_cancel_45 : decode cX8_cancel 45 = .ok (.getfield 13, 3) := by decide +kernel
theorem dX8_cancel_48 : decode cX8_cancel 48 = .ok (.aload_n 0, 1) := by decide +kernel
theorem dX8_cancel_49 : decode cX8_cancel 49 = .ok (.getfield 13, 3) := by decide +kernel
theorem dX8_cancel_52 : decode cX8_cancel 52 = .ok (.iload_n 1, 1) := by decide +kernel
theorem dX8_cancel_53 : decode cX8_cancel 53 = .ok (.invokestatic 93, 3) := by decide +kernel
theorem dX8_cancel_56 : decode cX8_cancel 56 = .ok (.iconst 0, 1) := by decide +kernel
theorem dX8_cancel_57 : decode cX8_cancel 57 = .ok (.iadd, 1) := by decide +kernel
theorem dX8_cancel_58 : decode cX8_cancel 58 = .ok (.iaload, 1) := by decide +kernel
theorem dX8_cancel_59 : decode cX8_cancel 59 = .ok (.invokestatic 78, 3) := by decide +kernel
theorem dX8_cancel_62 : decode cX8_cancel 62 = .ok (.iconst 2, 1) := by decide +kernel
theorem dX8_cancel_63 : decode cX8_cancel 63 = .ok (.iadd, 1) := by decide +kernel
theorem dX8_cancel_64 : decode cX8_cancel 64 = .ok (.iaload, 1) := by decide +kernel
theorem dX8_cancel_65 : decode cX8_cancel 65 = .ok (.invokevirtual 271, 3) := by decide +kernel
theorem dX8_cancel_68 : decode cX8_cancel 68 = .ok (.ireturn, 1) := by decide +kernel
theorem dX8_whistle_0 : decode cX8_whistle 0 = .ok (.aload_n 0, 1) := by decide +kernel
theorem dX8_whistle_1 : decode cX8_whistle 1 = .ok (.iload_n 1, 1) := by decide +kernel
theorem dX8_whistle_2 : decode cX8_whistle 2 = .ok (.invokevirtual 298, 3) := by decide +kernel
theorem dX8_whistle_5 : decode cX8_whistle 5 = .ok (.ifCond .ne 9, 3) := by decide +kernel
theorem dX8_whistle_8 : decode cX8_whistle 8 = .ok (.aload_n 0, 1) := by decide +kernel
theorem dX8_whistle_9 : decode cX8_whistle 9 = .ok (.iconst 1, 1) := by decide +kernel
theorem dX8_whistle_10 : decode cX8_whistle 10 = .ok (.invokevirtual 265, 3) := by decide +kernel
theorem dX8_whistle_13 : decode cX8_whistle 13 = .ok (.ireturn, 1) := by decide +kernel
theorem dX8_whistle_14 : decode cX8_whistle 14 = .ok (.aload_n 0, 1) := by decide +kernel
theorem dX8_whistle_15 : decode cX8_whistle 15 = .ok (.iload_n 1, 1) := by decide +kernel
theorem dX8_whistle_16 : decode cX8_whistle 16 = .ok (.invokevirtual 235, 3) := by decide +kernel
theorem dX8_whistle_19 : decode cX8_whistle 19 = .ok (.ifCond .ne 9, 3) := by decide +kernel
theorem dX8_whistle_22 : decode cX8_whistle 22 = .ok (.aload_n 0, 1) := by decide +kernel
theorem dX8_whistle_23 : decode cX8_whistle 23 = .ok (.iconst 2, 1) := by decide +kernel
theorem dX8_whistle_24 : decode cX8_whistle 24 = .ok (.invokevirtual 265, 3) := by decide +kernel
theorem dX8_whistle_27 : decode cX8_whistle 27 = .ok (.ireturn, 1) := by decide +kernel
theorem dX8_whistle_28 : decode cX8_whistle 28 = .ok (.aload_n 0, 1) := by decide +kernel
theorem dX8_whistle_29 : decode cX8_whistle 29 = .ok (.invokevirtual 327, 3) := by decide +kernel
theorem dX8_whistle_32 : decode cX8_whistle 32 = .ok (.aload_n 0, 1) := by decide +kernel
theorem dX8_whistle_33 : decode cX8_whistle 33 = .ok (.getfield 13, 3) := by decide +kernel
theorem dX8_whistle_36 : decode cX8_whistle 36 = .ok (.iload_n 1, 1) := by decide +kernel
theorem dX8_whistle_37 : decode cX8_whistle 37 = .ok (.invokestatic 93, 3) := by decide +kernel
theorem dX8_whistle_40 : decode cX8_whistle 40 = .ok (.iconst 4, 1) := by decide +kernel
theorem dX8_whistle_41 : decode cX8_whistle 41 = .ok (.iadd, 1) := by decide +kernel
theorem dX8_whistle_42 : decode cX8_whistle 42 = .ok (.iconst 3, 1) := by decide +kernel
theorem dX8_whistle_43 : decode cX8_whistle 43 = .ok (.iastore, 1) := by decide +kernel
theorem dX8_whistle_44 : decode cX8_whistle 44 = .ok (.aload_n 0, 1) := by decide +kernel
theorem dX8_whistle_45 : decode cX8_whistle 45 = .ok (.aload_n 0, 1) := by decide +kernel
theorem dX8_whistle_46 : decode cX8_whistle 46 = .ok (.getfield 13, 3) := by decide +kernel
theorem dX8_whistle_49 : decode cX8_whistle 49 = .ok (.iconst 2, 1) := by decide +kernel
theorem dX8_whistle_50 : decode cX8_whistle 50 = .ok (.iaload, 1) := by decide +kernel
theorem dX8_whistle_51 : decode cX8_whistle 51 = .ok (.aload_n 0, 1) := by decide +kernel
theorem dX8_whistle_52 : decode cX8_whistle 52 = .ok (.iload_n 1, 1) := by decide +kernel
theorem dX8_whistle_53 : decode cX8_whistle 53 = .ok (.invokevirtual 99, 3) := by decide +kernel
theorem dX8_whistle_56 : decode cX8_whistle 56 = .ok (.isub, 1) := by decide +kernel
theorem dX8_whistle_57 : decode cX8_whistle 57 = .ok (.invokevirtual 271, 3) := by decide +kernel
theorem dX8_whistle_60 : decode cX8_whistle 60 = .ok (.ireturn, 1) := by decide +kernel
theorem dX8_grantPermit_0 : decode cX8_grantPermit 0 = .ok (.aload_n 0, 1) := by decide +kernel
theorem dX8_grantPermit_1 : decode cX8_grantPermit 1 = .ok (.iload_n 1, 1) := by decide +kernel
theorem dX8_grantPermit_2 : decode cX8_grantPermit 2 = .ok (.invokevirtual 289, 3) := by decide +kernel
theorem dX8_grantPermit_5 : decode cX8_grantPermit 5 = .ok (.ifCond .ne 9, 3) := by decide +kernel
theorem dX8_grantPermit_8 : decode cX8_grantPermit 8 = .ok (.aload_n 0, 1) := by decide +kernel
theorem dX8_grantPermit_9 : decode cX8_grantPermit 9 = .ok (.iconst 1, 1) := by decide +kernel
theorem dX8_grantPermit_10 : decode cX8_grantPermit 10 = .ok (.invokevirtual 265, 3) := by decide +kernel
theorem dX8_grantPermit_13 : decode cX8_grantPermit 13 = .ok (.ireturn, 1) := by decide +kernel
theorem dX8_grantPermit_14 : decode cX8_grantPermit 14 = .ok (.aload_n 0, 1) := by decide +kernel
theorem dX8_grantPermit_15 : decode cX8_grantPermit 15 = .ok (.iload_n 2, 1) := by decide +kernel
theorem dX8_grantPermit_16 : decode cX8_grantPermit 16 = .ok (.iload_n 3, 1) := by decide +kernel
theorem dX8_grantPermit_17 : decode cX8_grantPermit 17 = .ok (.bipush 12, 2) := by decide +kernel
theorem dX8_grantPermit_19 : decode cX8_grantPermit 19 = .ok (.invokevirtual 307, 3) := by decide +kernel
theorem dX8_grantPermit_22 : decode cX8_grantPermit 22 = .ok (.ifCond .ne 9, 3) := by decide +kernel
theorem dX8_grantPermit_25 : decode cX8_grantPermit 25 = .ok (.aload_n 0, 1) := by decide +kernel
theorem dX8_grantPermit_26 : decode cX8_grantPermit 26 = .ok (.iconst 2, 1) := by decide +kernel
theorem dX8_grantPermit_27 : decode cX8_grantPermit 27 = .ok (.invokevirtual 265, 3) := by decide +kernel
theorem dX8_grantPermit_30 : decode cX8_grantPermit 30 = .ok (.ireturn, 1) := by decide +kernel
theorem dX8_grantPermit_31 : decode cX8_grantPermit 31 = .ok (.aload_n 0, 1) := by decide +kernel
theorem dX8_grantPermit_32 : decode cX8_grantPermit 32 = .ok (.iload_n 1, 1) := by decide +kernel
theorem dX8_grantPermit_33 : decode cX8_grantPermit 33 = .ok (.iload_n 2, 1) := by decide +kernel
theorem dX8_grantPermit_34 : decode cX8_grantPermit 34 = .ok (.iload_n 3, 1) := by decide +kernel
theorem dX8_grantPermit_35 : decode cX8_grantPermit 35 = .ok (.invokevirtual 226, 3) := by decide +kernel
theorem dX8_grantPermit_38 : decode cX8_grantPermit 38 = .ok (.ifCond .ne 9, 3) := by decide +kernel
theorem dX8_grantPermit_41 : decode cX8_grantPermit 41 = .ok (.aload_n 0, 1) := by decide +kernel
theorem dX8_grantPermit_42 : decode cX8_grantPermit 42 = .ok (.iconst 3, 1) := by decide +kernel
theorem dX8_grantPermit_43 : decode cX8_grantPermit 43 = .ok (.invokevirtual 265, 3) := by decide +kernel
theorem dX8_grantPermit_46 : decode cX8_grantPermit 46 = .ok (.ireturn, 1) := by decide +kernel
theorem dX8_grantPermit_47 : decode cX8_grantPermit 47 = .ok (.aload_n 0, 1) := by decide +kernel
theorem dX8_grantPermit_48 : decode cX8_grantPermit 48 = .ok (.invokevirtual 327, 3) := by decide +kernel
theorem dX8_grantPermit_51 : decode cX8_grantPermit 51 = .ok (.aload_n 0, 1) := by decide +kernel
theorem dX8_grantPermit_52 : decode cX8_grantPermit 52 = .ok (.iload_n 1, 1) := by decide +kernel
theorem dX8_grantPermit_53 : decode cX8_grantPermit 53 = .ok (.iload_n 2, 1) := by decide +kernel
theorem dX8_grantPermit_54 : decode cX8_grantPermit 54 = .ok (.iload_n 3, 1) := by decide +kernel
theorem dX8_grantPermit_55 : decode cX8_grantPermit 55 = .ok (.invokevirtual 54, 3) := by decide +kernel
theorem dX8_grantPermit_58 : decode cX8_grantPermit 58 = .ok (.aload_n 0, 1) := by decide +kernel
theorem dX8_grantPermit_59 : decode cX8_grantPermit 59 = .ok (.aload_n 0, 1) := by decide +kernel
theorem dX8_grantPermit_60 : decode cX8_grantPermit 60 = .ok (.getfield 13, 3) := by decide +kernel
theorem dX8_grantPermit_63 : decode cX8_grantPermit 63 = .ok (.iconst 5, 1) := by decide +kernel
theorem dX8_grantPermit_64 : decode cX8_grantPermit 64 = .ok (.iaload, 1) := by decide +kernel
theorem dX8_grantPermit_65 : decode cX8_grantPermit 65 = .ok (.iconst 1, 1) := by decide +kernel
theorem dX8_grantPermit_66 : decode cX8_grantPermit 66 = .ok (.isub, 1) := by decide +kernel
theorem dX8_grantPermit_67 : decode cX8_grantPermit 67 = .ok (.invokevirtual 271, 3) := by decide +kernel
theorem dX8_grantPermit_70 : decode cX8_grantPermit 70 = .ok (.ireturn, 1) := by decide +kernel
theorem dX8_revokePermit_0 : decode cX8_revokePermit 0 = .ok (.aload_n 0, 1) := by decide +kernel
theorem dX8_revokePermit_1 : decode cX8_revokePermit 1 = .ok (.iload_n 1, 1) := by decide +kernel
theorem dX8_revokePermit_2 : decode cX8_revokePermit 2 = .ok (.invokevirtual 330, 3) := by decide +kernel
theorem dX8_revokePermit_5 : decode cX8_revokePermit 5 = .ok (.ifCond .ne 9, 3) := by decide +kernel
theorem dX8_revokePermit_8 : decode cX8_revokePermit 8 = .ok (.aload_n 0, 1) := by decide +kernel
theorem dX8_revokePermit_9 : decode cX8_revokePermit 9 = .ok (.iconst 1, 1) := by decide +kernel
theorem dX8_revokePermit_10 : decode cX8_revokePermit 10 = .ok (.invokevirtual 265, 3) := by decide +kernel
theorem dX8_revokePermit_13 : decode cX8_revokePermit 13 = .ok (.ireturn, 1) := by decide +kernel
theorem dX8_revokePermit_14 : decode cX8_revokePermit 14 = .ok (.aload_n 0, 1) := by decide +kernel
theorem dX8_revokePermit_15 : decode cX8_revokePermit 15 = .ok (.getfield 13, 3) := by decide +kernel
theorem dX8_revokePermit_18 : decode cX8_revokePermit 18 = .ok (.iload_n 1, 1) := by decide +kernel
theorem dX8_revokePermit_19 : decode cX8_revokePermit 19 = .ok (.invokestatic 87, 3) := by decide +kernel
theorem dX8_revokePermit_22 : decode cX8_revokePermit 22 = .ok (.iconst 3, 1) := by decide +kernel
theorem dX8_revokePermit_23 : decode cX8_revokePermit 23 = .ok (.iadd, 1) := by decide +kernel
theorem dX8_revokePermit_24 : decode cX8_revokePermit 24 = .ok (.iaload, 1) := by decide +kernel
theorem dX8_revokePermit_25 : decode cX8_revokePermit 25 = .ok (.iconst 1, 1) := by decide +kernel
theorem dX8_revokePermit_26 : decode cX8_revokePermit 26 = .ok (.if_icmp .ne 9, 3) := by decide +kernel
theorem dX8_revokePermit_29 : decode cX8_revokePermit 29 = .ok (.aload_n 0, 1) := by decide +kernel
theorem dX8_revokePermit_30 : decode cX8_revokePermit 30 = .ok (.iconst 2, 1) := by decide +kernel
theorem dX8_revokePermit_31 : decode cX8_revokePermit 31 = .ok (.invokevirtual 265, 3) := by decide +kernel
theorem dX8_revokePermit_34 : decode cX8_revokePermit 34 = .ok (.ireturn, 1) := by decide +kernel
theorem dX8_revokePermit_35 : decode cX8_revokePermit 35 = .ok (.aload_n 0, 1) := by decide +kernel
theorem dX8_revokePermit_36 : decode cX8_revokePermit 36 = .ok (.invokevirtual 327, 3) := by decide +kernel
theorem dX8_revokePermit_39 : decode cX8_revokePermit 39 = .ok (.aload_n 0, 1) := by decide +kernel
theorem dX8_revokePermit_40 : decode cX8_revokePermit 40 = .ok (.getfield 13, 3) := by decide +kernel
theorem dX8_revokePermit_43 : decode cX8_revokePermit 43 = .ok (.iload_n 1, 1) := by decide +kernel
theorem dX8_revokePermit_44 : decode cX8_revokePermit 44 = .ok (.invokestatic 87, 3) := by decide +kernel
theorem dX8_revokePermit_47 : decode cX8_revokePermit 47 = .ok (.iconst 3, 1) := by decide +kernel
theorem dX8_revokePermit_48 : decode cX8_revokePermit 48 = .ok (.iadd, 1) := by decide +kernel
theorem dX8_revokePermit_49 : decode cX8_revokePermit 49 = .ok (.iconst 1, 1) := by decide +kernel
theorem dX8_revokePermit_50 : decode cX8_revokePermit 50 = .ok (.iastore, 1) := by decide +kernel
theorem dX8_revokePermit_51 : decode cX8_revokePermit 51 = .ok (.iconst 0, 1) := by decide +kernel
theorem dX8_revokePermit_52 : decode cX8_revokePermit 52 = .ok (.istore_n 2, 1) := by decide +kernel
theorem dX8_revokePermit_53 : decode cX8_revokePermit 53 = .ok (.iconst 0, 1) := by decide +kernel
theorem dX8_revokePermit_54 : decode cX8_revokePermit 54 = .ok (.istore_n 3, 1) := by decide +kernel
theorem dX8_revokePermit_55 : decode cX8_revokePermit 55 = .ok (.iload_n 3, 1) := by decide +kernel
theorem dX8_revokePermit_56 : decode cX8_revokePermit 56 = .ok (.aload_n 0, 1) := by decide +kernel
theorem dX8_revokePermit_57 : decode cX8_revokePermit 57 = .ok (.getfield 13, 3) := by decide +kernel
theorem dX8_revokePermit_60 : decode cX8_revokePermit 60 = .ok (.iconst 5, 1) := by decide +kernel
theorem dX8_revokePermit_61 : decode cX8_revokePermit 61 = .ok (.iaload, 1) := by decide +kernel
theorem dX8_revokePermit_62 : decode cX8_revokePermit 62 = .ok (.if_icmp .ge 25, 3) := by decide +kernel
theorem dX8_revokePermit_65 : decode cX8_revokePermit 65 = .ok (.iload_n 2, 1) := by decide +kernel
theorem dX8_revokePermit_66 : decode cX8_revokePermit 66 = .ok (.iconst 1, 1) := by decide +kernel
theorem dX8_revokePermit_67 : decode cX8_revokePermit 67 = .ok (.aload_n 0, 1) := by decide +kernel
theorem dX8_revokePermit_68 : decode cX8_revokePermit 68 = .ok (.getfield 13, 3) := by decide +kernel
theorem dX8_revokePermit_71 : decode cX8_revokePermit 71 = .ok (.iload_n 3, 1) := by decide +kernel
theorem dX8_revokePermit_72 : decode cX8_revokePermit 72 = .ok (.invokestatic 87, 3) := by decide +kernel
theorem dX8_revokePermit_75 : decode cX8_revokePermit 75 = .ok (.iconst 3, 1) := by decide +kernel
theorem dX8_revokePermit_76 : decode cX8_revokePermit 76 = .ok (.iadd, 1) := by decide +kernel
theorem dX8_revokePermit_77 : decode cX8_revokePermit 77 = .ok (.iaload, 1) := by decide +kernel
theorem dX8_revokePermit_78 : decode cX8_revokePermit 78 = .ok (.isub, 1) := by decide +kernel
theorem dX8_revokePermit_79 : decode cX8_revokePermit 79 = .ok (.iadd, 1) := by decide +kernel
theorem dX8_revokePermit_80 : decode cX8_revokePermit 80 = .ok (.istore_n 2, 1) := by decide +kernel
theorem dX8_revokePermit_81 : decode cX8_revokePermit 81 = .ok (.iinc 3 1, 3) := by decide +kernel
theorem dX8_revokePermit_84 : decode cX8_revokePermit 84 = .ok (.goto (-29), 3) := by decide +kernel
theorem dX8_revokePermit_87 : decode cX8_revokePermit 87 = .ok (.aload_n 0, 1) := by decide +kernel
theorem dX8_revokePermit_88 : decode cX8_revokePermit 88 = .ok (.iload_n 2, 1) := by decide +kernel
theorem dX8_revokePermit_89 : decode cX8_revokePermit 89 = .ok (.invokevirtual 271, 3) := by decide +kernel
theorem dX8_revokePermit_92 : decode cX8_revokePermit 92 = .ok (.ireturn, 1) := by decide +kernel
theorem dX8_pay_0 : decode cX8_pay 0 = .ok (.aload_n 0, 1) := by decide +kernel
theorem dX8_pay_1 : decode cX8_pay 1 = .ok (.iload_n 1, 1) := by decide +kernel
theorem dX8_pay_2 : decode cX8_pay 2 = .ok (.invokevirtual 292, 3) := by decide +kernel
theorem dX8_pay_5 : decode cX8_pay 5 = .ok (.ifCond .ne 9, 3) := by decide +kernel
theorem dX8_pay_8 : decode cX8_pay 8 = .ok (.aload_n 0, 1) := by decide +kernel
theorem dX8_pay_9 : decode cX8_pay 9 = .ok (.iconst 1, 1) := by decide +kernel
theorem dX8_pay_10 : decode cX8_pay 10 = .ok (.invokevirtual 265, 3) := by decide +kernel
theorem dX8_pay_13 : decode cX8_pay 13 = .ok (.ireturn, 1) := by decide +kernel
theorem dX8_pay_14 : decode cX8_pay 14 = .ok (.iload_n 2, 1) := by decide +kernel
theorem dX8_pay_15 : decode cX8_pay 15 = .ok (.iconst 1, 1) := by decide +kernel
theorem dX8_pay_16 : decode cX8_pay 16 = .ok (.sipush 999, 3) := by decide +kernel
theorem dX8_pay_19 : decode cX8_pay 19 = .ok (.invokestatic 67, 3) := by decide +kernel
theorem dX8_pay_22 : decode cX8_pay 22 = .ok (.ifCond .ne 9, 3) := by decide +kernel
theorem dX8_pay_25 : decode cX8_pay 25 = .ok (.aload_n 0, 1) := by decide +kernel
theorem dX8_pay_26 : decode cX8_pay 26 = .ok (.iconst 2, 1) := by decide +kernel
theorem dX8_pay_27 : decode cX8_pay 27 = .ok (.invokevirtual 265, 3) := by decide +kernel
theorem dX8_pay_30 : decode cX8_pay 30 = .ok (.ireturn, 1) := by decide +kernel
theorem dX8_pay_31 : decode cX8_pay 31 = .ok (.aload_n 0, 1) := by decide +kernel
theorem dX8_pay_32 : decode cX8_pay 32 = .ok (.invokevirtual 327, 3) := by decide +kernel
theorem dX8_pay_35 : decode cX8_pay 35 = .ok (.aload_n 0, 1) := by decide +kernel
theorem dX8_pay_36 : decode cX8_pay 36 = .ok (.getfield 13, 3) := by decide +kernel
theorem dX8_pay_39 : decode cX8_pay 39 = .ok (.iload_n 1, 1) := by decide +kernel
theorem dX8_pay_40 : decode cX8_pay 40 = .ok (.invokestatic 78, 3) := by decide +kernel
theorem dX8_pay_43 : decode cX8_pay 43 = .ok (.iconst 2, 1) := by decide +kernel
theorem dX8_pay_44 : decode cX8_pay 44 = .ok (.iadd, 1) := by decide +kernel
theorem dX8_pay_45 : decode cX8_pay 45 = .ok (.dup2, 1) := by decide +kernel
theorem dX8_pay_46 : decode cX8_pay 46 = .ok (.iaload, 1) := by decide +kernel
theorem dX8_pay_47 : decode cX8_pay 47 = .ok (.iload_n 2, 1) := by decide +kernel
theorem dX8_pay_48 : decode cX8_pay 48 = .ok (.iadd, 1) := by decide +kernel
theorem dX8_pay_49 : decode cX8_pay 49 = .ok (.iastore, 1) := by decide +kernel
theorem dX8_pay_50 : decode cX8_pay 50 = .ok (.aload_n 0, 1) := by decide +kernel
theorem dX8_pay_51 : decode cX8_pay 51 = .ok (.getfield 13, 3) := by decide +kernel
theorem dX8_pay_54 : decode cX8_pay 54 = .ok (.bipush 7, 2) := by decide +kernel
theorem dX8_pay_56 : decode cX8_pay 56 = .ok (.dup2, 1) := by decide +kernel
theorem dX8_pay_57 : decode cX8_pay 57 = .ok (.iaload, 1) := by decide +kernel
theorem dX8_pay_58 : decode cX8_pay 58 = .ok (.iload_n 2, 1) := by decide +kernel
theorem dX8_pay_59 : decode cX8_pay 59 = .ok (.iadd, 1) := by decide +kernel
theorem dX8_pay_60 : decode cX8_pay 60 = .ok (.iastore, 1) := by decide +kernel
theorem dX8_pay_61 : decode cX8_pay 61 = .ok (.aload_n 0, 1) := by decide +kernel
theorem dX8_pay_62 : decode cX8_pay 62 = .ok (.aload_n 0, 1) := by decide +kernel
theorem dX8_pay_63 : decode cX8_pay 63 = .ok (.getfield 13, 3) := by decide +kernel
theorem dX8_pay_66 : decode cX8_pay 66 = .ok (.iload_n 1, 1) := by decide +kernel
theorem dX8_pay_67 : decode cX8_pay 67 = .ok (.invokestatic 78, 3) := by decide +kernel
theorem dX8_pay_70 : decode cX8_pay 70 = .ok (.iconst 2, 1) := by decide +kernel
theorem dX8_pay_71 : decode cX8_pay 71 = .ok (.iadd, 1) := by decide +kernel
theorem dX8_pay_72 : decode cX8_pay 72 = .ok (.iaload, 1) := by decide +kernel
theorem dX8_pay_73 : decode cX8_pay 73 = .ok (.invokevirtual 271, 3) := by decide +kernel
theorem dX8_pay_76 : decode cX8_pay 76 = .ok (.ireturn, 1) := by decide +kernel
theorem dX8_advance_0 : decode cX8_advance 0 = .ok (.iload_n 1, 1) := by decide +kernel
theorem dX8_advance_1 : decode cX8_advance 1 = .ok (.iconst 1, 1) := by decide +kernel
theorem dX8_advance_2 : decode cX8_advance 2 = .ok (.bipush 99, 2) := by decide +kernel
theorem dX8_advance_4 : decode cX8_advance 4 = .ok (.invokestatic 67, 3) := by decide +kernel
theorem dX8_advance_7 : decode cX8_advance 7 = .ok (.ifCond .ne 9, 3) := by decide +kernel
theorem dX8_advance_10 : decode cX8_advance 10 = .ok (.aload_n 0, 1) := by decide +kernel
theorem dX8_advance_11 : decode cX8_advance 11 = .ok (.iconst 1, 1) := by decide +kernel
theorem dX8_advance_12 : decode cX8_advance 12 = .ok (.invokevirtual 265, 3) := by decide +kernel
theorem dX8_advance_15 : decode cX8_advance 15 = .ok (.ireturn, 1) := by decide +kernel
theorem dX8_advance_16 : decode cX8_advance 16 = .ok (.aload_n 0, 1) := by decide +kernel
theorem dX8_advance_17 : decode cX8_advance 17 = .ok (.getfield 13, 3) := by decide +kernel
theorem dX8_advance_20 : decode cX8_advance 20 = .ok (.iconst 2, 1) := by decide +kernel
theorem dX8_advance_21 : decode cX8_advance 21 = .ok (.iaload, 1) := by decide +kernel
theorem dX8_advance_22 : decode cX8_advance 22 = .ok (.iload_n 1, 1) := by decide +kernel
theorem dX8_advance_23 : decode cX8_advance 23 = .ok (.iadd, 1) := by decide +kernel
theorem dX8_advance_24 : decode cX8_advance 24 = .ok (.sipush 9999, 3) := by decide +kernel
theorem dX8_advance_27 : decode cX8_advance 27 = .ok (.if_icmp .le 9, 3) := by decide +kernel
theorem dX8_advance_30 : decode cX8_advance 30 = .ok (.aload_n 0, 1) := by decide +kernel
theorem dX8_advance_31 : decode cX8_advance 31 = .ok (.iconst 2, 1) := by decide +kernel
theorem dX8_advance_32 : decode cX8_advance 32 = .ok (.invokevirtual 265, 3) := by decide +kernel
theorem dX8_advance_35 : decode cX8_advance 35 = .ok (.ireturn, 1) := by decide +kernel
theorem dX8_advance_36 : decode cX8_advance 36 = .ok (.aload_n 0, 1) := by decide +kernel
theorem dX8_advance_37 : decode cX8_advance 37 = .ok (.invokevirtual 327, 3) := by decide +kernel
theorem dX8_advance_40 : decode cX8_advance 40 = .ok (.aload_n 0, 1) := by decide +kernel
theorem dX8_advance_41 : decode cX8_advance 41 = .ok (.aload_n 0, 1) := by decide +kernel
theorem dX8_advance_42 : decode cX8_advance 42 = .ok (.iload_n 1, 1) := by decide +kernel
theorem dX8_advance_43 : decode cX8_advance 43 = .ok (.invokevirtual 60, 3) := by decide +kernel
theorem dX8_advance_46 : decode cX8_advance 46 = .ok (.invokevirtual 271, 3) := by decide +kernel
theorem dX8_advance_49 : decode cX8_advance 49 = .ok (.ireturn, 1) := by decide +kernel
theorem dX8_restore_0 : decode cX8_restore 0 = .ok (.iload_n 1, 1) := by decide +kernel
theorem dX8_restore_1 : decode cX8_restore 1 = .ok (.iconst 0, 1) := by decide +kernel
theorem dX8_restore_2 : decode cX8_restore 2 = .ok (.iconst 1, 1) := by decide +kernel
theorem dX8_restore_3 : decode cX8_restore 3 = .ok (.invokestatic 67, 3) := by decide +kernel
theorem dX8_restore_6 : decode cX8_restore 6 = .ok (.ifCond .ne 9, 3) := by decide +kernel
theorem dX8_restore_9 : decode cX8_restore 9 = .ok (.aload_n 0, 1) := by decide +kernel
theorem dX8_restore_10 : decode cX8_restore 10 = .ok (.iconst 1, 1) := by decide +kernel
theorem dX8_restore_11 : decode cX8_restore 11 = .ok (.invokevirtual 265, 3) := by decide +kernel
theorem dX8_restore_14 : decode cX8_restore 14 = .ok (.ireturn, 1) := by decide +kernel
theorem dX8_restore_15 : decode cX8_restore 15 = .ok (.aload_n 0, 1) := by decide +kernel
theorem dX8_restore_16 : decode cX8_restore 16 = .ok (.getfield 286, 3) := by decide +kernel
theorem dX8_restore_19 : decode cX8_restore 19 = .ok (.iload_n 1, 1) := by decide +kernel
theorem dX8_restore_20 : decode cX8_restore 20 = .ok (.ishr, 1) := by decide +kernel
theorem dX8_restore_21 : decode cX8_restore 21 = .ok (.iconst 1, 1) := by decide +kernel
theorem dX8_restore_22 : decode cX8_restore 22 = .ok (.iand, 1) := by decide +kernel
theorem dX8_restore_23 : decode cX8_restore 23 = .ok (.ifCond .ne 9, 3) := by decide +kernel
theorem dX8_restore_26 : decode cX8_restore 26 = .ok (.aload_n 0, 1) := by decide +kernel
theorem dX8_restore_27 : decode cX8_restore 27 = .ok (.iconst 2, 1) := by decide +kernel
theorem dX8_restore_28 : decode cX8_restore 28 = .ok (.invokevirtual 265, 3) := by decide +kernel
theorem dX8_restore_31 : decode cX8_restore 31 = .ok (.ireturn, 1) := by decide +kernel
theorem dX8_restore_32 : decode cX8_restore 32 = .ok (.aload_n 0, 1) := by decide +kernel
theorem dX8_restore_33 : decode cX8_restore 33 = .ok (.invokevirtual 327, 3) := by decide +kernel
theorem dX8_restore_36 : decode cX8_restore 36 = .ok (.iconst 0, 1) := by decide +kernel
theorem dX8_restore_37 : decode cX8_restore 37 = .ok (.istore_n 2, 1) := by decide +kernel
theorem dX8_restore_38 : decode cX8_restore 38 = .ok (.iload_n 2, 1) := by decide +kernel
theorem dX8_restore_39 : decode cX8_restore 39 = .ok (.sipush 411, 3) := by decide +kernel
theorem dX8_restore_42 : decode cX8_restore 42 = .ok (.if_icmp .ge 27, 3) := by decide +kernel
theorem dX8_restore_45 : decode cX8_restore 45 = .ok (.aload_n 0, 1) := by decide +kernel
theorem dX8_restore_46 : decode cX8_restore 46 = .ok (.getfield 13, 3) := by decide +kernel
theorem dX8_restore_49 : decode cX8_restore 49 = .ok (.iload_n 2, 1) := by decide +kernel
theorem dX8_restore_50 : decode cX8_restore 50 = .ok (.aload_n 0, 1) := by decide +kernel
theorem dX8_restore_51 : decode cX8_restore 51 = .ok (.getfield 22, 3) := by decide +kernel
theorem dX8_restore_54 : decode cX8_restore 54 = .ok (.iload_n 1, 1) := by decide +kernel
theorem dX8_restore_55 : decode cX8_restore 55 = .ok (.sipush 411, 3) := by decide +kernel
theorem dX8_restore_58 : decode cX8_restore 58 = .ok (.imul, 1) := by decide +kernel
theorem dX8_restore_59 : decode cX8_restore 59 = .ok (.iload_n 2, 1) := by decide +kernel
theorem dX8_restore_60 : decode cX8_restore 60 = .ok (.iadd, 1) := by decide +kernel
theorem dX8_restore_61 : decode cX8_restore 61 = .ok (.iaload, 1) := by decide +kernel
theorem dX8_restore_62 : decode cX8_restore 62 = .ok (.iastore, 1) := by decide +kernel
theorem dX8_restore_63 : decode cX8_restore 63 = .ok (.iinc 2 1, 3) := by decide +kernel
theorem dX8_restore_66 : decode cX8_restore 66 = .ok (.goto (-28), 3) := by decide +kernel
theorem dX8_restore_69 : decode cX8_restore 69 = .ok (.aload_n 0, 1) := by decide +kernel
theorem dX8_restore_70 : decode cX8_restore 70 = .ok (.aload_n 0, 1) := by decide +kernel
theorem dX8_restore_71 : decode cX8_restore 71 = .ok (.getfield 13, 3) := by decide +kernel
theorem dX8_restore_74 : decode cX8_restore 74 = .ok (.iconst 2, 1) := by decide +kernel
theorem dX8_restore_75 : decode cX8_restore 75 = .ok (.iaload, 1) := by decide +kernel
theorem dX8_restore_76 : decode cX8_restore 76 = .ok (.invokevirtual 271, 3) := by decide +kernel
theorem dX8_restore_79 : decode cX8_restore 79 = .ok (.ireturn, 1) := by decide +kernel
theorem dX8_undo_0 : decode cX8_undo 0 = .ok (.aload_n 0, 1) := by decide +kernel
theorem dX8_undo_1 : decode cX8_undo 1 = .ok (.getfield 163, 3) := by decide +kernel
theorem dX8_undo_4 : decode cX8_undo 4 = .ok (.ifCond .ne 9, 3) := by decide +kernel
theorem dX8_undo_7 : decode cX8_undo 7 = .ok (.aload_n 0, 1) := by decide +kernel
theorem dX8_undo_8 : decode cX8_undo 8 = .ok (.iconst 1, 1) := by decide +kernel
theorem dX8_undo_9 : decode cX8_undo 9 = .ok (.invokevirtual 265, 3) := by decide +kernel
theorem dX8_undo_12 : decode cX8_undo 12 = .ok (.ireturn, 1) := by decide +kernel
theorem dX8_undo_13 : decode cX8_undo 13 = .ok (.aload_n 0, 1) := by decide +kernel
theorem dX8_undo_14 : decode cX8_undo 14 = .ok (.dup, 1) := by decide +kernel
theorem dX8_undo_15 : decode cX8_undo 15 = .ok (.getfield 163, 3) := by decide +kernel
theorem dX8_undo_18 : decode cX8_undo 18 = .ok (.iconst 1, 1) := by decide +kernel
theorem dX8_undo_19 : decode cX8_undo 19 = .ok (.isub, 1) := by decide +kernel
theorem dX8_undo_20 : decode cX8_undo 20 = .ok (.putfield 163, 3) := by decide +kernel
theorem dX8_undo_23 : decode cX8_undo 23 = .ok (.iconst 0, 1) := by decide +kernel
theorem dX8_undo_24 : decode cX8_undo 24 = .ok (.istore_n 1, 1) := by decide +kernel
theorem dX8_undo_25 : decode cX8_undo 25 = .ok (.iload_n 1, 1) := by decide +kernel
theorem dX8_undo_26 : decode cX8_undo 26 = .ok (.sipush 411, 3) := by decide +kernel
theorem dX8_undo_29 : decode cX8_undo 29 = .ok (.if_icmp .ge 30, 3) := by decide +kernel
theorem dX8_undo_32 : decode cX8_undo 32 = .ok (.aload_n 0, 1) := by decide +kernel
theorem dX8_undo_33 : decode cX8_undo 33 = .ok (.getfield 13, 3) := by decide +kernel
theorem dX8_undo_36 : decode cX8_undo 36 = .ok (.iload_n 1, 1) := by decide +kernel
theorem dX8_undo_37 : decode cX8_undo 37 = .ok (.aload_n 0, 1) := by decide +kernel
theorem dX8_undo_38 : decode cX8_undo 38 = .ok (.getfield 19, 3) := by decide +kernel
theorem dX8_undo_41 : decode cX8_undo 41 = .ok (.aload_n 0, 1) := by decide +kernel
theorem dX8_undo_42 : decode cX8_undo 42 = .ok (.getfield 163, 3) := by decide +kernel
theorem dX8_undo_45 : decode cX8_undo 45 = .ok (.sipush 411, 3) := by decide +kernel
theorem dX8_undo_48 : decode cX8_undo 48 = .ok (.imul, 1) := by decide +kernel
theorem dX8_undo_49 : decode cX8_undo 49 = .ok (.iload_n 1, 1) := by decide +kernel
theorem dX8_undo_50 : decode cX8_undo 50 = .ok (.iadd, 1) := by decide +kernel
theorem dX8_undo_51 : decode cX8_undo 51 = .ok (.iaload, 1) := by decide +kernel
theorem dX8_undo_52 : decode cX8_undo 52 = .ok (.iastore, 1) := by decide +kernel
theorem dX8_undo_53 : decode cX8_undo 53 = .ok (.iinc 1 1, 3) := by decide +kernel
theorem dX8_undo_56 : decode cX8_undo 56 = .ok (.goto (-31), 3) := by decide +kernel
theorem dX8_undo_59 : decode cX8_undo 59 = .ok (.aload_n 0, 1) := by decide +kernel
theorem dX8_undo_60 : decode cX8_undo 60 = .ok (.aload_n 0, 1) := by decide +kernel
theorem dX8_undo_61 : decode cX8_undo 61 = .ok (.getfield 163, 3) := by decide +kernel
theorem dX8_undo_64 : decode cX8_undo 64 = .ok (.invokevirtual 271, 3) := by decide +kernel
theorem dX8_undo_67 : decode cX8_undo 67 = .ok (.ireturn, 1) := by decide +kernel
theorem dX8_save_0 : decode cX8_save 0 = .ok (.iload_n 1, 1) := by decide +kernel
theorem dX8_save_1 : decode cX8_save 1 = .ok (.iconst 0, 1) := by decide +kernel
theorem dX8_save_2 : decode cX8_save 2 = .ok (.iconst 1, 1) := by decide +kernel
theorem dX8_save_3 : decode cX8_save 3 = .ok (.invokestatic 67, 3) := by decide +kernel
theorem dX8_save_6 : decode cX8_save 6 = .ok (.ifCond .ne 9, 3) := by decide +kernel
theorem dX8_save_9 : decode cX8_save 9 = .ok (.aload_n 0, 1) := by decide +kernel
theorem dX8_save_10 : decode cX8_save 10 = .ok (.iconst 1, 1) := by decide +kernel
theorem dX8_save_11 : decode cX8_save 11 = .ok (.invokevirtual 265, 3) := by decide +kernel
theorem dX8_save_14 : decode cX8_save 14 = .ok (.ireturn, 1) := by decide +kernel
theorem dX8_save_15 : decode cX8_save 15 = .ok (.iconst 0, 1) := by decide +kernel
theorem dX8_save_16 : decode cX8_save 16 = .ok (.istore_n 2, 1) := by decide +kernel
theorem dX8_save_17 : decode cX8_save 17 = .ok (.iload_n 2, 1) := by decide +kernel
theorem dX8_save_18 : decode cX8_save 18 = .ok (.sipush 411, 3) := by decide +kernel
theorem dX8_save_21 : decode cX8_save 21 = .ok (.if_icmp .ge 27, 3) := by decide +kernel
theorem dX8_save_24 : decode cX8_save 24 = .ok (.aload_n 0, 1) := by decide +kernel
theorem dX8_save_25 : decode cX8_save 25 = .ok (.getfield 22, 3) := by decide +kernel
theorem dX8_save_28 : decode cX8_save 28 = .ok (.iload_n 1, 1) := by decide +kernel
theorem dX8_save_29 : decode cX8_save 29 = .ok (.sipush 411, 3) := by decide +kernel
theorem dX8_save_32 : decode cX8_save 32 = .ok (.imul, 1) := by decide +kernel
theorem dX8_save_33 : decode cX8_save 33 = .ok (.iload_n 2, 1) := by decide +kernel
theorem dX8_save_34 : decode cX8_save 34 = .ok (.iadd, 1) := by decide +kernel
theorem dX8_save_35 : decode cX8_save 35 = .ok (.aload_n 0, 1) := by decide +kernel
theorem dX8_save_36 : decode cX8_save 36 = .ok (.getfield 13, 3) := by decide +kernel
theorem dX8_save_39 : decode cX8_save 39 = .ok (.iload_n 2, 1) := by decide +kernel
theorem dX8_save_40 : decode cX8_save 40 = .ok (.iaload, 1) := by decide +kernel
theorem dX8_save_41 : decode cX8_save 41 = .ok (.iastore, 1) := by decide +kernel
theorem dX8_save_42 : decode cX8_save 42 = .ok (.iinc 2 1, 3) := by decide +kernel
theorem dX8_save_45 : decode cX8_save 45 = .ok (.goto (-28), 3) := by decide +kernel
theorem dX8_save_48 : decode cX8_save 48 = .ok (.aload_n 0, 1) := by decide +kernel
theorem dX8_save_49 : decode cX8_save 49 = .ok (.dup, 1) := by decide +kernel
theorem dX8_save_50 : decode cX8_save 50 = .ok (.getfield 286, 3) := by decide +kernel
theorem dX8_save_53 : decode cX8_save 53 = .ok (.iconst 1, 1) := by decide +kernel
theorem dX8_save_54 : decode cX8_save 54 = .ok (.iload_n 1, 1) := by decide +kernel
theorem dX8_save_55 : decode cX8_save 55 = .ok (.ishl, 1) := by decide +kernel
theorem dX8_save_56 : decode cX8_save 56 = .ok (.ior, 1) := by decide +kernel
theorem dX8_save_57 : decode cX8_save 57 = .ok (.putfield 286, 3) := by decide +kernel
theorem dX8_save_60 : decode cX8_save 60 = .ok (.aload_n 0, 1) := by decide +kernel
theorem dX8_save_61 : decode cX8_save 61 = .ok (.aload_n 0, 1) := by decide +kernel
theorem dX8_save_62 : decode cX8_save 62 = .ok (.getfield 13, 3) := by decide +kernel
theorem dX8_save_65 : decode cX8_save 65 = .ok (.iconst 2, 1) := by decide +kernel
theorem dX8_save_66 : decode cX8_save 66 = .ok (.iaload, 1) := by decide +kernel
theorem dX8_save_67 : decode cX8_save 67 = .ok (.invokevirtual 271, 3) := by decide +kernel
theorem dX8_save_70 : decode cX8_save 70 = .ok (.ireturn, 1) := by decide +kernel
theorem dX8_writes_0 : decode cX8_writes 0 = .ok (.aload_n 0, 1) := by decide +kernel
theorem dX8_writes_1 : decode cX8_writes 1 = .ok (.getfield 35, 3) := by decide +kernel
theorem dX8_writes_4 : decode cX8_writes 4 = .ok (.aload_n 0, 1) := by decide +kernel
theorem dX8_writes_5 : decode cX8_writes 5 = .ok (.getfield 333, 3) := by decide +kernel
theorem dX8_writes_8 : decode cX8_writes 8 = .ok (.iload_n 1, 1) := by decide +kernel
theorem dX8_writes_9 : decode cX8_writes 9 = .ok (.i2b, 1) := by decide +kernel
theorem dX8_writes_10 : decode cX8_writes 10 = .ok (.bastore, 1) := by decide +kernel
theorem dX8_writes_11 : decode cX8_writes 11 = .ok (.aload_n 0, 1) := by decide +kernel
theorem dX8_writes_12 : decode cX8_writes 12 = .ok (.dup, 1) := by decide +kernel
theorem dX8_writes_13 : decode cX8_writes 13 = .ok (.getfield 333, 3) := by decide +kernel
theorem dX8_writes_16 : decode cX8_writes 16 = .ok (.iconst 1, 1) := by decide +kernel
theorem dX8_writes_17 : decode cX8_writes 17 = .ok (.iadd, 1) := by decide +kernel
theorem dX8_writes_18 : decode cX8_writes 18 = .ok (.putfield 333, 3) := by decide +kernel
theorem dX8_writes_21 : decode cX8_writes 21 = .ok (.return_, 1) := by decide +kernel
theorem dX8_writesName_0 : decode cX8_writesName 0 = .ok (.iconst 0, 1) := by decide +kernel
theorem dX8_writesName_1 : decode cX8_writesName 1 = .ok (.istore_n 2, 1) := by decide +kernel
theorem dX8_writesName_2 : decode cX8_writesName 2 = .ok (.iload_n 2, 1) := by decide +kernel
theorem dX8_writesName_3 : decode cX8_writesName 3 = .ok (.bipush 6, 2) := by decide +kernel
theorem dX8_writesName_5 : decode cX8_writesName 5 = .ok (.if_icmp .ge 32, 3) := by decide +kernel
theorem dX8_writesName_8 : decode cX8_writesName 8 = .ok (.aload_n 0, 1) := by decide +kernel
theorem dX8_writesName_9 : decode cX8_writesName 9 = .ok (.getfield 13, 3) := by decide +kernel
theorem dX8_writesName_12 : decode cX8_writesName 12 = .ok (.iload_n 1, 1) := by decide +kernel
theorem dX8_writesName_13 : decode cX8_writesName 13 = .ok (.iload_n 2, 1) := by decide +kernel
theorem dX8_writesName_14 : decode cX8_writesName 14 = .ok (.iadd, 1) := by decide +kernel
theorem dX8_writesName_15 : decode cX8_writesName 15 = .ok (.iaload, 1) := by decide +kernel
theorem dX8_writesName_16 : decode cX8_writesName 16 = .ok (.ifCond .eq 21, 3) := by decide +kernel
theorem dX8_writesName_19 : decode cX8_writesName 19 = .ok (.aload_n 0, 1) := by decide +kernel
theorem dX8_writesName_20 : decode cX8_writesName 20 = .ok (.aload_n 0, 1) := by decide +kernel
theorem dX8_writesName_21 : decode cX8_writesName 21 = .ok (.getfield 13, 3) := by decide +kernel
theorem dX8_writesName_24 : decode cX8_writesName 24 = .ok (.iload_n 1, 1) := by decide +kernel
theorem dX8_writesName_25 : decode cX8_writesName 25 = .ok (.iload_n 2, 1) := by decide +kernel
theorem dX8_writesName_26 : decode cX8_writesName 26 = .ok (.iadd, 1) := by decide +kernel
theorem dX8_writesName_27 : decode cX8_writesName 27 = .ok (.iaload, 1) := by decide +kernel
theorem dX8_writesName_28 : decode cX8_writesName 28 = .ok (.invokevirtual 336, 3) := by decide +kernel
theorem dX8_writesName_31 : decode cX8_writesName 31 = .ok (.iinc 2 1, 3) := by decide +kernel
theorem dX8_writesName_34 : decode cX8_writesName 34 = .ok (.goto (-32), 3) := by decide +kernel
theorem dX8_writesName_37 : decode cX8_writesName 37 = .ok (.return_, 1) := by decide +kernel
theorem dX8_writesNumber_0 : decode cX8_writesNumber 0 = .ok (.iload_n 1, 1) := by decide +kernel
theorem dX8_writesNumber_1 : decode cX8_writesNumber 1 = .ok (.ifCond .ge 9, 3) := by decide +kernel
theorem dX8_writesNumber_4 : decode cX8_writesNumber 4 = .ok (.aload_n 0, 1) := by decide +kernel
theorem dX8_writesNumber_5 : decode cX8_writesNumber 5 = .ok (.bipush 45, 2) := by decide +kernel
theorem dX8_writesNumber_7 : decode cX8_writesNumber 7 = .ok (.invokevirtual 336, 3) := by decide +kernel
theorem dX8_writesNumber_10 : decode cX8_writesNumber 10 = .ok (.iload_n 1, 1) := by decide +kernel
theorem dX8_writesNumber_11 : decode cX8_writesNumber 11 = .ok (.invokestatic 321, 3) := by decide +kernel
theorem dX8_writesNumber_14 : decode cX8_writesNumber 14 = .ok (.istore_n 2, 1) := by decide +kernel
theorem dX8_writesNumber_15 : decode cX8_writesNumber 15 = .ok (.iconst 1, 1) := by decide +kernel
theorem dX8_writesNumber_16 : decode cX8_writesNumber 16 = .ok (.istore_n 3, 1) := by decide +kernel
theorem dX8_writesNumber_17 : decode cX8_writesNumber 17 = .ok (.iload_n 2, 1) := by decide +kernel
theorem dX8_writesNumber_18 : decode cX8_writesNumber 18 = .ok (.iload_n 3, 1) := by decide +kernel
theorem dX8_writesNumber_19 : decode cX8_writesNumber 19 = .ok (.idiv, 1) := by decide +kernel
theorem dX8_writesNumber_20 : decode cX8_writesNumber 20 = .ok (.bipush 9, 2) := by decide +kernel
theorem dX8_writesNumber_22 : decode cX8_writesNumber 22 = .ok (.if_icmp .le 11, 3) := by decide +kernel
theorem dX8_writesNumber_25 : decode cX8_writesNumber 25 = .ok (.iload_n 3, 1) := by decide +kernel
theorem dX8_writesNumber_26 : decode cX8_writesNumber 26 = .ok (.bipush 10, 2) := by decide +kernel
theorem dX8_writesNumber_28 : decode cX8_writesNumber 28 = .ok (.imul, 1) := by decide +kernel
theorem dX8_writesNumber_29 : decode cX8_writesNumber 29 = .ok (.istore_n 3, 1) := by decide +kernel
theorem dX8_writesNumber_30 : decode cX8_writesNumber 30 = .ok (.goto (-13), 3) := by decide +kernel
theorem dX8_writesNumber_33 : decode cX8_writesNumber 33 = .ok (.iload_n 3, 1) := by decide +kernel
theorem dX8_writesNumber_34 : decode cX8_writesNumber 34 = .ok (.ifCond .le 24, 3) := by decide +kernel
theorem dX8_writesNumber_37 : decode cX8_writesNumber 37 = .ok (.aload_n 0, 1) := by decide +kernel
theorem dX8_writesNumber_38 : decode cX8_writesNumber 38 = .ok (.bipush 48, 2) := by decide +kernel
theorem dX8_writesNumber_40 : decode cX8_writesNumber 40 = .ok (.iload_n 2, 1) := by decide +kernel
theorem dX8_writesNumber_41 : decode cX8_writesNumber 41 = .ok (.iload_n 3, 1) := by decide +kernel
theorem dX8_writesNumber_42 : decode cX8_writesNumber 42 = .ok (.idiv, 1) := by decide +kernel
theorem dX8_writesNumber_43 : decode cX8_writesNumber 43 = .ok (.bipush 10, 2) := by decide +kernel
theorem dX8_writesNumber_45 : decode cX8_writesNumber 45 = .ok (.irem, 1) := by decide +kernel
theorem dX8_writesNumber_46 : decode cX8_writesNumber 46 = .ok (.iadd, 1) := by decide +kernel
theorem dX8_writesNumber_47 : decode cX8_writesNumber 47 = .ok (.invokevirtual 336, 3) := by decide +kernel
theorem dX8_writesNumber_50 : decode cX8_writesNumber 50 = .ok (.iload_n 3, 1) := by decide +kernel
theorem dX8_writesNumber_51 : decode cX8_writesNumber 51 = .ok (.bipush 10, 2) := by decide +kernel
theorem dX8_writesNumber_53 : decode cX8_writesNumber 53 = .ok (.idiv, 1) := by decide +kernel
theorem dX8_writesNumber_54 : decode cX8_writesNumber 54 = .ok (.istore_n 3, 1) := by decide +kernel
theorem dX8_writesNumber_55 : decode cX8_writesNumber 55 = .ok (.goto (-22), 3) := by decide +kernel
theorem dX8_writesNumber_58 : decode cX8_writesNumber 58 = .ok (.return_, 1) := by decide +kernel
theorem dX8_writeSchedule_0 : decode cX8_writeSchedule 0 = .ok (.aload_n 0, 1) := by decide +kernel
theorem dX8_writeSchedule_1 : decode cX8_writeSchedule 1 = .ok (.iconst 0, 1) := by decide +kernel
theorem dX8_writeSchedule_2 : decode cX8_writeSchedule 2 = .ok (.putfield 333, 3) := by decide +kernel
theorem dX8_writeSchedule_5 : decode cX8_writeSchedule 5 = .ok (.iconst 0, 1) := by decide +kernel
theorem dX8_writeSchedule_6 : decode cX8_writeSchedule 6 = .ok (.istore_n 1, 1) := by decide +kernel
theorem dX8_writeSchedule_7 : decode cX8_writeSchedule 7 = .ok (.iload_n 1, 1) := by decide +kernel
theorem dX8_writeSchedule_8 : decode cX8_writeSchedule 8 = .ok (.bipush 24, 2) := by decide +kernel
theorem dX8_writeSchedule_10 : decode cX8_writeSchedule 10 = .ok (.if_icmp .ge 57, 3) := by decide +kernel
theorem dX8_writeSchedule_13 : decode cX8_writeSchedule 13 = .ok (.aload_n 0, 1) := by decide +kernel
theorem dX8_writeSchedule_14 : decode cX8_writeSchedule 14 = .ok (.aload_n 0, 1) := by decide +kernel
theorem dX8_writeSchedule_15 : decode cX8_writeSchedule 15 = .ok (.getfield 13, 3) := by decide +kernel
theorem dX8_writeSchedule_18 : decode cX8_writeSchedule 18 = .ok (.iconst 2, 1) := by decide +kernel
theorem dX8_writeSchedule_19 : decode cX8_writeSchedule 19 = .ok (.iaload, 1) := by decide +kernel
theorem dX8_writeSchedule_20 : decode cX8_writeSchedule 20 = .ok (.iload_n 1, 1) := by decide +kernel
theorem dX8_writeSchedule_21 : decode cX8_writeSchedule 21 = .ok (.iadd, 1) := by decide +kernel
theorem dX8_writeSchedule_22 : decode cX8_writeSchedule 22 = .ok (.invokevirtual 109, 3) := by decide +kernel
theorem dX8_writeSchedule_25 : decode cX8_writeSchedule 25 = .ok (.istore_n 2, 1) := by decide +kernel
theorem dX8_writeSchedule_26 : decode cX8_writeSchedule 26 = .ok (.aload_n 0, 1) := by decide +kernel
theorem dX8_writeSchedule_27 : decode cX8_writeSchedule 27 = .ok (.iload_n 2, 1) := by decide +kernel
theorem dX8_writeSchedule_28 : decode cX8_writeSchedule 28 = .ok (.iconst (-1), 1) := by decide +kernel
theorem dX8_writeSchedule_29 : decode cX8_writeSchedule 29 = .ok (.if_icmp .ne 8, 3) := by decide +kernel
theorem dX8_writeSchedule_32 : decode cX8_writeSchedule 32 = .ok (.bipush 46, 2) := by decide +kernel
theorem dX8_writeSchedule_34 : decode cX8_writeSchedule 34 = .ok (.goto 24, 3) := by decide +kernel
theorem dX8_writeSchedule_37 : decode cX8_writeSchedule 37 = .ok (.aload_n 0, 1) := by decide +kernel
theorem dX8_writeSchedule_38 : decode cX8_writeSchedule 38 = .ok (.getfield 13, 3) := by decide +kernel
theorem dX8_writeSchedule_41 : decode cX8_writeSchedule 41 = .ok (.aload_n 0, 1) := by decide +kernel
theorem dX8_writeSchedule_42 : decode cX8_writeSchedule 42 = .ok (.getfield 13, 3) := by decide +kernel
theorem dX8_writeSchedule_45 : decode cX8_writeSchedule 45 = .ok (.iload_n 2, 1) := by decide +kernel
theorem dX8_writeSchedule_46 : decode cX8_writeSchedule 46 = .ok (.invokestatic 93, 3) := by decide +kernel
theorem dX8_writeSchedule_49 : decode cX8_writeSchedule 49 = .ok (.iconst 0, 1) := by decide +kernel
theorem dX8_writeSchedule_50 : decode cX8_writeSchedule 50 = .ok (.iadd, 1) := by decide +kernel
theorem dX8_writeSchedule_51 : decode cX8_writeSchedule 51 = .ok (.iaload, 1) := by decide +kernel
theorem dX8_writeSchedule_52 : decode cX8_writeSchedule 52 = .ok (.invokestatic 78, 3) := by decide +kernel
theorem dX8_writeSchedule_55 : decode cX8_writeSchedule 55 = .ok (.iconst 5, 1) := by decide +kernel
theorem dX8_writeSchedule_56 : decode cX8_writeSchedule 56 = .ok (.iadd, 1) := by decide +kernel
theorem dX8_writeSchedule_57 : decode cX8_writeSchedule 57 = .ok (.iaload, 1) := by decide +kernel
theorem dX8_writeSchedule_58 : decode cX8_writeSchedule 58 = .ok (.invokevirtual 336, 3) := by decide +kernel
theorem dX8_writeSchedule_61 : decode cX8_writeSchedule 61 = .ok (.iinc 1 1, 3) := by decide +kernel
theorem dX8_writeSchedule_64 : decode cX8_writeSchedule 64 = .ok (.goto (-57), 3) := by decide +kernel
theorem dX8_writeSchedule_67 : decode cX8_writeSchedule 67 = .ok (.aload_n 0, 1) := by decide +kernel
theorem dX8_writeSchedule_68 : decode cX8_writeSchedule 68 = .ok (.aload_n 0, 1) := by decide +kernel
theorem dX8_writeSchedule_69 : decode cX8_writeSchedule 69 = .ok (.getfield 333, 3) := by decide +kernel
theorem dX8_writeSchedule_72 : decode cX8_writeSchedule 72 = .ok (.invokevirtual 271, 3) := by decide +kernel
theorem dX8_writeSchedule_75 : decode cX8_writeSchedule 75 = .ok (.ireturn, 1) := by decide +kernel
theorem dX8_writeBorrower_0 : decode cX8_writeBorrower 0 = .ok (.aload_n 0, 1) := by decide +kernel
theorem dX8_writeBorrower_1 : decode cX8_writeBorrower 1 = .ok (.iload_n 1, 1) := by decide +kernel
theorem dX8_writeBorrower_2 : decode cX8_writeBorrower 2 = .ok (.invokevirtual 292, 3) := by decide +kernel
theorem dX8_writeBorrower_5 : decode cX8_writeBorrower 5 = .ok (.ifCond .ne 9, 3) := by decide +kernel
theorem dX8_writeBorrower_8 : decode cX8_writeBorrower 8 = .ok (.aload_n 0, 1) := by decide +kernel
theorem dX8_writeBorrower_9 : decode cX8_writeBorrower 9 = .ok (.iconst 1, 1) := by decide +kernel
theorem dX8_writeBorrower_10 : decode cX8_writeBorrower 10 = .ok (.invokevirtual 265, 3) := by decide +kernel
theorem dX8_writeBorrower_13 : decode cX8_writeBorrower 13 = .ok (.ireturn, 1) := by decide +kernel
theorem dX8_writeBorrower_14 : decode cX8_writeBorrower 14 = .ok (.aload_n 0, 1) := by decide +kernel
theorem dX8_writeBorrower_15 : decode cX8_writeBorrower 15 = .ok (.iconst 0, 1) := by decide +kernel
theorem dX8_writeBorrower_16 : decode cX8_writeBorrower 16 = .ok (.putfield 333, 3) := by decide +kernel
theorem dX8_writeBorrower_19 : decode cX8_writeBorrower 19 = .ok (.aload_n 0, 1) := by decide +kernel
theorem dX8_writeBorrower_20 : decode cX8_writeBorrower 20 = .ok (.iload_n 1, 1) := by decide +kernel
theorem dX8_writeBorrower_21 : decode cX8_writeBorrower 21 = .ok (.invokestatic 78, 3) := by decide +kernel
theorem dX8_writeBorrower_24 : decode cX8_writeBorrower 24 = .ok (.iconst 5, 1) := by decide +kernel
theorem dX8_writeBorrower_25 : decode cX8_writeBorrower 25 = .ok (.iadd, 1) := by decide +kernel
theorem dX8_writeBorrower_26 : decode cX8_writeBorrower 26 = .ok (.invokevirtual 339, 3) := by decide +kernel
theorem dX8_writeBorrower_29 : decode cX8_writeBorrower 29 = .ok (.aload_n 0, 1) := by decide +kernel
theorem dX8_writeBorrower_30 : decode cX8_writeBorrower 30 = .ok (.bipush 64, 2) := by decide +kernel
theorem dX8_writeBorrower_32 : decode cX8_writeBorrower 32 = .ok (.invokevirtual 336, 3) := by decide +kernel
theorem dX8_writeBorrower_35 : decode cX8_writeBorrower 35 = .ok (.aload_n 0, 1) := by decide +kernel
theorem dX8_writeBorrower_36 : decode cX8_writeBorrower 36 = .ok (.aload_n 0, 1) := by decide +kernel
theorem dX8_writeBorrower_37 : decode cX8_writeBorrower 37 = .ok (.iload_n 1, 1) := by decide +kernel
theorem dX8_writeBorrower_38 : decode cX8_writeBorrower 38 = .ok (.invokevirtual 106, 3) := by decide +kernel
theorem dX8_writeBorrower_41 : decode cX8_writeBorrower 41 = .ok (.invokestatic 71, 3) := by decide +kernel
theorem dX8_writeBorrower_44 : decode cX8_writeBorrower 44 = .ok (.iconst 4, 1) := by decide +kernel
theorem dX8_writeBorrower_45 : decode cX8_writeBorrower 45 = .ok (.iadd, 1) := by decide +kernel
theorem dX8_writeBorrower_46 : decode cX8_writeBorrower 46 = .ok (.invokevirtual 339, 3) := by decide +kernel
theorem dX8_writeBorrower_49 : decode cX8_writeBorrower 49 = .ok (.aload_n 0, 1) := by decide +kernel
theorem dX8_writeBorrower_50 : decode cX8_writeBorrower 50 = .ok (.bipush 32, 2) := by decide +kernel
theorem dX8_writeBorrower_52 : decode cX8_writeBorrower 52 = .ok (.invokevirtual 336, 3) := by decide +kernel
theorem dX8_writeBorrower_55 : decode cX8_writeBorrower 55 = .ok (.aload_n 0, 1) := by decide +kernel
theorem dX8_writeBorrower_56 : decode cX8_writeBorrower 56 = .ok (.aload_n 0, 1) := by decide +kernel
theorem dX8_writeBorrower_57 : decode cX8_writeBorrower 57 = .ok (.getfield 13, 3) := by decide +kernel
theorem dX8_writeBorrower_60 : decode cX8_writeBorrower 60 = .ok (.iload_n 1, 1) := by decide +kernel
theorem dX8_writeBorrower_61 : decode cX8_writeBorrower 61 = .ok (.invokestatic 78, 3) := by decide +kernel
theorem dX8_writeBorrower_64 : decode cX8_writeBorrower 64 = .ok (.iconst 1, 1) := by decide +kernel
theorem dX8_writeBorrower_65 : decode cX8_writeBorrower 65 = .ok (.iadd, 1) := by decide +kernel
theorem dX8_writeBorrower_66 : decode cX8_writeBorrower 66 = .ok (.iaload, 1) := by decide +kernel
theorem dX8_writeBorrower_67 : decode cX8_writeBorrower 67 = .ok (.invokevirtual 342, 3) := by decide +kernel
theorem dX8_writeBorrower_70 : decode cX8_writeBorrower 70 = .ok (.aload_n 0, 1) := by decide +kernel
theorem dX8_writeBorrower_71 : decode cX8_writeBorrower 71 = .ok (.bipush 32, 2) := by decide +kernel
theorem dX8_writeBorrower_73 : decode cX8_writeBorrower 73 = .ok (.invokevirtual 336, 3) := by decide +kernel
theorem dX8_writeBorrower_76 : decode cX8_writeBorrower 76 = .ok (.aload_n 0, 1) := by decide +kernel
theorem dX8_writeBorrower_77 : decode cX8_writeBorrower 77 = .ok (.aload_n 0, 1) := by decide +kernel
theorem dX8_writeBorrower_78 : decode cX8_writeBorrower 78 = .ok (.getfield 13, 3) := by decide +kernel
theorem dX8_writeBorrower_81 : decode cX8_writeBorrower 81 = .ok (.iload_n 1, 1) := by decide +kernel
theorem dX8_writeBorrower_82 : decode cX8_writeBorrower 82 = .ok (.invokestatic 78, 3) := by decide +kernel
theorem dX8_writeBorrower_85 : decode cX8_writeBorrower 85 = .ok (.iconst 2, 1) := by decide +kernel
theorem dX8_writeBorrower_86 : decode cX8_writeBorrower 86 = .ok (.iadd, 1) := by decide +kernel
theorem dX8_writeBorrower_87 : decode cX8_writeBorrower 87 = .ok (.iaload, 1) := by decide +kernel
theorem dX8_writeBorrower_88 : decode cX8_writeBorrower 88 = .ok (.invokevirtual 342, 3) := by decide +kernel
theorem dX8_writeBorrower_91 : decode cX8_writeBorrower 91 = .ok (.aload_n 0, 1) := by decide +kernel
theorem dX8_writeBorrower_92 : decode cX8_writeBorrower 92 = .ok (.aload_n 0, 1) := by decide +kernel
theorem dX8_writeBorrower_93 : decode cX8_writeBorrower 93 = .ok (.getfield 333, 3) := by decide +kernel
theorem dX8_writeBorrower_96 : decode cX8_writeBorrower 96 = .ok (.invokevirtual 271, 3) := by decide +kernel
theorem dX8_writeBorrower_99 : decode cX8_writeBorrower 99 = .ok (.ireturn, 1) := by decide +kernel
theorem dX8_outputByte_0 : decode cX8_outputByte 0 = .ok (.iload_n 1, 1) := by decide +kernel
theorem dX8_outputByte_1 : decode cX8_outputByte 1 = .ok (.iconst 0, 1) := by decide +kernel
theorem dX8_outputByte_2 : decode cX8_outputByte 2 = .ok (.aload_n 0, 1) := by decide +kernel
theorem dX8_outputByte_3 : decode cX8_outputByte 3 = .ok (.getfield 333, 3) := by decide +kernel
theorem dX8_outputByte_6 : decode cX8_outputByte 6 = .ok (.iconst 1, 1) := by decide +kernel
theorem dX8_outputByte_7 : decode cX8_outputByte 7 = .ok (.isub, 1) := by decide +kernel
theorem dX8_outputByte_8 : decode cX8_outputByte 8 = .ok (.invokestatic 67, 3) := by decide +kernel
theorem dX8_outputByte_11 : decode cX8_outputByte 11 = .ok (.ifCond .ne 9, 3) := by decide +kernel
theorem dX8_outputByte_14 : decode cX8_outputByte 14 = .ok (.aload_n 0, 1) := by decide +kernel
theorem dX8_outputByte_15 : decode cX8_outputByte 15 = .ok (.iconst 1, 1) := by decide +kernel
theorem dX8_outputByte_16 : decode cX8_outputByte 16 = .ok (.invokevirtual 265, 3) := by decide +kernel
theorem dX8_outputByte_19 : decode cX8_outputByte 19 = .ok (.ireturn, 1) := by decide +kernel
theorem dX8_outputByte_20 : decode cX8_outputByte 20 = .ok (.aload_n 0, 1) := by decide +kernel
theorem dX8_outputByte_21 : decode cX8_outputByte 21 = .ok (.aload_n 0, 1) := by decide +kernel
theorem dX8_outputByte_22 : decode cX8_outputByte 22 = .ok (.getfield 35, 3) := by decide +kernel
theorem dX8_outputByte_25 : decode cX8_outputByte 25 = .ok (.iload_n 1, 1) := by decide +kernel
theorem dX8_outputByte_26 : decode cX8_outputByte 26 = .ok (.baload, 1) := by decide +kernel
theorem dX8_outputByte_27 : decode cX8_outputByte 27 = .ok (.invokevirtual 271, 3) := by decide +kernel
theorem dX8_outputByte_30 : decode cX8_outputByte 30 = .ok (.ireturn, 1) := by decide +kernel
