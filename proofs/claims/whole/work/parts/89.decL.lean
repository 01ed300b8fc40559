theorem dL_append_0 : decode cL_append 0 = .ok (.aload 6, 2) := by decide +kernel
theorem dL_append_2 : decode cL_append 2 = .ok (.iconst 0, 1) := by decide +kernel
theorem dL_append_3 : decode cL_append 3 = .ok (.aload_n 0, 1) := by decide +kernel
theorem dL_append_4 : decode cL_append 4 = .ok (.iload_n 1, 1) := by decide +kernel
theorem dL_append_5 : decode cL_append 5 = .ok (.iload_n 2, 1) := by decide +kernel
theorem dL_append_6 : decode cL_append 6 = .ok (.iload_n 3, 1) := by decide +kernel
theorem dL_append_7 : decode cL_append 7 = .ok (.iload 4, 2) := by decide +kernel
theorem dL_append_9 : decode cL_append 9 = .ok (.iload 5, 2) := by decide +kernel
theorem dL_append_11 : decode cL_append 11 = .ok (.invokevirtual 7, 3) := by decide +kernel
theorem dL_append_14 : decode cL_append 14 = .ok (.i2l, 1) := by decide +kernel
theorem dL_append_15 : decode cL_append 15 = .ok (.lastore, 1) := by decide +kernel
theorem dL_append_16 : decode cL_append 16 = .ok (.goto 7, 3) := by decide +kernel
theorem dL_append_19 : decode cL_append 19 = .ok (.astore 7, 2) := by decide +kernel
theorem dL_append_21 : decode cL_append 21 = .ok (.iconst 1, 1) := by decide +kernel
theorem dL_append_22 : decode cL_append 22 = .ok (.ireturn, 1) := by decide +kernel
theorem dL_append_23 : decode cL_append 23 = .ok (.iconst 0, 1) := by decide +kernel
theorem dL_append_24 : decode cL_append 24 = .ok (.ireturn, 1) := by decide +kernel
theorem dL_load_0 : decode cL_load 0 = .ok (.aload_n 2, 1) := by decide +kernel
theorem dL_load_1 : decode cL_load 1 = .ok (.iconst 0, 1) := by decide +kernel
theorem dL_load_2 : decode cL_load 2 = .ok (.aload_n 0, 1) := by decide +kernel
theorem dL_load_3 : decode cL_load 3 = .ok (.iload_n 1, 1) := by decide +kernel
theorem dL_load_4 : decode cL_load 4 = .ok (.invokevirtual 15, 3) := by decide +kernel
theorem dL_load_7 : decode cL_load 7 = .ok (.i2l, 1) := by decide +kernel
theorem dL_load_8 : decode cL_load 8 = .ok (.lastore, 1) := by decide +kernel
theorem dL_load_9 : decode cL_load 9 = .ok (.goto 9, 3) := by decide +kernel
theorem dL_load_12 : decode cL_load 12 = .ok (.astore_n 3, 1) := by decide +kernel
theorem dL_load_13 : decode cL_load 13 = .ok (.iconst 1, 1) := by decide +kernel
theorem dL_load_14 : decode cL_load 14 = .ok (.ireturn, 1) := by decide +kernel
theorem dL_load_15 : decode cL_load 15 = .ok (.astore_n 3, 1) := by decide +kernel
theorem dL_load_16 : decode cL_load 16 = .ok (.iconst 2, 1) := by decide +kernel
theorem dL_load_17 : decode cL_load 17 = .ok (.ireturn, 1) := by decide +kernel
theorem dL_load_18 : decode cL_load 18 = .ok (.iconst 0, 1) := by decide +kernel
theorem dL_load_19 : decode cL_load 19 = .ok (.ireturn, 1) := by decide +kernel
theorem dL_loansWith_0 : decode cL_loansWith 0 = .ok (.aload_n 2, 1) := by decide +kernel
theorem dL_loansWith_1 : decode cL_loansWith 1 = .ok (.iconst 0, 1) := by decide +kernel
theorem dL_loansWith_2 : decode cL_loansWith 2 = .ok (.aload_n 0, 1) := by decide +kernel
theorem dL_loansWith_3 : decode cL_loansWith 3 = .ok (.iload_n 1, 1) := by decide +kernel
theorem dL_loansWith_4 : decode cL_loansWith 4 = .ok (.invokevirtual 23, 3) := by decide +kernel
theorem dL_loansWith_7 : decode cL_loansWith 7 = .ok (.i2l, 1) := by decide +kernel
theorem dL_loansWith_8 : decode cL_loansWith 8 = .ok (.lastore, 1) := by decide +kernel
theorem dL_loansWith_9 : decode cL_loansWith 9 = .ok (.goto 6, 3) := by decide +kernel
theorem dL_loansWith_12 : decode cL_loansWith 12 = .ok (.astore_n 3, 1) := by decide +kernel
theorem dL_loansWith_13 : decode cL_loansWith 13 = .ok (.iconst 1, 1) := by decide +kernel
theorem dL_loansWith_14 : decode cL_loansWith 14 = .ok (.ireturn, 1) := by decide +kernel
theorem dL_loansWith_15 : decode cL_loansWith 15 = .ok (.iconst 0, 1) := by decide +kernel
theorem dL_loansWith_16 : decode cL_loansWith 16 = .ok (.ireturn, 1) := by decide +kernel
theorem dL_noiseNow_0 : decode cL_noiseNow 0 = .ok (.aload_n 2, 1) := by decide +kernel
theorem dL_noiseNow_1 : decode cL_noiseNow 1 = .ok (.iconst 0, 1) := by decide +kernel
theorem dL_noiseNow_2 : decode cL_noiseNow 2 = .ok (.aload_n 0, 1) := by decide +kernel
theorem dL_noiseNow_3 : decode cL_noiseNow 3 = .ok (.iload_n 1, 1) := by decide +kernel
theorem dL_noiseNow_4 : decode cL_noiseNow 4 = .ok (.invokevirtual 26, 3) := by decide +kernel
theorem dL_noiseNow_7 : decode cL_noiseNow 7 = .ok (.i2l, 1) := by decide +kernel
theorem dL_noiseNow_8 : decode cL_noiseNow 8 = .ok (.lastore, 1) := by decide +kernel
theorem dL_noiseNow_9 : decode cL_noiseNow 9 = .ok (.goto 6, 3) := by decide +kernel
theorem dL_noiseNow_12 : decode cL_noiseNow 12 = .ok (.astore_n 3, 1) := by decide +kernel
theorem dL_noiseNow_13 : decode cL_noiseNow 13 = .ok (.iconst 1, 1) := by decide +kernel
theorem dL_noiseNow_14 : decode cL_noiseNow 14 = .ok (.ireturn, 1) := by decide +kernel
theorem dL_noiseNow_15 : decode cL_noiseNow 15 = .ok (.iconst 0, 1) := by decide +kernel
theorem dL_noiseNow_16 : decode cL_noiseNow 16 = .ok (.ireturn, 1) := by decide +kernel
theorem dL_noiseAt_0 : decode cL_noiseAt 0 = .ok (.aload_n 3, 1) := by decide +kernel
theorem dL_noiseAt_1 : decode cL_noiseAt 1 = .ok (.iconst 0, 1) := by decide +kernel
theorem dL_noiseAt_2 : decode cL_noiseAt 2 = .ok (.aload_n 0, 1) := by decide +kernel
theorem dL_noiseAt_3 : decode cL_noiseAt 3 = .ok (.iload_n 1, 1) := by decide +kernel
theorem dL_noiseAt_4 : decode cL_noiseAt 4 = .ok (.iload_n 2, 1) := by decide +kernel
theorem dL_noiseAt_5 : decode cL_noiseAt 5 = .ok (.invokevirtual 29, 3) := by decide +kernel
theorem dL_noiseAt_8 : decode cL_noiseAt 8 = .ok (.i2l, 1) := by decide +kernel
theorem dL_noiseAt_9 : decode cL_noiseAt 9 = .ok (.lastore, 1) := by decide +kernel
theorem dL_noiseAt_10 : decode cL_noiseAt 10 = .ok (.goto 11, 3) := by decide +kernel
theorem dL_noiseAt_13 : decode cL_noiseAt 13 = .ok (.astore 4, 2) := by decide +kernel
theorem dL_noiseAt_15 : decode cL_noiseAt 15 = .ok (.iconst 1, 1) := by decide +kernel
theorem dL_noiseAt_16 : decode cL_noiseAt 16 = .ok (.ireturn, 1) := by decide +kernel
theorem dL_noiseAt_17 : decode cL_noiseAt 17 = .ok (.astore 4, 2) := by decide +kernel
theorem dL_noiseAt_19 : decode cL_noiseAt 19 = .ok (.iconst 2, 1) := by decide +kernel
theorem dL_noiseAt_20 : decode cL_noiseAt 20 = .ok (.ireturn, 1) := by decide +kernel
theorem dL_noiseAt_21 : decode cL_noiseAt 21 = .ok (.iconst 0, 1) := by decide +kernel
theorem dL_noiseAt_22 : decode cL_noiseAt 22 = .ok (.ireturn, 1) := by decide +kernel
theorem dL_noiseTotal_0 : decode cL_noiseTotal 0 = .ok (.aload_n 2, 1) := by decide +kernel
theorem dL_noiseTotal_1 : decode cL_noiseTotal 1 = .ok (.iconst 0, 1) := by decide +kernel
theorem dL_noiseTotal_2 : decode cL_noiseTotal 2 = .ok (.aload_n 0, 1) := by decide +kernel
theorem dL_noiseTotal_3 : decode cL_noiseTotal 3 = .ok (.iload_n 1, 1) := by decide +kernel
theorem dL_noiseTotal_4 : decode cL_noiseTotal 4 = .ok (.invokevirtual 33, 3) := by decide +kernel
theorem dL_noiseTotal_7 : decode cL_noiseTotal 7 = .ok (.i2l, 1) := by decide +kernel
theorem dL_noiseTotal_8 : decode cL_noiseTotal 8 = .ok (.lastore, 1) := by decide +kernel
theorem dL_noiseTotal_9 : decode cL_noiseTotal 9 = .ok (.goto 6, 3) := by decide +kernel
theorem dL_noiseTotal_12 : decode cL_noiseTotal 12 = .ok (.astore_n 3, 1) := by decide +kernel
theorem dL_noiseTotal_13 : decode cL_noiseTotal 13 = .ok (.iconst 1, 1) := by decide +kernel
theorem dL_noiseTotal_14 : decode cL_noiseTotal 14 = .ok (.ireturn, 1) := by decide +kernel
theorem dL_noiseTotal_15 : decode cL_noiseTotal 15 = .ok (.iconst 0, 1) := by decide +kernel
theorem dL_noiseTotal_16 : decode cL_noiseTotal 16 = .ok (.ireturn, 1) := by decide +kernel
theorem dL_quietHours_0 : decode cL_quietHours 0 = .ok (.aload_n 2, 1) := by decide +kernel
theorem dL_quietHours_1 : decode cL_quietHours 1 = .ok (.iconst 0, 1) := by decide +kernel
theorem dL_quietHours_2 : decode cL_quietHours 2 = .ok (.aload_n 0, 1) := by decide +kernel
theorem dL_quietHours_3 : decode cL_quietHours 3 = .ok (.iload_n 1, 1) := by decide +kernel
theorem dL_quietHours_4 : decode cL_quietHours 4 = .ok (.invokevirtual 36, 3) := by decide +kernel
theorem dL_quietHours_7 : decode cL_quietHours 7 = .ok (.i2l, 1) := by decide +kernel
theorem dL_quietHours_8 : decode cL_quietHours 8 = .ok (.lastore, 1) := by decide +kernel
theorem dL_quietHours_9 : decode cL_quietHours 9 = .ok (.goto 6, 3) := by decide +kernel
theorem dL_quietHours_12 : decode cL_quietHours 12 = .ok (.astore_n 3, 1) := by decide +kernel
theorem dL_quietHours_13 : decode cL_quietHours 13 = .ok (.iconst 1, 1) := by decide +kernel
theorem dL_quietHours_14 : decode cL_quietHours 14 = .ok (.ireturn, 1) := by decide +kernel
theorem dL_quietHours_15 : decode cL_quietHours 15 = .ok (.iconst 0, 1) := by decide +kernel
theorem dL_quietHours_16 : decode cL_quietHours 16 = .ok (.ireturn, 1) := by decide +kernel
theorem dL_streetOf_0 : decode cL_streetOf 0 = .ok (.aload_n 2, 1) := by decide +kernel
theorem dL_streetOf_1 : decode cL_streetOf 1 = .ok (.iconst 0, 1) := by decide +kernel
theorem dL_streetOf_2 : decode cL_streetOf 2 = .ok (.aload_n 0, 1) := by decide +kernel
theorem dL_streetOf_3 : decode cL_streetOf 3 = .ok (.iload_n 1, 1) := by decide +kernel
theorem dL_streetOf_4 : decode cL_streetOf 4 = .ok (.invokevirtual 39, 3) := by decide +kernel
theorem dL_streetOf_7 : decode cL_streetOf 7 = .ok (.i2l, 1) := by decide +kernel
theorem dL_streetOf_8 : decode cL_streetOf 8 = .ok (.lastore, 1) := by decide +kernel
theorem dL_streetOf_9 : decode cL_streetOf 9 = .ok (.goto 6, 3) := by decide +kernel
theorem dL_streetOf_12 : decode cL_streetOf 12 = .ok (.astore_n 3, 1) := by decide +kernel
theorem dL_streetOf_13 : decode cL_streetOf 13 = .ok (.iconst 1, 1) := by decide +kernel
theorem dL_streetOf_14 : decode cL_streetOf 14 = .ok (.ireturn, 1) := by decide +kernel
theorem dL_streetOf_15 : decode cL_streetOf 15 = .ok (.iconst 0, 1) := by decide +kernel
theorem dL_streetOf_16 : decode cL_streetOf 16 = .ok (.ireturn, 1) := by decide +kernel
theorem dL_illnessOf_0 : decode cL_illnessOf 0 = .ok (.aload_n 2, 1) := by decide +kernel
theorem dL_illnessOf_1 : decode cL_illnessOf 1 = .ok (.iconst 0, 1) := by decide +kernel
theorem dL_illnessOf_2 : decode cL_illnessOf 2 = .ok (.aload_n 0, 1) := by decide +kernel
theorem dL_illnessOf_3 : decode cL_illnessOf 3 = .ok (.iload_n 1, 1) := by decide +kernel
theorem dL_illnessOf_4 : decode cL_illnessOf 4 = .ok (.invokevirtual 42, 3) := by decide +kernel
theorem dL_illnessOf_7 : decode cL_illnessOf 7 = .ok (.i2l, 1) := by decide +kernel
theorem dL_illnessOf_8 : decode cL_illnessOf 8 = .ok (.lastore, 1) := by decide +kernel
theorem dL_illnessOf_9 : decode cL_illnessOf 9 = .ok (.goto 6, 3) := by decide +kernel
theorem dL_illnessOf_12 : decode cL_illnessOf 12 = .ok (.astore_n 3, 1) := by decide +kernel
theorem dL_illnessOf_13 : decode cL_illnessOf 13 = .ok (.iconst 1, 1) := by decide +kernel
theorem dL_illnessOf_14 : decode cL_illnessOf 14 = .ok (.ireturn, 1) := by decide +kernel
theorem dL_illnessOf_15 : decode cL_illnessOf 15 = .ok (.iconst 0, 1) := by decide +kernel
theorem dL_illnessOf_16 : decode cL_illnessOf 16 = .ok (.ireturn, 1) := by decide +kernel
theorem dL_creditOf_0 : decode cL_creditOf 0 = .ok (.aload_n 2, 1) := by decide +kernel
theorem dL_creditOf_1 : decode cL_creditOf 1 = .ok (.iconst 0, 1) := by decide +kernel
theorem dL_creditOf_2 : decode cL_creditOf 2 = .ok (.aload_n 0, 1) := by decide +kernel
theorem dL_creditOf_3 : decode cL_creditOf 3 = .ok (.iload_n 1, 1) := by decide +kernel
theorem dL_creditOf_4 : decode cL_creditOf 4 = .ok (.invokevirtual 45, 3) := by decide +kernel
theorem dL_creditOf_7 : decode cL_creditOf 7 = .ok (.i2l, 1) := by decide +kernel
theorem dL_creditOf_8 : decode cL_creditOf 8 = .ok (.lastore, 1) := by decide +kernel
theorem dL_creditOf_9 : decode cL_creditOf 9 = .ok (.goto 6, 3) := by decide +kernel
theorem dL_creditOf_12 : decode cL_creditOf 12 = .ok (.astore_n 3, 1) := by decide +kernel
theorem dL_creditOf_13 : decode cL_creditOf 13 = .ok (.iconst 1, 1) := by decide +kernel
theorem dL_creditOf_14 : decode cL_creditOf 14 = .ok (.ireturn, 1) := by decide +kernel
theorem dL_creditOf_15 : decode cL_creditOf 15 = .ok (.iconst 0, 1) := by decide +kernel
theorem dL_creditOf_16 : decode cL_creditOf 16 = .ok (.ireturn, 1) := by decide +kernel
theorem dL_overdueLoans_0 : decode cL_overdueLoans 0 = .ok (.aload_n 2, 1) := by decide +kernel
theorem dL_overdueLoans_1 : decode cL_overdueLoans 1 = .ok (.iconst 0, 1) := by decide +kernel
theorem dL_overdueLoans_2 : decode cL_overdueLoans 2 = .ok (.aload_n 0, 1) := by decide +kernel
theorem dL_overdueLoans_3 : decode cL_overdueLoans 3 = .ok (.iload_n 1, 1) := by decide +kernel
theorem dL_overdueLoans_4 : decode cL_overdueLoans 4 = .ok (.invokevirtual 48, 3) := by decide +kernel
theorem dL_overdueLoans_7 : decode cL_overdueLoans 7 = .ok (.i2l, 1) := by decide +kernel
theorem dL_overdueLoans_8 : decode cL_overdueLoans 8 = .ok (.lastore, 1) := by decide +kernel
theorem dL_overdueLoans_9 : decode cL_overdueLoans 9 = .ok (.goto 6, 3) := by decide +kernel
theorem dL_overdueLoans_12 : decode cL_overdueLoans 12 = .ok (.astore_n 3, 1) := by decide +kernel
theorem dL_overdueLoans_13 : decode cL_overdueLoans 13 = .ok (.iconst 1, 1) := by decide +kernel
theorem dL_overdueLoans_14 : decode cL_overdueLoans 14 = .ok (.ireturn, 1) := by decide +kernel
theorem dL_overdueLoans_15 : decode cL_overdueLoans 15 = .ok (.iconst 0, 1) := by decide +kernel
theorem dL_overdueLoans_16 : decode cL_overdueLoans 16 = .ok (.ireturn, 1) := by decide +kernel
theorem dL_borrowerOf_0 : decode cL_borrowerOf 0 = .ok (.aload_n 2, 1) := by decide +kernel
theorem dL_borrowerOf_1 : decode cL_borrowerOf 1 = .ok (.iconst 0, 1) := by decide +kernel
theorem dL_borrowerOf_2 : decode cL_borrowerOf 2 = .ok (.aload_n 0, 1) := by decide +kernel
theorem dL_borrowerOf_3 : decode cL_borrowerOf 3 = .ok (.iload_n 1, 1) := by decide +kernel
theorem dL_borrowerOf_4 : decode cL_borrowerOf 4 = .ok (.invokevirtual 51, 3) := by decide +kernel
theorem dL_borrowerOf_7 : decode cL_borrowerOf 7 = .ok (.i2l, 1) := by decide +kernel
theorem dL_borrowerOf_8 : decode cL_borrowerOf 8 = .ok (.lastore, 1) := by decide +kernel
theorem dL_borrowerOf_9 : decode cL_borrowerOf 9 = .ok (.goto 6, 3) := by decide +kernel
theorem dL_borrowerOf_12 : decode cL_borrowerOf 12 = .ok (.astore_n 3, 1) := by decide +kernel
theorem dL_borrowerOf_13 : decode cL_borrowerOf 13 = .ok (.iconst 1, 1) := by decide +kernel
theorem dL_borrowerOf_14 : decode cL_borrowerOf 14 = .ok (.ireturn, 1) := by decide +kernel
theorem dL_borrowerOf_15 : decode cL_borrowerOf 15 = .ok (.iconst 0, 1) := by decide +kernel
theorem dL_borrowerOf_16 : decode cL_borrowerOf 16 = .ok (.ireturn, 1) := by decide +kernel
theorem dL_startOf_0 : decode cL_startOf 0 = .ok (.aload_n 2, 1) := by decide +kernel
theorem dL_startOf_1 : decode cL_startOf 1 = .ok (.iconst 0, 1) := by decide +kernel
theorem dL_startOf_2 : decode cL_startOf 2 = .ok (.aload_n 0, 1) := by decide +kernel
theorem dL_startOf_3 : decode cL_startOf 3 = .ok (.iload_n 1, 1) := by decide +kernel
theorem dL_startOf_4 : decode cL_startOf 4 = .ok (.invokevirtual 54, 3) := by decide +kernel
theorem dL_startOf_7 : decode cL_startOf 7 = .ok (.i2l, 1) := by decide +kernel
theorem dL_startOf_8 : decode cL_startOf 8 = .ok (.lastore, 1) := by decide +kernel
theorem dL_startOf_9 : decode cL_startOf 9 = .ok (.goto 6, 3) := by decide +kernel
theorem dL_startOf_12 : decode cL_startOf 12 = .ok (.astore_n 3, 1) := by decide +kernel
theorem dL_startOf_13 : decode cL_startOf 13 = .ok (.iconst 1, 1) := by decide +kernel
theorem dL_startOf_14 : decode cL_startOf 14 = .ok (.ireturn, 1) := by decide +kernel
theorem dL_startOf_15 : decode cL_startOf 15 = .ok (.iconst 0, 1) := by decide +kernel
theorem dL_startOf_16 : decode cL_startOf 16 = .ok (.ireturn, 1) := by decide +kernel
theorem dL_lengthOf_0 : decode cL_lengthOf 0 = .ok (.aload_n 2, 1) := by decide +kernel
theorem dL_lengthOf_1 : decode cL_lengthOf 1 = .ok (.iconst 0, 1) := by decide +kernel
theorem dL_lengthOf_2 : decode cL_lengthOf 2 = .ok (.aload_n 0, 1) := by decide +kernel
theorem dL_lengthOf_3 : decode cL_lengthOf 3 = .ok (.iload_n 1, 1) := by decide +kernel
theorem dL_lengthOf_4 : decode cL_lengthOf 4 = .ok (.invokevirtual 57, 3) := by decide +kernel
theorem dL_lengthOf_7 : decode cL_lengthOf 7 = .ok (.i2l, 1) := by decide +kernel
theorem dL_lengthOf_8 : decode cL_lengthOf 8 = .ok (.lastore, 1) := by decide +kernel
theorem dL_lengthOf_9 : decode cL_lengthOf 9 = .ok (.goto 6, 3) := by decide +kernel
theorem dL_lengthOf_12 : decode cL_lengthOf 12 = .ok (.astore_n 3, 1) := by decide +kernel
theorem dL_lengthOf_13 : decode cL_lengthOf 13 = .ok (.iconst 1, 1) := by decide +kernel
theorem dL_lengthOf_14 : decode cL_lengthOf 14 = .ok (.ireturn, 1) := by decide +kernel
theorem dL_lengthOf_15 : decode cL_lengthOf 15 = .ok (.iconst 0, 1) := by decide +kernel
theorem dL_lengthOf_16 : decode cL_lengthOf 16 = .ok (.ireturn, 1) := by decide +kernel
theorem dL_priceOf_0 : decode cL_priceOf 0 = .ok (.aload_n 2, 1) := by decide +kernel
theorem dL_priceOf_1 : decode cL_priceOf 1 = .ok (.iconst 0, 1) := by decide +kernel
theorem dL_priceOf_2 : decode cL_priceOf 2 = .ok (.aload_n 0, 1) := by decide +kernel
theorem dL_priceOf_3 : decode cL_priceOf 3 = .ok (.iload_n 1, 1) := by decide +kernel
theorem dL_priceOf_4 : decode cL_priceOf 4 = .ok (.invokevirtual 60, 3) := by decide +kernel
theorem dL_priceOf_7 : decode cL_priceOf 7 = .ok (.i2l, 1) := by decide +kernel
theorem dL_priceOf_8 : decode cL_priceOf 8 = .ok (.lastore, 1) := by decide +kernel
theorem dL_priceOf_9 : decode cL_priceOf 9 = .ok (.goto 6, 3) := by decide +kernel
theorem dL_priceOf_12 : decode cL_priceOf 12 = .ok (.astore_n 3, 1) := by decide +kernel
theorem dL_priceOf_13 : decode cL_priceOf 13 = .ok (.iconst 1, 1) := by decide +kernel
theorem dL_priceOf_14 : decode cL_priceOf 14 = .ok (.ireturn, 1) := by decide +kernel
theorem dL_priceOf_15 : decode cL_priceOf 15 = .ok (.iconst 0, 1) := by decide +kernel
theorem dL_priceOf_16 : decode cL_priceOf 16 = .ok (.ireturn, 1) := by decide +kernel
theorem dL_statusOf_0 : decode cL_statusOf 0 = .ok (.aload_n 2, 1) := by decide +kernel
theorem dL_statusOf_1 : decode cL_statusOf 1 = .ok (.iconst 0, 1) := by decide +kernel
theorem dL_statusOf_2 : decode cL_statusOf 2 = .ok (.aload_n 0, 1) := by decide +kernel
theorem dL_statusOf_3 : decode cL_statusOf 3 = .ok (.iload_n 1, 1) := by decide +kernel
theorem dL_statusOf_4 : decode cL_statusOf 4 = .ok (.invokevirtual 63, 3) := by decide +kernel
theorem dL_statusOf_7 : decode cL_statusOf 7 = .ok (.i2l, 1) := by decide +kernel
theorem dL_statusOf_8 : decode cL_statusOf 8 = .ok (.lastore, 1) := by decide +kernel
theorem dL_statusOf_9 : decode cL_statusOf 9 = .ok (.goto 6, 3) := by decide +kernel
theorem dL_statusOf_12 : decode cL_statusOf 12 = .ok (.astore_n 3, 1) := by decide +kernel
theorem dL_statusOf_13 : decode cL_statusOf 13 = .ok (.iconst 1, 1) := by decide +kernel
theorem dL_statusOf_14 : decode cL_statusOf 14 = .ok (.ireturn, 1) := by decide +kernel
theorem dL_statusOf_15 : decode cL_statusOf 15 = .ok (.iconst 0, 1) := by decide +kernel
theorem dL_statusOf_16 : decode cL_statusOf 16 = .ok (.ireturn, 1) := by decide +kernel
theorem dL_holderOf_0 : decode cL_holderOf 0 = .ok (.aload_n 2, 1) := by decide +kernel
theorem dL_holderOf_1 : decode cL_holderOf 1 = .ok (.iconst 0, 1) := by decide +kernel
theorem dL_holderOf_2 : decode cL_holderOf 2 = .ok (.aload_n 0, 1) := by decide +kernel
theorem dL_holderOf_3 : decode cL_holderOf 3 = .ok (.iload_n 1, 1) := by decide +kernel
theorem dL_holderOf_4 : decode cL_holderOf 4 = .ok (.invokevirtual 66, 3) := by decide +kernel
theorem dL_holderOf_7 : decode cL_holderOf 7 = .ok (.i2l, 1) := by decide +kernel
theorem dL_holderOf_8 : decode cL_holderOf 8 = .ok (.lastore, 1) := by decide +kernel
theorem dL_holderOf_9 : decode cL_holderOf 9 = .ok (.goto 6, 3) := by decide +kernel
theorem dL_holderOf_12 : decode cL_holderOf 12 = .ok (.astore_n 3, 1) := by decide +kernel
theorem dL_holderOf_13 : decode cL_holderOf 13 = .ok (.iconst 1, 1) := by decide +kernel
theorem dL_holderOf_14 : decode cL_holderOf 14 = .ok (.ireturn, 1) := by decide +kernel
theorem dL_holderOf_15 : decode cL_holderOf 15 = .ok (.iconst 0, 1) := by decide +kernel
theorem dL_holderOf_16 : decode cL_holderOf 16 = .ok (.ireturn, 1) := by decide +kernel
theorem dL_permitFor_0 : decode cL_permitFor 0 = .ok (.aload_n 3, 1) := by decide +kernel
theorem dL_permitFor_1 : decode cL_permitFor 1 = .ok (.iconst 0, 1) := by decide +kernel
theorem dL_permitFor_2 : decode cL_permitFor 2 = .ok (.aload_n 0, 1) := by decide +kernel
theorem dL_permitFor_3 : decode cL_permitFor 3 = .ok (.iload_n 1, 1) := by decide +kernel
theorem dL_permitFor_4 : decode cL_permitFor 4 = .ok (.iload_n 2, 1) := by decide +kernel
theorem dL_permitFor_5 : decode cL_permitFor 5 = .ok (.invokevirtual 69, 3) := by decide +kernel
theorem dL_permitFor_8 : decode cL_permitFor 8 = .ok (.i2l, 1) := by decide +kernel
theorem dL_permitFor_9 : decode cL_permitFor 9 = .ok (.lastore, 1) := by decide +kernel
theorem dL_permitFor_10 : decode cL_permitFor 10 = .ok (.goto 11, 3) := by decide +kernel
theorem dL_permitFor_13 : decode cL_permitFor 13 = .ok (.astore 4, 2) := by decide +kernel
theorem dL_permitFor_15 : decode cL_permitFor 15 = .ok (.iconst 1, 1) := by decide +kernel
theorem dL_permitFor_16 : decode cL_permitFor 16 = .ok (.ireturn, 1) := by decide +kernel
theorem dL_permitFor_17 : decode cL_permitFor 17 = .ok (.astore 4, 2) := by decide +kernel
theorem dL_permitFor_19 : decode cL_permitFor 19 = .ok (.iconst 2, 1) := by decide +kernel
theorem dL_permitFor_20 : decode cL_permitFor 20 = .ok (.ireturn, 1) := by decide +kernel
theorem dL_permitFor_21 : decode cL_permitFor 21 = .ok (.iconst 0, 1) := by decide +kernel
theorem dL_permitFor_22 : decode cL_permitFor 22 = .ok (.ireturn, 1) := by decide +kernel
theorem dL_quote_0 : decode cL_quote 0 = .ok (.aload_n 3, 1) := by decide +kernel
theorem dL_quote_1 : decode cL_quote 1 = .ok (.iconst 0, 1) := by decide +kernel
theorem dL_quote_2 : decode cL_quote 2 = .ok (.aload_n 0, 1) := by decide +kernel
theorem dL_quote_3 : decode cL_quote 3 = .ok (.iload_n 1, 1) := by decide +kernel
theorem dL_quote_4 : decode cL_quote 4 = .ok (.iload_n 2, 1) := by decide +kernel
theorem dL_quote_5 : decode cL_quote 5 = .ok (.invokevirtual 72, 3) := by decide +kernel
theorem dL_quote_8 : decode cL_quote 8 = .ok (.i2l, 1) := by decide +kernel
theorem dL_quote_9 : decode cL_quote 9 = .ok (.lastore, 1) := by decide +kernel
theorem dL_quote_10 : decode cL_quote 10 = .ok (.goto 11, 3) := by decide +kernel
theorem dL_quote_13 : decode cL_quote 13 = .ok (.astore 4, 2) := by decide +kernel
theorem dL_quote_15 : decode cL_quote 15 = .ok (.iconst 1, 1) := by decide +kernel
theorem dL_quote_16 : decode cL_quote 16 = .ok (.ireturn, 1) := by decide +kernel
theorem dL_quote_17 : decode cL_quote 17 = .ok (.astore 4, 2) := by decide +kernel
theorem dL_quote_19 : decode cL_quote 19 = .ok (.iconst 2, 1) := by decide +kernel
theorem dL_quote_20 : decode cL_quote 20 = .ok (.ireturn, 1) := by decide +kernel
theorem dL_quote_21 : decode cL_quote 21 = .ok (.iconst 0, 1) := by decide +kernel
theorem dL_quote_22 : decode cL_quote 22 = .ok (.ireturn, 1) := by decide +kernel
theorem dL_refusal_0 : decode cL_refusal 0 = .ok (.aload 4, 2) := by decide +kernel
theorem dL_refusal_2 : decode cL_refusal 2 = .ok (.iconst 0, 1) := by decide +kernel
theorem dL_refusal_3 : decode cL_refusal 3 = .ok (.aload_n 0, 1) := by decide +kernel
theorem dL_refusal_4 : decode cL_refusal 4 = .ok (.iload_n 1, 1) := by decide +kernel
theorem dL_refusal_5 : decode cL_refusal 5 = .ok (.iload_n 2, 1) := by decide +kernel
theorem dL_refusal_6 : decode cL_refusal 6 = .ok (.iload_n 3, 1) := by decide +kernel
theorem dL_refusal_7 : decode cL_refusal 7 = .ok (.invokevirtual 75, 3) := by decide +kernel
theorem dL_refusal_10 : decode cL_refusal 10 = .ok (.i2l, 1) := by decide +kernel
theorem dL_refusal_11 : decode cL_refusal 11 = .ok (.lastore, 1) := by decide +kernel
theorem dL_refusal_12 : decode cL_refusal 12 = .ok (.goto 11, 3) := by decide +kernel
theorem dL_refusal_15 : decode cL_refusal 15 = .ok (.astore 5, 2) := by decide +kernel
theorem dL_refusal_17 : decode cL_refusal 17 = .ok (.iconst 1, 1) := by decide +kernel
theorem dL_refusal_18 : decode cL_refusal 18 = .ok (.ireturn, 1) := by decide +kernel
theorem dL_refusal_19 : decode cL_refusal 19 = .ok (.astore 5, 2) := by decide +kernel
theorem dL_refusal_21 : decode cL_refusal 21 = .ok (.iconst 2, 1) := by decide +kernel
theorem dL_refusal_22 : decode cL_refusal 22 = .ok (.ireturn, 1) := by decide +kernel
theorem dL_refusal_23 : decode cL_refusal 23 = .ok (.iconst 0, 1) := by decide +kernel
theorem dL_refusal_24 : decode cL_refusal 24 = .ok (.ireturn, 1) := by decide +kernel
theorem dL_refusalCause_0 : decode cL_refusalCause 0 = .ok (.aload 4, 2) := by decide +kernel
theorem dL_refusalCause_2 : decode cL_refusalCause 2 = .ok (.iconst 0, 1) := by decide +kernel
theorem dL_refusalCause_3 : decode cL_refusalCause 3 = .ok (.aload_n 0, 1) := by decide +kernel
theorem dL_refusalCause_4 : decode cL_refusalCause 4 = .ok (.iload_n 1, 1) := by decide +kernel
theorem dL_refusalCause_5 : decode cL_refusalCause 5 = .ok (.iload_n 2, 1) := by decide +kernel
theorem dL_refusalCause_6 : decode cL_refusalCause 6 = .ok (.iload_n 3, 1) := by decide +kernel
theorem dL_refusalCause_7 : decode cL_refusalCause 7 = .ok (.invokevirtual 79, 3) := by decide +kernel
theorem dL_refusalCause_10 : decode cL_refusalCause 10 = .ok (.i2l, 1) := by decide +kernel
theorem dL_refusalCause_11 : decode cL_refusalCause 11 = .ok (.lastore, 1) := by decide +kernel
theorem dL_refusalCause_12 : decode cL_refusalCause 12 = .ok (.goto 11, 3) := by decide +kernel
theorem dL_refusalCause_15 : decode cL_refusalCause 15 = .ok (.astore 5, 2) := by decide +kernel
theorem dL_refusalCause_17 : decode cL_refusalCause 17 = .ok (.iconst 1, 1) := by decide +kernel
theorem dL_refusalCause_18 : decode cL_refusalCause 18 = .ok (.ireturn, 1) := by decide +kernel
theorem dL_refusalCause_19 : decode cL_refusalCause 19 = .ok (.astore 5, 2) := by decide +kernel
theorem dL_refusalCause_21 : decode cL_refusalCause 21 = .ok (.iconst 2, 1) := by decide +kernel
theorem dL_refusalCause_22 : decode cL_refusalCause 22 = .ok (.ireturn, 1) := by decide +kernel
theorem dL_refusalCause_23 : decode cL_refusalCause 23 = .ok (.iconst 0, 1) := by decide +kernel
theorem dL_refusalCause_24 : decode cL_refusalCause 24 = .ok (.ireturn, 1) := by decide +kernel
theorem dL_displacedBy_0 : decode cL_displacedBy 0 = .ok (.aload 4, 2) := by decide +kernel
theorem dL_displacedBy_2 : decode cL_displacedBy 2 = .ok (.iconst 0, 1) := by decide +kernel
theorem dL_displacedBy_3 : decode cL_displacedBy 3 = .ok (.aload_n 0, 1) := by decide +kernel
theorem dL_displacedBy_4 : decode cL_displacedBy 4 = .ok (.iload_n 1, 1) := by decide +kernel
theorem dL_displacedBy_5 : decode cL_displacedBy 5 = .ok (.iload_n 2, 1) := by decide +kernel
theorem dL_displacedBy_6 : decode cL_displacedBy 6 = .ok (.iload_n 3, 1) := by decide +kernel
theorem dL_displacedBy_7 : decode cL_displacedBy 7 = .ok (.invokevirtual 82, 3) := by decide +kernel
theorem dL_displacedBy_10 : decode cL_displacedBy 10 = .ok (.i2l, 1) := by decide +kernel
theorem dL_displacedBy_11 : decode cL_displacedBy 11 = .ok (.lastore, 1) := by decide +kernel
theorem dL_displacedBy_12 : decode cL_displacedBy 12 = .ok (.goto 11, 3) := by decide +kernel
theorem dL_displacedBy_15 : decode cL_displacedBy 15 = .ok (.astore 5, 2) := by decide +kernel
theorem dL_displacedBy_17 : decode cL_displacedBy 17 = .ok (.iconst 1, 1) := by decide +kernel
theorem dL_displacedBy_18 : decode cL_displacedBy 18 = .ok (.ireturn, 1) := by decide +kernel
theorem dL_displacedBy_19 : decode cL_displacedBy 19 = .ok (.astore 5, 2) := by decide +kernel
theorem dL_displacedBy_21 : decode cL_displacedBy 21 = .ok (.iconst 2, 1) := by decide +kernel
theorem dL_displacedBy_22 : decode cL_displacedBy 22 = .ok (.ireturn, 1) := by decide +kernel
theorem dL_displacedBy_23 : decode cL_displacedBy 23 = .ok (.iconst 0, 1) := by decide +kernel
theorem dL_displacedBy_24 : decode cL_displacedBy 24 = .ok (.ireturn, 1) := by decide +kernel
theorem dL_earliestStart_0 : decode cL_earliestStart 0 = .ok (.aload_n 3, 1) := by decide +kernel
theorem dL_earliestStart_1 : decode cL_earliestStart 1 = .ok (.iconst 0, 1) := by decide +kernel
theorem dL_earliestStart_2 : decode cL_earliestStart 2 = .ok (.aload_n 0, 1) := by decide +kernel
theorem dL_earliestStart_3 : decode cL_earliestStart 3 = .ok (.iload_n 1, 1) := by decide +kernel
theorem dL_earliestStart_4 : decode cL_earliestStart 4 = .ok (.iload_n 2, 1) := by decide +kernel
theorem dL_earliestStart_5 : decode cL_earliestStart 5 = .ok (.invokevirtual 85, 3) := by decide +kernel
theorem dL_earliestStart_8 : decode cL_earliestStart 8 = .ok (.i2l, 1) := by decide +kernel
theorem dL_earliestStart_9 : decode cL_earliestStart 9 = .ok (.lastore, 1) := by decide +kernel
theorem dL_earliestStart_10 : decode cL_earliestStart 10 = .ok (.goto 11, 3) := by decide +kernel
theorem dL_earliestStart_13 : decode cL_earliestStart 13 = .ok (.astore 4, 2) := by decide +kernel
theorem dL_earliestStart_15 : decode cL_earliestStart 15 = .ok (.iconst 1, 1) := by decide +kernel
theorem dL_earliestStart_16 : decode cL_earliestStart 16 = .ok (.ireturn, 1) := by decide +kernel
theorem dL_earliestStart_17 : decode cL_earliestStart 17 = .ok (.astore 4, 2) := by decide +kernel
theorem dL_earliestStart_19 : decode cL_earliestStart 19 = .ok (.iconst 2, 1) := by decide +kernel
theorem dL_earliestStart_20 : decode cL_earliestStart 20 = .ok (.ireturn, 1) := by decide +kernel
theorem dL_earliestStart_21 : decode cL_earliestStart 21 = .ok (.iconst 0, 1) := by decide +kernel
theorem dL_earliestStart_22 : decode cL_earliestStart 22 = .ok (.ireturn, 1) := by decide +kernel
theorem dL_earliestPeacefulStart_0 : decode cL_earliestPeacefulStart 0 = .ok (.aload_n 3, 1) := by decide +kernel
theorem dL_earliestPeacefulStart_1 : decode cL_earliestPeacefulStart 1 = .ok (.iconst 0, 1) := by decide +kernel
theorem dL_earliestPeacefulStart_2 : decode cL_earliestPeacefulStart 2 = .ok (.aload_n 0, 1) := by decide +kernel
theorem dL_earliestPeacefulStart_3 : decode cL_earliestPeacefulStart 3 = .ok (.iload_n 1, 1) := by decide +kernel
theorem dL_earliestPeacefulStart_4 : decode cL_earliestPeacefulStart 4 = .ok (.iload_n 2, 1) := by decide +kernel
theorem dL_earliestPeacefulStart_5 : decode cL_earliestPeacefulStart 5 = .ok (.invokevirtual 88, 3) := by decide +kernel
theorem dL_earliestPeacefulStart_8 : decode cL_earliestPeacefulStart 8 = .ok (.i2l, 1) := by decide +kernel
theorem dL_earliestPeacefulStart_9 : decode cL_earliestPeacefulStart 9 = .ok (.lastore, 1) := by decide +kernel
theorem dL_earliestPeacefulStart_10 : decode cL_earliestPeacefulStart 10 = .ok (.goto 11, 3) := by decide +kernel
theorem dL_earliestPeacefulStart_13 : decode cL_earliestPeacefulStart 13 = .ok (.astore 4, 2) := by decide +kernel
theorem dL_earliestPeacefulStart_15 : decode cL_earliestPeacefulStart 15 = .ok (.iconst 1, 1) := by decide +kernel
theorem dL_earliestPeacefulStart_16 : decode cL_earliestPeacefulStart 16 = .ok (.ireturn, 1) := by decide +kernel
theorem dL_earliestPeacefulStart_17 : decode cL_earliestPeacefulStart 17 = .ok (.astore 4, 2) := by decide +kernel
theorem dL_earliestPeacefulStart_19 : decode cL_earliestPeacefulStart 19 = .ok (.iconst 2, 1) := by decide +kernel
theorem dL_earliestPeacefulStart_20 : decode cL_earliestPeacefulStart 20 = .ok (.ireturn, 1) := by decide +kernel
theorem dL_earliestPeacefulStart_21 : decode cL_earliestPeacefulStart 21 = .ok (.iconst 0, 1) := by decide +kernel
theorem dL_earliestPeacefulStart_22 : decode cL_earliestPeacefulStart 22 = .ok (.ireturn, 1) := by decide +kernel
theorem dL_illnessAfter_0 : decode cL_illnessAfter 0 = .ok (.aload_n 3, 1) := by decide +kernel
theorem dL_illnessAfter_1 : decode cL_illnessAfter 1 = .ok (.iconst 0, 1) := by decide +kernel
theorem dL_illnessAfter_2 : decode cL_illnessAfter 2 = .ok (.aload_n 0, 1) := by decide +kernel
theorem dL_illnessAfter_3 : decode cL_illnessAfter 3 = .ok (.iload_n 1, 1) := by decide +kernel
theorem dL_illnessAfter_4 : decode cL_illnessAfter 4 = .ok (.iload_n 2, 1) := by decide +kernel
theorem dL_illnessAfter_5 : decode cL_illnessAfter 5 = .ok (.invokevirtual 91, 3) := by decide +kernel
theorem dL_illnessAfter_8 : decode cL_illnessAfter 8 = .ok (.i2l, 1) := by decide +kernel
theorem dL_illnessAfter_9 : decode cL_illnessAfter 9 = .ok (.lastore, 1) := by decide +kernel
theorem dL_illnessAfter_10 : decode cL_illnessAfter 10 = .ok (.goto 11, 3) := by decide +kernel
theorem dL_illnessAfter_13 : decode cL_illnessAfter 13 = .ok (.astore 4, 2) := by decide +kernel
theorem dL_illnessAfter_15 : decode cL_illnessAfter 15 = .ok (.iconst 1, 1) := by decide +kernel
theorem dL_illnessAfter_16 : decode cL_illnessAfter 16 = .ok (.ireturn, 1) := by decide +kernel
theorem dL_illnessAfter_17 : decode cL_illnessAfter 17 = .ok (.astore 4, 2) := by decide +kernel
theorem dL_illnessAfter_19 : decode cL_illnessAfter 19 = .ok (.iconst 2, 1) := by decide +kernel
theorem dL_illnessAfter_20 : decode cL_illnessAfter 20 = .ok (.ireturn, 1) := by decide +kernel
theorem dL_illnessAfter_21 : decode cL_illnessAfter 21 = .ok (.iconst 0, 1) := by decide +kernel
theorem dL_illnessAfter_22 : decode cL_illnessAfter 22 = .ok (.ireturn, 1) := by decide +kernel
theorem dL_meanNoise_0 : decode cL_meanNoise 0 = .ok (.aload_n 2, 1) := by decide +kernel
theorem dL_meanNoise_1 : decode cL_meanNoise 1 = .ok (.iconst 0, 1) := by decide +kernel
theorem dL_meanNoise_2 : decode cL_meanNoise 2 = .ok (.aload_n 0, 1) := by decide +kernel
theorem dL_meanNoise_3 : decode cL_meanNoise 3 = .ok (.iload_n 1, 1) := by decide +kernel
theorem dL_meanNoise_4 : decode cL_meanNoise 4 = .ok (.invokevirtual 94, 3) := by decide +kernel
theorem dL_meanNoise_7 : decode cL_meanNoise 7 = .ok (.dastore, 1) := by decide +kernel
theorem dL_meanNoise_8 : decode cL_meanNoise 8 = .ok (.goto 6, 3) := by decide +kernel
theorem dL_meanNoise_11 : decode cL_meanNoise 11 = .ok (.astore_n 3, 1) := by decide +kernel
theorem dL_meanNoise_12 : decode cL_meanNoise 12 = .ok (.iconst 1, 1) := by decide +kernel
theorem dL_meanNoise_13 : decode cL_meanNoise 13 = .ok (.ireturn, 1) := by decide +kernel
theorem dL_meanNoise_14 : decode cL_meanNoise 14 = .ok (.iconst 0, 1) := by decide +kernel
theorem dL_meanNoise_15 : decode cL_meanNoise 15 = .ok (.ireturn, 1) := by decide +kernel
theorem dL_lend_0 : decode cL_lend 0 = .ok (.aload 4, 2) := by decide +kernel
theorem dL_lend_2 : decode cL_lend 2 = .ok (.iconst 0, 1) := by decide +kernel
theorem dL_lend_3 : decode cL_lend 3 = .ok (.aload_n 0, 1) := by decide +kernel
theorem dL_lend_4 : decode cL_lend 4 = .ok (.iload_n 1, 1) := by decide +kernel
theorem dL_lend_5 : decode cL_lend 5 = .ok (.iload_n 2, 1) := by decide +kernel
theorem dL_lend_6 : decode cL_lend 6 = .ok (.iload_n 3, 1) := by decide +kernel
theorem dL_lend_7 : decode cL_lend 7 = .ok (.invokevirtual 98, 3) := by decide +kernel
theorem dL_lend_10 : decode cL_lend 10 = .ok (.i2l, 1) := by decide +kernel
theorem dL_lend_11 : decode cL_lend 11 = .ok (.lastore, 1) := by decide +kernel
theorem dL_lend_12 : decode cL_lend 12 = .ok (.goto 15, 3) := by decide +kernel
theorem dL_lend_15 : decode cL_lend 15 = .ok (.astore 5, 2) := by decide +kernel
theorem dL_lend_17 : decode cL_lend 17 = .ok (.iconst 1, 1) := by decide +kernel
theorem dL_lend_18 : decode cL_lend 18 = .ok (.ireturn, 1) := by decide +kernel
theorem dL_lend_19 : decode cL_lend 19 = .ok (.astore 5, 2) := by decide +kernel
theorem dL_lend_21 : decode cL_lend 21 = .ok (.iconst 2, 1) := by decide +kernel
theorem dL_lend_22 : decode cL_lend 22 = .ok (.ireturn, 1) := by decide +kernel
theorem dL_lend_23 : decode cL_lend 23 = .ok (.astore 5, 2) := by decide +kernel
theorem dL_lend_25 : decode cL_lend 25 = .ok (.iconst 3, 1) := by decide +kernel
theorem dL_lend_26 : decode cL_lend 26 = .ok (.ireturn, 1) := by decide +kernel
theorem dL_lend_27 : decode cL_lend 27 = .ok (.iconst 0, 1) := by decide +kernel
theorem dL_lend_28 : decode cL_lend 28 = .ok (.ireturn, 1) := by decide +kernel
theorem dL_cancel_0 : decode cL_cancel 0 = .ok (.aload_n 2, 1) := by decide +kernel
theorem dL_cancel_1 : decode cL_cancel 1 = .ok (.iconst 0, 1) := by decide +kernel
theorem dL_cancel_2 : decode cL_cancel 2 = .ok (.aload_n 0, 1) := by decide +kernel
theorem dL_cancel_3 : decode cL_cancel 3 = .ok (.iload_n 1, 1) := by decide +kernel
theorem dL_cancel_4 : decode cL_cancel 4 = .ok (.invokevirtual 101, 3) := by decide +kernel
theorem dL_cancel_7 : decode cL_cancel 7 = .ok (.i2l, 1) := by decide +kernel
theorem dL_cancel_8 : decode cL_cancel 8 = .ok (.lastore, 1) := by decide +kernel
theorem dL_cancel_9 : decode cL_cancel 9 = .ok (.goto 9, 3) := by decide +kernel
theorem dL_cancel_12 : decode cL_cancel 12 = .ok (.astore_n 3, 1) := by decide +kernel
theorem dL_cancel_13 : decode cL_cancel 13 = .ok (.iconst 1, 1) := by decide +kernel
theorem dL_cancel_14 : decode cL_cancel 14 = .ok (.ireturn, 1) := by decide +kernel
theorem dL_cancel_15 : decode cL_cancel 15 = .ok (.astore_n 3, 1) := by decide +kernel
theorem dL_cancel_16 : decode cL_cancel 16 = .ok (.iconst 2, 1) := by decide +kernel
theorem dL_cancel_17 : decode cL_cancel 17 = .ok (.ireturn, 1) := by decide +kernel
theorem dL_cancel_18 : decode cL_cancel 18 = .ok (.iconst 0, 1) := by decide +kernel
theorem dL_cancel_19 : decode cL_cancel 19 = .ok (.ireturn, 1) := by decide +kernel
theorem dL_whistle_0 : decode cL_whistle 0 = .ok (.aload_n 2, 1) := by decide +kernel
theorem dL_whistle_1 : decode cL_whistle 1 = .ok (.iconst 0, 1) := by decide +kernel
theorem dL_whistle_2 : decode cL_whistle 2 = .ok (.aload_n 0, 1) := by decide +kernel
theorem dL_whistle_3 : decode cL_whistle 3 = .ok (.iload_n 1, 1) := by decide +kernel
theorem dL_whistle_4 : decode cL_whistle 4 = .ok (.invokevirtual 104, 3) := by decide +kernel
theorem dL_whistle_7 : decode cL_whistle 7 = .ok (.i2l, 1) := by decide +kernel
theorem dL_whistle_8 : decode cL_whistle 8 = .ok (.lastore, 1) := by decide +kernel
theorem dL_whistle_9 : decode cL_whistle 9 = .ok (.goto 9, 3) := by decide +kernel
theorem dL_whistle_12 : decode cL_whistle 12 = .ok (.astore_n 3, 1) := by decide +kernel
theorem dL_whistle_13 : decode cL_whistle 13 = .ok (.iconst 1, 1) := by decide +kernel
theorem dL_whistle_14 : decode cL_whistle 14 = .ok (.ireturn, 1) := by decide +kernel
theorem dL_whistle_15 : decode cL_whistle 15 = .ok (.astore_n 3, 1) := by decide +kernel
theorem dL_whistle_16 : decode cL_whistle 16 = .ok (.iconst 2, 1) := by decide +kernel
theorem dL_whistle_17 : decode cL_whistle 17 = .ok (.ireturn, 1) := by decide +kernel
theorem dL_whistle_18 : decode cL_whistle 18 = .ok (.iconst 0, 1) := by decide +kernel
theorem dL_whistle_19 : decode cL_whistle 19 = .ok (.ireturn, 1) := by decide +kernel
theorem dL_grantPermit_0 : decode cL_grantPermit 0 = .ok (.aload 4, 2) := by decide +kernel
theorem dL_grantPermit_2 : decode cL_grantPermit 2 = .ok (.iconst 0, 1) := by decide +kernel
theorem dL_grantPermit_3 : decode cL_grantPermit 3 = .ok (.aload_n 0, 1) := by decide +kernel
theorem dL_grantPermit_4 : decode cL_grantPermit 4 = .ok (.iload_n 1, 1) := by decide +kernel
theorem dL_grantPermit_5 : decode cL_grantPermit 5 = .ok (.iload_n 2, 1) := by decide +kernel
theorem dL_grantPermit_6 : decode cL_grantPermit 6 = .ok (.iload_n 3, 1) := by decide +kernel
theorem dL_grantPermit_7 : decode cL_grantPermit 7 = .ok (.invokevirtual 107, 3) := by decide +kernel
theorem dL_grantPermit_10 : decode cL_grantPermit 10 = .ok (.i2l, 1) := by decide +kernel
theorem dL_grantPermit_11 : decode cL_grantPermit 11 = .ok (.lastore, 1) := by decide +kernel
theorem dL_grantPermit_12 : decode cL_grantPermit 12 = .ok (.goto 15, 3) := by decide +kernel
theorem dL_grantPermit_15 : decode cL_grantPermit 15 = .ok (.astore 5, 2) := by decide +kernel
theorem dL_grantPermit_17 : decode cL_grantPermit 17 = .ok (.iconst 1, 1) := by decide +kernel
theorem dL_grantPermit_18 : decode cL_grantPermit 18 = .ok (.ireturn, 1) := by decide +kernel
theorem dL_grantPermit_19 : decode cL_grantPermit 19 = .ok (.astore 5, 2) := by decide +kernel
theorem dL_grantPermit_21 : decode cL_grantPermit 21 = .ok (.iconst 2, 1) := by decide +kernel
theorem dL_grantPermit_22 : decode cL_grantPermit 22 = .ok (.ireturn, 1) := by decide +kernel
theorem dL_grantPermit_23 : decode cL_grantPermit 23 = .ok (.astore 5, 2) := by decide +kernel
theorem dL_grantPermit_25 : decode cL_grantPermit 25 = .ok (.iconst 3, 1) := by decide +kernel
theorem dL_grantPermit_26 : decode cL_grantPermit 26 = .ok (.ireturn, 1) := by decide +kernel
theorem dL_grantPermit_27 : decode cL_grantPermit 27 = .ok (.iconst 0, 1) := by decide +kernel
theorem dL_grantPermit_28 : decode cL_grantPermit 28 = .ok (.ireturn, 1) := by decide +kernel
theorem dL_revokePermit_0 : decode cL_revokePermit 0 = .ok (.aload_n 2, 1) := by decide +kernel
theorem dL_revokePermit_1 : decode cL_revokePermit 1 = .ok (.iconst 0, 1) := by decide +kernel
theorem dL_revokePermit_2 : decode cL_revokePermit 2 = .ok (.aload_n 0, 1) := by decide +kernel
theorem dL_revokePermit_3 : decode cL_revokePermit 3 = .ok (.iload_n 1, 1) := by decide +kernel
theorem dL_revokePermit_4 : decode cL_revokePermit 4 = .ok (.invokevirtual 110, 3) := by decide +kernel
theorem dL_revokePermit_7 : decode cL_revokePermit 7 = .ok (.i2l, 1) := by decide +kernel
theorem dL_revokePermit_8 : decode cL_revokePermit 8 = .ok (.lastore, 1) := by decide +kernel
theorem dL_revokePermit_9 : decode cL_revokePermit 9 = .ok (.goto 9, 3) := by decide +kernel
theorem dL_revokePermit_12 : decode cL_revokePermit 12 = .ok (.astore_n 3, 1) := by decide +kernel
theorem dL_revokePermit_13 : decode cL_revokePermit 13 = .ok (.iconst 1, 1) := by decide +kernel
theorem dL_revokePermit_14 : decode cL_revokePermit 14 = .ok (.ireturn, 1) := by decide +kernel
theorem dL_revokePermit_15 : decode cL_revokePermit 15 = .ok (.astore_n 3, 1) := by decide +kernel
theorem dL_revokePermit_16 : decode cL_revokePermit 16 = .ok (.iconst 2, 1) := by decide +kernel
theorem dL_revokePermit_17 : decode cL_revokePermit 17 = .ok (.ireturn, 1) := by decide +kernel
theorem dL_revokePermit_18 : decode cL_revokePermit 18 = .ok (.iconst 0, 1) := by decide +kernel
theorem dL_revokePermit_19 : decode cL_revokePermit 19 = .ok (.ireturn, 1) := by decide +kernel
theorem dL_pay_0 : decode cL_pay 0 = .ok (.aload_n 3, 1) := by decide +kernel
theorem dL_pay_1 : decode cL_pay 1 = .ok (.iconst 0, 1) := by decide +kernel
theorem dL_pay_2 : decode cL_pay 2 = .ok (.aload_n 0, 1) := by decide +kernel
theorem dL_pay_3 : decode cL_pay 3 = .ok (.iload_n 1, 1) := by decide +kernel
theorem dL_pay_4 : decode cL_pay 4 = .ok (.iload_n 2, 1) := by decide +kernel
theorem dL_pay_5 : decode cL_pay 5 = .ok (.invokevirtual 113, 3) := by decide +kernel
theorem dL_pay_8 : decode cL_pay 8 = .ok (.i2l, 1) := by decide +kernel
theorem dL_pay_9 : decode cL_pay 9 = .ok (.lastore, 1) := by decide +kernel
theorem dL_pay_10 : decode cL_pay 10 = .ok (.goto 11, 3) := by decide +kernel
theorem dL_pay_13 : decode cL_pay 13 = .ok (.astore 4, 2) := by decide +kernel
theorem dL_pay_15 : decode cL_pay 15 = .ok (.iconst 1, 1) := by decide +kernel
theorem dL_pay_16 : decode cL_pay 16 = .ok (.ireturn, 1) := by decide +kernel
theorem dL_pay_17 : decode cL_pay 17 = .ok (.astore 4, 2) := by decide +kernel
theorem dL_pay_19 : decode cL_pay 19 = .ok (.iconst 2, 1) := by decide +kernel
theorem dL_pay_20 : decode cL_pay 20 = .ok (.ireturn, 1) := by decide +kernel
theorem dL_pay_21 : decode cL_pay 21 = .ok (.iconst 0, 1) := by decide +kernel
theorem dL_pay_22 : decode cL_pay 22 = .ok (.ireturn, 1) := by decide +kernel
theorem dL_advance_0 : decode cL_advance 0 = .ok (.aload_n 2, 1) := by decide +kernel
theorem dL_advance_1 : decode cL_advance 1 = .ok (.iconst 0, 1) := by decide +kernel
theorem dL_advance_2 : decode cL_advance 2 = .ok (.aload_n 0, 1) := by decide +kernel
theorem dL_advance_3 : decode cL_advance 3 = .ok (.iload_n 1, 1) := by decide +kernel
theorem dL_advance_4 : decode cL_advance 4 = .ok (.invokevirtual 116, 3) := by decide +kernel
theorem dL_advance_7 : decode cL_advance 7 = .ok (.i2l, 1) := by decide +kernel
theorem dL_advance_8 : decode cL_advance 8 = .ok (.lastore, 1) := by decide +kernel
theorem dL_advance_9 : decode cL_advance 9 = .ok (.goto 9, 3) := by decide +kernel
theorem dL_advance_12 : decode cL_advance 12 = .ok (.astore_n 3, 1) := by decide +kernel
theorem dL_advance_13 : decode cL_advance 13 = .ok (.iconst 1, 1) := by decide +kernel
theorem dL_advance_14 : decode cL_advance 14 = .ok (.ireturn, 1) := by decide +kernel
theorem dL_advance_15 : decode cL_advance 15 = .ok (.astore_n 3, 1) := by decide +kernel
theorem dL_advance_16 : decode cL_advance 16 = .ok (.iconst 2, 1) := by decide +kernel
theorem dL_advance_17 : decode cL_advance 17 = .ok (.ireturn, 1) := by decide +kernel
theorem dL_advance_18 : decode cL_advance 18 = .ok (.iconst 0, 1) := by decide +kernel
theorem dL_advance_19 : decode cL_advance 19 = .ok (.ireturn, 1) := by decide +kernel
theorem dL_restore_0 : decode cL_restore 0 = .ok (.aload_n 2, 1) := by decide +kernel
theorem dL_restore_1 : decode cL_restore 1 = .ok (.iconst 0, 1) := by decide +kernel
theorem dL_restore_2 : decode cL_restore 2 = .ok (.aload_n 0, 1) := by decide +kernel
theorem dL_restore_3 : decode cL_restore 3 = .ok (.iload_n 1, 1) := by decide +kernel
theorem dL_restore_4 : decode cL_restore 4 = .ok (.invokevirtual 119, 3) := by decide +kernel
theorem dL_restore_7 : decode cL_restore 7 = .ok (.i2l, 1) := by decide +kernel
theorem dL_restore_8 : decode cL_restore 8 = .ok (.lastore, 1) := by decide +kernel
theorem dL_restore_9 : decode cL_restore 9 = .ok (.goto 9, 3) := by decide +kernel
theorem dL_restore_12 : decode cL_restore 12 = .ok (.astore_n 3, 1) := by decide +kernel
theorem dL_restore_13 : decode cL_restore 13 = .ok (.iconst 1, 1) := by decide +kernel
theorem dL_restore_14 : decode cL_restore 14 = .ok (.ireturn, 1) := by decide +kernel
theorem dL_restore_15 : decode cL_restore 15 = .ok (.astore_n 3, 1) := by decide +kernel
theorem dL_restore_16 : decode cL_restore 16 = .ok (.iconst 2, 1) := by decide +kernel
theorem dL_restore_17 : decode cL_restore 17 = .ok (.ireturn, 1) := by decide +kernel
theorem dL_restore_18 : decode cL_restore 18 = .ok (.iconst 0, 1) := by decide +kernel
theorem dL_restore_19 : decode cL_restore 19 = .ok (.ireturn, 1) := by decide +kernel
theorem dL_undo_0 : decode cL_undo 0 = .ok (.aload_n 1, 1) := by decide +kernel
theorem dL_undo_1 : decode cL_undo 1 = .ok (.iconst 0, 1) := by decide +kernel
theorem dL_undo_2 : decode cL_undo 2 = .ok (.aload_n 0, 1) := by decide +kernel
theorem dL_undo_3 : decode cL_undo 3 = .ok (.invokevirtual 122, 3) := by decide +kernel
theorem dL_undo_6 : decode cL_undo 6 = .ok (.i2l, 1) := by decide +kernel
theorem dL_undo_7 : decode cL_undo 7 = .ok (.lastore, 1) := by decide +kernel
theorem dL_undo_8 : decode cL_undo 8 = .ok (.goto 6, 3) := by decide +kernel
theorem dL_undo_11 : decode cL_undo 11 = .ok (.astore_n 2, 1) := by decide +kernel
theorem dL_undo_12 : decode cL_undo 12 = .ok (.iconst 1, 1) := by decide +kernel
theorem dL_undo_13 : decode cL_undo 13 = .ok (.ireturn, 1) := by decide +kernel
theorem dL_undo_14 : decode cL_undo 14 = .ok (.iconst 0, 1) := by decide +kernel
theorem dL_undo_15 : decode cL_undo 15 = .ok (.ireturn, 1) := by decide +kernel
theorem dL_save_0 : decode cL_save 0 = .ok (.aload_n 2, 1) := by decide +kernel
theorem dL_save_1 : decode cL_save 1 = .ok (.iconst 0, 1) := by decide +kernel
theorem dL_save_2 : decode cL_save 2 = .ok (.aload_n 0, 1) := by decide +kernel
theorem dL_save_3 : decode cL_save 3 = .ok (.iload_n 1, 1) := by decide +kernel
theorem dL_save_4 : decode cL_save 4 = .ok (.invokevirtual 126, 3) := by decide +kernel
theorem dL_save_7 : decode cL_save 7 = .ok (.i2l, 1) := by decide +kernel
theorem dL_save_8 : decode cL_save 8 = .ok (.lastore, 1) := by decide +kernel
theorem dL_save_9 : decode cL_save 9 = .ok (.goto 6, 3) := by decide +kernel
theorem dL_save_12 : decode cL_save 12 = .ok (.astore_n 3, 1) := by decide +kernel
theorem dL_save_13 : decode cL_save 13 = .ok (.iconst 1, 1) := by decide +kernel
theorem dL_save_14 : decode cL_save 14 = .ok (.ireturn, 1) := by decide +kernel
theorem dL_save_15 : decode cL_save 15 = .ok (.iconst 0, 1) := by decide +kernel
theorem dL_save_16 : decode cL_save 16 = .ok (.ireturn, 1) := by decide +kernel
theorem dL_writeBorrower_0 : decode cL_writeBorrower 0 = .ok (.aload_n 2, 1) := by decide +kernel
theorem dL_writeBorrower_1 : decode cL_writeBorrower 1 = .ok (.iconst 0, 1) := by decide +kernel
theorem dL_writeBorrower_2 : decode cL_writeBorrower 2 = .ok (.aload_n 0, 1) := by decide +kernel
theorem dL_writeBorrower_3 : decode cL_writeBorrower 3 = .ok (.iload_n 1, 1) := by decide +kernel
theorem dL_writeBorrower_4 : decode cL_writeBorrower 4 = .ok (.invokevirtual 129, 3) := by decide +kernel
theorem dL_writeBorrower_7 : decode cL_writeBorrower 7 = .ok (.i2l, 1) := by decide +kernel
theorem dL_writeBorrower_8 : decode cL_writeBorrower 8 = .ok (.lastore, 1) := by decide +kernel
theorem dL_writeBorrower_9 : decode cL_writeBorrower 9 = .ok (.goto 6, 3) := by decide +kernel
theorem dL_writeBorrower_12 : decode cL_writeBorrower 12 = .ok (.astore_n 3, 1) := by decide +kernel
theorem dL_writeBorrower_13 : decode cL_writeBorrower 13 = .ok (.iconst 1, 1) := by decide +kernel
theorem dL_writeBorrower_14 : decode cL_writeBorrower 14 = .ok (.ireturn, 1) := by decide +kernel
theorem dL_writeBorrower_15 : decode cL_writeBorrower 15 = .ok (.iconst 0, 1) := by decide +kernel
theorem dL_writeBorrower_16 : decode cL_writeBorrower 16 = .ok (.ireturn, 1) := by decide +kernel
theorem dL_outputByte_0 : decode cL_outputByte 0 = .ok (.aload_n 2, 1) := by decide +kernel
theorem dL_outputByte_1 : decode cL_outputByte 1 = .ok (.iconst 0, 1) := by decide +kernel
theorem dL_outputByte_2 : decode cL_outputByte 2 = .ok (.aload_n 0, 1) := by decide +kernel
theorem dL_outputByte_3 : decode cL_outputByte 3 = .ok (.iload_n 1, 1) := by decide +kernel
theorem dL_outputByte_4 : decode cL_outputByte 4 = .ok (.invokevirtual 132, 3) := by decide +kernel
theorem dL_outputByte_7 : decode cL_outputByte 7 = .ok (.i2l, 1) := by decide +kernel
theorem dL_outputByte_8 : decode cL_outputByte 8 = .ok (.lastore, 1) := by decide +kernel
theorem dL_outputByte_9 : decode cL_outputByte 9 = .ok (.goto 6, 3) := by decide +kernel
theorem dL_outputByte_12 : decode cL_outputByte 12 = .ok (.astore_n 3, 1) := by decide +kernel
theorem dL_outputByte_13 : decode cL_outputByte 13 = .ok (.iconst 1, 1) := by decide +kernel
theorem dL_outputByte_14 : decode cL_outputByte 14 = .ok (.ireturn, 1) := by decide +kernel
theorem dL_outputByte_15 : decode cL_outputByte 15 = .ok (.iconst 0, 1) := by decide +kernel
theorem dL_outputByte_16 : decode cL_outputByte 16 = .ok (.ireturn, 1) := by decide +kernel
