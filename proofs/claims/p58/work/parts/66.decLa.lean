theorem dL_next_0 : decode cL_next 0 = .ok (.aload_n 0, 1) := by decide +kernel
theorem dL_next_1 : decode cL_next 1 = .ok (.iconst 0, 1) := by decide +kernel
theorem dL_next_2 : decode cL_next 2 = .ok (.aload_n 0, 1) := by decide +kernel
theorem dL_next_3 : decode cL_next 3 = .ok (.iconst 0, 1) := by decide +kernel
theorem dL_next_4 : decode cL_next 4 = .ok (.iaload, 1) := by decide +kernel
theorem dL_next_5 : decode cL_next 5 = .ok (.ldc 7, 2) := by decide +kernel
theorem dL_next_7 : decode cL_next 7 = .ok (.imul, 1) := by decide +kernel
theorem dL_next_8 : decode cL_next 8 = .ok (.sipush 12345, 3) := by decide +kernel
theorem dL_next_11 : decode cL_next 11 = .ok (.iadd, 1) := by decide +kernel
theorem dL_next_12 : decode cL_next 12 = .ok (.iastore, 1) := by decide +kernel
theorem dL_next_13 : decode cL_next 13 = .ok (.aload_n 0, 1) := by decide +kernel
theorem dL_next_14 : decode cL_next 14 = .ok (.iconst 0, 1) := by decide +kernel
theorem dL_next_15 : decode cL_next 15 = .ok (.dup2, 1) := by decide +kernel
theorem dL_next_16 : decode cL_next 16 = .ok (.iaload, 1) := by decide +kernel
theorem dL_next_17 : decode cL_next 17 = .ok (.aload_n 0, 1) := by decide +kernel
theorem dL_next_18 : decode cL_next 18 = .ok (.iconst 0, 1) := by decide +kernel
theorem dL_next_19 : decode cL_next 19 = .ok (.iaload, 1) := by decide +kernel
theorem dL_next_20 : decode cL_next 20 = .ok (.bipush 15, 2) := by decide +kernel
theorem dL_next_22 : decode cL_next 22 = .ok (.iushr, 1) := by decide +kernel
theorem dL_next_23 : decode cL_next 23 = .ok (.ixor, 1) := by decide +kernel
theorem dL_next_24 : decode cL_next 24 = .ok (.iastore, 1) := by decide +kernel
theorem dL_next_25 : decode cL_next 25 = .ok (.aload_n 0, 1) := by decide +kernel
theorem dL_next_26 : decode cL_next 26 = .ok (.iconst 0, 1) := by decide +kernel
theorem dL_next_27 : decode cL_next 27 = .ok (.iaload, 1) := by decide +kernel
theorem dL_next_28 : decode cL_next 28 = .ok (.bipush 9, 2) := by decide +kernel
theorem dL_next_30 : decode cL_next 30 = .ok (.iushr, 1) := by decide +kernel
theorem dL_next_31 : decode cL_next 31 = .ok (.ireturn, 1) := by decide +kernel
theorem dL_type_0 : decode cL_type 0 = .ok (.iconst 0, 1) := by decide +kernel
theorem dL_type_1 : decode cL_type 1 = .ok (.istore_n 2, 1) := by decide +kernel
theorem dL_type_2 : decode cL_type 2 = .ok (.iconst 5, 1) := by decide +kernel
theorem dL_type_3 : decode cL_type 3 = .ok (.newarray .int, 2) := by decide +kernel
theorem dL_type_5 : decode cL_type 5 = .ok (.astore_n 3, 1) := by decide +kernel
theorem dL_type_6 : decode cL_type 6 = .ok (.iconst 0, 1) := by decide +kernel
theorem dL_type_7 : decode cL_type 7 = .ok (.istore 4, 2) := by decide +kernel
theorem dL_type_9 : decode cL_type 9 = .ok (.iload 4, 2) := by decide +kernel
theorem dL_type_11 : decode cL_type 11 = .ok (.aload_n 1, 1) := by decide +kernel
theorem dL_type_12 : decode cL_type 12 = .ok (.invokevirtual 8, 3) := by decide +kernel
theorem dL_type_15 : decode cL_type 15 = .ok (.if_icmp .ge 87, 3) := by decide +kernel
theorem dL_type_18 : decode cL_type 18 = .ok (.iconst 0, 1) := by decide +kernel
theorem dL_type_19 : decode cL_type 19 = .ok (.istore 5, 2) := by decide +kernel
theorem dL_type_21 : decode cL_type 21 = .ok (.iload 5, 2) := by decide +kernel
theorem dL_type_23 : decode cL_type 23 = .ok (.bipush 20, 2) := by decide +kernel
theorem dL_type_25 : decode cL_type 25 = .ok (.if_icmp .ge 51, 3) := by decide +kernel
theorem dL_type_28 : decode cL_type 28 = .ok (.aload_n 3, 1) := by decide +kernel
theorem dL_type_29 : decode cL_type 29 = .ok (.iload 5, 2) := by decide +kernel
theorem dL_type_31 : decode cL_type 31 = .ok (.iconst 4, 1) := by decide +kernel
theorem dL_type_32 : decode cL_type 32 = .ok (.idiv, 1) := by decide +kernel
theorem dL_type_33 : decode cL_type 33 = .ok (.aload_n 3, 1) := by decide +kernel
theorem dL_type_34 : decode cL_type 34 = .ok (.iload 5, 2) := by decide +kernel
theorem dL_type_36 : decode cL_type 36 = .ok (.iconst 4, 1) := by decide +kernel
theorem dL_type_37 : decode cL_type 37 = .ok (.idiv, 1) := by decide +kernel
theorem dL_type_38 : decode cL_type 38 = .ok (.iaload, 1) := by decide +kernel
theorem dL_type_39 : decode cL_type 39 = .ok (.bipush 8, 2) := by decide +kernel
theorem dL_type_41 : decode cL_type 41 = .ok (.ishl, 1) := by decide +kernel
theorem dL_type_42 : decode cL_type 42 = .ok (.iload 4, 2) := by decide +kernel
theorem dL_type_44 : decode cL_type 44 = .ok (.iload 5, 2) := by decide +kernel
theorem dL_type_46 : decode cL_type 46 = .ok (.iadd, 1) := by decide +kernel
theorem dL_type_47 : decode cL_type 47 = .ok (.aload_n 1, 1) := by decide +kernel
theorem dL_type_48 : decode cL_type 48 = .ok (.invokevirtual 8, 3) := by decide +kernel
theorem dL_type_51 : decode cL_type 51 = .ok (.if_icmp .ge 15, 3) := by decide +kernel
theorem dL_type_54 : decode cL_type 54 = .ok (.aload_n 1, 1) := by decide +kernel
theorem dL_type_55 : decode cL_type 55 = .ok (.iload 4, 2) := by decide +kernel
theorem dL_type_57 : decode cL_type 57 = .ok (.iload 5, 2) := by decide +kernel
theorem dL_type_59 : decode cL_type 59 = .ok (.iadd, 1) := by decide +kernel
theorem dL_type_60 : decode cL_type 60 = .ok (.invokevirtual 14, 3) := by decide +kernel
theorem dL_type_63 : decode cL_type 63 = .ok (.goto 5, 3) := by decide +kernel
theorem dL_type_66 : decode cL_type 66 = .ok (.bipush 32, 2) := by decide +kernel
theorem dL_type_68 : decode cL_type 68 = .ok (.ior, 1) := by decide +kernel
theorem dL_type_69 : decode cL_type 69 = .ok (.iastore, 1) := by decide +kernel
theorem dL_type_70 : decode cL_type 70 = .ok (.iinc 5 1, 3) := by decide +kernel
theorem dL_type_73 : decode cL_type 73 = .ok (.goto (-52), 3) := by decide +kernel
theorem dL_type_76 : decode cL_type 76 = .ok (.aload_n 0, 1) := by decide +kernel
theorem dL_type_77 : decode cL_type 77 = .ok (.aload_n 3, 1) := by decide +kernel
theorem dL_type_78 : decode cL_type 78 = .ok (.iconst 0, 1) := by decide +kernel
theorem dL_type_79 : decode cL_type 79 = .ok (.iaload, 1) := by decide +kernel
theorem dL_type_80 : decode cL_type 80 = .ok (.aload_n 3, 1) := by decide +kernel
theorem dL_type_81 : decode cL_type 81 = .ok (.iconst 1, 1) := by decide +kernel
theorem dL_type_82 : decode cL_type 82 = .ok (.iaload, 1) := by decide +kernel
theorem dL_type_83 : decode cL_type 83 = .ok (.aload_n 3, 1) := by decide +kernel
theorem dL_type_84 : decode cL_type 84 = .ok (.iconst 2, 1) := by decide +kernel
theorem dL_type_85 : decode cL_type 85 = .ok (.iaload, 1) := by decide +kernel
theorem dL_type_86 : decode cL_type 86 = .ok (.aload_n 3, 1) := by decide +kernel
theorem dL_type_87 : decode cL_type 87 = .ok (.iconst 3, 1) := by decide +kernel
theorem dL_type_88 : decode cL_type 88 = .ok (.iaload, 1) := by decide +kernel
theorem dL_type_89 : decode cL_type 89 = .ok (.aload_n 3, 1) := by decide +kernel
theorem dL_type_90 : decode cL_type 90 = .ok (.iconst 4, 1) := by decide +kernel
theorem dL_type_91 : decode cL_type 91 = .ok (.iaload, 1) := by decide +kernel
theorem dL_type_92 : decode cL_type 92 = .ok (.invokevirtual 18, 3) := by decide +kernel
theorem dL_type_95 : decode cL_type 95 = .ok (.istore_n 2, 1) := by decide +kernel
theorem dL_type_96 : decode cL_type 96 = .ok (.iinc 4 20, 3) := by decide +kernel
theorem dL_type_99 : decode cL_type 99 = .ok (.goto (-90), 3) := by decide +kernel
theorem dL_type_102 : decode cL_type 102 = .ok (.aload_n 1, 1) := by decide +kernel
theorem dL_type_103 : decode cL_type 103 = .ok (.invokevirtual 8, 3) := by decide +kernel
theorem dL_type_106 : decode cL_type 106 = .ok (.ireturn, 1) := by decide +kernel
theorem dL_load_0 : decode cL_load 0 = .ok (.aload_n 0, 1) := by decide +kernel
theorem dL_load_1 : decode cL_load 1 = .ok (.aload_n 1, 1) := by decide +kernel
theorem dL_load_2 : decode cL_load 2 = .ok (.invokestatic 24, 3) := by decide +kernel
theorem dL_load_5 : decode cL_load 5 = .ok (.istore_n 2, 1) := by decide +kernel
theorem dL_load_6 : decode cL_load 6 = .ok (.aload_n 0, 1) := by decide +kernel
theorem dL_load_7 : decode cL_load 7 = .ok (.iload_n 2, 1) := by decide +kernel
theorem dL_load_8 : decode cL_load 8 = .ok (.invokevirtual 30, 3) := by decide +kernel
theorem dL_load_11 : decode cL_load 11 = .ok (.ireturn, 1) := by decide +kernel
theorem dL_load_12 : decode cL_load 12 = .ok (.astore_n 3, 1) := by decide +kernel
theorem dL_load_13 : decode cL_load 13 = .ok (.bipush (-2), 2) := by decide +kernel
theorem dL_load_15 : decode cL_load 15 = .ok (.ireturn, 1) := by decide +kernel
theorem dL_load_16 : decode cL_load 16 = .ok (.astore_n 3, 1) := by decide +kernel
theorem dL_load_17 : decode cL_load 17 = .ok (.iconst (-1), 1) := by decide +kernel
theorem dL_load_18 : decode cL_load 18 = .ok (.ireturn, 1) := by decide +kernel
theorem dL_undone_0 : decode cL_undone 0 = .ok (.aload_n 0, 1) := by decide +kernel
theorem dL_undone_1 : decode cL_undone 1 = .ok (.invokevirtual 38, 3) := by decide +kernel
theorem dL_undone_4 : decode cL_undone 4 = .ok (.ireturn, 1) := by decide +kernel
theorem dL_undone_5 : decode cL_undone 5 = .ok (.astore_n 1, 1) := by decide +kernel
theorem dL_undone_6 : decode cL_undone 6 = .ok (.iconst (-1), 1) := by decide +kernel
theorem dL_undone_7 : decode cL_undone 7 = .ok (.ireturn, 1) := by decide +kernel
theorem dL_lent_0 : decode cL_lent 0 = .ok (.aload_n 0, 1) := by decide +kernel
theorem dL_lent_1 : decode cL_lent 1 = .ok (.iload_n 1, 1) := by decide +kernel
theorem dL_lent_2 : decode cL_lent 2 = .ok (.iload_n 2, 1) := by decide +kernel
theorem dL_lent_3 : decode cL_lent 3 = .ok (.iload_n 3, 1) := by decide +kernel
theorem dL_lent_4 : decode cL_lent 4 = .ok (.invokevirtual 43, 3) := by decide +kernel
theorem dL_lent_7 : decode cL_lent 7 = .ok (.ireturn, 1) := by decide +kernel
theorem dL_lent_8 : decode cL_lent 8 = .ok (.astore 4, 2) := by decide +kernel
theorem dL_lent_10 : decode cL_lent 10 = .ok (.bipush (-5), 2) := by decide +kernel
theorem dL_lent_12 : decode cL_lent 12 = .ok (.ireturn, 1) := by decide +kernel
theorem dL_lent_13 : decode cL_lent 13 = .ok (.astore 4, 2) := by decide +kernel
theorem dL_lent_15 : decode cL_lent 15 = .ok (.bipush (-2), 2) := by decide +kernel
theorem dL_lent_17 : decode cL_lent 17 = .ok (.ireturn, 1) := by decide +kernel
theorem dL_lent_18 : decode cL_lent 18 = .ok (.astore 4, 2) := by decide +kernel
theorem dL_lent_20 : decode cL_lent 20 = .ok (.bipush (-3), 2) := by decide +kernel
theorem dL_lent_22 : decode cL_lent 22 = .ok (.ireturn, 1) := by decide +kernel
theorem dL_cancelled_0 : decode cL_cancelled 0 = .ok (.aload_n 0, 1) := by decide +kernel
theorem dL_cancelled_1 : decode cL_cancelled 1 = .ok (.iload_n 1, 1) := by decide +kernel
theorem dL_cancelled_2 : decode cL_cancelled 2 = .ok (.invokevirtual 47, 3) := by decide +kernel
theorem dL_cancelled_5 : decode cL_cancelled 5 = .ok (.ireturn, 1) := by decide +kernel
theorem dL_cancelled_6 : decode cL_cancelled 6 = .ok (.astore_n 2, 1) := by decide +kernel
theorem dL_cancelled_7 : decode cL_cancelled 7 = .ok (.ldc 50, 2) := by decide +kernel
theorem dL_cancelled_9 : decode cL_cancelled 9 = .ok (.ireturn, 1) := by decide +kernel
theorem dL_cancelled_10 : decode cL_cancelled 10 = .ok (.astore_n 2, 1) := by decide +kernel
theorem dL_cancelled_11 : decode cL_cancelled 11 = .ok (.ldc 51, 2) := by decide +kernel
theorem dL_cancelled_13 : decode cL_cancelled 13 = .ok (.ireturn, 1) := by decide +kernel
theorem dL_whistled_0 : decode cL_whistled 0 = .ok (.aload_n 0, 1) := by decide +kernel
theorem dL_whistled_1 : decode cL_whistled 1 = .ok (.iload_n 1, 1) := by decide +kernel
theorem dL_whistled_2 : decode cL_whistled 2 = .ok (.invokevirtual 52, 3) := by decide +kernel
theorem dL_whistled_5 : decode cL_whistled 5 = .ok (.ireturn, 1) := by decide +kernel
theorem dL_whistled_6 : decode cL_whistled 6 = .ok (.astore_n 2, 1) := by decide +kernel
theorem dL_whistled_7 : decode cL_whistled 7 = .ok (.bipush (-5), 2) := by decide +kernel
theorem dL_whistled_9 : decode cL_whistled 9 = .ok (.ireturn, 1) := by decide +kernel
theorem dL_whistled_10 : decode cL_whistled 10 = .ok (.astore_n 2, 1) := by decide +kernel
theorem dL_whistled_11 : decode cL_whistled 11 = .ok (.bipush (-3), 2) := by decide +kernel
theorem dL_whistled_13 : decode cL_whistled 13 = .ok (.ireturn, 1) := by decide +kernel
theorem dL_permitted_0 : decode cL_permitted 0 = .ok (.aload_n 0, 1) := by decide +kernel
theorem dL_permitted_1 : decode cL_permitted 1 = .ok (.iload_n 1, 1) := by decide +kernel
theorem dL_permitted_2 : decode cL_permitted 2 = .ok (.iload_n 2, 1) := by decide +kernel
theorem dL_permitted_3 : decode cL_permitted 3 = .ok (.iload_n 3, 1) := by decide +kernel
theorem dL_permitted_4 : decode cL_permitted 4 = .ok (.invokevirtual 55, 3) := by decide +kernel
theorem dL_permitted_7 : decode cL_permitted 7 = .ok (.ireturn, 1) := by decide +kernel
theorem dL_permitted_8 : decode cL_permitted 8 = .ok (.astore 4, 2) := by decide +kernel
theorem dL_permitted_10 : decode cL_permitted 10 = .ok (.bipush (-5), 2) := by decide +kernel
theorem dL_permitted_12 : decode cL_permitted 12 = .ok (.ireturn, 1) := by decide +kernel
theorem dL_permitted_13 : decode cL_permitted 13 = .ok (.astore 4, 2) := by decide +kernel
theorem dL_permitted_15 : decode cL_permitted 15 = .ok (.bipush (-2), 2) := by decide +kernel
theorem dL_permitted_17 : decode cL_permitted 17 = .ok (.ireturn, 1) := by decide +kernel
theorem dL_permitted_18 : decode cL_permitted 18 = .ok (.astore 4, 2) := by decide +kernel
theorem dL_permitted_20 : decode cL_permitted 20 = .ok (.bipush (-3), 2) := by decide +kernel
theorem dL_permitted_22 : decode cL_permitted 22 = .ok (.ireturn, 1) := by decide +kernel
theorem dL_revoked_0 : decode cL_revoked 0 = .ok (.aload_n 0, 1) := by decide +kernel
theorem dL_revoked_1 : decode cL_revoked 1 = .ok (.iload_n 1, 1) := by decide +kernel
theorem dL_revoked_2 : decode cL_revoked 2 = .ok (.invokevirtual 58, 3) := by decide +kernel
theorem dL_revoked_5 : decode cL_revoked 5 = .ok (.ireturn, 1) := by decide +kernel
theorem dL_revoked_6 : decode cL_revoked 6 = .ok (.astore_n 2, 1) := by decide +kernel
theorem dL_revoked_7 : decode cL_revoked 7 = .ok (.bipush (-5), 2) := by decide +kernel
theorem dL_revoked_9 : decode cL_revoked 9 = .ok (.ireturn, 1) := by decide +kernel
theorem dL_revoked_10 : decode cL_revoked 10 = .ok (.astore_n 2, 1) := by decide +kernel
theorem dL_revoked_11 : decode cL_revoked 11 = .ok (.bipush (-3), 2) := by decide +kernel
theorem dL_revoked_13 : decode cL_revoked 13 = .ok (.ireturn, 1) := by decide +kernel
theorem dL_paid_0 : decode cL_paid 0 = .ok (.aload_n 0, 1) := by decide +kernel
theorem dL_paid_1 : decode cL_paid 1 = .ok (.iload_n 1, 1) := by decide +kernel
theorem dL_paid_2 : decode cL_paid 2 = .ok (.iload_n 2, 1) := by decide +kernel
theorem dL_paid_3 : decode cL_paid 3 = .ok (.invokevirtual 61, 3) := by decide +kernel
theorem dL_paid_6 : decode cL_paid 6 = .ok (.ireturn, 1) := by decide +kernel
theorem dL_paid_7 : decode cL_paid 7 = .ok (.astore_n 3, 1) := by decide +kernel
theorem dL_paid_8 : decode cL_paid 8 = .ok (.ldc 50, 2) := by decide +kernel
theorem dL_paid_10 : decode cL_paid 10 = .ok (.ireturn, 1) := by decide +kernel
theorem dL_paid_11 : decode cL_paid 11 = .ok (.astore_n 3, 1) := by decide +kernel
theorem dL_paid_12 : decode cL_paid 12 = .ok (.ldc 65, 2) := by decide +kernel
theorem dL_paid_14 : decode cL_paid 14 = .ok (.ireturn, 1) := by decide +kernel
theorem dL_advanced_0 : decode cL_advanced 0 = .ok (.aload_n 0, 1) := by decide +kernel
theorem dL_advanced_1 : decode cL_advanced 1 = .ok (.iload_n 1, 1) := by decide +kernel
theorem dL_advanced_2 : decode cL_advanced 2 = .ok (.invokevirtual 66, 3) := by decide +kernel
theorem dL_advanced_5 : decode cL_advanced 5 = .ok (.ireturn, 1) := by decide +kernel
theorem dL_advanced_6 : decode cL_advanced 6 = .ok (.astore_n 2, 1) := by decide +kernel
theorem dL_advanced_7 : decode cL_advanced 7 = .ok (.bipush (-2), 2) := by decide +kernel
theorem dL_advanced_9 : decode cL_advanced 9 = .ok (.ireturn, 1) := by decide +kernel
theorem dL_advanced_10 : decode cL_advanced 10 = .ok (.astore_n 2, 1) := by decide +kernel
theorem dL_advanced_11 : decode cL_advanced 11 = .ok (.bipush (-3), 2) := by decide +kernel
theorem dL_advanced_13 : decode cL_advanced 13 = .ok (.ireturn, 1) := by decide +kernel
theorem dL_refused_0 : decode cL_refused 0 = .ok (.aload_n 0, 1) := by decide +kernel
theorem dL_refused_1 : decode cL_refused 1 = .ok (.iload_n 1, 1) := by decide +kernel
theorem dL_refused_2 : decode cL_refused 2 = .ok (.iload_n 2, 1) := by decide +kernel
theorem dL_refused_3 : decode cL_refused 3 = .ok (.iload_n 3, 1) := by decide +kernel
theorem dL_refused_4 : decode cL_refused 4 = .ok (.invokevirtual 69, 3) := by decide +kernel
