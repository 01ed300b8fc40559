theorem dX0_init_0 : decode cX0_init 0 = .ok (.aload_n 0, 1) := by decide +kernel
theorem dX0_init_1 : decode cX0_init 1 = .ok (.invokespecial 3, 3) := by decide +kernel
theorem dX0_init_4 : decode cX0_init 4 = .ok (.return_, 1) := by decide +kernel
theorem dX0_copyFrom_0 : decode cX0_copyFrom 0 = .ok (.aload_n 0, 1) := by decide +kernel
theorem dX0_copyFrom_1 : decode cX0_copyFrom 1 = .ok (.aload_n 1, 1) := by decide +kernel
theorem dX0_copyFrom_2 : decode cX0_copyFrom 2 = .ok (.getfield 9, 3) := by decide +kernel
theorem dX0_copyFrom_5 : decode cX0_copyFrom 5 = .ok (.putfield 9, 3) := by decide +kernel
theorem dX0_copyFrom_8 : decode cX0_copyFrom 8 = .ok (.aload_n 0, 1) := by decide +kernel
theorem dX0_copyFrom_9 : decode cX0_copyFrom 9 = .ok (.aload_n 1, 1) := by decide +kernel
theorem dX0_copyFrom_10 : decode cX0_copyFrom 10 = .ok (.getfield 15, 3) := by decide +kernel
theorem dX0_copyFrom_13 : decode cX0_copyFrom 13 = .ok (.putfield 15, 3) := by decide +kernel
theorem dX0_copyFrom_16 : decode cX0_copyFrom 16 = .ok (.aload_n 0, 1) := by decide +kernel
theorem dX0_copyFrom_17 : decode cX0_copyFrom 17 = .ok (.aload_n 1, 1) := by decide +kernel
theorem dX0_copyFrom_18 : decode cX0_copyFrom 18 = .ok (.getfield 18, 3) := by decide +kernel
theorem dX0_copyFrom_21 : decode cX0_copyFrom 21 = .ok (.putfield 18, 3) := by decide +kernel
theorem dX0_copyFrom_24 : decode cX0_copyFrom 24 = .ok (.aload_n 0, 1) := by decide +kernel
theorem dX0_copyFrom_25 : decode cX0_copyFrom 25 = .ok (.aload_n 1, 1) := by decide +kernel
theorem dX0_copyFrom_26 : decode cX0_copyFrom 26 = .ok (.getfield 21, 3) := by decide +kernel
theorem dX0_copyFrom_29 : decode cX0_copyFrom 29 = .ok (.putfield 21, 3) := by decide +kernel
theorem dX0_copyFrom_32 : decode cX0_copyFrom 32 = .ok (.aload_n 0, 1) := by decide +kernel
theorem dX0_copyFrom_33 : decode cX0_copyFrom 33 = .ok (.aload_n 1, 1) := by decide +kernel
theorem dX0_copyFrom_34 : decode cX0_copyFrom 34 = .ok (.getfield 24, 3) := by decide +kernel
theorem dX0_copyFrom_37 : decode cX0_copyFrom 37 = .ok (.putfield 24, 3) := by decide +kernel
theorem dX0_copyFrom_40 : decode cX0_copyFrom 40 = .ok (.aload_n 0, 1) := by decide +kernel
theorem dX0_copyFrom_41 : decode cX0_copyFrom 41 = .ok (.aload_n 1, 1) := by decide +kernel
theorem dX0_copyFrom_42 : decode cX0_copyFrom 42 = .ok (.getfield 27, 3) := by decide +kernel
theorem dX0_copyFrom_45 : decode cX0_copyFrom 45 = .ok (.putfield 27, 3) := by decide +kernel
theorem dX0_copyFrom_48 : decode cX0_copyFrom 48 = .ok (.return_, 1) := by decide +kernel
theorem dX0_hear_0 : decode cX0_hear 0 = .ok (.iload_n 1, 1) := by decide +kernel
theorem dX0_hear_1 : decode cX0_hear 1 = .ok (.ifCond .ne 41, 3) := by decide +kernel
theorem dX0_hear_4 : decode cX0_hear 4 = .ok (.aload_n 0, 1) := by decide +kernel
theorem dX0_hear_5 : decode cX0_hear 5 = .ok (.dup, 1) := by decide +kernel
theorem dX0_hear_6 : decode cX0_hear 6 = .ok (.getfield 24, 3) := by decide +kernel
theorem dX0_hear_9 : decode cX0_hear 9 = .ok (.iconst 1, 1) := by decide +kernel
theorem dX0_hear_10 : decode cX0_hear 10 = .ok (.iadd, 1) := by decide +kernel
theorem dX0_hear_11 : decode cX0_hear 11 = .ok (.putfield 24, 3) := by decide +kernel
theorem dX0_hear_14 : decode cX0_hear 14 = .ok (.aload_n 0, 1) := by decide +kernel
theorem dX0_hear_15 : decode cX0_hear 15 = .ok (.getfield 24, 3) := by decide +kernel
theorem dX0_hear_18 : decode cX0_hear 18 = .ok (.bipush 6, 2) := by decide +kernel
theorem dX0_hear_20 : decode cX0_hear 20 = .ok (.if_icmp .ne 22, 3) := by decide +kernel
theorem dX0_hear_23 : decode cX0_hear 23 = .ok (.aload_n 0, 1) := by decide +kernel
theorem dX0_hear_24 : decode cX0_hear 24 = .ok (.iconst 0, 1) := by decide +kernel
theorem dX0_hear_25 : decode cX0_hear 25 = .ok (.putfield 24, 3) := by decide +kernel
theorem dX0_hear_28 : decode cX0_hear 28 = .ok (.aload_n 0, 1) := by decide +kernel
theorem dX0_hear_29 : decode cX0_hear 29 = .ok (.aload_n 0, 1) := by decide +kernel
theorem dX0_hear_30 : decode cX0_hear 30 = .ok (.getfield 18, 3) := by decide +kernel
theorem dX0_hear_33 : decode cX0_hear 33 = .ok (.iconst 1, 1) := by decide +kernel
theorem dX0_hear_34 : decode cX0_hear 34 = .ok (.isub, 1) := by decide +kernel
theorem dX0_hear_35 : decode cX0_hear 35 = .ok (.iconst 0, 1) := by decide +kernel
theorem dX0_hear_36 : decode cX0_hear 36 = .ok (.invokestatic 30, 3) := by decide +kernel
theorem dX0_hear_39 : decode cX0_hear 39 = .ok (.putfield 18, 3) := by decide +kernel
theorem dX0_hear_42 : decode cX0_hear 42 = .ok (.iload_n 1, 1) := by decide +kernel
theorem dX0_hear_43 : decode cX0_hear 43 = .ok (.bipush 80, 2) := by decide +kernel
theorem dX0_hear_45 : decode cX0_hear 45 = .ok (.if_icmp .lt 42, 3) := by decide +kernel
theorem dX0_hear_48 : decode cX0_hear 48 = .ok (.aload_n 0, 1) := by decide +kernel
theorem dX0_hear_49 : decode cX0_hear 49 = .ok (.dup, 1) := by decide +kernel
theorem dX0_hear_50 : decode cX0_hear 50 = .ok (.getfield 27, 3) := by decide +kernel
theorem dX0_hear_53 : decode cX0_hear 53 = .ok (.iconst 1, 1) := by decide +kernel
theorem dX0_hear_54 : decode cX0_hear 54 = .ok (.iadd, 1) := by decide +kernel
theorem dX0_hear_55 : decode cX0_hear 55 = .ok (.putfield 27, 3) := by decide +kernel
theorem dX0_hear_58 : decode cX0_hear 58 = .ok (.aload_n 0, 1) := by decide +kernel
theorem dX0_hear_59 : decode cX0_hear 59 = .ok (.getfield 27, 3) := by decide +kernel
theorem dX0_hear_62 : decode cX0_hear 62 = .ok (.bipush 12, 2) := by decide +kernel
theorem dX0_hear_64 : decode cX0_hear 64 = .ok (.if_icmp .ne 23, 3) := by decide +kernel
theorem dX0_hear_67 : decode cX0_hear 67 = .ok (.aload_n 0, 1) := by decide +kernel
theorem dX0_hear_68 : decode cX0_hear 68 = .ok (.iconst 0, 1) := by decide +kernel
theorem dX0_hear_69 : decode cX0_hear 69 = .ok (.putfield 27, 3) := by decide +kernel
theorem dX0_hear_72 : decode cX0_hear 72 = .ok (.aload_n 0, 1) := by decide +kernel
theorem dX0_hear_73 : decode cX0_hear 73 = .ok (.aload_n 0, 1) := by decide +kernel
theorem dX0_hear_74 : decode cX0_hear 74 = .ok (.getfield 18, 3) := by decide +kernel
theorem dX0_hear_77 : decode cX0_hear 77 = .ok (.iconst 1, 1) := by decide +kernel
theorem dX0_hear_78 : decode cX0_hear 78 = .ok (.iadd, 1) := by decide +kernel
theorem dX0_hear_79 : decode cX0_hear 79 = .ok (.bipush 9, 2) := by decide +kernel
theorem dX0_hear_81 : decode cX0_hear 81 = .ok (.invokestatic 36, 3) := by decide +kernel
theorem dX0_hear_84 : decode cX0_hear 84 = .ok (.putfield 18, 3) := by decide +kernel
theorem dX0_hear_87 : decode cX0_hear 87 = .ok (.return_, 1) := by decide +kernel
theorem dX1_init_0 : decode cX1_init 0 = .ok (.aload_n 0, 1) := by decide +kernel
theorem dX1_init_1 : decode cX1_init 1 = .ok (.invokespecial 1, 3) := by decide +kernel
theorem dX1_init_4 : decode cX1_init 4 = .ok (.aload_n 0, 1) := by decide +kernel
theorem dX1_init_5 : decode cX1_init 5 = .ok (.bipush 10, 2) := by decide +kernel
theorem dX1_init_7 : decode cX1_init 7 = .ok (.anewarray 9, 3) := by decide +kernel
theorem dX1_init_10 : decode cX1_init 10 = .ok (.putfield 11, 3) := by decide +kernel
theorem dX1_init_13 : decode cX1_init 13 = .ok (.aload_n 0, 1) := by decide +kernel
theorem dX1_init_14 : decode cX1_init 14 = .ok (.iconst 0, 1) := by decide +kernel
theorem dX1_init_15 : decode cX1_init 15 = .ok (.putfield 15, 3) := by decide +kernel
theorem dX1_init_18 : decode cX1_init 18 = .ok (.aload_n 0, 1) := by decide +kernel
theorem dX1_init_19 : decode cX1_init 19 = .ok (.iconst 0, 1) := by decide +kernel
theorem dX1_init_20 : decode cX1_init 20 = .ok (.putfield 19, 3) := by decide +kernel
theorem dX1_init_23 : decode cX1_init 23 = .ok (.iconst 0, 1) := by decide +kernel
theorem dX1_init_24 : decode cX1_init 24 = .ok (.istore_n 1, 1) := by decide +kernel
theorem dX1_init_25 : decode cX1_init 25 = .ok (.iload_n 1, 1) := by decide +kernel
theorem dX1_init_26 : decode cX1_init 26 = .ok (.bipush 10, 2) := by decide +kernel
theorem dX1_init_28 : decode cX1_init 28 = .ok (.if_icmp .ge 22, 3) := by decide +kernel
theorem dX1_init_31 : decode cX1_init 31 = .ok (.aload_n 0, 1) := by decide +kernel
theorem dX1_init_32 : decode cX1_init 32 = .ok (.getfield 11, 3) := by decide +kernel
theorem dX1_init_35 : decode cX1_init 35 = .ok (.iload_n 1, 1) := by decide +kernel
theorem dX1_init_36 : decode cX1_init 36 = .ok (.new 9, 3) := by decide +kernel
theorem dX1_init_39 : decode cX1_init 39 = .ok (.dup, 1) := by decide +kernel
theorem dX1_init_40 : decode cX1_init 40 = .ok (.invokespecial 22, 3) := by decide +kernel
theorem dX1_init_43 : decode cX1_init 43 = .ok (.aastore, 1) := by decide +kernel
theorem dX1_init_44 : decode cX1_init 44 = .ok (.iinc 1 1, 3) := by decide +kernel
theorem dX1_init_47 : decode cX1_init 47 = .ok (.goto (-22), 3) := by decide +kernel
theorem dX1_init_50 : decode cX1_init 50 = .ok (.return_, 1) := by decide +kernel
theorem dX1_record_0 : decode cX1_record 0 = .ok (.aload_n 0, 1) := by decide +kernel
theorem dX1_record_1 : decode cX1_record 1 = .ok (.getfield 11, 3) := by decide +kernel
theorem dX1_record_4 : decode cX1_record 4 = .ok (.aload_n 0, 1) := by decide +kernel
theorem dX1_record_5 : decode cX1_record 5 = .ok (.getfield 15, 3) := by decide +kernel
theorem dX1_record_8 : decode cX1_record 8 = .ok (.aaload, 1) := by decide +kernel
theorem dX1_record_9 : decode cX1_record 9 = .ok (.aload_n 1, 1) := by decide +kernel
theorem dX1_record_10 : decode cX1_record 10 = .ok (.invokevirtual 23, 3) := by decide +kernel
theorem dX1_record_13 : decode cX1_record 13 = .ok (.aload_n 0, 1) := by decide +kernel
theorem dX1_record_14 : decode cX1_record 14 = .ok (.aload_n 0, 1) := by decide +kernel
theorem dX1_record_15 : decode cX1_record 15 = .ok (.getfield 15, 3) := by decide +kernel
theorem dX1_record_18 : decode cX1_record 18 = .ok (.iconst 1, 1) := by decide +kernel
theorem dX1_record_19 : decode cX1_record 19 = .ok (.iadd, 1) := by decide +kernel
theorem dX1_record_20 : decode cX1_record 20 = .ok (.bipush 10, 2) := by decide +kernel
theorem dX1_record_22 : decode cX1_record 22 = .ok (.irem, 1) := by decide +kernel
theorem dX1_record_23 : decode cX1_record 23 = .ok (.putfield 15, 3) := by decide +kernel
theorem dX1_record_26 : decode cX1_record 26 = .ok (.aload_n 0, 1) := by decide +kernel
theorem dX1_record_27 : decode cX1_record 27 = .ok (.aload_n 0, 1) := by decide +kernel
theorem dX1_record_28 : decode cX1_record 28 = .ok (.getfield 19, 3) := by decide +kernel
theorem dX1_record_31 : decode cX1_record 31 = .ok (.iconst 1, 1) := by decide +kernel
theorem dX1_record_32 : decode cX1_record 32 = .ok (.iadd, 1) := by decide +kernel
theorem dX1_record_33 : decode cX1_record 33 = .ok (.bipush 10, 2) := by decide +kernel
theorem dX1_record_35 : decode cX1_record 35 = .ok (.invokestatic 27, 3) := by decide +kernel
theorem dX1_record_38 : decode cX1_record 38 = .ok (.putfield 19, 3) := by decide +kernel
theorem dX1_record_41 : decode cX1_record 41 = .ok (.return_, 1) := by decide +kernel
theorem dX1_takeBack_0 : decode cX1_takeBack 0 = .ok (.aload_n 0, 1) := by decide +kernel
theorem dX1_takeBack_1 : decode cX1_takeBack 1 = .ok (.aload_n 0, 1) := by decide +kernel
theorem dX1_takeBack_2 : decode cX1_takeBack 2 = .ok (.getfield 15, 3) := by decide +kernel
theorem dX1_takeBack_5 : decode cX1_takeBack 5 = .ok (.bipush 10, 2) := by decide +kernel
theorem dX1_takeBack_7 : decode cX1_takeBack 7 = .ok (.iadd, 1) := by decide +kernel
theorem dX1_takeBack_8 : decode cX1_takeBack 8 = .ok (.iconst 1, 1) := by decide +kernel
theorem dX1_takeBack_9 : decode cX1_takeBack 9 = .ok (.isub, 1) := by decide +kernel
theorem dX1_takeBack_10 : decode cX1_takeBack 10 = .ok (.bipush 10, 2) := by decide +kernel
theorem dX1_takeBack_12 : decode cX1_takeBack 12 = .ok (.irem, 1) := by decide +kernel
theorem dX1_takeBack_13 : decode cX1_takeBack 13 = .ok (.putfield 15, 3) := by decide +kernel
theorem dX1_takeBack_16 : decode cX1_takeBack 16 = .ok (.aload_n 1, 1) := by decide +kernel
theorem dX1_takeBack_17 : decode cX1_takeBack 17 = .ok (.aload_n 0, 1) := by decide +kernel
theorem dX1_takeBack_18 : decode cX1_takeBack 18 = .ok (.getfield 11, 3) := by decide +kernel
theorem dX1_takeBack_21 : decode cX1_takeBack 21 = .ok (.aload_n 0, 1) := by decide +kernel
theorem dX1_takeBack_22 : decode cX1_takeBack 22 = .ok (.getfield 15, 3) := by decide +kernel
theorem dX1_takeBack_25 : decode cX1_takeBack 25 = .ok (.aaload, 1) := by decide +kernel
theorem dX1_takeBack_26 : decode cX1_takeBack 26 = .ok (.invokevirtual 23, 3) := by decide +kernel
theorem dX1_takeBack_29 : decode cX1_takeBack 29 = .ok (.aload_n 0, 1) := by decide +kernel
theorem dX1_takeBack_30 : decode cX1_takeBack 30 = .ok (.dup, 1) := by decide +kernel
theorem dX1_takeBack_31 : decode cX1_takeBack 31 = .ok (.getfield 19, 3) := by decide +kernel
theorem dX1_takeBack_34 : decode cX1_takeBack 34 = .ok (.iconst 1, 1) := by decide +kernel
theorem dX1_takeBack_35 : decode cX1_takeBack 35 = .ok (.isub, 1) := by decide +kernel
theorem dX1_takeBack_36 : decode cX1_takeBack 36 = .ok (.putfield 19, 3) := by decide +kernel
theorem dX1_takeBack_39 : decode cX1_takeBack 39 = .ok (.return_, 1) := by decide +kernel
theorem dX1_forget_0 : decode cX1_forget 0 = .ok (.aload_n 0, 1) := by decide +kernel
theorem dX1_forget_1 : decode cX1_forget 1 = .ok (.iconst 0, 1) := by decide +kernel
theorem dX1_forget_2 : decode cX1_forget 2 = .ok (.putfield 19, 3) := by decide +kernel
theorem dX1_forget_5 : decode cX1_forget 5 = .ok (.return_, 1) := by decide +kernel
theorem dX2_init_0 : decode cX2_init 0 = .ok (.aload_n 0, 1) := by decide +kernel
theorem dX2_init_1 : decode cX2_init 1 = .ok (.invokespecial 3, 3) := by decide +kernel
theorem dX2_init_4 : decode cX2_init 4 = .ok (.return_, 1) := by decide +kernel
theorem dX2_copyFrom_0 : decode cX2_copyFrom 0 = .ok (.aload_n 0, 1) := by decide +kernel
theorem dX2_copyFrom_1 : decode cX2_copyFrom 1 = .ok (.aload_n 1, 1) := by decide +kernel
theorem dX2_copyFrom_2 : decode cX2_copyFrom 2 = .ok (.getfield 9, 3) := by decide +kernel
theorem dX2_copyFrom_5 : decode cX2_copyFrom 5 = .ok (.putfield 9, 3) := by decide +kernel
theorem dX2_copyFrom_8 : decode cX2_copyFrom 8 = .ok (.aload_n 0, 1) := by decide +kernel
theorem dX2_copyFrom_9 : decode cX2_copyFrom 9 = .ok (.aload_n 1, 1) := by decide +kernel
theorem dX2_copyFrom_10 : decode cX2_copyFrom 10 = .ok (.getfield 15, 3) := by decide +kernel
theorem dX2_copyFrom_13 : decode cX2_copyFrom 13 = .ok (.putfield 15, 3) := by decide +kernel
theorem dX2_copyFrom_16 : decode cX2_copyFrom 16 = .ok (.aload_n 0, 1) := by decide +kernel
theorem dX2_copyFrom_17 : decode cX2_copyFrom 17 = .ok (.aload_n 1, 1) := by decide +kernel
theorem dX2_copyFrom_18 : decode cX2_copyFrom 18 = .ok (.getfield 18, 3) := by decide +kernel
theorem dX2_copyFrom_21 : decode cX2_copyFrom 21 = .ok (.putfield 18, 3) := by decide +kernel
theorem dX2_copyFrom_24 : decode cX2_copyFrom 24 = .ok (.aload_n 0, 1) := by decide +kernel
theorem dX2_copyFrom_25 : decode cX2_copyFrom 25 = .ok (.aload_n 1, 1) := by decide +kernel
theorem dX2_copyFrom_26 : decode cX2_copyFrom 26 = .ok (.getfield 21, 3) := by decide +kernel
theorem dX2_copyFrom_29 : decode cX2_copyFrom 29 = .ok (.putfield 21, 3) := by decide +kernel
theorem dX2_copyFrom_32 : decode cX2_copyFrom 32 = .ok (.aload_n 0, 1) := by decide +kernel
theorem dX2_copyFrom_33 : decode cX2_copyFrom 33 = .ok (.aload_n 1, 1) := by decide +kernel
theorem dX2_copyFrom_34 : decode cX2_copyFrom 34 = .ok (.getfield 24, 3) := by decide +kernel
theorem dX2_copyFrom_37 : decode cX2_copyFrom 37 = .ok (.putfield 24, 3) := by decide +kernel
theorem dX2_copyFrom_40 : decode cX2_copyFrom 40 = .ok (.return_, 1) := by decide +kernel
theorem dX2_end_0 : decode cX2_end 0 = .ok (.aload_n 0, 1) := by decide +kernel
theorem dX2_end_1 : decode cX2_end 1 = .ok (.getfield 15, 3) := by decide +kernel
theorem dX2_end_4 : decode cX2_end 4 = .ok (.aload_n 0, 1) := by decide +kernel
theorem dX2_end_5 : decode cX2_end 5 = .ok (.getfield 18, 3) := by decide +kernel
theorem dX2_end_8 : decode cX2_end 8 = .ok (.iadd, 1) := by decide +kernel
theorem dX2_end_9 : decode cX2_end 9 = .ok (.ireturn, 1) := by decide +kernel
theorem dX2_holdsOneOf_0 : decode cX2_holdsOneOf 0 = .ok (.aload_n 0, 1) := by decide +kernel
theorem dX2_holdsOneOf_1 : decode cX2_holdsOneOf 1 = .ok (.getfield 24, 3) := by decide +kernel
theorem dX2_holdsOneOf_4 : decode cX2_holdsOneOf 4 = .ok (.ifCond .eq 11, 3) := by decide +kernel
theorem dX2_holdsOneOf_7 : decode cX2_holdsOneOf 7 = .ok (.aload_n 0, 1) := by decide +kernel
theorem dX2_holdsOneOf_8 : decode cX2_holdsOneOf 8 = .ok (.getfield 24, 3) := by decide +kernel
theorem dX2_holdsOneOf_11 : decode cX2_holdsOneOf 11 = .ok (.iconst 1, 1) := by decide +kernel
theorem dX2_holdsOneOf_12 : decode cX2_holdsOneOf 12 = .ok (.if_icmp .ne 30, 3) := by decide +kernel
theorem dX2_holdsOneOf_15 : decode cX2_holdsOneOf 15 = .ok (.aload_n 0, 1) := by decide +kernel
theorem dX2_holdsOneOf_16 : decode cX2_holdsOneOf 16 = .ok (.getfield 15, 3) := by decide +kernel
theorem dX2_holdsOneOf_19 : decode cX2_holdsOneOf 19 = .ok (.iload_n 1, 1) := by decide +kernel
theorem dX2_holdsOneOf_20 : decode cX2_holdsOneOf 20 = .ok (.iload_n 2, 1) := by decide +kernel
theorem dX2_holdsOneOf_21 : decode cX2_holdsOneOf 21 = .ok (.iadd, 1) := by decide +kernel
theorem dX2_holdsOneOf_22 : decode cX2_holdsOneOf 22 = .ok (.if_icmp .ge 20, 3) := by decide +kernel
theorem dX2_holdsOneOf_25 : decode cX2_holdsOneOf 25 = .ok (.iload_n 1, 1) := by decide +kernel
theorem dX2_holdsOneOf_26 : decode cX2_holdsOneOf 26 = .ok (.aload_n 0, 1) := by decide +kernel
theorem dX2_holdsOneOf_27 : decode cX2_holdsOneOf 27 = .ok (.getfield 15, 3) := by decide +kernel
theorem dX2_holdsOneOf_30 : decode cX2_holdsOneOf 30 = .ok (.aload_n 0, 1) := by decide +kernel
theorem dX2_holdsOneOf_31 : decode cX2_holdsOneOf 31 = .ok (.getfield 18, 3) := by decide +kernel
theorem dX2_holdsOneOf_34 : decode cX2_holdsOneOf 34 = .ok (.iadd, 1) := by decide +kernel
theorem dX2_holdsOneOf_35 : decode cX2_holdsOneOf 35 = .ok (.if_icmp .ge 7, 3) := by decide +kernel
theorem dX2_holdsOneOf_38 : decode cX2_holdsOneOf 38 = .ok (.iconst 1, 1) := by decide +kernel
theorem dX2_holdsOneOf_39 : decode cX2_holdsOneOf 39 = .ok (.goto 4, 3) := by decide +kernel
theorem dX2_holdsOneOf_42 : decode cX2_holdsOneOf 42 = .ok (.iconst 0, 1) := by decide +kernel
theorem dX2_holdsOneOf_43 : decode cX2_holdsOneOf 43 = .ok (.ireturn, 1) := by decide +kernel
theorem dX2_canBeReturned_0 : decode cX2_canBeReturned 0 = .ok (.aload_n 0, 1) := by decide +kernel
theorem dX2_canBeReturned_1 : decode cX2_canBeReturned 1 = .ok (.getfield 24, 3) := by decide +kernel
theorem dX2_canBeReturned_4 : decode cX2_canBeReturned 4 = .ok (.iconst 2, 1) := by decide +kernel
theorem dX2_canBeReturned_5 : decode cX2_canBeReturned 5 = .ok (.if_icmp .eq 11, 3) := by decide +kernel
theorem dX2_canBeReturned_8 : decode cX2_canBeReturned 8 = .ok (.aload_n 0, 1) := by decide +kernel
theorem dX2_canBeReturned_9 : decode cX2_canBeReturned 9 = .ok (.getfield 24, 3) := by decide +kernel
theorem dX2_canBeReturned_12 : decode cX2_canBeReturned 12 = .ok (.iconst 4, 1) := by decide +kernel
theorem dX2_canBeReturned_13 : decode cX2_canBeReturned 13 = .ok (.if_icmp .ne 7, 3) := by decide +kernel
theorem dX2_canBeReturned_16 : decode cX2_canBeReturned 16 = .ok (.iconst 1, 1) := by decide +kernel
theorem dX2_canBeReturned_17 : decode cX2_canBeReturned 17 = .ok (.goto 4, 3) := by decide +kernel
theorem dX2_canBeReturned_20 : decode cX2_canBeReturned 20 = .ok (.iconst 0, 1) := by decide +kernel
theorem dX2_canBeReturned_21 : decode cX2_canBeReturned 21 = .ok (.ireturn, 1) := by decide +kernel
theorem dX3_init_0 : decode cX3_init 0 = .ok (.aload_n 0, 1) := by decide +kernel
theorem dX3_init_1 : decode cX3_init 1 = .ok (.invokespecial 3, 3) := by decide +kernel
theorem dX3_init_4 : decode cX3_init 4 = .ok (.aload_n 0, 1) := by decide +kernel
theorem dX3_init_5 : decode cX3_init 5 = .ok (.iconst 0, 1) := by decide +kernel
theorem dX3_init_6 : decode cX3_init 6 = .ok (.putfield 9, 3) := by decide +kernel
theorem dX3_init_9 : decode cX3_init 9 = .ok (.aload_n 0, 1) := by decide +kernel
theorem dX3_init_10 : decode cX3_init 10 = .ok (.iconst 0, 1) := by decide +kernel
theorem dX3_init_11 : decode cX3_init 11 = .ok (.putfield 15, 3) := by decide +kernel
theorem dX3_init_14 : decode cX3_init 14 = .ok (.aload_n 0, 1) := by decide +kernel
theorem dX3_init_15 : decode cX3_init 15 = .ok (.iconst 0, 1) := by decide +kernel
theorem dX3_init_16 : decode cX3_init 16 = .ok (.putfield 18, 3) := by decide +kernel
theorem dX3_init_19 : decode cX3_init 19 = .ok (.aload_n 0, 1) := by decide +kernel
theorem dX3_init_20 : decode cX3_init 20 = .ok (.iconst 0, 1) := by decide +kernel
theorem dX3_init_21 : decode cX3_init 21 = .ok (.putfield 21, 3) := by decide +kernel
theorem dX3_init_24 : decode cX3_init 24 = .ok (.aload_n 0, 1) := by decide +kernel
theorem dX3_init_25 : decode cX3_init 25 = .ok (.iconst (-1), 1) := by decide +kernel
theorem dX3_init_26 : decode cX3_init 26 = .ok (.putfield 24, 3) := by decide +kernel
theorem dX3_init_29 : decode cX3_init 29 = .ok (.aload_n 0, 1) := by decide +kernel
theorem dX3_init_30 : decode cX3_init 30 = .ok (.aload_n 1, 1) := by decide +kernel
theorem dX3_init_31 : decode cX3_init 31 = .ok (.putfield 27, 3) := by decide +kernel
theorem dX3_init_34 : decode cX3_init 34 = .ok (.aload_n 0, 1) := by decide +kernel
theorem dX3_init_35 : decode cX3_init 35 = .ok (.iload_n 2, 1) := by decide +kernel
theorem dX3_init_36 : decode cX3_init 36 = .ok (.putfield 31, 3) := by decide +kernel
theorem dX3_init_39 : decode cX3_init 39 = .ok (.aload_n 0, 1) := by decide +kernel
theorem dX3_init_40 : decode cX3_init 40 = .ok (.aload_n 3, 1) := by decide +kernel
theorem dX3_init_41 : decode cX3_init 41 = .ok (.putfield 34, 3) := by decide +kernel
theorem dX3_init_44 : decode cX3_init 44 = .ok (.return_, 1) := by decide +kernel
theorem dX3_parse_0 : decode cX3_parse 0 = .ok (.aload_n 0, 1) := by decide +kernel
theorem dX3_parse_1 : decode cX3_parse 1 = .ok (.invokevirtual 38, 3) := by decide +kernel
theorem dX3_parse_4 : decode cX3_parse 4 = .ok (.aload_n 0, 1) := by decide +kernel
theorem dX3_parse_5 : decode cX3_parse 5 = .ok (.ldc 41, 2) := by decide +kernel
theorem dX3_parse_7 : decode cX3_parse 7 = .ok (.invokevirtual 43, 3) := by decide +kernel
theorem dX3_parse_10 : decode cX3_parse 10 = .ok (.ifCond .ne 8, 3) := by decide +kernel
theorem dX3_parse_13 : decode cX3_parse 13 = .ok (.aload_n 0, 1) := by decide +kernel
theorem dX3_parse_14 : decode cX3_parse 14 = .ok (.iconst 1, 1) := by decide +kernel
theorem dX3_parse_15 : decode cX3_parse 15 = .ok (.invokevirtual 47, 3) := by decide +kernel
theorem dX3_parse_18 : decode cX3_parse 18 = .ok (.aload_n 0, 1) := by decide +kernel
theorem dX3_parse_19 : decode cX3_parse 19 = .ok (.getfield 34, 3) := by decide +kernel
theorem dX3_parse_22 : decode cX3_parse 22 = .ok (.aload_n 0, 1) := by decide +kernel
theorem dX3_parse_23 : decode cX3_parse 23 = .ok (.iconst 1, 1) := by decide +kernel
theorem dX3_parse_24 : decode cX3_parse 24 = .ok (.bipush 24, 2) := by decide +kernel
theorem dX3_parse_26 : decode cX3_parse 26 = .ok (.invokevirtual 51, 3) := by decide +kernel
theorem dX3_parse_29 : decode cX3_parse 29 = .ok (.putfield 55, 3) := by decide +kernel
theorem dX3_parse_32 : decode cX3_parse 32 = .ok (.aload_n 0, 1) := by decide +kernel
theorem dX3_parse_33 : decode cX3_parse 33 = .ok (.getfield 34, 3) := by decide +kernel
theorem dX3_parse_36 : decode cX3_parse 36 = .ok (.aload_n 0, 1) := by decide +kernel
theorem dX3_parse_37 : decode cX3_parse 37 = .ok (.iconst 0, 1) := by decide +kernel
theorem dX3_parse_38 : decode cX3_parse 38 = .ok (.bipush 99, 2) := by decide +kernel
theorem dX3_parse_40 : decode cX3_parse 40 = .ok (.invokevirtual 51, 3) := by decide +kernel
theorem dX3_parse_43 : decode cX3_parse 43 = .ok (.putfield 60, 3) := by decide +kernel
theorem dX3_parse_46 : decode cX3_parse 46 = .ok (.aload_n 0, 1) := by decide +kernel
theorem dX3_parse_47 : decode cX3_parse 47 = .ok (.invokevirtual 38, 3) := by decide +kernel
theorem dX3_parse_50 : decode cX3_parse 50 = .ok (.iconst 0, 1) := by decide +kernel
theorem dX3_parse_51 : decode cX3_parse 51 = .ok (.istore_n 1, 1) := by decide +kernel
theorem dX3_parse_52 : decode cX3_parse 52 = .ok (.iload_n 1, 1) := by decide +kernel
theorem dX3_parse_53 : decode cX3_parse 53 = .ok (.aload_n 0, 1) := by decide +kernel
theorem dX3_parse_54 : decode cX3_parse 54 = .ok (.getfield 31, 3) := by decide +kernel
theorem dX3_parse_57 : decode cX3_parse 57 = .ok (.if_icmp .ge 154, 3) := by decide +kernel
theorem dX3_parse_60 : decode cX3_parse 60 = .ok (.aload_n 0, 1) := by decide +kernel
theorem dX3_parse_61 : decode cX3_parse 61 = .ok (.getfield 21, 3) := by decide +kernel
theorem dX3_parse_64 : decode cX3_parse 64 = .ok (.ifCond .ne 147, 3) := by decide +kernel
theorem dX3_parse_67 : decode cX3_parse 67 = .ok (.aload_n 0, 1) := by decide +kernel
theorem dX3_parse_68 : decode cX3_parse 68 = .ok (.getfield 15, 3) := by decide +kernel
theorem dX3_parse_71 : decode cX3_parse 71 = .ok (.iconst 4, 1) := by decide +kernel
theorem dX3_parse_72 : decode cX3_parse 72 = .ok (.if_icmp .eq 139, 3) := by decide +kernel
theorem dX3_parse_75 : decode cX3_parse 75 = .ok (.aload_n 0, 1) := by decide +kernel
theorem dX3_parse_76 : decode cX3_parse 76 = .ok (.getfield 15, 3) := by decide +kernel
theorem dX3_parse_79 : decode cX3_parse 79 = .ok (.iconst 3, 1) := by decide +kernel
theorem dX3_parse_80 : decode cX3_parse 80 = .ok (.if_icmp .eq 8, 3) := by decide +kernel
theorem dX3_parse_83 : decode cX3_parse 83 = .ok (.aload_n 0, 1) := by decide +kernel
theorem dX3_parse_84 : decode cX3_parse 84 = .ok (.iconst 1, 1) := by decide +kernel
theorem dX3_parse_85 : decode cX3_parse 85 = .ok (.invokevirtual 47, 3) := by decide +kernel
theorem dX3_parse_88 : decode cX3_parse 88 = .ok (.aload_n 0, 1) := by decide +kernel
theorem dX3_parse_89 : decode cX3_parse 89 = .ok (.invokevirtual 38, 3) := by decide +kernel
theorem dX3_parse_92 : decode cX3_parse 92 = .ok (.aload_n 0, 1) := by decide +kernel
theorem dX3_parse_93 : decode cX3_parse 93 = .ok (.ldc 63, 2) := by decide +kernel
theorem dX3_parse_95 : decode cX3_parse 95 = .ok (.invokevirtual 43, 3) := by decide +kernel
theorem dX3_parse_98 : decode cX3_parse 98 = .ok (.ifCond .eq 10, 3) := by decide +kernel
theorem dX3_parse_101 : decode cX3_parse 101 = .ok (.aload_n 0, 1) := by decide +kernel
theorem dX3_parse_102 : decode cX3_parse 102 = .ok (.invokevirtual 65, 3) := by decide +kernel
theorem dX3_parse_105 : decode cX3_parse 105 = .ok (.goto 96, 3) := by decide +kernel
theorem dX3_parse_108 : decode cX3_parse 108 = .ok (.aload_n 0, 1) := by decide +kernel
theorem dX3_parse_109 : decode cX3_parse 109 = .ok (.ldc 68, 2) := by decide +kernel
theorem dX3_parse_111 : decode cX3_parse 111 = .ok (.invokevirtual 43, 3) := by decide +kernel
theorem dX3_parse_114 : decode cX3_parse 114 = .ok (.ifCond .eq 10, 3) := by decide +kernel
theorem dX3_parse_117 : decode cX3_parse 117 = .ok (.aload_n 0, 1) := by decide +kernel
theorem dX3_parse_118 : decode cX3_parse 118 = .ok (.invokevirtual 70, 3) := by decide +kernel
theorem dX3_parse_121 : decode cX3_parse 121 = .ok (.goto 80, 3) := by decide +kernel
theorem dX3_parse_124 : decode cX3_parse 124 = .ok (.aload_n 0, 1) := by decide +kernel
theorem dX3_parse_125 : decode cX3_parse 125 = .ok (.ldc 73, 2) := by decide +kernel
theorem dX3_parse_127 : decode cX3_parse 127 = .ok (.invokevirtual 43, 3) := by decide +kernel
theorem dX3_parse_130 : decode cX3_parse 130 = .ok (.ifCond .eq 10, 3) := by decide +kernel
theorem dX3_parse_133 : decode cX3_parse 133 = .ok (.aload_n 0, 1) := by decide +kernel
theorem dX3_parse_134 : decode cX3_parse 134 = .ok (.invokevirtual 75, 3) := by decide +kernel
theorem dX3_parse_137 : decode cX3_parse 137 = .ok (.goto 64, 3) := by decide +kernel
theorem dX3_parse_140 : decode cX3_parse 140 = .ok (.aload_n 0, 1) := by decide +kernel
theorem dX3_parse_141 : decode cX3_parse 141 = .ok (.ldc 78, 2) := by decide +kernel
theorem dX3_parse_143 : decode cX3_parse 143 = .ok (.invokevirtual 43, 3) := by decide +kernel
theorem dX3_parse_146 : decode cX3_parse 146 = .ok (.ifCond .eq 10, 3) := by decide +kernel
theorem dX3_parse_149 : decode cX3_parse 149 = .ok (.aload_n 0, 1) := by decide +kernel
theorem dX3_parse_150 : decode cX3_parse 150 = .ok (.invokevirtual 80, 3) := by decide +kernel
theorem dX3_parse_153 : decode cX3_parse 153 = .ok (.goto 48, 3) := by decide +kernel
theorem dX3_parse_156 : decode cX3_parse 156 = .ok (.aload_n 0, 1) := by decide +kernel
theorem dX3_parse_157 : decode cX3_parse 157 = .ok (.ldc 83, 2) := by decide +kernel
theorem dX3_parse_159 : decode cX3_parse 159 = .ok (.invokevirtual 43, 3) := by decide +kernel
theorem dX3_parse_162 : decode cX3_parse 162 = .ok (.ifCond .eq 10, 3) := by decide +kernel
theorem dX3_parse_165 : decode cX3_parse 165 = .ok (.aload_n 0, 1) := by decide +kernel
theorem dX3_parse_166 : decode cX3_parse 166 = .ok (.invokevirtual 85, 3) := by decide +kernel
theorem dX3_parse_169 : decode cX3_parse 169 = .ok (.goto 32, 3) := by decide +kernel
theorem dX3_parse_172 : decode cX3_parse 172 = .ok (.aload_n 0, 1) := by decide +kernel
theorem dX3_parse_173 : decode cX3_parse 173 = .ok (.ldc 88, 2) := by decide +kernel
theorem dX3_parse_175 : decode cX3_parse 175 = .ok (.invokevirtual 43, 3) := by decide +kernel
theorem dX3_parse_178 : decode cX3_parse 178 = .ok (.ifCond .eq 18, 3) := by decide +kernel
theorem dX3_parse_181 : decode cX3_parse 181 = .ok (.aload_n 0, 1) := by decide +kernel
theorem dX3_parse_182 : decode cX3_parse 182 = .ok (.getfield 34, 3) := by decide +kernel
theorem dX3_parse_185 : decode cX3_parse 185 = .ok (.aload_n 0, 1) := by decide +kernel
theorem dX3_parse_186 : decode cX3_parse 186 = .ok (.invokevirtual 90, 3) := by decide +kernel
theorem dX3_parse_189 : decode cX3_parse 189 = .ok (.invokevirtual 94, 3) := by decide +kernel
theorem dX3_parse_192 : decode cX3_parse 192 = .ok (.pop, 1) := by decide +kernel
theorem dX3_parse_193 : decode cX3_parse 193 = .ok (.goto 8, 3) := by decide +kernel
theorem dX3_parse_196 : decode cX3_parse 196 = .ok (.aload_n 0, 1) := by decide +kernel
theorem dX3_parse_197 : decode cX3_parse 197 = .ok (.iconst 1, 1) := by decide +kernel
theorem dX3_parse_198 : decode cX3_parse 198 = .ok (.invokevirtual 47, 3) := by decide +kernel
theorem dX3_parse_201 : decode cX3_parse 201 = .ok (.aload_n 0, 1) := by decide +kernel
theorem dX3_parse_202 : decode cX3_parse 202 = .ok (.invokevirtual 38, 3) := by decide +kernel
theorem dX3_parse_205 : decode cX3_parse 205 = .ok (.iinc 1 1, 3) := by decide +kernel
theorem dX3_parse_208 : decode cX3_parse 208 = .ok (.goto (-156), 3) := by decide +kernel
theorem dX3_parse_211 : decode cX3_parse 211 = .ok (.return_, 1) := by decide +kernel
theorem dX3_streetLine_0 : decode cX3_streetLine 0 = .ok (.aload_n 0, 1) := by decide +kernel
theorem dX3_streetLine_1 : decode cX3_streetLine 1 = .ok (.getfield 34, 3) := by decide +kernel
theorem dX3_streetLine_4 : decode cX3_streetLine 4 = .ok (.getfield 98, 3) := by decide +kernel
theorem dX3_streetLine_7 : decode cX3_streetLine 7 = .ok (.bipush 8, 2) := by decide +kernel
theorem dX3_streetLine_9 : decode cX3_streetLine 9 = .ok (.if_icmp .ne 8, 3) := by decide +kernel
theorem dX3_streetLine_12 : decode cX3_streetLine 12 = .ok (.aload_n 0, 1) := by decide +kernel
theorem dX3_streetLine_13 : decode cX3_streetLine 13 = .ok (.iconst 5, 1) := by decide +kernel
theorem dX3_streetLine_14 : decode cX3_streetLine 14 = .ok (.invokevirtual 47, 3) := by decide +kernel
theorem dX3_streetLine_17 : decode cX3_streetLine 17 = .ok (.aload_n 0, 1) := by decide +kernel
theorem dX3_streetLine_18 : decode cX3_streetLine 18 = .ok (.invokevirtual 101, 3) := by decide +kernel
theorem dX3_streetLine_21 : decode cX3_streetLine 21 = .ok (.istore_n 1, 1) := by decide +kernel
theorem dX3_streetLine_22 : decode cX3_streetLine 22 = .ok (.aload_n 0, 1) := by decide +kernel
theorem dX3_streetLine_23 : decode cX3_streetLine 23 = .ok (.getfield 34, 3) := by decide +kernel
theorem dX3_streetLine_26 : decode cX3_streetLine 26 = .ok (.iload_n 1, 1) := by decide +kernel
theorem dX3_streetLine_27 : decode cX3_streetLine 27 = .ok (.invokevirtual 104, 3) := by decide +kernel
theorem dX3_streetLine_30 : decode cX3_streetLine 30 = .ok (.iconst (-1), 1) := by decide +kernel
theorem dX3_streetLine_31 : decode cX3_streetLine 31 = .ok (.if_icmp .eq 8, 3) := by decide +kernel
theorem dX3_streetLine_34 : decode cX3_streetLine 34 = .ok (.aload_n 0, 1) := by decide +kernel
theorem dX3_streetLine_35 : decode cX3_streetLine 35 = .ok (.iconst 4, 1) := by decide +kernel
theorem dX3_streetLine_36 : decode cX3_streetLine 36 = .ok (.invokevirtual 47, 3) := by decide +kernel
theorem dX3_streetLine_39 : decode cX3_streetLine 39 = .ok (.aload_n 0, 1) := by decide +kernel
theorem dX3_streetLine_40 : decode cX3_streetLine 40 = .ok (.iconst 0, 1) := by decide +kernel
theorem dX3_streetLine_41 : decode cX3_streetLine 41 = .ok (.bipush 99, 2) := by decide +kernel
theorem dX3_streetLine_43 : decode cX3_streetLine 43 = .ok (.invokevirtual 51, 3) := by decide +kernel
theorem dX3_streetLine_46 : decode cX3_streetLine 46 = .ok (.istore_n 2, 1) := by decide +kernel
theorem dX3_streetLine_47 : decode cX3_streetLine 47 = .ok (.aload_n 0, 1) := by decide +kernel
theorem dX3_streetLine_48 : decode cX3_streetLine 48 = .ok (.iconst 0, 1) := by decide +kernel
theorem dX3_streetLine_49 : decode cX3_streetLine 49 = .ok (.bipush 99, 2) := by decide +kernel
theorem dX3_streetLine_51 : decode cX3_streetLine 51 = .ok (.invokevirtual 51, 3) := by decide +kernel
theorem dX3_streetLine_54 : decode cX3_streetLine 54 = .ok (.istore_n 3, 1) := by decide +kernel
theorem dX3_streetLine_55 : decode cX3_streetLine 55 = .ok (.aload_n 0, 1) := by decide +kernel
theorem dX3_streetLine_56 : decode cX3_streetLine 56 = .ok (.getfield 21, 3) := by decide +kernel
theorem dX3_streetLine_59 : decode cX3_streetLine 59 = .ok (.ifCond .ne 13, 3) := by decide +kernel
theorem dX3_streetLine_62 : decode cX3_streetLine 62 = .ok (.aload_n 0, 1) := by decide +kernel
theorem dX3_streetLine_63 : decode cX3_streetLine 63 = .ok (.getfield 34, 3) := by decide +kernel
theorem dX3_streetLine_66 : decode cX3_streetLine 66 = .ok (.iload_n 1, 1) := by decide +kernel
theorem dX3_streetLine_67 : decode cX3_streetLine 67 = .ok (.iload_n 2, 1) := by decide +kernel
theorem dX3_streetLine_68 : decode cX3_streetLine 68 = .ok (.iload_n 3, 1) := by decide +kernel
theorem dX3_streetLine_69 : decode cX3_streetLine 69 = .ok (.invokevirtual 107, 3) := by decide +kernel
theorem dX3_streetLine_72 : decode cX3_streetLine 72 = .ok (.return_, 1) := by decide +kernel
theorem dX3_borrowerLine_0 : decode cX3_borrowerLine 0 = .ok (.aload_n 0, 1) := by decide +kernel
theorem dX3_borrowerLine_1 : decode cX3_borrowerLine 1 = .ok (.getfield 34, 3) := by decide +kernel
theorem dX3_borrowerLine_4 : decode cX3_borrowerLine 4 = .ok (.getfield 111, 3) := by decide +kernel
theorem dX3_borrowerLine_7 : decode cX3_borrowerLine 7 = .ok (.bipush 12, 2) := by decide +kernel
theorem dX3_borrowerLine_9 : decode cX3_borrowerLine 9 = .ok (.if_icmp .ne 8, 3) := by decide +kernel
theorem dX3_borrowerLine_12 : decode cX3_borrowerLine 12 = .ok (.aload_n 0, 1) := by decide +kernel
theorem dX3_borrowerLine_13 : decode cX3_borrowerLine 13 = .ok (.iconst 5, 1) := by decide +kernel
theorem dX3_borrowerLine_14 : decode cX3_borrowerLine 14 = .ok (.invokevirtual 47, 3) := by decide +kernel
theorem dX3_borrowerLine_17 : decode cX3_borrowerLine 17 = .ok (.aload_n 0, 1) := by decide +kernel
theorem dX3_borrowerLine_18 : decode cX3_borrowerLine 18 = .ok (.invokevirtual 101, 3) := by decide +kernel
theorem dX3_borrowerLine_21 : decode cX3_borrowerLine 21 = .ok (.istore_n 1, 1) := by decide +kernel
theorem dX3_borrowerLine_22 : decode cX3_borrowerLine 22 = .ok (.aload_n 0, 1) := by decide +kernel
theorem dX3_borrowerLine_23 : decode cX3_borrowerLine 23 = .ok (.getfield 34, 3) := by decide +kernel
theorem dX3_borrowerLine_26 : decode cX3_borrowerLine 26 = .ok (.iload_n 1, 1) := by decide +kernel
theorem dX3_borrowerLine_27 : decode cX3_borrowerLine 27 = .ok (.invokevirtual 114, 3) := by decide +kernel
theorem dX3_borrowerLine_30 : decode cX3_borrowerLine 30 = .ok (.iconst (-1), 1) := by decide +kernel
theorem dX3_borrowerLine_31 : decode cX3_borrowerLine 31 = .ok (.if_icmp .eq 8, 3) := by decide +kernel
theorem dX3_borrowerLine_34 : decode cX3_borrowerLine 34 = .ok (.aload_n 0, 1) := by decide +kernel
theorem dX3_borrowerLine_35 : decode cX3_borrowerLine 35 = .ok (.iconst 4, 1) := by decide +kernel
theorem dX3_borrowerLine_36 : decode cX3_borrowerLine 36 = .ok (.invokevirtual 47, 3) := by decide +kernel
theorem dX3_borrowerLine_39 : decode cX3_borrowerLine 39 = .ok (.aload_n 0, 1) := by decide +kernel
theorem dX3_borrowerLine_40 : decode cX3_borrowerLine 40 = .ok (.invokevirtual 117, 3) := by decide +kernel
theorem dX3_borrowerLine_43 : decode cX3_borrowerLine 43 = .ok (.istore_n 2, 1) := by decide +kernel
theorem dX3_borrowerLine_44 : decode cX3_borrowerLine 44 = .ok (.aload_n 0, 1) := by decide +kernel
theorem dX3_borrowerLine_45 : decode cX3_borrowerLine 45 = .ok (.iconst 0, 1) := by decide +kernel
theorem dX3_borrowerLine_46 : decode cX3_borrowerLine 46 = .ok (.bipush 9, 2) := by decide +kernel
theorem dX3_borrowerLine_48 : decode cX3_borrowerLine 48 = .ok (.invokevirtual 51, 3) := by decide +kernel
theorem dX3_borrowerLine_51 : decode cX3_borrowerLine 51 = .ok (.istore_n 3, 1) := by decide +kernel
theorem dX3_borrowerLine_52 : decode cX3_borrowerLine 52 = .ok (.aload_n 0, 1) := by decide +kernel
theorem dX3_borrowerLine_53 : decode cX3_borrowerLine 53 = .ok (.iconst 0, 1) := by decide +kernel
theorem dX3_borrowerLine_54 : decode cX3_borrowerLine 54 = .ok (.sipush 999, 3) := by decide +kernel
theorem dX3_borrowerLine_57 : decode cX3_borrowerLine 57 = .ok (.invokevirtual 51, 3) := by decide +kernel
theorem dX3_borrowerLine_60 : decode cX3_borrowerLine 60 = .ok (.istore 4, 2) := by decide +kernel
theorem dX3_borrowerLine_62 : decode cX3_borrowerLine 62 = .ok (.aload_n 0, 1) := by decide +kernel
theorem dX3_borrowerLine_63 : decode cX3_borrowerLine 63 = .ok (.getfield 21, 3) := by decide +kernel
theorem dX3_borrowerLine_66 : decode cX3_borrowerLine 66 = .ok (.ifCond .ne 15, 3) := by decide +kernel
theorem dX3_borrowerLine_69 : decode cX3_borrowerLine 69 = .ok (.aload_n 0, 1) := by decide +kernel
theorem dX3_borrowerLine_70 : decode cX3_borrowerLine 70 = .ok (.getfield 34, 3) := by decide +kernel
theorem dX3_borrowerLine_73 : decode cX3_borrowerLine 73 = .ok (.iload_n 1, 1) := by decide +kernel
theorem dX3_borrowerLine_74 : decode cX3_borrowerLine 74 = .ok (.iload_n 2, 1) := by decide +kernel
theorem dX3_borrowerLine_75 : decode cX3_borrowerLine 75 = .ok (.iload_n 3, 1) := by decide +kernel
theorem dX3_borrowerLine_76 : decode cX3_borrowerLine 76 = .ok (.iload 4, 2) := by decide +kernel
theorem dX3_borrowerLine_78 : decode cX3_borrowerLine 78 = .ok (.invokevirtual 120, 3) := by decide +kernel
theorem dX3_borrowerLine_81 : decode cX3_borrowerLine 81 = .ok (.return_, 1) := by decide +kernel
theorem dX3_permitLine_0 : decode cX3_permitLine 0 = .ok (.aload_n 0, 1) := by decide +kernel
theorem dX3_permitLine_1 : decode cX3_permitLine 1 = .ok (.getfield 34, 3) := by decide +kernel
theorem dX3_permitLine_4 : decode cX3_permitLine 4 = .ok (.getfield 124, 3) := by decide +kernel
theorem dX3_permitLine_7 : decode cX3_permitLine 7 = .ok (.bipush 10, 2) := by decide +kernel
theorem dX3_permitLine_9 : decode cX3_permitLine 9 = .ok (.if_icmp .ne 8, 3) := by decide +kernel
theorem dX3_permitLine_12 : decode cX3_permitLine 12 = .ok (.aload_n 0, 1) := by decide +kernel
theorem dX3_permitLine_13 : decode cX3_permitLine 13 = .ok (.iconst 5, 1) := by decide +kernel
theorem dX3_permitLine_14 : decode cX3_permitLine 14 = .ok (.invokevirtual 47, 3) := by decide +kernel
theorem dX3_permitLine_17 : decode cX3_permitLine 17 = .ok (.aload_n 0, 1) := by decide +kernel
theorem dX3_permitLine_18 : decode cX3_permitLine 18 = .ok (.invokevirtual 117, 3) := by decide +kernel
theorem dX3_permitLine_21 : decode cX3_permitLine 21 = .ok (.istore_n 1, 1) := by decide +kernel
theorem dX3_permitLine_22 : decode cX3_permitLine 22 = .ok (.aload_n 0, 1) := by decide +kernel
theorem dX3_permitLine_23 : decode cX3_permitLine 23 = .ok (.aload_n 0, 1) := by decide +kernel
theorem dX3_permitLine_24 : decode cX3_permitLine 24 = .ok (.getfield 34, 3) := by decide +kernel
theorem dX3_permitLine_27 : decode cX3_permitLine 27 = .ok (.getfield 127, 3) := by decide +kernel
theorem dX3_permitLine_30 : decode cX3_permitLine 30 = .ok (.aload_n 0, 1) := by decide +kernel
theorem dX3_permitLine_31 : decode cX3_permitLine 31 = .ok (.getfield 34, 3) := by decide +kernel
theorem dX3_permitLine_34 : decode cX3_permitLine 34 = .ok (.getfield 127, 3) := by decide +kernel
theorem dX3_permitLine_37 : decode cX3_permitLine 37 = .ok (.bipush 48, 2) := by decide +kernel
theorem dX3_permitLine_39 : decode cX3_permitLine 39 = .ok (.iadd, 1) := by decide +kernel
theorem dX3_permitLine_40 : decode cX3_permitLine 40 = .ok (.iconst 1, 1) := by decide +kernel
theorem dX3_permitLine_41 : decode cX3_permitLine 41 = .ok (.isub, 1) := by decide +kernel
theorem dX3_permitLine_42 : decode cX3_permitLine 42 = .ok (.invokevirtual 51, 3) := by decide +kernel
theorem dX3_permitLine_45 : decode cX3_permitLine 45 = .ok (.istore_n 2, 1) := by decide +kernel
theorem dX3_permitLine_46 : decode cX3_permitLine 46 = .ok (.aload_n 0, 1) := by decide +kernel
theorem dX3_permitLine_47 : decode cX3_permitLine 47 = .ok (.iconst 1, 1) := by decide +kernel
theorem dX3_permitLine_48 : decode cX3_permitLine 48 = .ok (.bipush 12, 2) := by decide +kernel
theorem dX3_permitLine_50 : decode cX3_permitLine 50 = .ok (.aload_n 0, 1) := by decide +kernel
theorem dX3_permitLine_51 : decode cX3_permitLine 51 = .ok (.getfield 34, 3) := by decide +kernel
theorem dX3_permitLine_54 : decode cX3_permitLine 54 = .ok (.getfield 127, 3) := by decide +kernel
theorem dX3_permitLine_57 : decode cX3_permitLine 57 = .ok (.bipush 48, 2) := by decide +kernel
theorem dX3_permitLine_59 : decode cX3_permitLine 59 = .ok (.iadd, 1) := by decide +kernel
theorem dX3_permitLine_60 : decode cX3_permitLine 60 = .ok (.iload_n 2, 1) := by decide +kernel
theorem dX3_permitLine_61 : decode cX3_permitLine 61 = .ok (.isub, 1) := by decide +kernel
theorem dX3_permitLine_62 : decode cX3_permitLine 62 = .ok (.invokestatic 130, 3) := by decide +kernel
theorem dX3_permitLine_65 : decode cX3_permitLine 65 = .ok (.invokevirtual 51, 3) := by decide +kernel
theorem dX3_permitLine_68 : decode cX3_permitLine 68 = .ok (.istore_n 3, 1) := by decide +kernel
theorem dX3_permitLine_69 : decode cX3_permitLine 69 = .ok (.aload_n 0, 1) := by decide +kernel
theorem dX3_permitLine_70 : decode cX3_permitLine 70 = .ok (.getfield 21, 3) := by decide +kernel
theorem dX3_permitLine_73 : decode cX3_permitLine 73 = .ok (.ifCond .ne 22, 3) := by decide +kernel
theorem dX3_permitLine_76 : decode cX3_permitLine 76 = .ok (.aload_n 0, 1) := by decide +kernel
theorem dX3_permitLine_77 : decode cX3_permitLine 77 = .ok (.getfield 34, 3) := by decide +kernel
theorem dX3_permitLine_80 : decode cX3_permitLine 80 = .ok (.iload_n 1, 1) := by decide +kernel
theorem dX3_permitLine_81 : decode cX3_permitLine 81 = .ok (.iload_n 2, 1) := by decide +kernel
theorem dX3_permitLine_82 : decode cX3_permitLine 82 = .ok (.iload_n 3, 1) := by decide +kernel
theorem dX3_permitLine_83 : decode cX3_permitLine 83 = .ok (.invokevirtual 135, 3) := by decide +kernel
theorem dX3_permitLine_86 : decode cX3_permitLine 86 = .ok (.ifCond .ne 9, 3) := by decide +kernel
theorem dX3_permitLine_89 : decode cX3_permitLine 89 = .ok (.aload_n 0, 1) := by decide +kernel
theorem dX3_permitLine_90 : decode cX3_permitLine 90 = .ok (.bipush 6, 2) := by decide +kernel
theorem dX3_permitLine_92 : decode cX3_permitLine 92 = .ok (.invokevirtual 47, 3) := by decide +kernel
theorem dX3_permitLine_95 : decode cX3_permitLine 95 = .ok (.aload_n 0, 1) := by decide +kernel
theorem dX3_permitLine_96 : decode cX3_permitLine 96 = .ok (.getfield 21, 3) := by decide +kernel
theorem dX3_permitLine_99 : decode cX3_permitLine 99 = .ok (.ifCond .ne 14, 3) := by decide +kernel
theorem dX3_permitLine_102 : decode cX3_permitLine 102 = .ok (.aload_n 0, 1) := by decide +kernel
theorem dX3_permitLine_103 : decode cX3_permitLine 103 = .ok (.getfield 34, 3) := by decide +kernel
theorem dX3_permitLine_106 : decode cX3_permitLine 106 = .ok (.iload_n 1, 1) := by decide +kernel
theorem dX3_permitLine_107 : decode cX3_permitLine 107 = .ok (.iload_n 2, 1) := by decide +kernel
theorem dX3_permitLine_108 : decode cX3_permitLine 108 = .ok (.iload_n 3, 1) := by decide +kernel
theorem dX3_permitLine_109 : decode cX3_permitLine 109 = .ok (.invokevirtual 139, 3) := by decide +kernel
theorem dX3_permitLine_112 : decode cX3_permitLine 112 = .ok (.pop, 1) := by decide +kernel
theorem dX3_permitLine_113 : decode cX3_permitLine 113 = .ok (.return_, 1) := by decide +kernel
theorem dX3_lendLine_0 : decode cX3_lendLine 0 = .ok (.aload_n 0, 1) := by decide +kernel
theorem dX3_lendLine_1 : decode cX3_lendLine 1 = .ok (.getfield 34, 3) := by decide +kernel
theorem dX3_lendLine_4 : decode cX3_lendLine 4 = .ok (.aload_n 0, 1) := by decide +kernel
theorem dX3_lendLine_5 : decode cX3_lendLine 5 = .ok (.invokevirtual 101, 3) := by decide +kernel
theorem dX3_lendLine_8 : decode cX3_lendLine 8 = .ok (.invokevirtual 114, 3) := by decide +kernel
theorem dX3_lendLine_11 : decode cX3_lendLine 11 = .ok (.istore_n 1, 1) := by decide +kernel
theorem dX3_lendLine_12 : decode cX3_lendLine 12 = .ok (.iload_n 1, 1) := by decide +kernel
theorem dX3_lendLine_13 : decode cX3_lendLine 13 = .ok (.iconst (-1), 1) := by decide +kernel
theorem dX3_lendLine_14 : decode cX3_lendLine 14 = .ok (.if_icmp .ne 8, 3) := by decide +kernel
theorem dX3_lendLine_17 : decode cX3_lendLine 17 = .ok (.aload_n 0, 1) := by decide +kernel
theorem dX3_lendLine_18 : decode cX3_lendLine 18 = .ok (.iconst 3, 1) := by decide +kernel
theorem dX3_lendLine_19 : decode cX3_lendLine 19 = .ok (.invokevirtual 47, 3) := by decide +kernel
theorem dX3_lendLine_22 : decode cX3_lendLine 22 = .ok (.aload_n 0, 1) := by decide +kernel
theorem dX3_lendLine_23 : decode cX3_lendLine 23 = .ok (.aload_n 0, 1) := by decide +kernel
theorem dX3_lendLine_24 : decode cX3_lendLine 24 = .ok (.getfield 34, 3) := by decide +kernel
theorem dX3_lendLine_27 : decode cX3_lendLine 27 = .ok (.getfield 127, 3) := by decide +kernel
theorem dX3_lendLine_30 : decode cX3_lendLine 30 = .ok (.aload_n 0, 1) := by decide +kernel
theorem dX3_lendLine_31 : decode cX3_lendLine 31 = .ok (.getfield 34, 3) := by decide +kernel
theorem dX3_lendLine_34 : decode cX3_lendLine 34 = .ok (.getfield 127, 3) := by decide +kernel
theorem dX3_lendLine_37 : decode cX3_lendLine 37 = .ok (.bipush 48, 2) := by decide +kernel
theorem dX3_lendLine_39 : decode cX3_lendLine 39 = .ok (.iadd, 1) := by decide +kernel
theorem dX3_lendLine_40 : decode cX3_lendLine 40 = .ok (.iconst 1, 1) := by decide +kernel
theorem dX3_lendLine_41 : decode cX3_lendLine 41 = .ok (.isub, 1) := by decide +kernel
theorem dX3_lendLine_42 : decode cX3_lendLine 42 = .ok (.invokevirtual 51, 3) := by decide +kernel
theorem dX3_lendLine_45 : decode cX3_lendLine 45 = .ok (.istore_n 2, 1) := by decide +kernel
theorem dX3_lendLine_46 : decode cX3_lendLine 46 = .ok (.aload_n 0, 1) := by decide +kernel
theorem dX3_lendLine_47 : decode cX3_lendLine 47 = .ok (.iconst 1, 1) := by decide +kernel
theorem dX3_lendLine_48 : decode cX3_lendLine 48 = .ok (.bipush 6, 2) := by decide +kernel
theorem dX3_lendLine_50 : decode cX3_lendLine 50 = .ok (.aload_n 0, 1) := by decide +kernel
theorem dX3_lendLine_51 : decode cX3_lendLine 51 = .ok (.getfield 34, 3) := by decide +kernel
theorem dX3_lendLine_54 : decode cX3_lendLine 54 = .ok (.getfield 127, 3) := by decide +kernel
theorem dX3_lendLine_57 : decode cX3_lendLine 57 = .ok (.bipush 48, 2) := by decide +kernel
theorem dX3_lendLine_59 : decode cX3_lendLine 59 = .ok (.iadd, 1) := by decide +kernel
theorem dX3_lendLine_60 : decode cX3_lendLine 60 = .ok (.iload_n 2, 1) := by decide +kernel
theorem dX3_lendLine_61 : decode cX3_lendLine 61 = .ok (.isub, 1) := by decide +kernel
theorem dX3_lendLine_62 : decode cX3_lendLine 62 = .ok (.invokestatic 130, 3) := by decide +kernel
theorem dX3_lendLine_65 : decode cX3_lendLine 65 = .ok (.invokevirtual 51, 3) := by decide +kernel
theorem dX3_lendLine_68 : decode cX3_lendLine 68 = .ok (.istore_n 3, 1) := by decide +kernel
theorem dX3_lendLine_69 : decode cX3_lendLine 69 = .ok (.aload_n 0, 1) := by decide +kernel
theorem dX3_lendLine_70 : decode cX3_lendLine 70 = .ok (.getfield 21, 3) := by decide +kernel
theorem dX3_lendLine_73 : decode cX3_lendLine 73 = .ok (.ifCond .ne 22, 3) := by decide +kernel
theorem dX3_lendLine_76 : decode cX3_lendLine 76 = .ok (.aload_n 0, 1) := by decide +kernel
theorem dX3_lendLine_77 : decode cX3_lendLine 77 = .ok (.getfield 34, 3) := by decide +kernel
theorem dX3_lendLine_80 : decode cX3_lendLine 80 = .ok (.iload_n 1, 1) := by decide +kernel
theorem dX3_lendLine_81 : decode cX3_lendLine 81 = .ok (.iload_n 2, 1) := by decide +kernel
theorem dX3_lendLine_82 : decode cX3_lendLine 82 = .ok (.iload_n 3, 1) := by decide +kernel
theorem dX3_lendLine_83 : decode cX3_lendLine 83 = .ok (.invokevirtual 143, 3) := by decide +kernel
theorem dX3_lendLine_86 : decode cX3_lendLine 86 = .ok (.ifCond .eq 9, 3) := by decide +kernel
theorem dX3_lendLine_89 : decode cX3_lendLine 89 = .ok (.aload_n 0, 1) := by decide +kernel
theorem dX3_lendLine_90 : decode cX3_lendLine 90 = .ok (.bipush 6, 2) := by decide +kernel
theorem dX3_lendLine_92 : decode cX3_lendLine 92 = .ok (.invokevirtual 47, 3) := by decide +kernel
theorem dX3_lendLine_95 : decode cX3_lendLine 95 = .ok (.aload_n 0, 1) := by decide +kernel
theorem dX3_lendLine_96 : decode cX3_lendLine 96 = .ok (.getfield 21, 3) := by decide +kernel
theorem dX3_lendLine_99 : decode cX3_lendLine 99 = .ok (.ifCond .ne 14, 3) := by decide +kernel
theorem dX3_lendLine_102 : decode cX3_lendLine 102 = .ok (.aload_n 0, 1) := by decide +kernel
theorem dX3_lendLine_103 : decode cX3_lendLine 103 = .ok (.getfield 34, 3) := by decide +kernel
theorem dX3_lendLine_106 : decode cX3_lendLine 106 = .ok (.iload_n 1, 1) := by decide +kernel
theorem dX3_lendLine_107 : decode cX3_lendLine 107 = .ok (.iload_n 2, 1) := by decide +kernel
theorem dX3_lendLine_108 : decode cX3_lendLine 108 = .ok (.iload_n 3, 1) := by decide +kernel
theorem dX3_lendLine_109 : decode cX3_lendLine 109 = .ok (.invokevirtual 146, 3) := by decide +kernel
theorem dX3_lendLine_112 : decode cX3_lendLine 112 = .ok (.pop, 1) := by decide +kernel
theorem dX3_lendLine_113 : decode cX3_lendLine 113 = .ok (.return_, 1) := by decide +kernel
theorem dX3_whistleLine_0 : decode cX3_whistleLine 0 = .ok (.aload_n 0, 1) := by decide +kernel
theorem dX3_whistleLine_1 : decode cX3_whistleLine 1 = .ok (.iconst 0, 1) := by decide +kernel
theorem dX3_whistleLine_2 : decode cX3_whistleLine 2 = .ok (.aload_n 0, 1) := by decide +kernel
theorem dX3_whistleLine_3 : decode cX3_whistleLine 3 = .ok (.getfield 34, 3) := by decide +kernel
theorem dX3_whistleLine_6 : decode cX3_whistleLine 6 = .ok (.getfield 149, 3) := by decide +kernel
theorem dX3_whistleLine_9 : decode cX3_whistleLine 9 = .ok (.iconst 1, 1) := by decide +kernel
theorem dX3_whistleLine_10 : decode cX3_whistleLine 10 = .ok (.isub, 1) := by decide +kernel
theorem dX3_whistleLine_11 : decode cX3_whistleLine 11 = .ok (.invokevirtual 51, 3) := by decide +kernel
theorem dX3_whistleLine_14 : decode cX3_whistleLine 14 = .ok (.istore_n 1, 1) := by decide +kernel
theorem dX3_whistleLine_15 : decode cX3_whistleLine 15 = .ok (.aload_n 0, 1) := by decide +kernel
theorem dX3_whistleLine_16 : decode cX3_whistleLine 16 = .ok (.getfield 21, 3) := by decide +kernel
theorem dX3_whistleLine_19 : decode cX3_whistleLine 19 = .ok (.ifCond .ne 24, 3) := by decide +kernel
theorem dX3_whistleLine_22 : decode cX3_whistleLine 22 = .ok (.aload_n 0, 1) := by decide +kernel
theorem dX3_whistleLine_23 : decode cX3_whistleLine 23 = .ok (.getfield 34, 3) := by decide +kernel
theorem dX3_whistleLine_26 : decode cX3_whistleLine 26 = .ok (.getfield 152, 3) := by decide +kernel
theorem dX3_whistleLine_29 : decode cX3_whistleLine 29 = .ok (.iload_n 1, 1) := by decide +kernel
theorem dX3_whistleLine_30 : decode cX3_whistleLine 30 = .ok (.aaload, 1) := by decide +kernel
theorem dX3_whistleLine_31 : decode cX3_whistleLine 31 = .ok (.invokevirtual 156, 3) := by decide +kernel
theorem dX3_whistleLine_34 : decode cX3_whistleLine 34 = .ok (.ifCond .ne 9, 3) := by decide +kernel
theorem dX3_whistleLine_37 : decode cX3_whistleLine 37 = .ok (.aload_n 0, 1) := by decide +kernel
theorem dX3_whistleLine_38 : decode cX3_whistleLine 38 = .ok (.bipush 6, 2) := by decide +kernel
theorem dX3_whistleLine_40 : decode cX3_whistleLine 40 = .ok (.invokevirtual 47, 3) := by decide +kernel
theorem dX3_whistleLine_43 : decode cX3_whistleLine 43 = .ok (.aload_n 0, 1) := by decide +kernel
theorem dX3_whistleLine_44 : decode cX3_whistleLine 44 = .ok (.getfield 21, 3) := by decide +kernel
theorem dX3_whistleLine_47 : decode cX3_whistleLine 47 = .ok (.ifCond .ne 16, 3) := by decide +kernel
theorem dX3_whistleLine_50 : decode cX3_whistleLine 50 = .ok (.aload_n 0, 1) := by decide +kernel
theorem dX3_whistleLine_51 : decode cX3_whistleLine 51 = .ok (.getfield 34, 3) := by decide +kernel
theorem dX3_whistleLine_54 : decode cX3_whistleLine 54 = .ok (.getfield 152, 3) := by decide +kernel
theorem dX3_whistleLine_57 : decode cX3_whistleLine 57 = .ok (.iload_n 1, 1) := by decide +kernel
theorem dX3_whistleLine_58 : decode cX3_whistleLine 58 = .ok (.aaload, 1) := by decide +kernel
theorem dX3_whistleLine_59 : decode cX3_whistleLine 59 = .ok (.iconst 3, 1) := by decide +kernel
theorem dX3_whistleLine_60 : decode cX3_whistleLine 60 = .ok (.putfield 162, 3) := by decide +kernel
theorem dX3_whistleLine_63 : decode cX3_whistleLine 63 = .ok (.return_, 1) := by decide +kernel
theorem dX3_hoursToPass_0 : decode cX3_hoursToPass 0 = .ok (.aload_n 0, 1) := by decide +kernel
theorem dX3_hoursToPass_1 : decode cX3_hoursToPass 1 = .ok (.iconst 1, 1) := by decide +kernel
theorem dX3_hoursToPass_2 : decode cX3_hoursToPass 2 = .ok (.bipush 99, 2) := by decide +kernel
theorem dX3_hoursToPass_4 : decode cX3_hoursToPass 4 = .ok (.sipush 9999, 3) := by decide +kernel
theorem dX3_hoursToPass_7 : decode cX3_hoursToPass 7 = .ok (.aload_n 0, 1) := by decide +kernel
theorem dX3_hoursToPass_8 : decode cX3_hoursToPass 8 = .ok (.getfield 34, 3) := by decide +kernel
theorem dX3_hoursToPass_11 : decode cX3_hoursToPass 11 = .ok (.getfield 127, 3) := by decide +kernel
theorem dX3_hoursToPass_14 : decode cX3_hoursToPass 14 = .ok (.isub, 1) := by decide +kernel
theorem dX3_hoursToPass_15 : decode cX3_hoursToPass 15 = .ok (.invokestatic 130, 3) := by decide +kernel
theorem dX3_hoursToPass_18 : decode cX3_hoursToPass 18 = .ok (.invokevirtual 51, 3) := by decide +kernel
theorem dX3_hoursToPass_21 : decode cX3_hoursToPass 21 = .ok (.ireturn, 1) := by decide +kernel
theorem dX3_knownStreet_0 : decode cX3_knownStreet 0 = .ok (.aload_n 0, 1) := by decide +kernel
theorem dX3_knownStreet_1 : decode cX3_knownStreet 1 = .ok (.getfield 34, 3) := by decide +kernel
theorem dX3_knownStreet_4 : decode cX3_knownStreet 4 = .ok (.aload_n 0, 1) := by decide +kernel
theorem dX3_knownStreet_5 : decode cX3_knownStreet 5 = .ok (.invokevirtual 101, 3) := by decide +kernel
theorem dX3_knownStreet_8 : decode cX3_knownStreet 8 = .ok (.invokevirtual 104, 3) := by decide +kernel
theorem dX3_knownStreet_11 : decode cX3_knownStreet 11 = .ok (.istore_n 1, 1) := by decide +kernel
theorem dX3_knownStreet_12 : decode cX3_knownStreet 12 = .ok (.iload_n 1, 1) := by decide +kernel
theorem dX3_knownStreet_13 : decode cX3_knownStreet 13 = .ok (.iconst (-1), 1) := by decide +kernel
theorem dX3_knownStreet_14 : decode cX3_knownStreet 14 = .ok (.if_icmp .ne 8, 3) := by decide +kernel
theorem dX3_knownStreet_17 : decode cX3_knownStreet 17 = .ok (.aload_n 0, 1) := by decide +kernel
theorem dX3_knownStreet_18 : decode cX3_knownStreet 18 = .ok (.iconst 3, 1) := by decide +kernel
theorem dX3_knownStreet_19 : decode cX3_knownStreet 19 = .ok (.invokevirtual 47, 3) := by decide +kernel
theorem dX3_knownStreet_22 : decode cX3_knownStreet 22 = .ok (.iload_n 1, 1) := by decide +kernel
theorem dX3_knownStreet_23 : decode cX3_knownStreet 23 = .ok (.ireturn, 1) := by decide +kernel
theorem dX3_fail_0 : decode cX3_fail 0 = .ok (.aload_n 0, 1) := by decide +kernel
theorem dX3_fail_1 : decode cX3_fail 1 = .ok (.getfield 21, 3) := by decide +kernel
theorem dX3_fail_4 : decode cX3_fail 4 = .ok (.ifCond .ne 16, 3) := by decide +kernel
theorem dX3_fail_7 : decode cX3_fail 7 = .ok (.aload_n 0, 1) := by decide +kernel
theorem dX3_fail_8 : decode cX3_fail 8 = .ok (.iload_n 1, 1) := by decide +kernel
theorem dX3_fail_9 : decode cX3_fail 9 = .ok (.putfield 21, 3) := by decide +kernel
theorem dX3_fail_12 : decode cX3_fail 12 = .ok (.aload_n 0, 1) := by decide +kernel
theorem dX3_fail_13 : decode cX3_fail 13 = .ok (.aload_n 0, 1) := by decide +kernel
theorem dX3_fail_14 : decode cX3_fail 14 = .ok (.getfield 18, 3) := by decide +kernel
theorem dX3_fail_17 : decode cX3_fail 17 = .ok (.putfield 24, 3) := by decide +kernel
theorem dX3_fail_20 : decode cX3_fail 20 = .ok (.return_, 1) := by decide +kernel
theorem dX3_name_0 : decode cX3_name 0 = .ok (.aload_n 0, 1) := by decide +kernel
theorem dX3_name_1 : decode cX3_name 1 = .ok (.invokevirtual 38, 3) := by decide +kernel
theorem dX3_name_4 : decode cX3_name 4 = .ok (.aload_n 0, 1) := by decide +kernel
theorem dX3_name_5 : decode cX3_name 5 = .ok (.getfield 15, 3) := by decide +kernel
theorem dX3_name_8 : decode cX3_name 8 = .ok (.iconst 1, 1) := by decide +kernel
theorem dX3_name_9 : decode cX3_name 9 = .ok (.if_icmp .ne 17, 3) := by decide +kernel
theorem dX3_name_12 : decode cX3_name 12 = .ok (.aload_n 0, 1) := by decide +kernel
theorem dX3_name_13 : decode cX3_name 13 = .ok (.getfield 9, 3) := by decide +kernel
theorem dX3_name_16 : decode cX3_name 16 = .ok (.aload_n 0, 1) := by decide +kernel
theorem dX3_name_17 : decode cX3_name 17 = .ok (.getfield 18, 3) := by decide +kernel
theorem dX3_name_20 : decode cX3_name 20 = .ok (.isub, 1) := by decide +kernel
theorem dX3_name_21 : decode cX3_name 21 = .ok (.bipush 6, 2) := by decide +kernel
theorem dX3_name_23 : decode cX3_name 23 = .ok (.if_icmp .le 8, 3) := by decide +kernel
theorem dX3_name_26 : decode cX3_name 26 = .ok (.aload_n 0, 1) := by decide +kernel
theorem dX3_name_27 : decode cX3_name 27 = .ok (.iconst 1, 1) := by decide +kernel
theorem dX3_name_28 : decode cX3_name 28 = .ok (.invokevirtual 47, 3) := by decide +kernel
theorem dX3_name_31 : decode cX3_name 31 = .ok (.iconst 0, 1) := by decide +kernel
theorem dX3_name_32 : decode cX3_name 32 = .ok (.istore_n 1, 1) := by decide +kernel
theorem dX3_name_33 : decode cX3_name 33 = .ok (.aload_n 0, 1) := by decide +kernel
theorem dX3_name_34 : decode cX3_name 34 = .ok (.getfield 18, 3) := by decide +kernel
theorem dX3_name_37 : decode cX3_name 37 = .ok (.istore_n 2, 1) := by decide +kernel
theorem dX3_name_38 : decode cX3_name 38 = .ok (.iload_n 2, 1) := by decide +kernel
theorem dX3_name_39 : decode cX3_name 39 = .ok (.aload_n 0, 1) := by decide +kernel
theorem dX3_name_40 : decode cX3_name 40 = .ok (.getfield 9, 3) := by decide +kernel
theorem dX3_name_43 : decode cX3_name 43 = .ok (.if_icmp .ge 27, 3) := by decide +kernel
theorem dX3_name_46 : decode cX3_name 46 = .ok (.aload_n 0, 1) := by decide +kernel
theorem dX3_name_47 : decode cX3_name 47 = .ok (.getfield 21, 3) := by decide +kernel
theorem dX3_name_50 : decode cX3_name 50 = .ok (.ifCond .ne 20, 3) := by decide +kernel
theorem dX3_name_53 : decode cX3_name 53 = .ok (.iload_n 1, 1) := by decide +kernel
theorem dX3_name_54 : decode cX3_name 54 = .ok (.aload_n 0, 1) := by decide +kernel
theorem dX3_name_55 : decode cX3_name 55 = .ok (.getfield 27, 3) := by decide +kernel
theorem dX3_name_58 : decode cX3_name 58 = .ok (.iload_n 2, 1) := by decide +kernel
theorem dX3_name_59 : decode cX3_name 59 = .ok (.baload, 1) := by decide +kernel
theorem dX3_name_60 : decode cX3_name 60 = .ok (.invokestatic 165, 3) := by decide +kernel
theorem dX3_name_63 : decode cX3_name 63 = .ok (.istore_n 1, 1) := by decide +kernel
theorem dX3_name_64 : decode cX3_name 64 = .ok (.iinc 2 1, 3) := by decide +kernel
theorem dX3_name_67 : decode cX3_name 67 = .ok (.goto (-29), 3) := by decide +kernel
theorem dX3_name_70 : decode cX3_name 70 = .ok (.iload_n 1, 1) := by decide +kernel
theorem dX3_name_71 : decode cX3_name 71 = .ok (.ireturn, 1) := by decide +kernel
theorem dX3_number_0 : decode cX3_number 0 = .ok (.aload_n 0, 1) := by decide +kernel
theorem dX3_number_1 : decode cX3_number 1 = .ok (.invokevirtual 38, 3) := by decide +kernel
theorem dX3_number_4 : decode cX3_number 4 = .ok (.aload_n 0, 1) := by decide +kernel
theorem dX3_number_5 : decode cX3_number 5 = .ok (.getfield 15, 3) := by decide +kernel
theorem dX3_number_8 : decode cX3_number 8 = .ok (.iconst 2, 1) := by decide +kernel
theorem dX3_number_9 : decode cX3_number 9 = .ok (.if_icmp .ne 16, 3) := by decide +kernel
theorem dX3_number_12 : decode cX3_number 12 = .ok (.aload_n 0, 1) := by decide +kernel
theorem dX3_number_13 : decode cX3_number 13 = .ok (.getfield 9, 3) := by decide +kernel
theorem dX3_number_16 : decode cX3_number 16 = .ok (.aload_n 0, 1) := by decide +kernel
theorem dX3_number_17 : decode cX3_number 17 = .ok (.getfield 18, 3) := by decide +kernel
theorem dX3_number_20 : decode cX3_number 20 = .ok (.isub, 1) := by decide +kernel
theorem dX3_number_21 : decode cX3_number 21 = .ok (.iconst 4, 1) := by decide +kernel
theorem dX3_number_22 : decode cX3_number 22 = .ok (.if_icmp .le 8, 3) := by decide +kernel
theorem dX3_number_25 : decode cX3_number 25 = .ok (.aload_n 0, 1) := by decide +kernel
theorem dX3_number_26 : decode cX3_number 26 = .ok (.iconst 1, 1) := by decide +kernel
theorem dX3_number_27 : decode cX3_number 27 = .ok (.invokevirtual 47, 3) := by decide +kernel
theorem dX3_number_30 : decode cX3_number 30 = .ok (.iconst 0, 1) := by decide +kernel
theorem dX3_number_31 : decode cX3_number 31 = .ok (.istore_n 3, 1) := by decide +kernel
theorem dX3_number_32 : decode cX3_number 32 = .ok (.aload_n 0, 1) := by decide +kernel
theorem dX3_number_33 : decode cX3_number 33 = .ok (.getfield 18, 3) := by decide +kernel
theorem dX3_number_36 : decode cX3_number 36 = .ok (.istore 4, 2) := by decide +kernel
theorem dX3_number_38 : decode cX3_number 38 = .ok (.iload 4, 2) := by decide +kernel
theorem dX3_number_40 : decode cX3_number 40 = .ok (.aload_n 0, 1) := by decide +kernel
theorem dX3_number_41 : decode cX3_number 41 = .ok (.getfield 9, 3) := by decide +kernel
theorem dX3_number_44 : decode cX3_number 44 = .ok (.if_icmp .ge 32, 3) := by decide +kernel
theorem dX3_number_47 : decode cX3_number 47 = .ok (.aload_n 0, 1) := by decide +kernel
theorem dX3_number_48 : decode cX3_number 48 = .ok (.getfield 21, 3) := by decide +kernel
theorem dX3_number_51 : decode cX3_number 51 = .ok (.ifCond .ne 25, 3) := by decide +kernel
theorem dX3_number_54 : decode cX3_number 54 = .ok (.bipush 10, 2) := by decide +kernel
theorem dX3_number_56 : decode cX3_number 56 = .ok (.iload_n 3, 1) := by decide +kernel
theorem dX3_number_57 : decode cX3_number 57 = .ok (.imul, 1) := by decide +kernel
theorem dX3_number_58 : decode cX3_number 58 = .ok (.aload_n 0, 1) := by decide +kernel
theorem dX3_number_59 : decode cX3_number 59 = .ok (.getfield 27, 3) := by decide +kernel
theorem dX3_number_62 : decode cX3_number 62 = .ok (.iload 4, 2) := by decide +kernel
theorem dX3_number_64 : decode cX3_number 64 = .ok (.baload, 1) := by decide +kernel
theorem dX3_number_65 : decode cX3_number 65 = .ok (.iadd, 1) := by decide +kernel
theorem dX3_number_66 : decode cX3_number 66 = .ok (.bipush 48, 2) := by decide +kernel
theorem dX3_number_68 : decode cX3_number 68 = .ok (.isub, 1) := by decide +kernel
theorem dX3_number_69 : decode cX3_number 69 = .ok (.istore_n 3, 1) := by decide +kernel
theorem dX3_number_70 : decode cX3_number 70 = .ok (.iinc 4 1, 3) := by decide +kernel
theorem dX3_number_73 : decode cX3_number 73 = .ok (.goto (-35), 3) := by decide +kernel
theorem dX3_number_76 : decode cX3_number 76 = .ok (.iload_n 3, 1) := by decide +kernel
theorem dX3_number_77 : decode cX3_number 77 = .ok (.iload_n 1, 1) := by decide +kernel
theorem dX3_number_78 : decode cX3_number 78 = .ok (.if_icmp .lt 8, 3) := by decide +kernel
theorem dX3_number_81 : decode cX3_number 81 = .ok (.iload_n 3, 1) := by decide +kernel
theorem dX3_number_82 : decode cX3_number 82 = .ok (.iload_n 2, 1) := by decide +kernel
theorem dX3_number_83 : decode cX3_number 83 = .ok (.if_icmp .le 8, 3) := by decide +kernel
theorem dX3_number_86 : decode cX3_number 86 = .ok (.aload_n 0, 1) := by decide +kernel
theorem dX3_number_87 : decode cX3_number 87 = .ok (.iconst 2, 1) := by decide +kernel
theorem dX3_number_88 : decode cX3_number 88 = .ok (.invokevirtual 47, 3) := by decide +kernel
theorem dX3_number_91 : decode cX3_number 91 = .ok (.aload_n 0, 1) := by decide +kernel
theorem dX3_number_92 : decode cX3_number 92 = .ok (.getfield 21, 3) := by decide +kernel
theorem dX3_number_95 : decode cX3_number 95 = .ok (.ifCond .ne 7, 3) := by decide +kernel
theorem dX3_number_98 : decode cX3_number 98 = .ok (.iload_n 3, 1) := by decide +kernel
theorem dX3_number_99 : decode cX3_number 99 = .ok (.goto 4, 3) := by decide +kernel
theorem dX3_number_102 : decode cX3_number 102 = .ok (.iconst 0, 1) := by decide +kernel
theorem dX3_number_103 : decode cX3_number 103 = .ok (.ireturn, 1) := by decide +kernel
theorem dX3_isWord_0 : decode cX3_isWord 0 = .ok (.aload_n 0, 1) := by decide +kernel
theorem dX3_isWord_1 : decode cX3_isWord 1 = .ok (.getfield 15, 3) := by decide +kernel
theorem dX3_isWord_4 : decode cX3_isWord 4 = .ok (.iconst 1, 1) := by decide +kernel
theorem dX3_isWord_5 : decode cX3_isWord 5 = .ok (.if_icmp .ne 19, 3) := by decide +kernel
theorem dX3_isWord_8 : decode cX3_isWord 8 = .ok (.aload_n 0, 1) := by decide +kernel
theorem dX3_isWord_9 : decode cX3_isWord 9 = .ok (.getfield 9, 3) := by decide +kernel
theorem dX3_isWord_12 : decode cX3_isWord 12 = .ok (.aload_n 0, 1) := by decide +kernel
theorem dX3_isWord_13 : decode cX3_isWord 13 = .ok (.getfield 18, 3) := by decide +kernel
theorem dX3_isWord_16 : decode cX3_isWord 16 = .ok (.isub, 1) := by decide +kernel
theorem dX3_isWord_17 : decode cX3_isWord 17 = .ok (.aload_n 1, 1) := by decide +kernel
theorem dX3_isWord_18 : decode cX3_isWord 18 = .ok (.invokevirtual 168, 3) := by decide +kernel
theorem dX3_isWord_21 : decode cX3_isWord 21 = .ok (.if_icmp .eq 5, 3) := by decide +kernel
theorem dX3_isWord_24 : decode cX3_isWord 24 = .ok (.iconst 0, 1) := by decide +kernel
theorem dX3_isWord_25 : decode cX3_isWord 25 = .ok (.ireturn, 1) := by decide +kernel
theorem dX3_isWord_26 : decode cX3_isWord 26 = .ok (.iconst 0, 1) := by decide +kernel
theorem dX3_isWord_27 : decode cX3_isWord 27 = .ok (.istore_n 2, 1) := by decide +kernel
theorem dX3_isWord_28 : decode cX3_isWord 28 = .ok (.iload_n 2, 1) := by decide +kernel
theorem dX3_isWord_29 : decode cX3_isWord 29 = .ok (.aload_n 1, 1) := by decide +kernel
theorem dX3_isWord_30 : decode cX3_isWord 30 = .ok (.invokevirtual 168, 3) := by decide +kernel
theorem dX3_isWord_33 : decode cX3_isWord 33 = .ok (.if_icmp .ge 30, 3) := by decide +kernel
theorem dX3_isWord_36 : decode cX3_isWord 36 = .ok (.aload_n 0, 1) := by decide +kernel
theorem dX3_isWord_37 : decode cX3_isWord 37 = .ok (.getfield 27, 3) := by decide +kernel
theorem dX3_isWord_40 : decode cX3_isWord 40 = .ok (.aload_n 0, 1) := by decide +kernel
theorem dX3_isWord_41 : decode cX3_isWord 41 = .ok (.getfield 18, 3) := by decide +kernel
theorem dX3_isWord_44 : decode cX3_isWord 44 = .ok (.iload_n 2, 1) := by decide +kernel
theorem dX3_isWord_45 : decode cX3_isWord 45 = .ok (.iadd, 1) := by decide +kernel
theorem dX3_isWord_46 : decode cX3_isWord 46 = .ok (.baload, 1) := by decide +kernel
theorem dX3_isWord_47 : decode cX3_isWord 47 = .ok (.aload_n 1, 1) := by decide +kernel
theorem dX3_isWord_48 : decode cX3_isWord 48 = .ok (.iload_n 2, 1) := by decide +kernel
theorem dX3_isWord_49 : decode cX3_isWord 49 = .ok (.invokevirtual 172, 3) := by decide +kernel
theorem dX3_isWord_52 : decode cX3_isWord 52 = .ok (.if_icmp .eq 5, 3) := by decide +kernel
theorem dX3_isWord_55 : decode cX3_isWord 55 = .ok (.iconst 0, 1) := by decide +kernel
theorem dX3_isWord_56 : decode cX3_isWord 56 = .ok (.ireturn, 1) := by decide +kernel
theorem dX3_isWord_57 : decode cX3_isWord 57 = .ok (.iinc 2 1, 3) := by decide +kernel
theorem dX3_isWord_60 : decode cX3_isWord 60 = .ok (.goto (-32), 3) := by decide +kernel
theorem dX3_isWord_63 : decode cX3_isWord 63 = .ok (.iconst 1, 1) := by decide +kernel
theorem dX3_isWord_64 : decode cX3_isWord 64 = .ok (.ireturn, 1) := by decide +kernel
theorem dX3_next_0 : decode cX3_next 0 = .ok (.aload_n 0, 1) := by decide +kernel
theorem dX3_next_1 : decode cX3_next 1 = .ok (.getfield 21, 3) := by decide +kernel
theorem dX3_next_4 : decode cX3_next 4 = .ok (.ifCond .eq 4, 3) := by decide +kernel
theorem dX3_next_7 : decode cX3_next 7 = .ok (.return_, 1) := by decide +kernel
theorem dX3_next_8 : decode cX3_next 8 = .ok (.aload_n 0, 1) := by decide +kernel
theorem dX3_next_9 : decode cX3_next 9 = .ok (.getfield 15, 3) := by decide +kernel
theorem dX3_next_12 : decode cX3_next 12 = .ok (.iconst 1, 1) := by decide +kernel
theorem dX3_next_13 : decode cX3_next 13 = .ok (.if_icmp .eq 11, 3) := by decide +kernel
theorem dX3_next_16 : decode cX3_next 16 = .ok (.aload_n 0, 1) := by decide +kernel
theorem dX3_next_17 : decode cX3_next 17 = .ok (.getfield 15, 3) := by decide +kernel
theorem dX3_next_20 : decode cX3_next 20 = .ok (.iconst 2, 1) := by decide +kernel
theorem dX3_next_21 : decode cX3_next 21 = .ok (.if_icmp .ne 7, 3) := by decide +kernel
theorem dX3_next_24 : decode cX3_next 24 = .ok (.iconst 1, 1) := by decide +kernel
theorem dX3_next_25 : decode cX3_next 25 = .ok (.goto 4, 3) := by decide +kernel
theorem dX3_next_28 : decode cX3_next 28 = .ok (.iconst 0, 1) := by decide +kernel
theorem dX3_next_29 : decode cX3_next 29 = .ok (.istore_n 1, 1) := by decide +kernel
theorem dX3_next_30 : decode cX3_next 30 = .ok (.aload_n 0, 1) := by decide +kernel
theorem dX3_next_31 : decode cX3_next 31 = .ok (.getfield 9, 3) := by decide +kernel
theorem dX3_next_34 : decode cX3_next 34 = .ok (.istore_n 2, 1) := by decide +kernel
theorem dX3_next_35 : decode cX3_next 35 = .ok (.aload_n 0, 1) := by decide +kernel
theorem dX3_next_36 : decode cX3_next 36 = .ok (.getfield 9, 3) := by decide +kernel
theorem dX3_next_39 : decode cX3_next 39 = .ok (.aload_n 0, 1) := by decide +kernel
theorem dX3_next_40 : decode cX3_next 40 = .ok (.getfield 31, 3) := by decide +kernel
theorem dX3_next_43 : decode cX3_next 43 = .ok (.if_icmp .ge 44, 3) := by decide +kernel
theorem dX3_next_46 : decode cX3_next 46 = .ok (.aload_n 0, 1) := by decide +kernel
theorem dX3_next_47 : decode cX3_next 47 = .ok (.getfield 27, 3) := by decide +kernel
theorem dX3_next_50 : decode cX3_next 50 = .ok (.aload_n 0, 1) := by decide +kernel
theorem dX3_next_51 : decode cX3_next 51 = .ok (.getfield 9, 3) := by decide +kernel
theorem dX3_next_54 : decode cX3_next 54 = .ok (.baload, 1) := by decide +kernel
theorem dX3_next_55 : decode cX3_next 55 = .ok (.bipush 32, 2) := by decide +kernel
theorem dX3_next_57 : decode cX3_next 57 = .ok (.if_icmp .eq 17, 3) := by decide +kernel
theorem dX3_next_60 : decode cX3_next 60 = .ok (.aload_n 0, 1) := by decide +kernel
theorem dX3_next_61 : decode cX3_next 61 = .ok (.getfield 27, 3) := by decide +kernel
theorem dX3_next_64 : decode cX3_next 64 = .ok (.aload_n 0, 1) := by decide +kernel
theorem dX3_next_65 : decode cX3_next 65 = .ok (.getfield 9, 3) := by decide +kernel
theorem dX3_next_68 : decode cX3_next 68 = .ok (.baload, 1) := by decide +kernel
theorem dX3_next_69 : decode cX3_next 69 = .ok (.bipush 10, 2) := by decide +kernel
theorem dX3_next_71 : decode cX3_next 71 = .ok (.if_icmp .ne 16, 3) := by decide +kernel
theorem dX3_next_74 : decode cX3_next 74 = .ok (.aload_n 0, 1) := by decide +kernel
theorem dX3_next_75 : decode cX3_next 75 = .ok (.dup, 1) := by decide +kernel
theorem dX3_next_76 : decode cX3_next 76 = .ok (.getfield 9, 3) := by decide +kernel
theorem dX3_next_79 : decode cX3_next 79 = .ok (.iconst 1, 1) := by decide +kernel
theorem dX3_next_80 : decode cX3_next 80 = .ok (.iadd, 1) := by decide +kernel
theorem dX3_next_81 : decode cX3_next 81 = .ok (.putfield 9, 3) := by decide +kernel
theorem dX3_next_84 : decode cX3_next 84 = .ok (.goto (-49), 3) := by decide +kernel
theorem dX3_next_87 : decode cX3_next 87 = .ok (.aload_n 0, 1) := by decide +kernel
theorem dX3_next_88 : decode cX3_next 88 = .ok (.aload_n 0, 1) := by decide +kernel
theorem dX3_next_89 : decode cX3_next 89 = .ok (.getfield 9, 3) := by decide +kernel
theorem dX3_next_92 : decode cX3_next 92 = .ok (.putfield 18, 3) := by decide +kernel
theorem dX3_next_95 : decode cX3_next 95 = .ok (.aload_n 0, 1) := by decide +kernel
theorem dX3_next_96 : decode cX3_next 96 = .ok (.getfield 9, 3) := by decide +kernel
theorem dX3_next_99 : decode cX3_next 99 = .ok (.aload_n 0, 1) := by decide +kernel
theorem dX3_next_100 : decode cX3_next 100 = .ok (.getfield 31, 3) := by decide +kernel
theorem dX3_next_103 : decode cX3_next 103 = .ok (.if_icmp .lt 9, 3) := by decide +kernel
theorem dX3_next_106 : decode cX3_next 106 = .ok (.aload_n 0, 1) := by decide +kernel
theorem dX3_next_107 : decode cX3_next 107 = .ok (.iconst 4, 1) := by decide +kernel
theorem dX3_next_108 : decode cX3_next 108 = .ok (.putfield 15, 3) := by decide +kernel
theorem dX3_next_111 : decode cX3_next 111 = .ok (.return_, 1) := by decide +kernel
theorem dX3_next_112 : decode cX3_next 112 = .ok (.aload_n 0, 1) := by decide +kernel
theorem dX3_next_113 : decode cX3_next 113 = .ok (.getfield 27, 3) := by decide +kernel
theorem dX3_next_116 : decode cX3_next 116 = .ok (.aload_n 0, 1) := by decide +kernel
theorem dX3_next_117 : decode cX3_next 117 = .ok (.getfield 9, 3) := by decide +kernel
theorem dX3_next_120 : decode cX3_next 120 = .ok (.baload, 1) := by decide +kernel
theorem dX3_next_121 : decode cX3_next 121 = .ok (.bipush 59, 2) := by decide +kernel
theorem dX3_next_123 : decode cX3_next 123 = .ok (.if_icmp .ne 19, 3) := by decide +kernel
theorem dX3_next_126 : decode cX3_next 126 = .ok (.aload_n 0, 1) := by decide +kernel
theorem dX3_next_127 : decode cX3_next 127 = .ok (.dup, 1) := by decide +kernel
theorem dX3_next_128 : decode cX3_next 128 = .ok (.getfield 9, 3) := by decide +kernel
theorem dX3_next_131 : decode cX3_next 131 = .ok (.iconst 1, 1) := by decide +kernel
theorem dX3_next_132 : decode cX3_next 132 = .ok (.iadd, 1) := by decide +kernel
theorem dX3_next_133 : decode cX3_next 133 = .ok (.putfield 9, 3) := by decide +kernel
theorem dX3_next_136 : decode cX3_next 136 = .ok (.aload_n 0, 1) := by decide +kernel
theorem dX3_next_137 : decode cX3_next 137 = .ok (.iconst 3, 1) := by decide +kernel
theorem dX3_next_138 : decode cX3_next 138 = .ok (.putfield 15, 3) := by decide +kernel
theorem dX3_next_141 : decode cX3_next 141 = .ok (.return_, 1) := by decide +kernel
theorem dX3_next_142 : decode cX3_next 142 = .ok (.aload_n 0, 1) := by decide +kernel
theorem dX3_next_143 : decode cX3_next 143 = .ok (.getfield 27, 3) := by decide +kernel
theorem dX3_next_146 : decode cX3_next 146 = .ok (.aload_n 0, 1) := by decide +kernel
theorem dX3_next_147 : decode cX3_next 147 = .ok (.getfield 9, 3) := by decide +kernel
theorem dX3_next_150 : decode cX3_next 150 = .ok (.baload, 1) := by decide +kernel
theorem dX3_next_151 : decode cX3_next 151 = .ok (.invokestatic 176, 3) := by decide +kernel
theorem dX3_next_154 : decode cX3_next 154 = .ok (.istore_n 3, 1) := by decide +kernel
theorem dX3_next_155 : decode cX3_next 155 = .ok (.aload_n 0, 1) := by decide +kernel
theorem dX3_next_156 : decode cX3_next 156 = .ok (.getfield 9, 3) := by decide +kernel
theorem dX3_next_159 : decode cX3_next 159 = .ok (.aload_n 0, 1) := by decide +kernel
theorem dX3_next_160 : decode cX3_next 160 = .ok (.getfield 31, 3) := by decide +kernel
theorem dX3_next_163 : decode cX3_next 163 = .ok (.if_icmp .ge 53, 3) := by decide +kernel
theorem dX3_next_166 : decode cX3_next 166 = .ok (.iload_n 3, 1) := by decide +kernel
theorem dX3_next_167 : decode cX3_next 167 = .ok (.ifCond .eq 21, 3) := by decide +kernel
theorem dX3_next_170 : decode cX3_next 170 = .ok (.aload_n 0, 1) := by decide +kernel
theorem dX3_next_171 : decode cX3_next 171 = .ok (.getfield 27, 3) := by decide +kernel
theorem dX3_next_174 : decode cX3_next 174 = .ok (.aload_n 0, 1) := by decide +kernel
theorem dX3_next_175 : decode cX3_next 175 = .ok (.getfield 9, 3) := by decide +kernel
theorem dX3_next_178 : decode cX3_next 178 = .ok (.baload, 1) := by decide +kernel
theorem dX3_next_179 : decode cX3_next 179 = .ok (.invokestatic 176, 3) := by decide +kernel
theorem dX3_next_182 : decode cX3_next 182 = .ok (.ifCond .eq 34, 3) := by decide +kernel
theorem dX3_next_185 : decode cX3_next 185 = .ok (.goto 18, 3) := by decide +kernel
theorem dX3_next_188 : decode cX3_next 188 = .ok (.aload_n 0, 1) := by decide +kernel
theorem dX3_next_189 : decode cX3_next 189 = .ok (.getfield 27, 3) := by decide +kernel
theorem dX3_next_192 : decode cX3_next 192 = .ok (.aload_n 0, 1) := by decide +kernel
theorem dX3_next_193 : decode cX3_next 193 = .ok (.getfield 9, 3) := by decide +kernel
theorem dX3_next_196 : decode cX3_next 196 = .ok (.baload, 1) := by decide +kernel
theorem dX3_next_197 : decode cX3_next 197 = .ok (.invokestatic 180, 3) := by decide +kernel
theorem dX3_next_200 : decode cX3_next 200 = .ok (.ifCond .eq 16, 3) := by decide +kernel
theorem dX3_next_203 : decode cX3_next 203 = .ok (.aload_n 0, 1) := by decide +kernel
theorem dX3_next_204 : decode cX3_next 204 = .ok (.dup, 1) := by decide +kernel
theorem dX3_next_205 : decode cX3_next 205 = .ok (.getfield 9, 3) := by decide +kernel
theorem dX3_next_208 : decode cX3_next 208 = .ok (.iconst 1, 1) := by decide +kernel
theorem dX3_next_209 : decode cX3_next 209 = .ok (.iadd, 1) := by decide +kernel
theorem dX3_next_210 : decode cX3_next 210 = .ok (.putfield 9, 3) := by decide +kernel
theorem dX3_next_213 : decode cX3_next 213 = .ok (.goto (-58), 3) := by decide +kernel
theorem dX3_next_216 : decode cX3_next 216 = .ok (.iload_n 1, 1) := by decide +kernel
theorem dX3_next_217 : decode cX3_next 217 = .ok (.ifCond .eq 15, 3) := by decide +kernel
theorem dX3_next_220 : decode cX3_next 220 = .ok (.aload_n 0, 1) := by decide +kernel
theorem dX3_next_221 : decode cX3_next 221 = .ok (.getfield 18, 3) := by decide +kernel
theorem dX3_next_224 : decode cX3_next 224 = .ok (.iload_n 2, 1) := by decide +kernel
theorem dX3_next_225 : decode cX3_next 225 = .ok (.if_icmp .ne 7, 3) := by decide +kernel
theorem dX3_next_228 : decode cX3_next 228 = .ok (.iconst 1, 1) := by decide +kernel
theorem dX3_next_229 : decode cX3_next 229 = .ok (.goto 4, 3) := by decide +kernel
theorem dX3_next_232 : decode cX3_next 232 = .ok (.iconst 0, 1) := by decide +kernel
theorem dX3_next_233 : decode cX3_next 233 = .ok (.istore 4, 2) := by decide +kernel
theorem dX3_next_235 : decode cX3_next 235 = .ok (.aload_n 0, 1) := by decide +kernel
theorem dX3_next_236 : decode cX3_next 236 = .ok (.aload_n 0, 1) := by decide +kernel
theorem dX3_next_237 : decode cX3_next 237 = .ok (.getfield 9, 3) := by decide +kernel
theorem dX3_next_240 : decode cX3_next 240 = .ok (.aload_n 0, 1) := by decide +kernel
theorem dX3_next_241 : decode cX3_next 241 = .ok (.getfield 18, 3) := by decide +kernel
theorem dX3_next_244 : decode cX3_next 244 = .ok (.if_icmp .eq 8, 3) := by decide +kernel
theorem dX3_next_247 : decode cX3_next 247 = .ok (.iload 4, 2) := by decide +kernel
theorem dX3_next_249 : decode cX3_next 249 = .ok (.ifCond .eq 7, 3) := by decide +kernel
theorem dX3_next_252 : decode cX3_next 252 = .ok (.iconst 0, 1) := by decide +kernel
theorem dX3_next_253 : decode cX3_next 253 = .ok (.goto 12, 3) := by decide +kernel
theorem dX3_next_256 : decode cX3_next 256 = .ok (.iload_n 3, 1) := by decide +kernel
theorem dX3_next_257 : decode cX3_next 257 = .ok (.ifCond .eq 7, 3) := by decide +kernel
theorem dX3_next_260 : decode cX3_next 260 = .ok (.iconst 1, 1) := by decide +kernel
theorem dX3_next_261 : decode cX3_next 261 = .ok (.goto 4, 3) := by decide +kernel
theorem dX3_next_264 : decode cX3_next 264 = .ok (.iconst 2, 1) := by decide +kernel
theorem dX3_next_265 : decode cX3_next 265 = .ok (.putfield 15, 3) := by decide +kernel
theorem dX3_next_268 : decode cX3_next 268 = .ok (.return_, 1) := by decide +kernel
theorem dX3_isLetter_0 : decode cX3_isLetter 0 = .ok (.iload_n 0, 1) := by decide +kernel
theorem dX3_isLetter_1 : decode cX3_isLetter 1 = .ok (.bipush 97, 2) := by decide +kernel
theorem dX3_isLetter_3 : decode cX3_isLetter 3 = .ok (.if_icmp .lt 13, 3) := by decide +kernel
theorem dX3_isLetter_6 : decode cX3_isLetter 6 = .ok (.iload_n 0, 1) := by decide +kernel
theorem dX3_isLetter_7 : decode cX3_isLetter 7 = .ok (.bipush 122, 2) := by decide +kernel
theorem dX3_isLetter_9 : decode cX3_isLetter 9 = .ok (.if_icmp .gt 7, 3) := by decide +kernel
theorem dX3_isLetter_12 : decode cX3_isLetter 12 = .ok (.iconst 1, 1) := by decide +kernel
theorem dX3_isLetter_13 : decode cX3_isLetter 13 = .ok (.goto 4, 3) := by decide +kernel
theorem dX3_isLetter_16 : decode cX3_isLetter 16 = .ok (.iconst 0, 1) := by decide +kernel
theorem dX3_isLetter_17 : decode cX3_isLetter 17 = .ok (.ireturn, 1) := by decide +kernel
theorem dX3_isDigit_0 : decode cX3_isDigit 0 = .ok (.iload_n 0, 1) := by decide +kernel
theorem dX3_isDigit_1 : decode cX3_isDigit 1 = .ok (.bipush 48, 2) := by decide +kernel
theorem dX3_isDigit_3 : decode cX3_isDigit 3 = .ok (.if_icmp .lt 13, 3) := by decide +kernel
theorem dX3_isDigit_6 : decode cX3_isDigit 6 = .ok (.iload_n 0, 1) := by decide +kernel
theorem dX3_isDigit_7 : decode cX3_isDigit 7 = .ok (.bipush 57, 2) := by decide +kernel
theorem dX3_isDigit_9 : decode cX3_isDigit 9 = .ok (.if_icmp .gt 7, 3) := by decide +kernel
theorem dX3_isDigit_12 : decode cX3_isDigit 12 = .ok (.iconst 1, 1) := by decide +kernel
theorem dX3_isDigit_13 : decode cX3_isDigit 13 = .ok (.goto 4, 3) := by decide +kernel
theorem dX3_isDigit_16 : decode cX3_isDigit 16 = .ok (.iconst 0, 1) := by decide +kernel
theorem dX3_isDigit_17 : decode cX3_isDigit 17 = .ok (.ireturn, 1) := by decide +kernel
theorem dX4_init_0 : decode cX4_init 0 = .ok (.aload_n 0, 1) := by decide +kernel
theorem dX4_init_1 : decode cX4_init 1 = .ok (.invokespecial 1, 3) := by decide +kernel
theorem dX4_init_4 : decode cX4_init 4 = .ok (.return_, 1) := by decide +kernel
theorem dX4_copyFrom_0 : decode cX4_copyFrom 0 = .ok (.aload_n 0, 1) := by decide +kernel
theorem dX4_copyFrom_1 : decode cX4_copyFrom 1 = .ok (.aload_n 1, 1) := by decide +kernel
theorem dX4_copyFrom_2 : decode cX4_copyFrom 2 = .ok (.getfield 7, 3) := by decide +kernel
theorem dX4_copyFrom_5 : decode cX4_copyFrom 5 = .ok (.putfield 7, 3) := by decide +kernel
theorem dX4_copyFrom_8 : decode cX4_copyFrom 8 = .ok (.aload_n 0, 1) := by decide +kernel
theorem dX4_copyFrom_9 : decode cX4_copyFrom 9 = .ok (.aload_n 1, 1) := by decide +kernel
theorem dX4_copyFrom_10 : decode cX4_copyFrom 10 = .ok (.getfield 13, 3) := by decide +kernel
theorem dX4_copyFrom_13 : decode cX4_copyFrom 13 = .ok (.putfield 13, 3) := by decide +kernel
theorem dX4_copyFrom_16 : decode cX4_copyFrom 16 = .ok (.aload_n 0, 1) := by decide +kernel
theorem dX4_copyFrom_17 : decode cX4_copyFrom 17 = .ok (.aload_n 1, 1) := by decide +kernel
theorem dX4_copyFrom_18 : decode cX4_copyFrom 18 = .ok (.getfield 16, 3) := by decide +kernel
theorem dX4_copyFrom_21 : decode cX4_copyFrom 21 = .ok (.putfield 16, 3) := by decide +kernel
theorem dX4_copyFrom_24 : decode cX4_copyFrom 24 = .ok (.aload_n 0, 1) := by decide +kernel
theorem dX4_copyFrom_25 : decode cX4_copyFrom 25 = .ok (.aload_n 1, 1) := by decide +kernel
theorem dX4_copyFrom_26 : decode cX4_copyFrom 26 = .ok (.getfield 19, 3) := by decide +kernel
theorem dX4_copyFrom_29 : decode cX4_copyFrom 29 = .ok (.putfield 19, 3) := by decide +kernel
theorem dX4_copyFrom_32 : decode cX4_copyFrom 32 = .ok (.return_, 1) := by decide +kernel
theorem dX4_covers_0 : decode cX4_covers 0 = .ok (.aload_n 0, 1) := by decide +kernel
theorem dX4_covers_1 : decode cX4_covers 1 = .ok (.getfield 19, 3) := by decide +kernel
theorem dX4_covers_4 : decode cX4_covers 4 = .ok (.ifCond .ne 36, 3) := by decide +kernel
theorem dX4_covers_7 : decode cX4_covers 7 = .ok (.aload_n 0, 1) := by decide +kernel
theorem dX4_covers_8 : decode cX4_covers 8 = .ok (.getfield 7, 3) := by decide +kernel
theorem dX4_covers_11 : decode cX4_covers 11 = .ok (.iload_n 1, 1) := by decide +kernel
theorem dX4_covers_12 : decode cX4_covers 12 = .ok (.if_icmp .ne 28, 3) := by decide +kernel
theorem dX4_covers_15 : decode cX4_covers 15 = .ok (.aload_n 0, 1) := by decide +kernel
theorem dX4_covers_16 : decode cX4_covers 16 = .ok (.getfield 13, 3) := by decide +kernel
theorem dX4_covers_19 : decode cX4_covers 19 = .ok (.iload_n 2, 1) := by decide +kernel
theorem dX4_covers_20 : decode cX4_covers 20 = .ok (.if_icmp .gt 20, 3) := by decide +kernel
theorem dX4_covers_23 : decode cX4_covers 23 = .ok (.iload_n 2, 1) := by decide +kernel
theorem dX4_covers_24 : decode cX4_covers 24 = .ok (.aload_n 0, 1) := by decide +kernel
theorem dX4_covers_25 : decode cX4_covers 25 = .ok (.getfield 13, 3) := by decide +kernel
theorem dX4_covers_28 : decode cX4_covers 28 = .ok (.aload_n 0, 1) := by decide +kernel
theorem dX4_covers_29 : decode cX4_covers 29 = .ok (.getfield 16, 3) := by decide +kernel
theorem dX4_covers_32 : decode cX4_covers 32 = .ok (.iadd, 1) := by decide +kernel
theorem dX4_covers_33 : decode cX4_covers 33 = .ok (.if_icmp .ge 7, 3) := by decide +kernel
theorem dX4_covers_36 : decode cX4_covers 36 = .ok (.iconst 1, 1) := by decide +kernel
theorem dX4_covers_37 : decode cX4_covers 37 = .ok (.goto 4, 3) := by decide +kernel
theorem dX4_covers_40 : decode cX4_covers 40 = .ok (.iconst 0, 1) := by decide +kernel
theorem dX4_covers_41 : decode cX4_covers 41 = .ok (.ireturn, 1) := by decide +kernel
theorem dX5_init_0 : decode cX5_init 0 = .ok (.aload_n 0, 1) := by decide +kernel
theorem dX5_init_1 : decode cX5_init 1 = .ok (.invokespecial 3, 3) := by decide +kernel
theorem dX5_init_4 : decode cX5_init 4 = .ok (.aload_n 0, 1) := by decide +kernel
theorem dX5_init_5 : decode cX5_init 5 = .ok (.bipush 8, 2) := by decide +kernel
theorem dX5_init_7 : decode cX5_init 7 = .ok (.anewarray 9, 3) := by decide +kernel
theorem dX5_init_10 : decode cX5_init 10 = .ok (.putfield 11, 3) := by decide +kernel
theorem dX5_init_13 : decode cX5_init 13 = .ok (.aload_n 0, 1) := by decide +kernel
theorem dX5_init_14 : decode cX5_init 14 = .ok (.bipush 12, 2) := by decide +kernel
theorem dX5_init_16 : decode cX5_init 16 = .ok (.anewarray 17, 3) := by decide +kernel
theorem dX5_init_19 : decode cX5_init 19 = .ok (.putfield 19, 3) := by decide +kernel
theorem dX5_init_22 : decode cX5_init 22 = .ok (.aload_n 0, 1) := by decide +kernel
theorem dX5_init_23 : decode cX5_init 23 = .ok (.bipush 30, 2) := by decide +kernel
theorem dX5_init_25 : decode cX5_init 25 = .ok (.anewarray 23, 3) := by decide +kernel
theorem dX5_init_28 : decode cX5_init 28 = .ok (.putfield 25, 3) := by decide +kernel
theorem dX5_init_31 : decode cX5_init 31 = .ok (.aload_n 0, 1) := by decide +kernel
theorem dX5_init_32 : decode cX5_init 32 = .ok (.bipush 10, 2) := by decide +kernel
theorem dX5_init_34 : decode cX5_init 34 = .ok (.anewarray 29, 3) := by decide +kernel
theorem dX5_init_37 : decode cX5_init 37 = .ok (.putfield 31, 3) := by decide +kernel
theorem dX5_init_40 : decode cX5_init 40 = .ok (.iconst 0, 1) := by decide +kernel
theorem dX5_init_41 : decode cX5_init 41 = .ok (.istore_n 1, 1) := by decide +kernel
theorem dX5_init_42 : decode cX5_init 42 = .ok (.iload_n 1, 1) := by decide +kernel
theorem dX5_init_43 : decode cX5_init 43 = .ok (.bipush 8, 2) := by decide +kernel
theorem dX5_init_45 : decode cX5_init 45 = .ok (.if_icmp .ge 22, 3) := by decide +kernel
theorem dX5_init_48 : decode cX5_init 48 = .ok (.aload_n 0, 1) := by decide +kernel
theorem dX5_init_49 : decode cX5_init 49 = .ok (.getfield 11, 3) := by decide +kernel
theorem dX5_init_52 : decode cX5_init 52 = .ok (.iload_n 1, 1) := by decide +kernel
theorem dX5_init_53 : decode cX5_init 53 = .ok (.new 9, 3) := by decide +kernel
theorem dX5_init_56 : decode cX5_init 56 = .ok (.dup, 1) := by decide +kernel
theorem dX5_init_57 : decode cX5_init 57 = .ok (.invokespecial 35, 3) := by decide +kernel
theorem dX5_init_60 : decode cX5_init 60 = .ok (.aastore, 1) := by decide +kernel
theorem dX5_init_61 : decode cX5_init 61 = .ok (.iinc 1 1, 3) := by decide +kernel
theorem dX5_init_64 : decode cX5_init 64 = .ok (.goto (-22), 3) := by decide +kernel
theorem dX5_init_67 : decode cX5_init 67 = .ok (.iconst 0, 1) := by decide +kernel
theorem dX5_init_68 : decode cX5_init 68 = .ok (.istore_n 1, 1) := by decide +kernel
theorem dX5_init_69 : decode cX5_init 69 = .ok (.iload_n 1, 1) := by decide +kernel
theorem dX5_init_70 : decode cX5_init 70 = .ok (.bipush 12, 2) := by decide +kernel
theorem dX5_init_72 : decode cX5_init 72 = .ok (.if_icmp .ge 22, 3) := by decide +kernel
theorem dX5_init_75 : decode cX5_init 75 = .ok (.aload_n 0, 1) := by decide +kernel
theorem dX5_init_76 : decode cX5_init 76 = .ok (.getfield 19, 3) := by decide +kernel
theorem dX5_init_79 : decode cX5_init 79 = .ok (.iload_n 1, 1) := by decide +kernel
theorem dX5_init_80 : decode cX5_init 80 = .ok (.new 17, 3) := by decide +kernel
theorem dX5_init_83 : decode cX5_init 83 = .ok (.dup, 1) := by decide +kernel
theorem dX5_init_84 : decode cX5_init 84 = .ok (.invokespecial 36, 3) := by decide +kernel
theorem dX5_init_87 : decode cX5_init 87 = .ok (.aastore, 1) := by decide +kernel
theorem dX5_init_88 : decode cX5_init 88 = .ok (.iinc 1 1, 3) := by decide +kernel
theorem dX5_init_91 : decode cX5_init 91 = .ok (.goto (-22), 3) := by decide +kernel
theorem dX5_init_94 : decode cX5_init 94 = .ok (.iconst 0, 1) := by decide +kernel
theorem dX5_init_95 : decode cX5_init 95 = .ok (.istore_n 1, 1) := by decide +kernel
theorem dX5_init_96 : decode cX5_init 96 = .ok (.iload_n 1, 1) := by decide +kernel
theorem dX5_init_97 : decode cX5_init 97 = .ok (.bipush 30, 2) := by decide +kernel
theorem dX5_init_99 : decode cX5_init 99 = .ok (.if_icmp .ge 22, 3) := by decide +kernel
theorem dX5_init_102 : decode cX5_init 102 = .ok (.aload_n 0, 1) := by decide +kernel
theorem dX5_init_103 : decode cX5_init 103 = .ok (.getfield 25, 3) := by decide +kernel
theorem dX5_init_106 : decode cX5_init 106 = .ok (.iload_n 1, 1) := by decide +kernel
theorem dX5_init_107 : decode cX5_init 107 = .ok (.new 23, 3) := by decide +kernel
theorem dX5_init_110 : decode cX5_init 110 = .ok (.dup, 1) := by decide +kernel
theorem dX5_init_111 : decode cX5_init 111 = .ok (.invokespecial 37, 3) := by decide +kernel
theorem dX5_init_114 : decode cX5_init 114 = .ok (.aastore, 1) := by decide +kernel
theorem dX5_init_115 : decode cX5_init 115 = .ok (.iinc 1 1, 3) := by decide +kernel
theorem dX5_init_118 : decode cX5_init 118 = .ok (.goto (-22), 3) := by decide +kernel
theorem dX5_init_121 : decode cX5_init 121 = .ok (.iconst 0, 1) := by decide +kernel
theorem dX5_init_122 : decode cX5_init 122 = .ok (.istore_n 1, 1) := by decide +kernel
theorem dX5_init_123 : decode cX5_init 123 = .ok (.iload_n 1, 1) := by decide +kernel
theorem dX5_init_124 : decode cX5_init 124 = .ok (.bipush 10, 2) := by decide +kernel
theorem dX5_init_126 : decode cX5_init 126 = .ok (.if_icmp .ge 22, 3) := by decide +kernel
theorem dX5_init_129 : decode cX5_init 129 = .ok (.aload_n 0, 1) := by decide +kernel
theorem dX5_init_130 : decode cX5_init 130 = .ok (.getfield 31, 3) := by decide +kernel
theorem dX5_init_133 : decode cX5_init 133 = .ok (.iload_n 1, 1) := by decide +kernel
theorem dX5_init_134 : decode cX5_init 134 = .ok (.new 29, 3) := by decide +kernel
theorem dX5_init_137 : decode cX5_init 137 = .ok (.dup, 1) := by decide +kernel
theorem dX5_init_138 : decode cX5_init 138 = .ok (.invokespecial 38, 3) := by decide +kernel
theorem dX5_init_141 : decode cX5_init 141 = .ok (.aastore, 1) := by decide +kernel
theorem dX5_init_142 : decode cX5_init 142 = .ok (.iinc 1 1, 3) := by decide +kernel
theorem dX5_init_145 : decode cX5_init 145 = .ok (.goto (-22), 3) := by decide +kernel
theorem dX5_init_148 : decode cX5_init 148 = .ok (.return_, 1) := by decide +kernel
theorem dX5_clear_0 : decode cX5_clear 0 = .ok (.aload_n 0, 1) := by decide +kernel
theorem dX5_clear_1 : decode cX5_clear 1 = .ok (.iconst 0, 1) := by decide +kernel
theorem dX5_clear_2 : decode cX5_clear 2 = .ok (.putfield 39, 3) := by decide +kernel
theorem dX5_clear_5 : decode cX5_clear 5 = .ok (.aload_n 0, 1) := by decide +kernel
theorem dX5_clear_6 : decode cX5_clear 6 = .ok (.iconst 0, 1) := by decide +kernel
theorem dX5_clear_7 : decode cX5_clear 7 = .ok (.putfield 43, 3) := by decide +kernel
theorem dX5_clear_10 : decode cX5_clear 10 = .ok (.aload_n 0, 1) := by decide +kernel
theorem dX5_clear_11 : decode cX5_clear 11 = .ok (.iconst 0, 1) := by decide +kernel
theorem dX5_clear_12 : decode cX5_clear 12 = .ok (.putfield 46, 3) := by decide +kernel
theorem dX5_clear_15 : decode cX5_clear 15 = .ok (.aload_n 0, 1) := by decide +kernel
theorem dX5_clear_16 : decode cX5_clear 16 = .ok (.iconst 0, 1) := by decide +kernel
theorem dX5_clear_17 : decode cX5_clear 17 = .ok (.putfield 49, 3) := by decide +kernel
theorem dX5_clear_20 : decode cX5_clear 20 = .ok (.aload_n 0, 1) := by decide +kernel
theorem dX5_clear_21 : decode cX5_clear 21 = .ok (.iconst 0, 1) := by decide +kernel
theorem dX5_clear_22 : decode cX5_clear 22 = .ok (.putfield 52, 3) := by decide +kernel
theorem dX5_clear_25 : decode cX5_clear 25 = .ok (.aload_n 0, 1) := by decide +kernel
theorem dX5_clear_26 : decode cX5_clear 26 = .ok (.iconst 0, 1) := by decide +kernel
theorem dX5_clear_27 : decode cX5_clear 27 = .ok (.putfield 55, 3) := by decide +kernel
theorem dX5_clear_30 : decode cX5_clear 30 = .ok (.aload_n 0, 1) := by decide +kernel
theorem dX5_clear_31 : decode cX5_clear 31 = .ok (.iconst 0, 1) := by decide +kernel
theorem dX5_clear_32 : decode cX5_clear 32 = .ok (.putfield 58, 3) := by decide +kernel
theorem dX5_clear_35 : decode cX5_clear 35 = .ok (.aload_n 0, 1) := by decide +kernel
theorem dX5_clear_36 : decode cX5_clear 36 = .ok (.iconst 0, 1) := by decide +kernel
theorem dX5_clear_37 : decode cX5_clear 37 = .ok (.putfield 61, 3) := by decide +kernel
theorem dX5_clear_40 : decode cX5_clear 40 = .ok (.aload_n 0, 1) := by decide +kernel
theorem dX5_clear_41 : decode cX5_clear 41 = .ok (.iconst 0, 1) := by decide +kernel
theorem dX5_clear_42 : decode cX5_clear 42 = .ok (.putfield 64, 3) := by decide +kernel
theorem dX5_clear_45 : decode cX5_clear 45 = .ok (.return_, 1) := by decide +kernel
theorem dX5_copyFrom_0 : decode cX5_copyFrom 0 = .ok (.aload_n 0, 1) := by decide +kernel
theorem dX5_copyFrom_1 : decode cX5_copyFrom 1 = .ok (.aload_n 1, 1) := by decide +kernel
theorem dX5_copyFrom_2 : decode cX5_copyFrom 2 = .ok (.getfield 39, 3) := by decide +kernel
theorem dX5_copyFrom_5 : decode cX5_copyFrom 5 = .ok (.putfield 39, 3) := by decide +kernel
theorem dX5_copyFrom_8 : decode cX5_copyFrom 8 = .ok (.aload_n 0, 1) := by decide +kernel
theorem dX5_copyFrom_9 : decode cX5_copyFrom 9 = .ok (.aload_n 1, 1) := by decide +kernel
theorem dX5_copyFrom_10 : decode cX5_copyFrom 10 = .ok (.getfield 43, 3) := by decide +kernel
theorem dX5_copyFrom_13 : decode cX5_copyFrom 13 = .ok (.putfield 43, 3) := by decide +kernel
theorem dX5_copyFrom_16 : decode cX5_copyFrom 16 = .ok (.aload_n 0, 1) := by decide +kernel
theorem dX5_copyFrom_17 : decode cX5_copyFrom 17 = .ok (.aload_n 1, 1) := by decide +kernel
theorem dX5_copyFrom_18 : decode cX5_copyFrom 18 = .ok (.getfield 46, 3) := by decide +kernel
theorem dX5_copyFrom_21 : decode cX5_copyFrom 21 = .ok (.putfield 46, 3) := by decide +kernel
theorem dX5_copyFrom_24 : decode cX5_copyFrom 24 = .ok (.aload_n 0, 1) := by decide +kernel
theorem dX5_copyFrom_25 : decode cX5_copyFrom 25 = .ok (.aload_n 1, 1) := by decide +kernel
theorem dX5_copyFrom_26 : decode cX5_copyFrom 26 = .ok (.getfield 49, 3) := by decide +kernel
theorem dX5_copyFrom_29 : decode cX5_copyFrom 29 = .ok (.putfield 49, 3) := by decide +kernel
theorem dX5_copyFrom_32 : decode cX5_copyFrom 32 = .ok (.aload_n 0, 1) := by decide +kernel
theorem dX5_copyFrom_33 : decode cX5_copyFrom 33 = .ok (.aload_n 1, 1) := by decide +kernel
theorem dX5_copyFrom_34 : decode cX5_copyFrom 34 = .ok (.getfield 52, 3) := by decide +kernel
theorem dX5_copyFrom_37 : decode cX5_copyFrom 37 = .ok (.putfield 52, 3) := by decide +kernel
theorem dX5_copyFrom_40 : decode cX5_copyFrom 40 = .ok (.aload_n 0, 1) := by decide +kernel
theorem dX5_copyFrom_41 : decode cX5_copyFrom 41 = .ok (.aload_n 1, 1) := by decide +kernel
theorem dX5_copyFrom_42 : decode cX5_copyFrom 42 = .ok (.getfield 55, 3) := by decide +kernel
theorem dX5_copyFrom_45 : decode cX5_copyFrom 45 = .ok (.putfield 55, 3) := by decide +kernel
theorem dX5_copyFrom_48 : decode cX5_copyFrom 48 = .ok (.aload_n 0, 1) := by decide +kernel
theorem dX5_copyFrom_49 : decode cX5_copyFrom 49 = .ok (.aload_n 1, 1) := by decide +kernel
theorem dX5_copyFrom_50 : decode cX5_copyFrom 50 = .ok (.getfield 58, 3) := by decide +kernel
theorem dX5_copyFrom_53 : decode cX5_copyFrom 53 = .ok (.putfield 58, 3) := by decide +kernel
theorem dX5_copyFrom_56 : decode cX5_copyFrom 56 = .ok (.aload_n 0, 1) := by decide +kernel
theorem dX5_copyFrom_57 : decode cX5_copyFrom 57 = .ok (.aload_n 1, 1) := by decide +kernel
theorem dX5_copyFrom_58 : decode cX5_copyFrom 58 = .ok (.getfield 61, 3) := by decide +kernel
theorem dX5_copyFrom_61 : decode cX5_copyFrom 61 = .ok (.putfield 61, 3) := by decide +kernel
theorem dX5_copyFrom_64 : decode cX5_copyFrom 64 = .ok (.aload_n 0, 1) := by decide +kernel
theorem dX5_copyFrom_65 : decode cX5_copyFrom 65 = .ok (.aload_n 1, 1) := by decide +kernel
theorem dX5_copyFrom_66 : decode cX5_copyFrom 66 = .ok (.getfield 64, 3) := by decide +kernel
theorem dX5_copyFrom_69 : decode cX5_copyFrom 69 = .ok (.putfield 64, 3) := by decide +kernel
theorem dX5_copyFrom_72 : decode cX5_copyFrom 72 = .ok (.iconst 0, 1) := by decide +kernel
theorem dX5_copyFrom_73 : decode cX5_copyFrom 73 = .ok (.istore_n 2, 1) := by decide +kernel
theorem dX5_copyFrom_74 : decode cX5_copyFrom 74 = .ok (.iload_n 2, 1) := by decide +kernel
theorem dX5_copyFrom_75 : decode cX5_copyFrom 75 = .ok (.aload_n 0, 1) := by decide +kernel
theorem dX5_copyFrom_76 : decode cX5_copyFrom 76 = .ok (.getfield 55, 3) := by decide +kernel
theorem dX5_copyFrom_79 : decode cX5_copyFrom 79 = .ok (.if_icmp .ge 24, 3) := by decide +kernel
theorem dX5_copyFrom_82 : decode cX5_copyFrom 82 = .ok (.aload_n 0, 1) := by decide +kernel
theorem dX5_copyFrom_83 : decode cX5_copyFrom 83 = .ok (.getfield 11, 3) := by decide +kernel
theorem dX5_copyFrom_86 : decode cX5_copyFrom 86 = .ok (.iload_n 2, 1) := by decide +kernel
theorem dX5_copyFrom_87 : decode cX5_copyFrom 87 = .ok (.aaload, 1) := by decide +kernel
theorem dX5_copyFrom_88 : decode cX5_copyFrom 88 = .ok (.aload_n 1, 1) := by decide +kernel
theorem dX5_copyFrom_89 : decode cX5_copyFrom 89 = .ok (.getfield 11, 3) := by decide +kernel
theorem dX5_copyFrom_92 : decode cX5_copyFrom 92 = .ok (.iload_n 2, 1) := by decide +kernel
theorem dX5_copyFrom_93 : decode cX5_copyFrom 93 = .ok (.aaload, 1) := by decide +kernel
theorem dX5_copyFrom_94 : decode cX5_copyFrom 94 = .ok (.invokevirtual 67, 3) := by decide +kernel
theorem dX5_copyFrom_97 : decode cX5_copyFrom 97 = .ok (.iinc 2 1, 3) := by decide +kernel
theorem dX5_copyFrom_100 : decode cX5_copyFrom 100 = .ok (.goto (-26), 3) := by decide +kernel
theorem dX5_copyFrom_103 : decode cX5_copyFrom 103 = .ok (.iconst 0, 1) := by decide +kernel
theorem dX5_copyFrom_104 : decode cX5_copyFrom 104 = .ok (.istore_n 2, 1) := by decide +kernel
theorem dX5_copyFrom_105 : decode cX5_copyFrom 105 = .ok (.iload_n 2, 1) := by decide +kernel
theorem dX5_copyFrom_106 : decode cX5_copyFrom 106 = .ok (.aload_n 0, 1) := by decide +kernel
theorem dX5_copyFrom_107 : decode cX5_copyFrom 107 = .ok (.getfield 58, 3) := by decide +kernel
theorem dX5_copyFrom_110 : decode cX5_copyFrom 110 = .ok (.if_icmp .ge 24, 3) := by decide +kernel
theorem dX5_copyFrom_113 : decode cX5_copyFrom 113 = .ok (.aload_n 0, 1) := by decide +kernel
theorem dX5_copyFrom_114 : decode cX5_copyFrom 114 = .ok (.getfield 19, 3) := by decide +kernel
theorem dX5_copyFrom_117 : decode cX5_copyFrom 117 = .ok (.iload_n 2, 1) := by decide +kernel
theorem dX5_copyFrom_118 : decode cX5_copyFrom 118 = .ok (.aaload, 1) := by decide +kernel
theorem dX5_copyFrom_119 : decode cX5_copyFrom 119 = .ok (.aload_n 1, 1) := by decide +kernel
theorem dX5_copyFrom_120 : decode cX5_copyFrom 120 = .ok (.getfield 19, 3) := by decide +kernel
theorem dX5_copyFrom_123 : decode cX5_copyFrom 123 = .ok (.iload_n 2, 1) := by decide +kernel
theorem dX5_copyFrom_124 : decode cX5_copyFrom 124 = .ok (.aaload, 1) := by decide +kernel
theorem dX5_copyFrom_125 : decode cX5_copyFrom 125 = .ok (.invokevirtual 71, 3) := by decide +kernel
theorem dX5_copyFrom_128 : decode cX5_copyFrom 128 = .ok (.iinc 2 1, 3) := by decide +kernel
theorem dX5_copyFrom_131 : decode cX5_copyFrom 131 = .ok (.goto (-26), 3) := by decide +kernel
theorem dX5_copyFrom_134 : decode cX5_copyFrom 134 = .ok (.iconst 0, 1) := by decide +kernel
theorem dX5_copyFrom_135 : decode cX5_copyFrom 135 = .ok (.istore_n 2, 1) := by decide +kernel
theorem dX5_copyFrom_136 : decode cX5_copyFrom 136 = .ok (.iload_n 2, 1) := by decide +kernel
theorem dX5_copyFrom_137 : decode cX5_copyFrom 137 = .ok (.aload_n 0, 1) := by decide +kernel
theorem dX5_copyFrom_138 : decode cX5_copyFrom 138 = .ok (.getfield 61, 3) := by decide +kernel
theorem dX5_copyFrom_141 : decode cX5_copyFrom 141 = .ok (.if_icmp .ge 24, 3) := by decide +kernel
theorem dX5_copyFrom_144 : decode cX5_copyFrom 144 = .ok (.aload_n 0, 1) := by decide +kernel
theorem dX5_copyFrom_145 : decode cX5_copyFrom 145 = .ok (.getfield 25, 3) := by decide +kernel
theorem dX5_copyFrom_148 : decode cX5_copyFrom 148 = .ok (.iload_n 2, 1) := by decide +kernel
theorem dX5_copyFrom_149 : decode cX5_copyFrom 149 = .ok (.aaload, 1) := by decide +kernel
theorem dX5_copyFrom_150 : decode cX5_copyFrom 150 = .ok (.aload_n 1, 1) := by decide +kernel
theorem dX5_copyFrom_151 : decode cX5_copyFrom 151 = .ok (.getfield 25, 3) := by decide +kernel
theorem dX5_copyFrom_154 : decode cX5_copyFrom 154 = .ok (.iload_n 2, 1) := by decide +kernel
theorem dX5_copyFrom_155 : decode cX5_copyFrom 155 = .ok (.aaload, 1) := by decide +kernel
theorem dX5_copyFrom_156 : decode cX5_copyFrom 156 = .ok (.invokevirtual 74, 3) := by decide +kernel
theorem dX5_copyFrom_159 : decode cX5_copyFrom 159 = .ok (.iinc 2 1, 3) := by decide +kernel
theorem dX5_copyFrom_162 : decode cX5_copyFrom 162 = .ok (.goto (-26), 3) := by decide +kernel
theorem dX5_copyFrom_165 : decode cX5_copyFrom 165 = .ok (.iconst 0, 1) := by decide +kernel
theorem dX5_copyFrom_166 : decode cX5_copyFrom 166 = .ok (.istore_n 2, 1) := by decide +kernel
theorem dX5_copyFrom_167 : decode cX5_copyFrom 167 = .ok (.iload_n 2, 1) := by decide +kernel
theorem dX5_copyFrom_168 : decode cX5_copyFrom 168 = .ok (.aload_n 0, 1) := by decide +kernel
theorem dX5_copyFrom_169 : decode cX5_copyFrom 169 = .ok (.getfield 64, 3) := by decide +kernel
theorem dX5_copyFrom_172 : decode cX5_copyFrom 172 = .ok (.if_icmp .ge 24, 3) := by decide +kernel
theorem dX5_copyFrom_175 : decode cX5_copyFrom 175 = .ok (.aload_n 0, 1) := by decide +kernel
theorem dX5_copyFrom_176 : decode cX5_copyFrom 176 = .ok (.getfield 31, 3) := by decide +kernel
theorem dX5_copyFrom_179 : decode cX5_copyFrom 179 = .ok (.iload_n 2, 1) := by decide +kernel
theorem dX5_copyFrom_180 : decode cX5_copyFrom 180 = .ok (.aaload, 1) := by decide +kernel
theorem dX5_copyFrom_181 : decode cX5_copyFrom 181 = .ok (.aload_n 1, 1) := by decide +kernel
theorem dX5_copyFrom_182 : decode cX5_copyFrom 182 = .ok (.getfield 31, 3) := by decide +kernel
theorem dX5_copyFrom_185 : decode cX5_copyFrom 185 = .ok (.iload_n 2, 1) := by decide +kernel
theorem dX5_copyFrom_186 : decode cX5_copyFrom 186 = .ok (.aaload, 1) := by decide +kernel
theorem dX5_copyFrom_187 : decode cX5_copyFrom 187 = .ok (.invokevirtual 77, 3) := by decide +kernel
theorem dX5_copyFrom_190 : decode cX5_copyFrom 190 = .ok (.iinc 2 1, 3) := by decide +kernel
theorem dX5_copyFrom_193 : decode cX5_copyFrom 193 = .ok (.goto (-26), 3) := by decide +kernel
theorem dX5_copyFrom_196 : decode cX5_copyFrom 196 = .ok (.return_, 1) := by decide +kernel
theorem dX5_streetNamed_0 : decode cX5_streetNamed 0 = .ok (.iconst 0, 1) := by decide +kernel
theorem dX5_streetNamed_1 : decode cX5_streetNamed 1 = .ok (.istore_n 2, 1) := by decide +kernel
theorem dX5_streetNamed_2 : decode cX5_streetNamed 2 = .ok (.iload_n 2, 1) := by decide +kernel
theorem dX5_streetNamed_3 : decode cX5_streetNamed 3 = .ok (.aload_n 0, 1) := by decide +kernel
theorem dX5_streetNamed_4 : decode cX5_streetNamed 4 = .ok (.getfield 55, 3) := by decide +kernel
theorem dX5_streetNamed_7 : decode cX5_streetNamed 7 = .ok (.if_icmp .ge 24, 3) := by decide +kernel
theorem dX5_streetNamed_10 : decode cX5_streetNamed 10 = .ok (.aload_n 0, 1) := by decide +kernel
theorem dX5_streetNamed_11 : decode cX5_streetNamed 11 = .ok (.getfield 11, 3) := by decide +kernel
theorem dX5_streetNamed_14 : decode cX5_streetNamed 14 = .ok (.iload_n 2, 1) := by decide +kernel
theorem dX5_streetNamed_15 : decode cX5_streetNamed 15 = .ok (.aaload, 1) := by decide +kernel
theorem dX5_streetNamed_16 : decode cX5_streetNamed 16 = .ok (.getfield 80, 3) := by decide +kernel
theorem dX5_streetNamed_19 : decode cX5_streetNamed 19 = .ok (.iload_n 1, 1) := by decide +kernel
theorem dX5_streetNamed_20 : decode cX5_streetNamed 20 = .ok (.if_icmp .ne 5, 3) := by decide +kernel
theorem dX5_streetNamed_23 : decode cX5_streetNamed 23 = .ok (.iload_n 2, 1) := by decide +kernel
theorem dX5_streetNamed_24 : decode cX5_streetNamed 24 = .ok (.ireturn, 1) := by decide +kernel
theorem dX5_streetNamed_25 : decode cX5_streetNamed 25 = .ok (.iinc 2 1, 3) := by decide +kernel
theorem dX5_streetNamed_28 : decode cX5_streetNamed 28 = .ok (.goto (-26), 3) := by decide +kernel
theorem dX5_streetNamed_31 : decode cX5_streetNamed 31 = .ok (.iconst (-1), 1) := by decide +kernel
theorem dX5_streetNamed_32 : decode cX5_streetNamed 32 = .ok (.ireturn, 1) := by decide +kernel
theorem dX5_borrowerNamed_0 : decode cX5_borrowerNamed 0 = .ok (.iconst 0, 1) := by decide +kernel
theorem dX5_borrowerNamed_1 : decode cX5_borrowerNamed 1 = .ok (.istore_n 2, 1) := by decide +kernel
theorem dX5_borrowerNamed_2 : decode cX5_borrowerNamed 2 = .ok (.iload_n 2, 1) := by decide +kernel
theorem dX5_borrowerNamed_3 : decode cX5_borrowerNamed 3 = .ok (.aload_n 0, 1) := by decide +kernel
theorem dX5_borrowerNamed_4 : decode cX5_borrowerNamed 4 = .ok (.getfield 58, 3) := by decide +kernel
theorem dX5_borrowerNamed_7 : decode cX5_borrowerNamed 7 = .ok (.if_icmp .ge 24, 3) := by decide +kernel
theorem dX5_borrowerNamed_10 : decode cX5_borrowerNamed 10 = .ok (.aload_n 0, 1) := by decide +kernel
theorem dX5_borrowerNamed_11 : decode cX5_borrowerNamed 11 = .ok (.getfield 19, 3) := by decide +kernel
theorem dX5_borrowerNamed_14 : decode cX5_borrowerNamed 14 = .ok (.iload_n 2, 1) := by decide +kernel
theorem dX5_borrowerNamed_15 : decode cX5_borrowerNamed 15 = .ok (.aaload, 1) := by decide +kernel
theorem dX5_borrowerNamed_16 : decode cX5_borrowerNamed 16 = .ok (.getfield 83, 3) := by decide +kernel
theorem dX5_borrowerNamed_19 : decode cX5_borrowerNamed 19 = .ok (.iload_n 1, 1) := by decide +kernel
theorem dX5_borrowerNamed_20 : decode cX5_borrowerNamed 20 = .ok (.if_icmp .ne 5, 3) := by decide +kernel
theorem dX5_borrowerNamed_23 : decode cX5_borrowerNamed 23 = .ok (.iload_n 2, 1) := by decide +kernel
theorem dX5_borrowerNamed_24 : decode cX5_borrowerNamed 24 = .ok (.ireturn, 1) := by decide +kernel
theorem dX5_borrowerNamed_25 : decode cX5_borrowerNamed 25 = .ok (.iinc 2 1, 3) := by decide +kernel
theorem dX5_borrowerNamed_28 : decode cX5_borrowerNamed 28 = .ok (.goto (-26), 3) := by decide +kernel
theorem dX5_borrowerNamed_31 : decode cX5_borrowerNamed 31 = .ok (.iconst (-1), 1) := by decide +kernel
theorem dX5_borrowerNamed_32 : decode cX5_borrowerNamed 32 = .ok (.ireturn, 1) := by decide +kernel
theorem dX5_streetOfLoan_0 : decode cX5_streetOfLoan 0 = .ok (.aload_n 0, 1) := by decide +kernel
theorem dX5_streetOfLoan_1 : decode cX5_streetOfLoan 1 = .ok (.getfield 19, 3) := by decide +kernel
theorem dX5_streetOfLoan_4 : decode cX5_streetOfLoan 4 = .ok (.aload_n 0, 1) := by decide +kernel
theorem dX5_streetOfLoan_5 : decode cX5_streetOfLoan 5 = .ok (.getfield 25, 3) := by decide +kernel
theorem dX5_streetOfLoan_8 : decode cX5_streetOfLoan 8 = .ok (.iload_n 1, 1) := by decide +kernel
theorem dX5_streetOfLoan_9 : decode cX5_streetOfLoan 9 = .ok (.aaload, 1) := by decide +kernel
theorem dX5_streetOfLoan_10 : decode cX5_streetOfLoan 10 = .ok (.getfield 84, 3) := by decide +kernel
theorem dX5_streetOfLoan_13 : decode cX5_streetOfLoan 13 = .ok (.aaload, 1) := by decide +kernel
theorem dX5_streetOfLoan_14 : decode cX5_streetOfLoan 14 = .ok (.getfield 87, 3) := by decide +kernel
theorem dX5_streetOfLoan_17 : decode cX5_streetOfLoan 17 = .ok (.ireturn, 1) := by decide +kernel
theorem dX5_countLoans_0 : decode cX5_countLoans 0 = .ok (.iconst 0, 1) := by decide +kernel
theorem dX5_countLoans_1 : decode cX5_countLoans 1 = .ok (.istore_n 2, 1) := by decide +kernel
theorem dX5_countLoans_2 : decode cX5_countLoans 2 = .ok (.iconst 0, 1) := by decide +kernel
theorem dX5_countLoans_3 : decode cX5_countLoans 3 = .ok (.istore_n 3, 1) := by decide +kernel
theorem dX5_countLoans_4 : decode cX5_countLoans 4 = .ok (.iload_n 3, 1) := by decide +kernel
theorem dX5_countLoans_5 : decode cX5_countLoans 5 = .ok (.aload_n 0, 1) := by decide +kernel
theorem dX5_countLoans_6 : decode cX5_countLoans 6 = .ok (.getfield 61, 3) := by decide +kernel
theorem dX5_countLoans_9 : decode cX5_countLoans 9 = .ok (.if_icmp .ge 25, 3) := by decide +kernel
theorem dX5_countLoans_12 : decode cX5_countLoans 12 = .ok (.aload_n 0, 1) := by decide +kernel
theorem dX5_countLoans_13 : decode cX5_countLoans 13 = .ok (.getfield 25, 3) := by decide +kernel
theorem dX5_countLoans_16 : decode cX5_countLoans 16 = .ok (.iload_n 3, 1) := by decide +kernel
theorem dX5_countLoans_17 : decode cX5_countLoans 17 = .ok (.aaload, 1) := by decide +kernel
theorem dX5_countLoans_18 : decode cX5_countLoans 18 = .ok (.getfield 90, 3) := by decide +kernel
theorem dX5_countLoans_21 : decode cX5_countLoans 21 = .ok (.iload_n 1, 1) := by decide +kernel
theorem dX5_countLoans_22 : decode cX5_countLoans 22 = .ok (.if_icmp .ne 6, 3) := by decide +kernel
theorem dX5_countLoans_25 : decode cX5_countLoans 25 = .ok (.iinc 2 1, 3) := by decide +kernel
theorem dX5_countLoans_28 : decode cX5_countLoans 28 = .ok (.iinc 3 1, 3) := by decide +kernel
theorem dX5_countLoans_31 : decode cX5_countLoans 31 = .ok (.goto (-27), 3) := by decide +kernel
theorem dX5_countLoans_34 : decode cX5_countLoans 34 = .ok (.iload_n 2, 1) := by decide +kernel
theorem dX5_countLoans_35 : decode cX5_countLoans 35 = .ok (.ireturn, 1) := by decide +kernel
theorem dX5_holder_0 : decode cX5_holder 0 = .ok (.iconst 0, 1) := by decide +kernel
theorem dX5_holder_1 : decode cX5_holder 1 = .ok (.istore_n 2, 1) := by decide +kernel
theorem dX5_holder_2 : decode cX5_holder 2 = .ok (.iload_n 2, 1) := by decide +kernel
theorem dX5_holder_3 : decode cX5_holder 3 = .ok (.aload_n 0, 1) := by decide +kernel
theorem dX5_holder_4 : decode cX5_holder 4 = .ok (.getfield 61, 3) := by decide +kernel
theorem dX5_holder_7 : decode cX5_holder 7 = .ok (.if_icmp .ge 25, 3) := by decide +kernel
theorem dX5_holder_10 : decode cX5_holder 10 = .ok (.aload_n 0, 1) := by decide +kernel
theorem dX5_holder_11 : decode cX5_holder 11 = .ok (.getfield 25, 3) := by decide +kernel
theorem dX5_holder_14 : decode cX5_holder 14 = .ok (.iload_n 2, 1) := by decide +kernel
theorem dX5_holder_15 : decode cX5_holder 15 = .ok (.aaload, 1) := by decide +kernel
theorem dX5_holder_16 : decode cX5_holder 16 = .ok (.iload_n 1, 1) := by decide +kernel
theorem dX5_holder_17 : decode cX5_holder 17 = .ok (.iconst 1, 1) := by decide +kernel
theorem dX5_holder_18 : decode cX5_holder 18 = .ok (.invokevirtual 93, 3) := by decide +kernel
theorem dX5_holder_21 : decode cX5_holder 21 = .ok (.ifCond .eq 5, 3) := by decide +kernel
theorem dX5_holder_24 : decode cX5_holder 24 = .ok (.iload_n 2, 1) := by decide +kernel
theorem dX5_holder_25 : decode cX5_holder 25 = .ok (.ireturn, 1) := by decide +kernel
theorem dX5_holder_26 : decode cX5_holder 26 = .ok (.iinc 2 1, 3) := by decide +kernel
theorem dX5_holder_29 : decode cX5_holder 29 = .ok (.goto (-27), 3) := by decide +kernel
theorem dX5_holder_32 : decode cX5_holder 32 = .ok (.iconst (-1), 1) := by decide +kernel
theorem dX5_holder_33 : decode cX5_holder 33 = .ok (.ireturn, 1) := by decide +kernel
theorem dX5_loansIn_0 : decode cX5_loansIn 0 = .ok (.iconst 0, 1) := by decide +kernel
theorem dX5_loansIn_1 : decode cX5_loansIn 1 = .ok (.istore_n 3, 1) := by decide +kernel
theorem dX5_loansIn_2 : decode cX5_loansIn 2 = .ok (.iconst 0, 1) := by decide +kernel
theorem dX5_loansIn_3 : decode cX5_loansIn 3 = .ok (.istore 4, 2) := by decide +kernel
theorem dX5_loansIn_5 : decode cX5_loansIn 5 = .ok (.iload 4, 2) := by decide +kernel
theorem dX5_loansIn_7 : decode cX5_loansIn 7 = .ok (.aload_n 0, 1) := by decide +kernel
theorem dX5_loansIn_8 : decode cX5_loansIn 8 = .ok (.getfield 61, 3) := by decide +kernel
theorem dX5_loansIn_11 : decode cX5_loansIn 11 = .ok (.if_icmp .ge 27, 3) := by decide +kernel
theorem dX5_loansIn_14 : decode cX5_loansIn 14 = .ok (.aload_n 0, 1) := by decide +kernel
theorem dX5_loansIn_15 : decode cX5_loansIn 15 = .ok (.getfield 25, 3) := by decide +kernel
theorem dX5_loansIn_18 : decode cX5_loansIn 18 = .ok (.iload 4, 2) := by decide +kernel
theorem dX5_loansIn_20 : decode cX5_loansIn 20 = .ok (.aaload, 1) := by decide +kernel
theorem dX5_loansIn_21 : decode cX5_loansIn 21 = .ok (.iload_n 1, 1) := by decide +kernel
theorem dX5_loansIn_22 : decode cX5_loansIn 22 = .ok (.iload_n 2, 1) := by decide +kernel
theorem dX5_loansIn_23 : decode cX5_loansIn 23 = .ok (.invokevirtual 93, 3) := by decide +kernel
theorem dX5_loansIn_26 : decode cX5_loansIn 26 = .ok (.ifCond .eq 6, 3) := by decide +kernel
theorem dX5_loansIn_29 : decode cX5_loansIn 29 = .ok (.iinc 3 1, 3) := by decide +kernel
theorem dX5_loansIn_32 : decode cX5_loansIn 32 = .ok (.iinc 4 1, 3) := by decide +kernel
theorem dX5_loansIn_35 : decode cX5_loansIn 35 = .ok (.goto (-30), 3) := by decide +kernel
theorem dX5_loansIn_38 : decode cX5_loansIn 38 = .ok (.iload_n 3, 1) := by decide +kernel
theorem dX5_loansIn_39 : decode cX5_loansIn 39 = .ok (.ireturn, 1) := by decide +kernel
theorem dX5_lentHours_0 : decode cX5_lentHours 0 = .ok (.iconst 0, 1) := by decide +kernel
theorem dX5_lentHours_1 : decode cX5_lentHours 1 = .ok (.istore_n 1, 1) := by decide +kernel
theorem dX5_lentHours_2 : decode cX5_lentHours 2 = .ok (.iconst 0, 1) := by decide +kernel
theorem dX5_lentHours_3 : decode cX5_lentHours 3 = .ok (.istore_n 2, 1) := by decide +kernel
theorem dX5_lentHours_4 : decode cX5_lentHours 4 = .ok (.iload_n 2, 1) := by decide +kernel
theorem dX5_lentHours_5 : decode cX5_lentHours 5 = .ok (.bipush 48, 2) := by decide +kernel
theorem dX5_lentHours_7 : decode cX5_lentHours 7 = .ok (.if_icmp .ge 26, 3) := by decide +kernel
theorem dX5_lentHours_10 : decode cX5_lentHours 10 = .ok (.aload_n 0, 1) := by decide +kernel
theorem dX5_lentHours_11 : decode cX5_lentHours 11 = .ok (.aload_n 0, 1) := by decide +kernel
theorem dX5_lentHours_12 : decode cX5_lentHours 12 = .ok (.getfield 39, 3) := by decide +kernel
theorem dX5_lentHours_15 : decode cX5_lentHours 15 = .ok (.iload_n 2, 1) := by decide +kernel
theorem dX5_lentHours_16 : decode cX5_lentHours 16 = .ok (.iadd, 1) := by decide +kernel
theorem dX5_lentHours_17 : decode cX5_lentHours 17 = .ok (.invokevirtual 97, 3) := by decide +kernel
theorem dX5_lentHours_20 : decode cX5_lentHours 20 = .ok (.iconst (-1), 1) := by decide +kernel
theorem dX5_lentHours_21 : decode cX5_lentHours 21 = .ok (.if_icmp .eq 6, 3) := by decide +kernel
theorem dX5_lentHours_24 : decode cX5_lentHours 24 = .ok (.iinc 1 1, 3) := by decide +kernel
theorem dX5_lentHours_27 : decode cX5_lentHours 27 = .ok (.iinc 2 1, 3) := by decide +kernel
theorem dX5_lentHours_30 : decode cX5_lentHours 30 = .ok (.goto (-26), 3) := by decide +kernel
theorem dX5_lentHours_33 : decode cX5_lentHours 33 = .ok (.iload_n 1, 1) := by decide +kernel
theorem dX5_lentHours_34 : decode cX5_lentHours 34 = .ok (.ireturn, 1) := by decide +kernel
theorem dX5_permitAt_0 : decode cX5_permitAt 0 = .ok (.iconst 0, 1) := by decide +kernel
theorem dX5_permitAt_1 : decode cX5_permitAt 1 = .ok (.istore_n 3, 1) := by decide +kernel
theorem dX5_permitAt_2 : decode cX5_permitAt 2 = .ok (.iload_n 3, 1) := by decide +kernel
theorem dX5_permitAt_3 : decode cX5_permitAt 3 = .ok (.aload_n 0, 1) := by decide +kernel
theorem dX5_permitAt_4 : decode cX5_permitAt 4 = .ok (.getfield 64, 3) := by decide +kernel
theorem dX5_permitAt_7 : decode cX5_permitAt 7 = .ok (.if_icmp .ge 25, 3) := by decide +kernel
theorem dX5_permitAt_10 : decode cX5_permitAt 10 = .ok (.aload_n 0, 1) := by decide +kernel
theorem dX5_permitAt_11 : decode cX5_permitAt 11 = .ok (.getfield 31, 3) := by decide +kernel
theorem dX5_permitAt_14 : decode cX5_permitAt 14 = .ok (.iload_n 3, 1) := by decide +kernel
theorem dX5_permitAt_15 : decode cX5_permitAt 15 = .ok (.aaload, 1) := by decide +kernel
theorem dX5_permitAt_16 : decode cX5_permitAt 16 = .ok (.iload_n 1, 1) := by decide +kernel
theorem dX5_permitAt_17 : decode cX5_permitAt 17 = .ok (.iload_n 2, 1) := by decide +kernel
theorem dX5_permitAt_18 : decode cX5_permitAt 18 = .ok (.invokevirtual 101, 3) := by decide +kernel
theorem dX5_permitAt_21 : decode cX5_permitAt 21 = .ok (.ifCond .eq 5, 3) := by decide +kernel
theorem dX5_permitAt_24 : decode cX5_permitAt 24 = .ok (.iload_n 3, 1) := by decide +kernel
theorem dX5_permitAt_25 : decode cX5_permitAt 25 = .ok (.ireturn, 1) := by decide +kernel
theorem dX5_permitAt_26 : decode cX5_permitAt 26 = .ok (.iinc 3 1, 3) := by decide +kernel
theorem dX5_permitAt_29 : decode cX5_permitAt 29 = .ok (.goto (-27), 3) := by decide +kernel
theorem dX5_permitAt_32 : decode cX5_permitAt 32 = .ok (.iconst (-1), 1) := by decide +kernel
theorem dX5_permitAt_33 : decode cX5_permitAt 33 = .ok (.ireturn, 1) := by decide +kernel
theorem dX5_validPermits_0 : decode cX5_validPermits 0 = .ok (.iconst 0, 1) := by decide +kernel
theorem dX5_validPermits_1 : decode cX5_validPermits 1 = .ok (.istore_n 1, 1) := by decide +kernel
theorem dX5_validPermits_2 : decode cX5_validPermits 2 = .ok (.iconst 0, 1) := by decide +kernel
theorem dX5_validPermits_3 : decode cX5_validPermits 3 = .ok (.istore_n 2, 1) := by decide +kernel
theorem dX5_validPermits_4 : decode cX5_validPermits 4 = .ok (.iload_n 2, 1) := by decide +kernel
theorem dX5_validPermits_5 : decode cX5_validPermits 5 = .ok (.aload_n 0, 1) := by decide +kernel
theorem dX5_validPermits_6 : decode cX5_validPermits 6 = .ok (.getfield 64, 3) := by decide +kernel
theorem dX5_validPermits_9 : decode cX5_validPermits 9 = .ok (.if_icmp .ge 24, 3) := by decide +kernel
theorem dX5_validPermits_12 : decode cX5_validPermits 12 = .ok (.aload_n 0, 1) := by decide +kernel
theorem dX5_validPermits_13 : decode cX5_validPermits 13 = .ok (.getfield 31, 3) := by decide +kernel
theorem dX5_validPermits_16 : decode cX5_validPermits 16 = .ok (.iload_n 2, 1) := by decide +kernel
theorem dX5_validPermits_17 : decode cX5_validPermits 17 = .ok (.aaload, 1) := by decide +kernel
theorem dX5_validPermits_18 : decode cX5_validPermits 18 = .ok (.getfield 104, 3) := by decide +kernel
theorem dX5_validPermits_21 : decode cX5_validPermits 21 = .ok (.ifCond .ne 6, 3) := by decide +kernel
theorem dX5_validPermits_24 : decode cX5_validPermits 24 = .ok (.iinc 1 1, 3) := by decide +kernel
theorem dX5_validPermits_27 : decode cX5_validPermits 27 = .ok (.iinc 2 1, 3) := by decide +kernel
theorem dX5_validPermits_30 : decode cX5_validPermits 30 = .ok (.goto (-26), 3) := by decide +kernel
theorem dX5_validPermits_33 : decode cX5_validPermits 33 = .ok (.iload_n 1, 1) := by decide +kernel
theorem dX5_validPermits_34 : decode cX5_validPermits 34 = .ok (.ireturn, 1) := by decide +kernel
theorem dX5_noiseIn_0 : decode cX5_noiseIn 0 = .ok (.iload_n 1, 1) := by decide +kernel
theorem dX5_noiseIn_1 : decode cX5_noiseIn 1 = .ok (.aload_n 0, 1) := by decide +kernel
theorem dX5_noiseIn_2 : decode cX5_noiseIn 2 = .ok (.iload_n 2, 1) := by decide +kernel
theorem dX5_noiseIn_3 : decode cX5_noiseIn 3 = .ok (.invokevirtual 108, 3) := by decide +kernel
theorem dX5_noiseIn_6 : decode cX5_noiseIn 6 = .ok (.if_icmp .ne 7, 3) := by decide +kernel
theorem dX5_noiseIn_9 : decode cX5_noiseIn 9 = .ok (.iconst 0, 1) := by decide +kernel
theorem dX5_noiseIn_10 : decode cX5_noiseIn 10 = .ok (.goto 9, 3) := by decide +kernel
theorem dX5_noiseIn_13 : decode cX5_noiseIn 13 = .ok (.aload_n 0, 1) := by decide +kernel
theorem dX5_noiseIn_14 : decode cX5_noiseIn 14 = .ok (.iload_n 1, 1) := by decide +kernel
theorem dX5_noiseIn_15 : decode cX5_noiseIn 15 = .ok (.iload_n 2, 1) := by decide +kernel
theorem dX5_noiseIn_16 : decode cX5_noiseIn 16 = .ok (.invokevirtual 111, 3) := by decide +kernel
theorem dX5_noiseIn_19 : decode cX5_noiseIn 19 = .ok (.ireturn, 1) := by decide +kernel
theorem dX5_silentStreet_0 : decode cX5_silentStreet 0 = .ok (.aload_n 0, 1) := by decide +kernel
theorem dX5_silentStreet_1 : decode cX5_silentStreet 1 = .ok (.iload_n 1, 1) := by decide +kernel
theorem dX5_silentStreet_2 : decode cX5_silentStreet 2 = .ok (.invokevirtual 97, 3) := by decide +kernel
theorem dX5_silentStreet_5 : decode cX5_silentStreet 5 = .ok (.istore_n 2, 1) := by decide +kernel
theorem dX5_silentStreet_6 : decode cX5_silentStreet 6 = .ok (.iload_n 2, 1) := by decide +kernel
theorem dX5_silentStreet_7 : decode cX5_silentStreet 7 = .ok (.iconst (-1), 1) := by decide +kernel
theorem dX5_silentStreet_8 : decode cX5_silentStreet 8 = .ok (.if_icmp .ne 7, 3) := by decide +kernel
theorem dX5_silentStreet_11 : decode cX5_silentStreet 11 = .ok (.iconst (-1), 1) := by decide +kernel
theorem dX5_silentStreet_12 : decode cX5_silentStreet 12 = .ok (.goto 8, 3) := by decide +kernel
theorem dX5_silentStreet_15 : decode cX5_silentStreet 15 = .ok (.aload_n 0, 1) := by decide +kernel
theorem dX5_silentStreet_16 : decode cX5_silentStreet 16 = .ok (.iload_n 2, 1) := by decide +kernel
theorem dX5_silentStreet_17 : decode cX5_silentStreet 17 = .ok (.invokevirtual 115, 3) := by decide +kernel
theorem dX5_silentStreet_20 : decode cX5_silentStreet 20 = .ok (.ireturn, 1) := by decide +kernel
theorem dX5_outdoorNoise_0 : decode cX5_outdoorNoise 0 = .ok (.iload_n 2, 1) := by decide +kernel
theorem dX5_outdoorNoise_1 : decode cX5_outdoorNoise 1 = .ok (.invokestatic 118, 3) := by decide +kernel
theorem dX5_outdoorNoise_4 : decode cX5_outdoorNoise 4 = .ok (.ifCond .eq 15, 3) := by decide +kernel
theorem dX5_outdoorNoise_7 : decode cX5_outdoorNoise 7 = .ok (.aload_n 0, 1) := by decide +kernel
theorem dX5_outdoorNoise_8 : decode cX5_outdoorNoise 8 = .ok (.getfield 11, 3) := by decide +kernel
theorem dX5_outdoorNoise_11 : decode cX5_outdoorNoise 11 = .ok (.iload_n 1, 1) := by decide +kernel
theorem dX5_outdoorNoise_12 : decode cX5_outdoorNoise 12 = .ok (.aaload, 1) := by decide +kernel
theorem dX5_outdoorNoise_13 : decode cX5_outdoorNoise 13 = .ok (.getfield 122, 3) := by decide +kernel
theorem dX5_outdoorNoise_16 : decode cX5_outdoorNoise 16 = .ok (.goto 12, 3) := by decide +kernel
theorem dX5_outdoorNoise_19 : decode cX5_outdoorNoise 19 = .ok (.aload_n 0, 1) := by decide +kernel
theorem dX5_outdoorNoise_20 : decode cX5_outdoorNoise 20 = .ok (.getfield 11, 3) := by decide +kernel
theorem dX5_outdoorNoise_23 : decode cX5_outdoorNoise 23 = .ok (.iload_n 1, 1) := by decide +kernel
theorem dX5_outdoorNoise_24 : decode cX5_outdoorNoise 24 = .ok (.aaload, 1) := by decide +kernel
theorem dX5_outdoorNoise_25 : decode cX5_outdoorNoise 25 = .ok (.getfield 125, 3) := by decide +kernel
theorem dX5_outdoorNoise_28 : decode cX5_outdoorNoise 28 = .ok (.istore_n 3, 1) := by decide +kernel
theorem dX5_outdoorNoise_29 : decode cX5_outdoorNoise 29 = .ok (.aload_n 0, 1) := by decide +kernel
theorem dX5_outdoorNoise_30 : decode cX5_outdoorNoise 30 = .ok (.iload_n 1, 1) := by decide +kernel
theorem dX5_outdoorNoise_31 : decode cX5_outdoorNoise 31 = .ok (.iload_n 2, 1) := by decide +kernel
theorem dX5_outdoorNoise_32 : decode cX5_outdoorNoise 32 = .ok (.invokevirtual 128, 3) := by decide +kernel
theorem dX5_outdoorNoise_35 : decode cX5_outdoorNoise 35 = .ok (.iconst (-1), 1) := by decide +kernel
theorem dX5_outdoorNoise_36 : decode cX5_outdoorNoise 36 = .ok (.if_icmp .ne 7, 3) := by decide +kernel
theorem dX5_outdoorNoise_39 : decode cX5_outdoorNoise 39 = .ok (.iload_n 3, 1) := by decide +kernel
theorem dX5_outdoorNoise_40 : decode cX5_outdoorNoise 40 = .ok (.goto 7, 3) := by decide +kernel
theorem dX5_outdoorNoise_43 : decode cX5_outdoorNoise 43 = .ok (.iload_n 3, 1) := by decide +kernel
theorem dX5_outdoorNoise_44 : decode cX5_outdoorNoise 44 = .ok (.bipush 40, 2) := by decide +kernel
theorem dX5_outdoorNoise_46 : decode cX5_outdoorNoise 46 = .ok (.iadd, 1) := by decide +kernel
theorem dX5_outdoorNoise_47 : decode cX5_outdoorNoise 47 = .ok (.ireturn, 1) := by decide +kernel
theorem dX5_forecastIllness_0 : decode cX5_forecastIllness 0 = .ok (.new 17, 3) := by decide +kernel
theorem dX5_forecastIllness_3 : decode cX5_forecastIllness 3 = .ok (.dup, 1) := by decide +kernel
theorem dX5_forecastIllness_4 : decode cX5_forecastIllness 4 = .ok (.invokespecial 36, 3) := by decide +kernel
theorem dX5_forecastIllness_7 : decode cX5_forecastIllness 7 = .ok (.astore_n 3, 1) := by decide +kernel
theorem dX5_forecastIllness_8 : decode cX5_forecastIllness 8 = .ok (.aload_n 3, 1) := by decide +kernel
theorem dX5_forecastIllness_9 : decode cX5_forecastIllness 9 = .ok (.aload_n 0, 1) := by decide +kernel
theorem dX5_forecastIllness_10 : decode cX5_forecastIllness 10 = .ok (.getfield 19, 3) := by decide +kernel
theorem dX5_forecastIllness_13 : decode cX5_forecastIllness 13 = .ok (.iload_n 1, 1) := by decide +kernel
theorem dX5_forecastIllness_14 : decode cX5_forecastIllness 14 = .ok (.aaload, 1) := by decide +kernel
theorem dX5_forecastIllness_15 : decode cX5_forecastIllness 15 = .ok (.invokevirtual 71, 3) := by decide +kernel
theorem dX5_forecastIllness_18 : decode cX5_forecastIllness 18 = .ok (.iconst 0, 1) := by decide +kernel
theorem dX5_forecastIllness_19 : decode cX5_forecastIllness 19 = .ok (.istore 4, 2) := by decide +kernel
theorem dX5_forecastIllness_21 : decode cX5_forecastIllness 21 = .ok (.iload 4, 2) := by decide +kernel
theorem dX5_forecastIllness_23 : decode cX5_forecastIllness 23 = .ok (.iload_n 2, 1) := by decide +kernel
theorem dX5_forecastIllness_24 : decode cX5_forecastIllness 24 = .ok (.if_icmp .ge 28, 3) := by decide +kernel
theorem dX5_forecastIllness_27 : decode cX5_forecastIllness 27 = .ok (.aload_n 3, 1) := by decide +kernel
theorem dX5_forecastIllness_28 : decode cX5_forecastIllness 28 = .ok (.aload_n 0, 1) := by decide +kernel
theorem dX5_forecastIllness_29 : decode cX5_forecastIllness 29 = .ok (.aload_n 3, 1) := by decide +kernel
theorem dX5_forecastIllness_30 : decode cX5_forecastIllness 30 = .ok (.getfield 87, 3) := by decide +kernel
theorem dX5_forecastIllness_33 : decode cX5_forecastIllness 33 = .ok (.aload_n 0, 1) := by decide +kernel
theorem dX5_forecastIllness_34 : decode cX5_forecastIllness 34 = .ok (.getfield 39, 3) := by decide +kernel
theorem dX5_forecastIllness_37 : decode cX5_forecastIllness 37 = .ok (.iload 4, 2) := by decide +kernel
theorem dX5_forecastIllness_39 : decode cX5_forecastIllness 39 = .ok (.iadd, 1) := by decide +kernel
theorem dX5_forecastIllness_40 : decode cX5_forecastIllness 40 = .ok (.invokevirtual 131, 3) := by decide +kernel
theorem dX5_forecastIllness_43 : decode cX5_forecastIllness 43 = .ok (.invokevirtual 134, 3) := by decide +kernel
theorem dX5_forecastIllness_46 : decode cX5_forecastIllness 46 = .ok (.iinc 4 1, 3) := by decide +kernel
theorem dX5_forecastIllness_49 : decode cX5_forecastIllness 49 = .ok (.goto (-28), 3) := by decide +kernel
theorem dX5_forecastIllness_52 : decode cX5_forecastIllness 52 = .ok (.aload_n 3, 1) := by decide +kernel
theorem dX5_forecastIllness_53 : decode cX5_forecastIllness 53 = .ok (.getfield 138, 3) := by decide +kernel
theorem dX5_forecastIllness_56 : decode cX5_forecastIllness 56 = .ok (.ireturn, 1) := by decide +kernel
theorem dX5_accountsDifference_0 : decode cX5_accountsDifference 0 = .ok (.aload_n 0, 1) := by decide +kernel
theorem dX5_accountsDifference_1 : decode cX5_accountsDifference 1 = .ok (.getfield 52, 3) := by decide +kernel
theorem dX5_accountsDifference_4 : decode cX5_accountsDifference 4 = .ok (.aload_n 0, 1) := by decide +kernel
theorem dX5_accountsDifference_5 : decode cX5_accountsDifference 5 = .ok (.getfield 49, 3) := by decide +kernel
theorem dX5_accountsDifference_8 : decode cX5_accountsDifference 8 = .ok (.isub, 1) := by decide +kernel
theorem dX5_accountsDifference_9 : decode cX5_accountsDifference 9 = .ok (.istore_n 1, 1) := by decide +kernel
theorem dX5_accountsDifference_10 : decode cX5_accountsDifference 10 = .ok (.iconst 0, 1) := by decide +kernel
theorem dX5_accountsDifference_11 : decode cX5_accountsDifference 11 = .ok (.istore_n 2, 1) := by decide +kernel
theorem dX5_accountsDifference_12 : decode cX5_accountsDifference 12 = .ok (.iload_n 2, 1) := by decide +kernel
theorem dX5_accountsDifference_13 : decode cX5_accountsDifference 13 = .ok (.aload_n 0, 1) := by decide +kernel
theorem dX5_accountsDifference_14 : decode cX5_accountsDifference 14 = .ok (.getfield 58, 3) := by decide +kernel
theorem dX5_accountsDifference_17 : decode cX5_accountsDifference 17 = .ok (.if_icmp .ge 21, 3) := by decide +kernel
theorem dX5_accountsDifference_20 : decode cX5_accountsDifference 20 = .ok (.iload_n 1, 1) := by decide +kernel
theorem dX5_accountsDifference_21 : decode cX5_accountsDifference 21 = .ok (.aload_n 0, 1) := by decide +kernel
theorem dX5_accountsDifference_22 : decode cX5_accountsDifference 22 = .ok (.getfield 19, 3) := by decide +kernel
theorem dX5_accountsDifference_25 : decode cX5_accountsDifference 25 = .ok (.iload_n 2, 1) := by decide +kernel
theorem dX5_accountsDifference_26 : decode cX5_accountsDifference 26 = .ok (.aaload, 1) := by decide +kernel
theorem dX5_accountsDifference_27 : decode cX5_accountsDifference 27 = .ok (.getfield 141, 3) := by decide +kernel
theorem dX5_accountsDifference_30 : decode cX5_accountsDifference 30 = .ok (.iadd, 1) := by decide +kernel
theorem dX5_accountsDifference_31 : decode cX5_accountsDifference 31 = .ok (.istore_n 1, 1) := by decide +kernel
theorem dX5_accountsDifference_32 : decode cX5_accountsDifference 32 = .ok (.iinc 2 1, 3) := by decide +kernel
theorem dX5_accountsDifference_35 : decode cX5_accountsDifference 35 = .ok (.goto (-23), 3) := by decide +kernel
theorem dX5_accountsDifference_38 : decode cX5_accountsDifference 38 = .ok (.iconst 0, 1) := by decide +kernel
theorem dX5_accountsDifference_39 : decode cX5_accountsDifference 39 = .ok (.istore_n 2, 1) := by decide +kernel
theorem dX5_accountsDifference_40 : decode cX5_accountsDifference 40 = .ok (.iload_n 2, 1) := by decide +kernel
theorem dX5_accountsDifference_41 : decode cX5_accountsDifference 41 = .ok (.aload_n 0, 1) := by decide +kernel
theorem dX5_accountsDifference_42 : decode cX5_accountsDifference 42 = .ok (.getfield 61, 3) := by decide +kernel
theorem dX5_accountsDifference_45 : decode cX5_accountsDifference 45 = .ok (.if_icmp .ge 34, 3) := by decide +kernel
theorem dX5_accountsDifference_48 : decode cX5_accountsDifference 48 = .ok (.aload_n 0, 1) := by decide +kernel
theorem dX5_accountsDifference_49 : decode cX5_accountsDifference 49 = .ok (.getfield 25, 3) := by decide +kernel
theorem dX5_accountsDifference_52 : decode cX5_accountsDifference 52 = .ok (.iload_n 2, 1) := by decide +kernel
theorem dX5_accountsDifference_53 : decode cX5_accountsDifference 53 = .ok (.aaload, 1) := by decide +kernel
theorem dX5_accountsDifference_54 : decode cX5_accountsDifference 54 = .ok (.getfield 90, 3) := by decide +kernel
theorem dX5_accountsDifference_57 : decode cX5_accountsDifference 57 = .ok (.iconst 5, 1) := by decide +kernel
theorem dX5_accountsDifference_58 : decode cX5_accountsDifference 58 = .ok (.if_icmp .eq 15, 3) := by decide +kernel
theorem dX5_accountsDifference_61 : decode cX5_accountsDifference 61 = .ok (.iload_n 1, 1) := by decide +kernel
theorem dX5_accountsDifference_62 : decode cX5_accountsDifference 62 = .ok (.aload_n 0, 1) := by decide +kernel
theorem dX5_accountsDifference_63 : decode cX5_accountsDifference 63 = .ok (.getfield 25, 3) := by decide +kernel
theorem dX5_accountsDifference_66 : decode cX5_accountsDifference 66 = .ok (.iload_n 2, 1) := by decide +kernel
theorem dX5_accountsDifference_67 : decode cX5_accountsDifference 67 = .ok (.aaload, 1) := by decide +kernel
theorem dX5_accountsDifference_68 : decode cX5_accountsDifference 68 = .ok (.getfield 144, 3) := by decide +kernel
theorem dX5_accountsDifference_71 : decode cX5_accountsDifference 71 = .ok (.iadd, 1) := by decide +kernel
theorem dX5_accountsDifference_72 : decode cX5_accountsDifference 72 = .ok (.istore_n 1, 1) := by decide +kernel
theorem dX5_accountsDifference_73 : decode cX5_accountsDifference 73 = .ok (.iinc 2 1, 3) := by decide +kernel
theorem dX5_accountsDifference_76 : decode cX5_accountsDifference 76 = .ok (.goto (-36), 3) := by decide +kernel
theorem dX5_accountsDifference_79 : decode cX5_accountsDifference 79 = .ok (.iload_n 1, 1) := by decide +kernel
theorem dX5_accountsDifference_80 : decode cX5_accountsDifference 80 = .ok (.ireturn, 1) := by decide +kernel
theorem dX5_hoursHeldTwice_0 : decode cX5_hoursHeldTwice 0 = .ok (.iconst 0, 1) := by decide +kernel
theorem dX5_hoursHeldTwice_1 : decode cX5_hoursHeldTwice 1 = .ok (.istore_n 1, 1) := by decide +kernel
theorem dX5_hoursHeldTwice_2 : decode cX5_hoursHeldTwice 2 = .ok (.iconst 0, 1) := by decide +kernel
theorem dX5_hoursHeldTwice_3 : decode cX5_hoursHeldTwice 3 = .ok (.istore_n 2, 1) := by decide +kernel
theorem dX5_hoursHeldTwice_4 : decode cX5_hoursHeldTwice 4 = .ok (.iload_n 2, 1) := by decide +kernel
theorem dX5_hoursHeldTwice_5 : decode cX5_hoursHeldTwice 5 = .ok (.bipush 48, 2) := by decide +kernel
theorem dX5_hoursHeldTwice_7 : decode cX5_hoursHeldTwice 7 = .ok (.if_icmp .ge 27, 3) := by decide +kernel
theorem dX5_hoursHeldTwice_10 : decode cX5_hoursHeldTwice 10 = .ok (.aload_n 0, 1) := by decide +kernel
theorem dX5_hoursHeldTwice_11 : decode cX5_hoursHeldTwice 11 = .ok (.aload_n 0, 1) := by decide +kernel
theorem dX5_hoursHeldTwice_12 : decode cX5_hoursHeldTwice 12 = .ok (.getfield 39, 3) := by decide +kernel
theorem dX5_hoursHeldTwice_15 : decode cX5_hoursHeldTwice 15 = .ok (.iload_n 2, 1) := by decide +kernel
theorem dX5_hoursHeldTwice_16 : decode cX5_hoursHeldTwice 16 = .ok (.iadd, 1) := by decide +kernel
theorem dX5_hoursHeldTwice_17 : decode cX5_hoursHeldTwice 17 = .ok (.iconst 1, 1) := by decide +kernel
theorem dX5_hoursHeldTwice_18 : decode cX5_hoursHeldTwice 18 = .ok (.invokevirtual 147, 3) := by decide +kernel
theorem dX5_hoursHeldTwice_21 : decode cX5_hoursHeldTwice 21 = .ok (.iconst 1, 1) := by decide +kernel
theorem dX5_hoursHeldTwice_22 : decode cX5_hoursHeldTwice 22 = .ok (.if_icmp .le 6, 3) := by decide +kernel
theorem dX5_hoursHeldTwice_25 : decode cX5_hoursHeldTwice 25 = .ok (.iinc 1 1, 3) := by decide +kernel
theorem dX5_hoursHeldTwice_28 : decode cX5_hoursHeldTwice 28 = .ok (.iinc 2 1, 3) := by decide +kernel
theorem dX5_hoursHeldTwice_31 : decode cX5_hoursHeldTwice 31 = .ok (.goto (-27), 3) := by decide +kernel
theorem dX5_hoursHeldTwice_34 : decode cX5_hoursHeldTwice 34 = .ok (.iload_n 1, 1) := by decide +kernel
theorem dX5_hoursHeldTwice_35 : decode cX5_hoursHeldTwice 35 = .ok (.ireturn, 1) := by decide +kernel
theorem dX5_price_0 : decode cX5_price 0 = .ok (.iload_n 2, 1) := by decide +kernel
theorem dX5_price_1 : decode cX5_price 1 = .ok (.aload_n 0, 1) := by decide +kernel
theorem dX5_price_2 : decode cX5_price 2 = .ok (.getfield 11, 3) := by decide +kernel
theorem dX5_price_5 : decode cX5_price 5 = .ok (.aload_n 0, 1) := by decide +kernel
theorem dX5_price_6 : decode cX5_price 6 = .ok (.getfield 19, 3) := by decide +kernel
theorem dX5_price_9 : decode cX5_price 9 = .ok (.iload_n 1, 1) := by decide +kernel
theorem dX5_price_10 : decode cX5_price 10 = .ok (.aaload, 1) := by decide +kernel
theorem dX5_price_11 : decode cX5_price 11 = .ok (.getfield 87, 3) := by decide +kernel
theorem dX5_price_14 : decode cX5_price 14 = .ok (.aaload, 1) := by decide +kernel
theorem dX5_price_15 : decode cX5_price 15 = .ok (.getfield 125, 3) := by decide +kernel
theorem dX5_price_18 : decode cX5_price 18 = .ok (.bipush 10, 2) := by decide +kernel
theorem dX5_price_20 : decode cX5_price 20 = .ok (.idiv, 1) := by decide +kernel
theorem dX5_price_21 : decode cX5_price 21 = .ok (.iconst 1, 1) := by decide +kernel
theorem dX5_price_22 : decode cX5_price 22 = .ok (.iadd, 1) := by decide +kernel
theorem dX5_price_23 : decode cX5_price 23 = .ok (.imul, 1) := by decide +kernel
theorem dX5_price_24 : decode cX5_price 24 = .ok (.ireturn, 1) := by decide +kernel
theorem dX5_reasonAgainst_0 : decode cX5_reasonAgainst 0 = .ok (.aload_n 0, 1) := by decide +kernel
theorem dX5_reasonAgainst_1 : decode cX5_reasonAgainst 1 = .ok (.iload_n 1, 1) := by decide +kernel
theorem dX5_reasonAgainst_2 : decode cX5_reasonAgainst 2 = .ok (.invokevirtual 150, 3) := by decide +kernel
theorem dX5_reasonAgainst_5 : decode cX5_reasonAgainst 5 = .ok (.iconst (-1), 1) := by decide +kernel
theorem dX5_reasonAgainst_6 : decode cX5_reasonAgainst 6 = .ok (.if_icmp .eq 5, 3) := by decide +kernel
theorem dX5_reasonAgainst_9 : decode cX5_reasonAgainst 9 = .ok (.iconst 1, 1) := by decide +kernel
theorem dX5_reasonAgainst_10 : decode cX5_reasonAgainst 10 = .ok (.ireturn, 1) := by decide +kernel
theorem dX5_reasonAgainst_11 : decode cX5_reasonAgainst 11 = .ok (.aload_n 0, 1) := by decide +kernel
theorem dX5_reasonAgainst_12 : decode cX5_reasonAgainst 12 = .ok (.iload_n 1, 1) := by decide +kernel
theorem dX5_reasonAgainst_13 : decode cX5_reasonAgainst 13 = .ok (.iload_n 2, 1) := by decide +kernel
theorem dX5_reasonAgainst_14 : decode cX5_reasonAgainst 14 = .ok (.iload_n 3, 1) := by decide +kernel
theorem dX5_reasonAgainst_15 : decode cX5_reasonAgainst 15 = .ok (.invokevirtual 153, 3) := by decide +kernel
theorem dX5_reasonAgainst_18 : decode cX5_reasonAgainst 18 = .ok (.iconst (-1), 1) := by decide +kernel
theorem dX5_reasonAgainst_19 : decode cX5_reasonAgainst 19 = .ok (.if_icmp .eq 5, 3) := by decide +kernel
theorem dX5_reasonAgainst_22 : decode cX5_reasonAgainst 22 = .ok (.iconst 2, 1) := by decide +kernel
theorem dX5_reasonAgainst_23 : decode cX5_reasonAgainst 23 = .ok (.ireturn, 1) := by decide +kernel
theorem dX5_reasonAgainst_24 : decode cX5_reasonAgainst 24 = .ok (.aload_n 0, 1) := by decide +kernel
theorem dX5_reasonAgainst_25 : decode cX5_reasonAgainst 25 = .ok (.iload_n 1, 1) := by decide +kernel
theorem dX5_reasonAgainst_26 : decode cX5_reasonAgainst 26 = .ok (.iload_n 2, 1) := by decide +kernel
theorem dX5_reasonAgainst_27 : decode cX5_reasonAgainst 27 = .ok (.iload_n 3, 1) := by decide +kernel
theorem dX5_reasonAgainst_28 : decode cX5_reasonAgainst 28 = .ok (.invokevirtual 157, 3) := by decide +kernel
theorem dX5_reasonAgainst_31 : decode cX5_reasonAgainst 31 = .ok (.iconst (-1), 1) := by decide +kernel
theorem dX5_reasonAgainst_32 : decode cX5_reasonAgainst 32 = .ok (.if_icmp .eq 5, 3) := by decide +kernel
theorem dX5_reasonAgainst_35 : decode cX5_reasonAgainst 35 = .ok (.iconst 3, 1) := by decide +kernel
theorem dX5_reasonAgainst_36 : decode cX5_reasonAgainst 36 = .ok (.ireturn, 1) := by decide +kernel
theorem dX5_reasonAgainst_37 : decode cX5_reasonAgainst 37 = .ok (.aload_n 0, 1) := by decide +kernel
theorem dX5_reasonAgainst_38 : decode cX5_reasonAgainst 38 = .ok (.getfield 19, 3) := by decide +kernel
theorem dX5_reasonAgainst_41 : decode cX5_reasonAgainst 41 = .ok (.iload_n 1, 1) := by decide +kernel
theorem dX5_reasonAgainst_42 : decode cX5_reasonAgainst 42 = .ok (.aaload, 1) := by decide +kernel
theorem dX5_reasonAgainst_43 : decode cX5_reasonAgainst 43 = .ok (.getfield 141, 3) := by decide +kernel
theorem dX5_reasonAgainst_46 : decode cX5_reasonAgainst 46 = .ok (.aload_n 0, 1) := by decide +kernel
theorem dX5_reasonAgainst_47 : decode cX5_reasonAgainst 47 = .ok (.iload_n 1, 1) := by decide +kernel
theorem dX5_reasonAgainst_48 : decode cX5_reasonAgainst 48 = .ok (.iload_n 3, 1) := by decide +kernel
theorem dX5_reasonAgainst_49 : decode cX5_reasonAgainst 49 = .ok (.invokevirtual 160, 3) := by decide +kernel
theorem dX5_reasonAgainst_52 : decode cX5_reasonAgainst 52 = .ok (.if_icmp .ge 5, 3) := by decide +kernel
theorem dX5_reasonAgainst_55 : decode cX5_reasonAgainst 55 = .ok (.iconst 4, 1) := by decide +kernel
theorem dX5_reasonAgainst_56 : decode cX5_reasonAgainst 56 = .ok (.ireturn, 1) := by decide +kernel
theorem dX5_reasonAgainst_57 : decode cX5_reasonAgainst 57 = .ok (.aload_n 0, 1) := by decide +kernel
theorem dX5_reasonAgainst_58 : decode cX5_reasonAgainst 58 = .ok (.getfield 61, 3) := by decide +kernel
theorem dX5_reasonAgainst_61 : decode cX5_reasonAgainst 61 = .ok (.bipush 30, 2) := by decide +kernel
theorem dX5_reasonAgainst_63 : decode cX5_reasonAgainst 63 = .ok (.if_icmp .ne 7, 3) := by decide +kernel
theorem dX5_reasonAgainst_66 : decode cX5_reasonAgainst 66 = .ok (.iconst 5, 1) := by decide +kernel
theorem dX5_reasonAgainst_67 : decode cX5_reasonAgainst 67 = .ok (.goto 4, 3) := by decide +kernel
theorem dX5_reasonAgainst_70 : decode cX5_reasonAgainst 70 = .ok (.iconst 0, 1) := by decide +kernel
theorem dX5_reasonAgainst_71 : decode cX5_reasonAgainst 71 = .ok (.ireturn, 1) := by decide +kernel
theorem dX5_overdueLoan_0 : decode cX5_overdueLoan 0 = .ok (.iconst 0, 1) := by decide +kernel
theorem dX5_overdueLoan_1 : decode cX5_overdueLoan 1 = .ok (.istore_n 2, 1) := by decide +kernel
theorem dX5_overdueLoan_2 : decode cX5_overdueLoan 2 = .ok (.iload_n 2, 1) := by decide +kernel
theorem dX5_overdueLoan_3 : decode cX5_overdueLoan 3 = .ok (.aload_n 0, 1) := by decide +kernel
theorem dX5_overdueLoan_4 : decode cX5_overdueLoan 4 = .ok (.getfield 61, 3) := by decide +kernel
theorem dX5_overdueLoan_7 : decode cX5_overdueLoan 7 = .ok (.if_icmp .ge 37, 3) := by decide +kernel
theorem dX5_overdueLoan_10 : decode cX5_overdueLoan 10 = .ok (.aload_n 0, 1) := by decide +kernel
theorem dX5_overdueLoan_11 : decode cX5_overdueLoan 11 = .ok (.getfield 25, 3) := by decide +kernel
theorem dX5_overdueLoan_14 : decode cX5_overdueLoan 14 = .ok (.iload_n 2, 1) := by decide +kernel
theorem dX5_overdueLoan_15 : decode cX5_overdueLoan 15 = .ok (.aaload, 1) := by decide +kernel
theorem dX5_overdueLoan_16 : decode cX5_overdueLoan 16 = .ok (.getfield 84, 3) := by decide +kernel
theorem dX5_overdueLoan_19 : decode cX5_overdueLoan 19 = .ok (.iload_n 1, 1) := by decide +kernel
theorem dX5_overdueLoan_20 : decode cX5_overdueLoan 20 = .ok (.if_icmp .ne 18, 3) := by decide +kernel
theorem dX5_overdueLoan_23 : decode cX5_overdueLoan 23 = .ok (.aload_n 0, 1) := by decide +kernel
theorem dX5_overdueLoan_24 : decode cX5_overdueLoan 24 = .ok (.getfield 25, 3) := by decide +kernel
theorem dX5_overdueLoan_27 : decode cX5_overdueLoan 27 = .ok (.iload_n 2, 1) := by decide +kernel
theorem dX5_overdueLoan_28 : decode cX5_overdueLoan 28 = .ok (.aaload, 1) := by decide +kernel
theorem dX5_overdueLoan_29 : decode cX5_overdueLoan 29 = .ok (.getfield 90, 3) := by decide +kernel
theorem dX5_overdueLoan_32 : decode cX5_overdueLoan 32 = .ok (.iconst 4, 1) := by decide +kernel
theorem dX5_overdueLoan_33 : decode cX5_overdueLoan 33 = .ok (.if_icmp .ne 5, 3) := by decide +kernel
theorem dX5_overdueLoan_36 : decode cX5_overdueLoan 36 = .ok (.iload_n 2, 1) := by decide +kernel
theorem dX5_overdueLoan_37 : decode cX5_overdueLoan 37 = .ok (.ireturn, 1) := by decide +kernel
theorem dX5_overdueLoan_38 : decode cX5_overdueLoan 38 = .ok (.iinc 2 1, 3) := by decide +kernel
theorem dX5_overdueLoan_41 : decode cX5_overdueLoan 41 = .ok (.goto (-39), 3) := by decide +kernel
theorem dX5_overdueLoan_44 : decode cX5_overdueLoan 44 = .ok (.iconst (-1), 1) := by decide +kernel
theorem dX5_overdueLoan_45 : decode cX5_overdueLoan 45 = .ok (.ireturn, 1) := by decide +kernel
theorem dX5_firstPermit_0 : decode cX5_firstPermit 0 = .ok (.iload_n 2, 1) := by decide +kernel
theorem dX5_firstPermit_1 : decode cX5_firstPermit 1 = .ok (.istore 4, 2) := by decide +kernel
theorem dX5_firstPermit_3 : decode cX5_firstPermit 3 = .ok (.iload 4, 2) := by decide +kernel
theorem dX5_firstPermit_5 : decode cX5_firstPermit 5 = .ok (.iload_n 2, 1) := by decide +kernel
theorem dX5_firstPermit_6 : decode cX5_firstPermit 6 = .ok (.iload_n 3, 1) := by decide +kernel
theorem dX5_firstPermit_7 : decode cX5_firstPermit 7 = .ok (.iadd, 1) := by decide +kernel
theorem dX5_firstPermit_8 : decode cX5_firstPermit 8 = .ok (.if_icmp .ge 35, 3) := by decide +kernel
theorem dX5_firstPermit_11 : decode cX5_firstPermit 11 = .ok (.aload_n 0, 1) := by decide +kernel
theorem dX5_firstPermit_12 : decode cX5_firstPermit 12 = .ok (.aload_n 0, 1) := by decide +kernel
theorem dX5_firstPermit_13 : decode cX5_firstPermit 13 = .ok (.getfield 19, 3) := by decide +kernel
theorem dX5_firstPermit_16 : decode cX5_firstPermit 16 = .ok (.iload_n 1, 1) := by decide +kernel
theorem dX5_firstPermit_17 : decode cX5_firstPermit 17 = .ok (.aaload, 1) := by decide +kernel
theorem dX5_firstPermit_18 : decode cX5_firstPermit 18 = .ok (.getfield 87, 3) := by decide +kernel
theorem dX5_firstPermit_21 : decode cX5_firstPermit 21 = .ok (.iload 4, 2) := by decide +kernel
theorem dX5_firstPermit_23 : decode cX5_firstPermit 23 = .ok (.invokevirtual 128, 3) := by decide +kernel
theorem dX5_firstPermit_26 : decode cX5_firstPermit 26 = .ok (.istore 5, 2) := by decide +kernel
theorem dX5_firstPermit_28 : decode cX5_firstPermit 28 = .ok (.iload 5, 2) := by decide +kernel
theorem dX5_firstPermit_30 : decode cX5_firstPermit 30 = .ok (.iconst (-1), 1) := by decide +kernel
theorem dX5_firstPermit_31 : decode cX5_firstPermit 31 = .ok (.if_icmp .eq 6, 3) := by decide +kernel
theorem dX5_firstPermit_34 : decode cX5_firstPermit 34 = .ok (.iload 5, 2) := by decide +kernel
theorem dX5_firstPermit_36 : decode cX5_firstPermit 36 = .ok (.ireturn, 1) := by decide +kernel
theorem dX5_firstPermit_37 : decode cX5_firstPermit 37 = .ok (.iinc 4 1, 3) := by decide +kernel
theorem dX5_firstPermit_40 : decode cX5_firstPermit 40 = .ok (.goto (-37), 3) := by decide +kernel
theorem dX5_firstPermit_43 : decode cX5_firstPermit 43 = .ok (.iconst (-1), 1) := by decide +kernel
theorem dX5_firstPermit_44 : decode cX5_firstPermit 44 = .ok (.ireturn, 1) := by decide +kernel
theorem dX5_firstObstacle_0 : decode cX5_firstObstacle 0 = .ok (.iload_n 2, 1) := by decide +kernel
theorem dX5_firstObstacle_1 : decode cX5_firstObstacle 1 = .ok (.istore 4, 2) := by decide +kernel
theorem dX5_firstObstacle_3 : decode cX5_firstObstacle 3 = .ok (.iload 4, 2) := by decide +kernel
theorem dX5_firstObstacle_5 : decode cX5_firstObstacle 5 = .ok (.iload_n 2, 1) := by decide +kernel
theorem dX5_firstObstacle_6 : decode cX5_firstObstacle 6 = .ok (.iload_n 3, 1) := by decide +kernel
theorem dX5_firstObstacle_7 : decode cX5_firstObstacle 7 = .ok (.iadd, 1) := by decide +kernel
theorem dX5_firstObstacle_8 : decode cX5_firstObstacle 8 = .ok (.if_icmp .ge 36, 3) := by decide +kernel
theorem dX5_firstObstacle_11 : decode cX5_firstObstacle 11 = .ok (.aload_n 0, 1) := by decide +kernel
theorem dX5_firstObstacle_12 : decode cX5_firstObstacle 12 = .ok (.iload 4, 2) := by decide +kernel
theorem dX5_firstObstacle_14 : decode cX5_firstObstacle 14 = .ok (.invokevirtual 97, 3) := by decide +kernel
theorem dX5_firstObstacle_17 : decode cX5_firstObstacle 17 = .ok (.istore 5, 2) := by decide +kernel
theorem dX5_firstObstacle_19 : decode cX5_firstObstacle 19 = .ok (.iload 5, 2) := by decide +kernel
theorem dX5_firstObstacle_21 : decode cX5_firstObstacle 21 = .ok (.iconst (-1), 1) := by decide +kernel
theorem dX5_firstObstacle_22 : decode cX5_firstObstacle 22 = .ok (.if_icmp .eq 16, 3) := by decide +kernel
theorem dX5_firstObstacle_25 : decode cX5_firstObstacle 25 = .ok (.aload_n 0, 1) := by decide +kernel
theorem dX5_firstObstacle_26 : decode cX5_firstObstacle 26 = .ok (.iload_n 1, 1) := by decide +kernel
theorem dX5_firstObstacle_27 : decode cX5_firstObstacle 27 = .ok (.iload 5, 2) := by decide +kernel
theorem dX5_firstObstacle_29 : decode cX5_firstObstacle 29 = .ok (.invokevirtual 162, 3) := by decide +kernel
theorem dX5_firstObstacle_32 : decode cX5_firstObstacle 32 = .ok (.ifCond .ne 6, 3) := by decide +kernel
theorem dX5_firstObstacle_35 : decode cX5_firstObstacle 35 = .ok (.iload 5, 2) := by decide +kernel
theorem dX5_firstObstacle_37 : decode cX5_firstObstacle 37 = .ok (.ireturn, 1) := by decide +kernel
theorem dX5_firstObstacle_38 : decode cX5_firstObstacle 38 = .ok (.iinc 4 1, 3) := by decide +kernel
theorem dX5_firstObstacle_41 : decode cX5_firstObstacle 41 = .ok (.goto (-38), 3) := by decide +kernel
theorem dX5_firstObstacle_44 : decode cX5_firstObstacle 44 = .ok (.iconst (-1), 1) := by decide +kernel
theorem dX5_firstObstacle_45 : decode cX5_firstObstacle 45 = .ok (.ireturn, 1) := by decide +kernel
theorem dX5_canDisplace_0 : decode cX5_canDisplace 0 = .ok (.aload_n 0, 1) := by decide +kernel
theorem dX5_canDisplace_1 : decode cX5_canDisplace 1 = .ok (.getfield 25, 3) := by decide +kernel
theorem dX5_canDisplace_4 : decode cX5_canDisplace 4 = .ok (.iload_n 2, 1) := by decide +kernel
theorem dX5_canDisplace_5 : decode cX5_canDisplace 5 = .ok (.aaload, 1) := by decide +kernel
theorem dX5_canDisplace_6 : decode cX5_canDisplace 6 = .ok (.getfield 90, 3) := by decide +kernel
theorem dX5_canDisplace_9 : decode cX5_canDisplace 9 = .ok (.ifCond .ne 36, 3) := by decide +kernel
theorem dX5_canDisplace_12 : decode cX5_canDisplace 12 = .ok (.aload_n 0, 1) := by decide +kernel
theorem dX5_canDisplace_13 : decode cX5_canDisplace 13 = .ok (.getfield 19, 3) := by decide +kernel
theorem dX5_canDisplace_16 : decode cX5_canDisplace 16 = .ok (.aload_n 0, 1) := by decide +kernel
theorem dX5_canDisplace_17 : decode cX5_canDisplace 17 = .ok (.getfield 25, 3) := by decide +kernel
theorem dX5_canDisplace_20 : decode cX5_canDisplace 20 = .ok (.iload_n 2, 1) := by decide +kernel
theorem dX5_canDisplace_21 : decode cX5_canDisplace 21 = .ok (.aaload, 1) := by decide +kernel
theorem dX5_canDisplace_22 : decode cX5_canDisplace 22 = .ok (.getfield 84, 3) := by decide +kernel
theorem dX5_canDisplace_25 : decode cX5_canDisplace 25 = .ok (.aaload, 1) := by decide +kernel
theorem dX5_canDisplace_26 : decode cX5_canDisplace 26 = .ok (.getfield 138, 3) := by decide +kernel
theorem dX5_canDisplace_29 : decode cX5_canDisplace 29 = .ok (.aload_n 0, 1) := by decide +kernel
theorem dX5_canDisplace_30 : decode cX5_canDisplace 30 = .ok (.getfield 19, 3) := by decide +kernel
theorem dX5_canDisplace_33 : decode cX5_canDisplace 33 = .ok (.iload_n 1, 1) := by decide +kernel
theorem dX5_canDisplace_34 : decode cX5_canDisplace 34 = .ok (.aaload, 1) := by decide +kernel
theorem dX5_canDisplace_35 : decode cX5_canDisplace 35 = .ok (.getfield 138, 3) := by decide +kernel
theorem dX5_canDisplace_38 : decode cX5_canDisplace 38 = .ok (.if_icmp .ge 7, 3) := by decide +kernel
theorem dX5_canDisplace_41 : decode cX5_canDisplace 41 = .ok (.iconst 1, 1) := by decide +kernel
theorem dX5_canDisplace_42 : decode cX5_canDisplace 42 = .ok (.goto 4, 3) := by decide +kernel
theorem dX5_canDisplace_45 : decode cX5_canDisplace 45 = .ok (.iconst 0, 1) := by decide +kernel
theorem dX5_canDisplace_46 : decode cX5_canDisplace 46 = .ok (.ireturn, 1) := by decide +kernel
theorem dX5_earliest_0 : decode cX5_earliest 0 = .ok (.aload_n 0, 1) := by decide +kernel
theorem dX5_earliest_1 : decode cX5_earliest 1 = .ok (.getfield 39, 3) := by decide +kernel
theorem dX5_earliest_4 : decode cX5_earliest 4 = .ok (.istore 4, 2) := by decide +kernel
theorem dX5_earliest_6 : decode cX5_earliest 6 = .ok (.iload 4, 2) := by decide +kernel
theorem dX5_earliest_8 : decode cX5_earliest 8 = .ok (.aload_n 0, 1) := by decide +kernel
theorem dX5_earliest_9 : decode cX5_earliest 9 = .ok (.getfield 39, 3) := by decide +kernel
theorem dX5_earliest_12 : decode cX5_earliest 12 = .ok (.bipush 48, 2) := by decide +kernel
theorem dX5_earliest_14 : decode cX5_earliest 14 = .ok (.iadd, 1) := by decide +kernel
theorem dX5_earliest_15 : decode cX5_earliest 15 = .ok (.iload_n 2, 1) := by decide +kernel
theorem dX5_earliest_16 : decode cX5_earliest 16 = .ok (.isub, 1) := by decide +kernel
theorem dX5_earliest_17 : decode cX5_earliest 17 = .ok (.if_icmp .gt 34, 3) := by decide +kernel
theorem dX5_earliest_20 : decode cX5_earliest 20 = .ok (.aload_n 0, 1) := by decide +kernel
theorem dX5_earliest_21 : decode cX5_earliest 21 = .ok (.iload 4, 2) := by decide +kernel
theorem dX5_earliest_23 : decode cX5_earliest 23 = .ok (.iload_n 2, 1) := by decide +kernel
theorem dX5_earliest_24 : decode cX5_earliest 24 = .ok (.invokevirtual 147, 3) := by decide +kernel
theorem dX5_earliest_27 : decode cX5_earliest 27 = .ok (.iload_n 3, 1) := by decide +kernel
theorem dX5_earliest_28 : decode cX5_earliest 28 = .ok (.if_icmp .gt 17, 3) := by decide +kernel
theorem dX5_earliest_31 : decode cX5_earliest 31 = .ok (.aload_n 0, 1) := by decide +kernel
theorem dX5_earliest_32 : decode cX5_earliest 32 = .ok (.iload_n 1, 1) := by decide +kernel
theorem dX5_earliest_33 : decode cX5_earliest 33 = .ok (.iload 4, 2) := by decide +kernel
theorem dX5_earliest_35 : decode cX5_earliest 35 = .ok (.iload_n 2, 1) := by decide +kernel
theorem dX5_earliest_36 : decode cX5_earliest 36 = .ok (.invokevirtual 165, 3) := by decide +kernel
theorem dX5_earliest_39 : decode cX5_earliest 39 = .ok (.ifCond .ne 6, 3) := by decide +kernel
theorem dX5_earliest_42 : decode cX5_earliest 42 = .ok (.iload 4, 2) := by decide +kernel
theorem dX5_earliest_44 : decode cX5_earliest 44 = .ok (.ireturn, 1) := by decide +kernel
theorem dX5_earliest_45 : decode cX5_earliest 45 = .ok (.iinc 4 1, 3) := by decide +kernel
theorem dX5_earliest_48 : decode cX5_earliest 48 = .ok (.goto (-42), 3) := by decide +kernel
theorem dX5_earliest_51 : decode cX5_earliest 51 = .ok (.iconst (-1), 1) := by decide +kernel
theorem dX5_earliest_52 : decode cX5_earliest 52 = .ok (.ireturn, 1) := by decide +kernel
theorem dX5_canPermit_0 : decode cX5_canPermit 0 = .ok (.iconst 0, 1) := by decide +kernel
theorem dX5_canPermit_1 : decode cX5_canPermit 1 = .ok (.istore 4, 2) := by decide +kernel
theorem dX5_canPermit_3 : decode cX5_canPermit 3 = .ok (.iload 4, 2) := by decide +kernel
theorem dX5_canPermit_5 : decode cX5_canPermit 5 = .ok (.aload_n 0, 1) := by decide +kernel
theorem dX5_canPermit_6 : decode cX5_canPermit 6 = .ok (.getfield 61, 3) := by decide +kernel
theorem dX5_canPermit_9 : decode cX5_canPermit 9 = .ok (.if_icmp .ge 36, 3) := by decide +kernel
theorem dX5_canPermit_12 : decode cX5_canPermit 12 = .ok (.aload_n 0, 1) := by decide +kernel
theorem dX5_canPermit_13 : decode cX5_canPermit 13 = .ok (.getfield 25, 3) := by decide +kernel
theorem dX5_canPermit_16 : decode cX5_canPermit 16 = .ok (.iload 4, 2) := by decide +kernel
theorem dX5_canPermit_18 : decode cX5_canPermit 18 = .ok (.aaload, 1) := by decide +kernel
theorem dX5_canPermit_19 : decode cX5_canPermit 19 = .ok (.iload_n 2, 1) := by decide +kernel
theorem dX5_canPermit_20 : decode cX5_canPermit 20 = .ok (.iload_n 3, 1) := by decide +kernel
theorem dX5_canPermit_21 : decode cX5_canPermit 21 = .ok (.invokevirtual 93, 3) := by decide +kernel
theorem dX5_canPermit_24 : decode cX5_canPermit 24 = .ok (.ifCond .eq 15, 3) := by decide +kernel
theorem dX5_canPermit_27 : decode cX5_canPermit 27 = .ok (.aload_n 0, 1) := by decide +kernel
theorem dX5_canPermit_28 : decode cX5_canPermit 28 = .ok (.iload 4, 2) := by decide +kernel
theorem dX5_canPermit_30 : decode cX5_canPermit 30 = .ok (.invokevirtual 115, 3) := by decide +kernel
theorem dX5_canPermit_33 : decode cX5_canPermit 33 = .ok (.iload_n 1, 1) := by decide +kernel
theorem dX5_canPermit_34 : decode cX5_canPermit 34 = .ok (.if_icmp .ne 5, 3) := by decide +kernel
theorem dX5_canPermit_37 : decode cX5_canPermit 37 = .ok (.iconst 0, 1) := by decide +kernel
theorem dX5_canPermit_38 : decode cX5_canPermit 38 = .ok (.ireturn, 1) := by decide +kernel
theorem dX5_canPermit_39 : decode cX5_canPermit 39 = .ok (.iinc 4 1, 3) := by decide +kernel
theorem dX5_canPermit_42 : decode cX5_canPermit 42 = .ok (.goto (-39), 3) := by decide +kernel
theorem dX5_canPermit_45 : decode cX5_canPermit 45 = .ok (.aload_n 0, 1) := by decide +kernel
theorem dX5_canPermit_46 : decode cX5_canPermit 46 = .ok (.getfield 64, 3) := by decide +kernel
theorem dX5_canPermit_49 : decode cX5_canPermit 49 = .ok (.bipush 10, 2) := by decide +kernel
theorem dX5_canPermit_51 : decode cX5_canPermit 51 = .ok (.if_icmp .ge 7, 3) := by decide +kernel
theorem dX5_canPermit_54 : decode cX5_canPermit 54 = .ok (.iconst 1, 1) := by decide +kernel
theorem dX5_canPermit_55 : decode cX5_canPermit 55 = .ok (.goto 4, 3) := by decide +kernel
theorem dX5_canPermit_58 : decode cX5_canPermit 58 = .ok (.iconst 0, 1) := by decide +kernel
theorem dX5_canPermit_59 : decode cX5_canPermit 59 = .ok (.ireturn, 1) := by decide +kernel
theorem dX5_addStreet_0 : decode cX5_addStreet 0 = .ok (.aload_n 0, 1) := by decide +kernel
theorem dX5_addStreet_1 : decode cX5_addStreet 1 = .ok (.getfield 11, 3) := by decide +kernel
theorem dX5_addStreet_4 : decode cX5_addStreet 4 = .ok (.aload_n 0, 1) := by decide +kernel
theorem dX5_addStreet_5 : decode cX5_addStreet 5 = .ok (.getfield 55, 3) := by decide +kernel
theorem dX5_addStreet_8 : decode cX5_addStreet 8 = .ok (.aaload, 1) := by decide +kernel
theorem dX5_addStreet_9 : decode cX5_addStreet 9 = .ok (.astore 4, 2) := by decide +kernel
theorem dX5_addStreet_11 : decode cX5_addStreet 11 = .ok (.aload 4, 2) := by decide +kernel
theorem dX5_addStreet_13 : decode cX5_addStreet 13 = .ok (.iload_n 1, 1) := by decide +kernel
theorem dX5_addStreet_14 : decode cX5_addStreet 14 = .ok (.putfield 80, 3) := by decide +kernel
theorem dX5_addStreet_17 : decode cX5_addStreet 17 = .ok (.aload 4, 2) := by decide +kernel
theorem dX5_addStreet_19 : decode cX5_addStreet 19 = .ok (.iload_n 2, 1) := by decide +kernel
theorem dX5_addStreet_20 : decode cX5_addStreet 20 = .ok (.putfield 125, 3) := by decide +kernel
theorem dX5_addStreet_23 : decode cX5_addStreet 23 = .ok (.aload 4, 2) := by decide +kernel
theorem dX5_addStreet_25 : decode cX5_addStreet 25 = .ok (.iload_n 3, 1) := by decide +kernel
theorem dX5_addStreet_26 : decode cX5_addStreet 26 = .ok (.putfield 122, 3) := by decide +kernel
theorem dX5_addStreet_29 : decode cX5_addStreet 29 = .ok (.aload 4, 2) := by decide +kernel
theorem dX5_addStreet_31 : decode cX5_addStreet 31 = .ok (.iconst 0, 1) := by decide +kernel
theorem dX5_addStreet_32 : decode cX5_addStreet 32 = .ok (.putfield 168, 3) := by decide +kernel
theorem dX5_addStreet_35 : decode cX5_addStreet 35 = .ok (.aload 4, 2) := by decide +kernel
theorem dX5_addStreet_37 : decode cX5_addStreet 37 = .ok (.iconst 0, 1) := by decide +kernel
theorem dX5_addStreet_38 : decode cX5_addStreet 38 = .ok (.putfield 171, 3) := by decide +kernel
theorem dX5_addStreet_41 : decode cX5_addStreet 41 = .ok (.aload_n 0, 1) := by decide +kernel
theorem dX5_addStreet_42 : decode cX5_addStreet 42 = .ok (.dup, 1) := by decide +kernel
theorem dX5_addStreet_43 : decode cX5_addStreet 43 = .ok (.getfield 55, 3) := by decide +kernel
theorem dX5_addStreet_46 : decode cX5_addStreet 46 = .ok (.iconst 1, 1) := by decide +kernel
theorem dX5_addStreet_47 : decode cX5_addStreet 47 = .ok (.iadd, 1) := by decide +kernel
theorem dX5_addStreet_48 : decode cX5_addStreet 48 = .ok (.putfield 55, 3) := by decide +kernel
theorem dX5_addStreet_51 : decode cX5_addStreet 51 = .ok (.return_, 1) := by decide +kernel
theorem dX5_addBorrower_0 : decode cX5_addBorrower 0 = .ok (.aload_n 0, 1) := by decide +kernel
theorem dX5_addBorrower_1 : decode cX5_addBorrower 1 = .ok (.getfield 19, 3) := by decide +kernel
theorem dX5_addBorrower_4 : decode cX5_addBorrower 4 = .ok (.aload_n 0, 1) := by decide +kernel
theorem dX5_addBorrower_5 : decode cX5_addBorrower 5 = .ok (.getfield 58, 3) := by decide +kernel
theorem dX5_addBorrower_8 : decode cX5_addBorrower 8 = .ok (.aaload, 1) := by decide +kernel
theorem dX5_addBorrower_9 : decode cX5_addBorrower 9 = .ok (.astore 5, 2) := by decide +kernel
theorem dX5_addBorrower_11 : decode cX5_addBorrower 11 = .ok (.aload 5, 2) := by decide +kernel
theorem dX5_addBorrower_13 : decode cX5_addBorrower 13 = .ok (.iload_n 1, 1) := by decide +kernel
theorem dX5_addBorrower_14 : decode cX5_addBorrower 14 = .ok (.putfield 83, 3) := by decide +kernel
theorem dX5_addBorrower_17 : decode cX5_addBorrower 17 = .ok (.aload 5, 2) := by decide +kernel
theorem dX5_addBorrower_19 : decode cX5_addBorrower 19 = .ok (.iload_n 2, 1) := by decide +kernel
theorem dX5_addBorrower_20 : decode cX5_addBorrower 20 = .ok (.putfield 87, 3) := by decide +kernel
theorem dX5_addBorrower_23 : decode cX5_addBorrower 23 = .ok (.aload 5, 2) := by decide +kernel
theorem dX5_addBorrower_25 : decode cX5_addBorrower 25 = .ok (.iload_n 3, 1) := by decide +kernel
theorem dX5_addBorrower_26 : decode cX5_addBorrower 26 = .ok (.putfield 138, 3) := by decide +kernel
theorem dX5_addBorrower_29 : decode cX5_addBorrower 29 = .ok (.aload 5, 2) := by decide +kernel
theorem dX5_addBorrower_31 : decode cX5_addBorrower 31 = .ok (.iload 4, 2) := by decide +kernel
theorem dX5_addBorrower_33 : decode cX5_addBorrower 33 = .ok (.putfield 141, 3) := by decide +kernel
theorem dX5_addBorrower_36 : decode cX5_addBorrower 36 = .ok (.aload 5, 2) := by decide +kernel
theorem dX5_addBorrower_38 : decode cX5_addBorrower 38 = .ok (.iconst 0, 1) := by decide +kernel
theorem dX5_addBorrower_39 : decode cX5_addBorrower 39 = .ok (.putfield 174, 3) := by decide +kernel
theorem dX5_addBorrower_42 : decode cX5_addBorrower 42 = .ok (.aload 5, 2) := by decide +kernel
theorem dX5_addBorrower_44 : decode cX5_addBorrower 44 = .ok (.iconst 0, 1) := by decide +kernel
theorem dX5_addBorrower_45 : decode cX5_addBorrower 45 = .ok (.putfield 177, 3) := by decide +kernel
theorem dX5_addBorrower_48 : decode cX5_addBorrower 48 = .ok (.aload_n 0, 1) := by decide +kernel
theorem dX5_addBorrower_49 : decode cX5_addBorrower 49 = .ok (.dup, 1) := by decide +kernel
theorem dX5_addBorrower_50 : decode cX5_addBorrower 50 = .ok (.getfield 58, 3) := by decide +kernel
theorem dX5_addBorrower_53 : decode cX5_addBorrower 53 = .ok (.iconst 1, 1) := by decide +kernel
theorem dX5_addBorrower_54 : decode cX5_addBorrower 54 = .ok (.iadd, 1) := by decide +kernel
theorem dX5_addBorrower_55 : decode cX5_addBorrower 55 = .ok (.putfield 58, 3) := by decide +kernel
theorem dX5_addBorrower_58 : decode cX5_addBorrower 58 = .ok (.aload_n 0, 1) := by decide +kernel
theorem dX5_addBorrower_59 : decode cX5_addBorrower 59 = .ok (.dup, 1) := by decide +kernel
theorem dX5_addBorrower_60 : decode cX5_addBorrower 60 = .ok (.getfield 49, 3) := by decide +kernel
theorem dX5_addBorrower_63 : decode cX5_addBorrower 63 = .ok (.iload 4, 2) := by decide +kernel
theorem dX5_addBorrower_65 : decode cX5_addBorrower 65 = .ok (.iadd, 1) := by decide +kernel
theorem dX5_addBorrower_66 : decode cX5_addBorrower 66 = .ok (.putfield 49, 3) := by decide +kernel
theorem dX5_addBorrower_69 : decode cX5_addBorrower 69 = .ok (.return_, 1) := by decide +kernel
theorem dX5_addLoan_0 : decode cX5_addLoan 0 = .ok (.iconst 0, 1) := by decide +kernel
theorem dX5_addLoan_1 : decode cX5_addLoan 1 = .ok (.istore 4, 2) := by decide +kernel
theorem dX5_addLoan_3 : decode cX5_addLoan 3 = .ok (.iload 4, 2) := by decide +kernel
theorem dX5_addLoan_5 : decode cX5_addLoan 5 = .ok (.aload_n 0, 1) := by decide +kernel
theorem dX5_addLoan_6 : decode cX5_addLoan 6 = .ok (.getfield 61, 3) := by decide +kernel
theorem dX5_addLoan_9 : decode cX5_addLoan 9 = .ok (.if_icmp .ge 30, 3) := by decide +kernel
theorem dX5_addLoan_12 : decode cX5_addLoan 12 = .ok (.aload_n 0, 1) := by decide +kernel
theorem dX5_addLoan_13 : decode cX5_addLoan 13 = .ok (.getfield 25, 3) := by decide +kernel
theorem dX5_addLoan_16 : decode cX5_addLoan 16 = .ok (.iload 4, 2) := by decide +kernel
theorem dX5_addLoan_18 : decode cX5_addLoan 18 = .ok (.aaload, 1) := by decide +kernel
theorem dX5_addLoan_19 : decode cX5_addLoan 19 = .ok (.iload_n 2, 1) := by decide +kernel
theorem dX5_addLoan_20 : decode cX5_addLoan 20 = .ok (.iload_n 3, 1) := by decide +kernel
theorem dX5_addLoan_21 : decode cX5_addLoan 21 = .ok (.invokevirtual 93, 3) := by decide +kernel
theorem dX5_addLoan_24 : decode cX5_addLoan 24 = .ok (.ifCond .eq 9, 3) := by decide +kernel
theorem dX5_addLoan_27 : decode cX5_addLoan 27 = .ok (.aload_n 0, 1) := by decide +kernel
theorem dX5_addLoan_28 : decode cX5_addLoan 28 = .ok (.iload 4, 2) := by decide +kernel
theorem dX5_addLoan_30 : decode cX5_addLoan 30 = .ok (.invokevirtual 180, 3) := by decide +kernel
theorem dX5_addLoan_33 : decode cX5_addLoan 33 = .ok (.iinc 4 1, 3) := by decide +kernel
theorem dX5_addLoan_36 : decode cX5_addLoan 36 = .ok (.goto (-33), 3) := by decide +kernel
theorem dX5_addLoan_39 : decode cX5_addLoan 39 = .ok (.aload_n 0, 1) := by decide +kernel
theorem dX5_addLoan_40 : decode cX5_addLoan 40 = .ok (.getfield 25, 3) := by decide +kernel
theorem dX5_addLoan_43 : decode cX5_addLoan 43 = .ok (.aload_n 0, 1) := by decide +kernel
theorem dX5_addLoan_44 : decode cX5_addLoan 44 = .ok (.getfield 61, 3) := by decide +kernel
theorem dX5_addLoan_47 : decode cX5_addLoan 47 = .ok (.aaload, 1) := by decide +kernel
theorem dX5_addLoan_48 : decode cX5_addLoan 48 = .ok (.astore 4, 2) := by decide +kernel
theorem dX5_addLoan_50 : decode cX5_addLoan 50 = .ok (.aload 4, 2) := by decide +kernel
theorem dX5_addLoan_52 : decode cX5_addLoan 52 = .ok (.iload_n 1, 1) := by decide +kernel
theorem dX5_addLoan_53 : decode cX5_addLoan 53 = .ok (.putfield 84, 3) := by decide +kernel
theorem dX5_addLoan_56 : decode cX5_addLoan 56 = .ok (.aload 4, 2) := by decide +kernel
theorem dX5_addLoan_58 : decode cX5_addLoan 58 = .ok (.iload_n 2, 1) := by decide +kernel
theorem dX5_addLoan_59 : decode cX5_addLoan 59 = .ok (.putfield 183, 3) := by decide +kernel
theorem dX5_addLoan_62 : decode cX5_addLoan 62 = .ok (.aload 4, 2) := by decide +kernel
theorem dX5_addLoan_64 : decode cX5_addLoan 64 = .ok (.iload_n 3, 1) := by decide +kernel
theorem dX5_addLoan_65 : decode cX5_addLoan 65 = .ok (.putfield 186, 3) := by decide +kernel
theorem dX5_addLoan_68 : decode cX5_addLoan 68 = .ok (.aload 4, 2) := by decide +kernel
theorem dX5_addLoan_70 : decode cX5_addLoan 70 = .ok (.aload_n 0, 1) := by decide +kernel
theorem dX5_addLoan_71 : decode cX5_addLoan 71 = .ok (.iload_n 1, 1) := by decide +kernel
theorem dX5_addLoan_72 : decode cX5_addLoan 72 = .ok (.iload_n 3, 1) := by decide +kernel
theorem dX5_addLoan_73 : decode cX5_addLoan 73 = .ok (.invokevirtual 160, 3) := by decide +kernel
theorem dX5_addLoan_76 : decode cX5_addLoan 76 = .ok (.putfield 144, 3) := by decide +kernel
theorem dX5_addLoan_79 : decode cX5_addLoan 79 = .ok (.aload 4, 2) := by decide +kernel
theorem dX5_addLoan_81 : decode cX5_addLoan 81 = .ok (.iconst 0, 1) := by decide +kernel
theorem dX5_addLoan_82 : decode cX5_addLoan 82 = .ok (.putfield 90, 3) := by decide +kernel
theorem dX5_addLoan_85 : decode cX5_addLoan 85 = .ok (.aload_n 0, 1) := by decide +kernel
theorem dX5_addLoan_86 : decode cX5_addLoan 86 = .ok (.getfield 19, 3) := by decide +kernel
theorem dX5_addLoan_89 : decode cX5_addLoan 89 = .ok (.iload_n 1, 1) := by decide +kernel
theorem dX5_addLoan_90 : decode cX5_addLoan 90 = .ok (.aaload, 1) := by decide +kernel
theorem dX5_addLoan_91 : decode cX5_addLoan 91 = .ok (.dup, 1) := by decide +kernel
theorem dX5_addLoan_92 : decode cX5_addLoan 92 = .ok (.getfield 141, 3) := by decide +kernel
theorem dX5_addLoan_95 : decode cX5_addLoan 95 = .ok (.aload 4, 2) := by decide +kernel
theorem dX5_addLoan_97 : decode cX5_addLoan 97 = .ok (.getfield 144, 3) := by decide +kernel
theorem dX5_addLoan_100 : decode cX5_addLoan 100 = .ok (.isub, 1) := by decide +kernel
theorem dX5_addLoan_101 : decode cX5_addLoan 101 = .ok (.putfield 141, 3) := by decide +kernel
theorem dX5_addLoan_104 : decode cX5_addLoan 104 = .ok (.aload_n 0, 1) := by decide +kernel
theorem dX5_addLoan_105 : decode cX5_addLoan 105 = .ok (.dup, 1) := by decide +kernel
theorem dX5_addLoan_106 : decode cX5_addLoan 106 = .ok (.getfield 61, 3) := by decide +kernel
theorem dX5_addLoan_109 : decode cX5_addLoan 109 = .ok (.iconst 1, 1) := by decide +kernel
theorem dX5_addLoan_110 : decode cX5_addLoan 110 = .ok (.iadd, 1) := by decide +kernel
theorem dX5_addLoan_111 : decode cX5_addLoan 111 = .ok (.putfield 61, 3) := by decide +kernel
theorem dX5_addLoan_114 : decode cX5_addLoan 114 = .ok (.aload_n 0, 1) := by decide +kernel
theorem dX5_addLoan_115 : decode cX5_addLoan 115 = .ok (.getfield 61, 3) := by decide +kernel
theorem dX5_addLoan_118 : decode cX5_addLoan 118 = .ok (.iconst 1, 1) := by decide +kernel
theorem dX5_addLoan_119 : decode cX5_addLoan 119 = .ok (.isub, 1) := by decide +kernel
theorem dX5_addLoan_120 : decode cX5_addLoan 120 = .ok (.ireturn, 1) := by decide +kernel
theorem dX5_cancelLoan_0 : decode cX5_cancelLoan 0 = .ok (.aload_n 0, 1) := by decide +kernel
theorem dX5_cancelLoan_1 : decode cX5_cancelLoan 1 = .ok (.getfield 25, 3) := by decide +kernel
theorem dX5_cancelLoan_4 : decode cX5_cancelLoan 4 = .ok (.iload_n 1, 1) := by decide +kernel
theorem dX5_cancelLoan_5 : decode cX5_cancelLoan 5 = .ok (.aaload, 1) := by decide +kernel
theorem dX5_cancelLoan_6 : decode cX5_cancelLoan 6 = .ok (.iconst 5, 1) := by decide +kernel
theorem dX5_cancelLoan_7 : decode cX5_cancelLoan 7 = .ok (.putfield 90, 3) := by decide +kernel
theorem dX5_cancelLoan_10 : decode cX5_cancelLoan 10 = .ok (.aload_n 0, 1) := by decide +kernel
theorem dX5_cancelLoan_11 : decode cX5_cancelLoan 11 = .ok (.getfield 19, 3) := by decide +kernel
theorem dX5_cancelLoan_14 : decode cX5_cancelLoan 14 = .ok (.aload_n 0, 1) := by decide +kernel
theorem dX5_cancelLoan_15 : decode cX5_cancelLoan 15 = .ok (.getfield 25, 3) := by decide +kernel
theorem dX5_cancelLoan_18 : decode cX5_cancelLoan 18 = .ok (.iload_n 1, 1) := by decide +kernel
theorem dX5_cancelLoan_19 : decode cX5_cancelLoan 19 = .ok (.aaload, 1) := by decide +kernel
theorem dX5_cancelLoan_20 : decode cX5_cancelLoan 20 = .ok (.getfield 84, 3) := by decide +kernel
theorem dX5_cancelLoan_23 : decode cX5_cancelLoan 23 = .ok (.aaload, 1) := by decide +kernel
theorem dX5_cancelLoan_24 : decode cX5_cancelLoan 24 = .ok (.dup, 1) := by decide +kernel
theorem dX5_cancelLoan_25 : decode cX5_cancelLoan 25 = .ok (.getfield 141, 3) := by decide +kernel
theorem dX5_cancelLoan_28 : decode cX5_cancelLoan 28 = .ok (.aload_n 0, 1) := by decide +kernel
theorem dX5_cancelLoan_29 : decode cX5_cancelLoan 29 = .ok (.getfield 25, 3) := by decide +kernel
theorem dX5_cancelLoan_32 : decode cX5_cancelLoan 32 = .ok (.iload_n 1, 1) := by decide +kernel
theorem dX5_cancelLoan_33 : decode cX5_cancelLoan 33 = .ok (.aaload, 1) := by decide +kernel
theorem dX5_cancelLoan_34 : decode cX5_cancelLoan 34 = .ok (.getfield 144, 3) := by decide +kernel
theorem dX5_cancelLoan_37 : decode cX5_cancelLoan 37 = .ok (.iadd, 1) := by decide +kernel
theorem dX5_cancelLoan_38 : decode cX5_cancelLoan 38 = .ok (.putfield 141, 3) := by decide +kernel
theorem dX5_cancelLoan_41 : decode cX5_cancelLoan 41 = .ok (.return_, 1) := by decide +kernel
theorem dX5_addPermit_0 : decode cX5_addPermit 0 = .ok (.aload_n 0, 1) := by decide +kernel
theorem dX5_addPermit_1 : decode cX5_addPermit 1 = .ok (.getfield 31, 3) := by decide +kernel
theorem dX5_addPermit_4 : decode cX5_addPermit 4 = .ok (.aload_n 0, 1) := by decide +kernel
theorem dX5_addPermit_5 : decode cX5_addPermit 5 = .ok (.getfield 64, 3) := by decide +kernel
theorem dX5_addPermit_8 : decode cX5_addPermit 8 = .ok (.aaload, 1) := by decide +kernel
theorem dX5_addPermit_9 : decode cX5_addPermit 9 = .ok (.astore 4, 2) := by decide +kernel
theorem dX5_addPermit_11 : decode cX5_addPermit 11 = .ok (.aload 4, 2) := by decide +kernel
theorem dX5_addPermit_13 : decode cX5_addPermit 13 = .ok (.iload_n 1, 1) := by decide +kernel
theorem dX5_addPermit_14 : decode cX5_addPermit 14 = .ok (.putfield 189, 3) := by decide +kernel
theorem dX5_addPermit_17 : decode cX5_addPermit 17 = .ok (.aload 4, 2) := by decide +kernel
theorem dX5_addPermit_19 : decode cX5_addPermit 19 = .ok (.iload_n 2, 1) := by decide +kernel
theorem dX5_addPermit_20 : decode cX5_addPermit 20 = .ok (.putfield 190, 3) := by decide +kernel
theorem dX5_addPermit_23 : decode cX5_addPermit 23 = .ok (.aload 4, 2) := by decide +kernel
theorem dX5_addPermit_25 : decode cX5_addPermit 25 = .ok (.iload_n 3, 1) := by decide +kernel
theorem dX5_addPermit_26 : decode cX5_addPermit 26 = .ok (.putfield 191, 3) := by decide +kernel
theorem dX5_addPermit_29 : decode cX5_addPermit 29 = .ok (.aload 4, 2) := by decide +kernel
theorem dX5_addPermit_31 : decode cX5_addPermit 31 = .ok (.iconst 0, 1) := by decide +kernel
theorem dX5_addPermit_32 : decode cX5_addPermit 32 = .ok (.putfield 104, 3) := by decide +kernel
theorem dX5_addPermit_35 : decode cX5_addPermit 35 = .ok (.aload_n 0, 1) := by decide +kernel
theorem dX5_addPermit_36 : decode cX5_addPermit 36 = .ok (.dup, 1) := by decide +kernel
theorem dX5_addPermit_37 : decode cX5_addPermit 37 = .ok (.getfield 64, 3) := by decide +kernel
theorem dX5_addPermit_40 : decode cX5_addPermit 40 = .ok (.iconst 1, 1) := by decide +kernel
theorem dX5_addPermit_41 : decode cX5_addPermit 41 = .ok (.iadd, 1) := by decide +kernel
theorem dX5_addPermit_42 : decode cX5_addPermit 42 = .ok (.putfield 64, 3) := by decide +kernel
theorem dX5_addPermit_45 : decode cX5_addPermit 45 = .ok (.aload_n 0, 1) := by decide +kernel
theorem dX5_addPermit_46 : decode cX5_addPermit 46 = .ok (.getfield 64, 3) := by decide +kernel
theorem dX5_addPermit_49 : decode cX5_addPermit 49 = .ok (.iconst 1, 1) := by decide +kernel
theorem dX5_addPermit_50 : decode cX5_addPermit 50 = .ok (.isub, 1) := by decide +kernel
theorem dX5_addPermit_51 : decode cX5_addPermit 51 = .ok (.ireturn, 1) := by decide +kernel
theorem dX5_passHours_0 : decode cX5_passHours 0 = .ok (.iconst 0, 1) := by decide +kernel
theorem dX5_passHours_1 : decode cX5_passHours 1 = .ok (.istore_n 2, 1) := by decide +kernel
theorem dX5_passHours_2 : decode cX5_passHours 2 = .ok (.iconst 0, 1) := by decide +kernel
theorem dX5_passHours_3 : decode cX5_passHours 3 = .ok (.istore_n 3, 1) := by decide +kernel
theorem dX5_passHours_4 : decode cX5_passHours 4 = .ok (.iload_n 3, 1) := by decide +kernel
theorem dX5_passHours_5 : decode cX5_passHours 5 = .ok (.iload_n 1, 1) := by decide +kernel
theorem dX5_passHours_6 : decode cX5_passHours 6 = .ok (.if_icmp .ge 84, 3) := by decide +kernel
theorem dX5_passHours_9 : decode cX5_passHours 9 = .ok (.aload_n 0, 1) := by decide +kernel
theorem dX5_passHours_10 : decode cX5_passHours 10 = .ok (.invokevirtual 192, 3) := by decide +kernel
theorem dX5_passHours_13 : decode cX5_passHours 13 = .ok (.aload_n 0, 1) := by decide +kernel
theorem dX5_passHours_14 : decode cX5_passHours 14 = .ok (.invokevirtual 195, 3) := by decide +kernel
theorem dX5_passHours_17 : decode cX5_passHours 17 = .ok (.iconst 0, 1) := by decide +kernel
theorem dX5_passHours_18 : decode cX5_passHours 18 = .ok (.istore 4, 2) := by decide +kernel
theorem dX5_passHours_20 : decode cX5_passHours 20 = .ok (.iload 4, 2) := by decide +kernel
theorem dX5_passHours_22 : decode cX5_passHours 22 = .ok (.aload_n 0, 1) := by decide +kernel
theorem dX5_passHours_23 : decode cX5_passHours 23 = .ok (.getfield 58, 3) := by decide +kernel
theorem dX5_passHours_26 : decode cX5_passHours 26 = .ok (.if_icmp .ge 37, 3) := by decide +kernel
theorem dX5_passHours_29 : decode cX5_passHours 29 = .ok (.aload_n 0, 1) := by decide +kernel
theorem dX5_passHours_30 : decode cX5_passHours 30 = .ok (.getfield 19, 3) := by decide +kernel
theorem dX5_passHours_33 : decode cX5_passHours 33 = .ok (.iload 4, 2) := by decide +kernel
theorem dX5_passHours_35 : decode cX5_passHours 35 = .ok (.aaload, 1) := by decide +kernel
theorem dX5_passHours_36 : decode cX5_passHours 36 = .ok (.aload_n 0, 1) := by decide +kernel
theorem dX5_passHours_37 : decode cX5_passHours 37 = .ok (.getfield 11, 3) := by decide +kernel
theorem dX5_passHours_40 : decode cX5_passHours 40 = .ok (.aload_n 0, 1) := by decide +kernel
theorem dX5_passHours_41 : decode cX5_passHours 41 = .ok (.getfield 19, 3) := by decide +kernel
theorem dX5_passHours_44 : decode cX5_passHours 44 = .ok (.iload 4, 2) := by decide +kernel
theorem dX5_passHours_46 : decode cX5_passHours 46 = .ok (.aaload, 1) := by decide +kernel
theorem dX5_passHours_47 : decode cX5_passHours 47 = .ok (.getfield 87, 3) := by decide +kernel
theorem dX5_passHours_50 : decode cX5_passHours 50 = .ok (.aaload, 1) := by decide +kernel
theorem dX5_passHours_51 : decode cX5_passHours 51 = .ok (.getfield 198, 3) := by decide +kernel
theorem dX5_passHours_54 : decode cX5_passHours 54 = .ok (.invokevirtual 134, 3) := by decide +kernel
theorem dX5_passHours_57 : decode cX5_passHours 57 = .ok (.iinc 4 1, 3) := by decide +kernel
theorem dX5_passHours_60 : decode cX5_passHours 60 = .ok (.goto (-40), 3) := by decide +kernel
theorem dX5_passHours_63 : decode cX5_passHours 63 = .ok (.aload_n 0, 1) := by decide +kernel
theorem dX5_passHours_64 : decode cX5_passHours 64 = .ok (.dup, 1) := by decide +kernel
theorem dX5_passHours_65 : decode cX5_passHours 65 = .ok (.getfield 39, 3) := by decide +kernel
theorem dX5_passHours_68 : decode cX5_passHours 68 = .ok (.iconst 1, 1) := by decide +kernel
theorem dX5_passHours_69 : decode cX5_passHours 69 = .ok (.iadd, 1) := by decide +kernel
theorem dX5_passHours_70 : decode cX5_passHours 70 = .ok (.putfield 39, 3) := by decide +kernel
theorem dX5_passHours_73 : decode cX5_passHours 73 = .ok (.aload_n 0, 1) := by decide +kernel
theorem dX5_passHours_74 : decode cX5_passHours 74 = .ok (.invokevirtual 201, 3) := by decide +kernel
theorem dX5_passHours_77 : decode cX5_passHours 77 = .ok (.iload_n 2, 1) := by decide +kernel
theorem dX5_passHours_78 : decode cX5_passHours 78 = .ok (.aload_n 0, 1) := by decide +kernel
theorem dX5_passHours_79 : decode cX5_passHours 79 = .ok (.invokevirtual 204, 3) := by decide +kernel
theorem dX5_passHours_82 : decode cX5_passHours 82 = .ok (.iadd, 1) := by decide +kernel
theorem dX5_passHours_83 : decode cX5_passHours 83 = .ok (.istore_n 2, 1) := by decide +kernel
theorem dX5_passHours_84 : decode cX5_passHours 84 = .ok (.iinc 3 1, 3) := by decide +kernel
theorem dX5_passHours_87 : decode cX5_passHours 87 = .ok (.goto (-83), 3) := by decide +kernel
theorem dX5_passHours_90 : decode cX5_passHours 90 = .ok (.iload_n 2, 1) := by decide +kernel
theorem dX5_passHours_91 : decode cX5_passHours 91 = .ok (.ireturn, 1) := by decide +kernel
theorem dX5_beginLoans_0 : decode cX5_beginLoans 0 = .ok (.iconst 0, 1) := by decide +kernel
theorem dX5_beginLoans_1 : decode cX5_beginLoans 1 = .ok (.istore_n 1, 1) := by decide +kernel
theorem dX5_beginLoans_2 : decode cX5_beginLoans 2 = .ok (.iload_n 1, 1) := by decide +kernel
theorem dX5_beginLoans_3 : decode cX5_beginLoans 3 = .ok (.aload_n 0, 1) := by decide +kernel
theorem dX5_beginLoans_4 : decode cX5_beginLoans 4 = .ok (.getfield 61, 3) := by decide +kernel
theorem dX5_beginLoans_7 : decode cX5_beginLoans 7 = .ok (.if_icmp .ge 47, 3) := by decide +kernel
theorem dX5_beginLoans_10 : decode cX5_beginLoans 10 = .ok (.aload_n 0, 1) := by decide +kernel
theorem dX5_beginLoans_11 : decode cX5_beginLoans 11 = .ok (.getfield 25, 3) := by decide +kernel
theorem dX5_beginLoans_14 : decode cX5_beginLoans 14 = .ok (.iload_n 1, 1) := by decide +kernel
theorem dX5_beginLoans_15 : decode cX5_beginLoans 15 = .ok (.aaload, 1) := by decide +kernel
theorem dX5_beginLoans_16 : decode cX5_beginLoans 16 = .ok (.getfield 90, 3) := by decide +kernel
theorem dX5_beginLoans_19 : decode cX5_beginLoans 19 = .ok (.ifCond .ne 29, 3) := by decide +kernel
theorem dX5_beginLoans_22 : decode cX5_beginLoans 22 = .ok (.aload_n 0, 1) := by decide +kernel
theorem dX5_beginLoans_23 : decode cX5_beginLoans 23 = .ok (.getfield 25, 3) := by decide +kernel
theorem dX5_beginLoans_26 : decode cX5_beginLoans 26 = .ok (.iload_n 1, 1) := by decide +kernel
theorem dX5_beginLoans_27 : decode cX5_beginLoans 27 = .ok (.aaload, 1) := by decide +kernel
theorem dX5_beginLoans_28 : decode cX5_beginLoans 28 = .ok (.getfield 183, 3) := by decide +kernel
theorem dX5_beginLoans_31 : decode cX5_beginLoans 31 = .ok (.aload_n 0, 1) := by decide +kernel
theorem dX5_beginLoans_32 : decode cX5_beginLoans 32 = .ok (.getfield 39, 3) := by decide +kernel
theorem dX5_beginLoans_35 : decode cX5_beginLoans 35 = .ok (.if_icmp .ne 13, 3) := by decide +kernel
theorem dX5_beginLoans_38 : decode cX5_beginLoans 38 = .ok (.aload_n 0, 1) := by decide +kernel
theorem dX5_beginLoans_39 : decode cX5_beginLoans 39 = .ok (.getfield 25, 3) := by decide +kernel
theorem dX5_beginLoans_42 : decode cX5_beginLoans 42 = .ok (.iload_n 1, 1) := by decide +kernel
theorem dX5_beginLoans_43 : decode cX5_beginLoans 43 = .ok (.aaload, 1) := by decide +kernel
theorem dX5_beginLoans_44 : decode cX5_beginLoans 44 = .ok (.iconst 1, 1) := by decide +kernel
theorem dX5_beginLoans_45 : decode cX5_beginLoans 45 = .ok (.putfield 90, 3) := by decide +kernel
theorem dX5_beginLoans_48 : decode cX5_beginLoans 48 = .ok (.iinc 1 1, 3) := by decide +kernel
theorem dX5_beginLoans_51 : decode cX5_beginLoans 51 = .ok (.goto (-49), 3) := by decide +kernel
theorem dX5_beginLoans_54 : decode cX5_beginLoans 54 = .ok (.return_, 1) := by decide +kernel
theorem dX5_soundStreets_0 : decode cX5_soundStreets 0 = .ok (.aload_n 0, 1) := by decide +kernel
theorem dX5_soundStreets_1 : decode cX5_soundStreets 1 = .ok (.aload_n 0, 1) := by decide +kernel
theorem dX5_soundStreets_2 : decode cX5_soundStreets 2 = .ok (.getfield 39, 3) := by decide +kernel
theorem dX5_soundStreets_5 : decode cX5_soundStreets 5 = .ok (.invokevirtual 108, 3) := by decide +kernel
theorem dX5_soundStreets_8 : decode cX5_soundStreets 8 = .ok (.istore_n 1, 1) := by decide +kernel
theorem dX5_soundStreets_9 : decode cX5_soundStreets 9 = .ok (.iconst 0, 1) := by decide +kernel
theorem dX5_soundStreets_10 : decode cX5_soundStreets 10 = .ok (.istore_n 2, 1) := by decide +kernel
theorem dX5_soundStreets_11 : decode cX5_soundStreets 11 = .ok (.iload_n 2, 1) := by decide +kernel
theorem dX5_soundStreets_12 : decode cX5_soundStreets 12 = .ok (.aload_n 0, 1) := by decide +kernel
theorem dX5_soundStreets_13 : decode cX5_soundStreets 13 = .ok (.getfield 55, 3) := by decide +kernel
theorem dX5_soundStreets_16 : decode cX5_soundStreets 16 = .ok (.if_icmp .ge 79, 3) := by decide +kernel
theorem dX5_soundStreets_19 : decode cX5_soundStreets 19 = .ok (.aload_n 0, 1) := by decide +kernel
theorem dX5_soundStreets_20 : decode cX5_soundStreets 20 = .ok (.getfield 11, 3) := by decide +kernel
theorem dX5_soundStreets_23 : decode cX5_soundStreets 23 = .ok (.iload_n 2, 1) := by decide +kernel
theorem dX5_soundStreets_24 : decode cX5_soundStreets 24 = .ok (.aaload, 1) := by decide +kernel
theorem dX5_soundStreets_25 : decode cX5_soundStreets 25 = .ok (.iload_n 2, 1) := by decide +kernel
theorem dX5_soundStreets_26 : decode cX5_soundStreets 26 = .ok (.iload_n 1, 1) := by decide +kernel
theorem dX5_soundStreets_27 : decode cX5_soundStreets 27 = .ok (.if_icmp .ne 7, 3) := by decide +kernel
theorem dX5_soundStreets_30 : decode cX5_soundStreets 30 = .ok (.iconst 0, 1) := by decide +kernel
theorem dX5_soundStreets_31 : decode cX5_soundStreets 31 = .ok (.goto 12, 3) := by decide +kernel
theorem dX5_soundStreets_34 : decode cX5_soundStreets 34 = .ok (.aload_n 0, 1) := by decide +kernel
theorem dX5_soundStreets_35 : decode cX5_soundStreets 35 = .ok (.iload_n 2, 1) := by decide +kernel
theorem dX5_soundStreets_36 : decode cX5_soundStreets 36 = .ok (.aload_n 0, 1) := by decide +kernel
theorem dX5_soundStreets_37 : decode cX5_soundStreets 37 = .ok (.getfield 39, 3) := by decide +kernel
theorem dX5_soundStreets_40 : decode cX5_soundStreets 40 = .ok (.invokevirtual 111, 3) := by decide +kernel
theorem dX5_soundStreets_43 : decode cX5_soundStreets 43 = .ok (.putfield 198, 3) := by decide +kernel
theorem dX5_soundStreets_46 : decode cX5_soundStreets 46 = .ok (.aload_n 0, 1) := by decide +kernel
theorem dX5_soundStreets_47 : decode cX5_soundStreets 47 = .ok (.getfield 11, 3) := by decide +kernel
theorem dX5_soundStreets_50 : decode cX5_soundStreets 50 = .ok (.iload_n 2, 1) := by decide +kernel
theorem dX5_soundStreets_51 : decode cX5_soundStreets 51 = .ok (.aaload, 1) := by decide +kernel
theorem dX5_soundStreets_52 : decode cX5_soundStreets 52 = .ok (.dup, 1) := by decide +kernel
theorem dX5_soundStreets_53 : decode cX5_soundStreets 53 = .ok (.getfield 168, 3) := by decide +kernel
theorem dX5_soundStreets_56 : decode cX5_soundStreets 56 = .ok (.aload_n 0, 1) := by decide +kernel
theorem dX5_soundStreets_57 : decode cX5_soundStreets 57 = .ok (.getfield 11, 3) := by decide +kernel
theorem dX5_soundStreets_60 : decode cX5_soundStreets 60 = .ok (.iload_n 2, 1) := by decide +kernel
theorem dX5_soundStreets_61 : decode cX5_soundStreets 61 = .ok (.aaload, 1) := by decide +kernel
theorem dX5_soundStreets_62 : decode cX5_soundStreets 62 = .ok (.getfield 198, 3) := by decide +kernel
theorem dX5_soundStreets_65 : decode cX5_soundStreets 65 = .ok (.iadd, 1) := by decide +kernel
theorem dX5_soundStreets_66 : decode cX5_soundStreets 66 = .ok (.putfield 168, 3) := by decide +kernel
theorem dX5_soundStreets_69 : decode cX5_soundStreets 69 = .ok (.iload_n 2, 1) := by decide +kernel
theorem dX5_soundStreets_70 : decode cX5_soundStreets 70 = .ok (.iload_n 1, 1) := by decide +kernel
theorem dX5_soundStreets_71 : decode cX5_soundStreets 71 = .ok (.if_icmp .ne 18, 3) := by decide +kernel
theorem dX5_soundStreets_74 : decode cX5_soundStreets 74 = .ok (.aload_n 0, 1) := by decide +kernel
theorem dX5_soundStreets_75 : decode cX5_soundStreets 75 = .ok (.getfield 11, 3) := by decide +kernel
theorem dX5_soundStreets_78 : decode cX5_soundStreets 78 = .ok (.iload_n 2, 1) := by decide +kernel
theorem dX5_soundStreets_79 : decode cX5_soundStreets 79 = .ok (.aaload, 1) := by decide +kernel
theorem dX5_soundStreets_80 : decode cX5_soundStreets 80 = .ok (.dup, 1) := by decide +kernel
theorem dX5_soundStreets_81 : decode cX5_soundStreets 81 = .ok (.getfield 171, 3) := by decide +kernel
theorem dX5_soundStreets_84 : decode cX5_soundStreets 84 = .ok (.iconst 1, 1) := by decide +kernel
theorem dX5_soundStreets_85 : decode cX5_soundStreets 85 = .ok (.iadd, 1) := by decide +kernel
theorem dX5_soundStreets_86 : decode cX5_soundStreets 86 = .ok (.putfield 171, 3) := by decide +kernel
theorem dX5_soundStreets_89 : decode cX5_soundStreets 89 = .ok (.iinc 2 1, 3) := by decide +kernel
theorem dX5_soundStreets_92 : decode cX5_soundStreets 92 = .ok (.goto (-81), 3) := by decide +kernel
theorem dX5_soundStreets_95 : decode cX5_soundStreets 95 = .ok (.return_, 1) := by decide +kernel
theorem dX5_endLoans_0 : decode cX5_endLoans 0 = .ok (.iconst 0, 1) := by decide +kernel
theorem dX5_endLoans_1 : decode cX5_endLoans 1 = .ok (.istore_n 1, 1) := by decide +kernel
theorem dX5_endLoans_2 : decode cX5_endLoans 2 = .ok (.iload_n 1, 1) := by decide +kernel
theorem dX5_endLoans_3 : decode cX5_endLoans 3 = .ok (.aload_n 0, 1) := by decide +kernel
theorem dX5_endLoans_4 : decode cX5_endLoans 4 = .ok (.getfield 61, 3) := by decide +kernel
theorem dX5_endLoans_7 : decode cX5_endLoans 7 = .ok (.if_icmp .ge 48, 3) := by decide +kernel
theorem dX5_endLoans_10 : decode cX5_endLoans 10 = .ok (.aload_n 0, 1) := by decide +kernel
theorem dX5_endLoans_11 : decode cX5_endLoans 11 = .ok (.getfield 25, 3) := by decide +kernel
theorem dX5_endLoans_14 : decode cX5_endLoans 14 = .ok (.iload_n 1, 1) := by decide +kernel
theorem dX5_endLoans_15 : decode cX5_endLoans 15 = .ok (.aaload, 1) := by decide +kernel
theorem dX5_endLoans_16 : decode cX5_endLoans 16 = .ok (.getfield 90, 3) := by decide +kernel
theorem dX5_endLoans_19 : decode cX5_endLoans 19 = .ok (.iconst 1, 1) := by decide +kernel
theorem dX5_endLoans_20 : decode cX5_endLoans 20 = .ok (.if_icmp .ne 29, 3) := by decide +kernel
theorem dX5_endLoans_23 : decode cX5_endLoans 23 = .ok (.aload_n 0, 1) := by decide +kernel
theorem dX5_endLoans_24 : decode cX5_endLoans 24 = .ok (.getfield 25, 3) := by decide +kernel
theorem dX5_endLoans_27 : decode cX5_endLoans 27 = .ok (.iload_n 1, 1) := by decide +kernel
theorem dX5_endLoans_28 : decode cX5_endLoans 28 = .ok (.aaload, 1) := by decide +kernel
theorem dX5_endLoans_29 : decode cX5_endLoans 29 = .ok (.invokevirtual 208, 3) := by decide +kernel
theorem dX5_endLoans_32 : decode cX5_endLoans 32 = .ok (.aload_n 0, 1) := by decide +kernel
theorem dX5_endLoans_33 : decode cX5_endLoans 33 = .ok (.getfield 39, 3) := by decide +kernel
theorem dX5_endLoans_36 : decode cX5_endLoans 36 = .ok (.if_icmp .ne 13, 3) := by decide +kernel
theorem dX5_endLoans_39 : decode cX5_endLoans 39 = .ok (.aload_n 0, 1) := by decide +kernel
theorem dX5_endLoans_40 : decode cX5_endLoans 40 = .ok (.getfield 25, 3) := by decide +kernel
theorem dX5_endLoans_43 : decode cX5_endLoans 43 = .ok (.iload_n 1, 1) := by decide +kernel
theorem dX5_endLoans_44 : decode cX5_endLoans 44 = .ok (.aaload, 1) := by decide +kernel
theorem dX5_endLoans_45 : decode cX5_endLoans 45 = .ok (.iconst 2, 1) := by decide +kernel
theorem dX5_endLoans_46 : decode cX5_endLoans 46 = .ok (.putfield 90, 3) := by decide +kernel
theorem dX5_endLoans_49 : decode cX5_endLoans 49 = .ok (.iinc 1 1, 3) := by decide +kernel
theorem dX5_endLoans_52 : decode cX5_endLoans 52 = .ok (.goto (-50), 3) := by decide +kernel
theorem dX5_endLoans_55 : decode cX5_endLoans 55 = .ok (.return_, 1) := by decide +kernel
theorem dX5_chargeLateLoans_0 : decode cX5_chargeLateLoans 0 = .ok (.iconst 0, 1) := by decide +kernel
theorem dX5_chargeLateLoans_1 : decode cX5_chargeLateLoans 1 = .ok (.istore_n 1, 1) := by decide +kernel
theorem dX5_chargeLateLoans_2 : decode cX5_chargeLateLoans 2 = .ok (.iconst 0, 1) := by decide +kernel
theorem dX5_chargeLateLoans_3 : decode cX5_chargeLateLoans 3 = .ok (.istore_n 2, 1) := by decide +kernel
theorem dX5_chargeLateLoans_4 : decode cX5_chargeLateLoans 4 = .ok (.iload_n 2, 1) := by decide +kernel
theorem dX5_chargeLateLoans_5 : decode cX5_chargeLateLoans 5 = .ok (.aload_n 0, 1) := by decide +kernel
theorem dX5_chargeLateLoans_6 : decode cX5_chargeLateLoans 6 = .ok (.getfield 61, 3) := by decide +kernel
theorem dX5_chargeLateLoans_9 : decode cX5_chargeLateLoans 9 = .ok (.if_icmp .ge 95, 3) := by decide +kernel
theorem dX5_chargeLateLoans_12 : decode cX5_chargeLateLoans 12 = .ok (.aload_n 0, 1) := by decide +kernel
theorem dX5_chargeLateLoans_13 : decode cX5_chargeLateLoans 13 = .ok (.getfield 25, 3) := by decide +kernel
theorem dX5_chargeLateLoans_16 : decode cX5_chargeLateLoans 16 = .ok (.iload_n 2, 1) := by decide +kernel
theorem dX5_chargeLateLoans_17 : decode cX5_chargeLateLoans 17 = .ok (.aaload, 1) := by decide +kernel
theorem dX5_chargeLateLoans_18 : decode cX5_chargeLateLoans 18 = .ok (.getfield 90, 3) := by decide +kernel
theorem dX5_chargeLateLoans_21 : decode cX5_chargeLateLoans 21 = .ok (.iconst 2, 1) := by decide +kernel
theorem dX5_chargeLateLoans_22 : decode cX5_chargeLateLoans 22 = .ok (.if_icmp .ne 76, 3) := by decide +kernel
theorem dX5_chargeLateLoans_25 : decode cX5_chargeLateLoans 25 = .ok (.aload_n 0, 1) := by decide +kernel
theorem dX5_chargeLateLoans_26 : decode cX5_chargeLateLoans 26 = .ok (.getfield 25, 3) := by decide +kernel
theorem dX5_chargeLateLoans_29 : decode cX5_chargeLateLoans 29 = .ok (.iload_n 2, 1) := by decide +kernel
theorem dX5_chargeLateLoans_30 : decode cX5_chargeLateLoans 30 = .ok (.aaload, 1) := by decide +kernel
theorem dX5_chargeLateLoans_31 : decode cX5_chargeLateLoans 31 = .ok (.invokevirtual 208, 3) := by decide +kernel
theorem dX5_chargeLateLoans_34 : decode cX5_chargeLateLoans 34 = .ok (.aload_n 0, 1) := by decide +kernel
theorem dX5_chargeLateLoans_35 : decode cX5_chargeLateLoans 35 = .ok (.getfield 43, 3) := by decide +kernel
theorem dX5_chargeLateLoans_38 : decode cX5_chargeLateLoans 38 = .ok (.iadd, 1) := by decide +kernel
theorem dX5_chargeLateLoans_39 : decode cX5_chargeLateLoans 39 = .ok (.aload_n 0, 1) := by decide +kernel
theorem dX5_chargeLateLoans_40 : decode cX5_chargeLateLoans 40 = .ok (.getfield 39, 3) := by decide +kernel
theorem dX5_chargeLateLoans_43 : decode cX5_chargeLateLoans 43 = .ok (.if_icmp .ne 55, 3) := by decide +kernel
theorem dX5_chargeLateLoans_46 : decode cX5_chargeLateLoans 46 = .ok (.aload_n 0, 1) := by decide +kernel
theorem dX5_chargeLateLoans_47 : decode cX5_chargeLateLoans 47 = .ok (.getfield 25, 3) := by decide +kernel
theorem dX5_chargeLateLoans_50 : decode cX5_chargeLateLoans 50 = .ok (.iload_n 2, 1) := by decide +kernel
theorem dX5_chargeLateLoans_51 : decode cX5_chargeLateLoans 51 = .ok (.aaload, 1) := by decide +kernel
theorem dX5_chargeLateLoans_52 : decode cX5_chargeLateLoans 52 = .ok (.iconst 4, 1) := by decide +kernel
theorem dX5_chargeLateLoans_53 : decode cX5_chargeLateLoans 53 = .ok (.putfield 90, 3) := by decide +kernel
theorem dX5_chargeLateLoans_56 : decode cX5_chargeLateLoans 56 = .ok (.aload_n 0, 1) := by decide +kernel
theorem dX5_chargeLateLoans_57 : decode cX5_chargeLateLoans 57 = .ok (.getfield 19, 3) := by decide +kernel
theorem dX5_chargeLateLoans_60 : decode cX5_chargeLateLoans 60 = .ok (.aload_n 0, 1) := by decide +kernel
theorem dX5_chargeLateLoans_61 : decode cX5_chargeLateLoans 61 = .ok (.getfield 25, 3) := by decide +kernel
theorem dX5_chargeLateLoans_64 : decode cX5_chargeLateLoans 64 = .ok (.iload_n 2, 1) := by decide +kernel
theorem dX5_chargeLateLoans_65 : decode cX5_chargeLateLoans 65 = .ok (.aaload, 1) := by decide +kernel
theorem dX5_chargeLateLoans_66 : decode cX5_chargeLateLoans 66 = .ok (.getfield 84, 3) := by decide +kernel
theorem dX5_chargeLateLoans_69 : decode cX5_chargeLateLoans 69 = .ok (.aaload, 1) := by decide +kernel
theorem dX5_chargeLateLoans_70 : decode cX5_chargeLateLoans 70 = .ok (.dup, 1) := by decide +kernel
theorem dX5_chargeLateLoans_71 : decode cX5_chargeLateLoans 71 = .ok (.getfield 141, 3) := by decide +kernel
theorem dX5_chargeLateLoans_74 : decode cX5_chargeLateLoans 74 = .ok (.aload_n 0, 1) := by decide +kernel
theorem dX5_chargeLateLoans_75 : decode cX5_chargeLateLoans 75 = .ok (.getfield 46, 3) := by decide +kernel
theorem dX5_chargeLateLoans_78 : decode cX5_chargeLateLoans 78 = .ok (.isub, 1) := by decide +kernel
theorem dX5_chargeLateLoans_79 : decode cX5_chargeLateLoans 79 = .ok (.putfield 141, 3) := by decide +kernel
theorem dX5_chargeLateLoans_82 : decode cX5_chargeLateLoans 82 = .ok (.aload_n 0, 1) := by decide +kernel
theorem dX5_chargeLateLoans_83 : decode cX5_chargeLateLoans 83 = .ok (.dup, 1) := by decide +kernel
theorem dX5_chargeLateLoans_84 : decode cX5_chargeLateLoans 84 = .ok (.getfield 52, 3) := by decide +kernel
theorem dX5_chargeLateLoans_87 : decode cX5_chargeLateLoans 87 = .ok (.aload_n 0, 1) := by decide +kernel
theorem dX5_chargeLateLoans_88 : decode cX5_chargeLateLoans 88 = .ok (.getfield 46, 3) := by decide +kernel
theorem dX5_chargeLateLoans_91 : decode cX5_chargeLateLoans 91 = .ok (.iadd, 1) := by decide +kernel
theorem dX5_chargeLateLoans_92 : decode cX5_chargeLateLoans 92 = .ok (.putfield 52, 3) := by decide +kernel
theorem dX5_chargeLateLoans_95 : decode cX5_chargeLateLoans 95 = .ok (.iinc 1 1, 3) := by decide +kernel
theorem dX5_chargeLateLoans_98 : decode cX5_chargeLateLoans 98 = .ok (.iinc 2 1, 3) := by decide +kernel
theorem dX5_chargeLateLoans_101 : decode cX5_chargeLateLoans 101 = .ok (.goto (-97), 3) := by decide +kernel
theorem dX5_chargeLateLoans_104 : decode cX5_chargeLateLoans 104 = .ok (.iload_n 1, 1) := by decide +kernel
theorem dX5_chargeLateLoans_105 : decode cX5_chargeLateLoans 105 = .ok (.ireturn, 1) := by decide +kernel
theorem dX6_init_0 : decode cX6_init 0 = .ok (.aload_n 0, 1) := by decide +kernel
theorem dX6_init_1 : decode cX6_init 1 = .ok (.invokespecial 1, 3) := by decide +kernel
theorem dX6_init_4 : decode cX6_init 4 = .ok (.return_, 1) := by decide +kernel
theorem dX6_copyFrom_0 : decode cX6_copyFrom 0 = .ok (.aload_n 0, 1) := by decide +kernel
theorem dX6_copyFrom_1 : decode cX6_copyFrom 1 = .ok (.aload_n 1, 1) := by decide +kernel
theorem dX6_copyFrom_2 : decode cX6_copyFrom 2 = .ok (.getfield 7, 3) := by decide +kernel
theorem dX6_copyFrom_5 : decode cX6_copyFrom 5 = .ok (.putfield 7, 3) := by decide +kernel
theorem dX6_copyFrom_8 : decode cX6_copyFrom 8 = .ok (.aload_n 0, 1) := by decide +kernel
theorem dX6_copyFrom_9 : decode cX6_copyFrom 9 = .ok (.aload_n 1, 1) := by decide +kernel
theorem dX6_copyFrom_10 : decode cX6_copyFrom 10 = .ok (.getfield 13, 3) := by decide +kernel
theorem dX6_copyFrom_13 : decode cX6_copyFrom 13 = .ok (.putfield 13, 3) := by decide +kernel
theorem dX6_copyFrom_16 : decode cX6_copyFrom 16 = .ok (.aload_n 0, 1) := by decide +kernel
theorem dX6_copyFrom_17 : decode cX6_copyFrom 17 = .ok (.aload_n 1, 1) := by decide +kernel
theorem dX6_copyFrom_18 : decode cX6_copyFrom 18 = .ok (.getfield 16, 3) := by decide +kernel
theorem dX6_copyFrom_21 : decode cX6_copyFrom 21 = .ok (.putfield 16, 3) := by decide +kernel
theorem dX6_copyFrom_24 : decode cX6_copyFrom 24 = .ok (.aload_n 0, 1) := by decide +kernel
theorem dX6_copyFrom_25 : decode cX6_copyFrom 25 = .ok (.aload_n 1, 1) := by decide +kernel
theorem dX6_copyFrom_26 : decode cX6_copyFrom 26 = .ok (.getfield 19, 3) := by decide +kernel
theorem dX6_copyFrom_29 : decode cX6_copyFrom 29 = .ok (.putfield 19, 3) := by decide +kernel
theorem dX6_copyFrom_32 : decode cX6_copyFrom 32 = .ok (.aload_n 0, 1) := by decide +kernel
theorem dX6_copyFrom_33 : decode cX6_copyFrom 33 = .ok (.aload_n 1, 1) := by decide +kernel
theorem dX6_copyFrom_34 : decode cX6_copyFrom 34 = .ok (.getfield 22, 3) := by decide +kernel
theorem dX6_copyFrom_37 : decode cX6_copyFrom 37 = .ok (.putfield 22, 3) := by decide +kernel
theorem dX6_copyFrom_40 : decode cX6_copyFrom 40 = .ok (.return_, 1) := by decide +kernel
