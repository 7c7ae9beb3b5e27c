theorem dX0_init_0 : decode cX0_init 0 = .ok (.aload_n 0, 1) := by decide +kernel
theorem dX0_init_1 : decode cX0_init 1 = .ok (.invokespecial 3, 3) := by decide +kernel
theorem dX0_init_4 : decode cX0_init 4 = .ok (.aload_n 0, 1) := by decide +kernel
theorem dX0_init_5 : decode cX0_init 5 = .ok (.bipush 6, 2) := by decide +kernel
theorem dX0_init_7 : decode cX0_init 7 = .ok (.anewarray 9, 3) := by decide +kernel
theorem dX0_init_10 : decode cX0_init 10 = .ok (.putfield 11, 3) := by decide +kernel
theorem dX0_init_13 : decode cX0_init 13 = .ok (.iconst 0, 1) := by decide +kernel
theorem dX0_init_14 : decode cX0_init 14 = .ok (.istore_n 1, 1) := by decide +kernel
theorem dX0_init_15 : decode cX0_init 15 = .ok (.iload_n 1, 1) := by decide +kernel
theorem dX0_init_16 : decode cX0_init 16 = .ok (.bipush 6, 2) := by decide +kernel
theorem dX0_init_18 : decode cX0_init 18 = .ok (.if_icmp .ge 22, 3) := by decide +kernel
theorem dX0_init_21 : decode cX0_init 21 = .ok (.aload_n 0, 1) := by decide +kernel
theorem dX0_init_22 : decode cX0_init 22 = .ok (.getfield 11, 3) := by decide +kernel
theorem dX0_init_25 : decode cX0_init 25 = .ok (.iload_n 1, 1) := by decide +kernel
theorem dX0_init_26 : decode cX0_init 26 = .ok (.new 9, 3) := by decide +kernel
theorem dX0_init_29 : decode cX0_init 29 = .ok (.dup, 1) := by decide +kernel
theorem dX0_init_30 : decode cX0_init 30 = .ok (.invokespecial 17, 3) := by decide +kernel
theorem dX0_init_33 : decode cX0_init 33 = .ok (.aastore, 1) := by decide +kernel
theorem dX0_init_34 : decode cX0_init 34 = .ok (.iinc 1 1, 3) := by decide +kernel
theorem dX0_init_37 : decode cX0_init 37 = .ok (.goto (-22), 3) := by decide +kernel
theorem dX0_init_40 : decode cX0_init 40 = .ok (.return_, 1) := by decide +kernel
theorem dX0_record_0 : decode cX0_record 0 = .ok (.aload_n 0, 1) := by decide +kernel
theorem dX0_record_1 : decode cX0_record 1 = .ok (.getfield 18, 3) := by decide +kernel
theorem dX0_record_4 : decode cX0_record 4 = .ok (.bipush 6, 2) := by decide +kernel
theorem dX0_record_6 : decode cX0_record 6 = .ok (.if_icmp .ne 22, 3) := by decide +kernel
theorem dX0_record_9 : decode cX0_record 9 = .ok (.aload_n 0, 1) := by decide +kernel
theorem dX0_record_10 : decode cX0_record 10 = .ok (.aload_n 0, 1) := by decide +kernel
theorem dX0_record_11 : decode cX0_record 11 = .ok (.iconst 1, 1) := by decide +kernel
theorem dX0_record_12 : decode cX0_record 12 = .ok (.invokevirtual 22, 3) := by decide +kernel
theorem dX0_record_15 : decode cX0_record 15 = .ok (.putfield 26, 3) := by decide +kernel
theorem dX0_record_18 : decode cX0_record 18 = .ok (.aload_n 0, 1) := by decide +kernel
theorem dX0_record_19 : decode cX0_record 19 = .ok (.dup, 1) := by decide +kernel
theorem dX0_record_20 : decode cX0_record 20 = .ok (.getfield 18, 3) := by decide +kernel
theorem dX0_record_23 : decode cX0_record 23 = .ok (.iconst 1, 1) := by decide +kernel
theorem dX0_record_24 : decode cX0_record 24 = .ok (.isub, 1) := by decide +kernel
theorem dX0_record_25 : decode cX0_record 25 = .ok (.putfield 18, 3) := by decide +kernel
theorem dX0_record_28 : decode cX0_record 28 = .ok (.aload_n 0, 1) := by decide +kernel
theorem dX0_record_29 : decode cX0_record 29 = .ok (.aload_n 0, 1) := by decide +kernel
theorem dX0_record_30 : decode cX0_record 30 = .ok (.getfield 18, 3) := by decide +kernel
theorem dX0_record_33 : decode cX0_record 33 = .ok (.invokevirtual 29, 3) := by decide +kernel
theorem dX0_record_36 : decode cX0_record 36 = .ok (.astore_n 2, 1) := by decide +kernel
theorem dX0_record_37 : decode cX0_record 37 = .ok (.aload_n 2, 1) := by decide +kernel
theorem dX0_record_38 : decode cX0_record 38 = .ok (.ifnull 18, 3) := by decide +kernel
theorem dX0_record_41 : decode cX0_record 41 = .ok (.aload_n 2, 1) := by decide +kernel
theorem dX0_record_42 : decode cX0_record 42 = .ok (.aload_n 1, 1) := by decide +kernel
theorem dX0_record_43 : decode cX0_record 43 = .ok (.invokevirtual 33, 3) := by decide +kernel
theorem dX0_record_46 : decode cX0_record 46 = .ok (.aload_n 0, 1) := by decide +kernel
theorem dX0_record_47 : decode cX0_record 47 = .ok (.dup, 1) := by decide +kernel
theorem dX0_record_48 : decode cX0_record 48 = .ok (.getfield 18, 3) := by decide +kernel
theorem dX0_record_51 : decode cX0_record 51 = .ok (.iconst 1, 1) := by decide +kernel
theorem dX0_record_52 : decode cX0_record 52 = .ok (.iadd, 1) := by decide +kernel
theorem dX0_record_53 : decode cX0_record 53 = .ok (.putfield 18, 3) := by decide +kernel
theorem dX0_record_56 : decode cX0_record 56 = .ok (.return_, 1) := by decide +kernel
theorem dX0_takeBackInto_0 : decode cX0_takeBackInto 0 = .ok (.aload_n 0, 1) := by decide +kernel
theorem dX0_takeBackInto_1 : decode cX0_takeBackInto 1 = .ok (.getfield 18, 3) := by decide +kernel
theorem dX0_takeBackInto_4 : decode cX0_takeBackInto 4 = .ok (.ifCond .gt 4, 3) := by decide +kernel
theorem dX0_takeBackInto_7 : decode cX0_takeBackInto 7 = .ok (.return_, 1) := by decide +kernel
theorem dX0_takeBackInto_8 : decode cX0_takeBackInto 8 = .ok (.aload_n 0, 1) := by decide +kernel
theorem dX0_takeBackInto_9 : decode cX0_takeBackInto 9 = .ok (.dup, 1) := by decide +kernel
theorem dX0_takeBackInto_10 : decode cX0_takeBackInto 10 = .ok (.getfield 18, 3) := by decide +kernel
theorem dX0_takeBackInto_13 : decode cX0_takeBackInto 13 = .ok (.iconst 1, 1) := by decide +kernel
theorem dX0_takeBackInto_14 : decode cX0_takeBackInto 14 = .ok (.isub, 1) := by decide +kernel
theorem dX0_takeBackInto_15 : decode cX0_takeBackInto 15 = .ok (.putfield 18, 3) := by decide +kernel
theorem dX0_takeBackInto_18 : decode cX0_takeBackInto 18 = .ok (.aload_n 0, 1) := by decide +kernel
theorem dX0_takeBackInto_19 : decode cX0_takeBackInto 19 = .ok (.aload_n 0, 1) := by decide +kernel
theorem dX0_takeBackInto_20 : decode cX0_takeBackInto 20 = .ok (.getfield 18, 3) := by decide +kernel
theorem dX0_takeBackInto_23 : decode cX0_takeBackInto 23 = .ok (.invokevirtual 29, 3) := by decide +kernel
theorem dX0_takeBackInto_26 : decode cX0_takeBackInto 26 = .ok (.astore_n 2, 1) := by decide +kernel
theorem dX0_takeBackInto_27 : decode cX0_takeBackInto 27 = .ok (.aload_n 2, 1) := by decide +kernel
theorem dX0_takeBackInto_28 : decode cX0_takeBackInto 28 = .ok (.ifnull 8, 3) := by decide +kernel
theorem dX0_takeBackInto_31 : decode cX0_takeBackInto 31 = .ok (.aload_n 1, 1) := by decide +kernel
theorem dX0_takeBackInto_32 : decode cX0_takeBackInto 32 = .ok (.aload_n 2, 1) := by decide +kernel
theorem dX0_takeBackInto_33 : decode cX0_takeBackInto 33 = .ok (.invokevirtual 33, 3) := by decide +kernel
theorem dX0_takeBackInto_36 : decode cX0_takeBackInto 36 = .ok (.return_, 1) := by decide +kernel
theorem dX0_stateAt_0 : decode cX0_stateAt 0 = .ok (.aload_n 0, 1) := by decide +kernel
theorem dX0_stateAt_1 : decode cX0_stateAt 1 = .ok (.iload_n 1, 1) := by decide +kernel
theorem dX0_stateAt_2 : decode cX0_stateAt 2 = .ok (.invokevirtual 22, 3) := by decide +kernel
theorem dX0_stateAt_5 : decode cX0_stateAt 5 = .ok (.istore_n 2, 1) := by decide +kernel
theorem dX0_stateAt_6 : decode cX0_stateAt 6 = .ok (.iload_n 2, 1) := by decide +kernel
theorem dX0_stateAt_7 : decode cX0_stateAt 7 = .ok (.ifCond .lt 18, 3) := by decide +kernel
theorem dX0_stateAt_10 : decode cX0_stateAt 10 = .ok (.iload_n 2, 1) := by decide +kernel
theorem dX0_stateAt_11 : decode cX0_stateAt 11 = .ok (.bipush 6, 2) := by decide +kernel
theorem dX0_stateAt_13 : decode cX0_stateAt 13 = .ok (.if_icmp .ge 12, 3) := by decide +kernel
theorem dX0_stateAt_16 : decode cX0_stateAt 16 = .ok (.aload_n 0, 1) := by decide +kernel
theorem dX0_stateAt_17 : decode cX0_stateAt 17 = .ok (.getfield 11, 3) := by decide +kernel
theorem dX0_stateAt_20 : decode cX0_stateAt 20 = .ok (.iload_n 2, 1) := by decide +kernel
theorem dX0_stateAt_21 : decode cX0_stateAt 21 = .ok (.aaload, 1) := by decide +kernel
theorem dX0_stateAt_22 : decode cX0_stateAt 22 = .ok (.goto 4, 3) := by decide +kernel
theorem dX0_stateAt_25 : decode cX0_stateAt 25 = .ok (.aconst_null, 1) := by decide +kernel
theorem dX0_stateAt_26 : decode cX0_stateAt 26 = .ok (.areturn, 1) := by decide +kernel
theorem dX0_placeOf_0 : decode cX0_placeOf 0 = .ok (.aload_n 0, 1) := by decide +kernel
theorem dX0_placeOf_1 : decode cX0_placeOf 1 = .ok (.getfield 26, 3) := by decide +kernel
theorem dX0_placeOf_4 : decode cX0_placeOf 4 = .ok (.iload_n 1, 1) := by decide +kernel
theorem dX0_placeOf_5 : decode cX0_placeOf 5 = .ok (.iadd, 1) := by decide +kernel
theorem dX0_placeOf_6 : decode cX0_placeOf 6 = .ok (.bipush 6, 2) := by decide +kernel
theorem dX0_placeOf_8 : decode cX0_placeOf 8 = .ok (.invokestatic 37, 3) := by decide +kernel
theorem dX0_placeOf_11 : decode cX0_placeOf 11 = .ok (.ireturn, 1) := by decide +kernel
theorem dX1_init_0 : decode cX1_init 0 = .ok (.aload_n 0, 1) := by decide +kernel
theorem dX1_init_1 : decode cX1_init 1 = .ok (.invokespecial 3, 3) := by decide +kernel
theorem dX1_init_4 : decode cX1_init 4 = .ok (.return_, 1) := by decide +kernel
theorem dX1_startAnew_0 : decode cX1_startAnew 0 = .ok (.aload_n 0, 1) := by decide +kernel
theorem dX1_startAnew_1 : decode cX1_startAnew 1 = .ok (.iconst 0, 1) := by decide +kernel
theorem dX1_startAnew_2 : decode cX1_startAnew 2 = .ok (.putfield 9, 3) := by decide +kernel
theorem dX1_startAnew_5 : decode cX1_startAnew 5 = .ok (.aload_n 0, 1) := by decide +kernel
theorem dX1_startAnew_6 : decode cX1_startAnew 6 = .ok (.iconst 0, 1) := by decide +kernel
theorem dX1_startAnew_7 : decode cX1_startAnew 7 = .ok (.putfield 15, 3) := by decide +kernel
theorem dX1_startAnew_10 : decode cX1_startAnew 10 = .ok (.aload_n 0, 1) := by decide +kernel
theorem dX1_startAnew_11 : decode cX1_startAnew 11 = .ok (.iconst 0, 1) := by decide +kernel
theorem dX1_startAnew_12 : decode cX1_startAnew 12 = .ok (.putfield 18, 3) := by decide +kernel
theorem dX1_startAnew_15 : decode cX1_startAnew 15 = .ok (.aload_n 0, 1) := by decide +kernel
theorem dX1_startAnew_16 : decode cX1_startAnew 16 = .ok (.iconst 0, 1) := by decide +kernel
theorem dX1_startAnew_17 : decode cX1_startAnew 17 = .ok (.putfield 21, 3) := by decide +kernel
theorem dX1_startAnew_20 : decode cX1_startAnew 20 = .ok (.aload_n 0, 1) := by decide +kernel
theorem dX1_startAnew_21 : decode cX1_startAnew 21 = .ok (.iconst 0, 1) := by decide +kernel
theorem dX1_startAnew_22 : decode cX1_startAnew 22 = .ok (.putfield 24, 3) := by decide +kernel
theorem dX1_startAnew_25 : decode cX1_startAnew 25 = .ok (.aload_n 0, 1) := by decide +kernel
theorem dX1_startAnew_26 : decode cX1_startAnew 26 = .ok (.iconst 0, 1) := by decide +kernel
theorem dX1_startAnew_27 : decode cX1_startAnew 27 = .ok (.putfield 27, 3) := by decide +kernel
theorem dX1_startAnew_30 : decode cX1_startAnew 30 = .ok (.aload_n 0, 1) := by decide +kernel
theorem dX1_startAnew_31 : decode cX1_startAnew 31 = .ok (.iconst 0, 1) := by decide +kernel
theorem dX1_startAnew_32 : decode cX1_startAnew 32 = .ok (.putfield 30, 3) := by decide +kernel
theorem dX1_startAnew_35 : decode cX1_startAnew 35 = .ok (.aload_n 0, 1) := by decide +kernel
theorem dX1_startAnew_36 : decode cX1_startAnew 36 = .ok (.iconst 0, 1) := by decide +kernel
theorem dX1_startAnew_37 : decode cX1_startAnew 37 = .ok (.putfield 33, 3) := by decide +kernel
theorem dX1_startAnew_40 : decode cX1_startAnew 40 = .ok (.aload_n 0, 1) := by decide +kernel
theorem dX1_startAnew_41 : decode cX1_startAnew 41 = .ok (.iload_n 1, 1) := by decide +kernel
theorem dX1_startAnew_42 : decode cX1_startAnew 42 = .ok (.putfield 36, 3) := by decide +kernel
theorem dX1_startAnew_45 : decode cX1_startAnew 45 = .ok (.aload_n 0, 1) := by decide +kernel
theorem dX1_startAnew_46 : decode cX1_startAnew 46 = .ok (.iconst 0, 1) := by decide +kernel
theorem dX1_startAnew_47 : decode cX1_startAnew 47 = .ok (.putfield 39, 3) := by decide +kernel
theorem dX1_startAnew_50 : decode cX1_startAnew 50 = .ok (.aload_n 0, 1) := by decide +kernel
theorem dX1_startAnew_51 : decode cX1_startAnew 51 = .ok (.iconst 0, 1) := by decide +kernel
theorem dX1_startAnew_52 : decode cX1_startAnew 52 = .ok (.putfield 42, 3) := by decide +kernel
theorem dX1_startAnew_55 : decode cX1_startAnew 55 = .ok (.aload_n 0, 1) := by decide +kernel
theorem dX1_startAnew_56 : decode cX1_startAnew 56 = .ok (.iconst 0, 1) := by decide +kernel
theorem dX1_startAnew_57 : decode cX1_startAnew 57 = .ok (.putfield 45, 3) := by decide +kernel
theorem dX1_startAnew_60 : decode cX1_startAnew 60 = .ok (.aload_n 0, 1) := by decide +kernel
theorem dX1_startAnew_61 : decode cX1_startAnew 61 = .ok (.iconst 0, 1) := by decide +kernel
theorem dX1_startAnew_62 : decode cX1_startAnew 62 = .ok (.putfield 48, 3) := by decide +kernel
theorem dX1_startAnew_65 : decode cX1_startAnew 65 = .ok (.aload_n 0, 1) := by decide +kernel
theorem dX1_startAnew_66 : decode cX1_startAnew 66 = .ok (.iconst 0, 1) := by decide +kernel
theorem dX1_startAnew_67 : decode cX1_startAnew 67 = .ok (.putfield 51, 3) := by decide +kernel
theorem dX1_startAnew_70 : decode cX1_startAnew 70 = .ok (.aload_n 0, 1) := by decide +kernel
theorem dX1_startAnew_71 : decode cX1_startAnew 71 = .ok (.iconst 0, 1) := by decide +kernel
theorem dX1_startAnew_72 : decode cX1_startAnew 72 = .ok (.putfield 54, 3) := by decide +kernel
theorem dX1_startAnew_75 : decode cX1_startAnew 75 = .ok (.return_, 1) := by decide +kernel
theorem dX1_isAtEndOf_0 : decode cX1_isAtEndOf 0 = .ok (.aload_n 1, 1) := by decide +kernel
theorem dX1_isAtEndOf_1 : decode cX1_isAtEndOf 1 = .ok (.getfield 57, 3) := by decide +kernel
theorem dX1_isAtEndOf_4 : decode cX1_isAtEndOf 4 = .ok (.ifCond .le 18, 3) := by decide +kernel
theorem dX1_isAtEndOf_7 : decode cX1_isAtEndOf 7 = .ok (.aload_n 0, 1) := by decide +kernel
theorem dX1_isAtEndOf_8 : decode cX1_isAtEndOf 8 = .ok (.getfield 27, 3) := by decide +kernel
theorem dX1_isAtEndOf_11 : decode cX1_isAtEndOf 11 = .ok (.aload_n 1, 1) := by decide +kernel
theorem dX1_isAtEndOf_12 : decode cX1_isAtEndOf 12 = .ok (.getfield 57, 3) := by decide +kernel
theorem dX1_isAtEndOf_15 : decode cX1_isAtEndOf 15 = .ok (.if_icmp .lt 7, 3) := by decide +kernel
theorem dX1_isAtEndOf_18 : decode cX1_isAtEndOf 18 = .ok (.iconst 1, 1) := by decide +kernel
theorem dX1_isAtEndOf_19 : decode cX1_isAtEndOf 19 = .ok (.goto 4, 3) := by decide +kernel
theorem dX1_isAtEndOf_22 : decode cX1_isAtEndOf 22 = .ok (.iconst 0, 1) := by decide +kernel
theorem dX1_isAtEndOf_23 : decode cX1_isAtEndOf 23 = .ok (.ireturn, 1) := by decide +kernel
theorem dX1_goUntilWalked_0 : decode cX1_goUntilWalked 0 = .ok (.iconst 0, 1) := by decide +kernel
theorem dX1_goUntilWalked_1 : decode cX1_goUntilWalked 1 = .ok (.istore 5, 2) := by decide +kernel
theorem dX1_goUntilWalked_3 : decode cX1_goUntilWalked 3 = .ok (.iload 5, 2) := by decide +kernel
theorem dX1_goUntilWalked_5 : decode cX1_goUntilWalked 5 = .ok (.iload 4, 2) := by decide +kernel
theorem dX1_goUntilWalked_7 : decode cX1_goUntilWalked 7 = .ok (.if_icmp .ge 24, 3) := by decide +kernel
theorem dX1_goUntilWalked_10 : decode cX1_goUntilWalked 10 = .ok (.aload_n 0, 1) := by decide +kernel
theorem dX1_goUntilWalked_11 : decode cX1_goUntilWalked 11 = .ok (.aload_n 2, 1) := by decide +kernel
theorem dX1_goUntilWalked_12 : decode cX1_goUntilWalked 12 = .ok (.invokevirtual 62, 3) := by decide +kernel
theorem dX1_goUntilWalked_15 : decode cX1_goUntilWalked 15 = .ok (.ifCond .ne 16, 3) := by decide +kernel
theorem dX1_goUntilWalked_18 : decode cX1_goUntilWalked 18 = .ok (.aload_n 0, 1) := by decide +kernel
theorem dX1_goUntilWalked_19 : decode cX1_goUntilWalked 19 = .ok (.aload_n 1, 1) := by decide +kernel
theorem dX1_goUntilWalked_20 : decode cX1_goUntilWalked 20 = .ok (.aload_n 2, 1) := by decide +kernel
theorem dX1_goUntilWalked_21 : decode cX1_goUntilWalked 21 = .ok (.aload_n 3, 1) := by decide +kernel
theorem dX1_goUntilWalked_22 : decode cX1_goUntilWalked 22 = .ok (.invokevirtual 66, 3) := by decide +kernel
theorem dX1_goUntilWalked_25 : decode cX1_goUntilWalked 25 = .ok (.iinc 5 1, 3) := by decide +kernel
theorem dX1_goUntilWalked_28 : decode cX1_goUntilWalked 28 = .ok (.goto (-25), 3) := by decide +kernel
theorem dX1_goUntilWalked_31 : decode cX1_goUntilWalked 31 = .ok (.return_, 1) := by decide +kernel
theorem dX1_goOn_0 : decode cX1_goOn 0 = .ok (.iconst 0, 1) := by decide +kernel
theorem dX1_goOn_1 : decode cX1_goOn 1 = .ok (.aload_n 2, 1) := by decide +kernel
theorem dX1_goOn_2 : decode cX1_goOn 2 = .ok (.aload_n 0, 1) := by decide +kernel
theorem dX1_goOn_3 : decode cX1_goOn 3 = .ok (.getfield 27, 3) := by decide +kernel
theorem dX1_goOn_6 : decode cX1_goOn 6 = .ok (.invokevirtual 70, 3) := by decide +kernel
theorem dX1_goOn_9 : decode cX1_goOn 9 = .ok (.invokestatic 74, 3) := by decide +kernel
theorem dX1_goOn_12 : decode cX1_goOn 12 = .ok (.istore 4, 2) := by decide +kernel
theorem dX1_goOn_14 : decode cX1_goOn 14 = .ok (.iconst 1, 1) := by decide +kernel
theorem dX1_goOn_15 : decode cX1_goOn 15 = .ok (.iload 4, 2) := by decide +kernel
theorem dX1_goOn_17 : decode cX1_goOn 17 = .ok (.iadd, 1) := by decide +kernel
theorem dX1_goOn_18 : decode cX1_goOn 18 = .ok (.istore 5, 2) := by decide +kernel
theorem dX1_goOn_20 : decode cX1_goOn 20 = .ok (.aload_n 0, 1) := by decide +kernel
theorem dX1_goOn_21 : decode cX1_goOn 21 = .ok (.getfield 39, 3) := by decide +kernel
theorem dX1_goOn_24 : decode cX1_goOn 24 = .ok (.ifCond .ne 31, 3) := by decide +kernel
theorem dX1_goOn_27 : decode cX1_goOn 27 = .ok (.aload_n 0, 1) := by decide +kernel
theorem dX1_goOn_28 : decode cX1_goOn 28 = .ok (.getfield 36, 3) := by decide +kernel
theorem dX1_goOn_31 : decode cX1_goOn 31 = .ok (.iload 5, 2) := by decide +kernel
theorem dX1_goOn_33 : decode cX1_goOn 33 = .ok (.if_icmp .ge 22, 3) := by decide +kernel
theorem dX1_goOn_36 : decode cX1_goOn 36 = .ok (.aload_n 0, 1) := by decide +kernel
theorem dX1_goOn_37 : decode cX1_goOn 37 = .ok (.dup, 1) := by decide +kernel
theorem dX1_goOn_38 : decode cX1_goOn 38 = .ok (.getfield 48, 3) := by decide +kernel
theorem dX1_goOn_41 : decode cX1_goOn 41 = .ok (.iconst 1, 1) := by decide +kernel
theorem dX1_goOn_42 : decode cX1_goOn 42 = .ok (.iadd, 1) := by decide +kernel
theorem dX1_goOn_43 : decode cX1_goOn 43 = .ok (.putfield 48, 3) := by decide +kernel
theorem dX1_goOn_46 : decode cX1_goOn 46 = .ok (.aload_n 0, 1) := by decide +kernel
theorem dX1_goOn_47 : decode cX1_goOn 47 = .ok (.aload_n 3, 1) := by decide +kernel
theorem dX1_goOn_48 : decode cX1_goOn 48 = .ok (.iconst 2, 1) := by decide +kernel
theorem dX1_goOn_49 : decode cX1_goOn 49 = .ok (.invokevirtual 80, 3) := by decide +kernel
theorem dX1_goOn_52 : decode cX1_goOn 52 = .ok (.putfield 39, 3) := by decide +kernel
theorem dX1_goOn_55 : decode cX1_goOn 55 = .ok (.aload_n 0, 1) := by decide +kernel
theorem dX1_goOn_56 : decode cX1_goOn 56 = .ok (.dup, 1) := by decide +kernel
theorem dX1_goOn_57 : decode cX1_goOn 57 = .ok (.getfield 9, 3) := by decide +kernel
theorem dX1_goOn_60 : decode cX1_goOn 60 = .ok (.iconst 1, 1) := by decide +kernel
theorem dX1_goOn_61 : decode cX1_goOn 61 = .ok (.iadd, 1) := by decide +kernel
theorem dX1_goOn_62 : decode cX1_goOn 62 = .ok (.putfield 9, 3) := by decide +kernel
theorem dX1_goOn_65 : decode cX1_goOn 65 = .ok (.aload_n 0, 1) := by decide +kernel
theorem dX1_goOn_66 : decode cX1_goOn 66 = .ok (.dup, 1) := by decide +kernel
theorem dX1_goOn_67 : decode cX1_goOn 67 = .ok (.getfield 15, 3) := by decide +kernel
theorem dX1_goOn_70 : decode cX1_goOn 70 = .ok (.aload_n 3, 1) := by decide +kernel
theorem dX1_goOn_71 : decode cX1_goOn 71 = .ok (.iconst 0, 1) := by decide +kernel
theorem dX1_goOn_72 : decode cX1_goOn 72 = .ok (.invokevirtual 80, 3) := by decide +kernel
theorem dX1_goOn_75 : decode cX1_goOn 75 = .ok (.iadd, 1) := by decide +kernel
theorem dX1_goOn_76 : decode cX1_goOn 76 = .ok (.putfield 15, 3) := by decide +kernel
theorem dX1_goOn_79 : decode cX1_goOn 79 = .ok (.aload_n 0, 1) := by decide +kernel
theorem dX1_goOn_80 : decode cX1_goOn 80 = .ok (.getfield 39, 3) := by decide +kernel
theorem dX1_goOn_83 : decode cX1_goOn 83 = .ok (.ifCond .le 36, 3) := by decide +kernel
theorem dX1_goOn_86 : decode cX1_goOn 86 = .ok (.aload_n 0, 1) := by decide +kernel
theorem dX1_goOn_87 : decode cX1_goOn 87 = .ok (.dup, 1) := by decide +kernel
theorem dX1_goOn_88 : decode cX1_goOn 88 = .ok (.getfield 39, 3) := by decide +kernel
theorem dX1_goOn_91 : decode cX1_goOn 91 = .ok (.iconst 1, 1) := by decide +kernel
theorem dX1_goOn_92 : decode cX1_goOn 92 = .ok (.isub, 1) := by decide +kernel
theorem dX1_goOn_93 : decode cX1_goOn 93 = .ok (.putfield 39, 3) := by decide +kernel
theorem dX1_goOn_96 : decode cX1_goOn 96 = .ok (.aload_n 0, 1) := by decide +kernel
theorem dX1_goOn_97 : decode cX1_goOn 97 = .ok (.aload_n 3, 1) := by decide +kernel
theorem dX1_goOn_98 : decode cX1_goOn 98 = .ok (.iconst 4, 1) := by decide +kernel
theorem dX1_goOn_99 : decode cX1_goOn 99 = .ok (.invokevirtual 80, 3) := by decide +kernel
theorem dX1_goOn_102 : decode cX1_goOn 102 = .ok (.aload_n 0, 1) := by decide +kernel
theorem dX1_goOn_103 : decode cX1_goOn 103 = .ok (.getfield 36, 3) := by decide +kernel
theorem dX1_goOn_106 : decode cX1_goOn 106 = .ok (.aload_n 3, 1) := by decide +kernel
theorem dX1_goOn_107 : decode cX1_goOn 107 = .ok (.iconst 3, 1) := by decide +kernel
theorem dX1_goOn_108 : decode cX1_goOn 108 = .ok (.invokevirtual 80, 3) := by decide +kernel
theorem dX1_goOn_111 : decode cX1_goOn 111 = .ok (.iadd, 1) := by decide +kernel
theorem dX1_goOn_112 : decode cX1_goOn 112 = .ok (.invokestatic 85, 3) := by decide +kernel
theorem dX1_goOn_115 : decode cX1_goOn 115 = .ok (.putfield 36, 3) := by decide +kernel
theorem dX1_goOn_118 : decode cX1_goOn 118 = .ok (.return_, 1) := by decide +kernel
theorem dX1_goOn_119 : decode cX1_goOn 119 = .ok (.aload_n 0, 1) := by decide +kernel
theorem dX1_goOn_120 : decode cX1_goOn 120 = .ok (.dup, 1) := by decide +kernel
theorem dX1_goOn_121 : decode cX1_goOn 121 = .ok (.getfield 15, 3) := by decide +kernel
theorem dX1_goOn_124 : decode cX1_goOn 124 = .ok (.iload 4, 2) := by decide +kernel
theorem dX1_goOn_126 : decode cX1_goOn 126 = .ok (.iadd, 1) := by decide +kernel
theorem dX1_goOn_127 : decode cX1_goOn 127 = .ok (.putfield 15, 3) := by decide +kernel
theorem dX1_goOn_130 : decode cX1_goOn 130 = .ok (.aload_n 0, 1) := by decide +kernel
theorem dX1_goOn_131 : decode cX1_goOn 131 = .ok (.dup, 1) := by decide +kernel
theorem dX1_goOn_132 : decode cX1_goOn 132 = .ok (.getfield 36, 3) := by decide +kernel
theorem dX1_goOn_135 : decode cX1_goOn 135 = .ok (.iload 5, 2) := by decide +kernel
theorem dX1_goOn_137 : decode cX1_goOn 137 = .ok (.isub, 1) := by decide +kernel
theorem dX1_goOn_138 : decode cX1_goOn 138 = .ok (.putfield 36, 3) := by decide +kernel
theorem dX1_goOn_141 : decode cX1_goOn 141 = .ok (.aload_n 0, 1) := by decide +kernel
theorem dX1_goOn_142 : decode cX1_goOn 142 = .ok (.dup, 1) := by decide +kernel
theorem dX1_goOn_143 : decode cX1_goOn 143 = .ok (.getfield 54, 3) := by decide +kernel
theorem dX1_goOn_146 : decode cX1_goOn 146 = .ok (.iconst 1, 1) := by decide +kernel
theorem dX1_goOn_147 : decode cX1_goOn 147 = .ok (.iadd, 1) := by decide +kernel
theorem dX1_goOn_148 : decode cX1_goOn 148 = .ok (.putfield 54, 3) := by decide +kernel
theorem dX1_goOn_151 : decode cX1_goOn 151 = .ok (.aload_n 0, 1) := by decide +kernel
theorem dX1_goOn_152 : decode cX1_goOn 152 = .ok (.aload_n 2, 1) := by decide +kernel
theorem dX1_goOn_153 : decode cX1_goOn 153 = .ok (.aload_n 3, 1) := by decide +kernel
theorem dX1_goOn_154 : decode cX1_goOn 154 = .ok (.iconst 5, 1) := by decide +kernel
theorem dX1_goOn_155 : decode cX1_goOn 155 = .ok (.invokevirtual 80, 3) := by decide +kernel
theorem dX1_goOn_158 : decode cX1_goOn 158 = .ok (.invokevirtual 88, 3) := by decide +kernel
theorem dX1_goOn_161 : decode cX1_goOn 161 = .ok (.aload_n 0, 1) := by decide +kernel
theorem dX1_goOn_162 : decode cX1_goOn 162 = .ok (.aload_n 1, 1) := by decide +kernel
theorem dX1_goOn_163 : decode cX1_goOn 163 = .ok (.aload_n 3, 1) := by decide +kernel
theorem dX1_goOn_164 : decode cX1_goOn 164 = .ok (.iconst 1, 1) := by decide +kernel
theorem dX1_goOn_165 : decode cX1_goOn 165 = .ok (.invokevirtual 80, 3) := by decide +kernel
theorem dX1_goOn_168 : decode cX1_goOn 168 = .ok (.invokevirtual 92, 3) := by decide +kernel
theorem dX1_goOn_171 : decode cX1_goOn 171 = .ok (.return_, 1) := by decide +kernel
theorem dX1_stepOn_0 : decode cX1_stepOn 0 = .ok (.aload_n 0, 1) := by decide +kernel
theorem dX1_stepOn_1 : decode cX1_stepOn 1 = .ok (.dup, 1) := by decide +kernel
theorem dX1_stepOn_2 : decode cX1_stepOn 2 = .ok (.getfield 33, 3) := by decide +kernel
theorem dX1_stepOn_5 : decode cX1_stepOn 5 = .ok (.iconst 1, 1) := by decide +kernel
theorem dX1_stepOn_6 : decode cX1_stepOn 6 = .ok (.iadd, 1) := by decide +kernel
theorem dX1_stepOn_7 : decode cX1_stepOn 7 = .ok (.putfield 33, 3) := by decide +kernel
theorem dX1_stepOn_10 : decode cX1_stepOn 10 = .ok (.aload_n 1, 1) := by decide +kernel
theorem dX1_stepOn_11 : decode cX1_stepOn 11 = .ok (.aload_n 0, 1) := by decide +kernel
theorem dX1_stepOn_12 : decode cX1_stepOn 12 = .ok (.getfield 27, 3) := by decide +kernel
theorem dX1_stepOn_15 : decode cX1_stepOn 15 = .ok (.invokevirtual 96, 3) := by decide +kernel
theorem dX1_stepOn_18 : decode cX1_stepOn 18 = .ok (.ifCond .eq 27, 3) := by decide +kernel
theorem dX1_stepOn_21 : decode cX1_stepOn 21 = .ok (.iload_n 2, 1) := by decide +kernel
theorem dX1_stepOn_22 : decode cX1_stepOn 22 = .ok (.ifCond .le 23, 3) := by decide +kernel
theorem dX1_stepOn_25 : decode cX1_stepOn 25 = .ok (.aload_n 0, 1) := by decide +kernel
theorem dX1_stepOn_26 : decode cX1_stepOn 26 = .ok (.getfield 33, 3) := by decide +kernel
theorem dX1_stepOn_29 : decode cX1_stepOn 29 = .ok (.iload_n 2, 1) := by decide +kernel
theorem dX1_stepOn_30 : decode cX1_stepOn 30 = .ok (.irem, 1) := by decide +kernel
theorem dX1_stepOn_31 : decode cX1_stepOn 31 = .ok (.ifCond .ne 14, 3) := by decide +kernel
theorem dX1_stepOn_34 : decode cX1_stepOn 34 = .ok (.aload_n 0, 1) := by decide +kernel
theorem dX1_stepOn_35 : decode cX1_stepOn 35 = .ok (.dup, 1) := by decide +kernel
theorem dX1_stepOn_36 : decode cX1_stepOn 36 = .ok (.getfield 45, 3) := by decide +kernel
theorem dX1_stepOn_39 : decode cX1_stepOn 39 = .ok (.iconst 1, 1) := by decide +kernel
theorem dX1_stepOn_40 : decode cX1_stepOn 40 = .ok (.iadd, 1) := by decide +kernel
theorem dX1_stepOn_41 : decode cX1_stepOn 41 = .ok (.putfield 45, 3) := by decide +kernel
theorem dX1_stepOn_44 : decode cX1_stepOn 44 = .ok (.return_, 1) := by decide +kernel
theorem dX1_stepOn_45 : decode cX1_stepOn 45 = .ok (.aload_n 0, 1) := by decide +kernel
theorem dX1_stepOn_46 : decode cX1_stepOn 46 = .ok (.dup, 1) := by decide +kernel
theorem dX1_stepOn_47 : decode cX1_stepOn 47 = .ok (.getfield 30, 3) := by decide +kernel
theorem dX1_stepOn_50 : decode cX1_stepOn 50 = .ok (.iconst 1, 1) := by decide +kernel
theorem dX1_stepOn_51 : decode cX1_stepOn 51 = .ok (.iadd, 1) := by decide +kernel
theorem dX1_stepOn_52 : decode cX1_stepOn 52 = .ok (.putfield 30, 3) := by decide +kernel
theorem dX1_stepOn_55 : decode cX1_stepOn 55 = .ok (.aload_n 0, 1) := by decide +kernel
theorem dX1_stepOn_56 : decode cX1_stepOn 56 = .ok (.dup, 1) := by decide +kernel
theorem dX1_stepOn_57 : decode cX1_stepOn 57 = .ok (.getfield 42, 3) := by decide +kernel
theorem dX1_stepOn_60 : decode cX1_stepOn 60 = .ok (.iconst 1, 1) := by decide +kernel
theorem dX1_stepOn_61 : decode cX1_stepOn 61 = .ok (.iadd, 1) := by decide +kernel
theorem dX1_stepOn_62 : decode cX1_stepOn 62 = .ok (.putfield 42, 3) := by decide +kernel
theorem dX1_stepOn_65 : decode cX1_stepOn 65 = .ok (.aload_n 0, 1) := by decide +kernel
theorem dX1_stepOn_66 : decode cX1_stepOn 66 = .ok (.getfield 30, 3) := by decide +kernel
theorem dX1_stepOn_69 : decode cX1_stepOn 69 = .ok (.aload_n 1, 1) := by decide +kernel
theorem dX1_stepOn_70 : decode cX1_stepOn 70 = .ok (.aload_n 0, 1) := by decide +kernel
theorem dX1_stepOn_71 : decode cX1_stepOn 71 = .ok (.getfield 27, 3) := by decide +kernel
theorem dX1_stepOn_74 : decode cX1_stepOn 74 = .ok (.invokevirtual 100, 3) := by decide +kernel
theorem dX1_stepOn_77 : decode cX1_stepOn 77 = .ok (.if_icmp .lt 23, 3) := by decide +kernel
theorem dX1_stepOn_80 : decode cX1_stepOn 80 = .ok (.aload_n 0, 1) := by decide +kernel
theorem dX1_stepOn_81 : decode cX1_stepOn 81 = .ok (.dup, 1) := by decide +kernel
theorem dX1_stepOn_82 : decode cX1_stepOn 82 = .ok (.getfield 27, 3) := by decide +kernel
theorem dX1_stepOn_85 : decode cX1_stepOn 85 = .ok (.iconst 1, 1) := by decide +kernel
theorem dX1_stepOn_86 : decode cX1_stepOn 86 = .ok (.iadd, 1) := by decide +kernel
theorem dX1_stepOn_87 : decode cX1_stepOn 87 = .ok (.putfield 27, 3) := by decide +kernel
theorem dX1_stepOn_90 : decode cX1_stepOn 90 = .ok (.aload_n 0, 1) := by decide +kernel
theorem dX1_stepOn_91 : decode cX1_stepOn 91 = .ok (.iconst 0, 1) := by decide +kernel
theorem dX1_stepOn_92 : decode cX1_stepOn 92 = .ok (.putfield 30, 3) := by decide +kernel
theorem dX1_stepOn_95 : decode cX1_stepOn 95 = .ok (.aload_n 0, 1) := by decide +kernel
theorem dX1_stepOn_96 : decode cX1_stepOn 96 = .ok (.iconst 0, 1) := by decide +kernel
theorem dX1_stepOn_97 : decode cX1_stepOn 97 = .ok (.putfield 33, 3) := by decide +kernel
theorem dX1_stepOn_100 : decode cX1_stepOn 100 = .ok (.return_, 1) := by decide +kernel
theorem dX1_singOn_0 : decode cX1_singOn 0 = .ok (.aload_n 0, 1) := by decide +kernel
theorem dX1_singOn_1 : decode cX1_singOn 1 = .ok (.dup, 1) := by decide +kernel
theorem dX1_singOn_2 : decode cX1_singOn 2 = .ok (.getfield 24, 3) := by decide +kernel
theorem dX1_singOn_5 : decode cX1_singOn 5 = .ok (.iconst 1, 1) := by decide +kernel
theorem dX1_singOn_6 : decode cX1_singOn 6 = .ok (.iadd, 1) := by decide +kernel
theorem dX1_singOn_7 : decode cX1_singOn 7 = .ok (.putfield 24, 3) := by decide +kernel
theorem dX1_singOn_10 : decode cX1_singOn 10 = .ok (.aload_n 0, 1) := by decide +kernel
theorem dX1_singOn_11 : decode cX1_singOn 11 = .ok (.getfield 24, 3) := by decide +kernel
theorem dX1_singOn_14 : decode cX1_singOn 14 = .ok (.aload_n 1, 1) := by decide +kernel
theorem dX1_singOn_15 : decode cX1_singOn 15 = .ok (.aload_n 0, 1) := by decide +kernel
theorem dX1_singOn_16 : decode cX1_singOn 16 = .ok (.getfield 18, 3) := by decide +kernel
theorem dX1_singOn_19 : decode cX1_singOn 19 = .ok (.aload_n 0, 1) := by decide +kernel
theorem dX1_singOn_20 : decode cX1_singOn 20 = .ok (.getfield 21, 3) := by decide +kernel
theorem dX1_singOn_23 : decode cX1_singOn 23 = .ok (.invokevirtual 103, 3) := by decide +kernel
theorem dX1_singOn_26 : decode cX1_singOn 26 = .ok (.if_icmp .ge 4, 3) := by decide +kernel
theorem dX1_singOn_29 : decode cX1_singOn 29 = .ok (.return_, 1) := by decide +kernel
theorem dX1_singOn_30 : decode cX1_singOn 30 = .ok (.aload_n 1, 1) := by decide +kernel
theorem dX1_singOn_31 : decode cX1_singOn 31 = .ok (.aload_n 0, 1) := by decide +kernel
theorem dX1_singOn_32 : decode cX1_singOn 32 = .ok (.getfield 18, 3) := by decide +kernel
theorem dX1_singOn_35 : decode cX1_singOn 35 = .ok (.aload_n 0, 1) := by decide +kernel
theorem dX1_singOn_36 : decode cX1_singOn 36 = .ok (.getfield 21, 3) := by decide +kernel
theorem dX1_singOn_39 : decode cX1_singOn 39 = .ok (.invokevirtual 108, 3) := by decide +kernel
theorem dX1_singOn_42 : decode cX1_singOn 42 = .ok (.ifCond .eq 8, 3) := by decide +kernel
theorem dX1_singOn_45 : decode cX1_singOn 45 = .ok (.aload_n 0, 1) := by decide +kernel
theorem dX1_singOn_46 : decode cX1_singOn 46 = .ok (.iload_n 2, 1) := by decide +kernel
theorem dX1_singOn_47 : decode cX1_singOn 47 = .ok (.putfield 39, 3) := by decide +kernel
theorem dX1_singOn_50 : decode cX1_singOn 50 = .ok (.aload_n 0, 1) := by decide +kernel
theorem dX1_singOn_51 : decode cX1_singOn 51 = .ok (.iconst 0, 1) := by decide +kernel
theorem dX1_singOn_52 : decode cX1_singOn 52 = .ok (.putfield 24, 3) := by decide +kernel
theorem dX1_singOn_55 : decode cX1_singOn 55 = .ok (.aload_n 0, 1) := by decide +kernel
theorem dX1_singOn_56 : decode cX1_singOn 56 = .ok (.dup, 1) := by decide +kernel
theorem dX1_singOn_57 : decode cX1_singOn 57 = .ok (.getfield 21, 3) := by decide +kernel
theorem dX1_singOn_60 : decode cX1_singOn 60 = .ok (.iconst 1, 1) := by decide +kernel
theorem dX1_singOn_61 : decode cX1_singOn 61 = .ok (.iadd, 1) := by decide +kernel
theorem dX1_singOn_62 : decode cX1_singOn 62 = .ok (.putfield 21, 3) := by decide +kernel
theorem dX1_singOn_65 : decode cX1_singOn 65 = .ok (.aload_n 0, 1) := by decide +kernel
theorem dX1_singOn_66 : decode cX1_singOn 66 = .ok (.getfield 21, 3) := by decide +kernel
theorem dX1_singOn_69 : decode cX1_singOn 69 = .ok (.aload_n 1, 1) := by decide +kernel
theorem dX1_singOn_70 : decode cX1_singOn 70 = .ok (.aload_n 0, 1) := by decide +kernel
theorem dX1_singOn_71 : decode cX1_singOn 71 = .ok (.getfield 18, 3) := by decide +kernel
theorem dX1_singOn_74 : decode cX1_singOn 74 = .ok (.invokevirtual 112, 3) := by decide +kernel
theorem dX1_singOn_77 : decode cX1_singOn 77 = .ok (.if_icmp .ge 4, 3) := by decide +kernel
theorem dX1_singOn_80 : decode cX1_singOn 80 = .ok (.return_, 1) := by decide +kernel
theorem dX1_singOn_81 : decode cX1_singOn 81 = .ok (.aload_n 0, 1) := by decide +kernel
theorem dX1_singOn_82 : decode cX1_singOn 82 = .ok (.iconst 0, 1) := by decide +kernel
theorem dX1_singOn_83 : decode cX1_singOn 83 = .ok (.putfield 21, 3) := by decide +kernel
theorem dX1_singOn_86 : decode cX1_singOn 86 = .ok (.aload_n 0, 1) := by decide +kernel
theorem dX1_singOn_87 : decode cX1_singOn 87 = .ok (.dup, 1) := by decide +kernel
theorem dX1_singOn_88 : decode cX1_singOn 88 = .ok (.getfield 18, 3) := by decide +kernel
theorem dX1_singOn_91 : decode cX1_singOn 91 = .ok (.iconst 1, 1) := by decide +kernel
theorem dX1_singOn_92 : decode cX1_singOn 92 = .ok (.iadd, 1) := by decide +kernel
theorem dX1_singOn_93 : decode cX1_singOn 93 = .ok (.putfield 18, 3) := by decide +kernel
theorem dX1_singOn_96 : decode cX1_singOn 96 = .ok (.aload_n 0, 1) := by decide +kernel
theorem dX1_singOn_97 : decode cX1_singOn 97 = .ok (.getfield 18, 3) := by decide +kernel
theorem dX1_singOn_100 : decode cX1_singOn 100 = .ok (.aload_n 1, 1) := by decide +kernel
theorem dX1_singOn_101 : decode cX1_singOn 101 = .ok (.getfield 115, 3) := by decide +kernel
theorem dX1_singOn_104 : decode cX1_singOn 104 = .ok (.if_icmp .ge 4, 3) := by decide +kernel
theorem dX1_singOn_107 : decode cX1_singOn 107 = .ok (.return_, 1) := by decide +kernel
theorem dX1_singOn_108 : decode cX1_singOn 108 = .ok (.aload_n 0, 1) := by decide +kernel
theorem dX1_singOn_109 : decode cX1_singOn 109 = .ok (.iconst 0, 1) := by decide +kernel
theorem dX1_singOn_110 : decode cX1_singOn 110 = .ok (.putfield 18, 3) := by decide +kernel
theorem dX1_singOn_113 : decode cX1_singOn 113 = .ok (.aload_n 0, 1) := by decide +kernel
theorem dX1_singOn_114 : decode cX1_singOn 114 = .ok (.dup, 1) := by decide +kernel
theorem dX1_singOn_115 : decode cX1_singOn 115 = .ok (.getfield 51, 3) := by decide +kernel
theorem dX1_singOn_118 : decode cX1_singOn 118 = .ok (.iconst 1, 1) := by decide +kernel
theorem dX1_singOn_119 : decode cX1_singOn 119 = .ok (.iadd, 1) := by decide +kernel
theorem dX1_singOn_120 : decode cX1_singOn 120 = .ok (.putfield 51, 3) := by decide +kernel
theorem dX1_singOn_123 : decode cX1_singOn 123 = .ok (.return_, 1) := by decide +kernel
theorem dX1_copyFrom_0 : decode cX1_copyFrom 0 = .ok (.aload_n 0, 1) := by decide +kernel
theorem dX1_copyFrom_1 : decode cX1_copyFrom 1 = .ok (.aload_n 1, 1) := by decide +kernel
theorem dX1_copyFrom_2 : decode cX1_copyFrom 2 = .ok (.getfield 9, 3) := by decide +kernel
theorem dX1_copyFrom_5 : decode cX1_copyFrom 5 = .ok (.putfield 9, 3) := by decide +kernel
theorem dX1_copyFrom_8 : decode cX1_copyFrom 8 = .ok (.aload_n 0, 1) := by decide +kernel
theorem dX1_copyFrom_9 : decode cX1_copyFrom 9 = .ok (.aload_n 1, 1) := by decide +kernel
theorem dX1_copyFrom_10 : decode cX1_copyFrom 10 = .ok (.getfield 15, 3) := by decide +kernel
theorem dX1_copyFrom_13 : decode cX1_copyFrom 13 = .ok (.putfield 15, 3) := by decide +kernel
theorem dX1_copyFrom_16 : decode cX1_copyFrom 16 = .ok (.aload_n 0, 1) := by decide +kernel
theorem dX1_copyFrom_17 : decode cX1_copyFrom 17 = .ok (.aload_n 1, 1) := by decide +kernel
theorem dX1_copyFrom_18 : decode cX1_copyFrom 18 = .ok (.getfield 18, 3) := by decide +kernel
theorem dX1_copyFrom_21 : decode cX1_copyFrom 21 = .ok (.putfield 18, 3) := by decide +kernel
theorem dX1_copyFrom_24 : decode cX1_copyFrom 24 = .ok (.aload_n 0, 1) := by decide +kernel
theorem dX1_copyFrom_25 : decode cX1_copyFrom 25 = .ok (.aload_n 1, 1) := by decide +kernel
theorem dX1_copyFrom_26 : decode cX1_copyFrom 26 = .ok (.getfield 21, 3) := by decide +kernel
theorem dX1_copyFrom_29 : decode cX1_copyFrom 29 = .ok (.putfield 21, 3) := by decide +kernel
theorem dX1_copyFrom_32 : decode cX1_copyFrom 32 = .ok (.aload_n 0, 1) := by decide +kernel
theorem dX1_copyFrom_33 : decode cX1_copyFrom 33 = .ok (.aload_n 1, 1) := by decide +kernel
theorem dX1_copyFrom_34 : decode cX1_copyFrom 34 = .ok (.getfield 24, 3) := by decide +kernel
theorem dX1_copyFrom_37 : decode cX1_copyFrom 37 = .ok (.putfield 24, 3) := by decide +kernel
theorem dX1_copyFrom_40 : decode cX1_copyFrom 40 = .ok (.aload_n 0, 1) := by decide +kernel
theorem dX1_copyFrom_41 : decode cX1_copyFrom 41 = .ok (.aload_n 1, 1) := by decide +kernel
theorem dX1_copyFrom_42 : decode cX1_copyFrom 42 = .ok (.getfield 27, 3) := by decide +kernel
theorem dX1_copyFrom_45 : decode cX1_copyFrom 45 = .ok (.putfield 27, 3) := by decide +kernel
theorem dX1_copyFrom_48 : decode cX1_copyFrom 48 = .ok (.aload_n 0, 1) := by decide +kernel
theorem dX1_copyFrom_49 : decode cX1_copyFrom 49 = .ok (.aload_n 1, 1) := by decide +kernel
theorem dX1_copyFrom_50 : decode cX1_copyFrom 50 = .ok (.getfield 30, 3) := by decide +kernel
theorem dX1_copyFrom_53 : decode cX1_copyFrom 53 = .ok (.putfield 30, 3) := by decide +kernel
theorem dX1_copyFrom_56 : decode cX1_copyFrom 56 = .ok (.aload_n 0, 1) := by decide +kernel
theorem dX1_copyFrom_57 : decode cX1_copyFrom 57 = .ok (.aload_n 1, 1) := by decide +kernel
theorem dX1_copyFrom_58 : decode cX1_copyFrom 58 = .ok (.getfield 33, 3) := by decide +kernel
theorem dX1_copyFrom_61 : decode cX1_copyFrom 61 = .ok (.putfield 33, 3) := by decide +kernel
theorem dX1_copyFrom_64 : decode cX1_copyFrom 64 = .ok (.aload_n 0, 1) := by decide +kernel
theorem dX1_copyFrom_65 : decode cX1_copyFrom 65 = .ok (.aload_n 1, 1) := by decide +kernel
theorem dX1_copyFrom_66 : decode cX1_copyFrom 66 = .ok (.getfield 36, 3) := by decide +kernel
theorem dX1_copyFrom_69 : decode cX1_copyFrom 69 = .ok (.putfield 36, 3) := by decide +kernel
theorem dX1_copyFrom_72 : decode cX1_copyFrom 72 = .ok (.aload_n 0, 1) := by decide +kernel
theorem dX1_copyFrom_73 : decode cX1_copyFrom 73 = .ok (.aload_n 1, 1) := by decide +kernel
theorem dX1_copyFrom_74 : decode cX1_copyFrom 74 = .ok (.getfield 39, 3) := by decide +kernel
theorem dX1_copyFrom_77 : decode cX1_copyFrom 77 = .ok (.putfield 39, 3) := by decide +kernel
theorem dX1_copyFrom_80 : decode cX1_copyFrom 80 = .ok (.aload_n 0, 1) := by decide +kernel
theorem dX1_copyFrom_81 : decode cX1_copyFrom 81 = .ok (.aload_n 1, 1) := by decide +kernel
theorem dX1_copyFrom_82 : decode cX1_copyFrom 82 = .ok (.getfield 42, 3) := by decide +kernel
theorem dX1_copyFrom_85 : decode cX1_copyFrom 85 = .ok (.putfield 42, 3) := by decide +kernel
theorem dX1_copyFrom_88 : decode cX1_copyFrom 88 = .ok (.aload_n 0, 1) := by decide +kernel
theorem dX1_copyFrom_89 : decode cX1_copyFrom 89 = .ok (.aload_n 1, 1) := by decide +kernel
theorem dX1_copyFrom_90 : decode cX1_copyFrom 90 = .ok (.getfield 45, 3) := by decide +kernel
theorem dX1_copyFrom_93 : decode cX1_copyFrom 93 = .ok (.putfield 45, 3) := by decide +kernel
theorem dX1_copyFrom_96 : decode cX1_copyFrom 96 = .ok (.aload_n 0, 1) := by decide +kernel
theorem dX1_copyFrom_97 : decode cX1_copyFrom 97 = .ok (.aload_n 1, 1) := by decide +kernel
theorem dX1_copyFrom_98 : decode cX1_copyFrom 98 = .ok (.getfield 48, 3) := by decide +kernel
theorem dX1_copyFrom_101 : decode cX1_copyFrom 101 = .ok (.putfield 48, 3) := by decide +kernel
theorem dX1_copyFrom_104 : decode cX1_copyFrom 104 = .ok (.aload_n 0, 1) := by decide +kernel
theorem dX1_copyFrom_105 : decode cX1_copyFrom 105 = .ok (.aload_n 1, 1) := by decide +kernel
theorem dX1_copyFrom_106 : decode cX1_copyFrom 106 = .ok (.getfield 51, 3) := by decide +kernel
theorem dX1_copyFrom_109 : decode cX1_copyFrom 109 = .ok (.putfield 51, 3) := by decide +kernel
theorem dX1_copyFrom_112 : decode cX1_copyFrom 112 = .ok (.aload_n 0, 1) := by decide +kernel
theorem dX1_copyFrom_113 : decode cX1_copyFrom 113 = .ok (.aload_n 1, 1) := by decide +kernel
theorem dX1_copyFrom_114 : decode cX1_copyFrom 114 = .ok (.getfield 54, 3) := by decide +kernel
theorem dX1_copyFrom_117 : decode cX1_copyFrom 117 = .ok (.putfield 54, 3) := by decide +kernel
theorem dX1_copyFrom_120 : decode cX1_copyFrom 120 = .ok (.return_, 1) := by decide +kernel
theorem dX2_init_0 : decode cX2_init 0 = .ok (.aload_n 0, 1) := by decide +kernel
theorem dX2_init_1 : decode cX2_init 1 = .ok (.invokespecial 3, 3) := by decide +kernel
theorem dX2_init_4 : decode cX2_init 4 = .ok (.aload_n 0, 1) := by decide +kernel
theorem dX2_init_5 : decode cX2_init 5 = .ok (.bipush 60, 2) := by decide +kernel
theorem dX2_init_7 : decode cX2_init 7 = .ok (.newarray .int, 2) := by decide +kernel
theorem dX2_init_9 : decode cX2_init 9 = .ok (.putfield 9, 3) := by decide +kernel
theorem dX2_init_12 : decode cX2_init 12 = .ok (.return_, 1) := by decide +kernel
theorem dX2_charactersIn_0 : decode cX2_charactersIn 0 = .ok (.iconst 0, 1) := by decide +kernel
theorem dX2_charactersIn_1 : decode cX2_charactersIn 1 = .ok (.istore_n 2, 1) := by decide +kernel
theorem dX2_charactersIn_2 : decode cX2_charactersIn 2 = .ok (.lload_n 0, 1) := by decide +kernel
theorem dX2_charactersIn_3 : decode cX2_charactersIn 3 = .ok (.lstore_n 3, 1) := by decide +kernel
theorem dX2_charactersIn_4 : decode cX2_charactersIn 4 = .ok (.lload_n 3, 1) := by decide +kernel
theorem dX2_charactersIn_5 : decode cX2_charactersIn 5 = .ok (.lconst 0, 1) := by decide +kernel
theorem dX2_charactersIn_6 : decode cX2_charactersIn 6 = .ok (.lcmp, 1) := by decide +kernel
theorem dX2_charactersIn_7 : decode cX2_charactersIn 7 = .ok (.ifCond .eq 43, 3) := by decide +kernel
theorem dX2_charactersIn_10 : decode cX2_charactersIn 10 = .ok (.iload_n 2, 1) := by decide +kernel
theorem dX2_charactersIn_11 : decode cX2_charactersIn 11 = .ok (.bipush 8, 2) := by decide +kernel
theorem dX2_charactersIn_13 : decode cX2_charactersIn 13 = .ok (.if_icmp .ge 37, 3) := by decide +kernel
theorem dX2_charactersIn_16 : decode cX2_charactersIn 16 = .ok (.lload_n 3, 1) := by decide +kernel
theorem dX2_charactersIn_17 : decode cX2_charactersIn 17 = .ok (.iconst 0, 1) := by decide +kernel
theorem dX2_charactersIn_18 : decode cX2_charactersIn 18 = .ok (.invokestatic 15, 3) := by decide +kernel
theorem dX2_charactersIn_21 : decode cX2_charactersIn 21 = .ok (.istore 5, 2) := by decide +kernel
theorem dX2_charactersIn_23 : decode cX2_charactersIn 23 = .ok (.iload 5, 2) := by decide +kernel
theorem dX2_charactersIn_25 : decode cX2_charactersIn 25 = .ok (.bipush 33, 2) := by decide +kernel
theorem dX2_charactersIn_27 : decode cX2_charactersIn 27 = .ok (.if_icmp .lt 10, 3) := by decide +kernel
theorem dX2_charactersIn_30 : decode cX2_charactersIn 30 = .ok (.iload 5, 2) := by decide +kernel
theorem dX2_charactersIn_32 : decode cX2_charactersIn 32 = .ok (.bipush 126, 2) := by decide +kernel
theorem dX2_charactersIn_34 : decode cX2_charactersIn 34 = .ok (.if_icmp .le 5, 3) := by decide +kernel
theorem dX2_charactersIn_37 : decode cX2_charactersIn 37 = .ok (.iconst 0, 1) := by decide +kernel
theorem dX2_charactersIn_38 : decode cX2_charactersIn 38 = .ok (.ireturn, 1) := by decide +kernel
theorem dX2_charactersIn_39 : decode cX2_charactersIn 39 = .ok (.iinc 2 1, 3) := by decide +kernel
theorem dX2_charactersIn_42 : decode cX2_charactersIn 42 = .ok (.lload_n 3, 1) := by decide +kernel
theorem dX2_charactersIn_43 : decode cX2_charactersIn 43 = .ok (.bipush 8, 2) := by decide +kernel
theorem dX2_charactersIn_45 : decode cX2_charactersIn 45 = .ok (.lushr, 1) := by decide +kernel
theorem dX2_charactersIn_46 : decode cX2_charactersIn 46 = .ok (.lstore_n 3, 1) := by decide +kernel
theorem dX2_charactersIn_47 : decode cX2_charactersIn 47 = .ok (.goto (-43), 3) := by decide +kernel
theorem dX2_charactersIn_50 : decode cX2_charactersIn 50 = .ok (.iload_n 2, 1) := by decide +kernel
theorem dX2_charactersIn_51 : decode cX2_charactersIn 51 = .ok (.ireturn, 1) := by decide +kernel
theorem dX2_codeIn_0 : decode cX2_codeIn 0 = .ok (.lload_n 0, 1) := by decide +kernel
theorem dX2_codeIn_1 : decode cX2_codeIn 1 = .ok (.bipush 8, 2) := by decide +kernel
theorem dX2_codeIn_3 : decode cX2_codeIn 3 = .ok (.iload_n 2, 1) := by decide +kernel
theorem dX2_codeIn_4 : decode cX2_codeIn 4 = .ok (.imul, 1) := by decide +kernel
theorem dX2_codeIn_5 : decode cX2_codeIn 5 = .ok (.lushr, 1) := by decide +kernel
theorem dX2_codeIn_6 : decode cX2_codeIn 6 = .ok (.ldc2_w 19, 3) := by decide +kernel
theorem dX2_codeIn_9 : decode cX2_codeIn 9 = .ok (.land, 1) := by decide +kernel
theorem dX2_codeIn_10 : decode cX2_codeIn 10 = .ok (.l2i, 1) := by decide +kernel
theorem dX2_codeIn_11 : decode cX2_codeIn 11 = .ok (.ireturn, 1) := by decide +kernel
theorem dX2_append_0 : decode cX2_append 0 = .ok (.aload_n 0, 1) := by decide +kernel
theorem dX2_append_1 : decode cX2_append 1 = .ok (.getfield 21, 3) := by decide +kernel
theorem dX2_append_4 : decode cX2_append 4 = .ok (.ifCond .lt 32, 3) := by decide +kernel
theorem dX2_append_7 : decode cX2_append 7 = .ok (.aload_n 0, 1) := by decide +kernel
theorem dX2_append_8 : decode cX2_append 8 = .ok (.getfield 21, 3) := by decide +kernel
theorem dX2_append_11 : decode cX2_append 11 = .ok (.bipush 60, 2) := by decide +kernel
theorem dX2_append_13 : decode cX2_append 13 = .ok (.if_icmp .ge 23, 3) := by decide +kernel
theorem dX2_append_16 : decode cX2_append 16 = .ok (.aload_n 0, 1) := by decide +kernel
theorem dX2_append_17 : decode cX2_append 17 = .ok (.getfield 9, 3) := by decide +kernel
theorem dX2_append_20 : decode cX2_append 20 = .ok (.aload_n 0, 1) := by decide +kernel
theorem dX2_append_21 : decode cX2_append 21 = .ok (.getfield 21, 3) := by decide +kernel
theorem dX2_append_24 : decode cX2_append 24 = .ok (.iload_n 1, 1) := by decide +kernel
theorem dX2_append_25 : decode cX2_append 25 = .ok (.iastore, 1) := by decide +kernel
theorem dX2_append_26 : decode cX2_append 26 = .ok (.aload_n 0, 1) := by decide +kernel
theorem dX2_append_27 : decode cX2_append 27 = .ok (.dup, 1) := by decide +kernel
theorem dX2_append_28 : decode cX2_append 28 = .ok (.getfield 21, 3) := by decide +kernel
theorem dX2_append_31 : decode cX2_append 31 = .ok (.iconst 1, 1) := by decide +kernel
theorem dX2_append_32 : decode cX2_append 32 = .ok (.iadd, 1) := by decide +kernel
theorem dX2_append_33 : decode cX2_append 33 = .ok (.putfield 21, 3) := by decide +kernel
theorem dX2_append_36 : decode cX2_append 36 = .ok (.return_, 1) := by decide +kernel
theorem dX2_empty_0 : decode cX2_empty 0 = .ok (.aload_n 0, 1) := by decide +kernel
theorem dX2_empty_1 : decode cX2_empty 1 = .ok (.iconst 0, 1) := by decide +kernel
theorem dX2_empty_2 : decode cX2_empty 2 = .ok (.putfield 21, 3) := by decide +kernel
theorem dX2_empty_5 : decode cX2_empty 5 = .ok (.return_, 1) := by decide +kernel
theorem dX2_faultIndex_0 : decode cX2_faultIndex 0 = .ok (.iconst 1, 1) := by decide +kernel
theorem dX2_faultIndex_1 : decode cX2_faultIndex 1 = .ok (.istore_n 1, 1) := by decide +kernel
theorem dX2_faultIndex_2 : decode cX2_faultIndex 2 = .ok (.iconst 0, 1) := by decide +kernel
theorem dX2_faultIndex_3 : decode cX2_faultIndex 3 = .ok (.istore_n 2, 1) := by decide +kernel
theorem dX2_faultIndex_4 : decode cX2_faultIndex 4 = .ok (.iconst 0, 1) := by decide +kernel
theorem dX2_faultIndex_5 : decode cX2_faultIndex 5 = .ok (.istore_n 3, 1) := by decide +kernel
theorem dX2_faultIndex_6 : decode cX2_faultIndex 6 = .ok (.iconst 0, 1) := by decide +kernel
theorem dX2_faultIndex_7 : decode cX2_faultIndex 7 = .ok (.istore 4, 2) := by decide +kernel
theorem dX2_faultIndex_9 : decode cX2_faultIndex 9 = .ok (.iload 4, 2) := by decide +kernel
theorem dX2_faultIndex_11 : decode cX2_faultIndex 11 = .ok (.aload_n 0, 1) := by decide +kernel
theorem dX2_faultIndex_12 : decode cX2_faultIndex 12 = .ok (.getfield 21, 3) := by decide +kernel
theorem dX2_faultIndex_15 : decode cX2_faultIndex 15 = .ok (.if_icmp .ge 96, 3) := by decide +kernel
theorem dX2_faultIndex_18 : decode cX2_faultIndex 18 = .ok (.iload 4, 2) := by decide +kernel
theorem dX2_faultIndex_20 : decode cX2_faultIndex 20 = .ok (.bipush 60, 2) := by decide +kernel
theorem dX2_faultIndex_22 : decode cX2_faultIndex 22 = .ok (.if_icmp .ge 89, 3) := by decide +kernel
theorem dX2_faultIndex_25 : decode cX2_faultIndex 25 = .ok (.aload_n 0, 1) := by decide +kernel
theorem dX2_faultIndex_26 : decode cX2_faultIndex 26 = .ok (.getfield 9, 3) := by decide +kernel
theorem dX2_faultIndex_29 : decode cX2_faultIndex 29 = .ok (.iload 4, 2) := by decide +kernel
theorem dX2_faultIndex_31 : decode cX2_faultIndex 31 = .ok (.iaload, 1) := by decide +kernel
theorem dX2_faultIndex_32 : decode cX2_faultIndex 32 = .ok (.istore 5, 2) := by decide +kernel
theorem dX2_faultIndex_34 : decode cX2_faultIndex 34 = .ok (.iload 5, 2) := by decide +kernel
theorem dX2_faultIndex_36 : decode cX2_faultIndex 36 = .ok (.bipush 39, 2) := by decide +kernel
theorem dX2_faultIndex_38 : decode cX2_faultIndex 38 = .ok (.if_icmp .ne 15, 3) := by decide +kernel
theorem dX2_faultIndex_41 : decode cX2_faultIndex 41 = .ok (.iload_n 3, 1) := by decide +kernel
theorem dX2_faultIndex_42 : decode cX2_faultIndex 42 = .ok (.ifCond .ne 6, 3) := by decide +kernel
theorem dX2_faultIndex_45 : decode cX2_faultIndex 45 = .ok (.iload 4, 2) := by decide +kernel
theorem dX2_faultIndex_47 : decode cX2_faultIndex 47 = .ok (.ireturn, 1) := by decide +kernel
theorem dX2_faultIndex_48 : decode cX2_faultIndex 48 = .ok (.iconst 0, 1) := by decide +kernel
theorem dX2_faultIndex_49 : decode cX2_faultIndex 49 = .ok (.istore_n 3, 1) := by decide +kernel
theorem dX2_faultIndex_50 : decode cX2_faultIndex 50 = .ok (.goto 55, 3) := by decide +kernel
theorem dX2_faultIndex_53 : decode cX2_faultIndex 53 = .ok (.iload 5, 2) := by decide +kernel
theorem dX2_faultIndex_55 : decode cX2_faultIndex 55 = .ok (.bipush 47, 2) := by decide +kernel
theorem dX2_faultIndex_57 : decode cX2_faultIndex 57 = .ok (.if_icmp .ne 26, 3) := by decide +kernel
theorem dX2_faultIndex_60 : decode cX2_faultIndex 60 = .ok (.iload_n 2, 1) := by decide +kernel
theorem dX2_faultIndex_61 : decode cX2_faultIndex 61 = .ok (.ifCond .eq 9, 3) := by decide +kernel
theorem dX2_faultIndex_64 : decode cX2_faultIndex 64 = .ok (.iload_n 1, 1) := by decide +kernel
theorem dX2_faultIndex_65 : decode cX2_faultIndex 65 = .ok (.bipush 10, 2) := by decide +kernel
theorem dX2_faultIndex_67 : decode cX2_faultIndex 67 = .ok (.if_icmp .ne 6, 3) := by decide +kernel
theorem dX2_faultIndex_70 : decode cX2_faultIndex 70 = .ok (.iload 4, 2) := by decide +kernel
theorem dX2_faultIndex_72 : decode cX2_faultIndex 72 = .ok (.ireturn, 1) := by decide +kernel
theorem dX2_faultIndex_73 : decode cX2_faultIndex 73 = .ok (.iinc 1 1, 3) := by decide +kernel
theorem dX2_faultIndex_76 : decode cX2_faultIndex 76 = .ok (.iconst 0, 1) := by decide +kernel
theorem dX2_faultIndex_77 : decode cX2_faultIndex 77 = .ok (.istore_n 2, 1) := by decide +kernel
theorem dX2_faultIndex_78 : decode cX2_faultIndex 78 = .ok (.iconst 0, 1) := by decide +kernel
theorem dX2_faultIndex_79 : decode cX2_faultIndex 79 = .ok (.istore_n 3, 1) := by decide +kernel
theorem dX2_faultIndex_80 : decode cX2_faultIndex 80 = .ok (.goto 25, 3) := by decide +kernel
theorem dX2_faultIndex_83 : decode cX2_faultIndex 83 = .ok (.iload 5, 2) := by decide +kernel
theorem dX2_faultIndex_85 : decode cX2_faultIndex 85 = .ok (.invokestatic 25, 3) := by decide +kernel
theorem dX2_faultIndex_88 : decode cX2_faultIndex 88 = .ok (.ifCond .eq 9, 3) := by decide +kernel
theorem dX2_faultIndex_91 : decode cX2_faultIndex 91 = .ok (.iload_n 2, 1) := by decide +kernel
theorem dX2_faultIndex_92 : decode cX2_faultIndex 92 = .ok (.bipush 12, 2) := by decide +kernel
theorem dX2_faultIndex_94 : decode cX2_faultIndex 94 = .ok (.if_icmp .ne 6, 3) := by decide +kernel
theorem dX2_faultIndex_97 : decode cX2_faultIndex 97 = .ok (.iload 4, 2) := by decide +kernel
theorem dX2_faultIndex_99 : decode cX2_faultIndex 99 = .ok (.ireturn, 1) := by decide +kernel
theorem dX2_faultIndex_100 : decode cX2_faultIndex 100 = .ok (.iinc 2 1, 3) := by decide +kernel
theorem dX2_faultIndex_103 : decode cX2_faultIndex 103 = .ok (.iconst 1, 1) := by decide +kernel
theorem dX2_faultIndex_104 : decode cX2_faultIndex 104 = .ok (.istore_n 3, 1) := by decide +kernel
theorem dX2_faultIndex_105 : decode cX2_faultIndex 105 = .ok (.iinc 4 1, 3) := by decide +kernel
theorem dX2_faultIndex_108 : decode cX2_faultIndex 108 = .ok (.goto (-99), 3) := by decide +kernel
theorem dX2_faultIndex_111 : decode cX2_faultIndex 111 = .ok (.iload_n 2, 1) := by decide +kernel
theorem dX2_faultIndex_112 : decode cX2_faultIndex 112 = .ok (.ifCond .ne 10, 3) := by decide +kernel
theorem dX2_faultIndex_115 : decode cX2_faultIndex 115 = .ok (.aload_n 0, 1) := by decide +kernel
theorem dX2_faultIndex_116 : decode cX2_faultIndex 116 = .ok (.getfield 21, 3) := by decide +kernel
theorem dX2_faultIndex_119 : decode cX2_faultIndex 119 = .ok (.goto 5, 3) := by decide +kernel
theorem dX2_faultIndex_122 : decode cX2_faultIndex 122 = .ok (.bipush (-6), 2) := by decide +kernel
theorem dX2_faultIndex_124 : decode cX2_faultIndex 124 = .ok (.ireturn, 1) := by decide +kernel
theorem dX2_writeInto_0 : decode cX2_writeInto 0 = .ok (.aload_n 1, 1) := by decide +kernel
theorem dX2_writeInto_1 : decode cX2_writeInto 1 = .ok (.invokevirtual 29, 3) := by decide +kernel
theorem dX2_writeInto_4 : decode cX2_writeInto 4 = .ok (.aload_n 1, 1) := by decide +kernel
theorem dX2_writeInto_5 : decode cX2_writeInto 5 = .ok (.invokevirtual 34, 3) := by decide +kernel
theorem dX2_writeInto_8 : decode cX2_writeInto 8 = .ok (.iconst 0, 1) := by decide +kernel
theorem dX2_writeInto_9 : decode cX2_writeInto 9 = .ok (.istore_n 2, 1) := by decide +kernel
theorem dX2_writeInto_10 : decode cX2_writeInto 10 = .ok (.iload_n 2, 1) := by decide +kernel
theorem dX2_writeInto_11 : decode cX2_writeInto 11 = .ok (.aload_n 0, 1) := by decide +kernel
theorem dX2_writeInto_12 : decode cX2_writeInto 12 = .ok (.getfield 21, 3) := by decide +kernel
theorem dX2_writeInto_15 : decode cX2_writeInto 15 = .ok (.if_icmp .ge 56, 3) := by decide +kernel
theorem dX2_writeInto_18 : decode cX2_writeInto 18 = .ok (.iload_n 2, 1) := by decide +kernel
theorem dX2_writeInto_19 : decode cX2_writeInto 19 = .ok (.bipush 60, 2) := by decide +kernel
theorem dX2_writeInto_21 : decode cX2_writeInto 21 = .ok (.if_icmp .ge 50, 3) := by decide +kernel
theorem dX2_writeInto_24 : decode cX2_writeInto 24 = .ok (.aload_n 0, 1) := by decide +kernel
theorem dX2_writeInto_25 : decode cX2_writeInto 25 = .ok (.getfield 9, 3) := by decide +kernel
theorem dX2_writeInto_28 : decode cX2_writeInto 28 = .ok (.iload_n 2, 1) := by decide +kernel
theorem dX2_writeInto_29 : decode cX2_writeInto 29 = .ok (.iaload, 1) := by decide +kernel
theorem dX2_writeInto_30 : decode cX2_writeInto 30 = .ok (.istore_n 3, 1) := by decide +kernel
theorem dX2_writeInto_31 : decode cX2_writeInto 31 = .ok (.iload_n 3, 1) := by decide +kernel
theorem dX2_writeInto_32 : decode cX2_writeInto 32 = .ok (.bipush 39, 2) := by decide +kernel
theorem dX2_writeInto_34 : decode cX2_writeInto 34 = .ok (.if_icmp .ne 10, 3) := by decide +kernel
theorem dX2_writeInto_37 : decode cX2_writeInto 37 = .ok (.aload_n 1, 1) := by decide +kernel
theorem dX2_writeInto_38 : decode cX2_writeInto 38 = .ok (.invokevirtual 37, 3) := by decide +kernel
theorem dX2_writeInto_41 : decode cX2_writeInto 41 = .ok (.goto 24, 3) := by decide +kernel
theorem dX2_writeInto_44 : decode cX2_writeInto 44 = .ok (.iload_n 3, 1) := by decide +kernel
theorem dX2_writeInto_45 : decode cX2_writeInto 45 = .ok (.bipush 47, 2) := by decide +kernel
theorem dX2_writeInto_47 : decode cX2_writeInto 47 = .ok (.if_icmp .ne 10, 3) := by decide +kernel
theorem dX2_writeInto_50 : decode cX2_writeInto 50 = .ok (.aload_n 1, 1) := by decide +kernel
theorem dX2_writeInto_51 : decode cX2_writeInto 51 = .ok (.invokevirtual 34, 3) := by decide +kernel
theorem dX2_writeInto_54 : decode cX2_writeInto 54 = .ok (.goto 11, 3) := by decide +kernel
theorem dX2_writeInto_57 : decode cX2_writeInto 57 = .ok (.aload_n 1, 1) := by decide +kernel
theorem dX2_writeInto_58 : decode cX2_writeInto 58 = .ok (.iload_n 3, 1) := by decide +kernel
theorem dX2_writeInto_59 : decode cX2_writeInto 59 = .ok (.invokestatic 25, 3) := by decide +kernel
theorem dX2_writeInto_62 : decode cX2_writeInto 62 = .ok (.invokevirtual 40, 3) := by decide +kernel
theorem dX2_writeInto_65 : decode cX2_writeInto 65 = .ok (.iinc 2 1, 3) := by decide +kernel
theorem dX2_writeInto_68 : decode cX2_writeInto 68 = .ok (.goto (-58), 3) := by decide +kernel
theorem dX2_writeInto_71 : decode cX2_writeInto 71 = .ok (.return_, 1) := by decide +kernel
theorem dX2_beatsMeantBy_0 : decode cX2_beatsMeantBy 0 = .ok (.iload_n 0, 1) := by decide +kernel
theorem dX2_beatsMeantBy_1 : decode cX2_beatsMeantBy 1 = .ok (.lookupswitch 41 #[(100, 37), (113, 39), (117, 35)], 35) := by decide +kernel
theorem dX2_beatsMeantBy_36 : decode cX2_beatsMeantBy 36 = .ok (.iconst 2, 1) := by decide +kernel
theorem dX2_beatsMeantBy_37 : decode cX2_beatsMeantBy 37 = .ok (.ireturn, 1) := by decide +kernel
theorem dX2_beatsMeantBy_38 : decode cX2_beatsMeantBy 38 = .ok (.iconst 3, 1) := by decide +kernel
theorem dX2_beatsMeantBy_39 : decode cX2_beatsMeantBy 39 = .ok (.ireturn, 1) := by decide +kernel
theorem dX2_beatsMeantBy_40 : decode cX2_beatsMeantBy 40 = .ok (.iconst 4, 1) := by decide +kernel
theorem dX2_beatsMeantBy_41 : decode cX2_beatsMeantBy 41 = .ok (.ireturn, 1) := by decide +kernel
theorem dX2_beatsMeantBy_42 : decode cX2_beatsMeantBy 42 = .ok (.iconst 0, 1) := by decide +kernel
theorem dX2_beatsMeantBy_43 : decode cX2_beatsMeantBy 43 = .ok (.ireturn, 1) := by decide +kernel
theorem dX3_init_0 : decode cX3_init 0 = .ok (.aload_n 0, 1) := by decide +kernel
theorem dX3_init_1 : decode cX3_init 1 = .ok (.invokespecial 3, 3) := by decide +kernel
theorem dX3_init_4 : decode cX3_init 4 = .ok (.aload_n 0, 1) := by decide +kernel
theorem dX3_init_5 : decode cX3_init 5 = .ok (.bipush 12, 2) := by decide +kernel
theorem dX3_init_7 : decode cX3_init 7 = .ok (.newarray .int, 2) := by decide +kernel
theorem dX3_init_9 : decode cX3_init 9 = .ok (.putfield 9, 3) := by decide +kernel
theorem dX3_init_12 : decode cX3_init 12 = .ok (.aload_n 0, 1) := by decide +kernel
theorem dX3_init_13 : decode cX3_init 13 = .ok (.bipush 12, 2) := by decide +kernel
theorem dX3_init_15 : decode cX3_init 15 = .ok (.newarray .int, 2) := by decide +kernel
theorem dX3_init_17 : decode cX3_init 17 = .ok (.putfield 15, 3) := by decide +kernel
theorem dX3_init_20 : decode cX3_init 20 = .ok (.aload_n 0, 1) := by decide +kernel
theorem dX3_init_21 : decode cX3_init 21 = .ok (.bipush 12, 2) := by decide +kernel
theorem dX3_init_23 : decode cX3_init 23 = .ok (.newarray .boolean, 2) := by decide +kernel
theorem dX3_init_25 : decode cX3_init 25 = .ok (.putfield 18, 3) := by decide +kernel
theorem dX3_init_28 : decode cX3_init 28 = .ok (.return_, 1) := by decide +kernel
theorem dX3_add_0 : decode cX3_add 0 = .ok (.aload_n 0, 1) := by decide +kernel
theorem dX3_add_1 : decode cX3_add 1 = .ok (.getfield 22, 3) := by decide +kernel
theorem dX3_add_4 : decode cX3_add 4 = .ok (.ifCond .lt 52, 3) := by decide +kernel
theorem dX3_add_7 : decode cX3_add 7 = .ok (.aload_n 0, 1) := by decide +kernel
theorem dX3_add_8 : decode cX3_add 8 = .ok (.getfield 22, 3) := by decide +kernel
theorem dX3_add_11 : decode cX3_add 11 = .ok (.bipush 12, 2) := by decide +kernel
theorem dX3_add_13 : decode cX3_add 13 = .ok (.if_icmp .ge 43, 3) := by decide +kernel
theorem dX3_add_16 : decode cX3_add 16 = .ok (.aload_n 0, 1) := by decide +kernel
theorem dX3_add_17 : decode cX3_add 17 = .ok (.getfield 9, 3) := by decide +kernel
theorem dX3_add_20 : decode cX3_add 20 = .ok (.aload_n 0, 1) := by decide +kernel
theorem dX3_add_21 : decode cX3_add 21 = .ok (.getfield 22, 3) := by decide +kernel
theorem dX3_add_24 : decode cX3_add 24 = .ok (.iload_n 1, 1) := by decide +kernel
theorem dX3_add_25 : decode cX3_add 25 = .ok (.iastore, 1) := by decide +kernel
theorem dX3_add_26 : decode cX3_add 26 = .ok (.aload_n 0, 1) := by decide +kernel
theorem dX3_add_27 : decode cX3_add 27 = .ok (.getfield 15, 3) := by decide +kernel
theorem dX3_add_30 : decode cX3_add 30 = .ok (.aload_n 0, 1) := by decide +kernel
theorem dX3_add_31 : decode cX3_add 31 = .ok (.getfield 22, 3) := by decide +kernel
theorem dX3_add_34 : decode cX3_add 34 = .ok (.iload_n 2, 1) := by decide +kernel
theorem dX3_add_35 : decode cX3_add 35 = .ok (.iastore, 1) := by decide +kernel
theorem dX3_add_36 : decode cX3_add 36 = .ok (.aload_n 0, 1) := by decide +kernel
theorem dX3_add_37 : decode cX3_add 37 = .ok (.getfield 18, 3) := by decide +kernel
theorem dX3_add_40 : decode cX3_add 40 = .ok (.aload_n 0, 1) := by decide +kernel
theorem dX3_add_41 : decode cX3_add 41 = .ok (.getfield 22, 3) := by decide +kernel
theorem dX3_add_44 : decode cX3_add 44 = .ok (.iload_n 3, 1) := by decide +kernel
theorem dX3_add_45 : decode cX3_add 45 = .ok (.bastore, 1) := by decide +kernel
theorem dX3_add_46 : decode cX3_add 46 = .ok (.aload_n 0, 1) := by decide +kernel
theorem dX3_add_47 : decode cX3_add 47 = .ok (.dup, 1) := by decide +kernel
theorem dX3_add_48 : decode cX3_add 48 = .ok (.getfield 22, 3) := by decide +kernel
theorem dX3_add_51 : decode cX3_add 51 = .ok (.iconst 1, 1) := by decide +kernel
theorem dX3_add_52 : decode cX3_add 52 = .ok (.iadd, 1) := by decide +kernel
theorem dX3_add_53 : decode cX3_add 53 = .ok (.putfield 22, 3) := by decide +kernel
theorem dX3_add_56 : decode cX3_add 56 = .ok (.return_, 1) := by decide +kernel
theorem dX3_remove_0 : decode cX3_remove 0 = .ok (.aload_n 0, 1) := by decide +kernel
theorem dX3_remove_1 : decode cX3_remove 1 = .ok (.iload_n 1, 1) := by decide +kernel
theorem dX3_remove_2 : decode cX3_remove 2 = .ok (.invokevirtual 26, 3) := by decide +kernel
theorem dX3_remove_5 : decode cX3_remove 5 = .ok (.ifCond .ne 4, 3) := by decide +kernel
theorem dX3_remove_8 : decode cX3_remove 8 = .ok (.return_, 1) := by decide +kernel
theorem dX3_remove_9 : decode cX3_remove 9 = .ok (.iload_n 1, 1) := by decide +kernel
theorem dX3_remove_10 : decode cX3_remove 10 = .ok (.istore_n 2, 1) := by decide +kernel
theorem dX3_remove_11 : decode cX3_remove 11 = .ok (.iload_n 2, 1) := by decide +kernel
theorem dX3_remove_12 : decode cX3_remove 12 = .ok (.iconst 1, 1) := by decide +kernel
theorem dX3_remove_13 : decode cX3_remove 13 = .ok (.iadd, 1) := by decide +kernel
theorem dX3_remove_14 : decode cX3_remove 14 = .ok (.bipush 12, 2) := by decide +kernel
theorem dX3_remove_16 : decode cX3_remove 16 = .ok (.if_icmp .ge 51, 3) := by decide +kernel
theorem dX3_remove_19 : decode cX3_remove 19 = .ok (.aload_n 0, 1) := by decide +kernel
theorem dX3_remove_20 : decode cX3_remove 20 = .ok (.getfield 9, 3) := by decide +kernel
theorem dX3_remove_23 : decode cX3_remove 23 = .ok (.iload_n 2, 1) := by decide +kernel
theorem dX3_remove_24 : decode cX3_remove 24 = .ok (.aload_n 0, 1) := by decide +kernel
theorem dX3_remove_25 : decode cX3_remove 25 = .ok (.getfield 9, 3) := by decide +kernel
theorem dX3_remove_28 : decode cX3_remove 28 = .ok (.iload_n 2, 1) := by decide +kernel
theorem dX3_remove_29 : decode cX3_remove 29 = .ok (.iconst 1, 1) := by decide +kernel
theorem dX3_remove_30 : decode cX3_remove 30 = .ok (.iadd, 1) := by decide +kernel
theorem dX3_remove_31 : decode cX3_remove 31 = .ok (.iaload, 1) := by decide +kernel
theorem dX3_remove_32 : decode cX3_remove 32 = .ok (.iastore, 1) := by decide +kernel
theorem dX3_remove_33 : decode cX3_remove 33 = .ok (.aload_n 0, 1) := by decide +kernel
theorem dX3_remove_34 : decode cX3_remove 34 = .ok (.getfield 15, 3) := by decide +kernel
theorem dX3_remove_37 : decode cX3_remove 37 = .ok (.iload_n 2, 1) := by decide +kernel
theorem dX3_remove_38 : decode cX3_remove 38 = .ok (.aload_n 0, 1) := by decide +kernel
theorem dX3_remove_39 : decode cX3_remove 39 = .ok (.getfield 15, 3) := by decide +kernel
theorem dX3_remove_42 : decode cX3_remove 42 = .ok (.iload_n 2, 1) := by decide +kernel
theorem dX3_remove_43 : decode cX3_remove 43 = .ok (.iconst 1, 1) := by decide +kernel
theorem dX3_remove_44 : decode cX3_remove 44 = .ok (.iadd, 1) := by decide +kernel
theorem dX3_remove_45 : decode cX3_remove 45 = .ok (.iaload, 1) := by decide +kernel
theorem dX3_remove_46 : decode cX3_remove 46 = .ok (.iastore, 1) := by decide +kernel
theorem dX3_remove_47 : decode cX3_remove 47 = .ok (.aload_n 0, 1) := by decide +kernel
theorem dX3_remove_48 : decode cX3_remove 48 = .ok (.getfield 18, 3) := by decide +kernel
theorem dX3_remove_51 : decode cX3_remove 51 = .ok (.iload_n 2, 1) := by decide +kernel
theorem dX3_remove_52 : decode cX3_remove 52 = .ok (.aload_n 0, 1) := by decide +kernel
theorem dX3_remove_53 : decode cX3_remove 53 = .ok (.getfield 18, 3) := by decide +kernel
theorem dX3_remove_56 : decode cX3_remove 56 = .ok (.iload_n 2, 1) := by decide +kernel
theorem dX3_remove_57 : decode cX3_remove 57 = .ok (.iconst 1, 1) := by decide +kernel
theorem dX3_remove_58 : decode cX3_remove 58 = .ok (.iadd, 1) := by decide +kernel
theorem dX3_remove_59 : decode cX3_remove 59 = .ok (.baload, 1) := by decide +kernel
theorem dX3_remove_60 : decode cX3_remove 60 = .ok (.bastore, 1) := by decide +kernel
theorem dX3_remove_61 : decode cX3_remove 61 = .ok (.iinc 2 1, 3) := by decide +kernel
theorem dX3_remove_64 : decode cX3_remove 64 = .ok (.goto (-53), 3) := by decide +kernel
theorem dX3_remove_67 : decode cX3_remove 67 = .ok (.aload_n 0, 1) := by decide +kernel
theorem dX3_remove_68 : decode cX3_remove 68 = .ok (.dup, 1) := by decide +kernel
theorem dX3_remove_69 : decode cX3_remove 69 = .ok (.getfield 22, 3) := by decide +kernel
theorem dX3_remove_72 : decode cX3_remove 72 = .ok (.iconst 1, 1) := by decide +kernel
theorem dX3_remove_73 : decode cX3_remove 73 = .ok (.isub, 1) := by decide +kernel
theorem dX3_remove_74 : decode cX3_remove 74 = .ok (.putfield 22, 3) := by decide +kernel
theorem dX3_remove_77 : decode cX3_remove 77 = .ok (.return_, 1) := by decide +kernel
theorem dX3_has_0 : decode cX3_has 0 = .ok (.iload_n 1, 1) := by decide +kernel
theorem dX3_has_1 : decode cX3_has 1 = .ok (.ifCond .lt 21, 3) := by decide +kernel
theorem dX3_has_4 : decode cX3_has 4 = .ok (.iload_n 1, 1) := by decide +kernel
theorem dX3_has_5 : decode cX3_has 5 = .ok (.aload_n 0, 1) := by decide +kernel
theorem dX3_has_6 : decode cX3_has 6 = .ok (.getfield 22, 3) := by decide +kernel
theorem dX3_has_9 : decode cX3_has 9 = .ok (.if_icmp .ge 13, 3) := by decide +kernel
theorem dX3_has_12 : decode cX3_has 12 = .ok (.iload_n 1, 1) := by decide +kernel
theorem dX3_has_13 : decode cX3_has 13 = .ok (.bipush 12, 2) := by decide +kernel
theorem dX3_has_15 : decode cX3_has 15 = .ok (.if_icmp .ge 7, 3) := by decide +kernel
theorem dX3_has_18 : decode cX3_has 18 = .ok (.iconst 1, 1) := by decide +kernel
theorem dX3_has_19 : decode cX3_has 19 = .ok (.goto 4, 3) := by decide +kernel
theorem dX3_has_22 : decode cX3_has 22 = .ok (.iconst 0, 1) := by decide +kernel
theorem dX3_has_23 : decode cX3_has 23 = .ok (.ireturn, 1) := by decide +kernel
theorem dX3_stepsOf_0 : decode cX3_stepsOf 0 = .ok (.aload_n 0, 1) := by decide +kernel
theorem dX3_stepsOf_1 : decode cX3_stepsOf 1 = .ok (.iload_n 1, 1) := by decide +kernel
theorem dX3_stepsOf_2 : decode cX3_stepsOf 2 = .ok (.invokevirtual 26, 3) := by decide +kernel
theorem dX3_stepsOf_5 : decode cX3_stepsOf 5 = .ok (.ifCond .eq 12, 3) := by decide +kernel
theorem dX3_stepsOf_8 : decode cX3_stepsOf 8 = .ok (.aload_n 0, 1) := by decide +kernel
theorem dX3_stepsOf_9 : decode cX3_stepsOf 9 = .ok (.getfield 9, 3) := by decide +kernel
theorem dX3_stepsOf_12 : decode cX3_stepsOf 12 = .ok (.iload_n 1, 1) := by decide +kernel
theorem dX3_stepsOf_13 : decode cX3_stepsOf 13 = .ok (.iaload, 1) := by decide +kernel
theorem dX3_stepsOf_14 : decode cX3_stepsOf 14 = .ok (.goto 4, 3) := by decide +kernel
theorem dX3_stepsOf_17 : decode cX3_stepsOf 17 = .ok (.iconst 0, 1) := by decide +kernel
theorem dX3_stepsOf_18 : decode cX3_stepsOf 18 = .ok (.ireturn, 1) := by decide +kernel
theorem dX3_slopeOf_0 : decode cX3_slopeOf 0 = .ok (.aload_n 0, 1) := by decide +kernel
theorem dX3_slopeOf_1 : decode cX3_slopeOf 1 = .ok (.iload_n 1, 1) := by decide +kernel
theorem dX3_slopeOf_2 : decode cX3_slopeOf 2 = .ok (.invokevirtual 26, 3) := by decide +kernel
theorem dX3_slopeOf_5 : decode cX3_slopeOf 5 = .ok (.ifCond .eq 12, 3) := by decide +kernel
theorem dX3_slopeOf_8 : decode cX3_slopeOf 8 = .ok (.aload_n 0, 1) := by decide +kernel
theorem dX3_slopeOf_9 : decode cX3_slopeOf 9 = .ok (.getfield 15, 3) := by decide +kernel
theorem dX3_slopeOf_12 : decode cX3_slopeOf 12 = .ok (.iload_n 1, 1) := by decide +kernel
theorem dX3_slopeOf_13 : decode cX3_slopeOf 13 = .ok (.iaload, 1) := by decide +kernel
theorem dX3_slopeOf_14 : decode cX3_slopeOf 14 = .ok (.goto 4, 3) := by decide +kernel
theorem dX3_slopeOf_17 : decode cX3_slopeOf 17 = .ok (.iconst 0, 1) := by decide +kernel
theorem dX3_slopeOf_18 : decode cX3_slopeOf 18 = .ok (.ireturn, 1) := by decide +kernel
theorem dX3_isMuddy_0 : decode cX3_isMuddy 0 = .ok (.aload_n 0, 1) := by decide +kernel
theorem dX3_isMuddy_1 : decode cX3_isMuddy 1 = .ok (.iload_n 1, 1) := by decide +kernel
theorem dX3_isMuddy_2 : decode cX3_isMuddy 2 = .ok (.invokevirtual 26, 3) := by decide +kernel
theorem dX3_isMuddy_5 : decode cX3_isMuddy 5 = .ok (.ifCond .eq 16, 3) := by decide +kernel
theorem dX3_isMuddy_8 : decode cX3_isMuddy 8 = .ok (.aload_n 0, 1) := by decide +kernel
theorem dX3_isMuddy_9 : decode cX3_isMuddy 9 = .ok (.getfield 18, 3) := by decide +kernel
theorem dX3_isMuddy_12 : decode cX3_isMuddy 12 = .ok (.iload_n 1, 1) := by decide +kernel
theorem dX3_isMuddy_13 : decode cX3_isMuddy 13 = .ok (.baload, 1) := by decide +kernel
theorem dX3_isMuddy_14 : decode cX3_isMuddy 14 = .ok (.ifCond .eq 7, 3) := by decide +kernel
theorem dX3_isMuddy_17 : decode cX3_isMuddy 17 = .ok (.iconst 1, 1) := by decide +kernel
theorem dX3_isMuddy_18 : decode cX3_isMuddy 18 = .ok (.goto 4, 3) := by decide +kernel
theorem dX3_isMuddy_21 : decode cX3_isMuddy 21 = .ok (.iconst 0, 1) := by decide +kernel
theorem dX3_isMuddy_22 : decode cX3_isMuddy 22 = .ok (.ireturn, 1) := by decide +kernel
theorem dX3_beatsToSing_0 : decode cX3_beatsToSing 0 = .ok (.aload_n 0, 1) := by decide +kernel
theorem dX3_beatsToSing_1 : decode cX3_beatsToSing 1 = .ok (.iload_n 1, 1) := by decide +kernel
theorem dX3_beatsToSing_2 : decode cX3_beatsToSing 2 = .ok (.invokevirtual 30, 3) := by decide +kernel
theorem dX3_beatsToSing_5 : decode cX3_beatsToSing 5 = .ok (.istore_n 3, 1) := by decide +kernel
theorem dX3_beatsToSing_6 : decode cX3_beatsToSing 6 = .ok (.aload_n 0, 1) := by decide +kernel
theorem dX3_beatsToSing_7 : decode cX3_beatsToSing 7 = .ok (.iload_n 1, 1) := by decide +kernel
theorem dX3_beatsToSing_8 : decode cX3_beatsToSing 8 = .ok (.invokevirtual 34, 3) := by decide +kernel
theorem dX3_beatsToSing_11 : decode cX3_beatsToSing 11 = .ok (.ifCond .eq 8, 3) := by decide +kernel
theorem dX3_beatsToSing_14 : decode cX3_beatsToSing 14 = .ok (.iload_n 2, 1) := by decide +kernel
theorem dX3_beatsToSing_15 : decode cX3_beatsToSing 15 = .ok (.iconst 2, 1) := by decide +kernel
theorem dX3_beatsToSing_16 : decode cX3_beatsToSing 16 = .ok (.if_icmp .ge 5, 3) := by decide +kernel
theorem dX3_beatsToSing_19 : decode cX3_beatsToSing 19 = .ok (.iload_n 3, 1) := by decide +kernel
theorem dX3_beatsToSing_20 : decode cX3_beatsToSing 20 = .ok (.ireturn, 1) := by decide +kernel
theorem dX3_beatsToSing_21 : decode cX3_beatsToSing 21 = .ok (.iload_n 3, 1) := by decide +kernel
theorem dX3_beatsToSing_22 : decode cX3_beatsToSing 22 = .ok (.iload_n 3, 1) := by decide +kernel
theorem dX3_beatsToSing_23 : decode cX3_beatsToSing 23 = .ok (.iconst 1, 1) := by decide +kernel
theorem dX3_beatsToSing_24 : decode cX3_beatsToSing 24 = .ok (.isub, 1) := by decide +kernel
theorem dX3_beatsToSing_25 : decode cX3_beatsToSing 25 = .ok (.iload_n 2, 1) := by decide +kernel
theorem dX3_beatsToSing_26 : decode cX3_beatsToSing 26 = .ok (.iconst 1, 1) := by decide +kernel
theorem dX3_beatsToSing_27 : decode cX3_beatsToSing 27 = .ok (.isub, 1) := by decide +kernel
theorem dX3_beatsToSing_28 : decode cX3_beatsToSing 28 = .ok (.idiv, 1) := by decide +kernel
theorem dX3_beatsToSing_29 : decode cX3_beatsToSing 29 = .ok (.iadd, 1) := by decide +kernel
theorem dX3_beatsToSing_30 : decode cX3_beatsToSing 30 = .ok (.ireturn, 1) := by decide +kernel
theorem dX3_allSteps_0 : decode cX3_allSteps 0 = .ok (.iconst 0, 1) := by decide +kernel
theorem dX3_allSteps_1 : decode cX3_allSteps 1 = .ok (.istore_n 1, 1) := by decide +kernel
theorem dX3_allSteps_2 : decode cX3_allSteps 2 = .ok (.iconst 0, 1) := by decide +kernel
theorem dX3_allSteps_3 : decode cX3_allSteps 3 = .ok (.istore_n 2, 1) := by decide +kernel
theorem dX3_allSteps_4 : decode cX3_allSteps 4 = .ok (.iload_n 2, 1) := by decide +kernel
theorem dX3_allSteps_5 : decode cX3_allSteps 5 = .ok (.bipush 12, 2) := by decide +kernel
theorem dX3_allSteps_7 : decode cX3_allSteps 7 = .ok (.if_icmp .ge 17, 3) := by decide +kernel
theorem dX3_allSteps_10 : decode cX3_allSteps 10 = .ok (.iload_n 1, 1) := by decide +kernel
theorem dX3_allSteps_11 : decode cX3_allSteps 11 = .ok (.aload_n 0, 1) := by decide +kernel
theorem dX3_allSteps_12 : decode cX3_allSteps 12 = .ok (.iload_n 2, 1) := by decide +kernel
theorem dX3_allSteps_13 : decode cX3_allSteps 13 = .ok (.invokevirtual 30, 3) := by decide +kernel
theorem dX3_allSteps_16 : decode cX3_allSteps 16 = .ok (.iadd, 1) := by decide +kernel
theorem dX3_allSteps_17 : decode cX3_allSteps 17 = .ok (.istore_n 1, 1) := by decide +kernel
theorem dX3_allSteps_18 : decode cX3_allSteps 18 = .ok (.iinc 2 1, 3) := by decide +kernel
theorem dX3_allSteps_21 : decode cX3_allSteps 21 = .ok (.goto (-17), 3) := by decide +kernel
theorem dX3_allSteps_24 : decode cX3_allSteps 24 = .ok (.iload_n 1, 1) := by decide +kernel
theorem dX3_allSteps_25 : decode cX3_allSteps 25 = .ok (.ireturn, 1) := by decide +kernel
theorem dX3_copyFrom_0 : decode cX3_copyFrom 0 = .ok (.aload_n 0, 1) := by decide +kernel
theorem dX3_copyFrom_1 : decode cX3_copyFrom 1 = .ok (.aload_n 1, 1) := by decide +kernel
theorem dX3_copyFrom_2 : decode cX3_copyFrom 2 = .ok (.getfield 22, 3) := by decide +kernel
theorem dX3_copyFrom_5 : decode cX3_copyFrom 5 = .ok (.putfield 22, 3) := by decide +kernel
theorem dX3_copyFrom_8 : decode cX3_copyFrom 8 = .ok (.iconst 0, 1) := by decide +kernel
theorem dX3_copyFrom_9 : decode cX3_copyFrom 9 = .ok (.istore_n 2, 1) := by decide +kernel
theorem dX3_copyFrom_10 : decode cX3_copyFrom 10 = .ok (.iload_n 2, 1) := by decide +kernel
theorem dX3_copyFrom_11 : decode cX3_copyFrom 11 = .ok (.bipush 12, 2) := by decide +kernel
theorem dX3_copyFrom_13 : decode cX3_copyFrom 13 = .ok (.if_icmp .ge 45, 3) := by decide +kernel
theorem dX3_copyFrom_16 : decode cX3_copyFrom 16 = .ok (.aload_n 0, 1) := by decide +kernel
theorem dX3_copyFrom_17 : decode cX3_copyFrom 17 = .ok (.getfield 9, 3) := by decide +kernel
theorem dX3_copyFrom_20 : decode cX3_copyFrom 20 = .ok (.iload_n 2, 1) := by decide +kernel
theorem dX3_copyFrom_21 : decode cX3_copyFrom 21 = .ok (.aload_n 1, 1) := by decide +kernel
theorem dX3_copyFrom_22 : decode cX3_copyFrom 22 = .ok (.getfield 9, 3) := by decide +kernel
theorem dX3_copyFrom_25 : decode cX3_copyFrom 25 = .ok (.iload_n 2, 1) := by decide +kernel
theorem dX3_copyFrom_26 : decode cX3_copyFrom 26 = .ok (.iaload, 1) := by decide +kernel
theorem dX3_copyFrom_27 : decode cX3_copyFrom 27 = .ok (.iastore, 1) := by decide +kernel
theorem dX3_copyFrom_28 : decode cX3_copyFrom 28 = .ok (.aload_n 0, 1) := by decide +kernel
theorem dX3_copyFrom_29 : decode cX3_copyFrom 29 = .ok (.getfield 15, 3) := by decide +kernel
theorem dX3_copyFrom_32 : decode cX3_copyFrom 32 = .ok (.iload_n 2, 1) := by decide +kernel
theorem dX3_copyFrom_33 : decode cX3_copyFrom 33 = .ok (.aload_n 1, 1) := by decide +kernel
theorem dX3_copyFrom_34 : decode cX3_copyFrom 34 = .ok (.getfield 15, 3) := by decide +kernel
theorem dX3_copyFrom_37 : decode cX3_copyFrom 37 = .ok (.iload_n 2, 1) := by decide +kernel
theorem dX3_copyFrom_38 : decode cX3_copyFrom 38 = .ok (.iaload, 1) := by decide +kernel
theorem dX3_copyFrom_39 : decode cX3_copyFrom 39 = .ok (.iastore, 1) := by decide +kernel
theorem dX3_copyFrom_40 : decode cX3_copyFrom 40 = .ok (.aload_n 0, 1) := by decide +kernel
theorem dX3_copyFrom_41 : decode cX3_copyFrom 41 = .ok (.getfield 18, 3) := by decide +kernel
theorem dX3_copyFrom_44 : decode cX3_copyFrom 44 = .ok (.iload_n 2, 1) := by decide +kernel
theorem dX3_copyFrom_45 : decode cX3_copyFrom 45 = .ok (.aload_n 1, 1) := by decide +kernel
theorem dX3_copyFrom_46 : decode cX3_copyFrom 46 = .ok (.getfield 18, 3) := by decide +kernel
theorem dX3_copyFrom_49 : decode cX3_copyFrom 49 = .ok (.iload_n 2, 1) := by decide +kernel
theorem dX3_copyFrom_50 : decode cX3_copyFrom 50 = .ok (.baload, 1) := by decide +kernel
theorem dX3_copyFrom_51 : decode cX3_copyFrom 51 = .ok (.bastore, 1) := by decide +kernel
theorem dX3_copyFrom_52 : decode cX3_copyFrom 52 = .ok (.iinc 2 1, 3) := by decide +kernel
theorem dX3_copyFrom_55 : decode cX3_copyFrom 55 = .ok (.goto (-45), 3) := by decide +kernel
theorem dX3_copyFrom_58 : decode cX3_copyFrom 58 = .ok (.return_, 1) := by decide +kernel
theorem dX4_init_0 : decode cX4_init 0 = .ok (.aload_n 0, 1) := by decide +kernel
theorem dX4_init_1 : decode cX4_init 1 = .ok (.invokespecial 3, 3) := by decide +kernel
theorem dX4_init_4 : decode cX4_init 4 = .ok (.aload_n 0, 1) := by decide +kernel
theorem dX4_init_5 : decode cX4_init 5 = .ok (.bipush 6, 2) := by decide +kernel
theorem dX4_init_7 : decode cX4_init 7 = .ok (.newarray .int, 2) := by decide +kernel
theorem dX4_init_9 : decode cX4_init 9 = .ok (.putfield 9, 3) := by decide +kernel
theorem dX4_init_12 : decode cX4_init 12 = .ok (.iconst 0, 1) := by decide +kernel
theorem dX4_init_13 : decode cX4_init 13 = .ok (.istore_n 1, 1) := by decide +kernel
theorem dX4_init_14 : decode cX4_init 14 = .ok (.iload_n 1, 1) := by decide +kernel
theorem dX4_init_15 : decode cX4_init 15 = .ok (.bipush 6, 2) := by decide +kernel
theorem dX4_init_17 : decode cX4_init 17 = .ok (.if_icmp .ge 20, 3) := by decide +kernel
theorem dX4_init_20 : decode cX4_init 20 = .ok (.aload_n 0, 1) := by decide +kernel
theorem dX4_init_21 : decode cX4_init 21 = .ok (.getfield 9, 3) := by decide +kernel
theorem dX4_init_24 : decode cX4_init 24 = .ok (.iload_n 1, 1) := by decide +kernel
theorem dX4_init_25 : decode cX4_init 25 = .ok (.getstatic 15, 3) := by decide +kernel
theorem dX4_init_28 : decode cX4_init 28 = .ok (.iload_n 1, 1) := by decide +kernel
theorem dX4_init_29 : decode cX4_init 29 = .ok (.iaload, 1) := by decide +kernel
theorem dX4_init_30 : decode cX4_init 30 = .ok (.iastore, 1) := by decide +kernel
theorem dX4_init_31 : decode cX4_init 31 = .ok (.iinc 1 1, 3) := by decide +kernel
theorem dX4_init_34 : decode cX4_init 34 = .ok (.goto (-20), 3) := by decide +kernel
theorem dX4_init_37 : decode cX4_init 37 = .ok (.return_, 1) := by decide +kernel
theorem dX4_has_0 : decode cX4_has 0 = .ok (.iload_n 0, 1) := by decide +kernel
theorem dX4_has_1 : decode cX4_has 1 = .ok (.ifCond .lt 13, 3) := by decide +kernel
theorem dX4_has_4 : decode cX4_has 4 = .ok (.iload_n 0, 1) := by decide +kernel
theorem dX4_has_5 : decode cX4_has 5 = .ok (.bipush 6, 2) := by decide +kernel
theorem dX4_has_7 : decode cX4_has 7 = .ok (.if_icmp .ge 7, 3) := by decide +kernel
theorem dX4_has_10 : decode cX4_has 10 = .ok (.iconst 1, 1) := by decide +kernel
theorem dX4_has_11 : decode cX4_has 11 = .ok (.goto 4, 3) := by decide +kernel
theorem dX4_has_14 : decode cX4_has 14 = .ok (.iconst 0, 1) := by decide +kernel
theorem dX4_has_15 : decode cX4_has 15 = .ok (.ireturn, 1) := by decide +kernel
theorem dX4_allows_0 : decode cX4_allows 0 = .ok (.iload_n 0, 1) := by decide +kernel
theorem dX4_allows_1 : decode cX4_allows 1 = .ok (.invokestatic 18, 3) := by decide +kernel
theorem dX4_allows_4 : decode cX4_allows 4 = .ok (.ifCond .eq 25, 3) := by decide +kernel
theorem dX4_allows_7 : decode cX4_allows 7 = .ok (.iload_n 1, 1) := by decide +kernel
theorem dX4_allows_8 : decode cX4_allows 8 = .ok (.getstatic 22, 3) := by decide +kernel
theorem dX4_allows_11 : decode cX4_allows 11 = .ok (.iload_n 0, 1) := by decide +kernel
theorem dX4_allows_12 : decode cX4_allows 12 = .ok (.iaload, 1) := by decide +kernel
theorem dX4_allows_13 : decode cX4_allows 13 = .ok (.if_icmp .lt 16, 3) := by decide +kernel
theorem dX4_allows_16 : decode cX4_allows 16 = .ok (.iload_n 1, 1) := by decide +kernel
theorem dX4_allows_17 : decode cX4_allows 17 = .ok (.getstatic 25, 3) := by decide +kernel
theorem dX4_allows_20 : decode cX4_allows 20 = .ok (.iload_n 0, 1) := by decide +kernel
theorem dX4_allows_21 : decode cX4_allows 21 = .ok (.iaload, 1) := by decide +kernel
theorem dX4_allows_22 : decode cX4_allows 22 = .ok (.if_icmp .gt 7, 3) := by decide +kernel
theorem dX4_allows_25 : decode cX4_allows 25 = .ok (.iconst 1, 1) := by decide +kernel
theorem dX4_allows_26 : decode cX4_allows 26 = .ok (.goto 4, 3) := by decide +kernel
theorem dX4_allows_29 : decode cX4_allows 29 = .ok (.iconst 0, 1) := by decide +kernel
theorem dX4_allows_30 : decode cX4_allows 30 = .ok (.ireturn, 1) := by decide +kernel
theorem dX4_valueOf_0 : decode cX4_valueOf 0 = .ok (.iload_n 1, 1) := by decide +kernel
theorem dX4_valueOf_1 : decode cX4_valueOf 1 = .ok (.invokestatic 18, 3) := by decide +kernel
theorem dX4_valueOf_4 : decode cX4_valueOf 4 = .ok (.ifCond .eq 12, 3) := by decide +kernel
theorem dX4_valueOf_7 : decode cX4_valueOf 7 = .ok (.aload_n 0, 1) := by decide +kernel
theorem dX4_valueOf_8 : decode cX4_valueOf 8 = .ok (.getfield 9, 3) := by decide +kernel
theorem dX4_valueOf_11 : decode cX4_valueOf 11 = .ok (.iload_n 1, 1) := by decide +kernel
theorem dX4_valueOf_12 : decode cX4_valueOf 12 = .ok (.iaload, 1) := by decide +kernel
theorem dX4_valueOf_13 : decode cX4_valueOf 13 = .ok (.goto 4, 3) := by decide +kernel
theorem dX4_valueOf_16 : decode cX4_valueOf 16 = .ok (.iconst 0, 1) := by decide +kernel
theorem dX4_valueOf_17 : decode cX4_valueOf 17 = .ok (.ireturn, 1) := by decide +kernel
theorem dX4_change_0 : decode cX4_change 0 = .ok (.iload_n 1, 1) := by decide +kernel
theorem dX4_change_1 : decode cX4_change 1 = .ok (.invokestatic 18, 3) := by decide +kernel
theorem dX4_change_4 : decode cX4_change 4 = .ok (.ifCond .eq 10, 3) := by decide +kernel
theorem dX4_change_7 : decode cX4_change 7 = .ok (.aload_n 0, 1) := by decide +kernel
theorem dX4_change_8 : decode cX4_change 8 = .ok (.getfield 9, 3) := by decide +kernel
theorem dX4_change_11 : decode cX4_change 11 = .ok (.iload_n 1, 1) := by decide +kernel
theorem dX4_change_12 : decode cX4_change 12 = .ok (.iload_n 2, 1) := by decide +kernel
theorem dX4_change_13 : decode cX4_change 13 = .ok (.iastore, 1) := by decide +kernel
theorem dX4_change_14 : decode cX4_change 14 = .ok (.return_, 1) := by decide +kernel
theorem dX4_copyFrom_0 : decode cX4_copyFrom 0 = .ok (.iconst 0, 1) := by decide +kernel
theorem dX4_copyFrom_1 : decode cX4_copyFrom 1 = .ok (.istore_n 2, 1) := by decide +kernel
theorem dX4_copyFrom_2 : decode cX4_copyFrom 2 = .ok (.iload_n 2, 1) := by decide +kernel
theorem dX4_copyFrom_3 : decode cX4_copyFrom 3 = .ok (.bipush 6, 2) := by decide +kernel
theorem dX4_copyFrom_5 : decode cX4_copyFrom 5 = .ok (.if_icmp .ge 21, 3) := by decide +kernel
theorem dX4_copyFrom_8 : decode cX4_copyFrom 8 = .ok (.aload_n 0, 1) := by decide +kernel
theorem dX4_copyFrom_9 : decode cX4_copyFrom 9 = .ok (.getfield 9, 3) := by decide +kernel
theorem dX4_copyFrom_12 : decode cX4_copyFrom 12 = .ok (.iload_n 2, 1) := by decide +kernel
theorem dX4_copyFrom_13 : decode cX4_copyFrom 13 = .ok (.aload_n 1, 1) := by decide +kernel
theorem dX4_copyFrom_14 : decode cX4_copyFrom 14 = .ok (.getfield 9, 3) := by decide +kernel
theorem dX4_copyFrom_17 : decode cX4_copyFrom 17 = .ok (.iload_n 2, 1) := by decide +kernel
theorem dX4_copyFrom_18 : decode cX4_copyFrom 18 = .ok (.iaload, 1) := by decide +kernel
theorem dX4_copyFrom_19 : decode cX4_copyFrom 19 = .ok (.iastore, 1) := by decide +kernel
theorem dX4_copyFrom_20 : decode cX4_copyFrom 20 = .ok (.iinc 2 1, 3) := by decide +kernel
theorem dX4_copyFrom_23 : decode cX4_copyFrom 23 = .ok (.goto (-21), 3) := by decide +kernel
theorem dX4_copyFrom_26 : decode cX4_copyFrom 26 = .ok (.return_, 1) := by decide +kernel
theorem dX5_init_0 : decode cX5_init 0 = .ok (.aload_n 0, 1) := by decide +kernel
theorem dX5_init_1 : decode cX5_init 1 = .ok (.invokespecial 3, 3) := by decide +kernel
theorem dX5_init_4 : decode cX5_init 4 = .ok (.aload_n 0, 1) := by decide +kernel
theorem dX5_init_5 : decode cX5_init 5 = .ok (.bipush 10, 2) := by decide +kernel
theorem dX5_init_7 : decode cX5_init 7 = .ok (.newarray .int, 2) := by decide +kernel
theorem dX5_init_9 : decode cX5_init 9 = .ok (.putfield 9, 3) := by decide +kernel
theorem dX5_init_12 : decode cX5_init 12 = .ok (.aload_n 0, 1) := by decide +kernel
theorem dX5_init_13 : decode cX5_init 13 = .ok (.bipush 120, 2) := by decide +kernel
theorem dX5_init_15 : decode cX5_init 15 = .ok (.newarray .int, 2) := by decide +kernel
theorem dX5_init_17 : decode cX5_init 17 = .ok (.putfield 15, 3) := by decide +kernel
theorem dX5_init_20 : decode cX5_init 20 = .ok (.aload_n 0, 1) := by decide +kernel
theorem dX5_init_21 : decode cX5_init 21 = .ok (.bipush 120, 2) := by decide +kernel
theorem dX5_init_23 : decode cX5_init 23 = .ok (.newarray .boolean, 2) := by decide +kernel
theorem dX5_init_25 : decode cX5_init 25 = .ok (.putfield 18, 3) := by decide +kernel
theorem dX5_init_28 : decode cX5_init 28 = .ok (.return_, 1) := by decide +kernel
theorem dX5_clear_0 : decode cX5_clear 0 = .ok (.aload_n 0, 1) := by decide +kernel
theorem dX5_clear_1 : decode cX5_clear 1 = .ok (.iconst 0, 1) := by decide +kernel
theorem dX5_clear_2 : decode cX5_clear 2 = .ok (.putfield 22, 3) := by decide +kernel
theorem dX5_clear_5 : decode cX5_clear 5 = .ok (.return_, 1) := by decide +kernel
theorem dX5_addLine_0 : decode cX5_addLine 0 = .ok (.aload_n 0, 1) := by decide +kernel
theorem dX5_addLine_1 : decode cX5_addLine 1 = .ok (.getfield 22, 3) := by decide +kernel
theorem dX5_addLine_4 : decode cX5_addLine 4 = .ok (.ifCond .lt 32, 3) := by decide +kernel
theorem dX5_addLine_7 : decode cX5_addLine 7 = .ok (.aload_n 0, 1) := by decide +kernel
theorem dX5_addLine_8 : decode cX5_addLine 8 = .ok (.getfield 22, 3) := by decide +kernel
theorem dX5_addLine_11 : decode cX5_addLine 11 = .ok (.bipush 10, 2) := by decide +kernel
theorem dX5_addLine_13 : decode cX5_addLine 13 = .ok (.if_icmp .ge 23, 3) := by decide +kernel
theorem dX5_addLine_16 : decode cX5_addLine 16 = .ok (.aload_n 0, 1) := by decide +kernel
theorem dX5_addLine_17 : decode cX5_addLine 17 = .ok (.getfield 9, 3) := by decide +kernel
theorem dX5_addLine_20 : decode cX5_addLine 20 = .ok (.aload_n 0, 1) := by decide +kernel
theorem dX5_addLine_21 : decode cX5_addLine 21 = .ok (.getfield 22, 3) := by decide +kernel
theorem dX5_addLine_24 : decode cX5_addLine 24 = .ok (.iconst 0, 1) := by decide +kernel
theorem dX5_addLine_25 : decode cX5_addLine 25 = .ok (.iastore, 1) := by decide +kernel
theorem dX5_addLine_26 : decode cX5_addLine 26 = .ok (.aload_n 0, 1) := by decide +kernel
theorem dX5_addLine_27 : decode cX5_addLine 27 = .ok (.dup, 1) := by decide +kernel
theorem dX5_addLine_28 : decode cX5_addLine 28 = .ok (.getfield 22, 3) := by decide +kernel
theorem dX5_addLine_31 : decode cX5_addLine 31 = .ok (.iconst 1, 1) := by decide +kernel
theorem dX5_addLine_32 : decode cX5_addLine 32 = .ok (.iadd, 1) := by decide +kernel
theorem dX5_addLine_33 : decode cX5_addLine 33 = .ok (.putfield 22, 3) := by decide +kernel
theorem dX5_addLine_36 : decode cX5_addLine 36 = .ok (.return_, 1) := by decide +kernel
theorem dX5_addFoot_0 : decode cX5_addFoot 0 = .ok (.aload_n 0, 1) := by decide +kernel
theorem dX5_addFoot_1 : decode cX5_addFoot 1 = .ok (.getfield 22, 3) := by decide +kernel
theorem dX5_addFoot_4 : decode cX5_addFoot 4 = .ok (.iconst 1, 1) := by decide +kernel
theorem dX5_addFoot_5 : decode cX5_addFoot 5 = .ok (.isub, 1) := by decide +kernel
theorem dX5_addFoot_6 : decode cX5_addFoot 6 = .ok (.istore_n 2, 1) := by decide +kernel
theorem dX5_addFoot_7 : decode cX5_addFoot 7 = .ok (.aload_n 0, 1) := by decide +kernel
theorem dX5_addFoot_8 : decode cX5_addFoot 8 = .ok (.iload_n 2, 1) := by decide +kernel
theorem dX5_addFoot_9 : decode cX5_addFoot 9 = .ok (.invokevirtual 26, 3) := by decide +kernel
theorem dX5_addFoot_12 : decode cX5_addFoot 12 = .ok (.ifCond .eq 23, 3) := by decide +kernel
theorem dX5_addFoot_15 : decode cX5_addFoot 15 = .ok (.aload_n 0, 1) := by decide +kernel
theorem dX5_addFoot_16 : decode cX5_addFoot 16 = .ok (.getfield 9, 3) := by decide +kernel
theorem dX5_addFoot_19 : decode cX5_addFoot 19 = .ok (.iload_n 2, 1) := by decide +kernel
theorem dX5_addFoot_20 : decode cX5_addFoot 20 = .ok (.iaload, 1) := by decide +kernel
theorem dX5_addFoot_21 : decode cX5_addFoot 21 = .ok (.ifCond .lt 14, 3) := by decide +kernel
theorem dX5_addFoot_24 : decode cX5_addFoot 24 = .ok (.aload_n 0, 1) := by decide +kernel
theorem dX5_addFoot_25 : decode cX5_addFoot 25 = .ok (.getfield 9, 3) := by decide +kernel
theorem dX5_addFoot_28 : decode cX5_addFoot 28 = .ok (.iload_n 2, 1) := by decide +kernel
theorem dX5_addFoot_29 : decode cX5_addFoot 29 = .ok (.iaload, 1) := by decide +kernel
theorem dX5_addFoot_30 : decode cX5_addFoot 30 = .ok (.bipush 12, 2) := by decide +kernel
theorem dX5_addFoot_32 : decode cX5_addFoot 32 = .ok (.if_icmp .lt 4, 3) := by decide +kernel
theorem dX5_addFoot_35 : decode cX5_addFoot 35 = .ok (.return_, 1) := by decide +kernel
theorem dX5_addFoot_36 : decode cX5_addFoot 36 = .ok (.iload_n 2, 1) := by decide +kernel
theorem dX5_addFoot_37 : decode cX5_addFoot 37 = .ok (.bipush 12, 2) := by decide +kernel
theorem dX5_addFoot_39 : decode cX5_addFoot 39 = .ok (.imul, 1) := by decide +kernel
theorem dX5_addFoot_40 : decode cX5_addFoot 40 = .ok (.aload_n 0, 1) := by decide +kernel
theorem dX5_addFoot_41 : decode cX5_addFoot 41 = .ok (.getfield 9, 3) := by decide +kernel
theorem dX5_addFoot_44 : decode cX5_addFoot 44 = .ok (.iload_n 2, 1) := by decide +kernel
theorem dX5_addFoot_45 : decode cX5_addFoot 45 = .ok (.iaload, 1) := by decide +kernel
theorem dX5_addFoot_46 : decode cX5_addFoot 46 = .ok (.iadd, 1) := by decide +kernel
theorem dX5_addFoot_47 : decode cX5_addFoot 47 = .ok (.istore_n 3, 1) := by decide +kernel
theorem dX5_addFoot_48 : decode cX5_addFoot 48 = .ok (.aload_n 0, 1) := by decide +kernel
theorem dX5_addFoot_49 : decode cX5_addFoot 49 = .ok (.getfield 15, 3) := by decide +kernel
theorem dX5_addFoot_52 : decode cX5_addFoot 52 = .ok (.iload_n 3, 1) := by decide +kernel
theorem dX5_addFoot_53 : decode cX5_addFoot 53 = .ok (.iload_n 1, 1) := by decide +kernel
theorem dX5_addFoot_54 : decode cX5_addFoot 54 = .ok (.iastore, 1) := by decide +kernel
theorem dX5_addFoot_55 : decode cX5_addFoot 55 = .ok (.aload_n 0, 1) := by decide +kernel
theorem dX5_addFoot_56 : decode cX5_addFoot 56 = .ok (.getfield 18, 3) := by decide +kernel
theorem dX5_addFoot_59 : decode cX5_addFoot 59 = .ok (.iload_n 3, 1) := by decide +kernel
theorem dX5_addFoot_60 : decode cX5_addFoot 60 = .ok (.iconst 0, 1) := by decide +kernel
theorem dX5_addFoot_61 : decode cX5_addFoot 61 = .ok (.bastore, 1) := by decide +kernel
theorem dX5_addFoot_62 : decode cX5_addFoot 62 = .ok (.aload_n 0, 1) := by decide +kernel
theorem dX5_addFoot_63 : decode cX5_addFoot 63 = .ok (.getfield 9, 3) := by decide +kernel
theorem dX5_addFoot_66 : decode cX5_addFoot 66 = .ok (.iload_n 2, 1) := by decide +kernel
theorem dX5_addFoot_67 : decode cX5_addFoot 67 = .ok (.dup2, 1) := by decide +kernel
theorem dX5_addFoot_68 : decode cX5_addFoot 68 = .ok (.iaload, 1) := by decide +kernel
theorem dX5_addFoot_69 : decode cX5_addFoot 69 = .ok (.iconst 1, 1) := by decide +kernel
theorem dX5_addFoot_70 : decode cX5_addFoot 70 = .ok (.iadd, 1) := by decide +kernel
theorem dX5_addFoot_71 : decode cX5_addFoot 71 = .ok (.iastore, 1) := by decide +kernel
theorem dX5_addFoot_72 : decode cX5_addFoot 72 = .ok (.return_, 1) := by decide +kernel
theorem dX5_markLastFoot_0 : decode cX5_markLastFoot 0 = .ok (.aload_n 0, 1) := by decide +kernel
theorem dX5_markLastFoot_1 : decode cX5_markLastFoot 1 = .ok (.getfield 22, 3) := by decide +kernel
theorem dX5_markLastFoot_4 : decode cX5_markLastFoot 4 = .ok (.iconst 1, 1) := by decide +kernel
theorem dX5_markLastFoot_5 : decode cX5_markLastFoot 5 = .ok (.isub, 1) := by decide +kernel
theorem dX5_markLastFoot_6 : decode cX5_markLastFoot 6 = .ok (.istore_n 1, 1) := by decide +kernel
theorem dX5_markLastFoot_7 : decode cX5_markLastFoot 7 = .ok (.aload_n 0, 1) := by decide +kernel
theorem dX5_markLastFoot_8 : decode cX5_markLastFoot 8 = .ok (.iload_n 1, 1) := by decide +kernel
theorem dX5_markLastFoot_9 : decode cX5_markLastFoot 9 = .ok (.invokevirtual 30, 3) := by decide +kernel
theorem dX5_markLastFoot_12 : decode cX5_markLastFoot 12 = .ok (.iconst 1, 1) := by decide +kernel
theorem dX5_markLastFoot_13 : decode cX5_markLastFoot 13 = .ok (.isub, 1) := by decide +kernel
theorem dX5_markLastFoot_14 : decode cX5_markLastFoot 14 = .ok (.istore_n 2, 1) := by decide +kernel
theorem dX5_markLastFoot_15 : decode cX5_markLastFoot 15 = .ok (.aload_n 0, 1) := by decide +kernel
theorem dX5_markLastFoot_16 : decode cX5_markLastFoot 16 = .ok (.iload_n 1, 1) := by decide +kernel
theorem dX5_markLastFoot_17 : decode cX5_markLastFoot 17 = .ok (.iload_n 2, 1) := by decide +kernel
theorem dX5_markLastFoot_18 : decode cX5_markLastFoot 18 = .ok (.invokevirtual 34, 3) := by decide +kernel
theorem dX5_markLastFoot_21 : decode cX5_markLastFoot 21 = .ok (.ifCond .eq 15, 3) := by decide +kernel
theorem dX5_markLastFoot_24 : decode cX5_markLastFoot 24 = .ok (.aload_n 0, 1) := by decide +kernel
theorem dX5_markLastFoot_25 : decode cX5_markLastFoot 25 = .ok (.getfield 18, 3) := by decide +kernel
theorem dX5_markLastFoot_28 : decode cX5_markLastFoot 28 = .ok (.iload_n 1, 1) := by decide +kernel
theorem dX5_markLastFoot_29 : decode cX5_markLastFoot 29 = .ok (.bipush 12, 2) := by decide +kernel
theorem dX5_markLastFoot_31 : decode cX5_markLastFoot 31 = .ok (.imul, 1) := by decide +kernel
theorem dX5_markLastFoot_32 : decode cX5_markLastFoot 32 = .ok (.iload_n 2, 1) := by decide +kernel
theorem dX5_markLastFoot_33 : decode cX5_markLastFoot 33 = .ok (.iadd, 1) := by decide +kernel
theorem dX5_markLastFoot_34 : decode cX5_markLastFoot 34 = .ok (.iconst 1, 1) := by decide +kernel
theorem dX5_markLastFoot_35 : decode cX5_markLastFoot 35 = .ok (.bastore, 1) := by decide +kernel
theorem dX5_markLastFoot_36 : decode cX5_markLastFoot 36 = .ok (.return_, 1) := by decide +kernel
theorem dX5_hasLine_0 : decode cX5_hasLine 0 = .ok (.iload_n 1, 1) := by decide +kernel
theorem dX5_hasLine_1 : decode cX5_hasLine 1 = .ok (.ifCond .lt 21, 3) := by decide +kernel
theorem dX5_hasLine_4 : decode cX5_hasLine 4 = .ok (.iload_n 1, 1) := by decide +kernel
theorem dX5_hasLine_5 : decode cX5_hasLine 5 = .ok (.aload_n 0, 1) := by decide +kernel
theorem dX5_hasLine_6 : decode cX5_hasLine 6 = .ok (.getfield 22, 3) := by decide +kernel
theorem dX5_hasLine_9 : decode cX5_hasLine 9 = .ok (.if_icmp .ge 13, 3) := by decide +kernel
theorem dX5_hasLine_12 : decode cX5_hasLine 12 = .ok (.iload_n 1, 1) := by decide +kernel
theorem dX5_hasLine_13 : decode cX5_hasLine 13 = .ok (.bipush 10, 2) := by decide +kernel
theorem dX5_hasLine_15 : decode cX5_hasLine 15 = .ok (.if_icmp .ge 7, 3) := by decide +kernel
theorem dX5_hasLine_18 : decode cX5_hasLine 18 = .ok (.iconst 1, 1) := by decide +kernel
theorem dX5_hasLine_19 : decode cX5_hasLine 19 = .ok (.goto 4, 3) := by decide +kernel
theorem dX5_hasLine_22 : decode cX5_hasLine 22 = .ok (.iconst 0, 1) := by decide +kernel
theorem dX5_hasLine_23 : decode cX5_hasLine 23 = .ok (.ireturn, 1) := by decide +kernel
theorem dX5_hasFoot_0 : decode cX5_hasFoot 0 = .ok (.aload_n 0, 1) := by decide +kernel
theorem dX5_hasFoot_1 : decode cX5_hasFoot 1 = .ok (.iload_n 1, 1) := by decide +kernel
theorem dX5_hasFoot_2 : decode cX5_hasFoot 2 = .ok (.invokevirtual 26, 3) := by decide +kernel
theorem dX5_hasFoot_5 : decode cX5_hasFoot 5 = .ok (.ifCond .eq 27, 3) := by decide +kernel
theorem dX5_hasFoot_8 : decode cX5_hasFoot 8 = .ok (.iload_n 2, 1) := by decide +kernel
theorem dX5_hasFoot_9 : decode cX5_hasFoot 9 = .ok (.ifCond .lt 23, 3) := by decide +kernel
theorem dX5_hasFoot_12 : decode cX5_hasFoot 12 = .ok (.iload_n 2, 1) := by decide +kernel
theorem dX5_hasFoot_13 : decode cX5_hasFoot 13 = .ok (.aload_n 0, 1) := by decide +kernel
theorem dX5_hasFoot_14 : decode cX5_hasFoot 14 = .ok (.getfield 9, 3) := by decide +kernel
theorem dX5_hasFoot_17 : decode cX5_hasFoot 17 = .ok (.iload_n 1, 1) := by decide +kernel
theorem dX5_hasFoot_18 : decode cX5_hasFoot 18 = .ok (.iaload, 1) := by decide +kernel
theorem dX5_hasFoot_19 : decode cX5_hasFoot 19 = .ok (.if_icmp .ge 13, 3) := by decide +kernel
theorem dX5_hasFoot_22 : decode cX5_hasFoot 22 = .ok (.iload_n 2, 1) := by decide +kernel
theorem dX5_hasFoot_23 : decode cX5_hasFoot 23 = .ok (.bipush 12, 2) := by decide +kernel
theorem dX5_hasFoot_25 : decode cX5_hasFoot 25 = .ok (.if_icmp .ge 7, 3) := by decide +kernel
theorem dX5_hasFoot_28 : decode cX5_hasFoot 28 = .ok (.iconst 1, 1) := by decide +kernel
theorem dX5_hasFoot_29 : decode cX5_hasFoot 29 = .ok (.goto 4, 3) := by decide +kernel
theorem dX5_hasFoot_32 : decode cX5_hasFoot 32 = .ok (.iconst 0, 1) := by decide +kernel
theorem dX5_hasFoot_33 : decode cX5_hasFoot 33 = .ok (.ireturn, 1) := by decide +kernel
theorem dX5_feetOf_0 : decode cX5_feetOf 0 = .ok (.aload_n 0, 1) := by decide +kernel
theorem dX5_feetOf_1 : decode cX5_feetOf 1 = .ok (.iload_n 1, 1) := by decide +kernel
theorem dX5_feetOf_2 : decode cX5_feetOf 2 = .ok (.invokevirtual 26, 3) := by decide +kernel
theorem dX5_feetOf_5 : decode cX5_feetOf 5 = .ok (.ifCond .eq 12, 3) := by decide +kernel
theorem dX5_feetOf_8 : decode cX5_feetOf 8 = .ok (.aload_n 0, 1) := by decide +kernel
theorem dX5_feetOf_9 : decode cX5_feetOf 9 = .ok (.getfield 9, 3) := by decide +kernel
theorem dX5_feetOf_12 : decode cX5_feetOf 12 = .ok (.iload_n 1, 1) := by decide +kernel
theorem dX5_feetOf_13 : decode cX5_feetOf 13 = .ok (.iaload, 1) := by decide +kernel
theorem dX5_feetOf_14 : decode cX5_feetOf 14 = .ok (.goto 4, 3) := by decide +kernel
theorem dX5_feetOf_17 : decode cX5_feetOf 17 = .ok (.iconst 0, 1) := by decide +kernel
theorem dX5_feetOf_18 : decode cX5_feetOf 18 = .ok (.ireturn, 1) := by decide +kernel
theorem dX5_beatsOf_0 : decode cX5_beatsOf 0 = .ok (.aload_n 0, 1) := by decide +kernel
theorem dX5_beatsOf_1 : decode cX5_beatsOf 1 = .ok (.iload_n 1, 1) := by decide +kernel
theorem dX5_beatsOf_2 : decode cX5_beatsOf 2 = .ok (.iload_n 2, 1) := by decide +kernel
theorem dX5_beatsOf_3 : decode cX5_beatsOf 3 = .ok (.invokevirtual 34, 3) := by decide +kernel
theorem dX5_beatsOf_6 : decode cX5_beatsOf 6 = .ok (.ifCond .eq 17, 3) := by decide +kernel
theorem dX5_beatsOf_9 : decode cX5_beatsOf 9 = .ok (.aload_n 0, 1) := by decide +kernel
theorem dX5_beatsOf_10 : decode cX5_beatsOf 10 = .ok (.getfield 15, 3) := by decide +kernel
theorem dX5_beatsOf_13 : decode cX5_beatsOf 13 = .ok (.iload_n 1, 1) := by decide +kernel
theorem dX5_beatsOf_14 : decode cX5_beatsOf 14 = .ok (.bipush 12, 2) := by decide +kernel
theorem dX5_beatsOf_16 : decode cX5_beatsOf 16 = .ok (.imul, 1) := by decide +kernel
theorem dX5_beatsOf_17 : decode cX5_beatsOf 17 = .ok (.iload_n 2, 1) := by decide +kernel
theorem dX5_beatsOf_18 : decode cX5_beatsOf 18 = .ok (.iadd, 1) := by decide +kernel
theorem dX5_beatsOf_19 : decode cX5_beatsOf 19 = .ok (.iaload, 1) := by decide +kernel
theorem dX5_beatsOf_20 : decode cX5_beatsOf 20 = .ok (.goto 4, 3) := by decide +kernel
theorem dX5_beatsOf_23 : decode cX5_beatsOf 23 = .ok (.iconst 0, 1) := by decide +kernel
theorem dX5_beatsOf_24 : decode cX5_beatsOf 24 = .ok (.ireturn, 1) := by decide +kernel
theorem dX5_isMarked_0 : decode cX5_isMarked 0 = .ok (.aload_n 0, 1) := by decide +kernel
theorem dX5_isMarked_1 : decode cX5_isMarked 1 = .ok (.iload_n 1, 1) := by decide +kernel
theorem dX5_isMarked_2 : decode cX5_isMarked 2 = .ok (.iload_n 2, 1) := by decide +kernel
theorem dX5_isMarked_3 : decode cX5_isMarked 3 = .ok (.invokevirtual 34, 3) := by decide +kernel
theorem dX5_isMarked_6 : decode cX5_isMarked 6 = .ok (.ifCond .eq 21, 3) := by decide +kernel
theorem dX5_isMarked_9 : decode cX5_isMarked 9 = .ok (.aload_n 0, 1) := by decide +kernel
theorem dX5_isMarked_10 : decode cX5_isMarked 10 = .ok (.getfield 18, 3) := by decide +kernel
theorem dX5_isMarked_13 : decode cX5_isMarked 13 = .ok (.iload_n 1, 1) := by decide +kernel
theorem dX5_isMarked_14 : decode cX5_isMarked 14 = .ok (.bipush 12, 2) := by decide +kernel
theorem dX5_isMarked_16 : decode cX5_isMarked 16 = .ok (.imul, 1) := by decide +kernel
theorem dX5_isMarked_17 : decode cX5_isMarked 17 = .ok (.iload_n 2, 1) := by decide +kernel
theorem dX5_isMarked_18 : decode cX5_isMarked 18 = .ok (.iadd, 1) := by decide +kernel
theorem dX5_isMarked_19 : decode cX5_isMarked 19 = .ok (.baload, 1) := by decide +kernel
theorem dX5_isMarked_20 : decode cX5_isMarked 20 = .ok (.ifCond .eq 7, 3) := by decide +kernel
theorem dX5_isMarked_23 : decode cX5_isMarked 23 = .ok (.iconst 1, 1) := by decide +kernel
theorem dX5_isMarked_24 : decode cX5_isMarked 24 = .ok (.goto 4, 3) := by decide +kernel
theorem dX5_isMarked_27 : decode cX5_isMarked 27 = .ok (.iconst 0, 1) := by decide +kernel
theorem dX5_isMarked_28 : decode cX5_isMarked 28 = .ok (.ireturn, 1) := by decide +kernel
theorem dX5_beatsOfLine_0 : decode cX5_beatsOfLine 0 = .ok (.iconst 0, 1) := by decide +kernel
theorem dX5_beatsOfLine_1 : decode cX5_beatsOfLine 1 = .ok (.istore_n 2, 1) := by decide +kernel
theorem dX5_beatsOfLine_2 : decode cX5_beatsOfLine 2 = .ok (.iconst 0, 1) := by decide +kernel
theorem dX5_beatsOfLine_3 : decode cX5_beatsOfLine 3 = .ok (.istore_n 3, 1) := by decide +kernel
theorem dX5_beatsOfLine_4 : decode cX5_beatsOfLine 4 = .ok (.iload_n 3, 1) := by decide +kernel
theorem dX5_beatsOfLine_5 : decode cX5_beatsOfLine 5 = .ok (.bipush 12, 2) := by decide +kernel
theorem dX5_beatsOfLine_7 : decode cX5_beatsOfLine 7 = .ok (.if_icmp .ge 18, 3) := by decide +kernel
theorem dX5_beatsOfLine_10 : decode cX5_beatsOfLine 10 = .ok (.iload_n 2, 1) := by decide +kernel
theorem dX5_beatsOfLine_11 : decode cX5_beatsOfLine 11 = .ok (.aload_n 0, 1) := by decide +kernel
theorem dX5_beatsOfLine_12 : decode cX5_beatsOfLine 12 = .ok (.iload_n 1, 1) := by decide +kernel
theorem dX5_beatsOfLine_13 : decode cX5_beatsOfLine 13 = .ok (.iload_n 3, 1) := by decide +kernel
theorem dX5_beatsOfLine_14 : decode cX5_beatsOfLine 14 = .ok (.invokevirtual 38, 3) := by decide +kernel
theorem dX5_beatsOfLine_17 : decode cX5_beatsOfLine 17 = .ok (.iadd, 1) := by decide +kernel
theorem dX5_beatsOfLine_18 : decode cX5_beatsOfLine 18 = .ok (.istore_n 2, 1) := by decide +kernel
theorem dX5_beatsOfLine_19 : decode cX5_beatsOfLine 19 = .ok (.iinc 3 1, 3) := by decide +kernel
theorem dX5_beatsOfLine_22 : decode cX5_beatsOfLine 22 = .ok (.goto (-18), 3) := by decide +kernel
theorem dX5_beatsOfLine_25 : decode cX5_beatsOfLine 25 = .ok (.iload_n 2, 1) := by decide +kernel
theorem dX5_beatsOfLine_26 : decode cX5_beatsOfLine 26 = .ok (.ireturn, 1) := by decide +kernel
theorem dX5_marksOfLine_0 : decode cX5_marksOfLine 0 = .ok (.iconst 0, 1) := by decide +kernel
theorem dX5_marksOfLine_1 : decode cX5_marksOfLine 1 = .ok (.istore_n 2, 1) := by decide +kernel
theorem dX5_marksOfLine_2 : decode cX5_marksOfLine 2 = .ok (.iconst 0, 1) := by decide +kernel
theorem dX5_marksOfLine_3 : decode cX5_marksOfLine 3 = .ok (.istore_n 3, 1) := by decide +kernel
theorem dX5_marksOfLine_4 : decode cX5_marksOfLine 4 = .ok (.iload_n 3, 1) := by decide +kernel
theorem dX5_marksOfLine_5 : decode cX5_marksOfLine 5 = .ok (.bipush 12, 2) := by decide +kernel
theorem dX5_marksOfLine_7 : decode cX5_marksOfLine 7 = .ok (.if_icmp .ge 26, 3) := by decide +kernel
theorem dX5_marksOfLine_10 : decode cX5_marksOfLine 10 = .ok (.iload_n 2, 1) := by decide +kernel
theorem dX5_marksOfLine_11 : decode cX5_marksOfLine 11 = .ok (.aload_n 0, 1) := by decide +kernel
theorem dX5_marksOfLine_12 : decode cX5_marksOfLine 12 = .ok (.iload_n 1, 1) := by decide +kernel
theorem dX5_marksOfLine_13 : decode cX5_marksOfLine 13 = .ok (.iload_n 3, 1) := by decide +kernel
theorem dX5_marksOfLine_14 : decode cX5_marksOfLine 14 = .ok (.invokevirtual 42, 3) := by decide +kernel
theorem dX5_marksOfLine_17 : decode cX5_marksOfLine 17 = .ok (.ifCond .eq 7, 3) := by decide +kernel
theorem dX5_marksOfLine_20 : decode cX5_marksOfLine 20 = .ok (.iconst 1, 1) := by decide +kernel
theorem dX5_marksOfLine_21 : decode cX5_marksOfLine 21 = .ok (.goto 4, 3) := by decide +kernel
theorem dX5_marksOfLine_24 : decode cX5_marksOfLine 24 = .ok (.iconst 0, 1) := by decide +kernel
theorem dX5_marksOfLine_25 : decode cX5_marksOfLine 25 = .ok (.iadd, 1) := by decide +kernel
theorem dX5_marksOfLine_26 : decode cX5_marksOfLine 26 = .ok (.istore_n 2, 1) := by decide +kernel
theorem dX5_marksOfLine_27 : decode cX5_marksOfLine 27 = .ok (.iinc 3 1, 3) := by decide +kernel
theorem dX5_marksOfLine_30 : decode cX5_marksOfLine 30 = .ok (.goto (-26), 3) := by decide +kernel
theorem dX5_marksOfLine_33 : decode cX5_marksOfLine 33 = .ok (.iload_n 2, 1) := by decide +kernel
theorem dX5_marksOfLine_34 : decode cX5_marksOfLine 34 = .ok (.ireturn, 1) := by decide +kernel
theorem dX5_allBeats_0 : decode cX5_allBeats 0 = .ok (.iconst 0, 1) := by decide +kernel
theorem dX5_allBeats_1 : decode cX5_allBeats 1 = .ok (.istore_n 1, 1) := by decide +kernel
theorem dX5_allBeats_2 : decode cX5_allBeats 2 = .ok (.iconst 0, 1) := by decide +kernel
theorem dX5_allBeats_3 : decode cX5_allBeats 3 = .ok (.istore_n 2, 1) := by decide +kernel
theorem dX5_allBeats_4 : decode cX5_allBeats 4 = .ok (.iload_n 2, 1) := by decide +kernel
theorem dX5_allBeats_5 : decode cX5_allBeats 5 = .ok (.bipush 10, 2) := by decide +kernel
theorem dX5_allBeats_7 : decode cX5_allBeats 7 = .ok (.if_icmp .ge 17, 3) := by decide +kernel
theorem dX5_allBeats_10 : decode cX5_allBeats 10 = .ok (.iload_n 1, 1) := by decide +kernel
theorem dX5_allBeats_11 : decode cX5_allBeats 11 = .ok (.aload_n 0, 1) := by decide +kernel
theorem dX5_allBeats_12 : decode cX5_allBeats 12 = .ok (.iload_n 2, 1) := by decide +kernel
theorem dX5_allBeats_13 : decode cX5_allBeats 13 = .ok (.invokevirtual 45, 3) := by decide +kernel
theorem dX5_allBeats_16 : decode cX5_allBeats 16 = .ok (.iadd, 1) := by decide +kernel
theorem dX5_allBeats_17 : decode cX5_allBeats 17 = .ok (.istore_n 1, 1) := by decide +kernel
theorem dX5_allBeats_18 : decode cX5_allBeats 18 = .ok (.iinc 2 1, 3) := by decide +kernel
theorem dX5_allBeats_21 : decode cX5_allBeats 21 = .ok (.goto (-17), 3) := by decide +kernel
theorem dX5_allBeats_24 : decode cX5_allBeats 24 = .ok (.iload_n 1, 1) := by decide +kernel
theorem dX5_allBeats_25 : decode cX5_allBeats 25 = .ok (.ireturn, 1) := by decide +kernel
theorem dX5_allMarks_0 : decode cX5_allMarks 0 = .ok (.iconst 0, 1) := by decide +kernel
theorem dX5_allMarks_1 : decode cX5_allMarks 1 = .ok (.istore_n 1, 1) := by decide +kernel
theorem dX5_allMarks_2 : decode cX5_allMarks 2 = .ok (.iconst 0, 1) := by decide +kernel
theorem dX5_allMarks_3 : decode cX5_allMarks 3 = .ok (.istore_n 2, 1) := by decide +kernel
theorem dX5_allMarks_4 : decode cX5_allMarks 4 = .ok (.iload_n 2, 1) := by decide +kernel
theorem dX5_allMarks_5 : decode cX5_allMarks 5 = .ok (.bipush 10, 2) := by decide +kernel
theorem dX5_allMarks_7 : decode cX5_allMarks 7 = .ok (.if_icmp .ge 17, 3) := by decide +kernel
theorem dX5_allMarks_10 : decode cX5_allMarks 10 = .ok (.iload_n 1, 1) := by decide +kernel
theorem dX5_allMarks_11 : decode cX5_allMarks 11 = .ok (.aload_n 0, 1) := by decide +kernel
theorem dX5_allMarks_12 : decode cX5_allMarks 12 = .ok (.iload_n 2, 1) := by decide +kernel
theorem dX5_allMarks_13 : decode cX5_allMarks 13 = .ok (.invokevirtual 48, 3) := by decide +kernel
theorem dX5_allMarks_16 : decode cX5_allMarks 16 = .ok (.iadd, 1) := by decide +kernel
theorem dX5_allMarks_17 : decode cX5_allMarks 17 = .ok (.istore_n 1, 1) := by decide +kernel
theorem dX5_allMarks_18 : decode cX5_allMarks 18 = .ok (.iinc 2 1, 3) := by decide +kernel
theorem dX5_allMarks_21 : decode cX5_allMarks 21 = .ok (.goto (-17), 3) := by decide +kernel
theorem dX5_allMarks_24 : decode cX5_allMarks 24 = .ok (.iload_n 1, 1) := by decide +kernel
theorem dX5_allMarks_25 : decode cX5_allMarks 25 = .ok (.ireturn, 1) := by decide +kernel
theorem dX5_copyFrom_0 : decode cX5_copyFrom 0 = .ok (.aload_n 0, 1) := by decide +kernel
theorem dX5_copyFrom_1 : decode cX5_copyFrom 1 = .ok (.aload_n 1, 1) := by decide +kernel
theorem dX5_copyFrom_2 : decode cX5_copyFrom 2 = .ok (.getfield 22, 3) := by decide +kernel
theorem dX5_copyFrom_5 : decode cX5_copyFrom 5 = .ok (.putfield 22, 3) := by decide +kernel
theorem dX5_copyFrom_8 : decode cX5_copyFrom 8 = .ok (.iconst 0, 1) := by decide +kernel
theorem dX5_copyFrom_9 : decode cX5_copyFrom 9 = .ok (.istore_n 2, 1) := by decide +kernel
theorem dX5_copyFrom_10 : decode cX5_copyFrom 10 = .ok (.iload_n 2, 1) := by decide +kernel
theorem dX5_copyFrom_11 : decode cX5_copyFrom 11 = .ok (.bipush 10, 2) := by decide +kernel
theorem dX5_copyFrom_13 : decode cX5_copyFrom 13 = .ok (.if_icmp .ge 21, 3) := by decide +kernel
theorem dX5_copyFrom_16 : decode cX5_copyFrom 16 = .ok (.aload_n 0, 1) := by decide +kernel
theorem dX5_copyFrom_17 : decode cX5_copyFrom 17 = .ok (.getfield 9, 3) := by decide +kernel
theorem dX5_copyFrom_20 : decode cX5_copyFrom 20 = .ok (.iload_n 2, 1) := by decide +kernel
theorem dX5_copyFrom_21 : decode cX5_copyFrom 21 = .ok (.aload_n 1, 1) := by decide +kernel
theorem dX5_copyFrom_22 : decode cX5_copyFrom 22 = .ok (.getfield 9, 3) := by decide +kernel
theorem dX5_copyFrom_25 : decode cX5_copyFrom 25 = .ok (.iload_n 2, 1) := by decide +kernel
theorem dX5_copyFrom_26 : decode cX5_copyFrom 26 = .ok (.iaload, 1) := by decide +kernel
theorem dX5_copyFrom_27 : decode cX5_copyFrom 27 = .ok (.iastore, 1) := by decide +kernel
theorem dX5_copyFrom_28 : decode cX5_copyFrom 28 = .ok (.iinc 2 1, 3) := by decide +kernel
theorem dX5_copyFrom_31 : decode cX5_copyFrom 31 = .ok (.goto (-21), 3) := by decide +kernel
theorem dX5_copyFrom_34 : decode cX5_copyFrom 34 = .ok (.iconst 0, 1) := by decide +kernel
theorem dX5_copyFrom_35 : decode cX5_copyFrom 35 = .ok (.istore_n 2, 1) := by decide +kernel
theorem dX5_copyFrom_36 : decode cX5_copyFrom 36 = .ok (.iload_n 2, 1) := by decide +kernel
theorem dX5_copyFrom_37 : decode cX5_copyFrom 37 = .ok (.bipush 120, 2) := by decide +kernel
theorem dX5_copyFrom_39 : decode cX5_copyFrom 39 = .ok (.if_icmp .ge 33, 3) := by decide +kernel
theorem dX5_copyFrom_42 : decode cX5_copyFrom 42 = .ok (.aload_n 0, 1) := by decide +kernel
theorem dX5_copyFrom_43 : decode cX5_copyFrom 43 = .ok (.getfield 15, 3) := by decide +kernel
theorem dX5_copyFrom_46 : decode cX5_copyFrom 46 = .ok (.iload_n 2, 1) := by decide +kernel
theorem dX5_copyFrom_47 : decode cX5_copyFrom 47 = .ok (.aload_n 1, 1) := by decide +kernel
theorem dX5_copyFrom_48 : decode cX5_copyFrom 48 = .ok (.getfield 15, 3) := by decide +kernel
theorem dX5_copyFrom_51 : decode cX5_copyFrom 51 = .ok (.iload_n 2, 1) := by decide +kernel
theorem dX5_copyFrom_52 : decode cX5_copyFrom 52 = .ok (.iaload, 1) := by decide +kernel
theorem dX5_copyFrom_53 : decode cX5_copyFrom 53 = .ok (.iastore, 1) := by decide +kernel
theorem dX5_copyFrom_54 : decode cX5_copyFrom 54 = .ok (.aload_n 0, 1) := by decide +kernel
theorem dX5_copyFrom_55 : decode cX5_copyFrom 55 = .ok (.getfield 18, 3) := by decide +kernel
theorem dX5_copyFrom_58 : decode cX5_copyFrom 58 = .ok (.iload_n 2, 1) := by decide +kernel
theorem dX5_copyFrom_59 : decode cX5_copyFrom 59 = .ok (.aload_n 1, 1) := by decide +kernel
theorem dX5_copyFrom_60 : decode cX5_copyFrom 60 = .ok (.getfield 18, 3) := by decide +kernel
theorem dX5_copyFrom_63 : decode cX5_copyFrom 63 = .ok (.iload_n 2, 1) := by decide +kernel
theorem dX5_copyFrom_64 : decode cX5_copyFrom 64 = .ok (.baload, 1) := by decide +kernel
theorem dX5_copyFrom_65 : decode cX5_copyFrom 65 = .ok (.bastore, 1) := by decide +kernel
theorem dX5_copyFrom_66 : decode cX5_copyFrom 66 = .ok (.iinc 2 1, 3) := by decide +kernel
theorem dX5_copyFrom_69 : decode cX5_copyFrom 69 = .ok (.goto (-33), 3) := by decide +kernel
theorem dX5_copyFrom_72 : decode cX5_copyFrom 72 = .ok (.return_, 1) := by decide +kernel
theorem dX6_init_0 : decode cX6_init 0 = .ok (.aload_n 0, 1) := by decide +kernel
theorem dX6_init_1 : decode cX6_init 1 = .ok (.invokespecial 3, 3) := by decide +kernel
theorem dX6_init_4 : decode cX6_init 4 = .ok (.aload_n 0, 1) := by decide +kernel
theorem dX6_init_5 : decode cX6_init 5 = .ok (.new 9, 3) := by decide +kernel
theorem dX6_init_8 : decode cX6_init 8 = .ok (.dup, 1) := by decide +kernel
theorem dX6_init_9 : decode cX6_init 9 = .ok (.invokespecial 11, 3) := by decide +kernel
theorem dX6_init_12 : decode cX6_init 12 = .ok (.putfield 12, 3) := by decide +kernel
theorem dX6_init_15 : decode cX6_init 15 = .ok (.aload_n 0, 1) := by decide +kernel
theorem dX6_init_16 : decode cX6_init 16 = .ok (.new 18, 3) := by decide +kernel
theorem dX6_init_19 : decode cX6_init 19 = .ok (.dup, 1) := by decide +kernel
theorem dX6_init_20 : decode cX6_init 20 = .ok (.invokespecial 20, 3) := by decide +kernel
theorem dX6_init_23 : decode cX6_init 23 = .ok (.putfield 21, 3) := by decide +kernel
theorem dX6_init_26 : decode cX6_init 26 = .ok (.aload_n 0, 1) := by decide +kernel
theorem dX6_init_27 : decode cX6_init 27 = .ok (.new 25, 3) := by decide +kernel
theorem dX6_init_30 : decode cX6_init 30 = .ok (.dup, 1) := by decide +kernel
theorem dX6_init_31 : decode cX6_init 31 = .ok (.invokespecial 27, 3) := by decide +kernel
theorem dX6_init_34 : decode cX6_init 34 = .ok (.putfield 28, 3) := by decide +kernel
theorem dX6_init_37 : decode cX6_init 37 = .ok (.aload_n 0, 1) := by decide +kernel
theorem dX6_init_38 : decode cX6_init 38 = .ok (.new 32, 3) := by decide +kernel
theorem dX6_init_41 : decode cX6_init 41 = .ok (.dup, 1) := by decide +kernel
theorem dX6_init_42 : decode cX6_init 42 = .ok (.invokespecial 34, 3) := by decide +kernel
theorem dX6_init_45 : decode cX6_init 45 = .ok (.putfield 35, 3) := by decide +kernel
theorem dX6_init_48 : decode cX6_init 48 = .ok (.return_, 1) := by decide +kernel
theorem dX6_startMarch_0 : decode cX6_startMarch 0 = .ok (.aload_n 0, 1) := by decide +kernel
theorem dX6_startMarch_1 : decode cX6_startMarch 1 = .ok (.getfield 35, 3) := by decide +kernel
theorem dX6_startMarch_4 : decode cX6_startMarch 4 = .ok (.aload_n 0, 1) := by decide +kernel
theorem dX6_startMarch_5 : decode cX6_startMarch 5 = .ok (.getfield 12, 3) := by decide +kernel
theorem dX6_startMarch_8 : decode cX6_startMarch 8 = .ok (.iconst 4, 1) := by decide +kernel
theorem dX6_startMarch_9 : decode cX6_startMarch 9 = .ok (.invokevirtual 39, 3) := by decide +kernel
theorem dX6_startMarch_12 : decode cX6_startMarch 12 = .ok (.invokevirtual 43, 3) := by decide +kernel
theorem dX6_startMarch_15 : decode cX6_startMarch 15 = .ok (.return_, 1) := by decide +kernel
theorem dX6_copyFrom_0 : decode cX6_copyFrom 0 = .ok (.aload_n 0, 1) := by decide +kernel
theorem dX6_copyFrom_1 : decode cX6_copyFrom 1 = .ok (.getfield 12, 3) := by decide +kernel
theorem dX6_copyFrom_4 : decode cX6_copyFrom 4 = .ok (.aload_n 1, 1) := by decide +kernel
theorem dX6_copyFrom_5 : decode cX6_copyFrom 5 = .ok (.getfield 12, 3) := by decide +kernel
theorem dX6_copyFrom_8 : decode cX6_copyFrom 8 = .ok (.invokevirtual 47, 3) := by decide +kernel
theorem dX6_copyFrom_11 : decode cX6_copyFrom 11 = .ok (.aload_n 0, 1) := by decide +kernel
theorem dX6_copyFrom_12 : decode cX6_copyFrom 12 = .ok (.getfield 21, 3) := by decide +kernel
theorem dX6_copyFrom_15 : decode cX6_copyFrom 15 = .ok (.aload_n 1, 1) := by decide +kernel
theorem dX6_copyFrom_16 : decode cX6_copyFrom 16 = .ok (.getfield 21, 3) := by decide +kernel
theorem dX6_copyFrom_19 : decode cX6_copyFrom 19 = .ok (.invokevirtual 51, 3) := by decide +kernel
theorem dX6_copyFrom_22 : decode cX6_copyFrom 22 = .ok (.aload_n 0, 1) := by decide +kernel
theorem dX6_copyFrom_23 : decode cX6_copyFrom 23 = .ok (.getfield 28, 3) := by decide +kernel
theorem dX6_copyFrom_26 : decode cX6_copyFrom 26 = .ok (.aload_n 1, 1) := by decide +kernel
theorem dX6_copyFrom_27 : decode cX6_copyFrom 27 = .ok (.getfield 28, 3) := by decide +kernel
theorem dX6_copyFrom_30 : decode cX6_copyFrom 30 = .ok (.invokevirtual 54, 3) := by decide +kernel
theorem dX6_copyFrom_33 : decode cX6_copyFrom 33 = .ok (.aload_n 0, 1) := by decide +kernel
theorem dX6_copyFrom_34 : decode cX6_copyFrom 34 = .ok (.getfield 35, 3) := by decide +kernel
theorem dX6_copyFrom_37 : decode cX6_copyFrom 37 = .ok (.aload_n 1, 1) := by decide +kernel
theorem dX6_copyFrom_38 : decode cX6_copyFrom 38 = .ok (.getfield 35, 3) := by decide +kernel
theorem dX6_copyFrom_41 : decode cX6_copyFrom 41 = .ok (.invokevirtual 57, 3) := by decide +kernel
theorem dX6_copyFrom_44 : decode cX6_copyFrom 44 = .ok (.return_, 1) := by decide +kernel
theorem dX7_init_0 : decode cX7_init 0 = .ok (.aload_n 0, 1) := by decide +kernel
theorem dX7_init_1 : decode cX7_init 1 = .ok (.invokespecial 3, 3) := by decide +kernel
theorem dX7_init_4 : decode cX7_init 4 = .ok (.aload_n 0, 1) := by decide +kernel
theorem dX7_init_5 : decode cX7_init 5 = .ok (.new 9, 3) := by decide +kernel
theorem dX7_init_8 : decode cX7_init 8 = .ok (.dup, 1) := by decide +kernel
theorem dX7_init_9 : decode cX7_init 9 = .ok (.invokespecial 11, 3) := by decide +kernel
theorem dX7_init_12 : decode cX7_init 12 = .ok (.putfield 12, 3) := by decide +kernel
theorem dX7_init_15 : decode cX7_init 15 = .ok (.aload_n 0, 1) := by decide +kernel
theorem dX7_init_16 : decode cX7_init 16 = .ok (.iconst 2, 1) := by decide +kernel
theorem dX7_init_17 : decode cX7_init 17 = .ok (.anewarray 9, 3) := by decide +kernel
theorem dX7_init_20 : decode cX7_init 20 = .ok (.putfield 16, 3) := by decide +kernel
theorem dX7_init_23 : decode cX7_init 23 = .ok (.aload_n 0, 1) := by decide +kernel
theorem dX7_init_24 : decode cX7_init 24 = .ok (.iconst 2, 1) := by decide +kernel
theorem dX7_init_25 : decode cX7_init 25 = .ok (.newarray .boolean, 2) := by decide +kernel
theorem dX7_init_27 : decode cX7_init 27 = .ok (.putfield 20, 3) := by decide +kernel
theorem dX7_init_30 : decode cX7_init 30 = .ok (.aload_n 0, 1) := by decide +kernel
theorem dX7_init_31 : decode cX7_init 31 = .ok (.new 24, 3) := by decide +kernel
theorem dX7_init_34 : decode cX7_init 34 = .ok (.dup, 1) := by decide +kernel
theorem dX7_init_35 : decode cX7_init 35 = .ok (.invokespecial 26, 3) := by decide +kernel
theorem dX7_init_38 : decode cX7_init 38 = .ok (.putfield 27, 3) := by decide +kernel
theorem dX7_init_41 : decode cX7_init 41 = .ok (.aload_n 0, 1) := by decide +kernel
theorem dX7_init_42 : decode cX7_init 42 = .ok (.new 31, 3) := by decide +kernel
theorem dX7_init_45 : decode cX7_init 45 = .ok (.dup, 1) := by decide +kernel
theorem dX7_init_46 : decode cX7_init 46 = .ok (.invokespecial 33, 3) := by decide +kernel
theorem dX7_init_49 : decode cX7_init 49 = .ok (.putfield 34, 3) := by decide +kernel
theorem dX7_init_52 : decode cX7_init 52 = .ok (.aload_n 0, 1) := by decide +kernel
theorem dX7_init_53 : decode cX7_init 53 = .ok (.new 38, 3) := by decide +kernel
theorem dX7_init_56 : decode cX7_init 56 = .ok (.dup, 1) := by decide +kernel
theorem dX7_init_57 : decode cX7_init 57 = .ok (.invokespecial 40, 3) := by decide +kernel
theorem dX7_init_60 : decode cX7_init 60 = .ok (.putfield 41, 3) := by decide +kernel
theorem dX7_init_63 : decode cX7_init 63 = .ok (.aload_n 0, 1) := by decide +kernel
theorem dX7_init_64 : decode cX7_init 64 = .ok (.new 45, 3) := by decide +kernel
theorem dX7_init_67 : decode cX7_init 67 = .ok (.dup, 1) := by decide +kernel
theorem dX7_init_68 : decode cX7_init 68 = .ok (.invokespecial 47, 3) := by decide +kernel
theorem dX7_init_71 : decode cX7_init 71 = .ok (.putfield 48, 3) := by decide +kernel
theorem dX7_init_74 : decode cX7_init 74 = .ok (.iconst 0, 1) := by decide +kernel
theorem dX7_init_75 : decode cX7_init 75 = .ok (.istore_n 1, 1) := by decide +kernel
theorem dX7_init_76 : decode cX7_init 76 = .ok (.iload_n 1, 1) := by decide +kernel
theorem dX7_init_77 : decode cX7_init 77 = .ok (.iconst 2, 1) := by decide +kernel
theorem dX7_init_78 : decode cX7_init 78 = .ok (.if_icmp .ge 22, 3) := by decide +kernel
theorem dX7_init_81 : decode cX7_init 81 = .ok (.aload_n 0, 1) := by decide +kernel
theorem dX7_init_82 : decode cX7_init 82 = .ok (.getfield 16, 3) := by decide +kernel
theorem dX7_init_85 : decode cX7_init 85 = .ok (.iload_n 1, 1) := by decide +kernel
theorem dX7_init_86 : decode cX7_init 86 = .ok (.new 9, 3) := by decide +kernel
theorem dX7_init_89 : decode cX7_init 89 = .ok (.dup, 1) := by decide +kernel
theorem dX7_init_90 : decode cX7_init 90 = .ok (.invokespecial 11, 3) := by decide +kernel
theorem dX7_init_93 : decode cX7_init 93 = .ok (.aastore, 1) := by decide +kernel
theorem dX7_init_94 : decode cX7_init 94 = .ok (.iinc 1 1, 3) := by decide +kernel
theorem dX7_init_97 : decode cX7_init 97 = .ok (.goto (-21), 3) := by decide +kernel
theorem dX7_init_100 : decode cX7_init 100 = .ok (.aload_n 0, 1) := by decide +kernel
theorem dX7_init_101 : decode cX7_init 101 = .ok (.getfield 12, 3) := by decide +kernel
theorem dX7_init_104 : decode cX7_init 104 = .ok (.invokevirtual 52, 3) := by decide +kernel
theorem dX7_init_107 : decode cX7_init 107 = .ok (.return_, 1) := by decide +kernel
theorem dX7_set_0 : decode cX7_set 0 = .ok (.iload_n 1, 1) := by decide +kernel
theorem dX7_set_1 : decode cX7_set 1 = .ok (.iload_n 2, 1) := by decide +kernel
theorem dX7_set_2 : decode cX7_set 2 = .ok (.invokestatic 55, 3) := by decide +kernel
theorem dX7_set_5 : decode cX7_set 5 = .ok (.ifCond .ne 6, 3) := by decide +kernel
theorem dX7_set_8 : decode cX7_set 8 = .ok (.bipush (-2), 2) := by decide +kernel
theorem dX7_set_10 : decode cX7_set 10 = .ok (.ireturn, 1) := by decide +kernel
theorem dX7_set_11 : decode cX7_set 11 = .ok (.aload_n 0, 1) := by decide +kernel
theorem dX7_set_12 : decode cX7_set 12 = .ok (.getfield 27, 3) := by decide +kernel
theorem dX7_set_15 : decode cX7_set 15 = .ok (.aload_n 0, 1) := by decide +kernel
theorem dX7_set_16 : decode cX7_set 16 = .ok (.getfield 12, 3) := by decide +kernel
theorem dX7_set_19 : decode cX7_set 19 = .ok (.invokevirtual 59, 3) := by decide +kernel
theorem dX7_set_22 : decode cX7_set 22 = .ok (.aload_n 0, 1) := by decide +kernel
theorem dX7_set_23 : decode cX7_set 23 = .ok (.getfield 12, 3) := by decide +kernel
theorem dX7_set_26 : decode cX7_set 26 = .ok (.getfield 63, 3) := by decide +kernel
theorem dX7_set_29 : decode cX7_set 29 = .ok (.iload_n 1, 1) := by decide +kernel
theorem dX7_set_30 : decode cX7_set 30 = .ok (.invokevirtual 66, 3) := by decide +kernel
theorem dX7_set_33 : decode cX7_set 33 = .ok (.istore_n 3, 1) := by decide +kernel
theorem dX7_set_34 : decode cX7_set 34 = .ok (.aload_n 0, 1) := by decide +kernel
theorem dX7_set_35 : decode cX7_set 35 = .ok (.getfield 12, 3) := by decide +kernel
theorem dX7_set_38 : decode cX7_set 38 = .ok (.getfield 63, 3) := by decide +kernel
theorem dX7_set_41 : decode cX7_set 41 = .ok (.iload_n 1, 1) := by decide +kernel
theorem dX7_set_42 : decode cX7_set 42 = .ok (.iload_n 2, 1) := by decide +kernel
theorem dX7_set_43 : decode cX7_set 43 = .ok (.invokevirtual 70, 3) := by decide +kernel
theorem dX7_set_46 : decode cX7_set 46 = .ok (.aload_n 0, 1) := by decide +kernel
theorem dX7_set_47 : decode cX7_set 47 = .ok (.getfield 12, 3) := by decide +kernel
theorem dX7_set_50 : decode cX7_set 50 = .ok (.invokevirtual 52, 3) := by decide +kernel
theorem dX7_set_53 : decode cX7_set 53 = .ok (.iload_n 3, 1) := by decide +kernel
theorem dX7_set_54 : decode cX7_set 54 = .ok (.ireturn, 1) := by decide +kernel
theorem dX7_read_0 : decode cX7_read 0 = .ok (.aload_n 0, 1) := by decide +kernel
theorem dX7_read_1 : decode cX7_read 1 = .ok (.getfield 34, 3) := by decide +kernel
theorem dX7_read_4 : decode cX7_read 4 = .ok (.invokevirtual 74, 3) := by decide +kernel
theorem dX7_read_7 : decode cX7_read 7 = .ok (.bipush (-6), 2) := by decide +kernel
theorem dX7_read_9 : decode cX7_read 9 = .ok (.if_icmp .eq 6, 3) := by decide +kernel
theorem dX7_read_12 : decode cX7_read 12 = .ok (.bipush (-3), 2) := by decide +kernel
theorem dX7_read_14 : decode cX7_read 14 = .ok (.ireturn, 1) := by decide +kernel
theorem dX7_read_15 : decode cX7_read 15 = .ok (.aload_n 0, 1) := by decide +kernel
theorem dX7_read_16 : decode cX7_read 16 = .ok (.getfield 27, 3) := by decide +kernel
theorem dX7_read_19 : decode cX7_read 19 = .ok (.aload_n 0, 1) := by decide +kernel
theorem dX7_read_20 : decode cX7_read 20 = .ok (.getfield 12, 3) := by decide +kernel
theorem dX7_read_23 : decode cX7_read 23 = .ok (.invokevirtual 59, 3) := by decide +kernel
theorem dX7_read_26 : decode cX7_read 26 = .ok (.aload_n 0, 1) := by decide +kernel
theorem dX7_read_27 : decode cX7_read 27 = .ok (.getfield 34, 3) := by decide +kernel
theorem dX7_read_30 : decode cX7_read 30 = .ok (.aload_n 0, 1) := by decide +kernel
theorem dX7_read_31 : decode cX7_read 31 = .ok (.getfield 12, 3) := by decide +kernel
theorem dX7_read_34 : decode cX7_read 34 = .ok (.getfield 78, 3) := by decide +kernel
theorem dX7_read_37 : decode cX7_read 37 = .ok (.invokevirtual 82, 3) := by decide +kernel
theorem dX7_read_40 : decode cX7_read 40 = .ok (.aload_n 0, 1) := by decide +kernel
theorem dX7_read_41 : decode cX7_read 41 = .ok (.getfield 34, 3) := by decide +kernel
theorem dX7_read_44 : decode cX7_read 44 = .ok (.invokevirtual 86, 3) := by decide +kernel
theorem dX7_read_47 : decode cX7_read 47 = .ok (.aload_n 0, 1) := by decide +kernel
theorem dX7_read_48 : decode cX7_read 48 = .ok (.getfield 12, 3) := by decide +kernel
theorem dX7_read_51 : decode cX7_read 51 = .ok (.invokevirtual 52, 3) := by decide +kernel
theorem dX7_read_54 : decode cX7_read 54 = .ok (.aload_n 0, 1) := by decide +kernel
theorem dX7_read_55 : decode cX7_read 55 = .ok (.getfield 12, 3) := by decide +kernel
theorem dX7_read_58 : decode cX7_read 58 = .ok (.getfield 78, 3) := by decide +kernel
theorem dX7_read_61 : decode cX7_read 61 = .ok (.getfield 89, 3) := by decide +kernel
theorem dX7_read_64 : decode cX7_read 64 = .ok (.ireturn, 1) := by decide +kernel
theorem dX7_pave_0 : decode cX7_pave 0 = .ok (.iload_n 1, 1) := by decide +kernel
theorem dX7_pave_1 : decode cX7_pave 1 = .ok (.iconst 1, 1) := by decide +kernel
theorem dX7_pave_2 : decode cX7_pave 2 = .ok (.if_icmp .lt 20, 3) := by decide +kernel
theorem dX7_pave_5 : decode cX7_pave 5 = .ok (.iload_n 1, 1) := by decide +kernel
theorem dX7_pave_6 : decode cX7_pave 6 = .ok (.bipush 99, 2) := by decide +kernel
theorem dX7_pave_8 : decode cX7_pave 8 = .ok (.if_icmp .gt 14, 3) := by decide +kernel
theorem dX7_pave_11 : decode cX7_pave 11 = .ok (.iload_n 2, 1) := by decide +kernel
theorem dX7_pave_12 : decode cX7_pave 12 = .ok (.bipush (-3), 2) := by decide +kernel
theorem dX7_pave_14 : decode cX7_pave 14 = .ok (.if_icmp .lt 8, 3) := by decide +kernel
theorem dX7_pave_17 : decode cX7_pave 17 = .ok (.iload_n 2, 1) := by decide +kernel
theorem dX7_pave_18 : decode cX7_pave 18 = .ok (.iconst 3, 1) := by decide +kernel
theorem dX7_pave_19 : decode cX7_pave 19 = .ok (.if_icmp .le 6, 3) := by decide +kernel
theorem dX7_pave_22 : decode cX7_pave 22 = .ok (.bipush (-2), 2) := by decide +kernel
theorem dX7_pave_24 : decode cX7_pave 24 = .ok (.ireturn, 1) := by decide +kernel
theorem dX7_pave_25 : decode cX7_pave 25 = .ok (.aload_n 0, 1) := by decide +kernel
theorem dX7_pave_26 : decode cX7_pave 26 = .ok (.getfield 12, 3) := by decide +kernel
theorem dX7_pave_29 : decode cX7_pave 29 = .ok (.getfield 95, 3) := by decide +kernel
theorem dX7_pave_32 : decode cX7_pave 32 = .ok (.getfield 99, 3) := by decide +kernel
theorem dX7_pave_35 : decode cX7_pave 35 = .ok (.bipush 12, 2) := by decide +kernel
theorem dX7_pave_37 : decode cX7_pave 37 = .ok (.if_icmp .lt 6, 3) := by decide +kernel
theorem dX7_pave_40 : decode cX7_pave 40 = .ok (.bipush (-4), 2) := by decide +kernel
theorem dX7_pave_42 : decode cX7_pave 42 = .ok (.ireturn, 1) := by decide +kernel
theorem dX7_pave_43 : decode cX7_pave 43 = .ok (.aload_n 0, 1) := by decide +kernel
theorem dX7_pave_44 : decode cX7_pave 44 = .ok (.getfield 27, 3) := by decide +kernel
theorem dX7_pave_47 : decode cX7_pave 47 = .ok (.aload_n 0, 1) := by decide +kernel
theorem dX7_pave_48 : decode cX7_pave 48 = .ok (.getfield 12, 3) := by decide +kernel
theorem dX7_pave_51 : decode cX7_pave 51 = .ok (.invokevirtual 59, 3) := by decide +kernel
theorem dX7_pave_54 : decode cX7_pave 54 = .ok (.aload_n 0, 1) := by decide +kernel
theorem dX7_pave_55 : decode cX7_pave 55 = .ok (.getfield 12, 3) := by decide +kernel
theorem dX7_pave_58 : decode cX7_pave 58 = .ok (.getfield 95, 3) := by decide +kernel
theorem dX7_pave_61 : decode cX7_pave 61 = .ok (.iload_n 1, 1) := by decide +kernel
theorem dX7_pave_62 : decode cX7_pave 62 = .ok (.iload_n 2, 1) := by decide +kernel
theorem dX7_pave_63 : decode cX7_pave 63 = .ok (.iload_n 3, 1) := by decide +kernel
theorem dX7_pave_64 : decode cX7_pave 64 = .ok (.invokevirtual 104, 3) := by decide +kernel
theorem dX7_pave_67 : decode cX7_pave 67 = .ok (.aload_n 0, 1) := by decide +kernel
theorem dX7_pave_68 : decode cX7_pave 68 = .ok (.getfield 12, 3) := by decide +kernel
theorem dX7_pave_71 : decode cX7_pave 71 = .ok (.invokevirtual 52, 3) := by decide +kernel
theorem dX7_pave_74 : decode cX7_pave 74 = .ok (.aload_n 0, 1) := by decide +kernel
theorem dX7_pave_75 : decode cX7_pave 75 = .ok (.getfield 12, 3) := by decide +kernel
theorem dX7_pave_78 : decode cX7_pave 78 = .ok (.getfield 95, 3) := by decide +kernel
theorem dX7_pave_81 : decode cX7_pave 81 = .ok (.getfield 99, 3) := by decide +kernel
theorem dX7_pave_84 : decode cX7_pave 84 = .ok (.iconst 1, 1) := by decide +kernel
theorem dX7_pave_85 : decode cX7_pave 85 = .ok (.isub, 1) := by decide +kernel
theorem dX7_pave_86 : decode cX7_pave 86 = .ok (.ireturn, 1) := by decide +kernel
theorem dX7_tear_0 : decode cX7_tear 0 = .ok (.aload_n 0, 1) := by decide +kernel
theorem dX7_tear_1 : decode cX7_tear 1 = .ok (.getfield 12, 3) := by decide +kernel
theorem dX7_tear_4 : decode cX7_tear 4 = .ok (.getfield 95, 3) := by decide +kernel
theorem dX7_tear_7 : decode cX7_tear 7 = .ok (.iload_n 1, 1) := by decide +kernel
theorem dX7_tear_8 : decode cX7_tear 8 = .ok (.invokevirtual 108, 3) := by decide +kernel
theorem dX7_tear_11 : decode cX7_tear 11 = .ok (.ifCond .ne 5, 3) := by decide +kernel
theorem dX7_tear_14 : decode cX7_tear 14 = .ok (.iconst (-1), 1) := by decide +kernel
theorem dX7_tear_15 : decode cX7_tear 15 = .ok (.ireturn, 1) := by decide +kernel
theorem dX7_tear_16 : decode cX7_tear 16 = .ok (.aload_n 0, 1) := by decide +kernel
theorem dX7_tear_17 : decode cX7_tear 17 = .ok (.getfield 27, 3) := by decide +kernel
theorem dX7_tear_20 : decode cX7_tear 20 = .ok (.aload_n 0, 1) := by decide +kernel
theorem dX7_tear_21 : decode cX7_tear 21 = .ok (.getfield 12, 3) := by decide +kernel
theorem dX7_tear_24 : decode cX7_tear 24 = .ok (.invokevirtual 59, 3) := by decide +kernel
theorem dX7_tear_27 : decode cX7_tear 27 = .ok (.aload_n 0, 1) := by decide +kernel
theorem dX7_tear_28 : decode cX7_tear 28 = .ok (.getfield 12, 3) := by decide +kernel
theorem dX7_tear_31 : decode cX7_tear 31 = .ok (.getfield 95, 3) := by decide +kernel
theorem dX7_tear_34 : decode cX7_tear 34 = .ok (.iload_n 1, 1) := by decide +kernel
theorem dX7_tear_35 : decode cX7_tear 35 = .ok (.invokevirtual 112, 3) := by decide +kernel
theorem dX7_tear_38 : decode cX7_tear 38 = .ok (.istore_n 2, 1) := by decide +kernel
theorem dX7_tear_39 : decode cX7_tear 39 = .ok (.aload_n 0, 1) := by decide +kernel
theorem dX7_tear_40 : decode cX7_tear 40 = .ok (.getfield 12, 3) := by decide +kernel
theorem dX7_tear_43 : decode cX7_tear 43 = .ok (.getfield 95, 3) := by decide +kernel
theorem dX7_tear_46 : decode cX7_tear 46 = .ok (.iload_n 1, 1) := by decide +kernel
theorem dX7_tear_47 : decode cX7_tear 47 = .ok (.invokevirtual 115, 3) := by decide +kernel
theorem dX7_tear_50 : decode cX7_tear 50 = .ok (.aload_n 0, 1) := by decide +kernel
theorem dX7_tear_51 : decode cX7_tear 51 = .ok (.getfield 12, 3) := by decide +kernel
theorem dX7_tear_54 : decode cX7_tear 54 = .ok (.invokevirtual 52, 3) := by decide +kernel
theorem dX7_tear_57 : decode cX7_tear 57 = .ok (.iload_n 2, 1) := by decide +kernel
theorem dX7_tear_58 : decode cX7_tear 58 = .ok (.ireturn, 1) := by decide +kernel
theorem dX7_begin_0 : decode cX7_begin 0 = .ok (.aload_n 0, 1) := by decide +kernel
theorem dX7_begin_1 : decode cX7_begin 1 = .ok (.getfield 27, 3) := by decide +kernel
theorem dX7_begin_4 : decode cX7_begin 4 = .ok (.aload_n 0, 1) := by decide +kernel
theorem dX7_begin_5 : decode cX7_begin 5 = .ok (.getfield 12, 3) := by decide +kernel
theorem dX7_begin_8 : decode cX7_begin 8 = .ok (.invokevirtual 59, 3) := by decide +kernel
theorem dX7_begin_11 : decode cX7_begin 11 = .ok (.aload_n 0, 1) := by decide +kernel
theorem dX7_begin_12 : decode cX7_begin 12 = .ok (.getfield 12, 3) := by decide +kernel
theorem dX7_begin_15 : decode cX7_begin 15 = .ok (.getfield 119, 3) := by decide +kernel
theorem dX7_begin_18 : decode cX7_begin 18 = .ok (.getfield 122, 3) := by decide +kernel
theorem dX7_begin_21 : decode cX7_begin 21 = .ok (.istore_n 1, 1) := by decide +kernel
theorem dX7_begin_22 : decode cX7_begin 22 = .ok (.aload_n 0, 1) := by decide +kernel
theorem dX7_begin_23 : decode cX7_begin 23 = .ok (.getfield 12, 3) := by decide +kernel
theorem dX7_begin_26 : decode cX7_begin 26 = .ok (.invokevirtual 52, 3) := by decide +kernel
theorem dX7_begin_29 : decode cX7_begin 29 = .ok (.iload_n 1, 1) := by decide +kernel
theorem dX7_begin_30 : decode cX7_begin 30 = .ok (.ireturn, 1) := by decide +kernel
theorem dX7_march_0 : decode cX7_march 0 = .ok (.iload_n 1, 1) := by decide +kernel
theorem dX7_march_1 : decode cX7_march 1 = .ok (.iconst 1, 1) := by decide +kernel
theorem dX7_march_2 : decode cX7_march 2 = .ok (.if_icmp .lt 10, 3) := by decide +kernel
theorem dX7_march_5 : decode cX7_march 5 = .ok (.iload_n 1, 1) := by decide +kernel
theorem dX7_march_6 : decode cX7_march 6 = .ok (.sipush 500, 3) := by decide +kernel
theorem dX7_march_9 : decode cX7_march 9 = .ok (.if_icmp .le 6, 3) := by decide +kernel
theorem dX7_march_12 : decode cX7_march 12 = .ok (.bipush (-2), 2) := by decide +kernel
theorem dX7_march_14 : decode cX7_march 14 = .ok (.ireturn, 1) := by decide +kernel
theorem dX7_march_15 : decode cX7_march 15 = .ok (.aload_n 0, 1) := by decide +kernel
theorem dX7_march_16 : decode cX7_march 16 = .ok (.invokevirtual 125, 3) := by decide +kernel
theorem dX7_march_19 : decode cX7_march 19 = .ok (.ifCond .eq 23, 3) := by decide +kernel
theorem dX7_march_22 : decode cX7_march 22 = .ok (.aload_n 0, 1) := by decide +kernel
theorem dX7_march_23 : decode cX7_march 23 = .ok (.getfield 12, 3) := by decide +kernel
theorem dX7_march_26 : decode cX7_march 26 = .ok (.getfield 119, 3) := by decide +kernel
theorem dX7_march_29 : decode cX7_march 29 = .ok (.aload_n 0, 1) := by decide +kernel
theorem dX7_march_30 : decode cX7_march 30 = .ok (.getfield 12, 3) := by decide +kernel
theorem dX7_march_33 : decode cX7_march 33 = .ok (.getfield 95, 3) := by decide +kernel
theorem dX7_march_36 : decode cX7_march 36 = .ok (.invokevirtual 129, 3) := by decide +kernel
theorem dX7_march_39 : decode cX7_march 39 = .ok (.ifCond .eq 6, 3) := by decide +kernel
theorem dX7_march_42 : decode cX7_march 42 = .ok (.bipush (-5), 2) := by decide +kernel
theorem dX7_march_44 : decode cX7_march 44 = .ok (.ireturn, 1) := by decide +kernel
theorem dX7_march_45 : decode cX7_march 45 = .ok (.aload_n 0, 1) := by decide +kernel
theorem dX7_march_46 : decode cX7_march 46 = .ok (.getfield 27, 3) := by decide +kernel
theorem dX7_march_49 : decode cX7_march 49 = .ok (.aload_n 0, 1) := by decide +kernel
theorem dX7_march_50 : decode cX7_march 50 = .ok (.getfield 12, 3) := by decide +kernel
theorem dX7_march_53 : decode cX7_march 53 = .ok (.invokevirtual 59, 3) := by decide +kernel
theorem dX7_march_56 : decode cX7_march 56 = .ok (.aload_n 0, 1) := by decide +kernel
theorem dX7_march_57 : decode cX7_march 57 = .ok (.getfield 12, 3) := by decide +kernel
theorem dX7_march_60 : decode cX7_march 60 = .ok (.getfield 119, 3) := by decide +kernel
theorem dX7_march_63 : decode cX7_march 63 = .ok (.getfield 122, 3) := by decide +kernel
theorem dX7_march_66 : decode cX7_march 66 = .ok (.istore_n 2, 1) := by decide +kernel
theorem dX7_march_67 : decode cX7_march 67 = .ok (.aload_n 0, 1) := by decide +kernel
theorem dX7_march_68 : decode cX7_march 68 = .ok (.getfield 12, 3) := by decide +kernel
theorem dX7_march_71 : decode cX7_march 71 = .ok (.getfield 119, 3) := by decide +kernel
theorem dX7_march_74 : decode cX7_march 74 = .ok (.aload_n 0, 1) := by decide +kernel
theorem dX7_march_75 : decode cX7_march 75 = .ok (.getfield 12, 3) := by decide +kernel
theorem dX7_march_78 : decode cX7_march 78 = .ok (.getfield 78, 3) := by decide +kernel
theorem dX7_march_81 : decode cX7_march 81 = .ok (.aload_n 0, 1) := by decide +kernel
theorem dX7_march_82 : decode cX7_march 82 = .ok (.getfield 12, 3) := by decide +kernel
theorem dX7_march_85 : decode cX7_march 85 = .ok (.getfield 95, 3) := by decide +kernel
theorem dX7_march_88 : decode cX7_march 88 = .ok (.aload_n 0, 1) := by decide +kernel
theorem dX7_march_89 : decode cX7_march 89 = .ok (.getfield 12, 3) := by decide +kernel
theorem dX7_march_92 : decode cX7_march 92 = .ok (.getfield 63, 3) := by decide +kernel
theorem dX7_march_95 : decode cX7_march 95 = .ok (.iload_n 1, 1) := by decide +kernel
theorem dX7_march_96 : decode cX7_march 96 = .ok (.invokevirtual 133, 3) := by decide +kernel
theorem dX7_march_99 : decode cX7_march 99 = .ok (.aload_n 0, 1) := by decide +kernel
theorem dX7_march_100 : decode cX7_march 100 = .ok (.getfield 12, 3) := by decide +kernel
theorem dX7_march_103 : decode cX7_march 103 = .ok (.getfield 119, 3) := by decide +kernel
theorem dX7_march_106 : decode cX7_march 106 = .ok (.getfield 122, 3) := by decide +kernel
theorem dX7_march_109 : decode cX7_march 109 = .ok (.iload_n 2, 1) := by decide +kernel
theorem dX7_march_110 : decode cX7_march 110 = .ok (.isub, 1) := by decide +kernel
theorem dX7_march_111 : decode cX7_march 111 = .ok (.ireturn, 1) := by decide +kernel
theorem dX7_line_0 : decode cX7_line 0 = .ok (.aload_n 0, 1) := by decide +kernel
theorem dX7_line_1 : decode cX7_line 1 = .ok (.getfield 12, 3) := by decide +kernel
theorem dX7_line_4 : decode cX7_line 4 = .ok (.getfield 78, 3) := by decide +kernel
theorem dX7_line_7 : decode cX7_line 7 = .ok (.iload_n 1, 1) := by decide +kernel
theorem dX7_line_8 : decode cX7_line 8 = .ok (.invokevirtual 137, 3) := by decide +kernel
theorem dX7_line_11 : decode cX7_line 11 = .ok (.ifCond .ne 5, 3) := by decide +kernel
theorem dX7_line_14 : decode cX7_line 14 = .ok (.iconst (-1), 1) := by decide +kernel
theorem dX7_line_15 : decode cX7_line 15 = .ok (.ireturn, 1) := by decide +kernel
theorem dX7_line_16 : decode cX7_line 16 = .ok (.aload_n 0, 1) := by decide +kernel
theorem dX7_line_17 : decode cX7_line 17 = .ok (.getfield 12, 3) := by decide +kernel
theorem dX7_line_20 : decode cX7_line 20 = .ok (.getfield 78, 3) := by decide +kernel
theorem dX7_line_23 : decode cX7_line 23 = .ok (.iload_n 1, 1) := by decide +kernel
theorem dX7_line_24 : decode cX7_line 24 = .ok (.invokevirtual 140, 3) := by decide +kernel
theorem dX7_line_27 : decode cX7_line 27 = .ok (.istore_n 3, 1) := by decide +kernel
theorem dX7_line_28 : decode cX7_line 28 = .ok (.aload_n 0, 1) := by decide +kernel
theorem dX7_line_29 : decode cX7_line 29 = .ok (.getfield 12, 3) := by decide +kernel
theorem dX7_line_32 : decode cX7_line 32 = .ok (.getfield 78, 3) := by decide +kernel
theorem dX7_line_35 : decode cX7_line 35 = .ok (.iload_n 1, 1) := by decide +kernel
theorem dX7_line_36 : decode cX7_line 36 = .ok (.invokevirtual 143, 3) := by decide +kernel
theorem dX7_line_39 : decode cX7_line 39 = .ok (.istore 4, 2) := by decide +kernel
theorem dX7_line_41 : decode cX7_line 41 = .ok (.iload_n 2, 1) := by decide +kernel
theorem dX7_line_42 : decode cX7_line 42 = .ok (.tableswitch 64 0 3 #[30, 42, 44, 47], 30) := by decide +kernel
theorem dX7_line_72 : decode cX7_line 72 = .ok (.aload_n 0, 1) := by decide +kernel
theorem dX7_line_73 : decode cX7_line 73 = .ok (.getfield 12, 3) := by decide +kernel
theorem dX7_line_76 : decode cX7_line 76 = .ok (.getfield 78, 3) := by decide +kernel
theorem dX7_line_79 : decode cX7_line 79 = .ok (.iload_n 1, 1) := by decide +kernel
theorem dX7_line_80 : decode cX7_line 80 = .ok (.invokevirtual 146, 3) := by decide +kernel
theorem dX7_line_83 : decode cX7_line 83 = .ok (.ireturn, 1) := by decide +kernel
theorem dX7_line_84 : decode cX7_line 84 = .ok (.iload_n 3, 1) := by decide +kernel
theorem dX7_line_85 : decode cX7_line 85 = .ok (.ireturn, 1) := by decide +kernel
theorem dX7_line_86 : decode cX7_line 86 = .ok (.iload 4, 2) := by decide +kernel
theorem dX7_line_88 : decode cX7_line 88 = .ok (.ireturn, 1) := by decide +kernel
theorem dX7_line_89 : decode cX7_line 89 = .ok (.iload_n 3, 1) := by decide +kernel
theorem dX7_line_90 : decode cX7_line 90 = .ok (.iload 4, 2) := by decide +kernel
theorem dX7_line_92 : decode cX7_line 92 = .ok (.aload_n 0, 1) := by decide +kernel
theorem dX7_line_93 : decode cX7_line 93 = .ok (.getfield 12, 3) := by decide +kernel
theorem dX7_line_96 : decode cX7_line 96 = .ok (.getfield 63, 3) := by decide +kernel
theorem dX7_line_99 : decode cX7_line 99 = .ok (.iconst 1, 1) := by decide +kernel
theorem dX7_line_100 : decode cX7_line 100 = .ok (.invokevirtual 66, 3) := by decide +kernel
theorem dX7_line_103 : decode cX7_line 103 = .ok (.imul, 1) := by decide +kernel
theorem dX7_line_104 : decode cX7_line 104 = .ok (.iadd, 1) := by decide +kernel
theorem dX7_line_105 : decode cX7_line 105 = .ok (.ireturn, 1) := by decide +kernel
theorem dX7_line_106 : decode cX7_line 106 = .ok (.bipush (-2), 2) := by decide +kernel
theorem dX7_line_108 : decode cX7_line 108 = .ok (.ireturn, 1) := by decide +kernel
theorem dX7_foot_0 : decode cX7_foot 0 = .ok (.aload_n 0, 1) := by decide +kernel
theorem dX7_foot_1 : decode cX7_foot 1 = .ok (.getfield 12, 3) := by decide +kernel
theorem dX7_foot_4 : decode cX7_foot 4 = .ok (.getfield 78, 3) := by decide +kernel
theorem dX7_foot_7 : decode cX7_foot 7 = .ok (.iload_n 1, 1) := by decide +kernel
theorem dX7_foot_8 : decode cX7_foot 8 = .ok (.iload_n 2, 1) := by decide +kernel
theorem dX7_foot_9 : decode cX7_foot 9 = .ok (.invokevirtual 149, 3) := by decide +kernel
theorem dX7_foot_12 : decode cX7_foot 12 = .ok (.ifCond .ne 5, 3) := by decide +kernel
theorem dX7_foot_15 : decode cX7_foot 15 = .ok (.iconst (-1), 1) := by decide +kernel
theorem dX7_foot_16 : decode cX7_foot 16 = .ok (.ireturn, 1) := by decide +kernel
theorem dX7_foot_17 : decode cX7_foot 17 = .ok (.iload_n 3, 1) := by decide +kernel
theorem dX7_foot_18 : decode cX7_foot 18 = .ok (.lookupswitch 60 #[(0, 26), (1, 39)], 26) := by decide +kernel
theorem dX7_foot_44 : decode cX7_foot 44 = .ok (.aload_n 0, 1) := by decide +kernel
theorem dX7_foot_45 : decode cX7_foot 45 = .ok (.getfield 12, 3) := by decide +kernel
theorem dX7_foot_48 : decode cX7_foot 48 = .ok (.getfield 78, 3) := by decide +kernel
theorem dX7_foot_51 : decode cX7_foot 51 = .ok (.iload_n 1, 1) := by decide +kernel
theorem dX7_foot_52 : decode cX7_foot 52 = .ok (.iload_n 2, 1) := by decide +kernel
theorem dX7_foot_53 : decode cX7_foot 53 = .ok (.invokevirtual 152, 3) := by decide +kernel
theorem dX7_foot_56 : decode cX7_foot 56 = .ok (.ireturn, 1) := by decide +kernel
theorem dX7_foot_57 : decode cX7_foot 57 = .ok (.aload_n 0, 1) := by decide +kernel
theorem dX7_foot_58 : decode cX7_foot 58 = .ok (.getfield 12, 3) := by decide +kernel
theorem dX7_foot_61 : decode cX7_foot 61 = .ok (.getfield 78, 3) := by decide +kernel
theorem dX7_foot_64 : decode cX7_foot 64 = .ok (.iload_n 1, 1) := by decide +kernel
theorem dX7_foot_65 : decode cX7_foot 65 = .ok (.iload_n 2, 1) := by decide +kernel
theorem dX7_foot_66 : decode cX7_foot 66 = .ok (.invokevirtual 156, 3) := by decide +kernel
theorem dX7_foot_69 : decode cX7_foot 69 = .ok (.ifCond .eq 7, 3) := by decide +kernel
theorem dX7_foot_72 : decode cX7_foot 72 = .ok (.iconst 1, 1) := by decide +kernel
theorem dX7_foot_73 : decode cX7_foot 73 = .ok (.goto 4, 3) := by decide +kernel
theorem dX7_foot_76 : decode cX7_foot 76 = .ok (.iconst 0, 1) := by decide +kernel
theorem dX7_foot_77 : decode cX7_foot 77 = .ok (.ireturn, 1) := by decide +kernel
theorem dX7_foot_78 : decode cX7_foot 78 = .ok (.bipush (-2), 2) := by decide +kernel
theorem dX7_foot_80 : decode cX7_foot 80 = .ok (.ireturn, 1) := by decide +kernel
theorem dX7_stretch_0 : decode cX7_stretch 0 = .ok (.aload_n 0, 1) := by decide +kernel
theorem dX7_stretch_1 : decode cX7_stretch 1 = .ok (.getfield 12, 3) := by decide +kernel
theorem dX7_stretch_4 : decode cX7_stretch 4 = .ok (.getfield 95, 3) := by decide +kernel
theorem dX7_stretch_7 : decode cX7_stretch 7 = .ok (.iload_n 1, 1) := by decide +kernel
theorem dX7_stretch_8 : decode cX7_stretch 8 = .ok (.invokevirtual 108, 3) := by decide +kernel
theorem dX7_stretch_11 : decode cX7_stretch 11 = .ok (.ifCond .ne 5, 3) := by decide +kernel
theorem dX7_stretch_14 : decode cX7_stretch 14 = .ok (.iconst (-1), 1) := by decide +kernel
theorem dX7_stretch_15 : decode cX7_stretch 15 = .ok (.ireturn, 1) := by decide +kernel
theorem dX7_stretch_16 : decode cX7_stretch 16 = .ok (.iload_n 2, 1) := by decide +kernel
theorem dX7_stretch_17 : decode cX7_stretch 17 = .ok (.tableswitch 100 0 3 #[31, 43, 57, 77], 31) := by decide +kernel
theorem dX7_stretch_48 : decode cX7_stretch 48 = .ok (.aload_n 0, 1) := by decide +kernel
theorem dX7_stretch_49 : decode cX7_stretch 49 = .ok (.getfield 12, 3) := by decide +kernel
theorem dX7_stretch_52 : decode cX7_stretch 52 = .ok (.getfield 95, 3) := by decide +kernel
theorem dX7_stretch_55 : decode cX7_stretch 55 = .ok (.iload_n 1, 1) := by decide +kernel
theorem dX7_stretch_56 : decode cX7_stretch 56 = .ok (.invokevirtual 112, 3) := by decide +kernel
theorem dX7_stretch_59 : decode cX7_stretch 59 = .ok (.ireturn, 1) := by decide +kernel
theorem dX7_stretch_60 : decode cX7_stretch 60 = .ok (.aload_n 0, 1) := by decide +kernel
theorem dX7_stretch_61 : decode cX7_stretch 61 = .ok (.getfield 12, 3) := by decide +kernel
theorem dX7_stretch_64 : decode cX7_stretch 64 = .ok (.getfield 95, 3) := by decide +kernel
theorem dX7_stretch_67 : decode cX7_stretch 67 = .ok (.iload_n 1, 1) := by decide +kernel
theorem dX7_stretch_68 : decode cX7_stretch 68 = .ok (.invokevirtual 159, 3) := by decide +kernel
theorem dX7_stretch_71 : decode cX7_stretch 71 = .ok (.iconst 3, 1) := by decide +kernel
theorem dX7_stretch_72 : decode cX7_stretch 72 = .ok (.iadd, 1) := by decide +kernel
theorem dX7_stretch_73 : decode cX7_stretch 73 = .ok (.ireturn, 1) := by decide +kernel
theorem dX7_stretch_74 : decode cX7_stretch 74 = .ok (.aload_n 0, 1) := by decide +kernel
theorem dX7_stretch_75 : decode cX7_stretch 75 = .ok (.getfield 12, 3) := by decide +kernel
theorem dX7_stretch_78 : decode cX7_stretch 78 = .ok (.getfield 95, 3) := by decide +kernel
theorem dX7_stretch_81 : decode cX7_stretch 81 = .ok (.iload_n 1, 1) := by decide +kernel
theorem dX7_stretch_82 : decode cX7_stretch 82 = .ok (.invokevirtual 162, 3) := by decide +kernel
theorem dX7_stretch_85 : decode cX7_stretch 85 = .ok (.ifCond .eq 7, 3) := by decide +kernel
theorem dX7_stretch_88 : decode cX7_stretch 88 = .ok (.iconst 1, 1) := by decide +kernel
theorem dX7_stretch_89 : decode cX7_stretch 89 = .ok (.goto 4, 3) := by decide +kernel
theorem dX7_stretch_92 : decode cX7_stretch 92 = .ok (.iconst 0, 1) := by decide +kernel
theorem dX7_stretch_93 : decode cX7_stretch 93 = .ok (.ireturn, 1) := by decide +kernel
theorem dX7_stretch_94 : decode cX7_stretch 94 = .ok (.aload_n 0, 1) := by decide +kernel
theorem dX7_stretch_95 : decode cX7_stretch 95 = .ok (.getfield 12, 3) := by decide +kernel
theorem dX7_stretch_98 : decode cX7_stretch 98 = .ok (.getfield 95, 3) := by decide +kernel
theorem dX7_stretch_101 : decode cX7_stretch 101 = .ok (.iload_n 1, 1) := by decide +kernel
theorem dX7_stretch_102 : decode cX7_stretch 102 = .ok (.aload_n 0, 1) := by decide +kernel
theorem dX7_stretch_103 : decode cX7_stretch 103 = .ok (.getfield 12, 3) := by decide +kernel
theorem dX7_stretch_106 : decode cX7_stretch 106 = .ok (.getfield 63, 3) := by decide +kernel
theorem dX7_stretch_109 : decode cX7_stretch 109 = .ok (.iconst 5, 1) := by decide +kernel
theorem dX7_stretch_110 : decode cX7_stretch 110 = .ok (.invokevirtual 66, 3) := by decide +kernel
theorem dX7_stretch_113 : decode cX7_stretch 113 = .ok (.invokevirtual 165, 3) := by decide +kernel
theorem dX7_stretch_116 : decode cX7_stretch 116 = .ok (.ireturn, 1) := by decide +kernel
theorem dX7_stretch_117 : decode cX7_stretch 117 = .ok (.bipush (-2), 2) := by decide +kernel
theorem dX7_stretch_119 : decode cX7_stretch 119 = .ok (.ireturn, 1) := by decide +kernel
theorem dX7_walk_0 : decode cX7_walk 0 = .ok (.iload_n 1, 1) := by decide +kernel
theorem dX7_walk_1 : decode cX7_walk 1 = .ok (.tableswitch 255 0 14 #[75, 86, 97, 108, 119, 130, 141, 152, 163, 174, 185, 196, 207, 218, 229], 75) := by decide +kernel
theorem dX7_walk_76 : decode cX7_walk 76 = .ok (.aload_n 0, 1) := by decide +kernel
theorem dX7_walk_77 : decode cX7_walk 77 = .ok (.getfield 12, 3) := by decide +kernel
theorem dX7_walk_80 : decode cX7_walk 80 = .ok (.getfield 119, 3) := by decide +kernel
theorem dX7_walk_83 : decode cX7_walk 83 = .ok (.getfield 122, 3) := by decide +kernel
theorem dX7_walk_86 : decode cX7_walk 86 = .ok (.ireturn, 1) := by decide +kernel
theorem dX7_walk_87 : decode cX7_walk 87 = .ok (.aload_n 0, 1) := by decide +kernel
theorem dX7_walk_88 : decode cX7_walk 88 = .ok (.getfield 12, 3) := by decide +kernel
theorem dX7_walk_91 : decode cX7_walk 91 = .ok (.getfield 119, 3) := by decide +kernel
theorem dX7_walk_94 : decode cX7_walk 94 = .ok (.getfield 168, 3) := by decide +kernel
theorem dX7_walk_97 : decode cX7_walk 97 = .ok (.ireturn, 1) := by decide +kernel
theorem dX7_walk_98 : decode cX7_walk 98 = .ok (.aload_n 0, 1) := by decide +kernel
theorem dX7_walk_99 : decode cX7_walk 99 = .ok (.getfield 12, 3) := by decide +kernel
theorem dX7_walk_102 : decode cX7_walk 102 = .ok (.getfield 119, 3) := by decide +kernel
theorem dX7_walk_105 : decode cX7_walk 105 = .ok (.getfield 171, 3) := by decide +kernel
theorem dX7_walk_108 : decode cX7_walk 108 = .ok (.ireturn, 1) := by decide +kernel
theorem dX7_walk_109 : decode cX7_walk 109 = .ok (.aload_n 0, 1) := by decide +kernel
theorem dX7_walk_110 : decode cX7_walk 110 = .ok (.getfield 12, 3) := by decide +kernel
theorem dX7_walk_113 : decode cX7_walk 113 = .ok (.getfield 119, 3) := by decide +kernel
theorem dX7_walk_116 : decode cX7_walk 116 = .ok (.getfield 174, 3) := by decide +kernel
theorem dX7_walk_119 : decode cX7_walk 119 = .ok (.ireturn, 1) := by decide +kernel
theorem dX7_walk_120 : decode cX7_walk 120 = .ok (.aload_n 0, 1) := by decide +kernel
theorem dX7_walk_121 : decode cX7_walk 121 = .ok (.getfield 12, 3) := by decide +kernel
theorem dX7_walk_124 : decode cX7_walk 124 = .ok (.getfield 119, 3) := by decide +kernel
theorem dX7_walk_127 : decode cX7_walk 127 = .ok (.getfield 177, 3) := by decide +kernel
theorem dX7_walk_130 : decode cX7_walk 130 = .ok (.ireturn, 1) := by decide +kernel
theorem dX7_walk_131 : decode cX7_walk 131 = .ok (.aload_n 0, 1) := by decide +kernel
theorem dX7_walk_132 : decode cX7_walk 132 = .ok (.getfield 12, 3) := by decide +kernel
theorem dX7_walk_135 : decode cX7_walk 135 = .ok (.getfield 119, 3) := by decide +kernel
theorem dX7_walk_138 : decode cX7_walk 138 = .ok (.getfield 180, 3) := by decide +kernel
theorem dX7_walk_141 : decode cX7_walk 141 = .ok (.ireturn, 1) := by decide +kernel
theorem dX7_walk_142 : decode cX7_walk 142 = .ok (.aload_n 0, 1) := by decide +kernel
theorem dX7_walk_143 : decode cX7_walk 143 = .ok (.getfield 12, 3) := by decide +kernel
theorem dX7_walk_146 : decode cX7_walk 146 = .ok (.getfield 119, 3) := by decide +kernel
theorem dX7_walk_149 : decode cX7_walk 149 = .ok (.getfield 183, 3) := by decide +kernel
theorem dX7_walk_152 : decode cX7_walk 152 = .ok (.ireturn, 1) := by decide +kernel
theorem dX7_walk_153 : decode cX7_walk 153 = .ok (.aload_n 0, 1) := by decide +kernel
theorem dX7_walk_154 : decode cX7_walk 154 = .ok (.getfield 12, 3) := by decide +kernel
theorem dX7_walk_157 : decode cX7_walk 157 = .ok (.getfield 119, 3) := by decide +kernel
theorem dX7_walk_160 : decode cX7_walk 160 = .ok (.getfield 186, 3) := by decide +kernel
theorem dX7_walk_163 : decode cX7_walk 163 = .ok (.ireturn, 1) := by decide +kernel
theorem dX7_walk_164 : decode cX7_walk 164 = .ok (.aload_n 0, 1) := by decide +kernel
theorem dX7_walk_165 : decode cX7_walk 165 = .ok (.getfield 12, 3) := by decide +kernel
theorem dX7_walk_168 : decode cX7_walk 168 = .ok (.getfield 119, 3) := by decide +kernel
theorem dX7_walk_171 : decode cX7_walk 171 = .ok (.getfield 189, 3) := by decide +kernel
theorem dX7_walk_174 : decode cX7_walk 174 = .ok (.ireturn, 1) := by decide +kernel
theorem dX7_walk_175 : decode cX7_walk 175 = .ok (.aload_n 0, 1) := by decide +kernel
theorem dX7_walk_176 : decode cX7_walk 176 = .ok (.getfield 12, 3) := by decide +kernel
theorem dX7_walk_179 : decode cX7_walk 179 = .ok (.getfield 119, 3) := by decide +kernel
theorem dX7_walk_182 : decode cX7_walk 182 = .ok (.getfield 192, 3) := by decide +kernel
theorem dX7_walk_185 : decode cX7_walk 185 = .ok (.ireturn, 1) := by decide +kernel
theorem dX7_walk_186 : decode cX7_walk 186 = .ok (.aload_n 0, 1) := by decide +kernel
theorem dX7_walk_187 : decode cX7_walk 187 = .ok (.getfield 12, 3) := by decide +kernel
theorem dX7_walk_190 : decode cX7_walk 190 = .ok (.getfield 119, 3) := by decide +kernel
theorem dX7_walk_193 : decode cX7_walk 193 = .ok (.getfield 195, 3) := by decide +kernel
theorem dX7_walk_196 : decode cX7_walk 196 = .ok (.ireturn, 1) := by decide +kernel
theorem dX7_walk_197 : decode cX7_walk 197 = .ok (.aload_n 0, 1) := by decide +kernel
theorem dX7_walk_198 : decode cX7_walk 198 = .ok (.getfield 12, 3) := by decide +kernel
theorem dX7_walk_201 : decode cX7_walk 201 = .ok (.getfield 119, 3) := by decide +kernel
theorem dX7_walk_204 : decode cX7_walk 204 = .ok (.getfield 198, 3) := by decide +kernel
theorem dX7_walk_207 : decode cX7_walk 207 = .ok (.ireturn, 1) := by decide +kernel
theorem dX7_walk_208 : decode cX7_walk 208 = .ok (.aload_n 0, 1) := by decide +kernel
theorem dX7_walk_209 : decode cX7_walk 209 = .ok (.getfield 12, 3) := by decide +kernel
theorem dX7_walk_212 : decode cX7_walk 212 = .ok (.getfield 119, 3) := by decide +kernel
theorem dX7_walk_215 : decode cX7_walk 215 = .ok (.getfield 201, 3) := by decide +kernel
theorem dX7_walk_218 : decode cX7_walk 218 = .ok (.ireturn, 1) := by decide +kernel
theorem dX7_walk_219 : decode cX7_walk 219 = .ok (.aload_n 0, 1) := by decide +kernel
theorem dX7_walk_220 : decode cX7_walk 220 = .ok (.getfield 12, 3) := by decide +kernel
theorem dX7_walk_223 : decode cX7_walk 223 = .ok (.getfield 119, 3) := by decide +kernel
theorem dX7_walk_226 : decode cX7_walk 226 = .ok (.getfield 204, 3) := by decide +kernel
theorem dX7_walk_229 : decode cX7_walk 229 = .ok (.ireturn, 1) := by decide +kernel
theorem dX7_walk_230 : decode cX7_walk 230 = .ok (.aload_n 0, 1) := by decide +kernel
theorem dX7_walk_231 : decode cX7_walk 231 = .ok (.getfield 12, 3) := by decide +kernel
theorem dX7_walk_234 : decode cX7_walk 234 = .ok (.getfield 119, 3) := by decide +kernel
theorem dX7_walk_237 : decode cX7_walk 237 = .ok (.aload_n 0, 1) := by decide +kernel
theorem dX7_walk_238 : decode cX7_walk 238 = .ok (.getfield 12, 3) := by decide +kernel
theorem dX7_walk_241 : decode cX7_walk 241 = .ok (.getfield 95, 3) := by decide +kernel
theorem dX7_walk_244 : decode cX7_walk 244 = .ok (.invokevirtual 129, 3) := by decide +kernel
theorem dX7_walk_247 : decode cX7_walk 247 = .ok (.ifCond .eq 7, 3) := by decide +kernel
theorem dX7_walk_250 : decode cX7_walk 250 = .ok (.iconst 1, 1) := by decide +kernel
theorem dX7_walk_251 : decode cX7_walk 251 = .ok (.goto 4, 3) := by decide +kernel
theorem dX7_walk_254 : decode cX7_walk 254 = .ok (.iconst 0, 1) := by decide +kernel
theorem dX7_walk_255 : decode cX7_walk 255 = .ok (.ireturn, 1) := by decide +kernel
theorem dX7_walk_256 : decode cX7_walk 256 = .ok (.bipush (-2), 2) := by decide +kernel
theorem dX7_walk_258 : decode cX7_walk 258 = .ok (.ireturn, 1) := by decide +kernel
theorem dX7_count_0 : decode cX7_count 0 = .ok (.iload_n 1, 1) := by decide +kernel
theorem dX7_count_1 : decode cX7_count 1 = .ok (.tableswitch 150 0 12 #[67, 67, 67, 67, 67, 67, 79, 90, 101, 112, 123, 134, 142], 67) := by decide +kernel
theorem dX7_count_68 : decode cX7_count 68 = .ok (.aload_n 0, 1) := by decide +kernel
theorem dX7_count_69 : decode cX7_count 69 = .ok (.getfield 12, 3) := by decide +kernel
theorem dX7_count_72 : decode cX7_count 72 = .ok (.getfield 63, 3) := by decide +kernel
theorem dX7_count_75 : decode cX7_count 75 = .ok (.iload_n 1, 1) := by decide +kernel
theorem dX7_count_76 : decode cX7_count 76 = .ok (.invokevirtual 66, 3) := by decide +kernel
theorem dX7_count_79 : decode cX7_count 79 = .ok (.ireturn, 1) := by decide +kernel
theorem dX7_count_80 : decode cX7_count 80 = .ok (.aload_n 0, 1) := by decide +kernel
theorem dX7_count_81 : decode cX7_count 81 = .ok (.getfield 12, 3) := by decide +kernel
theorem dX7_count_84 : decode cX7_count 84 = .ok (.getfield 78, 3) := by decide +kernel
theorem dX7_count_87 : decode cX7_count 87 = .ok (.getfield 89, 3) := by decide +kernel
theorem dX7_count_90 : decode cX7_count 90 = .ok (.ireturn, 1) := by decide +kernel
theorem dX7_count_91 : decode cX7_count 91 = .ok (.aload_n 0, 1) := by decide +kernel
theorem dX7_count_92 : decode cX7_count 92 = .ok (.getfield 12, 3) := by decide +kernel
theorem dX7_count_95 : decode cX7_count 95 = .ok (.getfield 78, 3) := by decide +kernel
theorem dX7_count_98 : decode cX7_count 98 = .ok (.invokevirtual 207, 3) := by decide +kernel
theorem dX7_count_101 : decode cX7_count 101 = .ok (.ireturn, 1) := by decide +kernel
theorem dX7_count_102 : decode cX7_count 102 = .ok (.aload_n 0, 1) := by decide +kernel
theorem dX7_count_103 : decode cX7_count 103 = .ok (.getfield 12, 3) := by decide +kernel
theorem dX7_count_106 : decode cX7_count 106 = .ok (.getfield 78, 3) := by decide +kernel
theorem dX7_count_109 : decode cX7_count 109 = .ok (.invokevirtual 210, 3) := by decide +kernel
theorem dX7_count_112 : decode cX7_count 112 = .ok (.ireturn, 1) := by decide +kernel
theorem dX7_count_113 : decode cX7_count 113 = .ok (.aload_n 0, 1) := by decide +kernel
theorem dX7_count_114 : decode cX7_count 114 = .ok (.getfield 12, 3) := by decide +kernel
theorem dX7_count_117 : decode cX7_count 117 = .ok (.getfield 95, 3) := by decide +kernel
theorem dX7_count_120 : decode cX7_count 120 = .ok (.getfield 99, 3) := by decide +kernel
theorem dX7_count_123 : decode cX7_count 123 = .ok (.ireturn, 1) := by decide +kernel
theorem dX7_count_124 : decode cX7_count 124 = .ok (.aload_n 0, 1) := by decide +kernel
theorem dX7_count_125 : decode cX7_count 125 = .ok (.getfield 12, 3) := by decide +kernel
theorem dX7_count_128 : decode cX7_count 128 = .ok (.getfield 95, 3) := by decide +kernel
theorem dX7_count_131 : decode cX7_count 131 = .ok (.invokevirtual 213, 3) := by decide +kernel
theorem dX7_count_134 : decode cX7_count 134 = .ok (.ireturn, 1) := by decide +kernel
theorem dX7_count_135 : decode cX7_count 135 = .ok (.aload_n 0, 1) := by decide +kernel
theorem dX7_count_136 : decode cX7_count 136 = .ok (.getfield 34, 3) := by decide +kernel
theorem dX7_count_139 : decode cX7_count 139 = .ok (.getfield 215, 3) := by decide +kernel
theorem dX7_count_142 : decode cX7_count 142 = .ok (.ireturn, 1) := by decide +kernel
theorem dX7_count_143 : decode cX7_count 143 = .ok (.aload_n 0, 1) := by decide +kernel
theorem dX7_count_144 : decode cX7_count 144 = .ok (.getfield 27, 3) := by decide +kernel
theorem dX7_count_147 : decode cX7_count 147 = .ok (.getfield 218, 3) := by decide +kernel
theorem dX7_count_150 : decode cX7_count 150 = .ok (.ireturn, 1) := by decide +kernel
theorem dX7_count_151 : decode cX7_count 151 = .ok (.bipush (-2), 2) := by decide +kernel
theorem dX7_count_153 : decode cX7_count 153 = .ok (.ireturn, 1) := by decide +kernel
theorem dX7_untilWalked_0 : decode cX7_untilWalked 0 = .ok (.iload_n 1, 1) := by decide +kernel
theorem dX7_untilWalked_1 : decode cX7_untilWalked 1 = .ok (.ifCond .lt 8, 3) := by decide +kernel
theorem dX7_untilWalked_4 : decode cX7_untilWalked 4 = .ok (.iload_n 1, 1) := by decide +kernel
theorem dX7_untilWalked_5 : decode cX7_untilWalked 5 = .ok (.iconst 3, 1) := by decide +kernel
theorem dX7_untilWalked_6 : decode cX7_untilWalked 6 = .ok (.if_icmp .le 6, 3) := by decide +kernel
theorem dX7_untilWalked_9 : decode cX7_untilWalked 9 = .ok (.bipush (-2), 2) := by decide +kernel
theorem dX7_untilWalked_11 : decode cX7_untilWalked 11 = .ok (.ireturn, 1) := by decide +kernel
theorem dX7_untilWalked_12 : decode cX7_untilWalked 12 = .ok (.aload_n 0, 1) := by decide +kernel
theorem dX7_untilWalked_13 : decode cX7_untilWalked 13 = .ok (.invokevirtual 125, 3) := by decide +kernel
theorem dX7_untilWalked_16 : decode cX7_untilWalked 16 = .ok (.ifCond .ne 6, 3) := by decide +kernel
theorem dX7_untilWalked_19 : decode cX7_untilWalked 19 = .ok (.bipush (-5), 2) := by decide +kernel
theorem dX7_untilWalked_21 : decode cX7_untilWalked 21 = .ok (.ireturn, 1) := by decide +kernel
theorem dX7_untilWalked_22 : decode cX7_untilWalked 22 = .ok (.aload_n 0, 1) := by decide +kernel
theorem dX7_untilWalked_23 : decode cX7_untilWalked 23 = .ok (.getfield 41, 3) := by decide +kernel
theorem dX7_untilWalked_26 : decode cX7_untilWalked 26 = .ok (.aload_n 0, 1) := by decide +kernel
theorem dX7_untilWalked_27 : decode cX7_untilWalked 27 = .ok (.getfield 12, 3) := by decide +kernel
theorem dX7_untilWalked_30 : decode cX7_untilWalked 30 = .ok (.getfield 119, 3) := by decide +kernel
theorem dX7_untilWalked_33 : decode cX7_untilWalked 33 = .ok (.invokevirtual 221, 3) := by decide +kernel
theorem dX7_untilWalked_36 : decode cX7_untilWalked 36 = .ok (.aload_n 0, 1) := by decide +kernel
theorem dX7_untilWalked_37 : decode cX7_untilWalked 37 = .ok (.getfield 41, 3) := by decide +kernel
theorem dX7_untilWalked_40 : decode cX7_untilWalked 40 = .ok (.aload_n 0, 1) := by decide +kernel
theorem dX7_untilWalked_41 : decode cX7_untilWalked 41 = .ok (.getfield 12, 3) := by decide +kernel
theorem dX7_untilWalked_44 : decode cX7_untilWalked 44 = .ok (.getfield 78, 3) := by decide +kernel
theorem dX7_untilWalked_47 : decode cX7_untilWalked 47 = .ok (.aload_n 0, 1) := by decide +kernel
theorem dX7_untilWalked_48 : decode cX7_untilWalked 48 = .ok (.getfield 12, 3) := by decide +kernel
theorem dX7_untilWalked_51 : decode cX7_untilWalked 51 = .ok (.getfield 95, 3) := by decide +kernel
theorem dX7_untilWalked_54 : decode cX7_untilWalked 54 = .ok (.aload_n 0, 1) := by decide +kernel
theorem dX7_untilWalked_55 : decode cX7_untilWalked 55 = .ok (.getfield 12, 3) := by decide +kernel
theorem dX7_untilWalked_58 : decode cX7_untilWalked 58 = .ok (.getfield 63, 3) := by decide +kernel
theorem dX7_untilWalked_61 : decode cX7_untilWalked 61 = .ok (.sipush 5000, 3) := by decide +kernel
theorem dX7_untilWalked_64 : decode cX7_untilWalked 64 = .ok (.invokevirtual 133, 3) := by decide +kernel
theorem dX7_untilWalked_67 : decode cX7_untilWalked 67 = .ok (.aload_n 0, 1) := by decide +kernel
theorem dX7_untilWalked_68 : decode cX7_untilWalked 68 = .ok (.getfield 41, 3) := by decide +kernel
theorem dX7_untilWalked_71 : decode cX7_untilWalked 71 = .ok (.aload_n 0, 1) := by decide +kernel
theorem dX7_untilWalked_72 : decode cX7_untilWalked 72 = .ok (.getfield 12, 3) := by decide +kernel
theorem dX7_untilWalked_75 : decode cX7_untilWalked 75 = .ok (.getfield 95, 3) := by decide +kernel
theorem dX7_untilWalked_78 : decode cX7_untilWalked 78 = .ok (.invokevirtual 129, 3) := by decide +kernel
theorem dX7_untilWalked_81 : decode cX7_untilWalked 81 = .ok (.ifCond .ne 6, 3) := by decide +kernel
theorem dX7_untilWalked_84 : decode cX7_untilWalked 84 = .ok (.bipush (-6), 2) := by decide +kernel
theorem dX7_untilWalked_86 : decode cX7_untilWalked 86 = .ok (.ireturn, 1) := by decide +kernel
theorem dX7_untilWalked_87 : decode cX7_untilWalked 87 = .ok (.iload_n 1, 1) := by decide +kernel
theorem dX7_untilWalked_88 : decode cX7_untilWalked 88 = .ok (.tableswitch 85 0 2 #[28, 47, 66], 28) := by decide +kernel
theorem dX7_untilWalked_116 : decode cX7_untilWalked 116 = .ok (.aload_n 0, 1) := by decide +kernel
theorem dX7_untilWalked_117 : decode cX7_untilWalked 117 = .ok (.getfield 41, 3) := by decide +kernel
theorem dX7_untilWalked_120 : decode cX7_untilWalked 120 = .ok (.getfield 122, 3) := by decide +kernel
theorem dX7_untilWalked_123 : decode cX7_untilWalked 123 = .ok (.aload_n 0, 1) := by decide +kernel
theorem dX7_untilWalked_124 : decode cX7_untilWalked 124 = .ok (.getfield 12, 3) := by decide +kernel
theorem dX7_untilWalked_127 : decode cX7_untilWalked 127 = .ok (.getfield 119, 3) := by decide +kernel
theorem dX7_untilWalked_130 : decode cX7_untilWalked 130 = .ok (.getfield 122, 3) := by decide +kernel
theorem dX7_untilWalked_133 : decode cX7_untilWalked 133 = .ok (.isub, 1) := by decide +kernel
theorem dX7_untilWalked_134 : decode cX7_untilWalked 134 = .ok (.ireturn, 1) := by decide +kernel
theorem dX7_untilWalked_135 : decode cX7_untilWalked 135 = .ok (.aload_n 0, 1) := by decide +kernel
theorem dX7_untilWalked_136 : decode cX7_untilWalked 136 = .ok (.getfield 41, 3) := by decide +kernel
theorem dX7_untilWalked_139 : decode cX7_untilWalked 139 = .ok (.getfield 168, 3) := by decide +kernel
theorem dX7_untilWalked_142 : decode cX7_untilWalked 142 = .ok (.aload_n 0, 1) := by decide +kernel
theorem dX7_untilWalked_143 : decode cX7_untilWalked 143 = .ok (.getfield 12, 3) := by decide +kernel
theorem dX7_untilWalked_146 : decode cX7_untilWalked 146 = .ok (.getfield 119, 3) := by decide +kernel
theorem dX7_untilWalked_149 : decode cX7_untilWalked 149 = .ok (.getfield 168, 3) := by decide +kernel
theorem dX7_untilWalked_152 : decode cX7_untilWalked 152 = .ok (.isub, 1) := by decide +kernel
theorem dX7_untilWalked_153 : decode cX7_untilWalked 153 = .ok (.ireturn, 1) := by decide +kernel
theorem dX7_untilWalked_154 : decode cX7_untilWalked 154 = .ok (.aload_n 0, 1) := by decide +kernel
theorem dX7_untilWalked_155 : decode cX7_untilWalked 155 = .ok (.getfield 41, 3) := by decide +kernel
theorem dX7_untilWalked_158 : decode cX7_untilWalked 158 = .ok (.getfield 198, 3) := by decide +kernel
theorem dX7_untilWalked_161 : decode cX7_untilWalked 161 = .ok (.aload_n 0, 1) := by decide +kernel
theorem dX7_untilWalked_162 : decode cX7_untilWalked 162 = .ok (.getfield 12, 3) := by decide +kernel
theorem dX7_untilWalked_165 : decode cX7_untilWalked 165 = .ok (.getfield 119, 3) := by decide +kernel
theorem dX7_untilWalked_168 : decode cX7_untilWalked 168 = .ok (.getfield 198, 3) := by decide +kernel
theorem dX7_untilWalked_171 : decode cX7_untilWalked 171 = .ok (.isub, 1) := by decide +kernel
theorem dX7_untilWalked_172 : decode cX7_untilWalked 172 = .ok (.ireturn, 1) := by decide +kernel
theorem dX7_untilWalked_173 : decode cX7_untilWalked 173 = .ok (.aload_n 0, 1) := by decide +kernel
theorem dX7_untilWalked_174 : decode cX7_untilWalked 174 = .ok (.getfield 41, 3) := by decide +kernel
theorem dX7_untilWalked_177 : decode cX7_untilWalked 177 = .ok (.getfield 201, 3) := by decide +kernel
theorem dX7_untilWalked_180 : decode cX7_untilWalked 180 = .ok (.aload_n 0, 1) := by decide +kernel
theorem dX7_untilWalked_181 : decode cX7_untilWalked 181 = .ok (.getfield 12, 3) := by decide +kernel
theorem dX7_untilWalked_184 : decode cX7_untilWalked 184 = .ok (.getfield 119, 3) := by decide +kernel
theorem dX7_untilWalked_187 : decode cX7_untilWalked 187 = .ok (.getfield 201, 3) := by decide +kernel
theorem dX7_untilWalked_190 : decode cX7_untilWalked 190 = .ok (.isub, 1) := by decide +kernel
theorem dX7_untilWalked_191 : decode cX7_untilWalked 191 = .ok (.ireturn, 1) := by decide +kernel
theorem dX7_together_0 : decode cX7_together 0 = .ok (.aload_n 0, 1) := by decide +kernel
theorem dX7_together_1 : decode cX7_together 1 = .ok (.invokevirtual 125, 3) := by decide +kernel
theorem dX7_together_4 : decode cX7_together 4 = .ok (.ifCond .ne 6, 3) := by decide +kernel
theorem dX7_together_7 : decode cX7_together 7 = .ok (.bipush (-5), 2) := by decide +kernel
theorem dX7_together_9 : decode cX7_together 9 = .ok (.ireturn, 1) := by decide +kernel
theorem dX7_together_10 : decode cX7_together 10 = .ok (.aload_n 0, 1) := by decide +kernel
theorem dX7_together_11 : decode cX7_together 11 = .ok (.getfield 41, 3) := by decide +kernel
theorem dX7_together_14 : decode cX7_together 14 = .ok (.aload_n 0, 1) := by decide +kernel
theorem dX7_together_15 : decode cX7_together 15 = .ok (.getfield 12, 3) := by decide +kernel
theorem dX7_together_18 : decode cX7_together 18 = .ok (.getfield 119, 3) := by decide +kernel
theorem dX7_together_21 : decode cX7_together 21 = .ok (.invokevirtual 221, 3) := by decide +kernel
theorem dX7_together_24 : decode cX7_together 24 = .ok (.iconst 1, 1) := by decide +kernel
theorem dX7_together_25 : decode cX7_together 25 = .ok (.istore_n 1, 1) := by decide +kernel
theorem dX7_together_26 : decode cX7_together 26 = .ok (.iload_n 1, 1) := by decide +kernel
theorem dX7_together_27 : decode cX7_together 27 = .ok (.sipush 5000, 3) := by decide +kernel
theorem dX7_together_30 : decode cX7_together 30 = .ok (.if_icmp .gt 94, 3) := by decide +kernel
theorem dX7_together_33 : decode cX7_together 33 = .ok (.aload_n 0, 1) := by decide +kernel
theorem dX7_together_34 : decode cX7_together 34 = .ok (.getfield 41, 3) := by decide +kernel
theorem dX7_together_37 : decode cX7_together 37 = .ok (.aload_n 0, 1) := by decide +kernel
theorem dX7_together_38 : decode cX7_together 38 = .ok (.getfield 12, 3) := by decide +kernel
theorem dX7_together_41 : decode cX7_together 41 = .ok (.getfield 95, 3) := by decide +kernel
theorem dX7_together_44 : decode cX7_together 44 = .ok (.invokevirtual 129, 3) := by decide +kernel
theorem dX7_together_47 : decode cX7_together 47 = .ok (.ifCond .ne 77, 3) := by decide +kernel
theorem dX7_together_50 : decode cX7_together 50 = .ok (.aload_n 0, 1) := by decide +kernel
theorem dX7_together_51 : decode cX7_together 51 = .ok (.getfield 41, 3) := by decide +kernel
theorem dX7_together_54 : decode cX7_together 54 = .ok (.getfield 201, 3) := by decide +kernel
theorem dX7_together_57 : decode cX7_together 57 = .ok (.istore_n 2, 1) := by decide +kernel
theorem dX7_together_58 : decode cX7_together 58 = .ok (.aload_n 0, 1) := by decide +kernel
theorem dX7_together_59 : decode cX7_together 59 = .ok (.getfield 41, 3) := by decide +kernel
theorem dX7_together_62 : decode cX7_together 62 = .ok (.getfield 180, 3) := by decide +kernel
theorem dX7_together_65 : decode cX7_together 65 = .ok (.istore_n 3, 1) := by decide +kernel
theorem dX7_together_66 : decode cX7_together 66 = .ok (.aload_n 0, 1) := by decide +kernel
theorem dX7_together_67 : decode cX7_together 67 = .ok (.getfield 41, 3) := by decide +kernel
theorem dX7_together_70 : decode cX7_together 70 = .ok (.aload_n 0, 1) := by decide +kernel
theorem dX7_together_71 : decode cX7_together 71 = .ok (.getfield 12, 3) := by decide +kernel
theorem dX7_together_74 : decode cX7_together 74 = .ok (.getfield 78, 3) := by decide +kernel
theorem dX7_together_77 : decode cX7_together 77 = .ok (.aload_n 0, 1) := by decide +kernel
theorem dX7_together_78 : decode cX7_together 78 = .ok (.getfield 12, 3) := by decide +kernel
theorem dX7_together_81 : decode cX7_together 81 = .ok (.getfield 95, 3) := by decide +kernel
theorem dX7_together_84 : decode cX7_together 84 = .ok (.aload_n 0, 1) := by decide +kernel
theorem dX7_together_85 : decode cX7_together 85 = .ok (.getfield 12, 3) := by decide +kernel
theorem dX7_together_88 : decode cX7_together 88 = .ok (.getfield 63, 3) := by decide +kernel
theorem dX7_together_91 : decode cX7_together 91 = .ok (.invokevirtual 225, 3) := by decide +kernel
theorem dX7_together_94 : decode cX7_together 94 = .ok (.aload_n 0, 1) := by decide +kernel
theorem dX7_together_95 : decode cX7_together 95 = .ok (.getfield 41, 3) := by decide +kernel
theorem dX7_together_98 : decode cX7_together 98 = .ok (.getfield 201, 3) := by decide +kernel
theorem dX7_together_101 : decode cX7_together 101 = .ok (.iload_n 2, 1) := by decide +kernel
theorem dX7_together_102 : decode cX7_together 102 = .ok (.if_icmp .le 16, 3) := by decide +kernel
theorem dX7_together_105 : decode cX7_together 105 = .ok (.aload_n 0, 1) := by decide +kernel
theorem dX7_together_106 : decode cX7_together 106 = .ok (.getfield 41, 3) := by decide +kernel
theorem dX7_together_109 : decode cX7_together 109 = .ok (.getfield 180, 3) := by decide +kernel
theorem dX7_together_112 : decode cX7_together 112 = .ok (.iload_n 3, 1) := by decide +kernel
theorem dX7_together_113 : decode cX7_together 113 = .ok (.if_icmp .le 5, 3) := by decide +kernel
theorem dX7_together_116 : decode cX7_together 116 = .ok (.iload_n 1, 1) := by decide +kernel
theorem dX7_together_117 : decode cX7_together 117 = .ok (.ireturn, 1) := by decide +kernel
theorem dX7_together_118 : decode cX7_together 118 = .ok (.iinc 1 1, 3) := by decide +kernel
theorem dX7_together_121 : decode cX7_together 121 = .ok (.goto (-95), 3) := by decide +kernel
theorem dX7_together_124 : decode cX7_together 124 = .ok (.bipush (-6), 2) := by decide +kernel
theorem dX7_together_126 : decode cX7_together 126 = .ok (.ireturn, 1) := by decide +kernel
theorem dX7_meets_0 : decode cX7_meets 0 = .ok (.aload_n 0, 1) := by decide +kernel
theorem dX7_meets_1 : decode cX7_meets 1 = .ok (.getfield 12, 3) := by decide +kernel
theorem dX7_meets_4 : decode cX7_meets 4 = .ok (.getfield 95, 3) := by decide +kernel
theorem dX7_meets_7 : decode cX7_meets 7 = .ok (.iload_n 1, 1) := by decide +kernel
theorem dX7_meets_8 : decode cX7_meets 8 = .ok (.invokevirtual 108, 3) := by decide +kernel
theorem dX7_meets_11 : decode cX7_meets 11 = .ok (.ifCond .ne 5, 3) := by decide +kernel
theorem dX7_meets_14 : decode cX7_meets 14 = .ok (.iconst (-1), 1) := by decide +kernel
theorem dX7_meets_15 : decode cX7_meets 15 = .ok (.ireturn, 1) := by decide +kernel
theorem dX7_meets_16 : decode cX7_meets 16 = .ok (.iload_n 2, 1) := by decide +kernel
theorem dX7_meets_17 : decode cX7_meets 17 = .ok (.ifCond .eq 11, 3) := by decide +kernel
theorem dX7_meets_20 : decode cX7_meets 20 = .ok (.iload_n 2, 1) := by decide +kernel
theorem dX7_meets_21 : decode cX7_meets 21 = .ok (.iconst 1, 1) := by decide +kernel
theorem dX7_meets_22 : decode cX7_meets 22 = .ok (.if_icmp .eq 6, 3) := by decide +kernel
theorem dX7_meets_25 : decode cX7_meets 25 = .ok (.bipush (-2), 2) := by decide +kernel
theorem dX7_meets_27 : decode cX7_meets 27 = .ok (.ireturn, 1) := by decide +kernel
theorem dX7_meets_28 : decode cX7_meets 28 = .ok (.aload_n 0, 1) := by decide +kernel
theorem dX7_meets_29 : decode cX7_meets 29 = .ok (.getfield 12, 3) := by decide +kernel
theorem dX7_meets_32 : decode cX7_meets 32 = .ok (.getfield 78, 3) := by decide +kernel
theorem dX7_meets_35 : decode cX7_meets 35 = .ok (.getfield 89, 3) := by decide +kernel
theorem dX7_meets_38 : decode cX7_meets 38 = .ok (.ifCond .ne 6, 3) := by decide +kernel
theorem dX7_meets_41 : decode cX7_meets 41 = .ok (.bipush (-5), 2) := by decide +kernel
theorem dX7_meets_43 : decode cX7_meets 43 = .ok (.ireturn, 1) := by decide +kernel
theorem dX7_meets_44 : decode cX7_meets 44 = .ok (.aload_n 0, 1) := by decide +kernel
theorem dX7_meets_45 : decode cX7_meets 45 = .ok (.getfield 12, 3) := by decide +kernel
theorem dX7_meets_48 : decode cX7_meets 48 = .ok (.getfield 95, 3) := by decide +kernel
theorem dX7_meets_51 : decode cX7_meets 51 = .ok (.iload_n 1, 1) := by decide +kernel
theorem dX7_meets_52 : decode cX7_meets 52 = .ok (.invokevirtual 112, 3) := by decide +kernel
theorem dX7_meets_55 : decode cX7_meets 55 = .ok (.istore_n 3, 1) := by decide +kernel
theorem dX7_meets_56 : decode cX7_meets 56 = .ok (.aload_n 0, 1) := by decide +kernel
theorem dX7_meets_57 : decode cX7_meets 57 = .ok (.getfield 12, 3) := by decide +kernel
theorem dX7_meets_60 : decode cX7_meets 60 = .ok (.getfield 78, 3) := by decide +kernel
theorem dX7_meets_63 : decode cX7_meets 63 = .ok (.invokevirtual 207, 3) := by decide +kernel
theorem dX7_meets_66 : decode cX7_meets 66 = .ok (.istore 4, 2) := by decide +kernel
theorem dX7_meets_68 : decode cX7_meets 68 = .ok (.iload_n 2, 1) := by decide +kernel
theorem dX7_meets_69 : decode cX7_meets 69 = .ok (.ifCond .ne 12, 3) := by decide +kernel
theorem dX7_meets_72 : decode cX7_meets 72 = .ok (.iload 4, 2) := by decide +kernel
theorem dX7_meets_74 : decode cX7_meets 74 = .ok (.iload_n 3, 1) := by decide +kernel
theorem dX7_meets_75 : decode cX7_meets 75 = .ok (.invokestatic 229, 3) := by decide +kernel
theorem dX7_meets_78 : decode cX7_meets 78 = .ok (.goto 9, 3) := by decide +kernel
theorem dX7_meets_81 : decode cX7_meets 81 = .ok (.iload 4, 2) := by decide +kernel
theorem dX7_meets_83 : decode cX7_meets 83 = .ok (.iload_n 3, 1) := by decide +kernel
theorem dX7_meets_84 : decode cX7_meets 84 = .ok (.invokestatic 232, 3) := by decide +kernel
theorem dX7_meets_87 : decode cX7_meets 87 = .ok (.ireturn, 1) := by decide +kernel
theorem dX7_leastBreath_0 : decode cX7_leastBreath 0 = .ok (.aload_n 0, 1) := by decide +kernel
theorem dX7_leastBreath_1 : decode cX7_leastBreath 1 = .ok (.invokevirtual 125, 3) := by decide +kernel
theorem dX7_leastBreath_4 : decode cX7_leastBreath 4 = .ok (.ifCond .ne 6, 3) := by decide +kernel
theorem dX7_leastBreath_7 : decode cX7_leastBreath 7 = .ok (.bipush (-5), 2) := by decide +kernel
theorem dX7_leastBreath_9 : decode cX7_leastBreath 9 = .ok (.ireturn, 1) := by decide +kernel
theorem dX7_leastBreath_10 : decode cX7_leastBreath 10 = .ok (.aload_n 0, 1) := by decide +kernel
theorem dX7_leastBreath_11 : decode cX7_leastBreath 11 = .ok (.getfield 48, 3) := by decide +kernel
theorem dX7_leastBreath_14 : decode cX7_leastBreath 14 = .ok (.aload_n 0, 1) := by decide +kernel
theorem dX7_leastBreath_15 : decode cX7_leastBreath 15 = .ok (.getfield 12, 3) := by decide +kernel
theorem dX7_leastBreath_18 : decode cX7_leastBreath 18 = .ok (.getfield 63, 3) := by decide +kernel
theorem dX7_leastBreath_21 : decode cX7_leastBreath 21 = .ok (.invokevirtual 235, 3) := by decide +kernel
theorem dX7_leastBreath_24 : decode cX7_leastBreath 24 = .ok (.aload_n 0, 1) := by decide +kernel
theorem dX7_leastBreath_25 : decode cX7_leastBreath 25 = .ok (.getfield 48, 3) := by decide +kernel
theorem dX7_leastBreath_28 : decode cX7_leastBreath 28 = .ok (.iconst 4, 1) := by decide +kernel
theorem dX7_leastBreath_29 : decode cX7_leastBreath 29 = .ok (.ldc 238, 2) := by decide +kernel
theorem dX7_leastBreath_31 : decode cX7_leastBreath 31 = .ok (.invokevirtual 70, 3) := by decide +kernel
theorem dX7_leastBreath_34 : decode cX7_leastBreath 34 = .ok (.aload_n 0, 1) := by decide +kernel
theorem dX7_leastBreath_35 : decode cX7_leastBreath 35 = .ok (.getfield 41, 3) := by decide +kernel
theorem dX7_leastBreath_38 : decode cX7_leastBreath 38 = .ok (.ldc 238, 2) := by decide +kernel
theorem dX7_leastBreath_40 : decode cX7_leastBreath 40 = .ok (.invokevirtual 239, 3) := by decide +kernel
theorem dX7_leastBreath_43 : decode cX7_leastBreath 43 = .ok (.ldc 238, 2) := by decide +kernel
theorem dX7_leastBreath_45 : decode cX7_leastBreath 45 = .ok (.istore_n 1, 1) := by decide +kernel
theorem dX7_leastBreath_46 : decode cX7_leastBreath 46 = .ok (.iconst 0, 1) := by decide +kernel
theorem dX7_leastBreath_47 : decode cX7_leastBreath 47 = .ok (.istore_n 2, 1) := by decide +kernel
theorem dX7_leastBreath_48 : decode cX7_leastBreath 48 = .ok (.iload_n 2, 1) := by decide +kernel
theorem dX7_leastBreath_49 : decode cX7_leastBreath 49 = .ok (.sipush 5000, 3) := by decide +kernel
theorem dX7_leastBreath_52 : decode cX7_leastBreath 52 = .ok (.if_icmp .ge 63, 3) := by decide +kernel
theorem dX7_leastBreath_55 : decode cX7_leastBreath 55 = .ok (.aload_n 0, 1) := by decide +kernel
theorem dX7_leastBreath_56 : decode cX7_leastBreath 56 = .ok (.getfield 41, 3) := by decide +kernel
theorem dX7_leastBreath_59 : decode cX7_leastBreath 59 = .ok (.aload_n 0, 1) := by decide +kernel
theorem dX7_leastBreath_60 : decode cX7_leastBreath 60 = .ok (.getfield 12, 3) := by decide +kernel
theorem dX7_leastBreath_63 : decode cX7_leastBreath 63 = .ok (.getfield 95, 3) := by decide +kernel
theorem dX7_leastBreath_66 : decode cX7_leastBreath 66 = .ok (.invokevirtual 129, 3) := by decide +kernel
theorem dX7_leastBreath_69 : decode cX7_leastBreath 69 = .ok (.ifCond .ne 46, 3) := by decide +kernel
theorem dX7_leastBreath_72 : decode cX7_leastBreath 72 = .ok (.aload_n 0, 1) := by decide +kernel
theorem dX7_leastBreath_73 : decode cX7_leastBreath 73 = .ok (.getfield 41, 3) := by decide +kernel
theorem dX7_leastBreath_76 : decode cX7_leastBreath 76 = .ok (.aload_n 0, 1) := by decide +kernel
theorem dX7_leastBreath_77 : decode cX7_leastBreath 77 = .ok (.getfield 12, 3) := by decide +kernel
theorem dX7_leastBreath_80 : decode cX7_leastBreath 80 = .ok (.getfield 78, 3) := by decide +kernel
theorem dX7_leastBreath_83 : decode cX7_leastBreath 83 = .ok (.aload_n 0, 1) := by decide +kernel
theorem dX7_leastBreath_84 : decode cX7_leastBreath 84 = .ok (.getfield 12, 3) := by decide +kernel
theorem dX7_leastBreath_87 : decode cX7_leastBreath 87 = .ok (.getfield 95, 3) := by decide +kernel
theorem dX7_leastBreath_90 : decode cX7_leastBreath 90 = .ok (.aload_n 0, 1) := by decide +kernel
theorem dX7_leastBreath_91 : decode cX7_leastBreath 91 = .ok (.getfield 48, 3) := by decide +kernel
theorem dX7_leastBreath_94 : decode cX7_leastBreath 94 = .ok (.invokevirtual 225, 3) := by decide +kernel
theorem dX7_leastBreath_97 : decode cX7_leastBreath 97 = .ok (.iload_n 1, 1) := by decide +kernel
theorem dX7_leastBreath_98 : decode cX7_leastBreath 98 = .ok (.aload_n 0, 1) := by decide +kernel
theorem dX7_leastBreath_99 : decode cX7_leastBreath 99 = .ok (.getfield 41, 3) := by decide +kernel
theorem dX7_leastBreath_102 : decode cX7_leastBreath 102 = .ok (.getfield 186, 3) := by decide +kernel
theorem dX7_leastBreath_105 : decode cX7_leastBreath 105 = .ok (.invokestatic 242, 3) := by decide +kernel
theorem dX7_leastBreath_108 : decode cX7_leastBreath 108 = .ok (.istore_n 1, 1) := by decide +kernel
theorem dX7_leastBreath_109 : decode cX7_leastBreath 109 = .ok (.iinc 2 1, 3) := by decide +kernel
theorem dX7_leastBreath_112 : decode cX7_leastBreath 112 = .ok (.goto (-64), 3) := by decide +kernel
theorem dX7_leastBreath_115 : decode cX7_leastBreath 115 = .ok (.getstatic 247, 3) := by decide +kernel
theorem dX7_leastBreath_118 : decode cX7_leastBreath 118 = .ok (.iconst 4, 1) := by decide +kernel
theorem dX7_leastBreath_119 : decode cX7_leastBreath 119 = .ok (.iaload, 1) := by decide +kernel
theorem dX7_leastBreath_120 : decode cX7_leastBreath 120 = .ok (.ldc 238, 2) := by decide +kernel
theorem dX7_leastBreath_122 : decode cX7_leastBreath 122 = .ok (.iload_n 1, 1) := by decide +kernel
theorem dX7_leastBreath_123 : decode cX7_leastBreath 123 = .ok (.isub, 1) := by decide +kernel
theorem dX7_leastBreath_124 : decode cX7_leastBreath 124 = .ok (.invokestatic 251, 3) := by decide +kernel
theorem dX7_leastBreath_127 : decode cX7_leastBreath 127 = .ok (.istore_n 2, 1) := by decide +kernel
theorem dX7_leastBreath_128 : decode cX7_leastBreath 128 = .ok (.aload_n 0, 1) := by decide +kernel
theorem dX7_leastBreath_129 : decode cX7_leastBreath 129 = .ok (.getfield 41, 3) := by decide +kernel
theorem dX7_leastBreath_132 : decode cX7_leastBreath 132 = .ok (.aload_n 0, 1) := by decide +kernel
theorem dX7_leastBreath_133 : decode cX7_leastBreath 133 = .ok (.getfield 12, 3) := by decide +kernel
theorem dX7_leastBreath_136 : decode cX7_leastBreath 136 = .ok (.getfield 95, 3) := by decide +kernel
theorem dX7_leastBreath_139 : decode cX7_leastBreath 139 = .ok (.invokevirtual 129, 3) := by decide +kernel
theorem dX7_leastBreath_142 : decode cX7_leastBreath 142 = .ok (.ifCond .eq 12, 3) := by decide +kernel
theorem dX7_leastBreath_145 : decode cX7_leastBreath 145 = .ok (.iload_n 2, 1) := by decide +kernel
theorem dX7_leastBreath_146 : decode cX7_leastBreath 146 = .ok (.getstatic 254, 3) := by decide +kernel
theorem dX7_leastBreath_149 : decode cX7_leastBreath 149 = .ok (.iconst 4, 1) := by decide +kernel
theorem dX7_leastBreath_150 : decode cX7_leastBreath 150 = .ok (.iaload, 1) := by decide +kernel
theorem dX7_leastBreath_151 : decode cX7_leastBreath 151 = .ok (.if_icmp .le 6, 3) := by decide +kernel
theorem dX7_leastBreath_154 : decode cX7_leastBreath 154 = .ok (.bipush (-6), 2) := by decide +kernel
theorem dX7_leastBreath_156 : decode cX7_leastBreath 156 = .ok (.ireturn, 1) := by decide +kernel
theorem dX7_leastBreath_157 : decode cX7_leastBreath 157 = .ok (.iload_n 2, 1) := by decide +kernel
theorem dX7_leastBreath_158 : decode cX7_leastBreath 158 = .ok (.ireturn, 1) := by decide +kernel
theorem dX7_bestPause_0 : decode cX7_bestPause 0 = .ok (.aload_n 0, 1) := by decide +kernel
theorem dX7_bestPause_1 : decode cX7_bestPause 1 = .ok (.invokevirtual 125, 3) := by decide +kernel
theorem dX7_bestPause_4 : decode cX7_bestPause 4 = .ok (.ifCond .ne 6, 3) := by decide +kernel
theorem dX7_bestPause_7 : decode cX7_bestPause 7 = .ok (.bipush (-5), 2) := by decide +kernel
theorem dX7_bestPause_9 : decode cX7_bestPause 9 = .ok (.ireturn, 1) := by decide +kernel
theorem dX7_bestPause_10 : decode cX7_bestPause 10 = .ok (.aload_n 0, 1) := by decide +kernel
theorem dX7_bestPause_11 : decode cX7_bestPause 11 = .ok (.getfield 48, 3) := by decide +kernel
theorem dX7_bestPause_14 : decode cX7_bestPause 14 = .ok (.aload_n 0, 1) := by decide +kernel
theorem dX7_bestPause_15 : decode cX7_bestPause 15 = .ok (.getfield 12, 3) := by decide +kernel
theorem dX7_bestPause_18 : decode cX7_bestPause 18 = .ok (.getfield 63, 3) := by decide +kernel
theorem dX7_bestPause_21 : decode cX7_bestPause 21 = .ok (.invokevirtual 235, 3) := by decide +kernel
theorem dX7_bestPause_24 : decode cX7_bestPause 24 = .ok (.bipush (-6), 2) := by decide +kernel
theorem dX7_bestPause_26 : decode cX7_bestPause 26 = .ok (.istore_n 1, 1) := by decide +kernel
theorem dX7_bestPause_27 : decode cX7_bestPause 27 = .ok (.sipush 5000, 3) := by decide +kernel
theorem dX7_bestPause_30 : decode cX7_bestPause 30 = .ok (.istore_n 2, 1) := by decide +kernel
theorem dX7_bestPause_31 : decode cX7_bestPause 31 = .ok (.getstatic 247, 3) := by decide +kernel
theorem dX7_bestPause_34 : decode cX7_bestPause 34 = .ok (.iconst 1, 1) := by decide +kernel
theorem dX7_bestPause_35 : decode cX7_bestPause 35 = .ok (.iaload, 1) := by decide +kernel
theorem dX7_bestPause_36 : decode cX7_bestPause 36 = .ok (.istore_n 3, 1) := by decide +kernel
theorem dX7_bestPause_37 : decode cX7_bestPause 37 = .ok (.iload_n 3, 1) := by decide +kernel
theorem dX7_bestPause_38 : decode cX7_bestPause 38 = .ok (.getstatic 254, 3) := by decide +kernel
theorem dX7_bestPause_41 : decode cX7_bestPause 41 = .ok (.iconst 1, 1) := by decide +kernel
theorem dX7_bestPause_42 : decode cX7_bestPause 42 = .ok (.iaload, 1) := by decide +kernel
theorem dX7_bestPause_43 : decode cX7_bestPause 43 = .ok (.if_icmp .gt 91, 3) := by decide +kernel
theorem dX7_bestPause_46 : decode cX7_bestPause 46 = .ok (.aload_n 0, 1) := by decide +kernel
theorem dX7_bestPause_47 : decode cX7_bestPause 47 = .ok (.getfield 48, 3) := by decide +kernel
theorem dX7_bestPause_50 : decode cX7_bestPause 50 = .ok (.iconst 1, 1) := by decide +kernel
theorem dX7_bestPause_51 : decode cX7_bestPause 51 = .ok (.iload_n 3, 1) := by decide +kernel
theorem dX7_bestPause_52 : decode cX7_bestPause 52 = .ok (.invokevirtual 70, 3) := by decide +kernel
theorem dX7_bestPause_55 : decode cX7_bestPause 55 = .ok (.aload_n 0, 1) := by decide +kernel
theorem dX7_bestPause_56 : decode cX7_bestPause 56 = .ok (.getfield 41, 3) := by decide +kernel
theorem dX7_bestPause_59 : decode cX7_bestPause 59 = .ok (.aload_n 0, 1) := by decide +kernel
theorem dX7_bestPause_60 : decode cX7_bestPause 60 = .ok (.getfield 12, 3) := by decide +kernel
theorem dX7_bestPause_63 : decode cX7_bestPause 63 = .ok (.getfield 63, 3) := by decide +kernel
theorem dX7_bestPause_66 : decode cX7_bestPause 66 = .ok (.iconst 4, 1) := by decide +kernel
theorem dX7_bestPause_67 : decode cX7_bestPause 67 = .ok (.invokevirtual 66, 3) := by decide +kernel
theorem dX7_bestPause_70 : decode cX7_bestPause 70 = .ok (.invokevirtual 239, 3) := by decide +kernel
theorem dX7_bestPause_73 : decode cX7_bestPause 73 = .ok (.aload_n 0, 1) := by decide +kernel
theorem dX7_bestPause_74 : decode cX7_bestPause 74 = .ok (.getfield 41, 3) := by decide +kernel
theorem dX7_bestPause_77 : decode cX7_bestPause 77 = .ok (.aload_n 0, 1) := by decide +kernel
theorem dX7_bestPause_78 : decode cX7_bestPause 78 = .ok (.getfield 12, 3) := by decide +kernel
theorem dX7_bestPause_81 : decode cX7_bestPause 81 = .ok (.getfield 78, 3) := by decide +kernel
theorem dX7_bestPause_84 : decode cX7_bestPause 84 = .ok (.aload_n 0, 1) := by decide +kernel
theorem dX7_bestPause_85 : decode cX7_bestPause 85 = .ok (.getfield 12, 3) := by decide +kernel
theorem dX7_bestPause_88 : decode cX7_bestPause 88 = .ok (.getfield 95, 3) := by decide +kernel
theorem dX7_bestPause_91 : decode cX7_bestPause 91 = .ok (.aload_n 0, 1) := by decide +kernel
theorem dX7_bestPause_92 : decode cX7_bestPause 92 = .ok (.getfield 48, 3) := by decide +kernel
theorem dX7_bestPause_95 : decode cX7_bestPause 95 = .ok (.iload_n 2, 1) := by decide +kernel
theorem dX7_bestPause_96 : decode cX7_bestPause 96 = .ok (.invokevirtual 133, 3) := by decide +kernel
theorem dX7_bestPause_99 : decode cX7_bestPause 99 = .ok (.aload_n 0, 1) := by decide +kernel
theorem dX7_bestPause_100 : decode cX7_bestPause 100 = .ok (.getfield 41, 3) := by decide +kernel
theorem dX7_bestPause_103 : decode cX7_bestPause 103 = .ok (.aload_n 0, 1) := by decide +kernel
theorem dX7_bestPause_104 : decode cX7_bestPause 104 = .ok (.getfield 12, 3) := by decide +kernel
theorem dX7_bestPause_107 : decode cX7_bestPause 107 = .ok (.getfield 95, 3) := by decide +kernel
theorem dX7_bestPause_110 : decode cX7_bestPause 110 = .ok (.invokevirtual 129, 3) := by decide +kernel
theorem dX7_bestPause_113 : decode cX7_bestPause 113 = .ok (.ifCond .eq 15, 3) := by decide +kernel
theorem dX7_bestPause_116 : decode cX7_bestPause 116 = .ok (.iload_n 3, 1) := by decide +kernel
theorem dX7_bestPause_117 : decode cX7_bestPause 117 = .ok (.istore_n 1, 1) := by decide +kernel
theorem dX7_bestPause_118 : decode cX7_bestPause 118 = .ok (.aload_n 0, 1) := by decide +kernel
theorem dX7_bestPause_119 : decode cX7_bestPause 119 = .ok (.getfield 41, 3) := by decide +kernel
theorem dX7_bestPause_122 : decode cX7_bestPause 122 = .ok (.getfield 122, 3) := by decide +kernel
theorem dX7_bestPause_125 : decode cX7_bestPause 125 = .ok (.iconst 1, 1) := by decide +kernel
theorem dX7_bestPause_126 : decode cX7_bestPause 126 = .ok (.isub, 1) := by decide +kernel
theorem dX7_bestPause_127 : decode cX7_bestPause 127 = .ok (.istore_n 2, 1) := by decide +kernel
theorem dX7_bestPause_128 : decode cX7_bestPause 128 = .ok (.iinc 3 1, 3) := by decide +kernel
theorem dX7_bestPause_131 : decode cX7_bestPause 131 = .ok (.goto (-94), 3) := by decide +kernel
theorem dX7_bestPause_134 : decode cX7_bestPause 134 = .ok (.iload_n 1, 1) := by decide +kernel
theorem dX7_bestPause_135 : decode cX7_bestPause 135 = .ok (.ireturn, 1) := by decide +kernel
theorem dX7_put_0 : decode cX7_put 0 = .ok (.lload_n 1, 1) := by decide +kernel
theorem dX7_put_1 : decode cX7_put 1 = .ok (.invokestatic 257, 3) := by decide +kernel
theorem dX7_put_4 : decode cX7_put 4 = .ok (.istore_n 3, 1) := by decide +kernel
theorem dX7_put_5 : decode cX7_put 5 = .ok (.iload_n 3, 1) := by decide +kernel
theorem dX7_put_6 : decode cX7_put 6 = .ok (.ifCond .ne 6, 3) := by decide +kernel
theorem dX7_put_9 : decode cX7_put 9 = .ok (.bipush (-2), 2) := by decide +kernel
theorem dX7_put_11 : decode cX7_put 11 = .ok (.ireturn, 1) := by decide +kernel
theorem dX7_put_12 : decode cX7_put 12 = .ok (.aload_n 0, 1) := by decide +kernel
theorem dX7_put_13 : decode cX7_put 13 = .ok (.getfield 34, 3) := by decide +kernel
theorem dX7_put_16 : decode cX7_put 16 = .ok (.getfield 215, 3) := by decide +kernel
theorem dX7_put_19 : decode cX7_put 19 = .ok (.iload_n 3, 1) := by decide +kernel
theorem dX7_put_20 : decode cX7_put 20 = .ok (.iadd, 1) := by decide +kernel
theorem dX7_put_21 : decode cX7_put 21 = .ok (.bipush 60, 2) := by decide +kernel
theorem dX7_put_23 : decode cX7_put 23 = .ok (.if_icmp .le 6, 3) := by decide +kernel
theorem dX7_put_26 : decode cX7_put 26 = .ok (.bipush (-4), 2) := by decide +kernel
theorem dX7_put_28 : decode cX7_put 28 = .ok (.ireturn, 1) := by decide +kernel
theorem dX7_put_29 : decode cX7_put 29 = .ok (.iload_n 3, 1) := by decide +kernel
theorem dX7_put_30 : decode cX7_put 30 = .ok (.iconst 1, 1) := by decide +kernel
theorem dX7_put_31 : decode cX7_put 31 = .ok (.isub, 1) := by decide +kernel
theorem dX7_put_32 : decode cX7_put 32 = .ok (.istore 4, 2) := by decide +kernel
theorem dX7_put_34 : decode cX7_put 34 = .ok (.iload 4, 2) := by decide +kernel
theorem dX7_put_36 : decode cX7_put 36 = .ok (.ifCond .lt 22, 3) := by decide +kernel
theorem dX7_put_39 : decode cX7_put 39 = .ok (.aload_n 0, 1) := by decide +kernel
theorem dX7_put_40 : decode cX7_put 40 = .ok (.getfield 34, 3) := by decide +kernel
theorem dX7_put_43 : decode cX7_put 43 = .ok (.lload_n 1, 1) := by decide +kernel
theorem dX7_put_44 : decode cX7_put 44 = .ok (.iload 4, 2) := by decide +kernel
theorem dX7_put_46 : decode cX7_put 46 = .ok (.invokestatic 261, 3) := by decide +kernel
theorem dX7_put_49 : decode cX7_put 49 = .ok (.invokevirtual 265, 3) := by decide +kernel
theorem dX7_put_52 : decode cX7_put 52 = .ok (.iinc 4 (-1), 3) := by decide +kernel
theorem dX7_put_55 : decode cX7_put 55 = .ok (.goto (-21), 3) := by decide +kernel
theorem dX7_put_58 : decode cX7_put 58 = .ok (.aload_n 0, 1) := by decide +kernel
theorem dX7_put_59 : decode cX7_put 59 = .ok (.getfield 34, 3) := by decide +kernel
theorem dX7_put_62 : decode cX7_put 62 = .ok (.getfield 215, 3) := by decide +kernel
theorem dX7_put_65 : decode cX7_put 65 = .ok (.ireturn, 1) := by decide +kernel
theorem dX7_wipe_0 : decode cX7_wipe 0 = .ok (.aload_n 0, 1) := by decide +kernel
theorem dX7_wipe_1 : decode cX7_wipe 1 = .ok (.getfield 34, 3) := by decide +kernel
theorem dX7_wipe_4 : decode cX7_wipe 4 = .ok (.getfield 215, 3) := by decide +kernel
theorem dX7_wipe_7 : decode cX7_wipe 7 = .ok (.istore_n 1, 1) := by decide +kernel
theorem dX7_wipe_8 : decode cX7_wipe 8 = .ok (.aload_n 0, 1) := by decide +kernel
theorem dX7_wipe_9 : decode cX7_wipe 9 = .ok (.getfield 34, 3) := by decide +kernel
theorem dX7_wipe_12 : decode cX7_wipe 12 = .ok (.invokevirtual 86, 3) := by decide +kernel
theorem dX7_wipe_15 : decode cX7_wipe 15 = .ok (.iload_n 1, 1) := by decide +kernel
theorem dX7_wipe_16 : decode cX7_wipe 16 = .ok (.ireturn, 1) := by decide +kernel
theorem dX7_fault_0 : decode cX7_fault 0 = .ok (.aload_n 0, 1) := by decide +kernel
theorem dX7_fault_1 : decode cX7_fault 1 = .ok (.getfield 34, 3) := by decide +kernel
theorem dX7_fault_4 : decode cX7_fault 4 = .ok (.invokevirtual 74, 3) := by decide +kernel
theorem dX7_fault_7 : decode cX7_fault 7 = .ok (.ireturn, 1) := by decide +kernel
theorem dX7_undo_0 : decode cX7_undo 0 = .ok (.aload_n 0, 1) := by decide +kernel
theorem dX7_undo_1 : decode cX7_undo 1 = .ok (.getfield 27, 3) := by decide +kernel
theorem dX7_undo_4 : decode cX7_undo 4 = .ok (.getfield 218, 3) := by decide +kernel
theorem dX7_undo_7 : decode cX7_undo 7 = .ok (.ifCond .ne 6, 3) := by decide +kernel
theorem dX7_undo_10 : decode cX7_undo 10 = .ok (.bipush (-5), 2) := by decide +kernel
theorem dX7_undo_12 : decode cX7_undo 12 = .ok (.ireturn, 1) := by decide +kernel
theorem dX7_undo_13 : decode cX7_undo 13 = .ok (.aload_n 0, 1) := by decide +kernel
theorem dX7_undo_14 : decode cX7_undo 14 = .ok (.getfield 27, 3) := by decide +kernel
theorem dX7_undo_17 : decode cX7_undo 17 = .ok (.aload_n 0, 1) := by decide +kernel
theorem dX7_undo_18 : decode cX7_undo 18 = .ok (.getfield 12, 3) := by decide +kernel
theorem dX7_undo_21 : decode cX7_undo 21 = .ok (.invokevirtual 268, 3) := by decide +kernel
theorem dX7_undo_24 : decode cX7_undo 24 = .ok (.aload_n 0, 1) := by decide +kernel
theorem dX7_undo_25 : decode cX7_undo 25 = .ok (.getfield 27, 3) := by decide +kernel
theorem dX7_undo_28 : decode cX7_undo 28 = .ok (.getfield 218, 3) := by decide +kernel
theorem dX7_undo_31 : decode cX7_undo 31 = .ok (.ireturn, 1) := by decide +kernel
theorem dX7_save_0 : decode cX7_save 0 = .ok (.iload_n 1, 1) := by decide +kernel
theorem dX7_save_1 : decode cX7_save 1 = .ok (.invokestatic 271, 3) := by decide +kernel
theorem dX7_save_4 : decode cX7_save 4 = .ok (.ifCond .ne 6, 3) := by decide +kernel
theorem dX7_save_7 : decode cX7_save 7 = .ok (.bipush (-2), 2) := by decide +kernel
theorem dX7_save_9 : decode cX7_save 9 = .ok (.ireturn, 1) := by decide +kernel
theorem dX7_save_10 : decode cX7_save 10 = .ok (.aload_n 0, 1) := by decide +kernel
theorem dX7_save_11 : decode cX7_save 11 = .ok (.getfield 16, 3) := by decide +kernel
theorem dX7_save_14 : decode cX7_save 14 = .ok (.iload_n 1, 1) := by decide +kernel
theorem dX7_save_15 : decode cX7_save 15 = .ok (.aaload, 1) := by decide +kernel
theorem dX7_save_16 : decode cX7_save 16 = .ok (.astore_n 2, 1) := by decide +kernel
theorem dX7_save_17 : decode cX7_save 17 = .ok (.aload_n 2, 1) := by decide +kernel
theorem dX7_save_18 : decode cX7_save 18 = .ok (.ifnull 18, 3) := by decide +kernel
theorem dX7_save_21 : decode cX7_save 21 = .ok (.aload_n 2, 1) := by decide +kernel
theorem dX7_save_22 : decode cX7_save 22 = .ok (.aload_n 0, 1) := by decide +kernel
theorem dX7_save_23 : decode cX7_save 23 = .ok (.getfield 12, 3) := by decide +kernel
theorem dX7_save_26 : decode cX7_save 26 = .ok (.invokevirtual 274, 3) := by decide +kernel
theorem dX7_save_29 : decode cX7_save 29 = .ok (.aload_n 0, 1) := by decide +kernel
theorem dX7_save_30 : decode cX7_save 30 = .ok (.getfield 20, 3) := by decide +kernel
theorem dX7_save_33 : decode cX7_save 33 = .ok (.iload_n 1, 1) := by decide +kernel
theorem dX7_save_34 : decode cX7_save 34 = .ok (.iconst 1, 1) := by decide +kernel
theorem dX7_save_35 : decode cX7_save 35 = .ok (.bastore, 1) := by decide +kernel
theorem dX7_save_36 : decode cX7_save 36 = .ok (.aload_n 0, 1) := by decide +kernel
theorem dX7_save_37 : decode cX7_save 37 = .ok (.getfield 12, 3) := by decide +kernel
theorem dX7_save_40 : decode cX7_save 40 = .ok (.getfield 119, 3) := by decide +kernel
theorem dX7_save_43 : decode cX7_save 43 = .ok (.getfield 122, 3) := by decide +kernel
theorem dX7_save_46 : decode cX7_save 46 = .ok (.ireturn, 1) := by decide +kernel
theorem dX7_restore_0 : decode cX7_restore 0 = .ok (.iload_n 1, 1) := by decide +kernel
theorem dX7_restore_1 : decode cX7_restore 1 = .ok (.invokestatic 271, 3) := by decide +kernel
theorem dX7_restore_4 : decode cX7_restore 4 = .ok (.ifCond .ne 6, 3) := by decide +kernel
theorem dX7_restore_7 : decode cX7_restore 7 = .ok (.bipush (-2), 2) := by decide +kernel
theorem dX7_restore_9 : decode cX7_restore 9 = .ok (.ireturn, 1) := by decide +kernel
theorem dX7_restore_10 : decode cX7_restore 10 = .ok (.aload_n 0, 1) := by decide +kernel
theorem dX7_restore_11 : decode cX7_restore 11 = .ok (.getfield 16, 3) := by decide +kernel
theorem dX7_restore_14 : decode cX7_restore 14 = .ok (.iload_n 1, 1) := by decide +kernel
theorem dX7_restore_15 : decode cX7_restore 15 = .ok (.aaload, 1) := by decide +kernel
theorem dX7_restore_16 : decode cX7_restore 16 = .ok (.astore_n 2, 1) := by decide +kernel
theorem dX7_restore_17 : decode cX7_restore 17 = .ok (.aload_n 2, 1) := by decide +kernel
theorem dX7_restore_18 : decode cX7_restore 18 = .ok (.ifnull 12, 3) := by decide +kernel
theorem dX7_restore_21 : decode cX7_restore 21 = .ok (.aload_n 0, 1) := by decide +kernel
theorem dX7_restore_22 : decode cX7_restore 22 = .ok (.getfield 20, 3) := by decide +kernel
theorem dX7_restore_25 : decode cX7_restore 25 = .ok (.iload_n 1, 1) := by decide +kernel
theorem dX7_restore_26 : decode cX7_restore 26 = .ok (.baload, 1) := by decide +kernel
theorem dX7_restore_27 : decode cX7_restore 27 = .ok (.ifCond .ne 6, 3) := by decide +kernel
theorem dX7_restore_30 : decode cX7_restore 30 = .ok (.bipush (-5), 2) := by decide +kernel
theorem dX7_restore_32 : decode cX7_restore 32 = .ok (.ireturn, 1) := by decide +kernel
theorem dX7_restore_33 : decode cX7_restore 33 = .ok (.aload_n 0, 1) := by decide +kernel
theorem dX7_restore_34 : decode cX7_restore 34 = .ok (.getfield 27, 3) := by decide +kernel
theorem dX7_restore_37 : decode cX7_restore 37 = .ok (.aload_n 0, 1) := by decide +kernel
theorem dX7_restore_38 : decode cX7_restore 38 = .ok (.getfield 12, 3) := by decide +kernel
theorem dX7_restore_41 : decode cX7_restore 41 = .ok (.invokevirtual 59, 3) := by decide +kernel
theorem dX7_restore_44 : decode cX7_restore 44 = .ok (.aload_n 0, 1) := by decide +kernel
theorem dX7_restore_45 : decode cX7_restore 45 = .ok (.getfield 12, 3) := by decide +kernel
theorem dX7_restore_48 : decode cX7_restore 48 = .ok (.aload_n 2, 1) := by decide +kernel
theorem dX7_restore_49 : decode cX7_restore 49 = .ok (.invokevirtual 274, 3) := by decide +kernel
theorem dX7_restore_52 : decode cX7_restore 52 = .ok (.aload_n 0, 1) := by decide +kernel
theorem dX7_restore_53 : decode cX7_restore 53 = .ok (.getfield 12, 3) := by decide +kernel
theorem dX7_restore_56 : decode cX7_restore 56 = .ok (.getfield 119, 3) := by decide +kernel
theorem dX7_restore_59 : decode cX7_restore 59 = .ok (.getfield 122, 3) := by decide +kernel
theorem dX7_restore_62 : decode cX7_restore 62 = .ok (.ireturn, 1) := by decide +kernel
theorem dX7_isReady_0 : decode cX7_isReady 0 = .ok (.aload_n 0, 1) := by decide +kernel
theorem dX7_isReady_1 : decode cX7_isReady 1 = .ok (.getfield 12, 3) := by decide +kernel
theorem dX7_isReady_4 : decode cX7_isReady 4 = .ok (.getfield 78, 3) := by decide +kernel
theorem dX7_isReady_7 : decode cX7_isReady 7 = .ok (.getfield 89, 3) := by decide +kernel
theorem dX7_isReady_10 : decode cX7_isReady 10 = .ok (.ifCond .le 20, 3) := by decide +kernel
theorem dX7_isReady_13 : decode cX7_isReady 13 = .ok (.aload_n 0, 1) := by decide +kernel
theorem dX7_isReady_14 : decode cX7_isReady 14 = .ok (.getfield 12, 3) := by decide +kernel
theorem dX7_isReady_17 : decode cX7_isReady 17 = .ok (.getfield 95, 3) := by decide +kernel
theorem dX7_isReady_20 : decode cX7_isReady 20 = .ok (.getfield 99, 3) := by decide +kernel
theorem dX7_isReady_23 : decode cX7_isReady 23 = .ok (.ifCond .le 7, 3) := by decide +kernel
theorem dX7_isReady_26 : decode cX7_isReady 26 = .ok (.iconst 1, 1) := by decide +kernel
theorem dX7_isReady_27 : decode cX7_isReady 27 = .ok (.goto 4, 3) := by decide +kernel
theorem dX7_isReady_30 : decode cX7_isReady 30 = .ok (.iconst 0, 1) := by decide +kernel
theorem dX7_isReady_31 : decode cX7_isReady 31 = .ok (.ireturn, 1) := by decide +kernel
theorem dX7_isSlot_0 : decode cX7_isSlot 0 = .ok (.iload_n 0, 1) := by decide +kernel
theorem dX7_isSlot_1 : decode cX7_isSlot 1 = .ok (.ifCond .lt 12, 3) := by decide +kernel
theorem dX7_isSlot_4 : decode cX7_isSlot 4 = .ok (.iload_n 0, 1) := by decide +kernel
theorem dX7_isSlot_5 : decode cX7_isSlot 5 = .ok (.iconst 2, 1) := by decide +kernel
theorem dX7_isSlot_6 : decode cX7_isSlot 6 = .ok (.if_icmp .ge 7, 3) := by decide +kernel
theorem dX7_isSlot_9 : decode cX7_isSlot 9 = .ok (.iconst 1, 1) := by decide +kernel
theorem dX7_isSlot_10 : decode cX7_isSlot 10 = .ok (.goto 4, 3) := by decide +kernel
theorem dX7_isSlot_13 : decode cX7_isSlot 13 = .ok (.iconst 0, 1) := by decide +kernel
theorem dX7_isSlot_14 : decode cX7_isSlot 14 = .ok (.ireturn, 1) := by decide +kernel
theorem dX7_songsByCounting_0 : decode cX7_songsByCounting 0 = .ok (.iconst 1, 1) := by decide +kernel
theorem dX7_songsByCounting_1 : decode cX7_songsByCounting 1 = .ok (.istore_n 2, 1) := by decide +kernel
theorem dX7_songsByCounting_2 : decode cX7_songsByCounting 2 = .ok (.iload_n 2, 1) := by decide +kernel
theorem dX7_songsByCounting_3 : decode cX7_songsByCounting 3 = .ok (.iload_n 1, 1) := by decide +kernel
theorem dX7_songsByCounting_4 : decode cX7_songsByCounting 4 = .ok (.if_icmp .ge 19, 3) := by decide +kernel
theorem dX7_songsByCounting_7 : decode cX7_songsByCounting 7 = .ok (.iload_n 2, 1) := by decide +kernel
theorem dX7_songsByCounting_8 : decode cX7_songsByCounting 8 = .ok (.iload_n 0, 1) := by decide +kernel
theorem dX7_songsByCounting_9 : decode cX7_songsByCounting 9 = .ok (.imul, 1) := by decide +kernel
theorem dX7_songsByCounting_10 : decode cX7_songsByCounting 10 = .ok (.iload_n 1, 1) := by decide +kernel
theorem dX7_songsByCounting_11 : decode cX7_songsByCounting 11 = .ok (.irem, 1) := by decide +kernel
theorem dX7_songsByCounting_12 : decode cX7_songsByCounting 12 = .ok (.ifCond .ne 5, 3) := by decide +kernel
theorem dX7_songsByCounting_15 : decode cX7_songsByCounting 15 = .ok (.iload_n 2, 1) := by decide +kernel
theorem dX7_songsByCounting_16 : decode cX7_songsByCounting 16 = .ok (.ireturn, 1) := by decide +kernel
theorem dX7_songsByCounting_17 : decode cX7_songsByCounting 17 = .ok (.iinc 2 1, 3) := by decide +kernel
theorem dX7_songsByCounting_20 : decode cX7_songsByCounting 20 = .ok (.goto (-18), 3) := by decide +kernel
theorem dX7_songsByCounting_23 : decode cX7_songsByCounting 23 = .ok (.iload_n 1, 1) := by decide +kernel
theorem dX7_songsByCounting_24 : decode cX7_songsByCounting 24 = .ok (.ireturn, 1) := by decide +kernel
theorem dX7_songsAtOnce_0 : decode cX7_songsAtOnce 0 = .ok (.iload_n 0, 1) := by decide +kernel
theorem dX7_songsAtOnce_1 : decode cX7_songsAtOnce 1 = .ok (.iload_n 1, 1) := by decide +kernel
theorem dX7_songsAtOnce_2 : decode cX7_songsAtOnce 2 = .ok (.invokestatic 276, 3) := by decide +kernel
theorem dX7_songsAtOnce_5 : decode cX7_songsAtOnce 5 = .ok (.istore_n 2, 1) := by decide +kernel
theorem dX7_songsAtOnce_6 : decode cX7_songsAtOnce 6 = .ok (.iload_n 2, 1) := by decide +kernel
theorem dX7_songsAtOnce_7 : decode cX7_songsAtOnce 7 = .ok (.ifCond .le 9, 3) := by decide +kernel
theorem dX7_songsAtOnce_10 : decode cX7_songsAtOnce 10 = .ok (.iload_n 1, 1) := by decide +kernel
theorem dX7_songsAtOnce_11 : decode cX7_songsAtOnce 11 = .ok (.iload_n 2, 1) := by decide +kernel
theorem dX7_songsAtOnce_12 : decode cX7_songsAtOnce 12 = .ok (.idiv, 1) := by decide +kernel
theorem dX7_songsAtOnce_13 : decode cX7_songsAtOnce 13 = .ok (.goto 4, 3) := by decide +kernel
theorem dX7_songsAtOnce_16 : decode cX7_songsAtOnce 16 = .ok (.iload_n 1, 1) := by decide +kernel
theorem dX7_songsAtOnce_17 : decode cX7_songsAtOnce 17 = .ok (.ireturn, 1) := by decide +kernel
theorem dX7_greatestShared_0 : decode cX7_greatestShared 0 = .ok (.iload_n 0, 1) := by decide +kernel
theorem dX7_greatestShared_1 : decode cX7_greatestShared 1 = .ok (.istore_n 2, 1) := by decide +kernel
theorem dX7_greatestShared_2 : decode cX7_greatestShared 2 = .ok (.iload_n 1, 1) := by decide +kernel
theorem dX7_greatestShared_3 : decode cX7_greatestShared 3 = .ok (.istore_n 3, 1) := by decide +kernel
theorem dX7_greatestShared_4 : decode cX7_greatestShared 4 = .ok (.iconst 0, 1) := by decide +kernel
theorem dX7_greatestShared_5 : decode cX7_greatestShared 5 = .ok (.istore 4, 2) := by decide +kernel
theorem dX7_greatestShared_7 : decode cX7_greatestShared 7 = .ok (.iload 4, 2) := by decide +kernel
theorem dX7_greatestShared_9 : decode cX7_greatestShared 9 = .ok (.sipush 1000, 3) := by decide +kernel
theorem dX7_greatestShared_12 : decode cX7_greatestShared 12 = .ok (.if_icmp .ge 23, 3) := by decide +kernel
theorem dX7_greatestShared_15 : decode cX7_greatestShared 15 = .ok (.iload_n 3, 1) := by decide +kernel
theorem dX7_greatestShared_16 : decode cX7_greatestShared 16 = .ok (.ifCond .eq 19, 3) := by decide +kernel
theorem dX7_greatestShared_19 : decode cX7_greatestShared 19 = .ok (.iload_n 2, 1) := by decide +kernel
theorem dX7_greatestShared_20 : decode cX7_greatestShared 20 = .ok (.iload_n 3, 1) := by decide +kernel
theorem dX7_greatestShared_21 : decode cX7_greatestShared 21 = .ok (.irem, 1) := by decide +kernel
theorem dX7_greatestShared_22 : decode cX7_greatestShared 22 = .ok (.istore 5, 2) := by decide +kernel
theorem dX7_greatestShared_24 : decode cX7_greatestShared 24 = .ok (.iload_n 3, 1) := by decide +kernel
theorem dX7_greatestShared_25 : decode cX7_greatestShared 25 = .ok (.istore_n 2, 1) := by decide +kernel
theorem dX7_greatestShared_26 : decode cX7_greatestShared 26 = .ok (.iload 5, 2) := by decide +kernel
theorem dX7_greatestShared_28 : decode cX7_greatestShared 28 = .ok (.istore_n 3, 1) := by decide +kernel
theorem dX7_greatestShared_29 : decode cX7_greatestShared 29 = .ok (.iinc 4 1, 3) := by decide +kernel
theorem dX7_greatestShared_32 : decode cX7_greatestShared 32 = .ok (.goto (-25), 3) := by decide +kernel
theorem dX7_greatestShared_35 : decode cX7_greatestShared 35 = .ok (.iload_n 2, 1) := by decide +kernel
theorem dX7_greatestShared_36 : decode cX7_greatestShared 36 = .ok (.ireturn, 1) := by decide +kernel
