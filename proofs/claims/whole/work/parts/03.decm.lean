theorem dX8_init_0 : decode cX8_init 0 = .ok (.aload_n 0, 1) := by decide +kernel
theorem dX8_init_1 : decode cX8_init 1 = .ok (.invokespecial 1, 3) := by decide +kernel
theorem dX8_init_4 : decode cX8_init 4 = .ok (.aload_n 0, 1) := by decide +kernel
theorem dX8_init_5 : decode cX8_init 5 = .ok (.sipush 190, 3) := by decide +kernel
theorem dX8_init_8 : decode cX8_init 8 = .ok (.newarray .int, 2) := by decide +kernel
theorem dX8_init_10 : decode cX8_init 10 = .ok (.putfield 7, 3) := by decide +kernel
theorem dX8_init_13 : decode cX8_init 13 = .ok (.aload_n 0, 1) := by decide +kernel
theorem dX8_init_14 : decode cX8_init 14 = .ok (.sipush 190, 3) := by decide +kernel
theorem dX8_init_17 : decode cX8_init 17 = .ok (.newarray .int, 2) := by decide +kernel
theorem dX8_init_19 : decode cX8_init 19 = .ok (.putfield 13, 3) := by decide +kernel
theorem dX8_init_22 : decode cX8_init 22 = .ok (.aload_n 0, 1) := by decide +kernel
theorem dX8_init_23 : decode cX8_init 23 = .ok (.sipush 1140, 3) := by decide +kernel
theorem dX8_init_26 : decode cX8_init 26 = .ok (.newarray .int, 2) := by decide +kernel
theorem dX8_init_28 : decode cX8_init 28 = .ok (.putfield 16, 3) := by decide +kernel
theorem dX8_init_31 : decode cX8_init 31 = .ok (.aload_n 0, 1) := by decide +kernel
theorem dX8_init_32 : decode cX8_init 32 = .ok (.sipush 380, 3) := by decide +kernel
theorem dX8_init_35 : decode cX8_init 35 = .ok (.newarray .int, 2) := by decide +kernel
theorem dX8_init_37 : decode cX8_init 37 = .ok (.putfield 19, 3) := by decide +kernel
theorem dX8_init_40 : decode cX8_init 40 = .ok (.aload_n 0, 1) := by decide +kernel
theorem dX8_init_41 : decode cX8_init 41 = .ok (.iconst 2, 1) := by decide +kernel
theorem dX8_init_42 : decode cX8_init 42 = .ok (.newarray .boolean, 2) := by decide +kernel
theorem dX8_init_44 : decode cX8_init 44 = .ok (.putfield 22, 3) := by decide +kernel
theorem dX8_init_47 : decode cX8_init 47 = .ok (.aload_n 0, 1) := by decide +kernel
theorem dX8_init_48 : decode cX8_init 48 = .ok (.bipush 60, 2) := by decide +kernel
theorem dX8_init_50 : decode cX8_init 50 = .ok (.newarray .int, 2) := by decide +kernel
theorem dX8_init_52 : decode cX8_init 52 = .ok (.putfield 26, 3) := by decide +kernel
theorem dX8_init_55 : decode cX8_init 55 = .ok (.aload_n 0, 1) := by decide +kernel
theorem dX8_init_56 : decode cX8_init 56 = .ok (.bipush 120, 2) := by decide +kernel
theorem dX8_init_58 : decode cX8_init 58 = .ok (.newarray .int, 2) := by decide +kernel
theorem dX8_init_60 : decode cX8_init 60 = .ok (.putfield 29, 3) := by decide +kernel
theorem dX8_init_63 : decode cX8_init 63 = .ok (.aload_n 0, 1) := by decide +kernel
theorem dX8_init_64 : decode cX8_init 64 = .ok (.bipush 10, 2) := by decide +kernel
theorem dX8_init_66 : decode cX8_init 66 = .ok (.newarray .int, 2) := by decide +kernel
theorem dX8_init_68 : decode cX8_init 68 = .ok (.putfield 32, 3) := by decide +kernel
theorem dX8_init_71 : decode cX8_init 71 = .ok (.aload_n 0, 1) := by decide +kernel
theorem dX8_init_72 : decode cX8_init 72 = .ok (.getfield 7, 3) := by decide +kernel
theorem dX8_init_75 : decode cX8_init 75 = .ok (.iconst 0, 1) := by decide +kernel
theorem dX8_init_76 : decode cX8_init 76 = .ok (.iconst 4, 1) := by decide +kernel
theorem dX8_init_77 : decode cX8_init 77 = .ok (.iastore, 1) := by decide +kernel
theorem dX8_init_78 : decode cX8_init 78 = .ok (.aload_n 0, 1) := by decide +kernel
theorem dX8_init_79 : decode cX8_init 79 = .ok (.getfield 7, 3) := by decide +kernel
theorem dX8_init_82 : decode cX8_init 82 = .ok (.iconst 1, 1) := by decide +kernel
theorem dX8_init_83 : decode cX8_init 83 = .ok (.iconst 1, 1) := by decide +kernel
theorem dX8_init_84 : decode cX8_init 84 = .ok (.iastore, 1) := by decide +kernel
theorem dX8_init_85 : decode cX8_init 85 = .ok (.aload_n 0, 1) := by decide +kernel
theorem dX8_init_86 : decode cX8_init 86 = .ok (.getfield 7, 3) := by decide +kernel
theorem dX8_init_89 : decode cX8_init 89 = .ok (.iconst 2, 1) := by decide +kernel
theorem dX8_init_90 : decode cX8_init 90 = .ok (.iconst 3, 1) := by decide +kernel
theorem dX8_init_91 : decode cX8_init 91 = .ok (.iastore, 1) := by decide +kernel
theorem dX8_init_92 : decode cX8_init 92 = .ok (.aload_n 0, 1) := by decide +kernel
theorem dX8_init_93 : decode cX8_init 93 = .ok (.getfield 7, 3) := by decide +kernel
theorem dX8_init_96 : decode cX8_init 96 = .ok (.iconst 3, 1) := by decide +kernel
theorem dX8_init_97 : decode cX8_init 97 = .ok (.iconst 4, 1) := by decide +kernel
theorem dX8_init_98 : decode cX8_init 98 = .ok (.iastore, 1) := by decide +kernel
theorem dX8_init_99 : decode cX8_init 99 = .ok (.aload_n 0, 1) := by decide +kernel
theorem dX8_init_100 : decode cX8_init 100 = .ok (.getfield 7, 3) := by decide +kernel
theorem dX8_init_103 : decode cX8_init 103 = .ok (.iconst 4, 1) := by decide +kernel
theorem dX8_init_104 : decode cX8_init 104 = .ok (.bipush 30, 2) := by decide +kernel
theorem dX8_init_106 : decode cX8_init 106 = .ok (.iastore, 1) := by decide +kernel
theorem dX8_init_107 : decode cX8_init 107 = .ok (.aload_n 0, 1) := by decide +kernel
theorem dX8_init_108 : decode cX8_init 108 = .ok (.getfield 7, 3) := by decide +kernel
theorem dX8_init_111 : decode cX8_init 111 = .ok (.iconst 5, 1) := by decide +kernel
theorem dX8_init_112 : decode cX8_init 112 = .ok (.iconst 4, 1) := by decide +kernel
theorem dX8_init_113 : decode cX8_init 113 = .ok (.iastore, 1) := by decide +kernel
theorem dX8_init_114 : decode cX8_init 114 = .ok (.aload_n 0, 1) := by decide +kernel
theorem dX8_init_115 : decode cX8_init 115 = .ok (.invokevirtual 35, 3) := by decide +kernel
theorem dX8_init_118 : decode cX8_init 118 = .ok (.return_, 1) := by decide +kernel
theorem dX8_in_0 : decode cX8_in 0 = .ok (.iload_n 0, 1) := by decide +kernel
theorem dX8_in_1 : decode cX8_in 1 = .ok (.iload_n 1, 1) := by decide +kernel
theorem dX8_in_2 : decode cX8_in 2 = .ok (.if_icmp .lt 12, 3) := by decide +kernel
theorem dX8_in_5 : decode cX8_in 5 = .ok (.iload_n 0, 1) := by decide +kernel
theorem dX8_in_6 : decode cX8_in 6 = .ok (.iload_n 2, 1) := by decide +kernel
theorem dX8_in_7 : decode cX8_in 7 = .ok (.if_icmp .gt 7, 3) := by decide +kernel
theorem dX8_in_10 : decode cX8_in 10 = .ok (.iconst 1, 1) := by decide +kernel
theorem dX8_in_11 : decode cX8_in 11 = .ok (.goto 4, 3) := by decide +kernel
theorem dX8_in_14 : decode cX8_in 14 = .ok (.iconst 0, 1) := by decide +kernel
theorem dX8_in_15 : decode cX8_in 15 = .ok (.ireturn, 1) := by decide +kernel
theorem dX8_ofStretch_0 : decode cX8_ofStretch 0 = .ok (.aload_n 0, 1) := by decide +kernel
theorem dX8_ofStretch_1 : decode cX8_ofStretch 1 = .ok (.getfield 7, 3) := by decide +kernel
theorem dX8_ofStretch_4 : decode cX8_ofStretch 4 = .ok (.sipush 138, 3) := by decide +kernel
theorem dX8_ofStretch_7 : decode cX8_ofStretch 7 = .ok (.iconst 3, 1) := by decide +kernel
theorem dX8_ofStretch_8 : decode cX8_ofStretch 8 = .ok (.iload_n 1, 1) := by decide +kernel
theorem dX8_ofStretch_9 : decode cX8_ofStretch 9 = .ok (.imul, 1) := by decide +kernel
theorem dX8_ofStretch_10 : decode cX8_ofStretch 10 = .ok (.iadd, 1) := by decide +kernel
theorem dX8_ofStretch_11 : decode cX8_ofStretch 11 = .ok (.iload_n 2, 1) := by decide +kernel
theorem dX8_ofStretch_12 : decode cX8_ofStretch 12 = .ok (.iadd, 1) := by decide +kernel
theorem dX8_ofStretch_13 : decode cX8_ofStretch 13 = .ok (.iaload, 1) := by decide +kernel
theorem dX8_ofStretch_14 : decode cX8_ofStretch 14 = .ok (.ireturn, 1) := by decide +kernel
theorem dX8_isStretch_0 : decode cX8_isStretch 0 = .ok (.iload_n 1, 1) := by decide +kernel
theorem dX8_isStretch_1 : decode cX8_isStretch 1 = .ok (.iconst 0, 1) := by decide +kernel
theorem dX8_isStretch_2 : decode cX8_isStretch 2 = .ok (.aload_n 0, 1) := by decide +kernel
theorem dX8_isStretch_3 : decode cX8_isStretch 3 = .ok (.getfield 7, 3) := by decide +kernel
theorem dX8_isStretch_6 : decode cX8_isStretch 6 = .ok (.bipush 7, 2) := by decide +kernel
theorem dX8_isStretch_8 : decode cX8_isStretch 8 = .ok (.iaload, 1) := by decide +kernel
theorem dX8_isStretch_9 : decode cX8_isStretch 9 = .ok (.iconst 1, 1) := by decide +kernel
theorem dX8_isStretch_10 : decode cX8_isStretch 10 = .ok (.isub, 1) := by decide +kernel
theorem dX8_isStretch_11 : decode cX8_isStretch 11 = .ok (.invokestatic 38, 3) := by decide +kernel
theorem dX8_isStretch_14 : decode cX8_isStretch 14 = .ok (.ireturn, 1) := by decide +kernel
theorem dX8_isLine_0 : decode cX8_isLine 0 = .ok (.iload_n 1, 1) := by decide +kernel
theorem dX8_isLine_1 : decode cX8_isLine 1 = .ok (.iconst 0, 1) := by decide +kernel
theorem dX8_isLine_2 : decode cX8_isLine 2 = .ok (.aload_n 0, 1) := by decide +kernel
theorem dX8_isLine_3 : decode cX8_isLine 3 = .ok (.getfield 7, 3) := by decide +kernel
theorem dX8_isLine_6 : decode cX8_isLine 6 = .ok (.bipush 6, 2) := by decide +kernel
theorem dX8_isLine_8 : decode cX8_isLine 8 = .ok (.iaload, 1) := by decide +kernel
theorem dX8_isLine_9 : decode cX8_isLine 9 = .ok (.iconst 1, 1) := by decide +kernel
theorem dX8_isLine_10 : decode cX8_isLine 10 = .ok (.isub, 1) := by decide +kernel
theorem dX8_isLine_11 : decode cX8_isLine 11 = .ok (.invokestatic 38, 3) := by decide +kernel
theorem dX8_isLine_14 : decode cX8_isLine 14 = .ok (.ireturn, 1) := by decide +kernel
theorem dX8_beatsOf_0 : decode cX8_beatsOf 0 = .ok (.aload_n 0, 1) := by decide +kernel
theorem dX8_beatsOf_1 : decode cX8_beatsOf 1 = .ok (.getfield 7, 3) := by decide +kernel
theorem dX8_beatsOf_4 : decode cX8_beatsOf 4 = .ok (.bipush 18, 2) := by decide +kernel
theorem dX8_beatsOf_6 : decode cX8_beatsOf 6 = .ok (.bipush 12, 2) := by decide +kernel
theorem dX8_beatsOf_8 : decode cX8_beatsOf 8 = .ok (.iload_n 1, 1) := by decide +kernel
theorem dX8_beatsOf_9 : decode cX8_beatsOf 9 = .ok (.imul, 1) := by decide +kernel
theorem dX8_beatsOf_10 : decode cX8_beatsOf 10 = .ok (.iadd, 1) := by decide +kernel
theorem dX8_beatsOf_11 : decode cX8_beatsOf 11 = .ok (.iload_n 2, 1) := by decide +kernel
theorem dX8_beatsOf_12 : decode cX8_beatsOf 12 = .ok (.iadd, 1) := by decide +kernel
theorem dX8_beatsOf_13 : decode cX8_beatsOf 13 = .ok (.iaload, 1) := by decide +kernel
theorem dX8_beatsOf_14 : decode cX8_beatsOf 14 = .ok (.bipush 10, 2) := by decide +kernel
theorem dX8_beatsOf_16 : decode cX8_beatsOf 16 = .ok (.irem, 1) := by decide +kernel
theorem dX8_beatsOf_17 : decode cX8_beatsOf 17 = .ok (.ireturn, 1) := by decide +kernel
theorem dX8_hasMark_0 : decode cX8_hasMark 0 = .ok (.aload_n 0, 1) := by decide +kernel
theorem dX8_hasMark_1 : decode cX8_hasMark 1 = .ok (.getfield 7, 3) := by decide +kernel
theorem dX8_hasMark_4 : decode cX8_hasMark 4 = .ok (.bipush 18, 2) := by decide +kernel
theorem dX8_hasMark_6 : decode cX8_hasMark 6 = .ok (.bipush 12, 2) := by decide +kernel
theorem dX8_hasMark_8 : decode cX8_hasMark 8 = .ok (.iload_n 1, 1) := by decide +kernel
theorem dX8_hasMark_9 : decode cX8_hasMark 9 = .ok (.imul, 1) := by decide +kernel
theorem dX8_hasMark_10 : decode cX8_hasMark 10 = .ok (.iadd, 1) := by decide +kernel
theorem dX8_hasMark_11 : decode cX8_hasMark 11 = .ok (.iload_n 2, 1) := by decide +kernel
theorem dX8_hasMark_12 : decode cX8_hasMark 12 = .ok (.iadd, 1) := by decide +kernel
theorem dX8_hasMark_13 : decode cX8_hasMark 13 = .ok (.iaload, 1) := by decide +kernel
theorem dX8_hasMark_14 : decode cX8_hasMark 14 = .ok (.bipush 9, 2) := by decide +kernel
theorem dX8_hasMark_16 : decode cX8_hasMark 16 = .ok (.if_icmp .le 7, 3) := by decide +kernel
theorem dX8_hasMark_19 : decode cX8_hasMark 19 = .ok (.iconst 1, 1) := by decide +kernel
theorem dX8_hasMark_20 : decode cX8_hasMark 20 = .ok (.goto 4, 3) := by decide +kernel
theorem dX8_hasMark_23 : decode cX8_hasMark 23 = .ok (.iconst 0, 1) := by decide +kernel
theorem dX8_hasMark_24 : decode cX8_hasMark 24 = .ok (.ireturn, 1) := by decide +kernel
theorem dX8_canMarch_0 : decode cX8_canMarch 0 = .ok (.aload_n 0, 1) := by decide +kernel
theorem dX8_canMarch_1 : decode cX8_canMarch 1 = .ok (.getfield 7, 3) := by decide +kernel
theorem dX8_canMarch_4 : decode cX8_canMarch 4 = .ok (.bipush 6, 2) := by decide +kernel
theorem dX8_canMarch_6 : decode cX8_canMarch 6 = .ok (.iaload, 1) := by decide +kernel
theorem dX8_canMarch_7 : decode cX8_canMarch 7 = .ok (.ifCond .le 17, 3) := by decide +kernel
theorem dX8_canMarch_10 : decode cX8_canMarch 10 = .ok (.aload_n 0, 1) := by decide +kernel
theorem dX8_canMarch_11 : decode cX8_canMarch 11 = .ok (.getfield 7, 3) := by decide +kernel
theorem dX8_canMarch_14 : decode cX8_canMarch 14 = .ok (.bipush 7, 2) := by decide +kernel
theorem dX8_canMarch_16 : decode cX8_canMarch 16 = .ok (.iaload, 1) := by decide +kernel
theorem dX8_canMarch_17 : decode cX8_canMarch 17 = .ok (.ifCond .le 7, 3) := by decide +kernel
theorem dX8_canMarch_20 : decode cX8_canMarch 20 = .ok (.iconst 1, 1) := by decide +kernel
theorem dX8_canMarch_21 : decode cX8_canMarch 21 = .ok (.goto 4, 3) := by decide +kernel
theorem dX8_canMarch_24 : decode cX8_canMarch 24 = .ok (.iconst 0, 1) := by decide +kernel
theorem dX8_canMarch_25 : decode cX8_canMarch 25 = .ok (.ireturn, 1) := by decide +kernel
theorem dX8_copyState_0 : decode cX8_copyState 0 = .ok (.iconst 0, 1) := by decide +kernel
theorem dX8_copyState_1 : decode cX8_copyState 1 = .ok (.istore 4, 2) := by decide +kernel
theorem dX8_copyState_3 : decode cX8_copyState 3 = .ok (.iload 4, 2) := by decide +kernel
theorem dX8_copyState_5 : decode cX8_copyState 5 = .ok (.sipush 190, 3) := by decide +kernel
theorem dX8_copyState_8 : decode cX8_copyState 8 = .ok (.if_icmp .ge 21, 3) := by decide +kernel
theorem dX8_copyState_11 : decode cX8_copyState 11 = .ok (.aload_n 2, 1) := by decide +kernel
theorem dX8_copyState_12 : decode cX8_copyState 12 = .ok (.iload_n 3, 1) := by decide +kernel
theorem dX8_copyState_13 : decode cX8_copyState 13 = .ok (.iload 4, 2) := by decide +kernel
theorem dX8_copyState_15 : decode cX8_copyState 15 = .ok (.iadd, 1) := by decide +kernel
theorem dX8_copyState_16 : decode cX8_copyState 16 = .ok (.aload_n 0, 1) := by decide +kernel
theorem dX8_copyState_17 : decode cX8_copyState 17 = .ok (.iload_n 1, 1) := by decide +kernel
theorem dX8_copyState_18 : decode cX8_copyState 18 = .ok (.iload 4, 2) := by decide +kernel
theorem dX8_copyState_20 : decode cX8_copyState 20 = .ok (.iadd, 1) := by decide +kernel
theorem dX8_copyState_21 : decode cX8_copyState 21 = .ok (.iaload, 1) := by decide +kernel
theorem dX8_copyState_22 : decode cX8_copyState 22 = .ok (.iastore, 1) := by decide +kernel
theorem dX8_copyState_23 : decode cX8_copyState 23 = .ok (.iinc 4 1, 3) := by decide +kernel
theorem dX8_copyState_26 : decode cX8_copyState 26 = .ok (.goto (-23), 3) := by decide +kernel
theorem dX8_copyState_29 : decode cX8_copyState 29 = .ok (.return_, 1) := by decide +kernel
theorem dX8_record_0 : decode cX8_record 0 = .ok (.aload_n 0, 1) := by decide +kernel
theorem dX8_record_1 : decode cX8_record 1 = .ok (.getfield 42, 3) := by decide +kernel
theorem dX8_record_4 : decode cX8_record 4 = .ok (.bipush 6, 2) := by decide +kernel
theorem dX8_record_6 : decode cX8_record 6 = .ok (.if_icmp .ne 44, 3) := by decide +kernel
theorem dX8_record_9 : decode cX8_record 9 = .ok (.iconst 0, 1) := by decide +kernel
theorem dX8_record_10 : decode cX8_record 10 = .ok (.istore_n 1, 1) := by decide +kernel
theorem dX8_record_11 : decode cX8_record 11 = .ok (.iload_n 1, 1) := by decide +kernel
theorem dX8_record_12 : decode cX8_record 12 = .ok (.sipush 950, 3) := by decide +kernel
theorem dX8_record_15 : decode cX8_record 15 = .ok (.if_icmp .ge 25, 3) := by decide +kernel
theorem dX8_record_18 : decode cX8_record 18 = .ok (.aload_n 0, 1) := by decide +kernel
theorem dX8_record_19 : decode cX8_record 19 = .ok (.getfield 16, 3) := by decide +kernel
theorem dX8_record_22 : decode cX8_record 22 = .ok (.iload_n 1, 1) := by decide +kernel
theorem dX8_record_23 : decode cX8_record 23 = .ok (.aload_n 0, 1) := by decide +kernel
theorem dX8_record_24 : decode cX8_record 24 = .ok (.getfield 16, 3) := by decide +kernel
theorem dX8_record_27 : decode cX8_record 27 = .ok (.iload_n 1, 1) := by decide +kernel
theorem dX8_record_28 : decode cX8_record 28 = .ok (.sipush 190, 3) := by decide +kernel
theorem dX8_record_31 : decode cX8_record 31 = .ok (.iadd, 1) := by decide +kernel
theorem dX8_record_32 : decode cX8_record 32 = .ok (.iaload, 1) := by decide +kernel
theorem dX8_record_33 : decode cX8_record 33 = .ok (.iastore, 1) := by decide +kernel
theorem dX8_record_34 : decode cX8_record 34 = .ok (.iinc 1 1, 3) := by decide +kernel
theorem dX8_record_37 : decode cX8_record 37 = .ok (.goto (-26), 3) := by decide +kernel
theorem dX8_record_40 : decode cX8_record 40 = .ok (.aload_n 0, 1) := by decide +kernel
theorem dX8_record_41 : decode cX8_record 41 = .ok (.dup, 1) := by decide +kernel
theorem dX8_record_42 : decode cX8_record 42 = .ok (.getfield 42, 3) := by decide +kernel
theorem dX8_record_45 : decode cX8_record 45 = .ok (.iconst 1, 1) := by decide +kernel
theorem dX8_record_46 : decode cX8_record 46 = .ok (.isub, 1) := by decide +kernel
theorem dX8_record_47 : decode cX8_record 47 = .ok (.putfield 42, 3) := by decide +kernel
theorem dX8_record_50 : decode cX8_record 50 = .ok (.aload_n 0, 1) := by decide +kernel
theorem dX8_record_51 : decode cX8_record 51 = .ok (.getfield 7, 3) := by decide +kernel
theorem dX8_record_54 : decode cX8_record 54 = .ok (.iconst 0, 1) := by decide +kernel
theorem dX8_record_55 : decode cX8_record 55 = .ok (.aload_n 0, 1) := by decide +kernel
theorem dX8_record_56 : decode cX8_record 56 = .ok (.getfield 16, 3) := by decide +kernel
theorem dX8_record_59 : decode cX8_record 59 = .ok (.sipush 190, 3) := by decide +kernel
theorem dX8_record_62 : decode cX8_record 62 = .ok (.aload_n 0, 1) := by decide +kernel
theorem dX8_record_63 : decode cX8_record 63 = .ok (.getfield 42, 3) := by decide +kernel
theorem dX8_record_66 : decode cX8_record 66 = .ok (.imul, 1) := by decide +kernel
theorem dX8_record_67 : decode cX8_record 67 = .ok (.invokestatic 46, 3) := by decide +kernel
theorem dX8_record_70 : decode cX8_record 70 = .ok (.aload_n 0, 1) := by decide +kernel
theorem dX8_record_71 : decode cX8_record 71 = .ok (.dup, 1) := by decide +kernel
theorem dX8_record_72 : decode cX8_record 72 = .ok (.getfield 42, 3) := by decide +kernel
theorem dX8_record_75 : decode cX8_record 75 = .ok (.iconst 1, 1) := by decide +kernel
theorem dX8_record_76 : decode cX8_record 76 = .ok (.iadd, 1) := by decide +kernel
theorem dX8_record_77 : decode cX8_record 77 = .ok (.putfield 42, 3) := by decide +kernel
theorem dX8_record_80 : decode cX8_record 80 = .ok (.return_, 1) := by decide +kernel
theorem dX8_undo_0 : decode cX8_undo 0 = .ok (.aload_n 0, 1) := by decide +kernel
theorem dX8_undo_1 : decode cX8_undo 1 = .ok (.getfield 42, 3) := by decide +kernel
theorem dX8_undo_4 : decode cX8_undo 4 = .ok (.ifCond .ne 6, 3) := by decide +kernel
theorem dX8_undo_7 : decode cX8_undo 7 = .ok (.bipush (-5), 2) := by decide +kernel
theorem dX8_undo_9 : decode cX8_undo 9 = .ok (.ireturn, 1) := by decide +kernel
theorem dX8_undo_10 : decode cX8_undo 10 = .ok (.aload_n 0, 1) := by decide +kernel
theorem dX8_undo_11 : decode cX8_undo 11 = .ok (.dup, 1) := by decide +kernel
theorem dX8_undo_12 : decode cX8_undo 12 = .ok (.getfield 42, 3) := by decide +kernel
theorem dX8_undo_15 : decode cX8_undo 15 = .ok (.iconst 1, 1) := by decide +kernel
theorem dX8_undo_16 : decode cX8_undo 16 = .ok (.isub, 1) := by decide +kernel
theorem dX8_undo_17 : decode cX8_undo 17 = .ok (.putfield 42, 3) := by decide +kernel
theorem dX8_undo_20 : decode cX8_undo 20 = .ok (.aload_n 0, 1) := by decide +kernel
theorem dX8_undo_21 : decode cX8_undo 21 = .ok (.getfield 16, 3) := by decide +kernel
theorem dX8_undo_24 : decode cX8_undo 24 = .ok (.sipush 190, 3) := by decide +kernel
theorem dX8_undo_27 : decode cX8_undo 27 = .ok (.aload_n 0, 1) := by decide +kernel
theorem dX8_undo_28 : decode cX8_undo 28 = .ok (.getfield 42, 3) := by decide +kernel
theorem dX8_undo_31 : decode cX8_undo 31 = .ok (.imul, 1) := by decide +kernel
theorem dX8_undo_32 : decode cX8_undo 32 = .ok (.aload_n 0, 1) := by decide +kernel
theorem dX8_undo_33 : decode cX8_undo 33 = .ok (.getfield 7, 3) := by decide +kernel
theorem dX8_undo_36 : decode cX8_undo 36 = .ok (.iconst 0, 1) := by decide +kernel
theorem dX8_undo_37 : decode cX8_undo 37 = .ok (.invokestatic 46, 3) := by decide +kernel
theorem dX8_undo_40 : decode cX8_undo 40 = .ok (.aload_n 0, 1) := by decide +kernel
theorem dX8_undo_41 : decode cX8_undo 41 = .ok (.getfield 42, 3) := by decide +kernel
theorem dX8_undo_44 : decode cX8_undo 44 = .ok (.ireturn, 1) := by decide +kernel
theorem dX8_save_0 : decode cX8_save 0 = .ok (.iload_n 1, 1) := by decide +kernel
theorem dX8_save_1 : decode cX8_save 1 = .ok (.iconst 0, 1) := by decide +kernel
theorem dX8_save_2 : decode cX8_save 2 = .ok (.iconst 1, 1) := by decide +kernel
theorem dX8_save_3 : decode cX8_save 3 = .ok (.invokestatic 38, 3) := by decide +kernel
theorem dX8_save_6 : decode cX8_save 6 = .ok (.ifCond .ne 6, 3) := by decide +kernel
theorem dX8_save_9 : decode cX8_save 9 = .ok (.bipush (-2), 2) := by decide +kernel
theorem dX8_save_11 : decode cX8_save 11 = .ok (.ireturn, 1) := by decide +kernel
theorem dX8_save_12 : decode cX8_save 12 = .ok (.aload_n 0, 1) := by decide +kernel
theorem dX8_save_13 : decode cX8_save 13 = .ok (.getfield 7, 3) := by decide +kernel
theorem dX8_save_16 : decode cX8_save 16 = .ok (.iconst 0, 1) := by decide +kernel
theorem dX8_save_17 : decode cX8_save 17 = .ok (.aload_n 0, 1) := by decide +kernel
theorem dX8_save_18 : decode cX8_save 18 = .ok (.getfield 19, 3) := by decide +kernel
theorem dX8_save_21 : decode cX8_save 21 = .ok (.sipush 190, 3) := by decide +kernel
theorem dX8_save_24 : decode cX8_save 24 = .ok (.iload_n 1, 1) := by decide +kernel
theorem dX8_save_25 : decode cX8_save 25 = .ok (.imul, 1) := by decide +kernel
theorem dX8_save_26 : decode cX8_save 26 = .ok (.invokestatic 46, 3) := by decide +kernel
theorem dX8_save_29 : decode cX8_save 29 = .ok (.aload_n 0, 1) := by decide +kernel
theorem dX8_save_30 : decode cX8_save 30 = .ok (.getfield 22, 3) := by decide +kernel
theorem dX8_save_33 : decode cX8_save 33 = .ok (.iload_n 1, 1) := by decide +kernel
theorem dX8_save_34 : decode cX8_save 34 = .ok (.iconst 1, 1) := by decide +kernel
theorem dX8_save_35 : decode cX8_save 35 = .ok (.bastore, 1) := by decide +kernel
theorem dX8_save_36 : decode cX8_save 36 = .ok (.aload_n 0, 1) := by decide +kernel
theorem dX8_save_37 : decode cX8_save 37 = .ok (.getfield 7, 3) := by decide +kernel
theorem dX8_save_40 : decode cX8_save 40 = .ok (.sipush 174, 3) := by decide +kernel
theorem dX8_save_43 : decode cX8_save 43 = .ok (.iaload, 1) := by decide +kernel
theorem dX8_save_44 : decode cX8_save 44 = .ok (.ireturn, 1) := by decide +kernel
theorem dX8_restore_0 : decode cX8_restore 0 = .ok (.iload_n 1, 1) := by decide +kernel
theorem dX8_restore_1 : decode cX8_restore 1 = .ok (.iconst 0, 1) := by decide +kernel
theorem dX8_restore_2 : decode cX8_restore 2 = .ok (.iconst 1, 1) := by decide +kernel
theorem dX8_restore_3 : decode cX8_restore 3 = .ok (.invokestatic 38, 3) := by decide +kernel
theorem dX8_restore_6 : decode cX8_restore 6 = .ok (.ifCond .ne 6, 3) := by decide +kernel
theorem dX8_restore_9 : decode cX8_restore 9 = .ok (.bipush (-2), 2) := by decide +kernel
theorem dX8_restore_11 : decode cX8_restore 11 = .ok (.ireturn, 1) := by decide +kernel
theorem dX8_restore_12 : decode cX8_restore 12 = .ok (.aload_n 0, 1) := by decide +kernel
theorem dX8_restore_13 : decode cX8_restore 13 = .ok (.getfield 22, 3) := by decide +kernel
theorem dX8_restore_16 : decode cX8_restore 16 = .ok (.iload_n 1, 1) := by decide +kernel
theorem dX8_restore_17 : decode cX8_restore 17 = .ok (.baload, 1) := by decide +kernel
theorem dX8_restore_18 : decode cX8_restore 18 = .ok (.ifCond .ne 6, 3) := by decide +kernel
theorem dX8_restore_21 : decode cX8_restore 21 = .ok (.bipush (-5), 2) := by decide +kernel
theorem dX8_restore_23 : decode cX8_restore 23 = .ok (.ireturn, 1) := by decide +kernel
theorem dX8_restore_24 : decode cX8_restore 24 = .ok (.aload_n 0, 1) := by decide +kernel
theorem dX8_restore_25 : decode cX8_restore 25 = .ok (.invokevirtual 50, 3) := by decide +kernel
theorem dX8_restore_28 : decode cX8_restore 28 = .ok (.aload_n 0, 1) := by decide +kernel
theorem dX8_restore_29 : decode cX8_restore 29 = .ok (.getfield 19, 3) := by decide +kernel
theorem dX8_restore_32 : decode cX8_restore 32 = .ok (.sipush 190, 3) := by decide +kernel
theorem dX8_restore_35 : decode cX8_restore 35 = .ok (.iload_n 1, 1) := by decide +kernel
theorem dX8_restore_36 : decode cX8_restore 36 = .ok (.imul, 1) := by decide +kernel
theorem dX8_restore_37 : decode cX8_restore 37 = .ok (.aload_n 0, 1) := by decide +kernel
theorem dX8_restore_38 : decode cX8_restore 38 = .ok (.getfield 7, 3) := by decide +kernel
theorem dX8_restore_41 : decode cX8_restore 41 = .ok (.iconst 0, 1) := by decide +kernel
theorem dX8_restore_42 : decode cX8_restore 42 = .ok (.invokestatic 46, 3) := by decide +kernel
theorem dX8_restore_45 : decode cX8_restore 45 = .ok (.aload_n 0, 1) := by decide +kernel
theorem dX8_restore_46 : decode cX8_restore 46 = .ok (.getfield 7, 3) := by decide +kernel
theorem dX8_restore_49 : decode cX8_restore 49 = .ok (.sipush 174, 3) := by decide +kernel
theorem dX8_restore_52 : decode cX8_restore 52 = .ok (.iaload, 1) := by decide +kernel
theorem dX8_restore_53 : decode cX8_restore 53 = .ok (.ireturn, 1) := by decide +kernel
theorem dX8_beginNow_0 : decode cX8_beginNow 0 = .ok (.sipush 174, 3) := by decide +kernel
theorem dX8_beginNow_3 : decode cX8_beginNow 3 = .ok (.istore_n 1, 1) := by decide +kernel
theorem dX8_beginNow_4 : decode cX8_beginNow 4 = .ok (.iload_n 1, 1) := by decide +kernel
theorem dX8_beginNow_5 : decode cX8_beginNow 5 = .ok (.sipush 190, 3) := by decide +kernel
theorem dX8_beginNow_8 : decode cX8_beginNow 8 = .ok (.if_icmp .ge 16, 3) := by decide +kernel
theorem dX8_beginNow_11 : decode cX8_beginNow 11 = .ok (.aload_n 0, 1) := by decide +kernel
theorem dX8_beginNow_12 : decode cX8_beginNow 12 = .ok (.getfield 7, 3) := by decide +kernel
theorem dX8_beginNow_15 : decode cX8_beginNow 15 = .ok (.iload_n 1, 1) := by decide +kernel
theorem dX8_beginNow_16 : decode cX8_beginNow 16 = .ok (.iconst 0, 1) := by decide +kernel
theorem dX8_beginNow_17 : decode cX8_beginNow 17 = .ok (.iastore, 1) := by decide +kernel
theorem dX8_beginNow_18 : decode cX8_beginNow 18 = .ok (.iinc 1 1, 3) := by decide +kernel
theorem dX8_beginNow_21 : decode cX8_beginNow 21 = .ok (.goto (-17), 3) := by decide +kernel
theorem dX8_beginNow_24 : decode cX8_beginNow 24 = .ok (.aload_n 0, 1) := by decide +kernel
theorem dX8_beginNow_25 : decode cX8_beginNow 25 = .ok (.getfield 7, 3) := by decide +kernel
theorem dX8_beginNow_28 : decode cX8_beginNow 28 = .ok (.sipush 181, 3) := by decide +kernel
theorem dX8_beginNow_31 : decode cX8_beginNow 31 = .ok (.aload_n 0, 1) := by decide +kernel
theorem dX8_beginNow_32 : decode cX8_beginNow 32 = .ok (.getfield 7, 3) := by decide +kernel
theorem dX8_beginNow_35 : decode cX8_beginNow 35 = .ok (.iconst 4, 1) := by decide +kernel
theorem dX8_beginNow_36 : decode cX8_beginNow 36 = .ok (.iaload, 1) := by decide +kernel
theorem dX8_beginNow_37 : decode cX8_beginNow 37 = .ok (.iastore, 1) := by decide +kernel
theorem dX8_beginNow_38 : decode cX8_beginNow 38 = .ok (.return_, 1) := by decide +kernel
theorem dX8_climb_0 : decode cX8_climb 0 = .ok (.aload_n 0, 1) := by decide +kernel
theorem dX8_climb_1 : decode cX8_climb 1 = .ok (.aload_n 0, 1) := by decide +kernel
theorem dX8_climb_2 : decode cX8_climb 2 = .ok (.getfield 7, 3) := by decide +kernel
theorem dX8_climb_5 : decode cX8_climb 5 = .ok (.sipush 179, 3) := by decide +kernel
theorem dX8_climb_8 : decode cX8_climb 8 = .ok (.iaload, 1) := by decide +kernel
theorem dX8_climb_9 : decode cX8_climb 9 = .ok (.iconst 1, 1) := by decide +kernel
theorem dX8_climb_10 : decode cX8_climb 10 = .ok (.invokevirtual 53, 3) := by decide +kernel
theorem dX8_climb_13 : decode cX8_climb 13 = .ok (.istore_n 1, 1) := by decide +kernel
theorem dX8_climb_14 : decode cX8_climb 14 = .ok (.iload_n 1, 1) := by decide +kernel
theorem dX8_climb_15 : decode cX8_climb 15 = .ok (.ifCond .le 7, 3) := by decide +kernel
theorem dX8_climb_18 : decode cX8_climb 18 = .ok (.iload_n 1, 1) := by decide +kernel
theorem dX8_climb_19 : decode cX8_climb 19 = .ok (.goto 4, 3) := by decide +kernel
theorem dX8_climb_22 : decode cX8_climb 22 = .ok (.iconst 0, 1) := by decide +kernel
theorem dX8_climb_23 : decode cX8_climb 23 = .ok (.ireturn, 1) := by decide +kernel
theorem dX8_step_0 : decode cX8_step 0 = .ok (.aload_n 0, 1) := by decide +kernel
theorem dX8_step_1 : decode cX8_step 1 = .ok (.getfield 7, 3) := by decide +kernel
theorem dX8_step_4 : decode cX8_step 4 = .ok (.sipush 189, 3) := by decide +kernel
theorem dX8_step_7 : decode cX8_step 7 = .ok (.dup2, 1) := by decide +kernel
theorem dX8_step_8 : decode cX8_step 8 = .ok (.iaload, 1) := by decide +kernel
theorem dX8_step_9 : decode cX8_step 9 = .ok (.iconst 1, 1) := by decide +kernel
theorem dX8_step_10 : decode cX8_step 10 = .ok (.iadd, 1) := by decide +kernel
theorem dX8_step_11 : decode cX8_step 11 = .ok (.iastore, 1) := by decide +kernel
theorem dX8_step_12 : decode cX8_step 12 = .ok (.aload_n 0, 1) := by decide +kernel
theorem dX8_step_13 : decode cX8_step 13 = .ok (.aload_n 0, 1) := by decide +kernel
theorem dX8_step_14 : decode cX8_step 14 = .ok (.getfield 7, 3) := by decide +kernel
theorem dX8_step_17 : decode cX8_step 17 = .ok (.sipush 179, 3) := by decide +kernel
theorem dX8_step_20 : decode cX8_step 20 = .ok (.iaload, 1) := by decide +kernel
theorem dX8_step_21 : decode cX8_step 21 = .ok (.iconst 2, 1) := by decide +kernel
theorem dX8_step_22 : decode cX8_step 22 = .ok (.invokevirtual 53, 3) := by decide +kernel
theorem dX8_step_25 : decode cX8_step 25 = .ok (.iconst 1, 1) := by decide +kernel
theorem dX8_step_26 : decode cX8_step 26 = .ok (.if_icmp .ne 34, 3) := by decide +kernel
theorem dX8_step_29 : decode cX8_step 29 = .ok (.aload_n 0, 1) := by decide +kernel
theorem dX8_step_30 : decode cX8_step 30 = .ok (.getfield 7, 3) := by decide +kernel
theorem dX8_step_33 : decode cX8_step 33 = .ok (.sipush 189, 3) := by decide +kernel
theorem dX8_step_36 : decode cX8_step 36 = .ok (.iaload, 1) := by decide +kernel
theorem dX8_step_37 : decode cX8_step 37 = .ok (.aload_n 0, 1) := by decide +kernel
theorem dX8_step_38 : decode cX8_step 38 = .ok (.getfield 7, 3) := by decide +kernel
theorem dX8_step_41 : decode cX8_step 41 = .ok (.iconst 5, 1) := by decide +kernel
theorem dX8_step_42 : decode cX8_step 42 = .ok (.iaload, 1) := by decide +kernel
theorem dX8_step_43 : decode cX8_step 43 = .ok (.irem, 1) := by decide +kernel
theorem dX8_step_44 : decode cX8_step 44 = .ok (.ifCond .ne 16, 3) := by decide +kernel
theorem dX8_step_47 : decode cX8_step 47 = .ok (.aload_n 0, 1) := by decide +kernel
theorem dX8_step_48 : decode cX8_step 48 = .ok (.getfield 7, 3) := by decide +kernel
theorem dX8_step_51 : decode cX8_step 51 = .ok (.sipush 184, 3) := by decide +kernel
theorem dX8_step_54 : decode cX8_step 54 = .ok (.dup2, 1) := by decide +kernel
theorem dX8_step_55 : decode cX8_step 55 = .ok (.iaload, 1) := by decide +kernel
theorem dX8_step_56 : decode cX8_step 56 = .ok (.iconst 1, 1) := by decide +kernel
theorem dX8_step_57 : decode cX8_step 57 = .ok (.iadd, 1) := by decide +kernel
theorem dX8_step_58 : decode cX8_step 58 = .ok (.iastore, 1) := by decide +kernel
theorem dX8_step_59 : decode cX8_step 59 = .ok (.return_, 1) := by decide +kernel
theorem dX8_step_60 : decode cX8_step 60 = .ok (.aload_n 0, 1) := by decide +kernel
theorem dX8_step_61 : decode cX8_step 61 = .ok (.getfield 7, 3) := by decide +kernel
theorem dX8_step_64 : decode cX8_step 64 = .ok (.sipush 180, 3) := by decide +kernel
theorem dX8_step_67 : decode cX8_step 67 = .ok (.dup2, 1) := by decide +kernel
theorem dX8_step_68 : decode cX8_step 68 = .ok (.iaload, 1) := by decide +kernel
theorem dX8_step_69 : decode cX8_step 69 = .ok (.iconst 1, 1) := by decide +kernel
theorem dX8_step_70 : decode cX8_step 70 = .ok (.iadd, 1) := by decide +kernel
theorem dX8_step_71 : decode cX8_step 71 = .ok (.iastore, 1) := by decide +kernel
theorem dX8_step_72 : decode cX8_step 72 = .ok (.aload_n 0, 1) := by decide +kernel
theorem dX8_step_73 : decode cX8_step 73 = .ok (.getfield 7, 3) := by decide +kernel
theorem dX8_step_76 : decode cX8_step 76 = .ok (.sipush 183, 3) := by decide +kernel
theorem dX8_step_79 : decode cX8_step 79 = .ok (.dup2, 1) := by decide +kernel
theorem dX8_step_80 : decode cX8_step 80 = .ok (.iaload, 1) := by decide +kernel
theorem dX8_step_81 : decode cX8_step 81 = .ok (.iconst 1, 1) := by decide +kernel
theorem dX8_step_82 : decode cX8_step 82 = .ok (.iadd, 1) := by decide +kernel
theorem dX8_step_83 : decode cX8_step 83 = .ok (.iastore, 1) := by decide +kernel
theorem dX8_step_84 : decode cX8_step 84 = .ok (.aload_n 0, 1) := by decide +kernel
theorem dX8_step_85 : decode cX8_step 85 = .ok (.getfield 7, 3) := by decide +kernel
theorem dX8_step_88 : decode cX8_step 88 = .ok (.sipush 180, 3) := by decide +kernel
theorem dX8_step_91 : decode cX8_step 91 = .ok (.iaload, 1) := by decide +kernel
theorem dX8_step_92 : decode cX8_step 92 = .ok (.aload_n 0, 1) := by decide +kernel
theorem dX8_step_93 : decode cX8_step 93 = .ok (.aload_n 0, 1) := by decide +kernel
theorem dX8_step_94 : decode cX8_step 94 = .ok (.getfield 7, 3) := by decide +kernel
theorem dX8_step_97 : decode cX8_step 97 = .ok (.sipush 179, 3) := by decide +kernel
theorem dX8_step_100 : decode cX8_step 100 = .ok (.iaload, 1) := by decide +kernel
theorem dX8_step_101 : decode cX8_step 101 = .ok (.iconst 0, 1) := by decide +kernel
theorem dX8_step_102 : decode cX8_step 102 = .ok (.invokevirtual 53, 3) := by decide +kernel
theorem dX8_step_105 : decode cX8_step 105 = .ok (.if_icmp .ne 69, 3) := by decide +kernel
theorem dX8_step_108 : decode cX8_step 108 = .ok (.aload_n 0, 1) := by decide +kernel
theorem dX8_step_109 : decode cX8_step 109 = .ok (.iconst 1, 1) := by decide +kernel
theorem dX8_step_110 : decode cX8_step 110 = .ok (.putfield 57, 3) := by decide +kernel
theorem dX8_step_113 : decode cX8_step 113 = .ok (.aload_n 0, 1) := by decide +kernel
theorem dX8_step_114 : decode cX8_step 114 = .ok (.getfield 7, 3) := by decide +kernel
theorem dX8_step_117 : decode cX8_step 117 = .ok (.sipush 179, 3) := by decide +kernel
theorem dX8_step_120 : decode cX8_step 120 = .ok (.dup2, 1) := by decide +kernel
theorem dX8_step_121 : decode cX8_step 121 = .ok (.iaload, 1) := by decide +kernel
theorem dX8_step_122 : decode cX8_step 122 = .ok (.iconst 1, 1) := by decide +kernel
theorem dX8_step_123 : decode cX8_step 123 = .ok (.iadd, 1) := by decide +kernel
theorem dX8_step_124 : decode cX8_step 124 = .ok (.iastore, 1) := by decide +kernel
theorem dX8_step_125 : decode cX8_step 125 = .ok (.aload_n 0, 1) := by decide +kernel
theorem dX8_step_126 : decode cX8_step 126 = .ok (.getfield 7, 3) := by decide +kernel
theorem dX8_step_129 : decode cX8_step 129 = .ok (.sipush 180, 3) := by decide +kernel
theorem dX8_step_132 : decode cX8_step 132 = .ok (.iconst 0, 1) := by decide +kernel
theorem dX8_step_133 : decode cX8_step 133 = .ok (.iastore, 1) := by decide +kernel
theorem dX8_step_134 : decode cX8_step 134 = .ok (.aload_n 0, 1) := by decide +kernel
theorem dX8_step_135 : decode cX8_step 135 = .ok (.getfield 7, 3) := by decide +kernel
theorem dX8_step_138 : decode cX8_step 138 = .ok (.sipush 189, 3) := by decide +kernel
theorem dX8_step_141 : decode cX8_step 141 = .ok (.iconst 0, 1) := by decide +kernel
theorem dX8_step_142 : decode cX8_step 142 = .ok (.iastore, 1) := by decide +kernel
theorem dX8_step_143 : decode cX8_step 143 = .ok (.aload_n 0, 1) := by decide +kernel
theorem dX8_step_144 : decode cX8_step 144 = .ok (.getfield 7, 3) := by decide +kernel
theorem dX8_step_147 : decode cX8_step 147 = .ok (.sipush 188, 3) := by decide +kernel
theorem dX8_step_150 : decode cX8_step 150 = .ok (.aload_n 0, 1) := by decide +kernel
theorem dX8_step_151 : decode cX8_step 151 = .ok (.getfield 7, 3) := by decide +kernel
theorem dX8_step_154 : decode cX8_step 154 = .ok (.sipush 179, 3) := by decide +kernel
theorem dX8_step_157 : decode cX8_step 157 = .ok (.iaload, 1) := by decide +kernel
theorem dX8_step_158 : decode cX8_step 158 = .ok (.aload_n 0, 1) := by decide +kernel
theorem dX8_step_159 : decode cX8_step 159 = .ok (.getfield 7, 3) := by decide +kernel
theorem dX8_step_162 : decode cX8_step 162 = .ok (.bipush 7, 2) := by decide +kernel
theorem dX8_step_164 : decode cX8_step 164 = .ok (.iaload, 1) := by decide +kernel
theorem dX8_step_165 : decode cX8_step 165 = .ok (.if_icmp .ne 7, 3) := by decide +kernel
theorem dX8_step_168 : decode cX8_step 168 = .ok (.iconst 1, 1) := by decide +kernel
theorem dX8_step_169 : decode cX8_step 169 = .ok (.goto 4, 3) := by decide +kernel
theorem dX8_step_172 : decode cX8_step 172 = .ok (.iconst 0, 1) := by decide +kernel
theorem dX8_step_173 : decode cX8_step 173 = .ok (.iastore, 1) := by decide +kernel
theorem dX8_step_174 : decode cX8_step 174 = .ok (.return_, 1) := by decide +kernel
theorem dX8_goOn_0 : decode cX8_goOn 0 = .ok (.aload_n 0, 1) := by decide +kernel
theorem dX8_goOn_1 : decode cX8_goOn 1 = .ok (.getfield 7, 3) := by decide +kernel
theorem dX8_goOn_4 : decode cX8_goOn 4 = .ok (.sipush 176, 3) := by decide +kernel
theorem dX8_goOn_7 : decode cX8_goOn 7 = .ok (.iaload, 1) := by decide +kernel
theorem dX8_goOn_8 : decode cX8_goOn 8 = .ok (.istore_n 1, 1) := by decide +kernel
theorem dX8_goOn_9 : decode cX8_goOn 9 = .ok (.aload_n 0, 1) := by decide +kernel
theorem dX8_goOn_10 : decode cX8_goOn 10 = .ok (.getfield 7, 3) := by decide +kernel
theorem dX8_goOn_13 : decode cX8_goOn 13 = .ok (.sipush 177, 3) := by decide +kernel
theorem dX8_goOn_16 : decode cX8_goOn 16 = .ok (.iaload, 1) := by decide +kernel
theorem dX8_goOn_17 : decode cX8_goOn 17 = .ok (.istore_n 2, 1) := by decide +kernel
theorem dX8_goOn_18 : decode cX8_goOn 18 = .ok (.aload_n 0, 1) := by decide +kernel
theorem dX8_goOn_19 : decode cX8_goOn 19 = .ok (.getfield 7, 3) := by decide +kernel
theorem dX8_goOn_22 : decode cX8_goOn 22 = .ok (.sipush 178, 3) := by decide +kernel
theorem dX8_goOn_25 : decode cX8_goOn 25 = .ok (.dup2, 1) := by decide +kernel
theorem dX8_goOn_26 : decode cX8_goOn 26 = .ok (.iaload, 1) := by decide +kernel
theorem dX8_goOn_27 : decode cX8_goOn 27 = .ok (.iconst 1, 1) := by decide +kernel
theorem dX8_goOn_28 : decode cX8_goOn 28 = .ok (.iadd, 1) := by decide +kernel
theorem dX8_goOn_29 : decode cX8_goOn 29 = .ok (.iastore, 1) := by decide +kernel
theorem dX8_goOn_30 : decode cX8_goOn 30 = .ok (.aload_n 0, 1) := by decide +kernel
theorem dX8_goOn_31 : decode cX8_goOn 31 = .ok (.getfield 7, 3) := by decide +kernel
theorem dX8_goOn_34 : decode cX8_goOn 34 = .ok (.sipush 178, 3) := by decide +kernel
theorem dX8_goOn_37 : decode cX8_goOn 37 = .ok (.iaload, 1) := by decide +kernel
theorem dX8_goOn_38 : decode cX8_goOn 38 = .ok (.aload_n 0, 1) := by decide +kernel
theorem dX8_goOn_39 : decode cX8_goOn 39 = .ok (.iload_n 1, 1) := by decide +kernel
theorem dX8_goOn_40 : decode cX8_goOn 40 = .ok (.iload_n 2, 1) := by decide +kernel
theorem dX8_goOn_41 : decode cX8_goOn 41 = .ok (.invokevirtual 61, 3) := by decide +kernel
theorem dX8_goOn_44 : decode cX8_goOn 44 = .ok (.if_icmp .ge 4, 3) := by decide +kernel
theorem dX8_goOn_47 : decode cX8_goOn 47 = .ok (.return_, 1) := by decide +kernel
theorem dX8_goOn_48 : decode cX8_goOn 48 = .ok (.aload_n 0, 1) := by decide +kernel
theorem dX8_goOn_49 : decode cX8_goOn 49 = .ok (.getfield 7, 3) := by decide +kernel
theorem dX8_goOn_52 : decode cX8_goOn 52 = .ok (.sipush 178, 3) := by decide +kernel
theorem dX8_goOn_55 : decode cX8_goOn 55 = .ok (.iconst 0, 1) := by decide +kernel
theorem dX8_goOn_56 : decode cX8_goOn 56 = .ok (.iastore, 1) := by decide +kernel
theorem dX8_goOn_57 : decode cX8_goOn 57 = .ok (.aload_n 0, 1) := by decide +kernel
theorem dX8_goOn_58 : decode cX8_goOn 58 = .ok (.getfield 7, 3) := by decide +kernel
theorem dX8_goOn_61 : decode cX8_goOn 61 = .ok (.sipush 182, 3) := by decide +kernel
theorem dX8_goOn_64 : decode cX8_goOn 64 = .ok (.aload_n 0, 1) := by decide +kernel
theorem dX8_goOn_65 : decode cX8_goOn 65 = .ok (.iload_n 1, 1) := by decide +kernel
theorem dX8_goOn_66 : decode cX8_goOn 66 = .ok (.iload_n 2, 1) := by decide +kernel
theorem dX8_goOn_67 : decode cX8_goOn 67 = .ok (.invokevirtual 64, 3) := by decide +kernel
theorem dX8_goOn_70 : decode cX8_goOn 70 = .ok (.ifCond .eq 12, 3) := by decide +kernel
theorem dX8_goOn_73 : decode cX8_goOn 73 = .ok (.aload_n 0, 1) := by decide +kernel
theorem dX8_goOn_74 : decode cX8_goOn 74 = .ok (.getfield 7, 3) := by decide +kernel
theorem dX8_goOn_77 : decode cX8_goOn 77 = .ok (.iconst 1, 1) := by decide +kernel
theorem dX8_goOn_78 : decode cX8_goOn 78 = .ok (.iaload, 1) := by decide +kernel
theorem dX8_goOn_79 : decode cX8_goOn 79 = .ok (.goto 4, 3) := by decide +kernel
theorem dX8_goOn_82 : decode cX8_goOn 82 = .ok (.iconst 0, 1) := by decide +kernel
theorem dX8_goOn_83 : decode cX8_goOn 83 = .ok (.iastore, 1) := by decide +kernel
theorem dX8_goOn_84 : decode cX8_goOn 84 = .ok (.aload_n 0, 1) := by decide +kernel
theorem dX8_goOn_85 : decode cX8_goOn 85 = .ok (.getfield 7, 3) := by decide +kernel
theorem dX8_goOn_88 : decode cX8_goOn 88 = .ok (.sipush 177, 3) := by decide +kernel
theorem dX8_goOn_91 : decode cX8_goOn 91 = .ok (.dup2, 1) := by decide +kernel
theorem dX8_goOn_92 : decode cX8_goOn 92 = .ok (.iaload, 1) := by decide +kernel
theorem dX8_goOn_93 : decode cX8_goOn 93 = .ok (.iconst 1, 1) := by decide +kernel
theorem dX8_goOn_94 : decode cX8_goOn 94 = .ok (.iadd, 1) := by decide +kernel
theorem dX8_goOn_95 : decode cX8_goOn 95 = .ok (.iastore, 1) := by decide +kernel
theorem dX8_goOn_96 : decode cX8_goOn 96 = .ok (.aload_n 0, 1) := by decide +kernel
theorem dX8_goOn_97 : decode cX8_goOn 97 = .ok (.getfield 7, 3) := by decide +kernel
theorem dX8_goOn_100 : decode cX8_goOn 100 = .ok (.sipush 177, 3) := by decide +kernel
theorem dX8_goOn_103 : decode cX8_goOn 103 = .ok (.iaload, 1) := by decide +kernel
theorem dX8_goOn_104 : decode cX8_goOn 104 = .ok (.aload_n 0, 1) := by decide +kernel
theorem dX8_goOn_105 : decode cX8_goOn 105 = .ok (.getfield 7, 3) := by decide +kernel
theorem dX8_goOn_108 : decode cX8_goOn 108 = .ok (.bipush 8, 2) := by decide +kernel
theorem dX8_goOn_110 : decode cX8_goOn 110 = .ok (.iload_n 1, 1) := by decide +kernel
theorem dX8_goOn_111 : decode cX8_goOn 111 = .ok (.iadd, 1) := by decide +kernel
theorem dX8_goOn_112 : decode cX8_goOn 112 = .ok (.iaload, 1) := by decide +kernel
theorem dX8_goOn_113 : decode cX8_goOn 113 = .ok (.if_icmp .ne 24, 3) := by decide +kernel
theorem dX8_goOn_116 : decode cX8_goOn 116 = .ok (.aload_n 0, 1) := by decide +kernel
theorem dX8_goOn_117 : decode cX8_goOn 117 = .ok (.getfield 7, 3) := by decide +kernel
theorem dX8_goOn_120 : decode cX8_goOn 120 = .ok (.sipush 177, 3) := by decide +kernel
theorem dX8_goOn_123 : decode cX8_goOn 123 = .ok (.iconst 0, 1) := by decide +kernel
theorem dX8_goOn_124 : decode cX8_goOn 124 = .ok (.iastore, 1) := by decide +kernel
theorem dX8_goOn_125 : decode cX8_goOn 125 = .ok (.aload_n 0, 1) := by decide +kernel
theorem dX8_goOn_126 : decode cX8_goOn 126 = .ok (.getfield 7, 3) := by decide +kernel
theorem dX8_goOn_129 : decode cX8_goOn 129 = .ok (.sipush 176, 3) := by decide +kernel
theorem dX8_goOn_132 : decode cX8_goOn 132 = .ok (.dup2, 1) := by decide +kernel
theorem dX8_goOn_133 : decode cX8_goOn 133 = .ok (.iaload, 1) := by decide +kernel
theorem dX8_goOn_134 : decode cX8_goOn 134 = .ok (.iconst 1, 1) := by decide +kernel
theorem dX8_goOn_135 : decode cX8_goOn 135 = .ok (.iadd, 1) := by decide +kernel
theorem dX8_goOn_136 : decode cX8_goOn 136 = .ok (.iastore, 1) := by decide +kernel
theorem dX8_goOn_137 : decode cX8_goOn 137 = .ok (.aload_n 0, 1) := by decide +kernel
theorem dX8_goOn_138 : decode cX8_goOn 138 = .ok (.getfield 7, 3) := by decide +kernel
theorem dX8_goOn_141 : decode cX8_goOn 141 = .ok (.sipush 176, 3) := by decide +kernel
theorem dX8_goOn_144 : decode cX8_goOn 144 = .ok (.iaload, 1) := by decide +kernel
theorem dX8_goOn_145 : decode cX8_goOn 145 = .ok (.aload_n 0, 1) := by decide +kernel
theorem dX8_goOn_146 : decode cX8_goOn 146 = .ok (.getfield 7, 3) := by decide +kernel
theorem dX8_goOn_149 : decode cX8_goOn 149 = .ok (.bipush 6, 2) := by decide +kernel
theorem dX8_goOn_151 : decode cX8_goOn 151 = .ok (.iaload, 1) := by decide +kernel
theorem dX8_goOn_152 : decode cX8_goOn 152 = .ok (.if_icmp .ne 29, 3) := by decide +kernel
theorem dX8_goOn_155 : decode cX8_goOn 155 = .ok (.aload_n 0, 1) := by decide +kernel
theorem dX8_goOn_156 : decode cX8_goOn 156 = .ok (.getfield 7, 3) := by decide +kernel
theorem dX8_goOn_159 : decode cX8_goOn 159 = .ok (.sipush 176, 3) := by decide +kernel
theorem dX8_goOn_162 : decode cX8_goOn 162 = .ok (.iconst 0, 1) := by decide +kernel
theorem dX8_goOn_163 : decode cX8_goOn 163 = .ok (.iastore, 1) := by decide +kernel
theorem dX8_goOn_164 : decode cX8_goOn 164 = .ok (.aload_n 0, 1) := by decide +kernel
theorem dX8_goOn_165 : decode cX8_goOn 165 = .ok (.getfield 7, 3) := by decide +kernel
theorem dX8_goOn_168 : decode cX8_goOn 168 = .ok (.sipush 186, 3) := by decide +kernel
theorem dX8_goOn_171 : decode cX8_goOn 171 = .ok (.dup2, 1) := by decide +kernel
theorem dX8_goOn_172 : decode cX8_goOn 172 = .ok (.iaload, 1) := by decide +kernel
theorem dX8_goOn_173 : decode cX8_goOn 173 = .ok (.iconst 1, 1) := by decide +kernel
theorem dX8_goOn_174 : decode cX8_goOn 174 = .ok (.iadd, 1) := by decide +kernel
theorem dX8_goOn_175 : decode cX8_goOn 175 = .ok (.iastore, 1) := by decide +kernel
theorem dX8_goOn_176 : decode cX8_goOn 176 = .ok (.aload_n 0, 1) := by decide +kernel
theorem dX8_goOn_177 : decode cX8_goOn 177 = .ok (.iconst 1, 1) := by decide +kernel
theorem dX8_goOn_178 : decode cX8_goOn 178 = .ok (.putfield 68, 3) := by decide +kernel
theorem dX8_goOn_181 : decode cX8_goOn 181 = .ok (.return_, 1) := by decide +kernel
theorem dX8_beat_0 : decode cX8_beat 0 = .ok (.iconst 1, 1) := by decide +kernel
theorem dX8_beat_1 : decode cX8_beat 1 = .ok (.aload_n 0, 1) := by decide +kernel
theorem dX8_beat_2 : decode cX8_beat 2 = .ok (.invokevirtual 71, 3) := by decide +kernel
theorem dX8_beat_5 : decode cX8_beat 5 = .ok (.iadd, 1) := by decide +kernel
theorem dX8_beat_6 : decode cX8_beat 6 = .ok (.istore_n 1, 1) := by decide +kernel
theorem dX8_beat_7 : decode cX8_beat 7 = .ok (.aload_n 0, 1) := by decide +kernel
theorem dX8_beat_8 : decode cX8_beat 8 = .ok (.iconst 0, 1) := by decide +kernel
theorem dX8_beat_9 : decode cX8_beat 9 = .ok (.putfield 68, 3) := by decide +kernel
theorem dX8_beat_12 : decode cX8_beat 12 = .ok (.aload_n 0, 1) := by decide +kernel
theorem dX8_beat_13 : decode cX8_beat 13 = .ok (.iconst 0, 1) := by decide +kernel
theorem dX8_beat_14 : decode cX8_beat 14 = .ok (.putfield 57, 3) := by decide +kernel
theorem dX8_beat_17 : decode cX8_beat 17 = .ok (.aload_n 0, 1) := by decide +kernel
theorem dX8_beat_18 : decode cX8_beat 18 = .ok (.getfield 7, 3) := by decide +kernel
theorem dX8_beat_21 : decode cX8_beat 21 = .ok (.sipush 174, 3) := by decide +kernel
theorem dX8_beat_24 : decode cX8_beat 24 = .ok (.dup2, 1) := by decide +kernel
theorem dX8_beat_25 : decode cX8_beat 25 = .ok (.iaload, 1) := by decide +kernel
theorem dX8_beat_26 : decode cX8_beat 26 = .ok (.iconst 1, 1) := by decide +kernel
theorem dX8_beat_27 : decode cX8_beat 27 = .ok (.iadd, 1) := by decide +kernel
theorem dX8_beat_28 : decode cX8_beat 28 = .ok (.iastore, 1) := by decide +kernel
theorem dX8_beat_29 : decode cX8_beat 29 = .ok (.aload_n 0, 1) := by decide +kernel
theorem dX8_beat_30 : decode cX8_beat 30 = .ok (.getfield 7, 3) := by decide +kernel
theorem dX8_beat_33 : decode cX8_beat 33 = .ok (.sipush 182, 3) := by decide +kernel
theorem dX8_beat_36 : decode cX8_beat 36 = .ok (.iaload, 1) := by decide +kernel
theorem dX8_beat_37 : decode cX8_beat 37 = .ok (.ifCond .ne 41, 3) := by decide +kernel
theorem dX8_beat_40 : decode cX8_beat 40 = .ok (.aload_n 0, 1) := by decide +kernel
theorem dX8_beat_41 : decode cX8_beat 41 = .ok (.getfield 7, 3) := by decide +kernel
theorem dX8_beat_44 : decode cX8_beat 44 = .ok (.sipush 181, 3) := by decide +kernel
theorem dX8_beat_47 : decode cX8_beat 47 = .ok (.iaload, 1) := by decide +kernel
theorem dX8_beat_48 : decode cX8_beat 48 = .ok (.iload_n 1, 1) := by decide +kernel
theorem dX8_beat_49 : decode cX8_beat 49 = .ok (.if_icmp .ge 29, 3) := by decide +kernel
theorem dX8_beat_52 : decode cX8_beat 52 = .ok (.aload_n 0, 1) := by decide +kernel
theorem dX8_beat_53 : decode cX8_beat 53 = .ok (.getfield 7, 3) := by decide +kernel
theorem dX8_beat_56 : decode cX8_beat 56 = .ok (.sipush 185, 3) := by decide +kernel
theorem dX8_beat_59 : decode cX8_beat 59 = .ok (.dup2, 1) := by decide +kernel
theorem dX8_beat_60 : decode cX8_beat 60 = .ok (.iaload, 1) := by decide +kernel
theorem dX8_beat_61 : decode cX8_beat 61 = .ok (.iconst 1, 1) := by decide +kernel
theorem dX8_beat_62 : decode cX8_beat 62 = .ok (.iadd, 1) := by decide +kernel
theorem dX8_beat_63 : decode cX8_beat 63 = .ok (.iastore, 1) := by decide +kernel
theorem dX8_beat_64 : decode cX8_beat 64 = .ok (.aload_n 0, 1) := by decide +kernel
theorem dX8_beat_65 : decode cX8_beat 65 = .ok (.getfield 7, 3) := by decide +kernel
theorem dX8_beat_68 : decode cX8_beat 68 = .ok (.sipush 182, 3) := by decide +kernel
theorem dX8_beat_71 : decode cX8_beat 71 = .ok (.aload_n 0, 1) := by decide +kernel
theorem dX8_beat_72 : decode cX8_beat 72 = .ok (.getfield 7, 3) := by decide +kernel
theorem dX8_beat_75 : decode cX8_beat 75 = .ok (.iconst 2, 1) := by decide +kernel
theorem dX8_beat_76 : decode cX8_beat 76 = .ok (.iaload, 1) := by decide +kernel
theorem dX8_beat_77 : decode cX8_beat 77 = .ok (.iastore, 1) := by decide +kernel
theorem dX8_beat_78 : decode cX8_beat 78 = .ok (.aload_n 0, 1) := by decide +kernel
theorem dX8_beat_79 : decode cX8_beat 79 = .ok (.getfield 7, 3) := by decide +kernel
theorem dX8_beat_82 : decode cX8_beat 82 = .ok (.sipush 175, 3) := by decide +kernel
theorem dX8_beat_85 : decode cX8_beat 85 = .ok (.dup2, 1) := by decide +kernel
theorem dX8_beat_86 : decode cX8_beat 86 = .ok (.iaload, 1) := by decide +kernel
theorem dX8_beat_87 : decode cX8_beat 87 = .ok (.aload_n 0, 1) := by decide +kernel
theorem dX8_beat_88 : decode cX8_beat 88 = .ok (.getfield 7, 3) := by decide +kernel
theorem dX8_beat_91 : decode cX8_beat 91 = .ok (.iconst 0, 1) := by decide +kernel
theorem dX8_beat_92 : decode cX8_beat 92 = .ok (.iaload, 1) := by decide +kernel
theorem dX8_beat_93 : decode cX8_beat 93 = .ok (.iadd, 1) := by decide +kernel
theorem dX8_beat_94 : decode cX8_beat 94 = .ok (.iastore, 1) := by decide +kernel
theorem dX8_beat_95 : decode cX8_beat 95 = .ok (.aload_n 0, 1) := by decide +kernel
theorem dX8_beat_96 : decode cX8_beat 96 = .ok (.getfield 7, 3) := by decide +kernel
theorem dX8_beat_99 : decode cX8_beat 99 = .ok (.sipush 182, 3) := by decide +kernel
theorem dX8_beat_102 : decode cX8_beat 102 = .ok (.iaload, 1) := by decide +kernel
theorem dX8_beat_103 : decode cX8_beat 103 = .ok (.ifCond .le 72, 3) := by decide +kernel
theorem dX8_beat_106 : decode cX8_beat 106 = .ok (.aload_n 0, 1) := by decide +kernel
theorem dX8_beat_107 : decode cX8_beat 107 = .ok (.getfield 7, 3) := by decide +kernel
theorem dX8_beat_110 : decode cX8_beat 110 = .ok (.sipush 182, 3) := by decide +kernel
theorem dX8_beat_113 : decode cX8_beat 113 = .ok (.dup2, 1) := by decide +kernel
theorem dX8_beat_114 : decode cX8_beat 114 = .ok (.iaload, 1) := by decide +kernel
theorem dX8_beat_115 : decode cX8_beat 115 = .ok (.iconst 1, 1) := by decide +kernel
theorem dX8_beat_116 : decode cX8_beat 116 = .ok (.isub, 1) := by decide +kernel
theorem dX8_beat_117 : decode cX8_beat 117 = .ok (.iastore, 1) := by decide +kernel
theorem dX8_beat_118 : decode cX8_beat 118 = .ok (.aload_n 0, 1) := by decide +kernel
theorem dX8_beat_119 : decode cX8_beat 119 = .ok (.getfield 7, 3) := by decide +kernel
theorem dX8_beat_122 : decode cX8_beat 122 = .ok (.sipush 181, 3) := by decide +kernel
theorem dX8_beat_125 : decode cX8_beat 125 = .ok (.aload_n 0, 1) := by decide +kernel
theorem dX8_beat_126 : decode cX8_beat 126 = .ok (.getfield 7, 3) := by decide +kernel
theorem dX8_beat_129 : decode cX8_beat 129 = .ok (.sipush 181, 3) := by decide +kernel
theorem dX8_beat_132 : decode cX8_beat 132 = .ok (.iaload, 1) := by decide +kernel
theorem dX8_beat_133 : decode cX8_beat 133 = .ok (.aload_n 0, 1) := by decide +kernel
theorem dX8_beat_134 : decode cX8_beat 134 = .ok (.getfield 7, 3) := by decide +kernel
theorem dX8_beat_137 : decode cX8_beat 137 = .ok (.iconst 3, 1) := by decide +kernel
theorem dX8_beat_138 : decode cX8_beat 138 = .ok (.iaload, 1) := by decide +kernel
theorem dX8_beat_139 : decode cX8_beat 139 = .ok (.iadd, 1) := by decide +kernel
theorem dX8_beat_140 : decode cX8_beat 140 = .ok (.aload_n 0, 1) := by decide +kernel
theorem dX8_beat_141 : decode cX8_beat 141 = .ok (.getfield 7, 3) := by decide +kernel
theorem dX8_beat_144 : decode cX8_beat 144 = .ok (.iconst 4, 1) := by decide +kernel
theorem dX8_beat_145 : decode cX8_beat 145 = .ok (.iaload, 1) := by decide +kernel
theorem dX8_beat_146 : decode cX8_beat 146 = .ok (.if_icmp .ge 21, 3) := by decide +kernel
theorem dX8_beat_149 : decode cX8_beat 149 = .ok (.aload_n 0, 1) := by decide +kernel
theorem dX8_beat_150 : decode cX8_beat 150 = .ok (.getfield 7, 3) := by decide +kernel
theorem dX8_beat_153 : decode cX8_beat 153 = .ok (.sipush 181, 3) := by decide +kernel
theorem dX8_beat_156 : decode cX8_beat 156 = .ok (.iaload, 1) := by decide +kernel
theorem dX8_beat_157 : decode cX8_beat 157 = .ok (.aload_n 0, 1) := by decide +kernel
theorem dX8_beat_158 : decode cX8_beat 158 = .ok (.getfield 7, 3) := by decide +kernel
theorem dX8_beat_161 : decode cX8_beat 161 = .ok (.iconst 3, 1) := by decide +kernel
theorem dX8_beat_162 : decode cX8_beat 162 = .ok (.iaload, 1) := by decide +kernel
theorem dX8_beat_163 : decode cX8_beat 163 = .ok (.iadd, 1) := by decide +kernel
theorem dX8_beat_164 : decode cX8_beat 164 = .ok (.goto 9, 3) := by decide +kernel
theorem dX8_beat_167 : decode cX8_beat 167 = .ok (.aload_n 0, 1) := by decide +kernel
theorem dX8_beat_168 : decode cX8_beat 168 = .ok (.getfield 7, 3) := by decide +kernel
theorem dX8_beat_171 : decode cX8_beat 171 = .ok (.iconst 4, 1) := by decide +kernel
theorem dX8_beat_172 : decode cX8_beat 172 = .ok (.iaload, 1) := by decide +kernel
theorem dX8_beat_173 : decode cX8_beat 173 = .ok (.iastore, 1) := by decide +kernel
theorem dX8_beat_174 : decode cX8_beat 174 = .ok (.return_, 1) := by decide +kernel
theorem dX8_beat_175 : decode cX8_beat 175 = .ok (.aload_n 0, 1) := by decide +kernel
theorem dX8_beat_176 : decode cX8_beat 176 = .ok (.getfield 7, 3) := by decide +kernel
theorem dX8_beat_179 : decode cX8_beat 179 = .ok (.sipush 181, 3) := by decide +kernel
theorem dX8_beat_182 : decode cX8_beat 182 = .ok (.dup2, 1) := by decide +kernel
theorem dX8_beat_183 : decode cX8_beat 183 = .ok (.iaload, 1) := by decide +kernel
theorem dX8_beat_184 : decode cX8_beat 184 = .ok (.iload_n 1, 1) := by decide +kernel
theorem dX8_beat_185 : decode cX8_beat 185 = .ok (.isub, 1) := by decide +kernel
theorem dX8_beat_186 : decode cX8_beat 186 = .ok (.iastore, 1) := by decide +kernel
theorem dX8_beat_187 : decode cX8_beat 187 = .ok (.aload_n 0, 1) := by decide +kernel
theorem dX8_beat_188 : decode cX8_beat 188 = .ok (.getfield 7, 3) := by decide +kernel
theorem dX8_beat_191 : decode cX8_beat 191 = .ok (.sipush 175, 3) := by decide +kernel
theorem dX8_beat_194 : decode cX8_beat 194 = .ok (.dup2, 1) := by decide +kernel
theorem dX8_beat_195 : decode cX8_beat 195 = .ok (.iaload, 1) := by decide +kernel
theorem dX8_beat_196 : decode cX8_beat 196 = .ok (.aload_n 0, 1) := by decide +kernel
theorem dX8_beat_197 : decode cX8_beat 197 = .ok (.invokevirtual 71, 3) := by decide +kernel
theorem dX8_beat_200 : decode cX8_beat 200 = .ok (.iadd, 1) := by decide +kernel
theorem dX8_beat_201 : decode cX8_beat 201 = .ok (.iastore, 1) := by decide +kernel
theorem dX8_beat_202 : decode cX8_beat 202 = .ok (.aload_n 0, 1) := by decide +kernel
theorem dX8_beat_203 : decode cX8_beat 203 = .ok (.getfield 7, 3) := by decide +kernel
theorem dX8_beat_206 : decode cX8_beat 206 = .ok (.sipush 187, 3) := by decide +kernel
theorem dX8_beat_209 : decode cX8_beat 209 = .ok (.dup2, 1) := by decide +kernel
theorem dX8_beat_210 : decode cX8_beat 210 = .ok (.iaload, 1) := by decide +kernel
theorem dX8_beat_211 : decode cX8_beat 211 = .ok (.iconst 1, 1) := by decide +kernel
theorem dX8_beat_212 : decode cX8_beat 212 = .ok (.iadd, 1) := by decide +kernel
theorem dX8_beat_213 : decode cX8_beat 213 = .ok (.iastore, 1) := by decide +kernel
theorem dX8_beat_214 : decode cX8_beat 214 = .ok (.aload_n 0, 1) := by decide +kernel
theorem dX8_beat_215 : decode cX8_beat 215 = .ok (.invokevirtual 75, 3) := by decide +kernel
theorem dX8_beat_218 : decode cX8_beat 218 = .ok (.aload_n 0, 1) := by decide +kernel
theorem dX8_beat_219 : decode cX8_beat 219 = .ok (.invokevirtual 78, 3) := by decide +kernel
theorem dX8_beat_222 : decode cX8_beat 222 = .ok (.return_, 1) := by decide +kernel
theorem dX8_marchNow_0 : decode cX8_marchNow 0 = .ok (.iconst 0, 1) := by decide +kernel
theorem dX8_marchNow_1 : decode cX8_marchNow 1 = .ok (.istore_n 2, 1) := by decide +kernel
theorem dX8_marchNow_2 : decode cX8_marchNow 2 = .ok (.iload_n 2, 1) := by decide +kernel
theorem dX8_marchNow_3 : decode cX8_marchNow 3 = .ok (.iload_n 1, 1) := by decide +kernel
theorem dX8_marchNow_4 : decode cX8_marchNow 4 = .ok (.if_icmp .ge 24, 3) := by decide +kernel
theorem dX8_marchNow_7 : decode cX8_marchNow 7 = .ok (.aload_n 0, 1) := by decide +kernel
theorem dX8_marchNow_8 : decode cX8_marchNow 8 = .ok (.getfield 7, 3) := by decide +kernel
theorem dX8_marchNow_11 : decode cX8_marchNow 11 = .ok (.sipush 188, 3) := by decide +kernel
theorem dX8_marchNow_14 : decode cX8_marchNow 14 = .ok (.iaload, 1) := by decide +kernel
theorem dX8_marchNow_15 : decode cX8_marchNow 15 = .ok (.ifCond .ne 13, 3) := by decide +kernel
theorem dX8_marchNow_18 : decode cX8_marchNow 18 = .ok (.aload_n 0, 1) := by decide +kernel
theorem dX8_marchNow_19 : decode cX8_marchNow 19 = .ok (.invokevirtual 81, 3) := by decide +kernel
theorem dX8_marchNow_22 : decode cX8_marchNow 22 = .ok (.iinc 2 1, 3) := by decide +kernel
theorem dX8_marchNow_25 : decode cX8_marchNow 25 = .ok (.goto (-23), 3) := by decide +kernel
theorem dX8_marchNow_28 : decode cX8_marchNow 28 = .ok (.iload_n 2, 1) := by decide +kernel
theorem dX8_marchNow_29 : decode cX8_marchNow 29 = .ok (.ireturn, 1) := by decide +kernel
theorem dX8_march_0 : decode cX8_march 0 = .ok (.iload_n 1, 1) := by decide +kernel
theorem dX8_march_1 : decode cX8_march 1 = .ok (.iconst 1, 1) := by decide +kernel
theorem dX8_march_2 : decode cX8_march 2 = .ok (.sipush 500, 3) := by decide +kernel
theorem dX8_march_5 : decode cX8_march 5 = .ok (.invokestatic 38, 3) := by decide +kernel
theorem dX8_march_8 : decode cX8_march 8 = .ok (.ifCond .ne 6, 3) := by decide +kernel
theorem dX8_march_11 : decode cX8_march 11 = .ok (.bipush (-2), 2) := by decide +kernel
theorem dX8_march_13 : decode cX8_march 13 = .ok (.ireturn, 1) := by decide +kernel
theorem dX8_march_14 : decode cX8_march 14 = .ok (.aload_n 0, 1) := by decide +kernel
theorem dX8_march_15 : decode cX8_march 15 = .ok (.invokevirtual 84, 3) := by decide +kernel
theorem dX8_march_18 : decode cX8_march 18 = .ok (.ifCond .eq 15, 3) := by decide +kernel
theorem dX8_march_21 : decode cX8_march 21 = .ok (.aload_n 0, 1) := by decide +kernel
theorem dX8_march_22 : decode cX8_march 22 = .ok (.getfield 7, 3) := by decide +kernel
theorem dX8_march_25 : decode cX8_march 25 = .ok (.sipush 188, 3) := by decide +kernel
theorem dX8_march_28 : decode cX8_march 28 = .ok (.iaload, 1) := by decide +kernel
theorem dX8_march_29 : decode cX8_march 29 = .ok (.iconst 1, 1) := by decide +kernel
theorem dX8_march_30 : decode cX8_march 30 = .ok (.if_icmp .ne 6, 3) := by decide +kernel
theorem dX8_march_33 : decode cX8_march 33 = .ok (.bipush (-5), 2) := by decide +kernel
theorem dX8_march_35 : decode cX8_march 35 = .ok (.ireturn, 1) := by decide +kernel
theorem dX8_march_36 : decode cX8_march 36 = .ok (.aload_n 0, 1) := by decide +kernel
theorem dX8_march_37 : decode cX8_march 37 = .ok (.invokevirtual 50, 3) := by decide +kernel
theorem dX8_march_40 : decode cX8_march 40 = .ok (.aload_n 0, 1) := by decide +kernel
theorem dX8_march_41 : decode cX8_march 41 = .ok (.iload_n 1, 1) := by decide +kernel
theorem dX8_march_42 : decode cX8_march 42 = .ok (.invokevirtual 88, 3) := by decide +kernel
theorem dX8_march_45 : decode cX8_march 45 = .ok (.ireturn, 1) := by decide +kernel
theorem dX8_begin_0 : decode cX8_begin 0 = .ok (.aload_n 0, 1) := by decide +kernel
theorem dX8_begin_1 : decode cX8_begin 1 = .ok (.invokevirtual 50, 3) := by decide +kernel
theorem dX8_begin_4 : decode cX8_begin 4 = .ok (.aload_n 0, 1) := by decide +kernel
theorem dX8_begin_5 : decode cX8_begin 5 = .ok (.getfield 7, 3) := by decide +kernel
theorem dX8_begin_8 : decode cX8_begin 8 = .ok (.sipush 174, 3) := by decide +kernel
theorem dX8_begin_11 : decode cX8_begin 11 = .ok (.iaload, 1) := by decide +kernel
theorem dX8_begin_12 : decode cX8_begin 12 = .ok (.istore_n 1, 1) := by decide +kernel
theorem dX8_begin_13 : decode cX8_begin 13 = .ok (.aload_n 0, 1) := by decide +kernel
theorem dX8_begin_14 : decode cX8_begin 14 = .ok (.invokevirtual 35, 3) := by decide +kernel
theorem dX8_begin_17 : decode cX8_begin 17 = .ok (.iload_n 1, 1) := by decide +kernel
theorem dX8_begin_18 : decode cX8_begin 18 = .ok (.ireturn, 1) := by decide +kernel
theorem dX8_isValue_0 : decode cX8_isValue 0 = .ok (.iload_n 0, 1) := by decide +kernel
theorem dX8_isValue_1 : decode cX8_isValue 1 = .ok (.tableswitch 79 0 5 #[39, 47, 39, 55, 63, 71], 39) := by decide +kernel
theorem dX8_isValue_40 : decode cX8_isValue 40 = .ok (.iload_n 1, 1) := by decide +kernel
theorem dX8_isValue_41 : decode cX8_isValue 41 = .ok (.iconst 1, 1) := by decide +kernel
theorem dX8_isValue_42 : decode cX8_isValue 42 = .ok (.bipush 9, 2) := by decide +kernel
theorem dX8_isValue_44 : decode cX8_isValue 44 = .ok (.invokestatic 38, 3) := by decide +kernel
theorem dX8_isValue_47 : decode cX8_isValue 47 = .ok (.ireturn, 1) := by decide +kernel
theorem dX8_isValue_48 : decode cX8_isValue 48 = .ok (.iload_n 1, 1) := by decide +kernel
theorem dX8_isValue_49 : decode cX8_isValue 49 = .ok (.iconst 0, 1) := by decide +kernel
theorem dX8_isValue_50 : decode cX8_isValue 50 = .ok (.bipush 9, 2) := by decide +kernel
theorem dX8_isValue_52 : decode cX8_isValue 52 = .ok (.invokestatic 38, 3) := by decide +kernel
theorem dX8_isValue_55 : decode cX8_isValue 55 = .ok (.ireturn, 1) := by decide +kernel
theorem dX8_isValue_56 : decode cX8_isValue 56 = .ok (.iload_n 1, 1) := by decide +kernel
theorem dX8_isValue_57 : decode cX8_isValue 57 = .ok (.iconst 1, 1) := by decide +kernel
theorem dX8_isValue_58 : decode cX8_isValue 58 = .ok (.bipush 20, 2) := by decide +kernel
theorem dX8_isValue_60 : decode cX8_isValue 60 = .ok (.invokestatic 38, 3) := by decide +kernel
theorem dX8_isValue_63 : decode cX8_isValue 63 = .ok (.ireturn, 1) := by decide +kernel
theorem dX8_isValue_64 : decode cX8_isValue 64 = .ok (.iload_n 1, 1) := by decide +kernel
theorem dX8_isValue_65 : decode cX8_isValue 65 = .ok (.iconst 5, 1) := by decide +kernel
theorem dX8_isValue_66 : decode cX8_isValue 66 = .ok (.bipush 60, 2) := by decide +kernel
theorem dX8_isValue_68 : decode cX8_isValue 68 = .ok (.invokestatic 38, 3) := by decide +kernel
theorem dX8_isValue_71 : decode cX8_isValue 71 = .ok (.ireturn, 1) := by decide +kernel
theorem dX8_isValue_72 : decode cX8_isValue 72 = .ok (.iload_n 1, 1) := by decide +kernel
theorem dX8_isValue_73 : decode cX8_isValue 73 = .ok (.iconst 2, 1) := by decide +kernel
theorem dX8_isValue_74 : decode cX8_isValue 74 = .ok (.bipush 9, 2) := by decide +kernel
theorem dX8_isValue_76 : decode cX8_isValue 76 = .ok (.invokestatic 38, 3) := by decide +kernel
theorem dX8_isValue_79 : decode cX8_isValue 79 = .ok (.ireturn, 1) := by decide +kernel
theorem dX8_isValue_80 : decode cX8_isValue 80 = .ok (.iconst 0, 1) := by decide +kernel
theorem dX8_isValue_81 : decode cX8_isValue 81 = .ok (.ireturn, 1) := by decide +kernel
theorem dX8_set_0 : decode cX8_set 0 = .ok (.iload_n 1, 1) := by decide +kernel
theorem dX8_set_1 : decode cX8_set 1 = .ok (.iload_n 2, 1) := by decide +kernel
theorem dX8_set_2 : decode cX8_set 2 = .ok (.invokestatic 92, 3) := by decide +kernel
theorem dX8_set_5 : decode cX8_set 5 = .ok (.ifCond .ne 6, 3) := by decide +kernel
theorem dX8_set_8 : decode cX8_set 8 = .ok (.bipush (-2), 2) := by decide +kernel
theorem dX8_set_10 : decode cX8_set 10 = .ok (.ireturn, 1) := by decide +kernel
theorem dX8_set_11 : decode cX8_set 11 = .ok (.aload_n 0, 1) := by decide +kernel
theorem dX8_set_12 : decode cX8_set 12 = .ok (.invokevirtual 50, 3) := by decide +kernel
theorem dX8_set_15 : decode cX8_set 15 = .ok (.aload_n 0, 1) := by decide +kernel
theorem dX8_set_16 : decode cX8_set 16 = .ok (.getfield 7, 3) := by decide +kernel
theorem dX8_set_19 : decode cX8_set 19 = .ok (.iload_n 1, 1) := by decide +kernel
theorem dX8_set_20 : decode cX8_set 20 = .ok (.iaload, 1) := by decide +kernel
theorem dX8_set_21 : decode cX8_set 21 = .ok (.istore_n 3, 1) := by decide +kernel
theorem dX8_set_22 : decode cX8_set 22 = .ok (.aload_n 0, 1) := by decide +kernel
theorem dX8_set_23 : decode cX8_set 23 = .ok (.getfield 7, 3) := by decide +kernel
theorem dX8_set_26 : decode cX8_set 26 = .ok (.iload_n 1, 1) := by decide +kernel
theorem dX8_set_27 : decode cX8_set 27 = .ok (.iload_n 2, 1) := by decide +kernel
theorem dX8_set_28 : decode cX8_set 28 = .ok (.iastore, 1) := by decide +kernel
theorem dX8_set_29 : decode cX8_set 29 = .ok (.aload_n 0, 1) := by decide +kernel
theorem dX8_set_30 : decode cX8_set 30 = .ok (.invokevirtual 35, 3) := by decide +kernel
theorem dX8_set_33 : decode cX8_set 33 = .ok (.iload_n 3, 1) := by decide +kernel
theorem dX8_set_34 : decode cX8_set 34 = .ok (.ireturn, 1) := by decide +kernel
theorem dX8_pave_0 : decode cX8_pave 0 = .ok (.iload_n 1, 1) := by decide +kernel
theorem dX8_pave_1 : decode cX8_pave 1 = .ok (.iconst 1, 1) := by decide +kernel
theorem dX8_pave_2 : decode cX8_pave 2 = .ok (.bipush 99, 2) := by decide +kernel
theorem dX8_pave_4 : decode cX8_pave 4 = .ok (.invokestatic 38, 3) := by decide +kernel
theorem dX8_pave_7 : decode cX8_pave 7 = .ok (.ifCond .eq 13, 3) := by decide +kernel
theorem dX8_pave_10 : decode cX8_pave 10 = .ok (.iload_n 2, 1) := by decide +kernel
theorem dX8_pave_11 : decode cX8_pave 11 = .ok (.bipush (-3), 2) := by decide +kernel
theorem dX8_pave_13 : decode cX8_pave 13 = .ok (.iconst 3, 1) := by decide +kernel
theorem dX8_pave_14 : decode cX8_pave 14 = .ok (.invokestatic 38, 3) := by decide +kernel
theorem dX8_pave_17 : decode cX8_pave 17 = .ok (.ifCond .ne 6, 3) := by decide +kernel
theorem dX8_pave_20 : decode cX8_pave 20 = .ok (.bipush (-2), 2) := by decide +kernel
theorem dX8_pave_22 : decode cX8_pave 22 = .ok (.ireturn, 1) := by decide +kernel
theorem dX8_pave_23 : decode cX8_pave 23 = .ok (.aload_n 0, 1) := by decide +kernel
theorem dX8_pave_24 : decode cX8_pave 24 = .ok (.getfield 7, 3) := by decide +kernel
theorem dX8_pave_27 : decode cX8_pave 27 = .ok (.bipush 7, 2) := by decide +kernel
theorem dX8_pave_29 : decode cX8_pave 29 = .ok (.iaload, 1) := by decide +kernel
theorem dX8_pave_30 : decode cX8_pave 30 = .ok (.bipush 12, 2) := by decide +kernel
theorem dX8_pave_32 : decode cX8_pave 32 = .ok (.if_icmp .ne 6, 3) := by decide +kernel
theorem dX8_pave_35 : decode cX8_pave 35 = .ok (.bipush (-4), 2) := by decide +kernel
theorem dX8_pave_37 : decode cX8_pave 37 = .ok (.ireturn, 1) := by decide +kernel
theorem dX8_pave_38 : decode cX8_pave 38 = .ok (.aload_n 0, 1) := by decide +kernel
theorem dX8_pave_39 : decode cX8_pave 39 = .ok (.invokevirtual 50, 3) := by decide +kernel
theorem dX8_pave_42 : decode cX8_pave 42 = .ok (.sipush 138, 3) := by decide +kernel
theorem dX8_pave_45 : decode cX8_pave 45 = .ok (.iconst 3, 1) := by decide +kernel
theorem dX8_pave_46 : decode cX8_pave 46 = .ok (.aload_n 0, 1) := by decide +kernel
theorem dX8_pave_47 : decode cX8_pave 47 = .ok (.getfield 7, 3) := by decide +kernel
theorem dX8_pave_50 : decode cX8_pave 50 = .ok (.bipush 7, 2) := by decide +kernel
theorem dX8_pave_52 : decode cX8_pave 52 = .ok (.iaload, 1) := by decide +kernel
theorem dX8_pave_53 : decode cX8_pave 53 = .ok (.imul, 1) := by decide +kernel
theorem dX8_pave_54 : decode cX8_pave 54 = .ok (.iadd, 1) := by decide +kernel
theorem dX8_pave_55 : decode cX8_pave 55 = .ok (.istore 4, 2) := by decide +kernel
theorem dX8_pave_57 : decode cX8_pave 57 = .ok (.aload_n 0, 1) := by decide +kernel
theorem dX8_pave_58 : decode cX8_pave 58 = .ok (.getfield 7, 3) := by decide +kernel
theorem dX8_pave_61 : decode cX8_pave 61 = .ok (.iload 4, 2) := by decide +kernel
theorem dX8_pave_63 : decode cX8_pave 63 = .ok (.iconst 0, 1) := by decide +kernel
theorem dX8_pave_64 : decode cX8_pave 64 = .ok (.iadd, 1) := by decide +kernel
theorem dX8_pave_65 : decode cX8_pave 65 = .ok (.iload_n 1, 1) := by decide +kernel
theorem dX8_pave_66 : decode cX8_pave 66 = .ok (.iastore, 1) := by decide +kernel
theorem dX8_pave_67 : decode cX8_pave 67 = .ok (.aload_n 0, 1) := by decide +kernel
theorem dX8_pave_68 : decode cX8_pave 68 = .ok (.getfield 7, 3) := by decide +kernel
theorem dX8_pave_71 : decode cX8_pave 71 = .ok (.iload 4, 2) := by decide +kernel
theorem dX8_pave_73 : decode cX8_pave 73 = .ok (.iconst 1, 1) := by decide +kernel
theorem dX8_pave_74 : decode cX8_pave 74 = .ok (.iadd, 1) := by decide +kernel
theorem dX8_pave_75 : decode cX8_pave 75 = .ok (.iload_n 2, 1) := by decide +kernel
theorem dX8_pave_76 : decode cX8_pave 76 = .ok (.iastore, 1) := by decide +kernel
theorem dX8_pave_77 : decode cX8_pave 77 = .ok (.aload_n 0, 1) := by decide +kernel
theorem dX8_pave_78 : decode cX8_pave 78 = .ok (.getfield 7, 3) := by decide +kernel
theorem dX8_pave_81 : decode cX8_pave 81 = .ok (.iload 4, 2) := by decide +kernel
theorem dX8_pave_83 : decode cX8_pave 83 = .ok (.iconst 2, 1) := by decide +kernel
theorem dX8_pave_84 : decode cX8_pave 84 = .ok (.iadd, 1) := by decide +kernel
theorem dX8_pave_85 : decode cX8_pave 85 = .ok (.iload_n 3, 1) := by decide +kernel
theorem dX8_pave_86 : decode cX8_pave 86 = .ok (.ifCond .eq 7, 3) := by decide +kernel
theorem dX8_pave_89 : decode cX8_pave 89 = .ok (.iconst 1, 1) := by decide +kernel
theorem dX8_pave_90 : decode cX8_pave 90 = .ok (.goto 4, 3) := by decide +kernel
theorem dX8_pave_93 : decode cX8_pave 93 = .ok (.iconst 0, 1) := by decide +kernel
theorem dX8_pave_94 : decode cX8_pave 94 = .ok (.iastore, 1) := by decide +kernel
theorem dX8_pave_95 : decode cX8_pave 95 = .ok (.aload_n 0, 1) := by decide +kernel
theorem dX8_pave_96 : decode cX8_pave 96 = .ok (.getfield 7, 3) := by decide +kernel
theorem dX8_pave_99 : decode cX8_pave 99 = .ok (.bipush 7, 2) := by decide +kernel
theorem dX8_pave_101 : decode cX8_pave 101 = .ok (.dup2, 1) := by decide +kernel
theorem dX8_pave_102 : decode cX8_pave 102 = .ok (.iaload, 1) := by decide +kernel
theorem dX8_pave_103 : decode cX8_pave 103 = .ok (.iconst 1, 1) := by decide +kernel
theorem dX8_pave_104 : decode cX8_pave 104 = .ok (.iadd, 1) := by decide +kernel
theorem dX8_pave_105 : decode cX8_pave 105 = .ok (.iastore, 1) := by decide +kernel
theorem dX8_pave_106 : decode cX8_pave 106 = .ok (.aload_n 0, 1) := by decide +kernel
theorem dX8_pave_107 : decode cX8_pave 107 = .ok (.invokevirtual 35, 3) := by decide +kernel
theorem dX8_pave_110 : decode cX8_pave 110 = .ok (.aload_n 0, 1) := by decide +kernel
theorem dX8_pave_111 : decode cX8_pave 111 = .ok (.getfield 7, 3) := by decide +kernel
theorem dX8_pave_114 : decode cX8_pave 114 = .ok (.bipush 7, 2) := by decide +kernel
theorem dX8_pave_116 : decode cX8_pave 116 = .ok (.iaload, 1) := by decide +kernel
theorem dX8_pave_117 : decode cX8_pave 117 = .ok (.iconst 1, 1) := by decide +kernel
theorem dX8_pave_118 : decode cX8_pave 118 = .ok (.isub, 1) := by decide +kernel
theorem dX8_pave_119 : decode cX8_pave 119 = .ok (.ireturn, 1) := by decide +kernel
theorem dX8_tear_0 : decode cX8_tear 0 = .ok (.aload_n 0, 1) := by decide +kernel
theorem dX8_tear_1 : decode cX8_tear 1 = .ok (.iload_n 1, 1) := by decide +kernel
theorem dX8_tear_2 : decode cX8_tear 2 = .ok (.invokevirtual 95, 3) := by decide +kernel
theorem dX8_tear_5 : decode cX8_tear 5 = .ok (.ifCond .ne 5, 3) := by decide +kernel
theorem dX8_tear_8 : decode cX8_tear 8 = .ok (.iconst (-1), 1) := by decide +kernel
theorem dX8_tear_9 : decode cX8_tear 9 = .ok (.ireturn, 1) := by decide +kernel
theorem dX8_tear_10 : decode cX8_tear 10 = .ok (.aload_n 0, 1) := by decide +kernel
theorem dX8_tear_11 : decode cX8_tear 11 = .ok (.invokevirtual 50, 3) := by decide +kernel
theorem dX8_tear_14 : decode cX8_tear 14 = .ok (.aload_n 0, 1) := by decide +kernel
theorem dX8_tear_15 : decode cX8_tear 15 = .ok (.iload_n 1, 1) := by decide +kernel
theorem dX8_tear_16 : decode cX8_tear 16 = .ok (.iconst 0, 1) := by decide +kernel
theorem dX8_tear_17 : decode cX8_tear 17 = .ok (.invokevirtual 53, 3) := by decide +kernel
theorem dX8_tear_20 : decode cX8_tear 20 = .ok (.istore_n 2, 1) := by decide +kernel
theorem dX8_tear_21 : decode cX8_tear 21 = .ok (.aload_n 0, 1) := by decide +kernel
theorem dX8_tear_22 : decode cX8_tear 22 = .ok (.getfield 7, 3) := by decide +kernel
theorem dX8_tear_25 : decode cX8_tear 25 = .ok (.bipush 7, 2) := by decide +kernel
theorem dX8_tear_27 : decode cX8_tear 27 = .ok (.dup2, 1) := by decide +kernel
theorem dX8_tear_28 : decode cX8_tear 28 = .ok (.iaload, 1) := by decide +kernel
theorem dX8_tear_29 : decode cX8_tear 29 = .ok (.iconst 1, 1) := by decide +kernel
theorem dX8_tear_30 : decode cX8_tear 30 = .ok (.isub, 1) := by decide +kernel
theorem dX8_tear_31 : decode cX8_tear 31 = .ok (.iastore, 1) := by decide +kernel
theorem dX8_tear_32 : decode cX8_tear 32 = .ok (.iconst 3, 1) := by decide +kernel
theorem dX8_tear_33 : decode cX8_tear 33 = .ok (.iload_n 1, 1) := by decide +kernel
theorem dX8_tear_34 : decode cX8_tear 34 = .ok (.imul, 1) := by decide +kernel
theorem dX8_tear_35 : decode cX8_tear 35 = .ok (.istore_n 3, 1) := by decide +kernel
theorem dX8_tear_36 : decode cX8_tear 36 = .ok (.iload_n 3, 1) := by decide +kernel
theorem dX8_tear_37 : decode cX8_tear 37 = .ok (.iconst 3, 1) := by decide +kernel
theorem dX8_tear_38 : decode cX8_tear 38 = .ok (.aload_n 0, 1) := by decide +kernel
theorem dX8_tear_39 : decode cX8_tear 39 = .ok (.getfield 7, 3) := by decide +kernel
theorem dX8_tear_42 : decode cX8_tear 42 = .ok (.bipush 7, 2) := by decide +kernel
theorem dX8_tear_44 : decode cX8_tear 44 = .ok (.iaload, 1) := by decide +kernel
theorem dX8_tear_45 : decode cX8_tear 45 = .ok (.imul, 1) := by decide +kernel
theorem dX8_tear_46 : decode cX8_tear 46 = .ok (.if_icmp .ge 31, 3) := by decide +kernel
theorem dX8_tear_49 : decode cX8_tear 49 = .ok (.aload_n 0, 1) := by decide +kernel
theorem dX8_tear_50 : decode cX8_tear 50 = .ok (.getfield 7, 3) := by decide +kernel
theorem dX8_tear_53 : decode cX8_tear 53 = .ok (.sipush 138, 3) := by decide +kernel
theorem dX8_tear_56 : decode cX8_tear 56 = .ok (.iload_n 3, 1) := by decide +kernel
theorem dX8_tear_57 : decode cX8_tear 57 = .ok (.iadd, 1) := by decide +kernel
theorem dX8_tear_58 : decode cX8_tear 58 = .ok (.aload_n 0, 1) := by decide +kernel
theorem dX8_tear_59 : decode cX8_tear 59 = .ok (.getfield 7, 3) := by decide +kernel
theorem dX8_tear_62 : decode cX8_tear 62 = .ok (.sipush 138, 3) := by decide +kernel
theorem dX8_tear_65 : decode cX8_tear 65 = .ok (.iload_n 3, 1) := by decide +kernel
theorem dX8_tear_66 : decode cX8_tear 66 = .ok (.iadd, 1) := by decide +kernel
theorem dX8_tear_67 : decode cX8_tear 67 = .ok (.iconst 3, 1) := by decide +kernel
theorem dX8_tear_68 : decode cX8_tear 68 = .ok (.iadd, 1) := by decide +kernel
theorem dX8_tear_69 : decode cX8_tear 69 = .ok (.iaload, 1) := by decide +kernel
theorem dX8_tear_70 : decode cX8_tear 70 = .ok (.iastore, 1) := by decide +kernel
theorem dX8_tear_71 : decode cX8_tear 71 = .ok (.iinc 3 1, 3) := by decide +kernel
theorem dX8_tear_74 : decode cX8_tear 74 = .ok (.goto (-38), 3) := by decide +kernel
theorem dX8_tear_77 : decode cX8_tear 77 = .ok (.aload_n 0, 1) := by decide +kernel
theorem dX8_tear_78 : decode cX8_tear 78 = .ok (.invokevirtual 35, 3) := by decide +kernel
theorem dX8_tear_81 : decode cX8_tear 81 = .ok (.iload_n 2, 1) := by decide +kernel
theorem dX8_tear_82 : decode cX8_tear 82 = .ok (.ireturn, 1) := by decide +kernel
theorem dX8_put_0 : decode cX8_put 0 = .ok (.lload_n 1, 1) := by decide +kernel
theorem dX8_put_1 : decode cX8_put 1 = .ok (.lstore_n 3, 1) := by decide +kernel
theorem dX8_put_2 : decode cX8_put 2 = .ok (.iconst 0, 1) := by decide +kernel
theorem dX8_put_3 : decode cX8_put 3 = .ok (.istore 5, 2) := by decide +kernel
theorem dX8_put_5 : decode cX8_put 5 = .ok (.lload_n 3, 1) := by decide +kernel
theorem dX8_put_6 : decode cX8_put 6 = .ok (.lconst 0, 1) := by decide +kernel
theorem dX8_put_7 : decode cX8_put 7 = .ok (.lcmp, 1) := by decide +kernel
theorem dX8_put_8 : decode cX8_put 8 = .ok (.ifCond .eq 40, 3) := by decide +kernel
theorem dX8_put_11 : decode cX8_put 11 = .ok (.iload 5, 2) := by decide +kernel
theorem dX8_put_13 : decode cX8_put 13 = .ok (.bipush 8, 2) := by decide +kernel
theorem dX8_put_15 : decode cX8_put 15 = .ok (.if_icmp .ge 33, 3) := by decide +kernel
theorem dX8_put_18 : decode cX8_put 18 = .ok (.lload_n 3, 1) := by decide +kernel
theorem dX8_put_19 : decode cX8_put 19 = .ok (.ldc2_w 99, 3) := by decide +kernel
theorem dX8_put_22 : decode cX8_put 22 = .ok (.land, 1) := by decide +kernel
theorem dX8_put_23 : decode cX8_put 23 = .ok (.l2i, 1) := by decide +kernel
theorem dX8_put_24 : decode cX8_put 24 = .ok (.bipush 33, 2) := by decide +kernel
theorem dX8_put_26 : decode cX8_put 26 = .ok (.bipush 126, 2) := by decide +kernel
theorem dX8_put_28 : decode cX8_put 28 = .ok (.invokestatic 38, 3) := by decide +kernel
theorem dX8_put_31 : decode cX8_put 31 = .ok (.ifCond .ne 6, 3) := by decide +kernel
theorem dX8_put_34 : decode cX8_put 34 = .ok (.bipush (-2), 2) := by decide +kernel
theorem dX8_put_36 : decode cX8_put 36 = .ok (.ireturn, 1) := by decide +kernel
theorem dX8_put_37 : decode cX8_put 37 = .ok (.lload_n 3, 1) := by decide +kernel
theorem dX8_put_38 : decode cX8_put 38 = .ok (.bipush 8, 2) := by decide +kernel
theorem dX8_put_40 : decode cX8_put 40 = .ok (.lushr, 1) := by decide +kernel
theorem dX8_put_41 : decode cX8_put 41 = .ok (.lstore_n 3, 1) := by decide +kernel
theorem dX8_put_42 : decode cX8_put 42 = .ok (.iinc 5 1, 3) := by decide +kernel
theorem dX8_put_45 : decode cX8_put 45 = .ok (.goto (-40), 3) := by decide +kernel
theorem dX8_put_48 : decode cX8_put 48 = .ok (.iload 5, 2) := by decide +kernel
theorem dX8_put_50 : decode cX8_put 50 = .ok (.ifCond .ne 6, 3) := by decide +kernel
theorem dX8_put_53 : decode cX8_put 53 = .ok (.bipush (-2), 2) := by decide +kernel
theorem dX8_put_55 : decode cX8_put 55 = .ok (.ireturn, 1) := by decide +kernel
theorem dX8_put_56 : decode cX8_put 56 = .ok (.aload_n 0, 1) := by decide +kernel
theorem dX8_put_57 : decode cX8_put 57 = .ok (.getfield 101, 3) := by decide +kernel
theorem dX8_put_60 : decode cX8_put 60 = .ok (.iload 5, 2) := by decide +kernel
theorem dX8_put_62 : decode cX8_put 62 = .ok (.iadd, 1) := by decide +kernel
theorem dX8_put_63 : decode cX8_put 63 = .ok (.bipush 60, 2) := by decide +kernel
theorem dX8_put_65 : decode cX8_put 65 = .ok (.if_icmp .le 6, 3) := by decide +kernel
theorem dX8_put_68 : decode cX8_put 68 = .ok (.bipush (-4), 2) := by decide +kernel
theorem dX8_put_70 : decode cX8_put 70 = .ok (.ireturn, 1) := by decide +kernel
theorem dX8_put_71 : decode cX8_put 71 = .ok (.iload 5, 2) := by decide +kernel
theorem dX8_put_73 : decode cX8_put 73 = .ok (.iconst 1, 1) := by decide +kernel
theorem dX8_put_74 : decode cX8_put 74 = .ok (.isub, 1) := by decide +kernel
theorem dX8_put_75 : decode cX8_put 75 = .ok (.istore 6, 2) := by decide +kernel
theorem dX8_put_77 : decode cX8_put 77 = .ok (.iload 6, 2) := by decide +kernel
theorem dX8_put_79 : decode cX8_put 79 = .ok (.ifCond .lt 40, 3) := by decide +kernel
theorem dX8_put_82 : decode cX8_put 82 = .ok (.aload_n 0, 1) := by decide +kernel
theorem dX8_put_83 : decode cX8_put 83 = .ok (.getfield 26, 3) := by decide +kernel
theorem dX8_put_86 : decode cX8_put 86 = .ok (.aload_n 0, 1) := by decide +kernel
theorem dX8_put_87 : decode cX8_put 87 = .ok (.getfield 101, 3) := by decide +kernel
theorem dX8_put_90 : decode cX8_put 90 = .ok (.lload_n 1, 1) := by decide +kernel
theorem dX8_put_91 : decode cX8_put 91 = .ok (.bipush 8, 2) := by decide +kernel
theorem dX8_put_93 : decode cX8_put 93 = .ok (.iload 6, 2) := by decide +kernel
theorem dX8_put_95 : decode cX8_put 95 = .ok (.imul, 1) := by decide +kernel
theorem dX8_put_96 : decode cX8_put 96 = .ok (.lushr, 1) := by decide +kernel
theorem dX8_put_97 : decode cX8_put 97 = .ok (.ldc2_w 99, 3) := by decide +kernel
theorem dX8_put_100 : decode cX8_put 100 = .ok (.land, 1) := by decide +kernel
theorem dX8_put_101 : decode cX8_put 101 = .ok (.l2i, 1) := by decide +kernel
theorem dX8_put_102 : decode cX8_put 102 = .ok (.iastore, 1) := by decide +kernel
theorem dX8_put_103 : decode cX8_put 103 = .ok (.aload_n 0, 1) := by decide +kernel
theorem dX8_put_104 : decode cX8_put 104 = .ok (.dup, 1) := by decide +kernel
theorem dX8_put_105 : decode cX8_put 105 = .ok (.getfield 101, 3) := by decide +kernel
theorem dX8_put_108 : decode cX8_put 108 = .ok (.iconst 1, 1) := by decide +kernel
theorem dX8_put_109 : decode cX8_put 109 = .ok (.iadd, 1) := by decide +kernel
theorem dX8_put_110 : decode cX8_put 110 = .ok (.putfield 101, 3) := by decide +kernel
theorem dX8_put_113 : decode cX8_put 113 = .ok (.iinc 6 (-1), 3) := by decide +kernel
theorem dX8_put_116 : decode cX8_put 116 = .ok (.goto (-39), 3) := by decide +kernel
theorem dX8_put_119 : decode cX8_put 119 = .ok (.aload_n 0, 1) := by decide +kernel
theorem dX8_put_120 : decode cX8_put 120 = .ok (.getfield 101, 3) := by decide +kernel
theorem dX8_put_123 : decode cX8_put 123 = .ok (.ireturn, 1) := by decide +kernel
theorem dX8_wipe_0 : decode cX8_wipe 0 = .ok (.aload_n 0, 1) := by decide +kernel
theorem dX8_wipe_1 : decode cX8_wipe 1 = .ok (.getfield 101, 3) := by decide +kernel
theorem dX8_wipe_4 : decode cX8_wipe 4 = .ok (.istore_n 1, 1) := by decide +kernel
theorem dX8_wipe_5 : decode cX8_wipe 5 = .ok (.aload_n 0, 1) := by decide +kernel
theorem dX8_wipe_6 : decode cX8_wipe 6 = .ok (.iconst 0, 1) := by decide +kernel
theorem dX8_wipe_7 : decode cX8_wipe 7 = .ok (.putfield 101, 3) := by decide +kernel
theorem dX8_wipe_10 : decode cX8_wipe 10 = .ok (.iload_n 1, 1) := by decide +kernel
theorem dX8_wipe_11 : decode cX8_wipe 11 = .ok (.ireturn, 1) := by decide +kernel
theorem dX8_takes_0 : decode cX8_takes 0 = .ok (.aload_n 0, 1) := by decide +kernel
theorem dX8_takes_1 : decode cX8_takes 1 = .ok (.getfield 104, 3) := by decide +kernel
theorem dX8_takes_4 : decode cX8_takes 4 = .ok (.aload_n 0, 1) := by decide +kernel
theorem dX8_takes_5 : decode cX8_takes 5 = .ok (.getfield 101, 3) := by decide +kernel
theorem dX8_takes_8 : decode cX8_takes 8 = .ok (.if_icmp .ge 20, 3) := by decide +kernel
theorem dX8_takes_11 : decode cX8_takes 11 = .ok (.aload_n 0, 1) := by decide +kernel
theorem dX8_takes_12 : decode cX8_takes 12 = .ok (.getfield 26, 3) := by decide +kernel
theorem dX8_takes_15 : decode cX8_takes 15 = .ok (.aload_n 0, 1) := by decide +kernel
theorem dX8_takes_16 : decode cX8_takes 16 = .ok (.getfield 104, 3) := by decide +kernel
theorem dX8_takes_19 : decode cX8_takes 19 = .ok (.iaload, 1) := by decide +kernel
theorem dX8_takes_20 : decode cX8_takes 20 = .ok (.iload_n 1, 1) := by decide +kernel
theorem dX8_takes_21 : decode cX8_takes 21 = .ok (.if_icmp .ne 7, 3) := by decide +kernel
theorem dX8_takes_24 : decode cX8_takes 24 = .ok (.iconst 1, 1) := by decide +kernel
theorem dX8_takes_25 : decode cX8_takes 25 = .ok (.goto 4, 3) := by decide +kernel
theorem dX8_takes_28 : decode cX8_takes 28 = .ok (.iconst 0, 1) := by decide +kernel
theorem dX8_takes_29 : decode cX8_takes 29 = .ok (.istore_n 2, 1) := by decide +kernel
theorem dX8_takes_30 : decode cX8_takes 30 = .ok (.aload_n 0, 1) := by decide +kernel
theorem dX8_takes_31 : decode cX8_takes 31 = .ok (.dup, 1) := by decide +kernel
theorem dX8_takes_32 : decode cX8_takes 32 = .ok (.getfield 104, 3) := by decide +kernel
theorem dX8_takes_35 : decode cX8_takes 35 = .ok (.iload_n 2, 1) := by decide +kernel
theorem dX8_takes_36 : decode cX8_takes 36 = .ok (.ifCond .eq 7, 3) := by decide +kernel
theorem dX8_takes_39 : decode cX8_takes 39 = .ok (.iconst 1, 1) := by decide +kernel
theorem dX8_takes_40 : decode cX8_takes 40 = .ok (.goto 4, 3) := by decide +kernel
theorem dX8_takes_43 : decode cX8_takes 43 = .ok (.iconst 0, 1) := by decide +kernel
theorem dX8_takes_44 : decode cX8_takes 44 = .ok (.iadd, 1) := by decide +kernel
theorem dX8_takes_45 : decode cX8_takes 45 = .ok (.putfield 104, 3) := by decide +kernel
theorem dX8_takes_48 : decode cX8_takes 48 = .ok (.iload_n 2, 1) := by decide +kernel
theorem dX8_takes_49 : decode cX8_takes 49 = .ok (.ireturn, 1) := by decide +kernel
theorem dX8_readFoot_0 : decode cX8_readFoot 0 = .ok (.aload_n 0, 1) := by decide +kernel
theorem dX8_readFoot_1 : decode cX8_readFoot 1 = .ok (.bipush 117, 2) := by decide +kernel
theorem dX8_readFoot_3 : decode cX8_readFoot 3 = .ok (.invokevirtual 107, 3) := by decide +kernel
theorem dX8_readFoot_6 : decode cX8_readFoot 6 = .ok (.ifCond .eq 7, 3) := by decide +kernel
theorem dX8_readFoot_9 : decode cX8_readFoot 9 = .ok (.iconst 2, 1) := by decide +kernel
theorem dX8_readFoot_10 : decode cX8_readFoot 10 = .ok (.goto 30, 3) := by decide +kernel
theorem dX8_readFoot_13 : decode cX8_readFoot 13 = .ok (.aload_n 0, 1) := by decide +kernel
theorem dX8_readFoot_14 : decode cX8_readFoot 14 = .ok (.bipush 100, 2) := by decide +kernel
theorem dX8_readFoot_16 : decode cX8_readFoot 16 = .ok (.invokevirtual 107, 3) := by decide +kernel
theorem dX8_readFoot_19 : decode cX8_readFoot 19 = .ok (.ifCond .eq 7, 3) := by decide +kernel
theorem dX8_readFoot_22 : decode cX8_readFoot 22 = .ok (.iconst 3, 1) := by decide +kernel
theorem dX8_readFoot_23 : decode cX8_readFoot 23 = .ok (.goto 17, 3) := by decide +kernel
theorem dX8_readFoot_26 : decode cX8_readFoot 26 = .ok (.aload_n 0, 1) := by decide +kernel
theorem dX8_readFoot_27 : decode cX8_readFoot 27 = .ok (.bipush 113, 2) := by decide +kernel
theorem dX8_readFoot_29 : decode cX8_readFoot 29 = .ok (.invokevirtual 107, 3) := by decide +kernel
theorem dX8_readFoot_32 : decode cX8_readFoot 32 = .ok (.ifCond .eq 7, 3) := by decide +kernel
theorem dX8_readFoot_35 : decode cX8_readFoot 35 = .ok (.iconst 4, 1) := by decide +kernel
theorem dX8_readFoot_36 : decode cX8_readFoot 36 = .ok (.goto 4, 3) := by decide +kernel
theorem dX8_readFoot_39 : decode cX8_readFoot 39 = .ok (.iconst 0, 1) := by decide +kernel
theorem dX8_readFoot_40 : decode cX8_readFoot 40 = .ok (.istore_n 1, 1) := by decide +kernel
theorem dX8_readFoot_41 : decode cX8_readFoot 41 = .ok (.iload_n 1, 1) := by decide +kernel
theorem dX8_readFoot_42 : decode cX8_readFoot 42 = .ok (.ifCond .ne 5, 3) := by decide +kernel
theorem dX8_readFoot_45 : decode cX8_readFoot 45 = .ok (.iconst 0, 1) := by decide +kernel
theorem dX8_readFoot_46 : decode cX8_readFoot 46 = .ok (.ireturn, 1) := by decide +kernel
theorem dX8_readFoot_47 : decode cX8_readFoot 47 = .ok (.aload_n 0, 1) := by decide +kernel
theorem dX8_readFoot_48 : decode cX8_readFoot 48 = .ok (.bipush 39, 2) := by decide +kernel
theorem dX8_readFoot_50 : decode cX8_readFoot 50 = .ok (.invokevirtual 107, 3) := by decide +kernel
theorem dX8_readFoot_53 : decode cX8_readFoot 53 = .ok (.ifCond .eq 8, 3) := by decide +kernel
theorem dX8_readFoot_56 : decode cX8_readFoot 56 = .ok (.bipush 10, 2) := by decide +kernel
theorem dX8_readFoot_58 : decode cX8_readFoot 58 = .ok (.goto 4, 3) := by decide +kernel
theorem dX8_readFoot_61 : decode cX8_readFoot 61 = .ok (.iconst 0, 1) := by decide +kernel
theorem dX8_readFoot_62 : decode cX8_readFoot 62 = .ok (.istore_n 2, 1) := by decide +kernel
theorem dX8_readFoot_63 : decode cX8_readFoot 63 = .ok (.aload_n 0, 1) := by decide +kernel
theorem dX8_readFoot_64 : decode cX8_readFoot 64 = .ok (.getfield 29, 3) := by decide +kernel
theorem dX8_readFoot_67 : decode cX8_readFoot 67 = .ok (.bipush 12, 2) := by decide +kernel
theorem dX8_readFoot_69 : decode cX8_readFoot 69 = .ok (.aload_n 0, 1) := by decide +kernel
theorem dX8_readFoot_70 : decode cX8_readFoot 70 = .ok (.getfield 110, 3) := by decide +kernel
theorem dX8_readFoot_73 : decode cX8_readFoot 73 = .ok (.imul, 1) := by decide +kernel
theorem dX8_readFoot_74 : decode cX8_readFoot 74 = .ok (.aload_n 0, 1) := by decide +kernel
theorem dX8_readFoot_75 : decode cX8_readFoot 75 = .ok (.getfield 32, 3) := by decide +kernel
theorem dX8_readFoot_78 : decode cX8_readFoot 78 = .ok (.aload_n 0, 1) := by decide +kernel
theorem dX8_readFoot_79 : decode cX8_readFoot 79 = .ok (.getfield 110, 3) := by decide +kernel
theorem dX8_readFoot_82 : decode cX8_readFoot 82 = .ok (.iaload, 1) := by decide +kernel
theorem dX8_readFoot_83 : decode cX8_readFoot 83 = .ok (.iadd, 1) := by decide +kernel
theorem dX8_readFoot_84 : decode cX8_readFoot 84 = .ok (.iload_n 1, 1) := by decide +kernel
theorem dX8_readFoot_85 : decode cX8_readFoot 85 = .ok (.iload_n 2, 1) := by decide +kernel
theorem dX8_readFoot_86 : decode cX8_readFoot 86 = .ok (.iadd, 1) := by decide +kernel
theorem dX8_readFoot_87 : decode cX8_readFoot 87 = .ok (.iastore, 1) := by decide +kernel
theorem dX8_readFoot_88 : decode cX8_readFoot 88 = .ok (.aload_n 0, 1) := by decide +kernel
theorem dX8_readFoot_89 : decode cX8_readFoot 89 = .ok (.getfield 32, 3) := by decide +kernel
theorem dX8_readFoot_92 : decode cX8_readFoot 92 = .ok (.aload_n 0, 1) := by decide +kernel
theorem dX8_readFoot_93 : decode cX8_readFoot 93 = .ok (.getfield 110, 3) := by decide +kernel
theorem dX8_readFoot_96 : decode cX8_readFoot 96 = .ok (.dup2, 1) := by decide +kernel
theorem dX8_readFoot_97 : decode cX8_readFoot 97 = .ok (.iaload, 1) := by decide +kernel
theorem dX8_readFoot_98 : decode cX8_readFoot 98 = .ok (.iconst 1, 1) := by decide +kernel
theorem dX8_readFoot_99 : decode cX8_readFoot 99 = .ok (.iadd, 1) := by decide +kernel
theorem dX8_readFoot_100 : decode cX8_readFoot 100 = .ok (.iastore, 1) := by decide +kernel
theorem dX8_readFoot_101 : decode cX8_readFoot 101 = .ok (.iconst 1, 1) := by decide +kernel
theorem dX8_readFoot_102 : decode cX8_readFoot 102 = .ok (.ireturn, 1) := by decide +kernel
theorem dX8_readLine_0 : decode cX8_readLine 0 = .ok (.aload_n 0, 1) := by decide +kernel
theorem dX8_readLine_1 : decode cX8_readLine 1 = .ok (.getfield 32, 3) := by decide +kernel
theorem dX8_readLine_4 : decode cX8_readLine 4 = .ok (.aload_n 0, 1) := by decide +kernel
theorem dX8_readLine_5 : decode cX8_readLine 5 = .ok (.getfield 110, 3) := by decide +kernel
theorem dX8_readLine_8 : decode cX8_readLine 8 = .ok (.iconst 0, 1) := by decide +kernel
theorem dX8_readLine_9 : decode cX8_readLine 9 = .ok (.iastore, 1) := by decide +kernel
theorem dX8_readLine_10 : decode cX8_readLine 10 = .ok (.aload_n 0, 1) := by decide +kernel
theorem dX8_readLine_11 : decode cX8_readLine 11 = .ok (.getfield 32, 3) := by decide +kernel
theorem dX8_readLine_14 : decode cX8_readLine 14 = .ok (.aload_n 0, 1) := by decide +kernel
theorem dX8_readLine_15 : decode cX8_readLine 15 = .ok (.getfield 110, 3) := by decide +kernel
theorem dX8_readLine_18 : decode cX8_readLine 18 = .ok (.iaload, 1) := by decide +kernel
theorem dX8_readLine_19 : decode cX8_readLine 19 = .ok (.bipush 12, 2) := by decide +kernel
theorem dX8_readLine_21 : decode cX8_readLine 21 = .ok (.if_icmp .ge 13, 3) := by decide +kernel
theorem dX8_readLine_24 : decode cX8_readLine 24 = .ok (.aload_n 0, 1) := by decide +kernel
theorem dX8_readLine_25 : decode cX8_readLine 25 = .ok (.invokevirtual 113, 3) := by decide +kernel
theorem dX8_readLine_28 : decode cX8_readLine 28 = .ok (.ifCond .eq 6, 3) := by decide +kernel
theorem dX8_readLine_31 : decode cX8_readLine 31 = .ok (.goto (-21), 3) := by decide +kernel
theorem dX8_readLine_34 : decode cX8_readLine 34 = .ok (.aload_n 0, 1) := by decide +kernel
theorem dX8_readLine_35 : decode cX8_readLine 35 = .ok (.getfield 32, 3) := by decide +kernel
theorem dX8_readLine_38 : decode cX8_readLine 38 = .ok (.aload_n 0, 1) := by decide +kernel
theorem dX8_readLine_39 : decode cX8_readLine 39 = .ok (.getfield 110, 3) := by decide +kernel
theorem dX8_readLine_42 : decode cX8_readLine 42 = .ok (.iaload, 1) := by decide +kernel
theorem dX8_readLine_43 : decode cX8_readLine 43 = .ok (.ifCond .le 7, 3) := by decide +kernel
theorem dX8_readLine_46 : decode cX8_readLine 46 = .ok (.iconst 1, 1) := by decide +kernel
theorem dX8_readLine_47 : decode cX8_readLine 47 = .ok (.goto 4, 3) := by decide +kernel
theorem dX8_readLine_50 : decode cX8_readLine 50 = .ok (.iconst 0, 1) := by decide +kernel
theorem dX8_readLine_51 : decode cX8_readLine 51 = .ok (.istore_n 1, 1) := by decide +kernel
theorem dX8_readLine_52 : decode cX8_readLine 52 = .ok (.aload_n 0, 1) := by decide +kernel
theorem dX8_readLine_53 : decode cX8_readLine 53 = .ok (.dup, 1) := by decide +kernel
theorem dX8_readLine_54 : decode cX8_readLine 54 = .ok (.getfield 110, 3) := by decide +kernel
theorem dX8_readLine_57 : decode cX8_readLine 57 = .ok (.iconst 1, 1) := by decide +kernel
theorem dX8_readLine_58 : decode cX8_readLine 58 = .ok (.iadd, 1) := by decide +kernel
theorem dX8_readLine_59 : decode cX8_readLine 59 = .ok (.putfield 110, 3) := by decide +kernel
theorem dX8_readLine_62 : decode cX8_readLine 62 = .ok (.iload_n 1, 1) := by decide +kernel
theorem dX8_readLine_63 : decode cX8_readLine 63 = .ok (.ireturn, 1) := by decide +kernel
theorem dX8_readPad_0 : decode cX8_readPad 0 = .ok (.aload_n 0, 1) := by decide +kernel
theorem dX8_readPad_1 : decode cX8_readPad 1 = .ok (.iconst 0, 1) := by decide +kernel
theorem dX8_readPad_2 : decode cX8_readPad 2 = .ok (.putfield 104, 3) := by decide +kernel
theorem dX8_readPad_5 : decode cX8_readPad 5 = .ok (.aload_n 0, 1) := by decide +kernel
theorem dX8_readPad_6 : decode cX8_readPad 6 = .ok (.iconst 0, 1) := by decide +kernel
theorem dX8_readPad_7 : decode cX8_readPad 7 = .ok (.putfield 110, 3) := by decide +kernel
theorem dX8_readPad_10 : decode cX8_readPad 10 = .ok (.aload_n 0, 1) := by decide +kernel
theorem dX8_readPad_11 : decode cX8_readPad 11 = .ok (.invokevirtual 116, 3) := by decide +kernel
theorem dX8_readPad_14 : decode cX8_readPad 14 = .ok (.istore_n 1, 1) := by decide +kernel
theorem dX8_readPad_15 : decode cX8_readPad 15 = .ok (.iload_n 1, 1) := by decide +kernel
theorem dX8_readPad_16 : decode cX8_readPad 16 = .ok (.ifCond .eq 29, 3) := by decide +kernel
theorem dX8_readPad_19 : decode cX8_readPad 19 = .ok (.aload_n 0, 1) := by decide +kernel
theorem dX8_readPad_20 : decode cX8_readPad 20 = .ok (.getfield 110, 3) := by decide +kernel
theorem dX8_readPad_23 : decode cX8_readPad 23 = .ok (.bipush 10, 2) := by decide +kernel
theorem dX8_readPad_25 : decode cX8_readPad 25 = .ok (.if_icmp .ge 20, 3) := by decide +kernel
theorem dX8_readPad_28 : decode cX8_readPad 28 = .ok (.aload_n 0, 1) := by decide +kernel
theorem dX8_readPad_29 : decode cX8_readPad 29 = .ok (.bipush 47, 2) := by decide +kernel
theorem dX8_readPad_31 : decode cX8_readPad 31 = .ok (.invokevirtual 107, 3) := by decide +kernel
theorem dX8_readPad_34 : decode cX8_readPad 34 = .ok (.ifCond .eq 11, 3) := by decide +kernel
theorem dX8_readPad_37 : decode cX8_readPad 37 = .ok (.aload_n 0, 1) := by decide +kernel
theorem dX8_readPad_38 : decode cX8_readPad 38 = .ok (.invokevirtual 116, 3) := by decide +kernel
theorem dX8_readPad_41 : decode cX8_readPad 41 = .ok (.istore_n 1, 1) := by decide +kernel
theorem dX8_readPad_42 : decode cX8_readPad 42 = .ok (.goto (-27), 3) := by decide +kernel
theorem dX8_readPad_45 : decode cX8_readPad 45 = .ok (.iload_n 1, 1) := by decide +kernel
theorem dX8_readPad_46 : decode cX8_readPad 46 = .ok (.ifCond .eq 18, 3) := by decide +kernel
theorem dX8_readPad_49 : decode cX8_readPad 49 = .ok (.aload_n 0, 1) := by decide +kernel
theorem dX8_readPad_50 : decode cX8_readPad 50 = .ok (.getfield 104, 3) := by decide +kernel
theorem dX8_readPad_53 : decode cX8_readPad 53 = .ok (.aload_n 0, 1) := by decide +kernel
theorem dX8_readPad_54 : decode cX8_readPad 54 = .ok (.getfield 101, 3) := by decide +kernel
theorem dX8_readPad_57 : decode cX8_readPad 57 = .ok (.if_icmp .ne 7, 3) := by decide +kernel
theorem dX8_readPad_60 : decode cX8_readPad 60 = .ok (.iconst 1, 1) := by decide +kernel
theorem dX8_readPad_61 : decode cX8_readPad 61 = .ok (.goto 4, 3) := by decide +kernel
theorem dX8_readPad_64 : decode cX8_readPad 64 = .ok (.iconst 0, 1) := by decide +kernel
theorem dX8_readPad_65 : decode cX8_readPad 65 = .ok (.ireturn, 1) := by decide +kernel
theorem dX8_fault_0 : decode cX8_fault 0 = .ok (.aload_n 0, 1) := by decide +kernel
theorem dX8_fault_1 : decode cX8_fault 1 = .ok (.invokevirtual 119, 3) := by decide +kernel
theorem dX8_fault_4 : decode cX8_fault 4 = .ok (.ifCond .eq 8, 3) := by decide +kernel
theorem dX8_fault_7 : decode cX8_fault 7 = .ok (.bipush (-6), 2) := by decide +kernel
theorem dX8_fault_9 : decode cX8_fault 9 = .ok (.goto 7, 3) := by decide +kernel
theorem dX8_fault_12 : decode cX8_fault 12 = .ok (.aload_n 0, 1) := by decide +kernel
theorem dX8_fault_13 : decode cX8_fault 13 = .ok (.getfield 104, 3) := by decide +kernel
theorem dX8_fault_16 : decode cX8_fault 16 = .ok (.ireturn, 1) := by decide +kernel
theorem dX8_read_0 : decode cX8_read 0 = .ok (.aload_n 0, 1) := by decide +kernel
theorem dX8_read_1 : decode cX8_read 1 = .ok (.invokevirtual 119, 3) := by decide +kernel
theorem dX8_read_4 : decode cX8_read 4 = .ok (.ifCond .ne 6, 3) := by decide +kernel
theorem dX8_read_7 : decode cX8_read 7 = .ok (.bipush (-3), 2) := by decide +kernel
theorem dX8_read_9 : decode cX8_read 9 = .ok (.ireturn, 1) := by decide +kernel
theorem dX8_read_10 : decode cX8_read 10 = .ok (.aload_n 0, 1) := by decide +kernel
theorem dX8_read_11 : decode cX8_read 11 = .ok (.invokevirtual 50, 3) := by decide +kernel
theorem dX8_read_14 : decode cX8_read 14 = .ok (.aload_n 0, 1) := by decide +kernel
theorem dX8_read_15 : decode cX8_read 15 = .ok (.getfield 7, 3) := by decide +kernel
theorem dX8_read_18 : decode cX8_read 18 = .ok (.bipush 6, 2) := by decide +kernel
theorem dX8_read_20 : decode cX8_read 20 = .ok (.aload_n 0, 1) := by decide +kernel
theorem dX8_read_21 : decode cX8_read 21 = .ok (.getfield 110, 3) := by decide +kernel
theorem dX8_read_24 : decode cX8_read 24 = .ok (.iastore, 1) := by decide +kernel
theorem dX8_read_25 : decode cX8_read 25 = .ok (.iconst 0, 1) := by decide +kernel
theorem dX8_read_26 : decode cX8_read 26 = .ok (.istore_n 1, 1) := by decide +kernel
theorem dX8_read_27 : decode cX8_read 27 = .ok (.iload_n 1, 1) := by decide +kernel
theorem dX8_read_28 : decode cX8_read 28 = .ok (.aload_n 0, 1) := by decide +kernel
theorem dX8_read_29 : decode cX8_read 29 = .ok (.getfield 110, 3) := by decide +kernel
theorem dX8_read_32 : decode cX8_read 32 = .ok (.if_icmp .ge 67, 3) := by decide +kernel
theorem dX8_read_35 : decode cX8_read 35 = .ok (.aload_n 0, 1) := by decide +kernel
theorem dX8_read_36 : decode cX8_read 36 = .ok (.getfield 7, 3) := by decide +kernel
theorem dX8_read_39 : decode cX8_read 39 = .ok (.bipush 8, 2) := by decide +kernel
theorem dX8_read_41 : decode cX8_read 41 = .ok (.iload_n 1, 1) := by decide +kernel
theorem dX8_read_42 : decode cX8_read 42 = .ok (.iadd, 1) := by decide +kernel
theorem dX8_read_43 : decode cX8_read 43 = .ok (.aload_n 0, 1) := by decide +kernel
theorem dX8_read_44 : decode cX8_read 44 = .ok (.getfield 32, 3) := by decide +kernel
theorem dX8_read_47 : decode cX8_read 47 = .ok (.iload_n 1, 1) := by decide +kernel
theorem dX8_read_48 : decode cX8_read 48 = .ok (.iaload, 1) := by decide +kernel
theorem dX8_read_49 : decode cX8_read 49 = .ok (.iastore, 1) := by decide +kernel
theorem dX8_read_50 : decode cX8_read 50 = .ok (.iconst 0, 1) := by decide +kernel
theorem dX8_read_51 : decode cX8_read 51 = .ok (.istore_n 2, 1) := by decide +kernel
theorem dX8_read_52 : decode cX8_read 52 = .ok (.iload_n 2, 1) := by decide +kernel
theorem dX8_read_53 : decode cX8_read 53 = .ok (.aload_n 0, 1) := by decide +kernel
theorem dX8_read_54 : decode cX8_read 54 = .ok (.getfield 32, 3) := by decide +kernel
theorem dX8_read_57 : decode cX8_read 57 = .ok (.iload_n 1, 1) := by decide +kernel
theorem dX8_read_58 : decode cX8_read 58 = .ok (.iaload, 1) := by decide +kernel
theorem dX8_read_59 : decode cX8_read 59 = .ok (.if_icmp .ge 34, 3) := by decide +kernel
theorem dX8_read_62 : decode cX8_read 62 = .ok (.aload_n 0, 1) := by decide +kernel
theorem dX8_read_63 : decode cX8_read 63 = .ok (.getfield 7, 3) := by decide +kernel
theorem dX8_read_66 : decode cX8_read 66 = .ok (.bipush 18, 2) := by decide +kernel
theorem dX8_read_68 : decode cX8_read 68 = .ok (.bipush 12, 2) := by decide +kernel
theorem dX8_read_70 : decode cX8_read 70 = .ok (.iload_n 1, 1) := by decide +kernel
theorem dX8_read_71 : decode cX8_read 71 = .ok (.imul, 1) := by decide +kernel
theorem dX8_read_72 : decode cX8_read 72 = .ok (.iadd, 1) := by decide +kernel
theorem dX8_read_73 : decode cX8_read 73 = .ok (.iload_n 2, 1) := by decide +kernel
theorem dX8_read_74 : decode cX8_read 74 = .ok (.iadd, 1) := by decide +kernel
theorem dX8_read_75 : decode cX8_read 75 = .ok (.aload_n 0, 1) := by decide +kernel
theorem dX8_read_76 : decode cX8_read 76 = .ok (.getfield 29, 3) := by decide +kernel
theorem dX8_read_79 : decode cX8_read 79 = .ok (.bipush 12, 2) := by decide +kernel
theorem dX8_read_81 : decode cX8_read 81 = .ok (.iload_n 1, 1) := by decide +kernel
theorem dX8_read_82 : decode cX8_read 82 = .ok (.imul, 1) := by decide +kernel
theorem dX8_read_83 : decode cX8_read 83 = .ok (.iload_n 2, 1) := by decide +kernel
theorem dX8_read_84 : decode cX8_read 84 = .ok (.iadd, 1) := by decide +kernel
theorem dX8_read_85 : decode cX8_read 85 = .ok (.iaload, 1) := by decide +kernel
theorem dX8_read_86 : decode cX8_read 86 = .ok (.iastore, 1) := by decide +kernel
theorem dX8_read_87 : decode cX8_read 87 = .ok (.iinc 2 1, 3) := by decide +kernel
theorem dX8_read_90 : decode cX8_read 90 = .ok (.goto (-38), 3) := by decide +kernel
theorem dX8_read_93 : decode cX8_read 93 = .ok (.iinc 1 1, 3) := by decide +kernel
theorem dX8_read_96 : decode cX8_read 96 = .ok (.goto (-69), 3) := by decide +kernel
theorem dX8_read_99 : decode cX8_read 99 = .ok (.aload_n 0, 1) := by decide +kernel
theorem dX8_read_100 : decode cX8_read 100 = .ok (.iconst 0, 1) := by decide +kernel
theorem dX8_read_101 : decode cX8_read 101 = .ok (.putfield 101, 3) := by decide +kernel
theorem dX8_read_104 : decode cX8_read 104 = .ok (.aload_n 0, 1) := by decide +kernel
theorem dX8_read_105 : decode cX8_read 105 = .ok (.invokevirtual 35, 3) := by decide +kernel
theorem dX8_read_108 : decode cX8_read 108 = .ok (.aload_n 0, 1) := by decide +kernel
theorem dX8_read_109 : decode cX8_read 109 = .ok (.getfield 110, 3) := by decide +kernel
theorem dX8_read_112 : decode cX8_read 112 = .ok (.ireturn, 1) := by decide +kernel
theorem dX8_sungIn_0 : decode cX8_sungIn 0 = .ok (.iconst 0, 1) := by decide +kernel
theorem dX8_sungIn_1 : decode cX8_sungIn 1 = .ok (.istore_n 2, 1) := by decide +kernel
theorem dX8_sungIn_2 : decode cX8_sungIn 2 = .ok (.iconst 0, 1) := by decide +kernel
theorem dX8_sungIn_3 : decode cX8_sungIn 3 = .ok (.istore_n 3, 1) := by decide +kernel
theorem dX8_sungIn_4 : decode cX8_sungIn 4 = .ok (.iload_n 3, 1) := by decide +kernel
theorem dX8_sungIn_5 : decode cX8_sungIn 5 = .ok (.aload_n 0, 1) := by decide +kernel
theorem dX8_sungIn_6 : decode cX8_sungIn 6 = .ok (.getfield 7, 3) := by decide +kernel
theorem dX8_sungIn_9 : decode cX8_sungIn 9 = .ok (.bipush 8, 2) := by decide +kernel
theorem dX8_sungIn_11 : decode cX8_sungIn 11 = .ok (.iload_n 1, 1) := by decide +kernel
theorem dX8_sungIn_12 : decode cX8_sungIn 12 = .ok (.iadd, 1) := by decide +kernel
theorem dX8_sungIn_13 : decode cX8_sungIn 13 = .ok (.iaload, 1) := by decide +kernel
theorem dX8_sungIn_14 : decode cX8_sungIn 14 = .ok (.if_icmp .ge 18, 3) := by decide +kernel
theorem dX8_sungIn_17 : decode cX8_sungIn 17 = .ok (.iload_n 2, 1) := by decide +kernel
theorem dX8_sungIn_18 : decode cX8_sungIn 18 = .ok (.aload_n 0, 1) := by decide +kernel
theorem dX8_sungIn_19 : decode cX8_sungIn 19 = .ok (.iload_n 1, 1) := by decide +kernel
theorem dX8_sungIn_20 : decode cX8_sungIn 20 = .ok (.iload_n 3, 1) := by decide +kernel
theorem dX8_sungIn_21 : decode cX8_sungIn 21 = .ok (.invokevirtual 61, 3) := by decide +kernel
theorem dX8_sungIn_24 : decode cX8_sungIn 24 = .ok (.iadd, 1) := by decide +kernel
theorem dX8_sungIn_25 : decode cX8_sungIn 25 = .ok (.istore_n 2, 1) := by decide +kernel
theorem dX8_sungIn_26 : decode cX8_sungIn 26 = .ok (.iinc 3 1, 3) := by decide +kernel
theorem dX8_sungIn_29 : decode cX8_sungIn 29 = .ok (.goto (-25), 3) := by decide +kernel
theorem dX8_sungIn_32 : decode cX8_sungIn 32 = .ok (.iload_n 2, 1) := by decide +kernel
theorem dX8_sungIn_33 : decode cX8_sungIn 33 = .ok (.ireturn, 1) := by decide +kernel
theorem dX8_marksIn_0 : decode cX8_marksIn 0 = .ok (.iconst 0, 1) := by decide +kernel
theorem dX8_marksIn_1 : decode cX8_marksIn 1 = .ok (.istore_n 2, 1) := by decide +kernel
theorem dX8_marksIn_2 : decode cX8_marksIn 2 = .ok (.iconst 0, 1) := by decide +kernel
theorem dX8_marksIn_3 : decode cX8_marksIn 3 = .ok (.istore_n 3, 1) := by decide +kernel
theorem dX8_marksIn_4 : decode cX8_marksIn 4 = .ok (.iload_n 3, 1) := by decide +kernel
theorem dX8_marksIn_5 : decode cX8_marksIn 5 = .ok (.aload_n 0, 1) := by decide +kernel
theorem dX8_marksIn_6 : decode cX8_marksIn 6 = .ok (.getfield 7, 3) := by decide +kernel
theorem dX8_marksIn_9 : decode cX8_marksIn 9 = .ok (.bipush 8, 2) := by decide +kernel
theorem dX8_marksIn_11 : decode cX8_marksIn 11 = .ok (.iload_n 1, 1) := by decide +kernel
theorem dX8_marksIn_12 : decode cX8_marksIn 12 = .ok (.iadd, 1) := by decide +kernel
theorem dX8_marksIn_13 : decode cX8_marksIn 13 = .ok (.iaload, 1) := by decide +kernel
theorem dX8_marksIn_14 : decode cX8_marksIn 14 = .ok (.if_icmp .ge 26, 3) := by decide +kernel
theorem dX8_marksIn_17 : decode cX8_marksIn 17 = .ok (.iload_n 2, 1) := by decide +kernel
theorem dX8_marksIn_18 : decode cX8_marksIn 18 = .ok (.aload_n 0, 1) := by decide +kernel
theorem dX8_marksIn_19 : decode cX8_marksIn 19 = .ok (.iload_n 1, 1) := by decide +kernel
theorem dX8_marksIn_20 : decode cX8_marksIn 20 = .ok (.iload_n 3, 1) := by decide +kernel
theorem dX8_marksIn_21 : decode cX8_marksIn 21 = .ok (.invokevirtual 64, 3) := by decide +kernel
theorem dX8_marksIn_24 : decode cX8_marksIn 24 = .ok (.ifCond .eq 7, 3) := by decide +kernel
theorem dX8_marksIn_27 : decode cX8_marksIn 27 = .ok (.iconst 1, 1) := by decide +kernel
theorem dX8_marksIn_28 : decode cX8_marksIn 28 = .ok (.goto 4, 3) := by decide +kernel
theorem dX8_marksIn_31 : decode cX8_marksIn 31 = .ok (.iconst 0, 1) := by decide +kernel
theorem dX8_marksIn_32 : decode cX8_marksIn 32 = .ok (.iadd, 1) := by decide +kernel
theorem dX8_marksIn_33 : decode cX8_marksIn 33 = .ok (.istore_n 2, 1) := by decide +kernel
theorem dX8_marksIn_34 : decode cX8_marksIn 34 = .ok (.iinc 3 1, 3) := by decide +kernel
theorem dX8_marksIn_37 : decode cX8_marksIn 37 = .ok (.goto (-33), 3) := by decide +kernel
theorem dX8_marksIn_40 : decode cX8_marksIn 40 = .ok (.iload_n 2, 1) := by decide +kernel
theorem dX8_marksIn_41 : decode cX8_marksIn 41 = .ok (.ireturn, 1) := by decide +kernel
theorem dX8_line_0 : decode cX8_line 0 = .ok (.aload_n 0, 1) := by decide +kernel
theorem dX8_line_1 : decode cX8_line 1 = .ok (.iload_n 1, 1) := by decide +kernel
theorem dX8_line_2 : decode cX8_line 2 = .ok (.invokevirtual 122, 3) := by decide +kernel
theorem dX8_line_5 : decode cX8_line 5 = .ok (.ifCond .ne 5, 3) := by decide +kernel
theorem dX8_line_8 : decode cX8_line 8 = .ok (.iconst (-1), 1) := by decide +kernel
theorem dX8_line_9 : decode cX8_line 9 = .ok (.ireturn, 1) := by decide +kernel
theorem dX8_line_10 : decode cX8_line 10 = .ok (.iload_n 2, 1) := by decide +kernel
theorem dX8_line_11 : decode cX8_line 11 = .ok (.tableswitch 70 0 3 #[29, 39, 45, 51], 29) := by decide +kernel
theorem dX8_line_40 : decode cX8_line 40 = .ok (.aload_n 0, 1) := by decide +kernel
theorem dX8_line_41 : decode cX8_line 41 = .ok (.getfield 7, 3) := by decide +kernel
theorem dX8_line_44 : decode cX8_line 44 = .ok (.bipush 8, 2) := by decide +kernel
theorem dX8_line_46 : decode cX8_line 46 = .ok (.iload_n 1, 1) := by decide +kernel
theorem dX8_line_47 : decode cX8_line 47 = .ok (.iadd, 1) := by decide +kernel
theorem dX8_line_48 : decode cX8_line 48 = .ok (.iaload, 1) := by decide +kernel
theorem dX8_line_49 : decode cX8_line 49 = .ok (.ireturn, 1) := by decide +kernel
theorem dX8_line_50 : decode cX8_line 50 = .ok (.aload_n 0, 1) := by decide +kernel
theorem dX8_line_51 : decode cX8_line 51 = .ok (.iload_n 1, 1) := by decide +kernel
theorem dX8_line_52 : decode cX8_line 52 = .ok (.invokevirtual 125, 3) := by decide +kernel
theorem dX8_line_55 : decode cX8_line 55 = .ok (.ireturn, 1) := by decide +kernel
theorem dX8_line_56 : decode cX8_line 56 = .ok (.aload_n 0, 1) := by decide +kernel
theorem dX8_line_57 : decode cX8_line 57 = .ok (.iload_n 1, 1) := by decide +kernel
theorem dX8_line_58 : decode cX8_line 58 = .ok (.invokevirtual 128, 3) := by decide +kernel
theorem dX8_line_61 : decode cX8_line 61 = .ok (.ireturn, 1) := by decide +kernel
theorem dX8_line_62 : decode cX8_line 62 = .ok (.aload_n 0, 1) := by decide +kernel
theorem dX8_line_63 : decode cX8_line 63 = .ok (.iload_n 1, 1) := by decide +kernel
theorem dX8_line_64 : decode cX8_line 64 = .ok (.invokevirtual 125, 3) := by decide +kernel
theorem dX8_line_67 : decode cX8_line 67 = .ok (.aload_n 0, 1) := by decide +kernel
theorem dX8_line_68 : decode cX8_line 68 = .ok (.getfield 7, 3) := by decide +kernel
theorem dX8_line_71 : decode cX8_line 71 = .ok (.iconst 1, 1) := by decide +kernel
theorem dX8_line_72 : decode cX8_line 72 = .ok (.iaload, 1) := by decide +kernel
theorem dX8_line_73 : decode cX8_line 73 = .ok (.aload_n 0, 1) := by decide +kernel
theorem dX8_line_74 : decode cX8_line 74 = .ok (.iload_n 1, 1) := by decide +kernel
theorem dX8_line_75 : decode cX8_line 75 = .ok (.invokevirtual 128, 3) := by decide +kernel
theorem dX8_line_78 : decode cX8_line 78 = .ok (.imul, 1) := by decide +kernel
theorem dX8_line_79 : decode cX8_line 79 = .ok (.iadd, 1) := by decide +kernel
theorem dX8_line_80 : decode cX8_line 80 = .ok (.ireturn, 1) := by decide +kernel
theorem dX8_line_81 : decode cX8_line 81 = .ok (.bipush (-2), 2) := by decide +kernel
theorem dX8_line_83 : decode cX8_line 83 = .ok (.ireturn, 1) := by decide +kernel
theorem dX8_foot_0 : decode cX8_foot 0 = .ok (.aload_n 0, 1) := by decide +kernel
theorem dX8_foot_1 : decode cX8_foot 1 = .ok (.iload_n 1, 1) := by decide +kernel
theorem dX8_foot_2 : decode cX8_foot 2 = .ok (.invokevirtual 122, 3) := by decide +kernel
theorem dX8_foot_5 : decode cX8_foot 5 = .ok (.ifCond .eq 22, 3) := by decide +kernel
theorem dX8_foot_8 : decode cX8_foot 8 = .ok (.iload_n 2, 1) := by decide +kernel
theorem dX8_foot_9 : decode cX8_foot 9 = .ok (.iconst 0, 1) := by decide +kernel
theorem dX8_foot_10 : decode cX8_foot 10 = .ok (.aload_n 0, 1) := by decide +kernel
theorem dX8_foot_11 : decode cX8_foot 11 = .ok (.getfield 7, 3) := by decide +kernel
theorem dX8_foot_14 : decode cX8_foot 14 = .ok (.bipush 8, 2) := by decide +kernel
theorem dX8_foot_16 : decode cX8_foot 16 = .ok (.iload_n 1, 1) := by decide +kernel
theorem dX8_foot_17 : decode cX8_foot 17 = .ok (.iadd, 1) := by decide +kernel
theorem dX8_foot_18 : decode cX8_foot 18 = .ok (.iaload, 1) := by decide +kernel
theorem dX8_foot_19 : decode cX8_foot 19 = .ok (.iconst 1, 1) := by decide +kernel
theorem dX8_foot_20 : decode cX8_foot 20 = .ok (.isub, 1) := by decide +kernel
theorem dX8_foot_21 : decode cX8_foot 21 = .ok (.invokestatic 38, 3) := by decide +kernel
theorem dX8_foot_24 : decode cX8_foot 24 = .ok (.ifCond .ne 5, 3) := by decide +kernel
theorem dX8_foot_27 : decode cX8_foot 27 = .ok (.iconst (-1), 1) := by decide +kernel
theorem dX8_foot_28 : decode cX8_foot 28 = .ok (.ireturn, 1) := by decide +kernel
theorem dX8_foot_29 : decode cX8_foot 29 = .ok (.iload_n 3, 1) := by decide +kernel
theorem dX8_foot_30 : decode cX8_foot 30 = .ok (.ifCond .ne 12, 3) := by decide +kernel
theorem dX8_foot_33 : decode cX8_foot 33 = .ok (.aload_n 0, 1) := by decide +kernel
theorem dX8_foot_34 : decode cX8_foot 34 = .ok (.iload_n 1, 1) := by decide +kernel
theorem dX8_foot_35 : decode cX8_foot 35 = .ok (.iload_n 2, 1) := by decide +kernel
theorem dX8_foot_36 : decode cX8_foot 36 = .ok (.invokevirtual 61, 3) := by decide +kernel
theorem dX8_foot_39 : decode cX8_foot 39 = .ok (.goto 27, 3) := by decide +kernel
theorem dX8_foot_42 : decode cX8_foot 42 = .ok (.iload_n 3, 1) := by decide +kernel
theorem dX8_foot_43 : decode cX8_foot 43 = .ok (.iconst 1, 1) := by decide +kernel
theorem dX8_foot_44 : decode cX8_foot 44 = .ok (.if_icmp .ne 20, 3) := by decide +kernel
theorem dX8_foot_47 : decode cX8_foot 47 = .ok (.aload_n 0, 1) := by decide +kernel
theorem dX8_foot_48 : decode cX8_foot 48 = .ok (.iload_n 1, 1) := by decide +kernel
theorem dX8_foot_49 : decode cX8_foot 49 = .ok (.iload_n 2, 1) := by decide +kernel
theorem dX8_foot_50 : decode cX8_foot 50 = .ok (.invokevirtual 64, 3) := by decide +kernel
theorem dX8_foot_53 : decode cX8_foot 53 = .ok (.ifCond .eq 7, 3) := by decide +kernel
theorem dX8_foot_56 : decode cX8_foot 56 = .ok (.iconst 1, 1) := by decide +kernel
theorem dX8_foot_57 : decode cX8_foot 57 = .ok (.goto 9, 3) := by decide +kernel
theorem dX8_foot_60 : decode cX8_foot 60 = .ok (.iconst 0, 1) := by decide +kernel
theorem dX8_foot_61 : decode cX8_foot 61 = .ok (.goto 5, 3) := by decide +kernel
theorem dX8_foot_64 : decode cX8_foot 64 = .ok (.bipush (-2), 2) := by decide +kernel
theorem dX8_foot_66 : decode cX8_foot 66 = .ok (.ireturn, 1) := by decide +kernel
theorem dX8_sungFor_0 : decode cX8_sungFor 0 = .ok (.iconst 0, 1) := by decide +kernel
theorem dX8_sungFor_1 : decode cX8_sungFor 1 = .ok (.istore_n 3, 1) := by decide +kernel
theorem dX8_sungFor_2 : decode cX8_sungFor 2 = .ok (.iconst 0, 1) := by decide +kernel
theorem dX8_sungFor_3 : decode cX8_sungFor 3 = .ok (.istore 4, 2) := by decide +kernel
theorem dX8_sungFor_5 : decode cX8_sungFor 5 = .ok (.iload 4, 2) := by decide +kernel
theorem dX8_sungFor_7 : decode cX8_sungFor 7 = .ok (.iload_n 1, 1) := by decide +kernel
theorem dX8_sungFor_8 : decode cX8_sungFor 8 = .ok (.if_icmp .ge 34, 3) := by decide +kernel
theorem dX8_sungFor_11 : decode cX8_sungFor 11 = .ok (.iinc 3 1, 3) := by decide +kernel
theorem dX8_sungFor_14 : decode cX8_sungFor 14 = .ok (.iload 4, 2) := by decide +kernel
theorem dX8_sungFor_16 : decode cX8_sungFor 16 = .ok (.iload_n 2, 1) := by decide +kernel
theorem dX8_sungFor_17 : decode cX8_sungFor 17 = .ok (.ifCond .eq 18, 3) := by decide +kernel
theorem dX8_sungFor_20 : decode cX8_sungFor 20 = .ok (.iload_n 3, 1) := by decide +kernel
theorem dX8_sungFor_21 : decode cX8_sungFor 21 = .ok (.aload_n 0, 1) := by decide +kernel
theorem dX8_sungFor_22 : decode cX8_sungFor 22 = .ok (.getfield 7, 3) := by decide +kernel
theorem dX8_sungFor_25 : decode cX8_sungFor 25 = .ok (.iconst 5, 1) := by decide +kernel
theorem dX8_sungFor_26 : decode cX8_sungFor 26 = .ok (.iaload, 1) := by decide +kernel
theorem dX8_sungFor_27 : decode cX8_sungFor 27 = .ok (.irem, 1) := by decide +kernel
theorem dX8_sungFor_28 : decode cX8_sungFor 28 = .ok (.ifCond .ne 7, 3) := by decide +kernel
theorem dX8_sungFor_31 : decode cX8_sungFor 31 = .ok (.iconst 0, 1) := by decide +kernel
theorem dX8_sungFor_32 : decode cX8_sungFor 32 = .ok (.goto 4, 3) := by decide +kernel
theorem dX8_sungFor_35 : decode cX8_sungFor 35 = .ok (.iconst 1, 1) := by decide +kernel
theorem dX8_sungFor_36 : decode cX8_sungFor 36 = .ok (.iadd, 1) := by decide +kernel
theorem dX8_sungFor_37 : decode cX8_sungFor 37 = .ok (.istore 4, 2) := by decide +kernel
theorem dX8_sungFor_39 : decode cX8_sungFor 39 = .ok (.goto (-34), 3) := by decide +kernel
theorem dX8_sungFor_42 : decode cX8_sungFor 42 = .ok (.iload_n 3, 1) := by decide +kernel
theorem dX8_sungFor_43 : decode cX8_sungFor 43 = .ok (.ireturn, 1) := by decide +kernel
theorem dX8_stretch_0 : decode cX8_stretch 0 = .ok (.aload_n 0, 1) := by decide +kernel
theorem dX8_stretch_1 : decode cX8_stretch 1 = .ok (.iload_n 1, 1) := by decide +kernel
theorem dX8_stretch_2 : decode cX8_stretch 2 = .ok (.invokevirtual 95, 3) := by decide +kernel
theorem dX8_stretch_5 : decode cX8_stretch 5 = .ok (.ifCond .ne 5, 3) := by decide +kernel
theorem dX8_stretch_8 : decode cX8_stretch 8 = .ok (.iconst (-1), 1) := by decide +kernel
theorem dX8_stretch_9 : decode cX8_stretch 9 = .ok (.ireturn, 1) := by decide +kernel
theorem dX8_stretch_10 : decode cX8_stretch 10 = .ok (.iload_n 2, 1) := by decide +kernel
theorem dX8_stretch_11 : decode cX8_stretch 11 = .ok (.tableswitch 78 0 3 #[29, 36, 45, 52], 29) := by decide +kernel
theorem dX8_stretch_40 : decode cX8_stretch 40 = .ok (.aload_n 0, 1) := by decide +kernel
theorem dX8_stretch_41 : decode cX8_stretch 41 = .ok (.iload_n 1, 1) := by decide +kernel
theorem dX8_stretch_42 : decode cX8_stretch 42 = .ok (.iconst 0, 1) := by decide +kernel
theorem dX8_stretch_43 : decode cX8_stretch 43 = .ok (.invokevirtual 53, 3) := by decide +kernel
theorem dX8_stretch_46 : decode cX8_stretch 46 = .ok (.ireturn, 1) := by decide +kernel
theorem dX8_stretch_47 : decode cX8_stretch 47 = .ok (.aload_n 0, 1) := by decide +kernel
theorem dX8_stretch_48 : decode cX8_stretch 48 = .ok (.iload_n 1, 1) := by decide +kernel
theorem dX8_stretch_49 : decode cX8_stretch 49 = .ok (.iconst 1, 1) := by decide +kernel
theorem dX8_stretch_50 : decode cX8_stretch 50 = .ok (.invokevirtual 53, 3) := by decide +kernel
theorem dX8_stretch_53 : decode cX8_stretch 53 = .ok (.iconst 3, 1) := by decide +kernel
theorem dX8_stretch_54 : decode cX8_stretch 54 = .ok (.iadd, 1) := by decide +kernel
theorem dX8_stretch_55 : decode cX8_stretch 55 = .ok (.ireturn, 1) := by decide +kernel
theorem dX8_stretch_56 : decode cX8_stretch 56 = .ok (.aload_n 0, 1) := by decide +kernel
theorem dX8_stretch_57 : decode cX8_stretch 57 = .ok (.iload_n 1, 1) := by decide +kernel
theorem dX8_stretch_58 : decode cX8_stretch 58 = .ok (.iconst 2, 1) := by decide +kernel
theorem dX8_stretch_59 : decode cX8_stretch 59 = .ok (.invokevirtual 53, 3) := by decide +kernel
theorem dX8_stretch_62 : decode cX8_stretch 62 = .ok (.ireturn, 1) := by decide +kernel
theorem dX8_stretch_63 : decode cX8_stretch 63 = .ok (.aload_n 0, 1) := by decide +kernel
theorem dX8_stretch_64 : decode cX8_stretch 64 = .ok (.aload_n 0, 1) := by decide +kernel
theorem dX8_stretch_65 : decode cX8_stretch 65 = .ok (.iload_n 1, 1) := by decide +kernel
theorem dX8_stretch_66 : decode cX8_stretch 66 = .ok (.iconst 0, 1) := by decide +kernel
theorem dX8_stretch_67 : decode cX8_stretch 67 = .ok (.invokevirtual 53, 3) := by decide +kernel
theorem dX8_stretch_70 : decode cX8_stretch 70 = .ok (.aload_n 0, 1) := by decide +kernel
theorem dX8_stretch_71 : decode cX8_stretch 71 = .ok (.iload_n 1, 1) := by decide +kernel
theorem dX8_stretch_72 : decode cX8_stretch 72 = .ok (.iconst 2, 1) := by decide +kernel
theorem dX8_stretch_73 : decode cX8_stretch 73 = .ok (.invokevirtual 53, 3) := by decide +kernel
theorem dX8_stretch_76 : decode cX8_stretch 76 = .ok (.iconst 1, 1) := by decide +kernel
theorem dX8_stretch_77 : decode cX8_stretch 77 = .ok (.if_icmp .ne 7, 3) := by decide +kernel
theorem dX8_stretch_80 : decode cX8_stretch 80 = .ok (.iconst 1, 1) := by decide +kernel
theorem dX8_stretch_81 : decode cX8_stretch 81 = .ok (.goto 4, 3) := by decide +kernel
theorem dX8_stretch_84 : decode cX8_stretch 84 = .ok (.iconst 0, 1) := by decide +kernel
theorem dX8_stretch_85 : decode cX8_stretch 85 = .ok (.invokevirtual 131, 3) := by decide +kernel
theorem dX8_stretch_88 : decode cX8_stretch 88 = .ok (.ireturn, 1) := by decide +kernel
theorem dX8_stretch_89 : decode cX8_stretch 89 = .ok (.bipush (-2), 2) := by decide +kernel
theorem dX8_stretch_91 : decode cX8_stretch 91 = .ok (.ireturn, 1) := by decide +kernel
theorem dX8_walk_0 : decode cX8_walk 0 = .ok (.iload_n 1, 1) := by decide +kernel
theorem dX8_walk_1 : decode cX8_walk 1 = .ok (.iconst 0, 1) := by decide +kernel
theorem dX8_walk_2 : decode cX8_walk 2 = .ok (.bipush 14, 2) := by decide +kernel
theorem dX8_walk_4 : decode cX8_walk 4 = .ok (.invokestatic 38, 3) := by decide +kernel
theorem dX8_walk_7 : decode cX8_walk 7 = .ok (.ifCond .eq 16, 3) := by decide +kernel
theorem dX8_walk_10 : decode cX8_walk 10 = .ok (.aload_n 0, 1) := by decide +kernel
theorem dX8_walk_11 : decode cX8_walk 11 = .ok (.getfield 7, 3) := by decide +kernel
theorem dX8_walk_14 : decode cX8_walk 14 = .ok (.sipush 174, 3) := by decide +kernel
theorem dX8_walk_17 : decode cX8_walk 17 = .ok (.iload_n 1, 1) := by decide +kernel
theorem dX8_walk_18 : decode cX8_walk 18 = .ok (.iadd, 1) := by decide +kernel
theorem dX8_walk_19 : decode cX8_walk 19 = .ok (.iaload, 1) := by decide +kernel
theorem dX8_walk_20 : decode cX8_walk 20 = .ok (.goto 5, 3) := by decide +kernel
theorem dX8_walk_23 : decode cX8_walk 23 = .ok (.bipush (-2), 2) := by decide +kernel
theorem dX8_walk_25 : decode cX8_walk 25 = .ok (.ireturn, 1) := by decide +kernel
theorem dX8_sungInSong_0 : decode cX8_sungInSong 0 = .ok (.iconst 0, 1) := by decide +kernel
theorem dX8_sungInSong_1 : decode cX8_sungInSong 1 = .ok (.istore_n 1, 1) := by decide +kernel
theorem dX8_sungInSong_2 : decode cX8_sungInSong 2 = .ok (.iconst 0, 1) := by decide +kernel
theorem dX8_sungInSong_3 : decode cX8_sungInSong 3 = .ok (.istore_n 2, 1) := by decide +kernel
theorem dX8_sungInSong_4 : decode cX8_sungInSong 4 = .ok (.iload_n 2, 1) := by decide +kernel
theorem dX8_sungInSong_5 : decode cX8_sungInSong 5 = .ok (.aload_n 0, 1) := by decide +kernel
theorem dX8_sungInSong_6 : decode cX8_sungInSong 6 = .ok (.getfield 7, 3) := by decide +kernel
theorem dX8_sungInSong_9 : decode cX8_sungInSong 9 = .ok (.bipush 6, 2) := by decide +kernel
theorem dX8_sungInSong_11 : decode cX8_sungInSong 11 = .ok (.iaload, 1) := by decide +kernel
theorem dX8_sungInSong_12 : decode cX8_sungInSong 12 = .ok (.if_icmp .ge 17, 3) := by decide +kernel
theorem dX8_sungInSong_15 : decode cX8_sungInSong 15 = .ok (.iload_n 1, 1) := by decide +kernel
theorem dX8_sungInSong_16 : decode cX8_sungInSong 16 = .ok (.aload_n 0, 1) := by decide +kernel
theorem dX8_sungInSong_17 : decode cX8_sungInSong 17 = .ok (.iload_n 2, 1) := by decide +kernel
theorem dX8_sungInSong_18 : decode cX8_sungInSong 18 = .ok (.invokevirtual 125, 3) := by decide +kernel
theorem dX8_sungInSong_21 : decode cX8_sungInSong 21 = .ok (.iadd, 1) := by decide +kernel
theorem dX8_sungInSong_22 : decode cX8_sungInSong 22 = .ok (.istore_n 1, 1) := by decide +kernel
theorem dX8_sungInSong_23 : decode cX8_sungInSong 23 = .ok (.iinc 2 1, 3) := by decide +kernel
theorem dX8_sungInSong_26 : decode cX8_sungInSong 26 = .ok (.goto (-22), 3) := by decide +kernel
theorem dX8_sungInSong_29 : decode cX8_sungInSong 29 = .ok (.iload_n 1, 1) := by decide +kernel
theorem dX8_sungInSong_30 : decode cX8_sungInSong 30 = .ok (.ireturn, 1) := by decide +kernel
theorem dX8_marksInSong_0 : decode cX8_marksInSong 0 = .ok (.iconst 0, 1) := by decide +kernel
theorem dX8_marksInSong_1 : decode cX8_marksInSong 1 = .ok (.istore_n 1, 1) := by decide +kernel
theorem dX8_marksInSong_2 : decode cX8_marksInSong 2 = .ok (.iconst 0, 1) := by decide +kernel
theorem dX8_marksInSong_3 : decode cX8_marksInSong 3 = .ok (.istore_n 2, 1) := by decide +kernel
theorem dX8_marksInSong_4 : decode cX8_marksInSong 4 = .ok (.iload_n 2, 1) := by decide +kernel
theorem dX8_marksInSong_5 : decode cX8_marksInSong 5 = .ok (.aload_n 0, 1) := by decide +kernel
theorem dX8_marksInSong_6 : decode cX8_marksInSong 6 = .ok (.getfield 7, 3) := by decide +kernel
theorem dX8_marksInSong_9 : decode cX8_marksInSong 9 = .ok (.bipush 6, 2) := by decide +kernel
theorem dX8_marksInSong_11 : decode cX8_marksInSong 11 = .ok (.iaload, 1) := by decide +kernel
theorem dX8_marksInSong_12 : decode cX8_marksInSong 12 = .ok (.if_icmp .ge 17, 3) := by decide +kernel
theorem dX8_marksInSong_15 : decode cX8_marksInSong 15 = .ok (.iload_n 1, 1) := by decide +kernel
theorem dX8_marksInSong_16 : decode cX8_marksInSong 16 = .ok (.aload_n 0, 1) := by decide +kernel
theorem dX8_marksInSong_17 : decode cX8_marksInSong 17 = .ok (.iload_n 2, 1) := by decide +kernel
theorem dX8_marksInSong_18 : decode cX8_marksInSong 18 = .ok (.invokevirtual 128, 3) := by decide +kernel
theorem dX8_marksInSong_21 : decode cX8_marksInSong 21 = .ok (.iadd, 1) := by decide +kernel
theorem dX8_marksInSong_22 : decode cX8_marksInSong 22 = .ok (.istore_n 1, 1) := by decide +kernel
theorem dX8_marksInSong_23 : decode cX8_marksInSong 23 = .ok (.iinc 2 1, 3) := by decide +kernel
theorem dX8_marksInSong_26 : decode cX8_marksInSong 26 = .ok (.goto (-22), 3) := by decide +kernel
theorem dX8_marksInSong_29 : decode cX8_marksInSong 29 = .ok (.iload_n 1, 1) := by decide +kernel
theorem dX8_marksInSong_30 : decode cX8_marksInSong 30 = .ok (.ireturn, 1) := by decide +kernel
theorem dX8_stepsOfRoad_0 : decode cX8_stepsOfRoad 0 = .ok (.iconst 0, 1) := by decide +kernel
theorem dX8_stepsOfRoad_1 : decode cX8_stepsOfRoad 1 = .ok (.istore_n 1, 1) := by decide +kernel
theorem dX8_stepsOfRoad_2 : decode cX8_stepsOfRoad 2 = .ok (.iconst 0, 1) := by decide +kernel
theorem dX8_stepsOfRoad_3 : decode cX8_stepsOfRoad 3 = .ok (.istore_n 2, 1) := by decide +kernel
theorem dX8_stepsOfRoad_4 : decode cX8_stepsOfRoad 4 = .ok (.iload_n 2, 1) := by decide +kernel
theorem dX8_stepsOfRoad_5 : decode cX8_stepsOfRoad 5 = .ok (.aload_n 0, 1) := by decide +kernel
theorem dX8_stepsOfRoad_6 : decode cX8_stepsOfRoad 6 = .ok (.getfield 7, 3) := by decide +kernel
theorem dX8_stepsOfRoad_9 : decode cX8_stepsOfRoad 9 = .ok (.bipush 7, 2) := by decide +kernel
theorem dX8_stepsOfRoad_11 : decode cX8_stepsOfRoad 11 = .ok (.iaload, 1) := by decide +kernel
theorem dX8_stepsOfRoad_12 : decode cX8_stepsOfRoad 12 = .ok (.if_icmp .ge 18, 3) := by decide +kernel
theorem dX8_stepsOfRoad_15 : decode cX8_stepsOfRoad 15 = .ok (.iload_n 1, 1) := by decide +kernel
theorem dX8_stepsOfRoad_16 : decode cX8_stepsOfRoad 16 = .ok (.aload_n 0, 1) := by decide +kernel
theorem dX8_stepsOfRoad_17 : decode cX8_stepsOfRoad 17 = .ok (.iload_n 2, 1) := by decide +kernel
theorem dX8_stepsOfRoad_18 : decode cX8_stepsOfRoad 18 = .ok (.iconst 0, 1) := by decide +kernel
theorem dX8_stepsOfRoad_19 : decode cX8_stepsOfRoad 19 = .ok (.invokevirtual 53, 3) := by decide +kernel
theorem dX8_stepsOfRoad_22 : decode cX8_stepsOfRoad 22 = .ok (.iadd, 1) := by decide +kernel
theorem dX8_stepsOfRoad_23 : decode cX8_stepsOfRoad 23 = .ok (.istore_n 1, 1) := by decide +kernel
theorem dX8_stepsOfRoad_24 : decode cX8_stepsOfRoad 24 = .ok (.iinc 2 1, 3) := by decide +kernel
theorem dX8_stepsOfRoad_27 : decode cX8_stepsOfRoad 27 = .ok (.goto (-23), 3) := by decide +kernel
theorem dX8_stepsOfRoad_30 : decode cX8_stepsOfRoad 30 = .ok (.iload_n 1, 1) := by decide +kernel
theorem dX8_stepsOfRoad_31 : decode cX8_stepsOfRoad 31 = .ok (.ireturn, 1) := by decide +kernel
theorem dX8_count_0 : decode cX8_count 0 = .ok (.iload_n 1, 1) := by decide +kernel
theorem dX8_count_1 : decode cX8_count 1 = .ok (.tableswitch 107 0 12 #[67, 67, 67, 67, 67, 67, 67, 74, 79, 84, 92, 97, 102], 67) := by decide +kernel
theorem dX8_count_68 : decode cX8_count 68 = .ok (.aload_n 0, 1) := by decide +kernel
theorem dX8_count_69 : decode cX8_count 69 = .ok (.getfield 7, 3) := by decide +kernel
theorem dX8_count_72 : decode cX8_count 72 = .ok (.iload_n 1, 1) := by decide +kernel
theorem dX8_count_73 : decode cX8_count 73 = .ok (.iaload, 1) := by decide +kernel
theorem dX8_count_74 : decode cX8_count 74 = .ok (.ireturn, 1) := by decide +kernel
theorem dX8_count_75 : decode cX8_count 75 = .ok (.aload_n 0, 1) := by decide +kernel
theorem dX8_count_76 : decode cX8_count 76 = .ok (.invokevirtual 135, 3) := by decide +kernel
theorem dX8_count_79 : decode cX8_count 79 = .ok (.ireturn, 1) := by decide +kernel
theorem dX8_count_80 : decode cX8_count 80 = .ok (.aload_n 0, 1) := by decide +kernel
theorem dX8_count_81 : decode cX8_count 81 = .ok (.invokevirtual 138, 3) := by decide +kernel
theorem dX8_count_84 : decode cX8_count 84 = .ok (.ireturn, 1) := by decide +kernel
theorem dX8_count_85 : decode cX8_count 85 = .ok (.aload_n 0, 1) := by decide +kernel
theorem dX8_count_86 : decode cX8_count 86 = .ok (.getfield 7, 3) := by decide +kernel
theorem dX8_count_89 : decode cX8_count 89 = .ok (.bipush 7, 2) := by decide +kernel
theorem dX8_count_91 : decode cX8_count 91 = .ok (.iaload, 1) := by decide +kernel
theorem dX8_count_92 : decode cX8_count 92 = .ok (.ireturn, 1) := by decide +kernel
theorem dX8_count_93 : decode cX8_count 93 = .ok (.aload_n 0, 1) := by decide +kernel
theorem dX8_count_94 : decode cX8_count 94 = .ok (.invokevirtual 141, 3) := by decide +kernel
theorem dX8_count_97 : decode cX8_count 97 = .ok (.ireturn, 1) := by decide +kernel
theorem dX8_count_98 : decode cX8_count 98 = .ok (.aload_n 0, 1) := by decide +kernel
theorem dX8_count_99 : decode cX8_count 99 = .ok (.getfield 101, 3) := by decide +kernel
theorem dX8_count_102 : decode cX8_count 102 = .ok (.ireturn, 1) := by decide +kernel
theorem dX8_count_103 : decode cX8_count 103 = .ok (.aload_n 0, 1) := by decide +kernel
theorem dX8_count_104 : decode cX8_count 104 = .ok (.getfield 42, 3) := by decide +kernel
theorem dX8_count_107 : decode cX8_count 107 = .ok (.ireturn, 1) := by decide +kernel
theorem dX8_count_108 : decode cX8_count 108 = .ok (.bipush (-2), 2) := by decide +kernel
theorem dX8_count_110 : decode cX8_count 110 = .ok (.ireturn, 1) := by decide +kernel
theorem dX8_untilWalked_0 : decode cX8_untilWalked 0 = .ok (.iload_n 1, 1) := by decide +kernel
theorem dX8_untilWalked_1 : decode cX8_untilWalked 1 = .ok (.iconst 0, 1) := by decide +kernel
theorem dX8_untilWalked_2 : decode cX8_untilWalked 2 = .ok (.iconst 3, 1) := by decide +kernel
theorem dX8_untilWalked_3 : decode cX8_untilWalked 3 = .ok (.invokestatic 38, 3) := by decide +kernel
theorem dX8_untilWalked_6 : decode cX8_untilWalked 6 = .ok (.ifCond .ne 6, 3) := by decide +kernel
theorem dX8_untilWalked_9 : decode cX8_untilWalked 9 = .ok (.bipush (-2), 2) := by decide +kernel
theorem dX8_untilWalked_11 : decode cX8_untilWalked 11 = .ok (.ireturn, 1) := by decide +kernel
theorem dX8_untilWalked_12 : decode cX8_untilWalked 12 = .ok (.aload_n 0, 1) := by decide +kernel
theorem dX8_untilWalked_13 : decode cX8_untilWalked 13 = .ok (.invokevirtual 84, 3) := by decide +kernel
theorem dX8_untilWalked_16 : decode cX8_untilWalked 16 = .ok (.ifCond .ne 6, 3) := by decide +kernel
theorem dX8_untilWalked_19 : decode cX8_untilWalked 19 = .ok (.bipush (-5), 2) := by decide +kernel
theorem dX8_untilWalked_21 : decode cX8_untilWalked 21 = .ok (.ireturn, 1) := by decide +kernel
theorem dX8_untilWalked_22 : decode cX8_untilWalked 22 = .ok (.iload_n 1, 1) := by decide +kernel
theorem dX8_untilWalked_23 : decode cX8_untilWalked 23 = .ok (.ifCond .ne 9, 3) := by decide +kernel
theorem dX8_untilWalked_26 : decode cX8_untilWalked 26 = .ok (.sipush 174, 3) := by decide +kernel
theorem dX8_untilWalked_29 : decode cX8_untilWalked 29 = .ok (.goto 28, 3) := by decide +kernel
theorem dX8_untilWalked_32 : decode cX8_untilWalked 32 = .ok (.iload_n 1, 1) := by decide +kernel
theorem dX8_untilWalked_33 : decode cX8_untilWalked 33 = .ok (.iconst 1, 1) := by decide +kernel
theorem dX8_untilWalked_34 : decode cX8_untilWalked 34 = .ok (.if_icmp .ne 9, 3) := by decide +kernel
theorem dX8_untilWalked_37 : decode cX8_untilWalked 37 = .ok (.sipush 175, 3) := by decide +kernel
theorem dX8_untilWalked_40 : decode cX8_untilWalked 40 = .ok (.goto 17, 3) := by decide +kernel
theorem dX8_untilWalked_43 : decode cX8_untilWalked 43 = .ok (.iload_n 1, 1) := by decide +kernel
theorem dX8_untilWalked_44 : decode cX8_untilWalked 44 = .ok (.iconst 2, 1) := by decide +kernel
theorem dX8_untilWalked_45 : decode cX8_untilWalked 45 = .ok (.if_icmp .ne 9, 3) := by decide +kernel
theorem dX8_untilWalked_48 : decode cX8_untilWalked 48 = .ok (.sipush 185, 3) := by decide +kernel
theorem dX8_untilWalked_51 : decode cX8_untilWalked 51 = .ok (.goto 6, 3) := by decide +kernel
theorem dX8_untilWalked_54 : decode cX8_untilWalked 54 = .ok (.sipush 186, 3) := by decide +kernel
theorem dX8_untilWalked_57 : decode cX8_untilWalked 57 = .ok (.istore_n 2, 1) := by decide +kernel
theorem dX8_untilWalked_58 : decode cX8_untilWalked 58 = .ok (.aload_n 0, 1) := by decide +kernel
theorem dX8_untilWalked_59 : decode cX8_untilWalked 59 = .ok (.getfield 7, 3) := by decide +kernel
theorem dX8_untilWalked_62 : decode cX8_untilWalked 62 = .ok (.iconst 0, 1) := by decide +kernel
theorem dX8_untilWalked_63 : decode cX8_untilWalked 63 = .ok (.aload_n 0, 1) := by decide +kernel
theorem dX8_untilWalked_64 : decode cX8_untilWalked 64 = .ok (.getfield 13, 3) := by decide +kernel
theorem dX8_untilWalked_67 : decode cX8_untilWalked 67 = .ok (.iconst 0, 1) := by decide +kernel
theorem dX8_untilWalked_68 : decode cX8_untilWalked 68 = .ok (.invokestatic 46, 3) := by decide +kernel
theorem dX8_untilWalked_71 : decode cX8_untilWalked 71 = .ok (.aload_n 0, 1) := by decide +kernel
theorem dX8_untilWalked_72 : decode cX8_untilWalked 72 = .ok (.sipush 5000, 3) := by decide +kernel
theorem dX8_untilWalked_75 : decode cX8_untilWalked 75 = .ok (.invokevirtual 88, 3) := by decide +kernel
theorem dX8_untilWalked_78 : decode cX8_untilWalked 78 = .ok (.pop, 1) := by decide +kernel
theorem dX8_untilWalked_79 : decode cX8_untilWalked 79 = .ok (.aload_n 0, 1) := by decide +kernel
theorem dX8_untilWalked_80 : decode cX8_untilWalked 80 = .ok (.getfield 7, 3) := by decide +kernel
theorem dX8_untilWalked_83 : decode cX8_untilWalked 83 = .ok (.sipush 188, 3) := by decide +kernel
theorem dX8_untilWalked_86 : decode cX8_untilWalked 86 = .ok (.iaload, 1) := by decide +kernel
theorem dX8_untilWalked_87 : decode cX8_untilWalked 87 = .ok (.iconst 1, 1) := by decide +kernel
theorem dX8_untilWalked_88 : decode cX8_untilWalked 88 = .ok (.if_icmp .ne 19, 3) := by decide +kernel
theorem dX8_untilWalked_91 : decode cX8_untilWalked 91 = .ok (.aload_n 0, 1) := by decide +kernel
theorem dX8_untilWalked_92 : decode cX8_untilWalked 92 = .ok (.getfield 7, 3) := by decide +kernel
theorem dX8_untilWalked_95 : decode cX8_untilWalked 95 = .ok (.iload_n 2, 1) := by decide +kernel
theorem dX8_untilWalked_96 : decode cX8_untilWalked 96 = .ok (.iaload, 1) := by decide +kernel
theorem dX8_untilWalked_97 : decode cX8_untilWalked 97 = .ok (.aload_n 0, 1) := by decide +kernel
theorem dX8_untilWalked_98 : decode cX8_untilWalked 98 = .ok (.getfield 13, 3) := by decide +kernel
theorem dX8_untilWalked_101 : decode cX8_untilWalked 101 = .ok (.iload_n 2, 1) := by decide +kernel
theorem dX8_untilWalked_102 : decode cX8_untilWalked 102 = .ok (.iaload, 1) := by decide +kernel
theorem dX8_untilWalked_103 : decode cX8_untilWalked 103 = .ok (.isub, 1) := by decide +kernel
theorem dX8_untilWalked_104 : decode cX8_untilWalked 104 = .ok (.goto 5, 3) := by decide +kernel
theorem dX8_untilWalked_107 : decode cX8_untilWalked 107 = .ok (.bipush (-6), 2) := by decide +kernel
theorem dX8_untilWalked_109 : decode cX8_untilWalked 109 = .ok (.istore_n 3, 1) := by decide +kernel
theorem dX8_untilWalked_110 : decode cX8_untilWalked 110 = .ok (.aload_n 0, 1) := by decide +kernel
theorem dX8_untilWalked_111 : decode cX8_untilWalked 111 = .ok (.getfield 13, 3) := by decide +kernel
theorem dX8_untilWalked_114 : decode cX8_untilWalked 114 = .ok (.iconst 0, 1) := by decide +kernel
theorem dX8_untilWalked_115 : decode cX8_untilWalked 115 = .ok (.aload_n 0, 1) := by decide +kernel
theorem dX8_untilWalked_116 : decode cX8_untilWalked 116 = .ok (.getfield 7, 3) := by decide +kernel
theorem dX8_untilWalked_119 : decode cX8_untilWalked 119 = .ok (.iconst 0, 1) := by decide +kernel
theorem dX8_untilWalked_120 : decode cX8_untilWalked 120 = .ok (.invokestatic 46, 3) := by decide +kernel
theorem dX8_untilWalked_123 : decode cX8_untilWalked 123 = .ok (.iload_n 3, 1) := by decide +kernel
theorem dX8_untilWalked_124 : decode cX8_untilWalked 124 = .ok (.ireturn, 1) := by decide +kernel
theorem dX8_together_0 : decode cX8_together 0 = .ok (.aload_n 0, 1) := by decide +kernel
theorem dX8_together_1 : decode cX8_together 1 = .ok (.invokevirtual 84, 3) := by decide +kernel
theorem dX8_together_4 : decode cX8_together 4 = .ok (.ifCond .ne 6, 3) := by decide +kernel
theorem dX8_together_7 : decode cX8_together 7 = .ok (.bipush (-5), 2) := by decide +kernel
theorem dX8_together_9 : decode cX8_together 9 = .ok (.ireturn, 1) := by decide +kernel
theorem dX8_together_10 : decode cX8_together 10 = .ok (.aload_n 0, 1) := by decide +kernel
theorem dX8_together_11 : decode cX8_together 11 = .ok (.getfield 7, 3) := by decide +kernel
theorem dX8_together_14 : decode cX8_together 14 = .ok (.iconst 0, 1) := by decide +kernel
theorem dX8_together_15 : decode cX8_together 15 = .ok (.aload_n 0, 1) := by decide +kernel
theorem dX8_together_16 : decode cX8_together 16 = .ok (.getfield 13, 3) := by decide +kernel
theorem dX8_together_19 : decode cX8_together 19 = .ok (.iconst 0, 1) := by decide +kernel
theorem dX8_together_20 : decode cX8_together 20 = .ok (.invokestatic 46, 3) := by decide +kernel
theorem dX8_together_23 : decode cX8_together 23 = .ok (.iconst 0, 1) := by decide +kernel
theorem dX8_together_24 : decode cX8_together 24 = .ok (.istore_n 1, 1) := by decide +kernel
theorem dX8_together_25 : decode cX8_together 25 = .ok (.bipush (-6), 2) := by decide +kernel
theorem dX8_together_27 : decode cX8_together 27 = .ok (.istore_n 2, 1) := by decide +kernel
theorem dX8_together_28 : decode cX8_together 28 = .ok (.iload_n 1, 1) := by decide +kernel
theorem dX8_together_29 : decode cX8_together 29 = .ok (.sipush 5000, 3) := by decide +kernel
theorem dX8_together_32 : decode cX8_together 32 = .ok (.if_icmp .ge 51, 3) := by decide +kernel
theorem dX8_together_35 : decode cX8_together 35 = .ok (.aload_n 0, 1) := by decide +kernel
theorem dX8_together_36 : decode cX8_together 36 = .ok (.getfield 7, 3) := by decide +kernel
theorem dX8_together_39 : decode cX8_together 39 = .ok (.sipush 188, 3) := by decide +kernel
theorem dX8_together_42 : decode cX8_together 42 = .ok (.iaload, 1) := by decide +kernel
theorem dX8_together_43 : decode cX8_together 43 = .ok (.ifCond .ne 40, 3) := by decide +kernel
theorem dX8_together_46 : decode cX8_together 46 = .ok (.iload_n 2, 1) := by decide +kernel
theorem dX8_together_47 : decode cX8_together 47 = .ok (.bipush (-6), 2) := by decide +kernel
theorem dX8_together_49 : decode cX8_together 49 = .ok (.if_icmp .ne 34, 3) := by decide +kernel
theorem dX8_together_52 : decode cX8_together 52 = .ok (.aload_n 0, 1) := by decide +kernel
theorem dX8_together_53 : decode cX8_together 53 = .ok (.invokevirtual 81, 3) := by decide +kernel
theorem dX8_together_56 : decode cX8_together 56 = .ok (.iinc 1 1, 3) := by decide +kernel
theorem dX8_together_59 : decode cX8_together 59 = .ok (.aload_n 0, 1) := by decide +kernel
theorem dX8_together_60 : decode cX8_together 60 = .ok (.getfield 68, 3) := by decide +kernel
theorem dX8_together_63 : decode cX8_together 63 = .ok (.ifCond .eq 14, 3) := by decide +kernel
theorem dX8_together_66 : decode cX8_together 66 = .ok (.aload_n 0, 1) := by decide +kernel
theorem dX8_together_67 : decode cX8_together 67 = .ok (.getfield 57, 3) := by decide +kernel
theorem dX8_together_70 : decode cX8_together 70 = .ok (.ifCond .eq 7, 3) := by decide +kernel
theorem dX8_together_73 : decode cX8_together 73 = .ok (.iload_n 1, 1) := by decide +kernel
theorem dX8_together_74 : decode cX8_together 74 = .ok (.goto 5, 3) := by decide +kernel
theorem dX8_together_77 : decode cX8_together 77 = .ok (.bipush (-6), 2) := by decide +kernel
theorem dX8_together_79 : decode cX8_together 79 = .ok (.istore_n 2, 1) := by decide +kernel
theorem dX8_together_80 : decode cX8_together 80 = .ok (.goto (-52), 3) := by decide +kernel
theorem dX8_together_83 : decode cX8_together 83 = .ok (.aload_n 0, 1) := by decide +kernel
theorem dX8_together_84 : decode cX8_together 84 = .ok (.getfield 13, 3) := by decide +kernel
theorem dX8_together_87 : decode cX8_together 87 = .ok (.iconst 0, 1) := by decide +kernel
theorem dX8_together_88 : decode cX8_together 88 = .ok (.aload_n 0, 1) := by decide +kernel
theorem dX8_together_89 : decode cX8_together 89 = .ok (.getfield 7, 3) := by decide +kernel
theorem dX8_together_92 : decode cX8_together 92 = .ok (.iconst 0, 1) := by decide +kernel
theorem dX8_together_93 : decode cX8_together 93 = .ok (.invokestatic 46, 3) := by decide +kernel
theorem dX8_together_96 : decode cX8_together 96 = .ok (.iload_n 2, 1) := by decide +kernel
theorem dX8_together_97 : decode cX8_together 97 = .ok (.ireturn, 1) := by decide +kernel
theorem dX8_meets_0 : decode cX8_meets 0 = .ok (.aload_n 0, 1) := by decide +kernel
theorem dX8_meets_1 : decode cX8_meets 1 = .ok (.iload_n 1, 1) := by decide +kernel
theorem dX8_meets_2 : decode cX8_meets 2 = .ok (.invokevirtual 95, 3) := by decide +kernel
theorem dX8_meets_5 : decode cX8_meets 5 = .ok (.ifCond .ne 5, 3) := by decide +kernel
theorem dX8_meets_8 : decode cX8_meets 8 = .ok (.iconst (-1), 1) := by decide +kernel
theorem dX8_meets_9 : decode cX8_meets 9 = .ok (.ireturn, 1) := by decide +kernel
theorem dX8_meets_10 : decode cX8_meets 10 = .ok (.iload_n 2, 1) := by decide +kernel
theorem dX8_meets_11 : decode cX8_meets 11 = .ok (.iconst 0, 1) := by decide +kernel
theorem dX8_meets_12 : decode cX8_meets 12 = .ok (.iconst 1, 1) := by decide +kernel
theorem dX8_meets_13 : decode cX8_meets 13 = .ok (.invokestatic 38, 3) := by decide +kernel
theorem dX8_meets_16 : decode cX8_meets 16 = .ok (.ifCond .ne 6, 3) := by decide +kernel
theorem dX8_meets_19 : decode cX8_meets 19 = .ok (.bipush (-2), 2) := by decide +kernel
theorem dX8_meets_21 : decode cX8_meets 21 = .ok (.ireturn, 1) := by decide +kernel
theorem dX8_meets_22 : decode cX8_meets 22 = .ok (.aload_n 0, 1) := by decide +kernel
theorem dX8_meets_23 : decode cX8_meets 23 = .ok (.getfield 7, 3) := by decide +kernel
theorem dX8_meets_26 : decode cX8_meets 26 = .ok (.bipush 6, 2) := by decide +kernel
theorem dX8_meets_28 : decode cX8_meets 28 = .ok (.iaload, 1) := by decide +kernel
theorem dX8_meets_29 : decode cX8_meets 29 = .ok (.ifCond .ne 6, 3) := by decide +kernel
theorem dX8_meets_32 : decode cX8_meets 32 = .ok (.bipush (-5), 2) := by decide +kernel
theorem dX8_meets_34 : decode cX8_meets 34 = .ok (.ireturn, 1) := by decide +kernel
theorem dX8_meets_35 : decode cX8_meets 35 = .ok (.iconst 1, 1) := by decide +kernel
theorem dX8_meets_36 : decode cX8_meets 36 = .ok (.istore_n 3, 1) := by decide +kernel
theorem dX8_meets_37 : decode cX8_meets 37 = .ok (.iload_n 3, 1) := by decide +kernel
theorem dX8_meets_38 : decode cX8_meets 38 = .ok (.aload_n 0, 1) := by decide +kernel
theorem dX8_meets_39 : decode cX8_meets 39 = .ok (.invokevirtual 135, 3) := by decide +kernel
theorem dX8_meets_42 : decode cX8_meets 42 = .ok (.imul, 1) := by decide +kernel
theorem dX8_meets_43 : decode cX8_meets 43 = .ok (.aload_n 0, 1) := by decide +kernel
theorem dX8_meets_44 : decode cX8_meets 44 = .ok (.iload_n 1, 1) := by decide +kernel
theorem dX8_meets_45 : decode cX8_meets 45 = .ok (.iconst 0, 1) := by decide +kernel
theorem dX8_meets_46 : decode cX8_meets 46 = .ok (.invokevirtual 53, 3) := by decide +kernel
theorem dX8_meets_49 : decode cX8_meets 49 = .ok (.irem, 1) := by decide +kernel
theorem dX8_meets_50 : decode cX8_meets 50 = .ok (.ifCond .eq 9, 3) := by decide +kernel
theorem dX8_meets_53 : decode cX8_meets 53 = .ok (.iinc 3 1, 3) := by decide +kernel
theorem dX8_meets_56 : decode cX8_meets 56 = .ok (.goto (-19), 3) := by decide +kernel
theorem dX8_meets_59 : decode cX8_meets 59 = .ok (.iload_n 3, 1) := by decide +kernel
theorem dX8_meets_60 : decode cX8_meets 60 = .ok (.ireturn, 1) := by decide +kernel
theorem dX8_isWalkedAnew_0 : decode cX8_isWalkedAnew 0 = .ok (.aload_n 0, 1) := by decide +kernel
theorem dX8_isWalkedAnew_1 : decode cX8_isWalkedAnew 1 = .ok (.invokevirtual 35, 3) := by decide +kernel
theorem dX8_isWalkedAnew_4 : decode cX8_isWalkedAnew 4 = .ok (.aload_n 0, 1) := by decide +kernel
theorem dX8_isWalkedAnew_5 : decode cX8_isWalkedAnew 5 = .ok (.sipush 5000, 3) := by decide +kernel
theorem dX8_isWalkedAnew_8 : decode cX8_isWalkedAnew 8 = .ok (.invokevirtual 88, 3) := by decide +kernel
theorem dX8_isWalkedAnew_11 : decode cX8_isWalkedAnew 11 = .ok (.pop, 1) := by decide +kernel
theorem dX8_isWalkedAnew_12 : decode cX8_isWalkedAnew 12 = .ok (.aload_n 0, 1) := by decide +kernel
theorem dX8_isWalkedAnew_13 : decode cX8_isWalkedAnew 13 = .ok (.getfield 7, 3) := by decide +kernel
theorem dX8_isWalkedAnew_16 : decode cX8_isWalkedAnew 16 = .ok (.sipush 188, 3) := by decide +kernel
theorem dX8_isWalkedAnew_19 : decode cX8_isWalkedAnew 19 = .ok (.iaload, 1) := by decide +kernel
theorem dX8_isWalkedAnew_20 : decode cX8_isWalkedAnew 20 = .ok (.iconst 1, 1) := by decide +kernel
theorem dX8_isWalkedAnew_21 : decode cX8_isWalkedAnew 21 = .ok (.if_icmp .ne 7, 3) := by decide +kernel
theorem dX8_isWalkedAnew_24 : decode cX8_isWalkedAnew 24 = .ok (.iconst 1, 1) := by decide +kernel
theorem dX8_isWalkedAnew_25 : decode cX8_isWalkedAnew 25 = .ok (.goto 4, 3) := by decide +kernel
theorem dX8_isWalkedAnew_28 : decode cX8_isWalkedAnew 28 = .ok (.iconst 0, 1) := by decide +kernel
theorem dX8_isWalkedAnew_29 : decode cX8_isWalkedAnew 29 = .ok (.ireturn, 1) := by decide +kernel
theorem dX8_leastBreath_0 : decode cX8_leastBreath 0 = .ok (.aload_n 0, 1) := by decide +kernel
theorem dX8_leastBreath_1 : decode cX8_leastBreath 1 = .ok (.invokevirtual 84, 3) := by decide +kernel
theorem dX8_leastBreath_4 : decode cX8_leastBreath 4 = .ok (.ifCond .ne 6, 3) := by decide +kernel
theorem dX8_leastBreath_7 : decode cX8_leastBreath 7 = .ok (.bipush (-5), 2) := by decide +kernel
theorem dX8_leastBreath_9 : decode cX8_leastBreath 9 = .ok (.ireturn, 1) := by decide +kernel
theorem dX8_leastBreath_10 : decode cX8_leastBreath 10 = .ok (.aload_n 0, 1) := by decide +kernel
theorem dX8_leastBreath_11 : decode cX8_leastBreath 11 = .ok (.getfield 7, 3) := by decide +kernel
theorem dX8_leastBreath_14 : decode cX8_leastBreath 14 = .ok (.iconst 0, 1) := by decide +kernel
theorem dX8_leastBreath_15 : decode cX8_leastBreath 15 = .ok (.aload_n 0, 1) := by decide +kernel
theorem dX8_leastBreath_16 : decode cX8_leastBreath 16 = .ok (.getfield 13, 3) := by decide +kernel
theorem dX8_leastBreath_19 : decode cX8_leastBreath 19 = .ok (.iconst 0, 1) := by decide +kernel
theorem dX8_leastBreath_20 : decode cX8_leastBreath 20 = .ok (.invokestatic 46, 3) := by decide +kernel
theorem dX8_leastBreath_23 : decode cX8_leastBreath 23 = .ok (.bipush (-6), 2) := by decide +kernel
theorem dX8_leastBreath_25 : decode cX8_leastBreath 25 = .ok (.istore_n 1, 1) := by decide +kernel
theorem dX8_leastBreath_26 : decode cX8_leastBreath 26 = .ok (.bipush 60, 2) := by decide +kernel
theorem dX8_leastBreath_28 : decode cX8_leastBreath 28 = .ok (.istore_n 2, 1) := by decide +kernel
theorem dX8_leastBreath_29 : decode cX8_leastBreath 29 = .ok (.iload_n 2, 1) := by decide +kernel
theorem dX8_leastBreath_30 : decode cX8_leastBreath 30 = .ok (.iconst 5, 1) := by decide +kernel
theorem dX8_leastBreath_31 : decode cX8_leastBreath 31 = .ok (.if_icmp .lt 40, 3) := by decide +kernel
theorem dX8_leastBreath_34 : decode cX8_leastBreath 34 = .ok (.aload_n 0, 1) := by decide +kernel
theorem dX8_leastBreath_35 : decode cX8_leastBreath 35 = .ok (.getfield 7, 3) := by decide +kernel
theorem dX8_leastBreath_38 : decode cX8_leastBreath 38 = .ok (.iconst 4, 1) := by decide +kernel
theorem dX8_leastBreath_39 : decode cX8_leastBreath 39 = .ok (.iload_n 2, 1) := by decide +kernel
theorem dX8_leastBreath_40 : decode cX8_leastBreath 40 = .ok (.iastore, 1) := by decide +kernel
theorem dX8_leastBreath_41 : decode cX8_leastBreath 41 = .ok (.aload_n 0, 1) := by decide +kernel
theorem dX8_leastBreath_42 : decode cX8_leastBreath 42 = .ok (.invokevirtual 144, 3) := by decide +kernel
theorem dX8_leastBreath_45 : decode cX8_leastBreath 45 = .ok (.ifCond .eq 18, 3) := by decide +kernel
theorem dX8_leastBreath_48 : decode cX8_leastBreath 48 = .ok (.aload_n 0, 1) := by decide +kernel
theorem dX8_leastBreath_49 : decode cX8_leastBreath 49 = .ok (.getfield 7, 3) := by decide +kernel
theorem dX8_leastBreath_52 : decode cX8_leastBreath 52 = .ok (.sipush 185, 3) := by decide +kernel
theorem dX8_leastBreath_55 : decode cX8_leastBreath 55 = .ok (.iaload, 1) := by decide +kernel
theorem dX8_leastBreath_56 : decode cX8_leastBreath 56 = .ok (.ifCond .ne 7, 3) := by decide +kernel
theorem dX8_leastBreath_59 : decode cX8_leastBreath 59 = .ok (.iload_n 2, 1) := by decide +kernel
theorem dX8_leastBreath_60 : decode cX8_leastBreath 60 = .ok (.goto 4, 3) := by decide +kernel
theorem dX8_leastBreath_63 : decode cX8_leastBreath 63 = .ok (.iload_n 1, 1) := by decide +kernel
theorem dX8_leastBreath_64 : decode cX8_leastBreath 64 = .ok (.istore_n 1, 1) := by decide +kernel
theorem dX8_leastBreath_65 : decode cX8_leastBreath 65 = .ok (.iinc 2 (-1), 3) := by decide +kernel
theorem dX8_leastBreath_68 : decode cX8_leastBreath 68 = .ok (.goto (-39), 3) := by decide +kernel
theorem dX8_leastBreath_71 : decode cX8_leastBreath 71 = .ok (.aload_n 0, 1) := by decide +kernel
theorem dX8_leastBreath_72 : decode cX8_leastBreath 72 = .ok (.getfield 13, 3) := by decide +kernel
theorem dX8_leastBreath_75 : decode cX8_leastBreath 75 = .ok (.iconst 0, 1) := by decide +kernel
theorem dX8_leastBreath_76 : decode cX8_leastBreath 76 = .ok (.aload_n 0, 1) := by decide +kernel
theorem dX8_leastBreath_77 : decode cX8_leastBreath 77 = .ok (.getfield 7, 3) := by decide +kernel
theorem dX8_leastBreath_80 : decode cX8_leastBreath 80 = .ok (.iconst 0, 1) := by decide +kernel
theorem dX8_leastBreath_81 : decode cX8_leastBreath 81 = .ok (.invokestatic 46, 3) := by decide +kernel
theorem dX8_leastBreath_84 : decode cX8_leastBreath 84 = .ok (.iload_n 1, 1) := by decide +kernel
theorem dX8_leastBreath_85 : decode cX8_leastBreath 85 = .ok (.ireturn, 1) := by decide +kernel
theorem dX8_bestPause_0 : decode cX8_bestPause 0 = .ok (.aload_n 0, 1) := by decide +kernel
theorem dX8_bestPause_1 : decode cX8_bestPause 1 = .ok (.invokevirtual 84, 3) := by decide +kernel
theorem dX8_bestPause_4 : decode cX8_bestPause 4 = .ok (.ifCond .ne 6, 3) := by decide +kernel
theorem dX8_bestPause_7 : decode cX8_bestPause 7 = .ok (.bipush (-5), 2) := by decide +kernel
theorem dX8_bestPause_9 : decode cX8_bestPause 9 = .ok (.ireturn, 1) := by decide +kernel
theorem dX8_bestPause_10 : decode cX8_bestPause 10 = .ok (.aload_n 0, 1) := by decide +kernel
theorem dX8_bestPause_11 : decode cX8_bestPause 11 = .ok (.getfield 7, 3) := by decide +kernel
theorem dX8_bestPause_14 : decode cX8_bestPause 14 = .ok (.iconst 0, 1) := by decide +kernel
theorem dX8_bestPause_15 : decode cX8_bestPause 15 = .ok (.aload_n 0, 1) := by decide +kernel
theorem dX8_bestPause_16 : decode cX8_bestPause 16 = .ok (.getfield 13, 3) := by decide +kernel
theorem dX8_bestPause_19 : decode cX8_bestPause 19 = .ok (.iconst 0, 1) := by decide +kernel
theorem dX8_bestPause_20 : decode cX8_bestPause 20 = .ok (.invokestatic 46, 3) := by decide +kernel
theorem dX8_bestPause_23 : decode cX8_bestPause 23 = .ok (.bipush (-6), 2) := by decide +kernel
theorem dX8_bestPause_25 : decode cX8_bestPause 25 = .ok (.istore_n 1, 1) := by decide +kernel
theorem dX8_bestPause_26 : decode cX8_bestPause 26 = .ok (.sipush 5001, 3) := by decide +kernel
theorem dX8_bestPause_29 : decode cX8_bestPause 29 = .ok (.istore_n 2, 1) := by decide +kernel
theorem dX8_bestPause_30 : decode cX8_bestPause 30 = .ok (.iconst 0, 1) := by decide +kernel
theorem dX8_bestPause_31 : decode cX8_bestPause 31 = .ok (.istore_n 3, 1) := by decide +kernel
theorem dX8_bestPause_32 : decode cX8_bestPause 32 = .ok (.iload_n 3, 1) := by decide +kernel
theorem dX8_bestPause_33 : decode cX8_bestPause 33 = .ok (.bipush 10, 2) := by decide +kernel
theorem dX8_bestPause_35 : decode cX8_bestPause 35 = .ok (.if_icmp .ge 71, 3) := by decide +kernel
theorem dX8_bestPause_38 : decode cX8_bestPause 38 = .ok (.aload_n 0, 1) := by decide +kernel
theorem dX8_bestPause_39 : decode cX8_bestPause 39 = .ok (.getfield 7, 3) := by decide +kernel
theorem dX8_bestPause_42 : decode cX8_bestPause 42 = .ok (.iconst 1, 1) := by decide +kernel
theorem dX8_bestPause_43 : decode cX8_bestPause 43 = .ok (.iload_n 3, 1) := by decide +kernel
theorem dX8_bestPause_44 : decode cX8_bestPause 44 = .ok (.iastore, 1) := by decide +kernel
theorem dX8_bestPause_45 : decode cX8_bestPause 45 = .ok (.aload_n 0, 1) := by decide +kernel
theorem dX8_bestPause_46 : decode cX8_bestPause 46 = .ok (.invokevirtual 144, 3) := by decide +kernel
theorem dX8_bestPause_49 : decode cX8_bestPause 49 = .ok (.ifCond .eq 19, 3) := by decide +kernel
theorem dX8_bestPause_52 : decode cX8_bestPause 52 = .ok (.aload_n 0, 1) := by decide +kernel
theorem dX8_bestPause_53 : decode cX8_bestPause 53 = .ok (.getfield 7, 3) := by decide +kernel
theorem dX8_bestPause_56 : decode cX8_bestPause 56 = .ok (.sipush 174, 3) := by decide +kernel
theorem dX8_bestPause_59 : decode cX8_bestPause 59 = .ok (.iaload, 1) := by decide +kernel
theorem dX8_bestPause_60 : decode cX8_bestPause 60 = .ok (.iload_n 2, 1) := by decide +kernel
theorem dX8_bestPause_61 : decode cX8_bestPause 61 = .ok (.if_icmp .ge 7, 3) := by decide +kernel
theorem dX8_bestPause_64 : decode cX8_bestPause 64 = .ok (.iconst 1, 1) := by decide +kernel
theorem dX8_bestPause_65 : decode cX8_bestPause 65 = .ok (.goto 4, 3) := by decide +kernel
theorem dX8_bestPause_68 : decode cX8_bestPause 68 = .ok (.iconst 0, 1) := by decide +kernel
theorem dX8_bestPause_69 : decode cX8_bestPause 69 = .ok (.istore 4, 2) := by decide +kernel
theorem dX8_bestPause_71 : decode cX8_bestPause 71 = .ok (.iload 4, 2) := by decide +kernel
theorem dX8_bestPause_73 : decode cX8_bestPause 73 = .ok (.ifCond .eq 7, 3) := by decide +kernel
theorem dX8_bestPause_76 : decode cX8_bestPause 76 = .ok (.iload_n 3, 1) := by decide +kernel
theorem dX8_bestPause_77 : decode cX8_bestPause 77 = .ok (.goto 4, 3) := by decide +kernel
theorem dX8_bestPause_80 : decode cX8_bestPause 80 = .ok (.iload_n 1, 1) := by decide +kernel
theorem dX8_bestPause_81 : decode cX8_bestPause 81 = .ok (.istore_n 1, 1) := by decide +kernel
theorem dX8_bestPause_82 : decode cX8_bestPause 82 = .ok (.iload 4, 2) := by decide +kernel
theorem dX8_bestPause_84 : decode cX8_bestPause 84 = .ok (.ifCond .eq 14, 3) := by decide +kernel
theorem dX8_bestPause_87 : decode cX8_bestPause 87 = .ok (.aload_n 0, 1) := by decide +kernel
theorem dX8_bestPause_88 : decode cX8_bestPause 88 = .ok (.getfield 7, 3) := by decide +kernel
theorem dX8_bestPause_91 : decode cX8_bestPause 91 = .ok (.sipush 174, 3) := by decide +kernel
theorem dX8_bestPause_94 : decode cX8_bestPause 94 = .ok (.iaload, 1) := by decide +kernel
theorem dX8_bestPause_95 : decode cX8_bestPause 95 = .ok (.goto 4, 3) := by decide +kernel
theorem dX8_bestPause_98 : decode cX8_bestPause 98 = .ok (.iload_n 2, 1) := by decide +kernel
theorem dX8_bestPause_99 : decode cX8_bestPause 99 = .ok (.istore_n 2, 1) := by decide +kernel
theorem dX8_bestPause_100 : decode cX8_bestPause 100 = .ok (.iinc 3 1, 3) := by decide +kernel
theorem dX8_bestPause_103 : decode cX8_bestPause 103 = .ok (.goto (-71), 3) := by decide +kernel
theorem dX8_bestPause_106 : decode cX8_bestPause 106 = .ok (.aload_n 0, 1) := by decide +kernel
theorem dX8_bestPause_107 : decode cX8_bestPause 107 = .ok (.getfield 13, 3) := by decide +kernel
theorem dX8_bestPause_110 : decode cX8_bestPause 110 = .ok (.iconst 0, 1) := by decide +kernel
theorem dX8_bestPause_111 : decode cX8_bestPause 111 = .ok (.aload_n 0, 1) := by decide +kernel
theorem dX8_bestPause_112 : decode cX8_bestPause 112 = .ok (.getfield 7, 3) := by decide +kernel
theorem dX8_bestPause_115 : decode cX8_bestPause 115 = .ok (.iconst 0, 1) := by decide +kernel
theorem dX8_bestPause_116 : decode cX8_bestPause 116 = .ok (.invokestatic 46, 3) := by decide +kernel
theorem dX8_bestPause_119 : decode cX8_bestPause 119 = .ok (.iload_n 1, 1) := by decide +kernel
theorem dX8_bestPause_120 : decode cX8_bestPause 120 = .ok (.ireturn, 1) := by decide +kernel
theorem dJ9_floorMod_7cf53_0 : decode cJ9_floorMod_7cf53 0 = .ok (.iload_n 0, 1) := by decide +kernel
theorem dJ9_floorMod_7cf53_1 : decode cJ9_floorMod_7cf53 1 = .ok (.iload_n 1, 1) := by decide +kernel
theorem dJ9_floorMod_7cf53_2 : decode cJ9_floorMod_7cf53 2 = .ok (.irem, 1) := by decide +kernel
theorem dJ9_floorMod_7cf53_3 : decode cJ9_floorMod_7cf53 3 = .ok (.istore_n 2, 1) := by decide +kernel
theorem dJ9_floorMod_7cf53_4 : decode cJ9_floorMod_7cf53 4 = .ok (.iload_n 0, 1) := by decide +kernel
theorem dJ9_floorMod_7cf53_5 : decode cJ9_floorMod_7cf53 5 = .ok (.iload_n 1, 1) := by decide +kernel
theorem dJ9_floorMod_7cf53_6 : decode cJ9_floorMod_7cf53 6 = .ok (.ixor, 1) := by decide +kernel
theorem dJ9_floorMod_7cf53_7 : decode cJ9_floorMod_7cf53 7 = .ok (.ifCond .ge 11, 3) := by decide +kernel
theorem dJ9_floorMod_7cf53_10 : decode cJ9_floorMod_7cf53 10 = .ok (.iload_n 2, 1) := by decide +kernel
theorem dJ9_floorMod_7cf53_11 : decode cJ9_floorMod_7cf53 11 = .ok (.ifCond .eq 7, 3) := by decide +kernel
theorem dJ9_floorMod_7cf53_14 : decode cJ9_floorMod_7cf53 14 = .ok (.iload_n 2, 1) := by decide +kernel
theorem dJ9_floorMod_7cf53_15 : decode cJ9_floorMod_7cf53 15 = .ok (.iload_n 1, 1) := by decide +kernel
theorem dJ9_floorMod_7cf53_16 : decode cJ9_floorMod_7cf53 16 = .ok (.iadd, 1) := by decide +kernel
theorem dJ9_floorMod_7cf53_17 : decode cJ9_floorMod_7cf53 17 = .ok (.ireturn, 1) := by decide +kernel
theorem dJ9_floorMod_7cf53_18 : decode cJ9_floorMod_7cf53 18 = .ok (.iload_n 2, 1) := by decide +kernel
theorem dJ9_floorMod_7cf53_19 : decode cJ9_floorMod_7cf53 19 = .ok (.ireturn, 1) := by decide +kernel
theorem dJ9_max_7cf53_0 : decode cJ9_max_7cf53 0 = .ok (.iload_n 0, 1) := by decide +kernel
theorem dJ9_max_7cf53_1 : decode cJ9_max_7cf53 1 = .ok (.iload_n 1, 1) := by decide +kernel
theorem dJ9_max_7cf53_2 : decode cJ9_max_7cf53 2 = .ok (.if_icmp .lt 7, 3) := by decide +kernel
theorem dJ9_max_7cf53_5 : decode cJ9_max_7cf53 5 = .ok (.iload_n 0, 1) := by decide +kernel
theorem dJ9_max_7cf53_6 : decode cJ9_max_7cf53 6 = .ok (.goto 4, 3) := by decide +kernel
theorem dJ9_max_7cf53_9 : decode cJ9_max_7cf53 9 = .ok (.iload_n 1, 1) := by decide +kernel
theorem dJ9_max_7cf53_10 : decode cJ9_max_7cf53 10 = .ok (.ireturn, 1) := by decide +kernel
theorem dJ9_min_7cf53_0 : decode cJ9_min_7cf53 0 = .ok (.iload_n 0, 1) := by decide +kernel
theorem dJ9_min_7cf53_1 : decode cJ9_min_7cf53 1 = .ok (.iload_n 1, 1) := by decide +kernel
theorem dJ9_min_7cf53_2 : decode cJ9_min_7cf53 2 = .ok (.if_icmp .gt 7, 3) := by decide +kernel
theorem dJ9_min_7cf53_5 : decode cJ9_min_7cf53 5 = .ok (.iload_n 0, 1) := by decide +kernel
theorem dJ9_min_7cf53_6 : decode cJ9_min_7cf53 6 = .ok (.goto 4, 3) := by decide +kernel
theorem dJ9_min_7cf53_9 : decode cJ9_min_7cf53 9 = .ok (.iload_n 1, 1) := by decide +kernel
theorem dJ9_min_7cf53_10 : decode cJ9_min_7cf53 10 = .ok (.ireturn, 1) := by decide +kernel
