theorem dX0_init_0 : decode cX0_init 0 = .ok (.aload_n 0, 1) := by decide +kernel
theorem dX0_init_1 : decode cX0_init 1 = .ok (.invokespecial 3, 3) := by decide +kernel
theorem dX0_init_4 : decode cX0_init 4 = .ok (.aload_n 0, 1) := by decide +kernel
theorem dX0_init_5 : decode cX0_init 5 = .ok (.iconst 0, 1) := by decide +kernel
theorem dX0_init_6 : decode cX0_init 6 = .ok (.putfield 9, 3) := by decide +kernel
theorem dX0_init_9 : decode cX0_init 9 = .ok (.aload_n 0, 1) := by decide +kernel
theorem dX0_init_10 : decode cX0_init 10 = .ok (.bipush 8, 2) := by decide +kernel
theorem dX0_init_12 : decode cX0_init 12 = .ok (.newarray .int, 2) := by decide +kernel
theorem dX0_init_14 : decode cX0_init 14 = .ok (.putfield 15, 3) := by decide +kernel
theorem dX0_init_17 : decode cX0_init 17 = .ok (.aload_n 0, 1) := by decide +kernel
theorem dX0_init_18 : decode cX0_init 18 = .ok (.bipush 8, 2) := by decide +kernel
theorem dX0_init_20 : decode cX0_init 20 = .ok (.newarray .int, 2) := by decide +kernel
theorem dX0_init_22 : decode cX0_init 22 = .ok (.putfield 19, 3) := by decide +kernel
theorem dX0_init_25 : decode cX0_init 25 = .ok (.aload_n 0, 1) := by decide +kernel
theorem dX0_init_26 : decode cX0_init 26 = .ok (.bipush 8, 2) := by decide +kernel
theorem dX0_init_28 : decode cX0_init 28 = .ok (.newarray .int, 2) := by decide +kernel
theorem dX0_init_30 : decode cX0_init 30 = .ok (.putfield 22, 3) := by decide +kernel
theorem dX0_init_33 : decode cX0_init 33 = .ok (.aload_n 0, 1) := by decide +kernel
theorem dX0_init_34 : decode cX0_init 34 = .ok (.bipush 8, 2) := by decide +kernel
theorem dX0_init_36 : decode cX0_init 36 = .ok (.newarray .int, 2) := by decide +kernel
theorem dX0_init_38 : decode cX0_init 38 = .ok (.putfield 25, 3) := by decide +kernel
theorem dX0_init_41 : decode cX0_init 41 = .ok (.aload_n 0, 1) := by decide +kernel
theorem dX0_init_42 : decode cX0_init 42 = .ok (.iconst 0, 1) := by decide +kernel
theorem dX0_init_43 : decode cX0_init 43 = .ok (.putfield 28, 3) := by decide +kernel
theorem dX0_init_46 : decode cX0_init 46 = .ok (.aload_n 0, 1) := by decide +kernel
theorem dX0_init_47 : decode cX0_init 47 = .ok (.bipush 6, 2) := by decide +kernel
theorem dX0_init_49 : decode cX0_init 49 = .ok (.newarray .int, 2) := by decide +kernel
theorem dX0_init_51 : decode cX0_init 51 = .ok (.putfield 31, 3) := by decide +kernel
theorem dX0_init_54 : decode cX0_init 54 = .ok (.aload_n 0, 1) := by decide +kernel
theorem dX0_init_55 : decode cX0_init 55 = .ok (.bipush 6, 2) := by decide +kernel
theorem dX0_init_57 : decode cX0_init 57 = .ok (.newarray .int, 2) := by decide +kernel
theorem dX0_init_59 : decode cX0_init 59 = .ok (.putfield 34, 3) := by decide +kernel
theorem dX0_init_62 : decode cX0_init 62 = .ok (.aload_n 0, 1) := by decide +kernel
theorem dX0_init_63 : decode cX0_init 63 = .ok (.bipush 6, 2) := by decide +kernel
theorem dX0_init_65 : decode cX0_init 65 = .ok (.newarray .int, 2) := by decide +kernel
theorem dX0_init_67 : decode cX0_init 67 = .ok (.putfield 37, 3) := by decide +kernel
theorem dX0_init_70 : decode cX0_init 70 = .ok (.aload_n 0, 1) := by decide +kernel
theorem dX0_init_71 : decode cX0_init 71 = .ok (.bipush 6, 2) := by decide +kernel
theorem dX0_init_73 : decode cX0_init 73 = .ok (.newarray .int, 2) := by decide +kernel
theorem dX0_init_75 : decode cX0_init 75 = .ok (.putfield 40, 3) := by decide +kernel
theorem dX0_init_78 : decode cX0_init 78 = .ok (.aload_n 0, 1) := by decide +kernel
theorem dX0_init_79 : decode cX0_init 79 = .ok (.bipush 6, 2) := by decide +kernel
theorem dX0_init_81 : decode cX0_init 81 = .ok (.newarray .int, 2) := by decide +kernel
theorem dX0_init_83 : decode cX0_init 83 = .ok (.putfield 43, 3) := by decide +kernel
theorem dX0_init_86 : decode cX0_init 86 = .ok (.aload_n 0, 1) := by decide +kernel
theorem dX0_init_87 : decode cX0_init 87 = .ok (.bipush 72, 2) := by decide +kernel
theorem dX0_init_89 : decode cX0_init 89 = .ok (.newarray .int, 2) := by decide +kernel
theorem dX0_init_91 : decode cX0_init 91 = .ok (.putfield 46, 3) := by decide +kernel
theorem dX0_init_94 : decode cX0_init 94 = .ok (.aload_n 0, 1) := by decide +kernel
theorem dX0_init_95 : decode cX0_init 95 = .ok (.iconst 5, 1) := by decide +kernel
theorem dX0_init_96 : decode cX0_init 96 = .ok (.putfield 49, 3) := by decide +kernel
theorem dX0_init_99 : decode cX0_init 99 = .ok (.aload_n 0, 1) := by decide +kernel
theorem dX0_init_100 : decode cX0_init 100 = .ok (.iconst 0, 1) := by decide +kernel
theorem dX0_init_101 : decode cX0_init 101 = .ok (.putfield 52, 3) := by decide +kernel
theorem dX0_init_104 : decode cX0_init 104 = .ok (.aload_n 0, 1) := by decide +kernel
theorem dX0_init_105 : decode cX0_init 105 = .ok (.sipush 360, 3) := by decide +kernel
theorem dX0_init_108 : decode cX0_init 108 = .ok (.newarray .int, 2) := by decide +kernel
theorem dX0_init_110 : decode cX0_init 110 = .ok (.putfield 55, 3) := by decide +kernel
theorem dX0_init_113 : decode cX0_init 113 = .ok (.aload_n 0, 1) := by decide +kernel
theorem dX0_init_114 : decode cX0_init 114 = .ok (.iconst 0, 1) := by decide +kernel
theorem dX0_init_115 : decode cX0_init 115 = .ok (.putfield 58, 3) := by decide +kernel
theorem dX0_init_118 : decode cX0_init 118 = .ok (.aload_n 0, 1) := by decide +kernel
theorem dX0_init_119 : decode cX0_init 119 = .ok (.iconst (-1), 1) := by decide +kernel
theorem dX0_init_120 : decode cX0_init 120 = .ok (.putfield 61, 3) := by decide +kernel
theorem dX0_init_123 : decode cX0_init 123 = .ok (.return_, 1) := by decide +kernel
theorem dX0_isHouse_0 : decode cX0_isHouse 0 = .ok (.iload_n 1, 1) := by decide +kernel
theorem dX0_isHouse_1 : decode cX0_isHouse 1 = .ok (.ifCond .lt 15, 3) := by decide +kernel
theorem dX0_isHouse_4 : decode cX0_isHouse 4 = .ok (.iload_n 1, 1) := by decide +kernel
theorem dX0_isHouse_5 : decode cX0_isHouse 5 = .ok (.aload_n 0, 1) := by decide +kernel
theorem dX0_isHouse_6 : decode cX0_isHouse 6 = .ok (.getfield 9, 3) := by decide +kernel
theorem dX0_isHouse_9 : decode cX0_isHouse 9 = .ok (.if_icmp .ge 7, 3) := by decide +kernel
theorem dX0_isHouse_12 : decode cX0_isHouse 12 = .ok (.iconst 1, 1) := by decide +kernel
theorem dX0_isHouse_13 : decode cX0_isHouse 13 = .ok (.goto 4, 3) := by decide +kernel
theorem dX0_isHouse_16 : decode cX0_isHouse 16 = .ok (.iconst 0, 1) := by decide +kernel
theorem dX0_isHouse_17 : decode cX0_isHouse 17 = .ok (.ireturn, 1) := by decide +kernel
theorem dX0_isCandle_0 : decode cX0_isCandle 0 = .ok (.iload_n 1, 1) := by decide +kernel
theorem dX0_isCandle_1 : decode cX0_isCandle 1 = .ok (.ifCond .lt 15, 3) := by decide +kernel
theorem dX0_isCandle_4 : decode cX0_isCandle 4 = .ok (.iload_n 1, 1) := by decide +kernel
theorem dX0_isCandle_5 : decode cX0_isCandle 5 = .ok (.aload_n 0, 1) := by decide +kernel
theorem dX0_isCandle_6 : decode cX0_isCandle 6 = .ok (.getfield 28, 3) := by decide +kernel
theorem dX0_isCandle_9 : decode cX0_isCandle 9 = .ok (.if_icmp .ge 7, 3) := by decide +kernel
theorem dX0_isCandle_12 : decode cX0_isCandle 12 = .ok (.iconst 1, 1) := by decide +kernel
theorem dX0_isCandle_13 : decode cX0_isCandle 13 = .ok (.goto 4, 3) := by decide +kernel
theorem dX0_isCandle_16 : decode cX0_isCandle 16 = .ok (.iconst 0, 1) := by decide +kernel
theorem dX0_isCandle_17 : decode cX0_isCandle 17 = .ok (.ireturn, 1) := by decide +kernel
theorem dX0_isInch_0 : decode cX0_isInch 0 = .ok (.aload_n 0, 1) := by decide +kernel
theorem dX0_isInch_1 : decode cX0_isInch 1 = .ok (.iload_n 1, 1) := by decide +kernel
theorem dX0_isInch_2 : decode cX0_isInch 2 = .ok (.invokevirtual 64, 3) := by decide +kernel
theorem dX0_isInch_5 : decode cX0_isInch 5 = .ok (.ifCond .eq 21, 3) := by decide +kernel
theorem dX0_isInch_8 : decode cX0_isInch 8 = .ok (.iload_n 2, 1) := by decide +kernel
theorem dX0_isInch_9 : decode cX0_isInch 9 = .ok (.ifCond .lt 17, 3) := by decide +kernel
theorem dX0_isInch_12 : decode cX0_isInch 12 = .ok (.iload_n 2, 1) := by decide +kernel
theorem dX0_isInch_13 : decode cX0_isInch 13 = .ok (.aload_n 0, 1) := by decide +kernel
theorem dX0_isInch_14 : decode cX0_isInch 14 = .ok (.getfield 34, 3) := by decide +kernel
theorem dX0_isInch_17 : decode cX0_isInch 17 = .ok (.iload_n 1, 1) := by decide +kernel
theorem dX0_isInch_18 : decode cX0_isInch 18 = .ok (.iaload, 1) := by decide +kernel
theorem dX0_isInch_19 : decode cX0_isInch 19 = .ok (.if_icmp .ge 7, 3) := by decide +kernel
theorem dX0_isInch_22 : decode cX0_isInch 22 = .ok (.iconst 1, 1) := by decide +kernel
theorem dX0_isInch_23 : decode cX0_isInch 23 = .ok (.goto 4, 3) := by decide +kernel
theorem dX0_isInch_26 : decode cX0_isInch 26 = .ok (.iconst 0, 1) := by decide +kernel
theorem dX0_isInch_27 : decode cX0_isInch 27 = .ok (.ireturn, 1) := by decide +kernel
theorem dX0_isText_0 : decode cX0_isText 0 = .ok (.iload_n 1, 1) := by decide +kernel
theorem dX0_isText_1 : decode cX0_isText 1 = .ok (.ifCond .lt 15, 3) := by decide +kernel
theorem dX0_isText_4 : decode cX0_isText 4 = .ok (.iload_n 1, 1) := by decide +kernel
theorem dX0_isText_5 : decode cX0_isText 5 = .ok (.aload_n 0, 1) := by decide +kernel
theorem dX0_isText_6 : decode cX0_isText 6 = .ok (.getfield 58, 3) := by decide +kernel
theorem dX0_isText_9 : decode cX0_isText 9 = .ok (.if_icmp .ge 7, 3) := by decide +kernel
theorem dX0_isText_12 : decode cX0_isText 12 = .ok (.iconst 1, 1) := by decide +kernel
theorem dX0_isText_13 : decode cX0_isText 13 = .ok (.goto 4, 3) := by decide +kernel
theorem dX0_isText_16 : decode cX0_isText 16 = .ok (.iconst 0, 1) := by decide +kernel
theorem dX0_isText_17 : decode cX0_isText 17 = .ok (.ireturn, 1) := by decide +kernel
theorem dX0_isSet_0 : decode cX0_isSet 0 = .ok (.iload_n 1, 1) := by decide +kernel
theorem dX0_isSet_1 : decode cX0_isSet 1 = .ok (.ifCond .lt 17, 3) := by decide +kernel
theorem dX0_isSet_4 : decode cX0_isSet 4 = .ok (.iload_n 1, 1) := by decide +kernel
theorem dX0_isSet_5 : decode cX0_isSet 5 = .ok (.iconst 1, 1) := by decide +kernel
theorem dX0_isSet_6 : decode cX0_isSet 6 = .ok (.aload_n 0, 1) := by decide +kernel
theorem dX0_isSet_7 : decode cX0_isSet 7 = .ok (.getfield 9, 3) := by decide +kernel
theorem dX0_isSet_10 : decode cX0_isSet 10 = .ok (.ishl, 1) := by decide +kernel
theorem dX0_isSet_11 : decode cX0_isSet 11 = .ok (.if_icmp .ge 7, 3) := by decide +kernel
theorem dX0_isSet_14 : decode cX0_isSet 14 = .ok (.iconst 1, 1) := by decide +kernel
theorem dX0_isSet_15 : decode cX0_isSet 15 = .ok (.goto 4, 3) := by decide +kernel
theorem dX0_isSet_18 : decode cX0_isSet 18 = .ok (.iconst 0, 1) := by decide +kernel
theorem dX0_isSet_19 : decode cX0_isSet 19 = .ok (.ireturn, 1) := by decide +kernel
theorem dX0_addHouse_0 : decode cX0_addHouse 0 = .ok (.aload_n 0, 1) := by decide +kernel
theorem dX0_addHouse_1 : decode cX0_addHouse 1 = .ok (.getfield 9, 3) := by decide +kernel
theorem dX0_addHouse_4 : decode cX0_addHouse 4 = .ok (.bipush 8, 2) := by decide +kernel
theorem dX0_addHouse_6 : decode cX0_addHouse 6 = .ok (.if_icmp .lt 5, 3) := by decide +kernel
theorem dX0_addHouse_9 : decode cX0_addHouse 9 = .ok (.iconst (-1), 1) := by decide +kernel
theorem dX0_addHouse_10 : decode cX0_addHouse 10 = .ok (.ireturn, 1) := by decide +kernel
theorem dX0_addHouse_11 : decode cX0_addHouse 11 = .ok (.aload_n 0, 1) := by decide +kernel
theorem dX0_addHouse_12 : decode cX0_addHouse 12 = .ok (.getfield 15, 3) := by decide +kernel
theorem dX0_addHouse_15 : decode cX0_addHouse 15 = .ok (.aload_n 0, 1) := by decide +kernel
theorem dX0_addHouse_16 : decode cX0_addHouse 16 = .ok (.getfield 9, 3) := by decide +kernel
theorem dX0_addHouse_19 : decode cX0_addHouse 19 = .ok (.iload_n 1, 1) := by decide +kernel
theorem dX0_addHouse_20 : decode cX0_addHouse 20 = .ok (.iastore, 1) := by decide +kernel
theorem dX0_addHouse_21 : decode cX0_addHouse 21 = .ok (.aload_n 0, 1) := by decide +kernel
theorem dX0_addHouse_22 : decode cX0_addHouse 22 = .ok (.getfield 19, 3) := by decide +kernel
theorem dX0_addHouse_25 : decode cX0_addHouse 25 = .ok (.aload_n 0, 1) := by decide +kernel
theorem dX0_addHouse_26 : decode cX0_addHouse 26 = .ok (.getfield 9, 3) := by decide +kernel
theorem dX0_addHouse_29 : decode cX0_addHouse 29 = .ok (.iload_n 2, 1) := by decide +kernel
theorem dX0_addHouse_30 : decode cX0_addHouse 30 = .ok (.iastore, 1) := by decide +kernel
theorem dX0_addHouse_31 : decode cX0_addHouse 31 = .ok (.aload_n 0, 1) := by decide +kernel
theorem dX0_addHouse_32 : decode cX0_addHouse 32 = .ok (.getfield 22, 3) := by decide +kernel
theorem dX0_addHouse_35 : decode cX0_addHouse 35 = .ok (.aload_n 0, 1) := by decide +kernel
theorem dX0_addHouse_36 : decode cX0_addHouse 36 = .ok (.getfield 9, 3) := by decide +kernel
theorem dX0_addHouse_39 : decode cX0_addHouse 39 = .ok (.iconst 0, 1) := by decide +kernel
theorem dX0_addHouse_40 : decode cX0_addHouse 40 = .ok (.iastore, 1) := by decide +kernel
theorem dX0_addHouse_41 : decode cX0_addHouse 41 = .ok (.aload_n 0, 1) := by decide +kernel
theorem dX0_addHouse_42 : decode cX0_addHouse 42 = .ok (.getfield 25, 3) := by decide +kernel
theorem dX0_addHouse_45 : decode cX0_addHouse 45 = .ok (.aload_n 0, 1) := by decide +kernel
theorem dX0_addHouse_46 : decode cX0_addHouse 46 = .ok (.getfield 9, 3) := by decide +kernel
theorem dX0_addHouse_49 : decode cX0_addHouse 49 = .ok (.iconst 0, 1) := by decide +kernel
theorem dX0_addHouse_50 : decode cX0_addHouse 50 = .ok (.iastore, 1) := by decide +kernel
theorem dX0_addHouse_51 : decode cX0_addHouse 51 = .ok (.aload_n 0, 1) := by decide +kernel
theorem dX0_addHouse_52 : decode cX0_addHouse 52 = .ok (.dup, 1) := by decide +kernel
theorem dX0_addHouse_53 : decode cX0_addHouse 53 = .ok (.getfield 9, 3) := by decide +kernel
theorem dX0_addHouse_56 : decode cX0_addHouse 56 = .ok (.iconst 1, 1) := by decide +kernel
theorem dX0_addHouse_57 : decode cX0_addHouse 57 = .ok (.iadd, 1) := by decide +kernel
theorem dX0_addHouse_58 : decode cX0_addHouse 58 = .ok (.putfield 9, 3) := by decide +kernel
theorem dX0_addHouse_61 : decode cX0_addHouse 61 = .ok (.aload_n 0, 1) := by decide +kernel
theorem dX0_addHouse_62 : decode cX0_addHouse 62 = .ok (.getfield 9, 3) := by decide +kernel
theorem dX0_addHouse_65 : decode cX0_addHouse 65 = .ok (.iconst 1, 1) := by decide +kernel
theorem dX0_addHouse_66 : decode cX0_addHouse 66 = .ok (.isub, 1) := by decide +kernel
theorem dX0_addHouse_67 : decode cX0_addHouse 67 = .ok (.ireturn, 1) := by decide +kernel
theorem dX0_addCandle_0 : decode cX0_addCandle 0 = .ok (.aload_n 0, 1) := by decide +kernel
theorem dX0_addCandle_1 : decode cX0_addCandle 1 = .ok (.getfield 28, 3) := by decide +kernel
theorem dX0_addCandle_4 : decode cX0_addCandle 4 = .ok (.bipush 6, 2) := by decide +kernel
theorem dX0_addCandle_6 : decode cX0_addCandle 6 = .ok (.if_icmp .lt 5, 3) := by decide +kernel
theorem dX0_addCandle_9 : decode cX0_addCandle 9 = .ok (.iconst (-1), 1) := by decide +kernel
theorem dX0_addCandle_10 : decode cX0_addCandle 10 = .ok (.ireturn, 1) := by decide +kernel
theorem dX0_addCandle_11 : decode cX0_addCandle 11 = .ok (.aload_n 0, 1) := by decide +kernel
theorem dX0_addCandle_12 : decode cX0_addCandle 12 = .ok (.getfield 31, 3) := by decide +kernel
theorem dX0_addCandle_15 : decode cX0_addCandle 15 = .ok (.aload_n 0, 1) := by decide +kernel
theorem dX0_addCandle_16 : decode cX0_addCandle 16 = .ok (.getfield 28, 3) := by decide +kernel
theorem dX0_addCandle_19 : decode cX0_addCandle 19 = .ok (.iload_n 1, 1) := by decide +kernel
theorem dX0_addCandle_20 : decode cX0_addCandle 20 = .ok (.iastore, 1) := by decide +kernel
theorem dX0_addCandle_21 : decode cX0_addCandle 21 = .ok (.aload_n 0, 1) := by decide +kernel
theorem dX0_addCandle_22 : decode cX0_addCandle 22 = .ok (.getfield 34, 3) := by decide +kernel
theorem dX0_addCandle_25 : decode cX0_addCandle 25 = .ok (.aload_n 0, 1) := by decide +kernel
theorem dX0_addCandle_26 : decode cX0_addCandle 26 = .ok (.getfield 28, 3) := by decide +kernel
theorem dX0_addCandle_29 : decode cX0_addCandle 29 = .ok (.iload_n 2, 1) := by decide +kernel
theorem dX0_addCandle_30 : decode cX0_addCandle 30 = .ok (.iastore, 1) := by decide +kernel
theorem dX0_addCandle_31 : decode cX0_addCandle 31 = .ok (.aload_n 0, 1) := by decide +kernel
theorem dX0_addCandle_32 : decode cX0_addCandle 32 = .ok (.getfield 37, 3) := by decide +kernel
theorem dX0_addCandle_35 : decode cX0_addCandle 35 = .ok (.aload_n 0, 1) := by decide +kernel
theorem dX0_addCandle_36 : decode cX0_addCandle 36 = .ok (.getfield 28, 3) := by decide +kernel
theorem dX0_addCandle_39 : decode cX0_addCandle 39 = .ok (.iconst 0, 1) := by decide +kernel
theorem dX0_addCandle_40 : decode cX0_addCandle 40 = .ok (.iastore, 1) := by decide +kernel
theorem dX0_addCandle_41 : decode cX0_addCandle 41 = .ok (.aload_n 0, 1) := by decide +kernel
theorem dX0_addCandle_42 : decode cX0_addCandle 42 = .ok (.getfield 40, 3) := by decide +kernel
theorem dX0_addCandle_45 : decode cX0_addCandle 45 = .ok (.aload_n 0, 1) := by decide +kernel
theorem dX0_addCandle_46 : decode cX0_addCandle 46 = .ok (.getfield 28, 3) := by decide +kernel
theorem dX0_addCandle_49 : decode cX0_addCandle 49 = .ok (.iconst (-1), 1) := by decide +kernel
theorem dX0_addCandle_50 : decode cX0_addCandle 50 = .ok (.iastore, 1) := by decide +kernel
theorem dX0_addCandle_51 : decode cX0_addCandle 51 = .ok (.aload_n 0, 1) := by decide +kernel
theorem dX0_addCandle_52 : decode cX0_addCandle 52 = .ok (.getfield 43, 3) := by decide +kernel
theorem dX0_addCandle_55 : decode cX0_addCandle 55 = .ok (.aload_n 0, 1) := by decide +kernel
theorem dX0_addCandle_56 : decode cX0_addCandle 56 = .ok (.getfield 28, 3) := by decide +kernel
theorem dX0_addCandle_59 : decode cX0_addCandle 59 = .ok (.iconst 0, 1) := by decide +kernel
theorem dX0_addCandle_60 : decode cX0_addCandle 60 = .ok (.iastore, 1) := by decide +kernel
theorem dX0_addCandle_61 : decode cX0_addCandle 61 = .ok (.iconst 0, 1) := by decide +kernel
theorem dX0_addCandle_62 : decode cX0_addCandle 62 = .ok (.istore_n 3, 1) := by decide +kernel
theorem dX0_addCandle_63 : decode cX0_addCandle 63 = .ok (.iload_n 3, 1) := by decide +kernel
theorem dX0_addCandle_64 : decode cX0_addCandle 64 = .ok (.bipush 12, 2) := by decide +kernel
theorem dX0_addCandle_66 : decode cX0_addCandle 66 = .ok (.if_icmp .ge 24, 3) := by decide +kernel
theorem dX0_addCandle_69 : decode cX0_addCandle 69 = .ok (.aload_n 0, 1) := by decide +kernel
theorem dX0_addCandle_70 : decode cX0_addCandle 70 = .ok (.getfield 46, 3) := by decide +kernel
theorem dX0_addCandle_73 : decode cX0_addCandle 73 = .ok (.aload_n 0, 1) := by decide +kernel
theorem dX0_addCandle_74 : decode cX0_addCandle 74 = .ok (.getfield 28, 3) := by decide +kernel
theorem dX0_addCandle_77 : decode cX0_addCandle 77 = .ok (.bipush 12, 2) := by decide +kernel
theorem dX0_addCandle_79 : decode cX0_addCandle 79 = .ok (.imul, 1) := by decide +kernel
theorem dX0_addCandle_80 : decode cX0_addCandle 80 = .ok (.iload_n 3, 1) := by decide +kernel
theorem dX0_addCandle_81 : decode cX0_addCandle 81 = .ok (.iadd, 1) := by decide +kernel
theorem dX0_addCandle_82 : decode cX0_addCandle 82 = .ok (.iconst (-1), 1) := by decide +kernel
theorem dX0_addCandle_83 : decode cX0_addCandle 83 = .ok (.iastore, 1) := by decide +kernel
theorem dX0_addCandle_84 : decode cX0_addCandle 84 = .ok (.iinc 3 1, 3) := by decide +kernel
theorem dX0_addCandle_87 : decode cX0_addCandle 87 = .ok (.goto (-24), 3) := by decide +kernel
theorem dX0_addCandle_90 : decode cX0_addCandle 90 = .ok (.aload_n 0, 1) := by decide +kernel
theorem dX0_addCandle_91 : decode cX0_addCandle 91 = .ok (.dup, 1) := by decide +kernel
theorem dX0_addCandle_92 : decode cX0_addCandle 92 = .ok (.getfield 28, 3) := by decide +kernel
theorem dX0_addCandle_95 : decode cX0_addCandle 95 = .ok (.iconst 1, 1) := by decide +kernel
theorem dX0_addCandle_96 : decode cX0_addCandle 96 = .ok (.iadd, 1) := by decide +kernel
theorem dX0_addCandle_97 : decode cX0_addCandle 97 = .ok (.putfield 28, 3) := by decide +kernel
theorem dX0_addCandle_100 : decode cX0_addCandle 100 = .ok (.aload_n 0, 1) := by decide +kernel
theorem dX0_addCandle_101 : decode cX0_addCandle 101 = .ok (.getfield 28, 3) := by decide +kernel
theorem dX0_addCandle_104 : decode cX0_addCandle 104 = .ok (.iconst 1, 1) := by decide +kernel
theorem dX0_addCandle_105 : decode cX0_addCandle 105 = .ok (.isub, 1) := by decide +kernel
theorem dX0_addCandle_106 : decode cX0_addCandle 106 = .ok (.ireturn, 1) := by decide +kernel
theorem dX0_ownerOf_0 : decode cX0_ownerOf 0 = .ok (.aload_n 0, 1) := by decide +kernel
theorem dX0_ownerOf_1 : decode cX0_ownerOf 1 = .ok (.iload_n 1, 1) := by decide +kernel
theorem dX0_ownerOf_2 : decode cX0_ownerOf 2 = .ok (.iload_n 2, 1) := by decide +kernel
theorem dX0_ownerOf_3 : decode cX0_ownerOf 3 = .ok (.invokevirtual 68, 3) := by decide +kernel
theorem dX0_ownerOf_6 : decode cX0_ownerOf 6 = .ok (.ifCond .eq 17, 3) := by decide +kernel
theorem dX0_ownerOf_9 : decode cX0_ownerOf 9 = .ok (.aload_n 0, 1) := by decide +kernel
theorem dX0_ownerOf_10 : decode cX0_ownerOf 10 = .ok (.getfield 46, 3) := by decide +kernel
theorem dX0_ownerOf_13 : decode cX0_ownerOf 13 = .ok (.iload_n 1, 1) := by decide +kernel
theorem dX0_ownerOf_14 : decode cX0_ownerOf 14 = .ok (.bipush 12, 2) := by decide +kernel
theorem dX0_ownerOf_16 : decode cX0_ownerOf 16 = .ok (.imul, 1) := by decide +kernel
theorem dX0_ownerOf_17 : decode cX0_ownerOf 17 = .ok (.iload_n 2, 1) := by decide +kernel
theorem dX0_ownerOf_18 : decode cX0_ownerOf 18 = .ok (.iadd, 1) := by decide +kernel
theorem dX0_ownerOf_19 : decode cX0_ownerOf 19 = .ok (.iaload, 1) := by decide +kernel
theorem dX0_ownerOf_20 : decode cX0_ownerOf 20 = .ok (.goto 4, 3) := by decide +kernel
theorem dX0_ownerOf_23 : decode cX0_ownerOf 23 = .ok (.iconst (-1), 1) := by decide +kernel
theorem dX0_ownerOf_24 : decode cX0_ownerOf 24 = .ok (.ireturn, 1) := by decide +kernel
theorem dX0_setOwner_0 : decode cX0_setOwner 0 = .ok (.aload_n 0, 1) := by decide +kernel
theorem dX0_setOwner_1 : decode cX0_setOwner 1 = .ok (.iload_n 1, 1) := by decide +kernel
theorem dX0_setOwner_2 : decode cX0_setOwner 2 = .ok (.iload_n 2, 1) := by decide +kernel
theorem dX0_setOwner_3 : decode cX0_setOwner 3 = .ok (.invokevirtual 68, 3) := by decide +kernel
theorem dX0_setOwner_6 : decode cX0_setOwner 6 = .ok (.ifCond .eq 15, 3) := by decide +kernel
theorem dX0_setOwner_9 : decode cX0_setOwner 9 = .ok (.aload_n 0, 1) := by decide +kernel
theorem dX0_setOwner_10 : decode cX0_setOwner 10 = .ok (.getfield 46, 3) := by decide +kernel
theorem dX0_setOwner_13 : decode cX0_setOwner 13 = .ok (.iload_n 1, 1) := by decide +kernel
theorem dX0_setOwner_14 : decode cX0_setOwner 14 = .ok (.bipush 12, 2) := by decide +kernel
theorem dX0_setOwner_16 : decode cX0_setOwner 16 = .ok (.imul, 1) := by decide +kernel
theorem dX0_setOwner_17 : decode cX0_setOwner 17 = .ok (.iload_n 2, 1) := by decide +kernel
theorem dX0_setOwner_18 : decode cX0_setOwner 18 = .ok (.iadd, 1) := by decide +kernel
theorem dX0_setOwner_19 : decode cX0_setOwner 19 = .ok (.iload_n 3, 1) := by decide +kernel
theorem dX0_setOwner_20 : decode cX0_setOwner 20 = .ok (.iastore, 1) := by decide +kernel
theorem dX0_setOwner_21 : decode cX0_setOwner 21 = .ok (.return_, 1) := by decide +kernel
theorem dX0_addDrip_0 : decode cX0_addDrip 0 = .ok (.aload_n 0, 1) := by decide +kernel
theorem dX0_addDrip_1 : decode cX0_addDrip 1 = .ok (.getfield 52, 3) := by decide +kernel
theorem dX0_addDrip_4 : decode cX0_addDrip 4 = .ok (.bipush 72, 2) := by decide +kernel
theorem dX0_addDrip_6 : decode cX0_addDrip 6 = .ok (.if_icmp .lt 4, 3) := by decide +kernel
theorem dX0_addDrip_9 : decode cX0_addDrip 9 = .ok (.return_, 1) := by decide +kernel
theorem dX0_addDrip_10 : decode cX0_addDrip 10 = .ok (.aload_n 0, 1) := by decide +kernel
theorem dX0_addDrip_11 : decode cX0_addDrip 11 = .ok (.getfield 52, 3) := by decide +kernel
theorem dX0_addDrip_14 : decode cX0_addDrip 14 = .ok (.iconst 5, 1) := by decide +kernel
theorem dX0_addDrip_15 : decode cX0_addDrip 15 = .ok (.imul, 1) := by decide +kernel
theorem dX0_addDrip_16 : decode cX0_addDrip 16 = .ok (.istore 6, 2) := by decide +kernel
theorem dX0_addDrip_18 : decode cX0_addDrip 18 = .ok (.aload_n 0, 1) := by decide +kernel
theorem dX0_addDrip_19 : decode cX0_addDrip 19 = .ok (.getfield 55, 3) := by decide +kernel
theorem dX0_addDrip_22 : decode cX0_addDrip 22 = .ok (.iload 6, 2) := by decide +kernel
theorem dX0_addDrip_24 : decode cX0_addDrip 24 = .ok (.iload_n 1, 1) := by decide +kernel
theorem dX0_addDrip_25 : decode cX0_addDrip 25 = .ok (.iastore, 1) := by decide +kernel
theorem dX0_addDrip_26 : decode cX0_addDrip 26 = .ok (.aload_n 0, 1) := by decide +kernel
theorem dX0_addDrip_27 : decode cX0_addDrip 27 = .ok (.getfield 55, 3) := by decide +kernel
theorem dX0_addDrip_30 : decode cX0_addDrip 30 = .ok (.iload 6, 2) := by decide +kernel
theorem dX0_addDrip_32 : decode cX0_addDrip 32 = .ok (.iconst 1, 1) := by decide +kernel
theorem dX0_addDrip_33 : decode cX0_addDrip 33 = .ok (.iadd, 1) := by decide +kernel
theorem dX0_addDrip_34 : decode cX0_addDrip 34 = .ok (.iload_n 2, 1) := by decide +kernel
theorem dX0_addDrip_35 : decode cX0_addDrip 35 = .ok (.iastore, 1) := by decide +kernel
theorem dX0_addDrip_36 : decode cX0_addDrip 36 = .ok (.aload_n 0, 1) := by decide +kernel
theorem dX0_addDrip_37 : decode cX0_addDrip 37 = .ok (.getfield 55, 3) := by decide +kernel
theorem dX0_addDrip_40 : decode cX0_addDrip 40 = .ok (.iload 6, 2) := by decide +kernel
theorem dX0_addDrip_42 : decode cX0_addDrip 42 = .ok (.iconst 2, 1) := by decide +kernel
theorem dX0_addDrip_43 : decode cX0_addDrip 43 = .ok (.iadd, 1) := by decide +kernel
theorem dX0_addDrip_44 : decode cX0_addDrip 44 = .ok (.iload_n 3, 1) := by decide +kernel
theorem dX0_addDrip_45 : decode cX0_addDrip 45 = .ok (.iastore, 1) := by decide +kernel
theorem dX0_addDrip_46 : decode cX0_addDrip 46 = .ok (.aload_n 0, 1) := by decide +kernel
theorem dX0_addDrip_47 : decode cX0_addDrip 47 = .ok (.getfield 55, 3) := by decide +kernel
theorem dX0_addDrip_50 : decode cX0_addDrip 50 = .ok (.iload 6, 2) := by decide +kernel
theorem dX0_addDrip_52 : decode cX0_addDrip 52 = .ok (.iconst 3, 1) := by decide +kernel
theorem dX0_addDrip_53 : decode cX0_addDrip 53 = .ok (.iadd, 1) := by decide +kernel
theorem dX0_addDrip_54 : decode cX0_addDrip 54 = .ok (.iload 4, 2) := by decide +kernel
theorem dX0_addDrip_56 : decode cX0_addDrip 56 = .ok (.iastore, 1) := by decide +kernel
theorem dX0_addDrip_57 : decode cX0_addDrip 57 = .ok (.aload_n 0, 1) := by decide +kernel
theorem dX0_addDrip_58 : decode cX0_addDrip 58 = .ok (.getfield 55, 3) := by decide +kernel
theorem dX0_addDrip_61 : decode cX0_addDrip 61 = .ok (.iload 6, 2) := by decide +kernel
theorem dX0_addDrip_63 : decode cX0_addDrip 63 = .ok (.iconst 4, 1) := by decide +kernel
theorem dX0_addDrip_64 : decode cX0_addDrip 64 = .ok (.iadd, 1) := by decide +kernel
theorem dX0_addDrip_65 : decode cX0_addDrip 65 = .ok (.iload 5, 2) := by decide +kernel
theorem dX0_addDrip_67 : decode cX0_addDrip 67 = .ok (.iastore, 1) := by decide +kernel
theorem dX0_addDrip_68 : decode cX0_addDrip 68 = .ok (.aload_n 0, 1) := by decide +kernel
theorem dX0_addDrip_69 : decode cX0_addDrip 69 = .ok (.dup, 1) := by decide +kernel
theorem dX0_addDrip_70 : decode cX0_addDrip 70 = .ok (.getfield 52, 3) := by decide +kernel
theorem dX0_addDrip_73 : decode cX0_addDrip 73 = .ok (.iconst 1, 1) := by decide +kernel
theorem dX0_addDrip_74 : decode cX0_addDrip 74 = .ok (.iadd, 1) := by decide +kernel
theorem dX0_addDrip_75 : decode cX0_addDrip 75 = .ok (.putfield 52, 3) := by decide +kernel
theorem dX0_addDrip_78 : decode cX0_addDrip 78 = .ok (.return_, 1) := by decide +kernel
theorem dX0_dripPart_0 : decode cX0_dripPart 0 = .ok (.iload_n 1, 1) := by decide +kernel
theorem dX0_dripPart_1 : decode cX0_dripPart 1 = .ok (.iconst 5, 1) := by decide +kernel
theorem dX0_dripPart_2 : decode cX0_dripPart 2 = .ok (.imul, 1) := by decide +kernel
theorem dX0_dripPart_3 : decode cX0_dripPart 3 = .ok (.iload_n 2, 1) := by decide +kernel
theorem dX0_dripPart_4 : decode cX0_dripPart 4 = .ok (.iadd, 1) := by decide +kernel
theorem dX0_dripPart_5 : decode cX0_dripPart 5 = .ok (.istore_n 3, 1) := by decide +kernel
theorem dX0_dripPart_6 : decode cX0_dripPart 6 = .ok (.iload_n 3, 1) := by decide +kernel
theorem dX0_dripPart_7 : decode cX0_dripPart 7 = .ok (.ifCond .lt 21, 3) := by decide +kernel
theorem dX0_dripPart_10 : decode cX0_dripPart 10 = .ok (.iload_n 3, 1) := by decide +kernel
theorem dX0_dripPart_11 : decode cX0_dripPart 11 = .ok (.aload_n 0, 1) := by decide +kernel
theorem dX0_dripPart_12 : decode cX0_dripPart 12 = .ok (.getfield 55, 3) := by decide +kernel
theorem dX0_dripPart_15 : decode cX0_dripPart 15 = .ok (.arraylength, 1) := by decide +kernel
theorem dX0_dripPart_16 : decode cX0_dripPart 16 = .ok (.if_icmp .ge 12, 3) := by decide +kernel
theorem dX0_dripPart_19 : decode cX0_dripPart 19 = .ok (.aload_n 0, 1) := by decide +kernel
theorem dX0_dripPart_20 : decode cX0_dripPart 20 = .ok (.getfield 55, 3) := by decide +kernel
theorem dX0_dripPart_23 : decode cX0_dripPart 23 = .ok (.iload_n 3, 1) := by decide +kernel
theorem dX0_dripPart_24 : decode cX0_dripPart 24 = .ok (.iaload, 1) := by decide +kernel
theorem dX0_dripPart_25 : decode cX0_dripPart 25 = .ok (.goto 5, 3) := by decide +kernel
theorem dX0_dripPart_28 : decode cX0_dripPart 28 = .ok (.bipush (-2), 2) := by decide +kernel
theorem dX0_dripPart_30 : decode cX0_dripPart 30 = .ok (.ireturn, 1) := by decide +kernel
theorem dX0_draw_0 : decode cX0_draw 0 = .ok (.iload_n 1, 1) := by decide +kernel
theorem dX0_draw_1 : decode cX0_draw 1 = .ok (.ifCond .le 12, 3) := by decide +kernel
theorem dX0_draw_4 : decode cX0_draw 4 = .ok (.aload_n 0, 1) := by decide +kernel
theorem dX0_draw_5 : decode cX0_draw 5 = .ok (.getfield 49, 3) := by decide +kernel
theorem dX0_draw_8 : decode cX0_draw 8 = .ok (.iload_n 1, 1) := by decide +kernel
theorem dX0_draw_9 : decode cX0_draw 9 = .ok (.irem, 1) := by decide +kernel
theorem dX0_draw_10 : decode cX0_draw 10 = .ok (.goto 4, 3) := by decide +kernel
theorem dX0_draw_13 : decode cX0_draw 13 = .ok (.iconst 0, 1) := by decide +kernel
theorem dX0_draw_14 : decode cX0_draw 14 = .ok (.istore_n 2, 1) := by decide +kernel
theorem dX0_draw_15 : decode cX0_draw 15 = .ok (.aload_n 0, 1) := by decide +kernel
theorem dX0_draw_16 : decode cX0_draw 16 = .ok (.aload_n 0, 1) := by decide +kernel
theorem dX0_draw_17 : decode cX0_draw 17 = .ok (.getfield 49, 3) := by decide +kernel
theorem dX0_draw_20 : decode cX0_draw 20 = .ok (.sipush 179, 3) := by decide +kernel
theorem dX0_draw_23 : decode cX0_draw 23 = .ok (.imul, 1) := by decide +kernel
theorem dX0_draw_24 : decode cX0_draw 24 = .ok (.bipush 83, 2) := by decide +kernel
theorem dX0_draw_26 : decode cX0_draw 26 = .ok (.iadd, 1) := by decide +kernel
theorem dX0_draw_27 : decode cX0_draw 27 = .ok (.sipush 30011, 3) := by decide +kernel
theorem dX0_draw_30 : decode cX0_draw 30 = .ok (.irem, 1) := by decide +kernel
theorem dX0_draw_31 : decode cX0_draw 31 = .ok (.putfield 49, 3) := by decide +kernel
theorem dX0_draw_34 : decode cX0_draw 34 = .ok (.iload_n 2, 1) := by decide +kernel
theorem dX0_draw_35 : decode cX0_draw 35 = .ok (.ireturn, 1) := by decide +kernel
theorem dX0_isOwnedIn_0 : decode cX0_isOwnedIn 0 = .ok (.aload_n 0, 1) := by decide +kernel
theorem dX0_isOwnedIn_1 : decode cX0_isOwnedIn 1 = .ok (.iload_n 2, 1) := by decide +kernel
theorem dX0_isOwnedIn_2 : decode cX0_isOwnedIn 2 = .ok (.iload_n 3, 1) := by decide +kernel
theorem dX0_isOwnedIn_3 : decode cX0_isOwnedIn 3 = .ok (.invokevirtual 72, 3) := by decide +kernel
theorem dX0_isOwnedIn_6 : decode cX0_isOwnedIn 6 = .ok (.istore 4, 2) := by decide +kernel
theorem dX0_isOwnedIn_8 : decode cX0_isOwnedIn 8 = .ok (.iload 4, 2) := by decide +kernel
theorem dX0_isOwnedIn_10 : decode cX0_isOwnedIn 10 = .ok (.iconst (-1), 1) := by decide +kernel
theorem dX0_isOwnedIn_11 : decode cX0_isOwnedIn 11 = .ok (.if_icmp .eq 17, 3) := by decide +kernel
theorem dX0_isOwnedIn_14 : decode cX0_isOwnedIn 14 = .ok (.iload_n 1, 1) := by decide +kernel
theorem dX0_isOwnedIn_15 : decode cX0_isOwnedIn 15 = .ok (.iload 4, 2) := by decide +kernel
theorem dX0_isOwnedIn_17 : decode cX0_isOwnedIn 17 = .ok (.ishr, 1) := by decide +kernel
theorem dX0_isOwnedIn_18 : decode cX0_isOwnedIn 18 = .ok (.iconst 1, 1) := by decide +kernel
theorem dX0_isOwnedIn_19 : decode cX0_isOwnedIn 19 = .ok (.iand, 1) := by decide +kernel
theorem dX0_isOwnedIn_20 : decode cX0_isOwnedIn 20 = .ok (.iconst 1, 1) := by decide +kernel
theorem dX0_isOwnedIn_21 : decode cX0_isOwnedIn 21 = .ok (.if_icmp .ne 7, 3) := by decide +kernel
theorem dX0_isOwnedIn_24 : decode cX0_isOwnedIn 24 = .ok (.iconst 1, 1) := by decide +kernel
theorem dX0_isOwnedIn_25 : decode cX0_isOwnedIn 25 = .ok (.goto 4, 3) := by decide +kernel
theorem dX0_isOwnedIn_28 : decode cX0_isOwnedIn 28 = .ok (.iconst 0, 1) := by decide +kernel
theorem dX0_isOwnedIn_29 : decode cX0_isOwnedIn 29 = .ok (.ireturn, 1) := by decide +kernel
theorem dX0_worthOf_0 : decode cX0_worthOf 0 = .ok (.iconst 0, 1) := by decide +kernel
theorem dX0_worthOf_1 : decode cX0_worthOf 1 = .ok (.istore_n 2, 1) := by decide +kernel
theorem dX0_worthOf_2 : decode cX0_worthOf 2 = .ok (.iconst 0, 1) := by decide +kernel
theorem dX0_worthOf_3 : decode cX0_worthOf 3 = .ok (.istore_n 3, 1) := by decide +kernel
theorem dX0_worthOf_4 : decode cX0_worthOf 4 = .ok (.iload_n 3, 1) := by decide +kernel
theorem dX0_worthOf_5 : decode cX0_worthOf 5 = .ok (.aload_n 0, 1) := by decide +kernel
theorem dX0_worthOf_6 : decode cX0_worthOf 6 = .ok (.getfield 28, 3) := by decide +kernel
theorem dX0_worthOf_9 : decode cX0_worthOf 9 = .ok (.if_icmp .ge 56, 3) := by decide +kernel
theorem dX0_worthOf_12 : decode cX0_worthOf 12 = .ok (.iconst 1, 1) := by decide +kernel
theorem dX0_worthOf_13 : decode cX0_worthOf 13 = .ok (.istore 4, 2) := by decide +kernel
theorem dX0_worthOf_15 : decode cX0_worthOf 15 = .ok (.iload 4, 2) := by decide +kernel
theorem dX0_worthOf_17 : decode cX0_worthOf 17 = .ok (.aload_n 0, 1) := by decide +kernel
theorem dX0_worthOf_18 : decode cX0_worthOf 18 = .ok (.getfield 34, 3) := by decide +kernel
theorem dX0_worthOf_21 : decode cX0_worthOf 21 = .ok (.iload_n 3, 1) := by decide +kernel
theorem dX0_worthOf_22 : decode cX0_worthOf 22 = .ok (.iaload, 1) := by decide +kernel
theorem dX0_worthOf_23 : decode cX0_worthOf 23 = .ok (.if_icmp .ge 36, 3) := by decide +kernel
theorem dX0_worthOf_26 : decode cX0_worthOf 26 = .ok (.aload_n 0, 1) := by decide +kernel
theorem dX0_worthOf_27 : decode cX0_worthOf 27 = .ok (.iload_n 1, 1) := by decide +kernel
theorem dX0_worthOf_28 : decode cX0_worthOf 28 = .ok (.iload_n 3, 1) := by decide +kernel
theorem dX0_worthOf_29 : decode cX0_worthOf 29 = .ok (.iload 4, 2) := by decide +kernel
theorem dX0_worthOf_31 : decode cX0_worthOf 31 = .ok (.iconst 1, 1) := by decide +kernel
theorem dX0_worthOf_32 : decode cX0_worthOf 32 = .ok (.isub, 1) := by decide +kernel
theorem dX0_worthOf_33 : decode cX0_worthOf 33 = .ok (.invokevirtual 76, 3) := by decide +kernel
theorem dX0_worthOf_36 : decode cX0_worthOf 36 = .ok (.ifCond .eq 17, 3) := by decide +kernel
theorem dX0_worthOf_39 : decode cX0_worthOf 39 = .ok (.aload_n 0, 1) := by decide +kernel
theorem dX0_worthOf_40 : decode cX0_worthOf 40 = .ok (.iload_n 1, 1) := by decide +kernel
theorem dX0_worthOf_41 : decode cX0_worthOf 41 = .ok (.iload_n 3, 1) := by decide +kernel
theorem dX0_worthOf_42 : decode cX0_worthOf 42 = .ok (.iload 4, 2) := by decide +kernel
theorem dX0_worthOf_44 : decode cX0_worthOf 44 = .ok (.invokevirtual 76, 3) := by decide +kernel
theorem dX0_worthOf_47 : decode cX0_worthOf 47 = .ok (.ifCond .eq 6, 3) := by decide +kernel
theorem dX0_worthOf_50 : decode cX0_worthOf 50 = .ok (.iinc 2 1, 3) := by decide +kernel
theorem dX0_worthOf_53 : decode cX0_worthOf 53 = .ok (.iinc 4 1, 3) := by decide +kernel
theorem dX0_worthOf_56 : decode cX0_worthOf 56 = .ok (.goto (-41), 3) := by decide +kernel
theorem dX0_worthOf_59 : decode cX0_worthOf 59 = .ok (.iinc 3 1, 3) := by decide +kernel
theorem dX0_worthOf_62 : decode cX0_worthOf 62 = .ok (.goto (-58), 3) := by decide +kernel
theorem dX0_worthOf_65 : decode cX0_worthOf 65 = .ok (.iload_n 2, 1) := by decide +kernel
theorem dX0_worthOf_66 : decode cX0_worthOf 66 = .ok (.ireturn, 1) := by decide +kernel
theorem dX0_freeInches_0 : decode cX0_freeInches 0 = .ok (.iconst 0, 1) := by decide +kernel
theorem dX0_freeInches_1 : decode cX0_freeInches 1 = .ok (.istore_n 2, 1) := by decide +kernel
theorem dX0_freeInches_2 : decode cX0_freeInches 2 = .ok (.iconst 0, 1) := by decide +kernel
theorem dX0_freeInches_3 : decode cX0_freeInches 3 = .ok (.istore_n 3, 1) := by decide +kernel
theorem dX0_freeInches_4 : decode cX0_freeInches 4 = .ok (.iload_n 3, 1) := by decide +kernel
theorem dX0_freeInches_5 : decode cX0_freeInches 5 = .ok (.bipush 12, 2) := by decide +kernel
theorem dX0_freeInches_7 : decode cX0_freeInches 7 = .ok (.if_icmp .ge 31, 3) := by decide +kernel
theorem dX0_freeInches_10 : decode cX0_freeInches 10 = .ok (.aload_n 0, 1) := by decide +kernel
theorem dX0_freeInches_11 : decode cX0_freeInches 11 = .ok (.iload_n 1, 1) := by decide +kernel
theorem dX0_freeInches_12 : decode cX0_freeInches 12 = .ok (.iload_n 3, 1) := by decide +kernel
theorem dX0_freeInches_13 : decode cX0_freeInches 13 = .ok (.invokevirtual 68, 3) := by decide +kernel
theorem dX0_freeInches_16 : decode cX0_freeInches 16 = .ok (.ifCond .eq 16, 3) := by decide +kernel
theorem dX0_freeInches_19 : decode cX0_freeInches 19 = .ok (.aload_n 0, 1) := by decide +kernel
theorem dX0_freeInches_20 : decode cX0_freeInches 20 = .ok (.iload_n 1, 1) := by decide +kernel
theorem dX0_freeInches_21 : decode cX0_freeInches 21 = .ok (.iload_n 3, 1) := by decide +kernel
theorem dX0_freeInches_22 : decode cX0_freeInches 22 = .ok (.invokevirtual 72, 3) := by decide +kernel
theorem dX0_freeInches_25 : decode cX0_freeInches 25 = .ok (.iconst (-1), 1) := by decide +kernel
theorem dX0_freeInches_26 : decode cX0_freeInches 26 = .ok (.if_icmp .ne 6, 3) := by decide +kernel
theorem dX0_freeInches_29 : decode cX0_freeInches 29 = .ok (.iinc 2 1, 3) := by decide +kernel
theorem dX0_freeInches_32 : decode cX0_freeInches 32 = .ok (.iinc 3 1, 3) := by decide +kernel
theorem dX0_freeInches_35 : decode cX0_freeInches 35 = .ok (.goto (-31), 3) := by decide +kernel
theorem dX0_freeInches_38 : decode cX0_freeInches 38 = .ok (.iload_n 2, 1) := by decide +kernel
theorem dX0_freeInches_39 : decode cX0_freeInches 39 = .ok (.ireturn, 1) := by decide +kernel
theorem dX0_housesWith_0 : decode cX0_housesWith 0 = .ok (.iconst 0, 1) := by decide +kernel
theorem dX0_housesWith_1 : decode cX0_housesWith 1 = .ok (.istore_n 2, 1) := by decide +kernel
theorem dX0_housesWith_2 : decode cX0_housesWith 2 = .ok (.iconst 0, 1) := by decide +kernel
theorem dX0_housesWith_3 : decode cX0_housesWith 3 = .ok (.istore_n 3, 1) := by decide +kernel
theorem dX0_housesWith_4 : decode cX0_housesWith 4 = .ok (.iload_n 3, 1) := by decide +kernel
theorem dX0_housesWith_5 : decode cX0_housesWith 5 = .ok (.aload_n 0, 1) := by decide +kernel
theorem dX0_housesWith_6 : decode cX0_housesWith 6 = .ok (.getfield 9, 3) := by decide +kernel
theorem dX0_housesWith_9 : decode cX0_housesWith 9 = .ok (.if_icmp .ge 22, 3) := by decide +kernel
theorem dX0_housesWith_12 : decode cX0_housesWith 12 = .ok (.aload_n 0, 1) := by decide +kernel
theorem dX0_housesWith_13 : decode cX0_housesWith 13 = .ok (.getfield 19, 3) := by decide +kernel
theorem dX0_housesWith_16 : decode cX0_housesWith 16 = .ok (.iload_n 3, 1) := by decide +kernel
theorem dX0_housesWith_17 : decode cX0_housesWith 17 = .ok (.iaload, 1) := by decide +kernel
theorem dX0_housesWith_18 : decode cX0_housesWith 18 = .ok (.iload_n 1, 1) := by decide +kernel
theorem dX0_housesWith_19 : decode cX0_housesWith 19 = .ok (.if_icmp .lt 6, 3) := by decide +kernel
theorem dX0_housesWith_22 : decode cX0_housesWith 22 = .ok (.iinc 2 1, 3) := by decide +kernel
theorem dX0_housesWith_25 : decode cX0_housesWith 25 = .ok (.iinc 3 1, 3) := by decide +kernel
theorem dX0_housesWith_28 : decode cX0_housesWith 28 = .ok (.goto (-24), 3) := by decide +kernel
theorem dX0_housesWith_31 : decode cX0_housesWith 31 = .ok (.iload_n 2, 1) := by decide +kernel
theorem dX0_housesWith_32 : decode cX0_housesWith 32 = .ok (.ireturn, 1) := by decide +kernel
theorem dX0_candlesIn_0 : decode cX0_candlesIn 0 = .ok (.iconst 0, 1) := by decide +kernel
theorem dX0_candlesIn_1 : decode cX0_candlesIn 1 = .ok (.istore_n 2, 1) := by decide +kernel
theorem dX0_candlesIn_2 : decode cX0_candlesIn 2 = .ok (.iconst 0, 1) := by decide +kernel
theorem dX0_candlesIn_3 : decode cX0_candlesIn 3 = .ok (.istore_n 3, 1) := by decide +kernel
theorem dX0_candlesIn_4 : decode cX0_candlesIn 4 = .ok (.iload_n 3, 1) := by decide +kernel
theorem dX0_candlesIn_5 : decode cX0_candlesIn 5 = .ok (.aload_n 0, 1) := by decide +kernel
theorem dX0_candlesIn_6 : decode cX0_candlesIn 6 = .ok (.getfield 28, 3) := by decide +kernel
theorem dX0_candlesIn_9 : decode cX0_candlesIn 9 = .ok (.if_icmp .ge 22, 3) := by decide +kernel
theorem dX0_candlesIn_12 : decode cX0_candlesIn 12 = .ok (.aload_n 0, 1) := by decide +kernel
theorem dX0_candlesIn_13 : decode cX0_candlesIn 13 = .ok (.getfield 37, 3) := by decide +kernel
theorem dX0_candlesIn_16 : decode cX0_candlesIn 16 = .ok (.iload_n 3, 1) := by decide +kernel
theorem dX0_candlesIn_17 : decode cX0_candlesIn 17 = .ok (.iaload, 1) := by decide +kernel
theorem dX0_candlesIn_18 : decode cX0_candlesIn 18 = .ok (.iload_n 1, 1) := by decide +kernel
theorem dX0_candlesIn_19 : decode cX0_candlesIn 19 = .ok (.if_icmp .ne 6, 3) := by decide +kernel
theorem dX0_candlesIn_22 : decode cX0_candlesIn 22 = .ok (.iinc 2 1, 3) := by decide +kernel
theorem dX0_candlesIn_25 : decode cX0_candlesIn 25 = .ok (.iinc 3 1, 3) := by decide +kernel
theorem dX0_candlesIn_28 : decode cX0_candlesIn 28 = .ok (.goto (-24), 3) := by decide +kernel
theorem dX0_candlesIn_31 : decode cX0_candlesIn 31 = .ok (.iload_n 2, 1) := by decide +kernel
theorem dX0_candlesIn_32 : decode cX0_candlesIn 32 = .ok (.ireturn, 1) := by decide +kernel
theorem dX0_copyFrom_0 : decode cX0_copyFrom 0 = .ok (.aload_n 1, 1) := by decide +kernel
theorem dX0_copyFrom_1 : decode cX0_copyFrom 1 = .ok (.ifnonnull 4, 3) := by decide +kernel
theorem dX0_copyFrom_4 : decode cX0_copyFrom 4 = .ok (.return_, 1) := by decide +kernel
theorem dX0_copyFrom_5 : decode cX0_copyFrom 5 = .ok (.aload_n 0, 1) := by decide +kernel
theorem dX0_copyFrom_6 : decode cX0_copyFrom 6 = .ok (.aload_n 1, 1) := by decide +kernel
theorem dX0_copyFrom_7 : decode cX0_copyFrom 7 = .ok (.getfield 9, 3) := by decide +kernel
theorem dX0_copyFrom_10 : decode cX0_copyFrom 10 = .ok (.putfield 9, 3) := by decide +kernel
theorem dX0_copyFrom_13 : decode cX0_copyFrom 13 = .ok (.aload_n 0, 1) := by decide +kernel
theorem dX0_copyFrom_14 : decode cX0_copyFrom 14 = .ok (.aload_n 1, 1) := by decide +kernel
theorem dX0_copyFrom_15 : decode cX0_copyFrom 15 = .ok (.getfield 28, 3) := by decide +kernel
theorem dX0_copyFrom_18 : decode cX0_copyFrom 18 = .ok (.putfield 28, 3) := by decide +kernel
theorem dX0_copyFrom_21 : decode cX0_copyFrom 21 = .ok (.aload_n 0, 1) := by decide +kernel
theorem dX0_copyFrom_22 : decode cX0_copyFrom 22 = .ok (.aload_n 1, 1) := by decide +kernel
theorem dX0_copyFrom_23 : decode cX0_copyFrom 23 = .ok (.getfield 49, 3) := by decide +kernel
theorem dX0_copyFrom_26 : decode cX0_copyFrom 26 = .ok (.putfield 49, 3) := by decide +kernel
theorem dX0_copyFrom_29 : decode cX0_copyFrom 29 = .ok (.aload_n 0, 1) := by decide +kernel
theorem dX0_copyFrom_30 : decode cX0_copyFrom 30 = .ok (.aload_n 1, 1) := by decide +kernel
theorem dX0_copyFrom_31 : decode cX0_copyFrom 31 = .ok (.getfield 52, 3) := by decide +kernel
theorem dX0_copyFrom_34 : decode cX0_copyFrom 34 = .ok (.putfield 52, 3) := by decide +kernel
theorem dX0_copyFrom_37 : decode cX0_copyFrom 37 = .ok (.aload_n 0, 1) := by decide +kernel
theorem dX0_copyFrom_38 : decode cX0_copyFrom 38 = .ok (.aload_n 1, 1) := by decide +kernel
theorem dX0_copyFrom_39 : decode cX0_copyFrom 39 = .ok (.getfield 58, 3) := by decide +kernel
theorem dX0_copyFrom_42 : decode cX0_copyFrom 42 = .ok (.putfield 58, 3) := by decide +kernel
theorem dX0_copyFrom_45 : decode cX0_copyFrom 45 = .ok (.aload_n 0, 1) := by decide +kernel
theorem dX0_copyFrom_46 : decode cX0_copyFrom 46 = .ok (.aload_n 1, 1) := by decide +kernel
theorem dX0_copyFrom_47 : decode cX0_copyFrom 47 = .ok (.getfield 61, 3) := by decide +kernel
theorem dX0_copyFrom_50 : decode cX0_copyFrom 50 = .ok (.putfield 61, 3) := by decide +kernel
theorem dX0_copyFrom_53 : decode cX0_copyFrom 53 = .ok (.aload_n 1, 1) := by decide +kernel
theorem dX0_copyFrom_54 : decode cX0_copyFrom 54 = .ok (.getfield 15, 3) := by decide +kernel
theorem dX0_copyFrom_57 : decode cX0_copyFrom 57 = .ok (.aload_n 0, 1) := by decide +kernel
theorem dX0_copyFrom_58 : decode cX0_copyFrom 58 = .ok (.getfield 15, 3) := by decide +kernel
theorem dX0_copyFrom_61 : decode cX0_copyFrom 61 = .ok (.invokestatic 80, 3) := by decide +kernel
theorem dX0_copyFrom_64 : decode cX0_copyFrom 64 = .ok (.aload_n 1, 1) := by decide +kernel
theorem dX0_copyFrom_65 : decode cX0_copyFrom 65 = .ok (.getfield 19, 3) := by decide +kernel
theorem dX0_copyFrom_68 : decode cX0_copyFrom 68 = .ok (.aload_n 0, 1) := by decide +kernel
theorem dX0_copyFrom_69 : decode cX0_copyFrom 69 = .ok (.getfield 19, 3) := by decide +kernel
theorem dX0_copyFrom_72 : decode cX0_copyFrom 72 = .ok (.invokestatic 80, 3) := by decide +kernel
theorem dX0_copyFrom_75 : decode cX0_copyFrom 75 = .ok (.aload_n 1, 1) := by decide +kernel
theorem dX0_copyFrom_76 : decode cX0_copyFrom 76 = .ok (.getfield 22, 3) := by decide +kernel
theorem dX0_copyFrom_79 : decode cX0_copyFrom 79 = .ok (.aload_n 0, 1) := by decide +kernel
theorem dX0_copyFrom_80 : decode cX0_copyFrom 80 = .ok (.getfield 22, 3) := by decide +kernel
theorem dX0_copyFrom_83 : decode cX0_copyFrom 83 = .ok (.invokestatic 80, 3) := by decide +kernel
theorem dX0_copyFrom_86 : decode cX0_copyFrom 86 = .ok (.aload_n 1, 1) := by decide +kernel
theorem dX0_copyFrom_87 : decode cX0_copyFrom 87 = .ok (.getfield 25, 3) := by decide +kernel
theorem dX0_copyFrom_90 : decode cX0_copyFrom 90 = .ok (.aload_n 0, 1) := by decide +kernel
theorem dX0_copyFrom_91 : decode cX0_copyFrom 91 = .ok (.getfield 25, 3) := by decide +kernel
theorem dX0_copyFrom_94 : decode cX0_copyFrom 94 = .ok (.invokestatic 80, 3) := by decide +kernel
theorem dX0_copyFrom_97 : decode cX0_copyFrom 97 = .ok (.aload_n 1, 1) := by decide +kernel
theorem dX0_copyFrom_98 : decode cX0_copyFrom 98 = .ok (.getfield 31, 3) := by decide +kernel
theorem dX0_copyFrom_101 : decode cX0_copyFrom 101 = .ok (.aload_n 0, 1) := by decide +kernel
theorem dX0_copyFrom_102 : decode cX0_copyFrom 102 = .ok (.getfield 31, 3) := by decide +kernel
theorem dX0_copyFrom_105 : decode cX0_copyFrom 105 = .ok (.invokestatic 80, 3) := by decide +kernel
theorem dX0_copyFrom_108 : decode cX0_copyFrom 108 = .ok (.aload_n 1, 1) := by decide +kernel
theorem dX0_copyFrom_109 : decode cX0_copyFrom 109 = .ok (.getfield 34, 3) := by decide +kernel
theorem dX0_copyFrom_112 : decode cX0_copyFrom 112 = .ok (.aload_n 0, 1) := by decide +kernel
theorem dX0_copyFrom_113 : decode cX0_copyFrom 113 = .ok (.getfield 34, 3) := by decide +kernel
theorem dX0_copyFrom_116 : decode cX0_copyFrom 116 = .ok (.invokestatic 80, 3) := by decide +kernel
theorem dX0_copyFrom_119 : decode cX0_copyFrom 119 = .ok (.aload_n 1, 1) := by decide +kernel
theorem dX0_copyFrom_120 : decode cX0_copyFrom 120 = .ok (.getfield 37, 3) := by decide +kernel
theorem dX0_copyFrom_123 : decode cX0_copyFrom 123 = .ok (.aload_n 0, 1) := by decide +kernel
theorem dX0_copyFrom_124 : decode cX0_copyFrom 124 = .ok (.getfield 37, 3) := by decide +kernel
theorem dX0_copyFrom_127 : decode cX0_copyFrom 127 = .ok (.invokestatic 80, 3) := by decide +kernel
theorem dX0_copyFrom_130 : decode cX0_copyFrom 130 = .ok (.aload_n 1, 1) := by decide +kernel
theorem dX0_copyFrom_131 : decode cX0_copyFrom 131 = .ok (.getfield 40, 3) := by decide +kernel
theorem dX0_copyFrom_134 : decode cX0_copyFrom 134 = .ok (.aload_n 0, 1) := by decide +kernel
theorem dX0_copyFrom_135 : decode cX0_copyFrom 135 = .ok (.getfield 40, 3) := by decide +kernel
theorem dX0_copyFrom_138 : decode cX0_copyFrom 138 = .ok (.invokestatic 80, 3) := by decide +kernel
theorem dX0_copyFrom_141 : decode cX0_copyFrom 141 = .ok (.aload_n 1, 1) := by decide +kernel
theorem dX0_copyFrom_142 : decode cX0_copyFrom 142 = .ok (.getfield 43, 3) := by decide +kernel
theorem dX0_copyFrom_145 : decode cX0_copyFrom 145 = .ok (.aload_n 0, 1) := by decide +kernel
theorem dX0_copyFrom_146 : decode cX0_copyFrom 146 = .ok (.getfield 43, 3) := by decide +kernel
theorem dX0_copyFrom_149 : decode cX0_copyFrom 149 = .ok (.invokestatic 80, 3) := by decide +kernel
theorem dX0_copyFrom_152 : decode cX0_copyFrom 152 = .ok (.aload_n 1, 1) := by decide +kernel
theorem dX0_copyFrom_153 : decode cX0_copyFrom 153 = .ok (.getfield 46, 3) := by decide +kernel
theorem dX0_copyFrom_156 : decode cX0_copyFrom 156 = .ok (.aload_n 0, 1) := by decide +kernel
theorem dX0_copyFrom_157 : decode cX0_copyFrom 157 = .ok (.getfield 46, 3) := by decide +kernel
theorem dX0_copyFrom_160 : decode cX0_copyFrom 160 = .ok (.invokestatic 80, 3) := by decide +kernel
theorem dX0_copyFrom_163 : decode cX0_copyFrom 163 = .ok (.aload_n 1, 1) := by decide +kernel
theorem dX0_copyFrom_164 : decode cX0_copyFrom 164 = .ok (.getfield 55, 3) := by decide +kernel
theorem dX0_copyFrom_167 : decode cX0_copyFrom 167 = .ok (.aload_n 0, 1) := by decide +kernel
theorem dX0_copyFrom_168 : decode cX0_copyFrom 168 = .ok (.getfield 55, 3) := by decide +kernel
theorem dX0_copyFrom_171 : decode cX0_copyFrom 171 = .ok (.invokestatic 80, 3) := by decide +kernel
theorem dX0_copyFrom_174 : decode cX0_copyFrom 174 = .ok (.return_, 1) := by decide +kernel
theorem dX0_copyRow_0 : decode cX0_copyRow 0 = .ok (.iconst 0, 1) := by decide +kernel
theorem dX0_copyRow_1 : decode cX0_copyRow 1 = .ok (.istore_n 2, 1) := by decide +kernel
theorem dX0_copyRow_2 : decode cX0_copyRow 2 = .ok (.iload_n 2, 1) := by decide +kernel
theorem dX0_copyRow_3 : decode cX0_copyRow 3 = .ok (.aload_n 0, 1) := by decide +kernel
theorem dX0_copyRow_4 : decode cX0_copyRow 4 = .ok (.arraylength, 1) := by decide +kernel
theorem dX0_copyRow_5 : decode cX0_copyRow 5 = .ok (.if_icmp .ge 21, 3) := by decide +kernel
theorem dX0_copyRow_8 : decode cX0_copyRow 8 = .ok (.iload_n 2, 1) := by decide +kernel
theorem dX0_copyRow_9 : decode cX0_copyRow 9 = .ok (.aload_n 1, 1) := by decide +kernel
theorem dX0_copyRow_10 : decode cX0_copyRow 10 = .ok (.arraylength, 1) := by decide +kernel
theorem dX0_copyRow_11 : decode cX0_copyRow 11 = .ok (.if_icmp .ge 15, 3) := by decide +kernel
theorem dX0_copyRow_14 : decode cX0_copyRow 14 = .ok (.aload_n 1, 1) := by decide +kernel
theorem dX0_copyRow_15 : decode cX0_copyRow 15 = .ok (.iload_n 2, 1) := by decide +kernel
theorem dX0_copyRow_16 : decode cX0_copyRow 16 = .ok (.aload_n 0, 1) := by decide +kernel
theorem dX0_copyRow_17 : decode cX0_copyRow 17 = .ok (.iload_n 2, 1) := by decide +kernel
theorem dX0_copyRow_18 : decode cX0_copyRow 18 = .ok (.iaload, 1) := by decide +kernel
theorem dX0_copyRow_19 : decode cX0_copyRow 19 = .ok (.iastore, 1) := by decide +kernel
theorem dX0_copyRow_20 : decode cX0_copyRow 20 = .ok (.iinc 2 1, 3) := by decide +kernel
theorem dX0_copyRow_23 : decode cX0_copyRow 23 = .ok (.goto (-21), 3) := by decide +kernel
theorem dX0_copyRow_26 : decode cX0_copyRow 26 = .ok (.return_, 1) := by decide +kernel
