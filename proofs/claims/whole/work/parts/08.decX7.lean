theorem dX7_init_0 : decode cX7_init 0 = .ok (.aload_n 0, 1) := by decide +kernel
theorem dX7_init_1 : decode cX7_init 1 = .ok (.invokespecial 3, 3) := by decide +kernel
theorem dX7_init_4 : decode cX7_init 4 = .ok (.aload_n 0, 1) := by decide +kernel
theorem dX7_init_5 : decode cX7_init 5 = .ok (.bipush 6, 2) := by decide +kernel
theorem dX7_init_7 : decode cX7_init 7 = .ok (.newarray .int, 2) := by decide +kernel
theorem dX7_init_9 : decode cX7_init 9 = .ok (.putfield 9, 3) := by decide +kernel
theorem dX7_init_12 : decode cX7_init 12 = .ok (.aload_n 0, 1) := by decide +kernel
theorem dX7_init_13 : decode cX7_init 13 = .ok (.bipush 6, 2) := by decide +kernel
theorem dX7_init_15 : decode cX7_init 15 = .ok (.newarray .int, 2) := by decide +kernel
theorem dX7_init_17 : decode cX7_init 17 = .ok (.putfield 15, 3) := by decide +kernel
theorem dX7_init_20 : decode cX7_init 20 = .ok (.aload_n 0, 1) := by decide +kernel
theorem dX7_init_21 : decode cX7_init 21 = .ok (.bipush 6, 2) := by decide +kernel
theorem dX7_init_23 : decode cX7_init 23 = .ok (.newarray .int, 2) := by decide +kernel
theorem dX7_init_25 : decode cX7_init 25 = .ok (.putfield 18, 3) := by decide +kernel
theorem dX7_init_28 : decode cX7_init 28 = .ok (.aload_n 0, 1) := by decide +kernel
theorem dX7_init_29 : decode cX7_init 29 = .ok (.iconst (-1), 1) := by decide +kernel
theorem dX7_init_30 : decode cX7_init 30 = .ok (.putfield 21, 3) := by decide +kernel
theorem dX7_init_33 : decode cX7_init 33 = .ok (.aload_n 0, 1) := by decide +kernel
theorem dX7_init_34 : decode cX7_init 34 = .ok (.aload_n 1, 1) := by decide +kernel
theorem dX7_init_35 : decode cX7_init 35 = .ok (.putfield 25, 3) := by decide +kernel
theorem dX7_init_38 : decode cX7_init 38 = .ok (.aload_n 0, 1) := by decide +kernel
theorem dX7_init_39 : decode cX7_init 39 = .ok (.aload_n 2, 1) := by decide +kernel
theorem dX7_init_40 : decode cX7_init 40 = .ok (.putfield 29, 3) := by decide +kernel
theorem dX7_init_43 : decode cX7_init 43 = .ok (.return_, 1) := by decide +kernel
theorem dX7_partnerOf_0 : decode cX7_partnerOf 0 = .ok (.aload_n 0, 1) := by decide +kernel
theorem dX7_partnerOf_1 : decode cX7_partnerOf 1 = .ok (.getfield 25, 3) := by decide +kernel
theorem dX7_partnerOf_4 : decode cX7_partnerOf 4 = .ok (.iload_n 1, 1) := by decide +kernel
theorem dX7_partnerOf_5 : decode cX7_partnerOf 5 = .ok (.invokevirtual 33, 3) := by decide +kernel
theorem dX7_partnerOf_8 : decode cX7_partnerOf 8 = .ok (.ifCond .eq 12, 3) := by decide +kernel
theorem dX7_partnerOf_11 : decode cX7_partnerOf 11 = .ok (.aload_n 0, 1) := by decide +kernel
theorem dX7_partnerOf_12 : decode cX7_partnerOf 12 = .ok (.getfield 18, 3) := by decide +kernel
theorem dX7_partnerOf_15 : decode cX7_partnerOf 15 = .ok (.iload_n 1, 1) := by decide +kernel
theorem dX7_partnerOf_16 : decode cX7_partnerOf 16 = .ok (.iaload, 1) := by decide +kernel
theorem dX7_partnerOf_17 : decode cX7_partnerOf 17 = .ok (.goto 4, 3) := by decide +kernel
theorem dX7_partnerOf_20 : decode cX7_partnerOf 20 = .ok (.iconst (-1), 1) := by decide +kernel
theorem dX7_partnerOf_21 : decode cX7_partnerOf 21 = .ok (.ireturn, 1) := by decide +kernel
theorem dX7_arrange_0 : decode cX7_arrange 0 = .ok (.aload_n 0, 1) := by decide +kernel
theorem dX7_arrange_1 : decode cX7_arrange 1 = .ok (.iconst (-1), 1) := by decide +kernel
theorem dX7_arrange_2 : decode cX7_arrange 2 = .ok (.putfield 21, 3) := by decide +kernel
theorem dX7_arrange_5 : decode cX7_arrange 5 = .ok (.aload_n 0, 1) := by decide +kernel
theorem dX7_arrange_6 : decode cX7_arrange 6 = .ok (.getfield 25, 3) := by decide +kernel
theorem dX7_arrange_9 : decode cX7_arrange 9 = .ok (.getfield 39, 3) := by decide +kernel
theorem dX7_arrange_12 : decode cX7_arrange 12 = .ok (.iconst 1, 1) := by decide +kernel
theorem dX7_arrange_13 : decode cX7_arrange 13 = .ok (.if_icmp .lt 26, 3) := by decide +kernel
theorem dX7_arrange_16 : decode cX7_arrange 16 = .ok (.aload_n 0, 1) := by decide +kernel
theorem dX7_arrange_17 : decode cX7_arrange 17 = .ok (.getfield 25, 3) := by decide +kernel
theorem dX7_arrange_20 : decode cX7_arrange 20 = .ok (.getfield 39, 3) := by decide +kernel
theorem dX7_arrange_23 : decode cX7_arrange 23 = .ok (.iconst 2, 1) := by decide +kernel
theorem dX7_arrange_24 : decode cX7_arrange 24 = .ok (.irem, 1) := by decide +kernel
theorem dX7_arrange_25 : decode cX7_arrange 25 = .ok (.ifCond .ne 14, 3) := by decide +kernel
theorem dX7_arrange_28 : decode cX7_arrange 28 = .ok (.aload_n 0, 1) := by decide +kernel
theorem dX7_arrange_29 : decode cX7_arrange 29 = .ok (.getfield 25, 3) := by decide +kernel
theorem dX7_arrange_32 : decode cX7_arrange 32 = .ok (.getfield 42, 3) := by decide +kernel
theorem dX7_arrange_35 : decode cX7_arrange 35 = .ok (.iconst 1, 1) := by decide +kernel
theorem dX7_arrange_36 : decode cX7_arrange 36 = .ok (.if_icmp .ge 5, 3) := by decide +kernel
theorem dX7_arrange_39 : decode cX7_arrange 39 = .ok (.iconst 0, 1) := by decide +kernel
theorem dX7_arrange_40 : decode cX7_arrange 40 = .ok (.ireturn, 1) := by decide +kernel
theorem dX7_arrange_41 : decode cX7_arrange 41 = .ok (.iconst 0, 1) := by decide +kernel
theorem dX7_arrange_42 : decode cX7_arrange 42 = .ok (.istore_n 1, 1) := by decide +kernel
theorem dX7_arrange_43 : decode cX7_arrange 43 = .ok (.iload_n 1, 1) := by decide +kernel
theorem dX7_arrange_44 : decode cX7_arrange 44 = .ok (.aload_n 0, 1) := by decide +kernel
theorem dX7_arrange_45 : decode cX7_arrange 45 = .ok (.getfield 25, 3) := by decide +kernel
theorem dX7_arrange_48 : decode cX7_arrange 48 = .ok (.getfield 39, 3) := by decide +kernel
theorem dX7_arrange_51 : decode cX7_arrange 51 = .ok (.if_icmp .ge 27, 3) := by decide +kernel
theorem dX7_arrange_54 : decode cX7_arrange 54 = .ok (.aload_n 0, 1) := by decide +kernel
theorem dX7_arrange_55 : decode cX7_arrange 55 = .ok (.getfield 15, 3) := by decide +kernel
theorem dX7_arrange_58 : decode cX7_arrange 58 = .ok (.iload_n 1, 1) := by decide +kernel
theorem dX7_arrange_59 : decode cX7_arrange 59 = .ok (.iconst (-1), 1) := by decide +kernel
theorem dX7_arrange_60 : decode cX7_arrange 60 = .ok (.iastore, 1) := by decide +kernel
theorem dX7_arrange_61 : decode cX7_arrange 61 = .ok (.aload_n 0, 1) := by decide +kernel
theorem dX7_arrange_62 : decode cX7_arrange 62 = .ok (.getfield 9, 3) := by decide +kernel
theorem dX7_arrange_65 : decode cX7_arrange 65 = .ok (.iload_n 1, 1) := by decide +kernel
theorem dX7_arrange_66 : decode cX7_arrange 66 = .ok (.aload_n 0, 1) := by decide +kernel
theorem dX7_arrange_67 : decode cX7_arrange 67 = .ok (.iload_n 1, 1) := by decide +kernel
theorem dX7_arrange_68 : decode cX7_arrange 68 = .ok (.invokevirtual 45, 3) := by decide +kernel
theorem dX7_arrange_71 : decode cX7_arrange 71 = .ok (.iastore, 1) := by decide +kernel
theorem dX7_arrange_72 : decode cX7_arrange 72 = .ok (.iinc 1 1, 3) := by decide +kernel
theorem dX7_arrange_75 : decode cX7_arrange 75 = .ok (.goto (-32), 3) := by decide +kernel
theorem dX7_arrange_78 : decode cX7_arrange 78 = .ok (.aload_n 0, 1) := by decide +kernel
theorem dX7_arrange_79 : decode cX7_arrange 79 = .ok (.iconst 0, 1) := by decide +kernel
theorem dX7_arrange_80 : decode cX7_arrange 80 = .ok (.iconst 0, 1) := by decide +kernel
theorem dX7_arrange_81 : decode cX7_arrange 81 = .ok (.invokevirtual 49, 3) := by decide +kernel
theorem dX7_arrange_84 : decode cX7_arrange 84 = .ok (.iconst 1, 1) := by decide +kernel
theorem dX7_arrange_85 : decode cX7_arrange 85 = .ok (.ireturn, 1) := by decide +kernel
theorem dX7_minutesLeft_0 : decode cX7_minutesLeft 0 = .ok (.iconst 0, 1) := by decide +kernel
theorem dX7_minutesLeft_1 : decode cX7_minutesLeft 1 = .ok (.istore_n 2, 1) := by decide +kernel
theorem dX7_minutesLeft_2 : decode cX7_minutesLeft 2 = .ok (.aload_n 0, 1) := by decide +kernel
theorem dX7_minutesLeft_3 : decode cX7_minutesLeft 3 = .ok (.getfield 25, 3) := by decide +kernel
theorem dX7_minutesLeft_6 : decode cX7_minutesLeft 6 = .ok (.getfield 53, 3) := by decide +kernel
theorem dX7_minutesLeft_9 : decode cX7_minutesLeft 9 = .ok (.iload_n 1, 1) := by decide +kernel
theorem dX7_minutesLeft_10 : decode cX7_minutesLeft 10 = .ok (.iaload, 1) := by decide +kernel
theorem dX7_minutesLeft_11 : decode cX7_minutesLeft 11 = .ok (.istore_n 3, 1) := by decide +kernel
theorem dX7_minutesLeft_12 : decode cX7_minutesLeft 12 = .ok (.iload_n 3, 1) := by decide +kernel
theorem dX7_minutesLeft_13 : decode cX7_minutesLeft 13 = .ok (.aload_n 0, 1) := by decide +kernel
theorem dX7_minutesLeft_14 : decode cX7_minutesLeft 14 = .ok (.getfield 25, 3) := by decide +kernel
theorem dX7_minutesLeft_17 : decode cX7_minutesLeft 17 = .ok (.getfield 56, 3) := by decide +kernel
theorem dX7_minutesLeft_20 : decode cX7_minutesLeft 20 = .ok (.iload_n 1, 1) := by decide +kernel
theorem dX7_minutesLeft_21 : decode cX7_minutesLeft 21 = .ok (.iaload, 1) := by decide +kernel
theorem dX7_minutesLeft_22 : decode cX7_minutesLeft 22 = .ok (.if_icmp .ge 23, 3) := by decide +kernel
theorem dX7_minutesLeft_25 : decode cX7_minutesLeft 25 = .ok (.iload_n 2, 1) := by decide +kernel
theorem dX7_minutesLeft_26 : decode cX7_minutesLeft 26 = .ok (.aload_n 0, 1) := by decide +kernel
theorem dX7_minutesLeft_27 : decode cX7_minutesLeft 27 = .ok (.getfield 29, 3) := by decide +kernel
theorem dX7_minutesLeft_30 : decode cX7_minutesLeft 30 = .ok (.iconst 1, 1) := by decide +kernel
theorem dX7_minutesLeft_31 : decode cX7_minutesLeft 31 = .ok (.iconst 0, 1) := by decide +kernel
theorem dX7_minutesLeft_32 : decode cX7_minutesLeft 32 = .ok (.iload_n 1, 1) := by decide +kernel
theorem dX7_minutesLeft_33 : decode cX7_minutesLeft 33 = .ok (.iload_n 3, 1) := by decide +kernel
theorem dX7_minutesLeft_34 : decode cX7_minutesLeft 34 = .ok (.invokevirtual 59, 3) := by decide +kernel
theorem dX7_minutesLeft_37 : decode cX7_minutesLeft 37 = .ok (.iadd, 1) := by decide +kernel
theorem dX7_minutesLeft_38 : decode cX7_minutesLeft 38 = .ok (.istore_n 2, 1) := by decide +kernel
theorem dX7_minutesLeft_39 : decode cX7_minutesLeft 39 = .ok (.iinc 3 1, 3) := by decide +kernel
theorem dX7_minutesLeft_42 : decode cX7_minutesLeft 42 = .ok (.goto (-30), 3) := by decide +kernel
theorem dX7_minutesLeft_45 : decode cX7_minutesLeft 45 = .ok (.iload_n 2, 1) := by decide +kernel
theorem dX7_minutesLeft_46 : decode cX7_minutesLeft 46 = .ok (.ireturn, 1) := by decide +kernel
theorem dX7_marryFrom_0 : decode cX7_marryFrom 0 = .ok (.iload_n 1, 1) := by decide +kernel
theorem dX7_marryFrom_1 : decode cX7_marryFrom 1 = .ok (.istore_n 3, 1) := by decide +kernel
theorem dX7_marryFrom_2 : decode cX7_marryFrom 2 = .ok (.iload_n 3, 1) := by decide +kernel
theorem dX7_marryFrom_3 : decode cX7_marryFrom 3 = .ok (.aload_n 0, 1) := by decide +kernel
theorem dX7_marryFrom_4 : decode cX7_marryFrom 4 = .ok (.getfield 25, 3) := by decide +kernel
theorem dX7_marryFrom_7 : decode cX7_marryFrom 7 = .ok (.getfield 39, 3) := by decide +kernel
theorem dX7_marryFrom_10 : decode cX7_marryFrom 10 = .ok (.if_icmp .ge 19, 3) := by decide +kernel
theorem dX7_marryFrom_13 : decode cX7_marryFrom 13 = .ok (.aload_n 0, 1) := by decide +kernel
theorem dX7_marryFrom_14 : decode cX7_marryFrom 14 = .ok (.getfield 15, 3) := by decide +kernel
theorem dX7_marryFrom_17 : decode cX7_marryFrom 17 = .ok (.iload_n 3, 1) := by decide +kernel
theorem dX7_marryFrom_18 : decode cX7_marryFrom 18 = .ok (.iaload, 1) := by decide +kernel
theorem dX7_marryFrom_19 : decode cX7_marryFrom 19 = .ok (.iconst (-1), 1) := by decide +kernel
theorem dX7_marryFrom_20 : decode cX7_marryFrom 20 = .ok (.if_icmp .eq 9, 3) := by decide +kernel
theorem dX7_marryFrom_23 : decode cX7_marryFrom 23 = .ok (.iinc 3 1, 3) := by decide +kernel
theorem dX7_marryFrom_26 : decode cX7_marryFrom 26 = .ok (.goto (-24), 3) := by decide +kernel
theorem dX7_marryFrom_29 : decode cX7_marryFrom 29 = .ok (.iload_n 3, 1) := by decide +kernel
theorem dX7_marryFrom_30 : decode cX7_marryFrom 30 = .ok (.aload_n 0, 1) := by decide +kernel
theorem dX7_marryFrom_31 : decode cX7_marryFrom 31 = .ok (.getfield 25, 3) := by decide +kernel
theorem dX7_marryFrom_34 : decode cX7_marryFrom 34 = .ok (.getfield 39, 3) := by decide +kernel
theorem dX7_marryFrom_37 : decode cX7_marryFrom 37 = .ok (.if_icmp .lt 9, 3) := by decide +kernel
theorem dX7_marryFrom_40 : decode cX7_marryFrom 40 = .ok (.aload_n 0, 1) := by decide +kernel
theorem dX7_marryFrom_41 : decode cX7_marryFrom 41 = .ok (.iload_n 2, 1) := by decide +kernel
theorem dX7_marryFrom_42 : decode cX7_marryFrom 42 = .ok (.invokevirtual 65, 3) := by decide +kernel
theorem dX7_marryFrom_45 : decode cX7_marryFrom 45 = .ok (.return_, 1) := by decide +kernel
theorem dX7_marryFrom_46 : decode cX7_marryFrom 46 = .ok (.iload_n 3, 1) := by decide +kernel
theorem dX7_marryFrom_47 : decode cX7_marryFrom 47 = .ok (.iconst 1, 1) := by decide +kernel
theorem dX7_marryFrom_48 : decode cX7_marryFrom 48 = .ok (.iadd, 1) := by decide +kernel
theorem dX7_marryFrom_49 : decode cX7_marryFrom 49 = .ok (.istore 4, 2) := by decide +kernel
theorem dX7_marryFrom_51 : decode cX7_marryFrom 51 = .ok (.iload 4, 2) := by decide +kernel
theorem dX7_marryFrom_53 : decode cX7_marryFrom 53 = .ok (.aload_n 0, 1) := by decide +kernel
theorem dX7_marryFrom_54 : decode cX7_marryFrom 54 = .ok (.getfield 25, 3) := by decide +kernel
theorem dX7_marryFrom_57 : decode cX7_marryFrom 57 = .ok (.getfield 39, 3) := by decide +kernel
theorem dX7_marryFrom_60 : decode cX7_marryFrom 60 = .ok (.if_icmp .ge 76, 3) := by decide +kernel
theorem dX7_marryFrom_63 : decode cX7_marryFrom 63 = .ok (.aload_n 0, 1) := by decide +kernel
theorem dX7_marryFrom_64 : decode cX7_marryFrom 64 = .ok (.getfield 15, 3) := by decide +kernel
theorem dX7_marryFrom_67 : decode cX7_marryFrom 67 = .ok (.iload 4, 2) := by decide +kernel
theorem dX7_marryFrom_69 : decode cX7_marryFrom 69 = .ok (.iaload, 1) := by decide +kernel
theorem dX7_marryFrom_70 : decode cX7_marryFrom 70 = .ok (.iconst (-1), 1) := by decide +kernel
theorem dX7_marryFrom_71 : decode cX7_marryFrom 71 = .ok (.if_icmp .ne 59, 3) := by decide +kernel
theorem dX7_marryFrom_74 : decode cX7_marryFrom 74 = .ok (.aload_n 0, 1) := by decide +kernel
theorem dX7_marryFrom_75 : decode cX7_marryFrom 75 = .ok (.getfield 15, 3) := by decide +kernel
theorem dX7_marryFrom_78 : decode cX7_marryFrom 78 = .ok (.iload_n 3, 1) := by decide +kernel
theorem dX7_marryFrom_79 : decode cX7_marryFrom 79 = .ok (.iload 4, 2) := by decide +kernel
theorem dX7_marryFrom_81 : decode cX7_marryFrom 81 = .ok (.iastore, 1) := by decide +kernel
theorem dX7_marryFrom_82 : decode cX7_marryFrom 82 = .ok (.aload_n 0, 1) := by decide +kernel
theorem dX7_marryFrom_83 : decode cX7_marryFrom 83 = .ok (.getfield 15, 3) := by decide +kernel
theorem dX7_marryFrom_86 : decode cX7_marryFrom 86 = .ok (.iload 4, 2) := by decide +kernel
theorem dX7_marryFrom_88 : decode cX7_marryFrom 88 = .ok (.iload_n 3, 1) := by decide +kernel
theorem dX7_marryFrom_89 : decode cX7_marryFrom 89 = .ok (.iastore, 1) := by decide +kernel
theorem dX7_marryFrom_90 : decode cX7_marryFrom 90 = .ok (.aload_n 0, 1) := by decide +kernel
theorem dX7_marryFrom_91 : decode cX7_marryFrom 91 = .ok (.iload_n 3, 1) := by decide +kernel
theorem dX7_marryFrom_92 : decode cX7_marryFrom 92 = .ok (.iconst 1, 1) := by decide +kernel
theorem dX7_marryFrom_93 : decode cX7_marryFrom 93 = .ok (.iadd, 1) := by decide +kernel
theorem dX7_marryFrom_94 : decode cX7_marryFrom 94 = .ok (.iload_n 2, 1) := by decide +kernel
theorem dX7_marryFrom_95 : decode cX7_marryFrom 95 = .ok (.aload_n 0, 1) := by decide +kernel
theorem dX7_marryFrom_96 : decode cX7_marryFrom 96 = .ok (.getfield 9, 3) := by decide +kernel
theorem dX7_marryFrom_99 : decode cX7_marryFrom 99 = .ok (.iload_n 3, 1) := by decide +kernel
theorem dX7_marryFrom_100 : decode cX7_marryFrom 100 = .ok (.iaload, 1) := by decide +kernel
theorem dX7_marryFrom_101 : decode cX7_marryFrom 101 = .ok (.aload_n 0, 1) := by decide +kernel
theorem dX7_marryFrom_102 : decode cX7_marryFrom 102 = .ok (.getfield 9, 3) := by decide +kernel
theorem dX7_marryFrom_105 : decode cX7_marryFrom 105 = .ok (.iload 4, 2) := by decide +kernel
theorem dX7_marryFrom_107 : decode cX7_marryFrom 107 = .ok (.iaload, 1) := by decide +kernel
theorem dX7_marryFrom_108 : decode cX7_marryFrom 108 = .ok (.iadd, 1) := by decide +kernel
theorem dX7_marryFrom_109 : decode cX7_marryFrom 109 = .ok (.invokestatic 69, 3) := by decide +kernel
theorem dX7_marryFrom_112 : decode cX7_marryFrom 112 = .ok (.invokevirtual 49, 3) := by decide +kernel
theorem dX7_marryFrom_115 : decode cX7_marryFrom 115 = .ok (.aload_n 0, 1) := by decide +kernel
theorem dX7_marryFrom_116 : decode cX7_marryFrom 116 = .ok (.getfield 15, 3) := by decide +kernel
theorem dX7_marryFrom_119 : decode cX7_marryFrom 119 = .ok (.iload_n 3, 1) := by decide +kernel
theorem dX7_marryFrom_120 : decode cX7_marryFrom 120 = .ok (.iconst (-1), 1) := by decide +kernel
theorem dX7_marryFrom_121 : decode cX7_marryFrom 121 = .ok (.iastore, 1) := by decide +kernel
theorem dX7_marryFrom_122 : decode cX7_marryFrom 122 = .ok (.aload_n 0, 1) := by decide +kernel
theorem dX7_marryFrom_123 : decode cX7_marryFrom 123 = .ok (.getfield 15, 3) := by decide +kernel
theorem dX7_marryFrom_126 : decode cX7_marryFrom 126 = .ok (.iload 4, 2) := by decide +kernel
theorem dX7_marryFrom_128 : decode cX7_marryFrom 128 = .ok (.iconst (-1), 1) := by decide +kernel
theorem dX7_marryFrom_129 : decode cX7_marryFrom 129 = .ok (.iastore, 1) := by decide +kernel
theorem dX7_marryFrom_130 : decode cX7_marryFrom 130 = .ok (.iinc 4 1, 3) := by decide +kernel
theorem dX7_marryFrom_133 : decode cX7_marryFrom 133 = .ok (.goto (-82), 3) := by decide +kernel
theorem dX7_marryFrom_136 : decode cX7_marryFrom 136 = .ok (.return_, 1) := by decide +kernel
theorem dX7_keepIfBetter_0 : decode cX7_keepIfBetter 0 = .ok (.aload_n 0, 1) := by decide +kernel
theorem dX7_keepIfBetter_1 : decode cX7_keepIfBetter 1 = .ok (.getfield 21, 3) := by decide +kernel
theorem dX7_keepIfBetter_4 : decode cX7_keepIfBetter 4 = .ok (.iconst (-1), 1) := by decide +kernel
theorem dX7_keepIfBetter_5 : decode cX7_keepIfBetter 5 = .ok (.if_icmp .eq 12, 3) := by decide +kernel
theorem dX7_keepIfBetter_8 : decode cX7_keepIfBetter 8 = .ok (.iload_n 1, 1) := by decide +kernel
theorem dX7_keepIfBetter_9 : decode cX7_keepIfBetter 9 = .ok (.aload_n 0, 1) := by decide +kernel
theorem dX7_keepIfBetter_10 : decode cX7_keepIfBetter 10 = .ok (.getfield 21, 3) := by decide +kernel
theorem dX7_keepIfBetter_13 : decode cX7_keepIfBetter 13 = .ok (.if_icmp .lt 4, 3) := by decide +kernel
theorem dX7_keepIfBetter_16 : decode cX7_keepIfBetter 16 = .ok (.return_, 1) := by decide +kernel
theorem dX7_keepIfBetter_17 : decode cX7_keepIfBetter 17 = .ok (.aload_n 0, 1) := by decide +kernel
theorem dX7_keepIfBetter_18 : decode cX7_keepIfBetter 18 = .ok (.iload_n 1, 1) := by decide +kernel
theorem dX7_keepIfBetter_19 : decode cX7_keepIfBetter 19 = .ok (.putfield 21, 3) := by decide +kernel
theorem dX7_keepIfBetter_22 : decode cX7_keepIfBetter 22 = .ok (.iconst 0, 1) := by decide +kernel
theorem dX7_keepIfBetter_23 : decode cX7_keepIfBetter 23 = .ok (.istore_n 2, 1) := by decide +kernel
theorem dX7_keepIfBetter_24 : decode cX7_keepIfBetter 24 = .ok (.iload_n 2, 1) := by decide +kernel
theorem dX7_keepIfBetter_25 : decode cX7_keepIfBetter 25 = .ok (.aload_n 0, 1) := by decide +kernel
theorem dX7_keepIfBetter_26 : decode cX7_keepIfBetter 26 = .ok (.getfield 25, 3) := by decide +kernel
theorem dX7_keepIfBetter_29 : decode cX7_keepIfBetter 29 = .ok (.getfield 39, 3) := by decide +kernel
theorem dX7_keepIfBetter_32 : decode cX7_keepIfBetter 32 = .ok (.if_icmp .ge 21, 3) := by decide +kernel
theorem dX7_keepIfBetter_35 : decode cX7_keepIfBetter 35 = .ok (.aload_n 0, 1) := by decide +kernel
theorem dX7_keepIfBetter_36 : decode cX7_keepIfBetter 36 = .ok (.getfield 18, 3) := by decide +kernel
theorem dX7_keepIfBetter_39 : decode cX7_keepIfBetter 39 = .ok (.iload_n 2, 1) := by decide +kernel
theorem dX7_keepIfBetter_40 : decode cX7_keepIfBetter 40 = .ok (.aload_n 0, 1) := by decide +kernel
theorem dX7_keepIfBetter_41 : decode cX7_keepIfBetter 41 = .ok (.getfield 15, 3) := by decide +kernel
theorem dX7_keepIfBetter_44 : decode cX7_keepIfBetter 44 = .ok (.iload_n 2, 1) := by decide +kernel
theorem dX7_keepIfBetter_45 : decode cX7_keepIfBetter 45 = .ok (.iaload, 1) := by decide +kernel
theorem dX7_keepIfBetter_46 : decode cX7_keepIfBetter 46 = .ok (.iastore, 1) := by decide +kernel
theorem dX7_keepIfBetter_47 : decode cX7_keepIfBetter 47 = .ok (.iinc 2 1, 3) := by decide +kernel
theorem dX7_keepIfBetter_50 : decode cX7_keepIfBetter 50 = .ok (.goto (-26), 3) := by decide +kernel
theorem dX7_keepIfBetter_53 : decode cX7_keepIfBetter 53 = .ok (.return_, 1) := by decide +kernel
