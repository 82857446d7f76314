theorem dX9_ordersOf_24 : decode cX9_ordersOf 24 = .ok (.iaload, 1) := by decide +kernel
theorem dX9_ordersOf_25 : decode cX9_ordersOf 25 = .ok (.iaload, 1) := by decide +kernel
theorem dX9_ordersOf_26 : decode cX9_ordersOf 26 = .ok (.if_icmp .ge 45, 3) := by decide +kernel
theorem dX9_ordersOf_29 : decode cX9_ordersOf 29 = .ok (.bipush 24, 2) := by decide +kernel
theorem dX9_ordersOf_31 : decode cX9_ordersOf 31 = .ok (.aload_n 0, 1) := by decide +kernel
theorem dX9_ordersOf_32 : decode cX9_ordersOf 32 = .ok (.getfield 7, 3) := by decide +kernel
theorem dX9_ordersOf_35 : decode cX9_ordersOf 35 = .ok (.iconst 3, 1) := by decide +kernel
theorem dX9_ordersOf_36 : decode cX9_ordersOf 36 = .ok (.iaload, 1) := by decide +kernel
theorem dX9_ordersOf_37 : decode cX9_ordersOf 37 = .ok (.imul, 1) := by decide +kernel
theorem dX9_ordersOf_38 : decode cX9_ordersOf 38 = .ok (.iload_n 3, 1) := by decide +kernel
theorem dX9_ordersOf_39 : decode cX9_ordersOf 39 = .ok (.iadd, 1) := by decide +kernel
theorem dX9_ordersOf_40 : decode cX9_ordersOf 40 = .ok (.istore 4, 2) := by decide +kernel
theorem dX9_ordersOf_42 : decode cX9_ordersOf 42 = .ok (.aload_n 0, 1) := by decide +kernel
theorem dX9_ordersOf_43 : decode cX9_ordersOf 43 = .ok (.getfield 30, 3) := by decide +kernel
theorem dX9_ordersOf_46 : decode cX9_ordersOf 46 = .ok (.iload 4, 2) := by decide +kernel
theorem dX9_ordersOf_48 : decode cX9_ordersOf 48 = .ok (.iaload, 1) := by decide +kernel
theorem dX9_ordersOf_49 : decode cX9_ordersOf 49 = .ok (.iload_n 1, 1) := by decide +kernel
theorem dX9_ordersOf_50 : decode cX9_ordersOf 50 = .ok (.if_icmp .ne 13, 3) := by decide +kernel
theorem dX9_ordersOf_53 : decode cX9_ordersOf 53 = .ok (.aload_n 0, 1) := by decide +kernel
theorem dX9_ordersOf_54 : decode cX9_ordersOf 54 = .ok (.getfield 33, 3) := by decide +kernel
theorem dX9_ordersOf_57 : decode cX9_ordersOf 57 = .ok (.iload 4, 2) := by decide +kernel
theorem dX9_ordersOf_59 : decode cX9_ordersOf 59 = .ok (.iaload, 1) := by decide +kernel
theorem dX9_ordersOf_60 : decode cX9_ordersOf 60 = .ok (.goto 4, 3) := by decide +kernel
theorem dX9_ordersOf_63 : decode cX9_ordersOf 63 = .ok (.iload_n 2, 1) := by decide +kernel
theorem dX9_ordersOf_64 : decode cX9_ordersOf 64 = .ok (.istore_n 2, 1) := by decide +kernel
theorem dX9_ordersOf_65 : decode cX9_ordersOf 65 = .ok (.iinc 3 1, 3) := by decide +kernel
theorem dX9_ordersOf_68 : decode cX9_ordersOf 68 = .ok (.goto (-64), 3) := by decide +kernel
theorem dX9_ordersOf_71 : decode cX9_ordersOf 71 = .ok (.iload_n 2, 1) := by decide +kernel
theorem dX9_ordersOf_72 : decode cX9_ordersOf 72 = .ok (.ireturn, 1) := by decide +kernel
theorem dX9_held_0 : decode cX9_held 0 = .ok (.lload_n 0, 1) := by decide +kernel
theorem dX9_held_1 : decode cX9_held 1 = .ok (.iload_n 2, 1) := by decide +kernel
theorem dX9_held_2 : decode cX9_held 2 = .ok (.i2l, 1) := by decide +kernel
theorem dX9_held_3 : decode cX9_held 3 = .ok (.lcmp, 1) := by decide +kernel
theorem dX9_held_4 : decode cX9_held 4 = .ok (.ifCond .ge 7, 3) := by decide +kernel
theorem dX9_held_7 : decode cX9_held 7 = .ok (.iload_n 2, 1) := by decide +kernel
theorem dX9_held_8 : decode cX9_held 8 = .ok (.goto 16, 3) := by decide +kernel
theorem dX9_held_11 : decode cX9_held 11 = .ok (.lload_n 0, 1) := by decide +kernel
theorem dX9_held_12 : decode cX9_held 12 = .ok (.iload_n 3, 1) := by decide +kernel
theorem dX9_held_13 : decode cX9_held 13 = .ok (.i2l, 1) := by decide +kernel
theorem dX9_held_14 : decode cX9_held 14 = .ok (.lcmp, 1) := by decide +kernel
theorem dX9_held_15 : decode cX9_held 15 = .ok (.ifCond .le 7, 3) := by decide +kernel
theorem dX9_held_18 : decode cX9_held 18 = .ok (.iload_n 3, 1) := by decide +kernel
theorem dX9_held_19 : decode cX9_held 19 = .ok (.goto 5, 3) := by decide +kernel
theorem dX9_held_22 : decode cX9_held 22 = .ok (.lload_n 0, 1) := by decide +kernel
theorem dX9_held_23 : decode cX9_held 23 = .ok (.l2i, 1) := by decide +kernel
theorem dX9_held_24 : decode cX9_held 24 = .ok (.ireturn, 1) := by decide +kernel
theorem dX9_lawOf_0 : decode cX9_lawOf 0 = .ok (.aload_n 0, 1) := by decide +kernel
theorem dX9_lawOf_1 : decode cX9_lawOf 1 = .ok (.iload_n 1, 1) := by decide +kernel
theorem dX9_lawOf_2 : decode cX9_lawOf 2 = .ok (.invokevirtual 296, 3) := by decide +kernel
theorem dX9_lawOf_5 : decode cX9_lawOf 5 = .ok (.istore 7, 2) := by decide +kernel
theorem dX9_lawOf_7 : decode cX9_lawOf 7 = .ok (.iload 7, 2) := by decide +kernel
theorem dX9_lawOf_9 : decode cX9_lawOf 9 = .ok (.iconst (-1), 1) := by decide +kernel
theorem dX9_lawOf_10 : decode cX9_lawOf 10 = .ok (.if_icmp .ne 44, 3) := by decide +kernel
theorem dX9_lawOf_13 : decode cX9_lawOf 13 = .ok (.iload_n 1, 1) := by decide +kernel
theorem dX9_lawOf_14 : decode cX9_lawOf 14 = .ok (.ifCond .ne 8, 3) := by decide +kernel
theorem dX9_lawOf_17 : decode cX9_lawOf 17 = .ok (.iload 4, 2) := by decide +kernel
theorem dX9_lawOf_19 : decode cX9_lawOf 19 = .ok (.goto 34, 3) := by decide +kernel
theorem dX9_lawOf_22 : decode cX9_lawOf 22 = .ok (.iload_n 1, 1) := by decide +kernel
theorem dX9_lawOf_23 : decode cX9_lawOf 23 = .ok (.iconst 1, 1) := by decide +kernel
theorem dX9_lawOf_24 : decode cX9_lawOf 24 = .ok (.if_icmp .ne 11, 3) := by decide +kernel
theorem dX9_lawOf_27 : decode cX9_lawOf 27 = .ok (.bipush 10, 2) := by decide +kernel
theorem dX9_lawOf_29 : decode cX9_lawOf 29 = .ok (.iload 4, 2) := by decide +kernel
theorem dX9_lawOf_31 : decode cX9_lawOf 31 = .ok (.imul, 1) := by decide +kernel
theorem dX9_lawOf_32 : decode cX9_lawOf 32 = .ok (.goto 21, 3) := by decide +kernel
theorem dX9_lawOf_35 : decode cX9_lawOf 35 = .ok (.iload_n 1, 1) := by decide +kernel
theorem dX9_lawOf_36 : decode cX9_lawOf 36 = .ok (.iconst 2, 1) := by decide +kernel
theorem dX9_lawOf_37 : decode cX9_lawOf 37 = .ok (.if_icmp .ne 7, 3) := by decide +kernel
theorem dX9_lawOf_40 : decode cX9_lawOf 40 = .ok (.iconst 0, 1) := by decide +kernel
theorem dX9_lawOf_41 : decode cX9_lawOf 41 = .ok (.goto 12, 3) := by decide +kernel
theorem dX9_lawOf_44 : decode cX9_lawOf 44 = .ok (.aload_n 0, 1) := by decide +kernel
theorem dX9_lawOf_45 : decode cX9_lawOf 45 = .ok (.getfield 7, 3) := by decide +kernel
theorem dX9_lawOf_48 : decode cX9_lawOf 48 = .ok (.bipush 10, 2) := by decide +kernel
theorem dX9_lawOf_50 : decode cX9_lawOf 50 = .ok (.iload_n 2, 1) := by decide +kernel
theorem dX9_lawOf_51 : decode cX9_lawOf 51 = .ok (.iadd, 1) := by decide +kernel
theorem dX9_lawOf_52 : decode cX9_lawOf 52 = .ok (.iaload, 1) := by decide +kernel
theorem dX9_lawOf_53 : decode cX9_lawOf 53 = .ok (.ireturn, 1) := by decide +kernel
theorem dX9_lawOf_54 : decode cX9_lawOf 54 = .ok (.aload_n 0, 1) := by decide +kernel
theorem dX9_lawOf_55 : decode cX9_lawOf 55 = .ok (.getfield 81, 3) := by decide +kernel
theorem dX9_lawOf_58 : decode cX9_lawOf 58 = .ok (.iconst 0, 1) := by decide +kernel
theorem dX9_lawOf_59 : decode cX9_lawOf 59 = .ok (.iload_n 2, 1) := by decide +kernel
theorem dX9_lawOf_60 : decode cX9_lawOf 60 = .ok (.iastore, 1) := by decide +kernel
theorem dX9_lawOf_61 : decode cX9_lawOf 61 = .ok (.aload_n 0, 1) := by decide +kernel
theorem dX9_lawOf_62 : decode cX9_lawOf 62 = .ok (.getfield 81, 3) := by decide +kernel
theorem dX9_lawOf_65 : decode cX9_lawOf 65 = .ok (.iconst 1, 1) := by decide +kernel
theorem dX9_lawOf_66 : decode cX9_lawOf 66 = .ok (.aload_n 0, 1) := by decide +kernel
theorem dX9_lawOf_67 : decode cX9_lawOf 67 = .ok (.getfield 7, 3) := by decide +kernel
theorem dX9_lawOf_70 : decode cX9_lawOf 70 = .ok (.bipush 10, 2) := by decide +kernel
theorem dX9_lawOf_72 : decode cX9_lawOf 72 = .ok (.iload_n 2, 1) := by decide +kernel
theorem dX9_lawOf_73 : decode cX9_lawOf 73 = .ok (.iadd, 1) := by decide +kernel
theorem dX9_lawOf_74 : decode cX9_lawOf 74 = .ok (.iaload, 1) := by decide +kernel
theorem dX9_lawOf_75 : decode cX9_lawOf 75 = .ok (.iastore, 1) := by decide +kernel
theorem dX9_lawOf_76 : decode cX9_lawOf 76 = .ok (.aload_n 0, 1) := by decide +kernel
theorem dX9_lawOf_77 : decode cX9_lawOf 77 = .ok (.getfield 81, 3) := by decide +kernel
theorem dX9_lawOf_80 : decode cX9_lawOf 80 = .ok (.iconst 2, 1) := by decide +kernel
theorem dX9_lawOf_81 : decode cX9_lawOf 81 = .ok (.iload_n 3, 1) := by decide +kernel
theorem dX9_lawOf_82 : decode cX9_lawOf 82 = .ok (.iastore, 1) := by decide +kernel
theorem dX9_lawOf_83 : decode cX9_lawOf 83 = .ok (.aload_n 0, 1) := by decide +kernel
theorem dX9_lawOf_84 : decode cX9_lawOf 84 = .ok (.getfield 81, 3) := by decide +kernel
theorem dX9_lawOf_87 : decode cX9_lawOf 87 = .ok (.iconst 3, 1) := by decide +kernel
theorem dX9_lawOf_88 : decode cX9_lawOf 88 = .ok (.iload 4, 2) := by decide +kernel
theorem dX9_lawOf_90 : decode cX9_lawOf 90 = .ok (.iastore, 1) := by decide +kernel
theorem dX9_lawOf_91 : decode cX9_lawOf 91 = .ok (.aload_n 0, 1) := by decide +kernel
theorem dX9_lawOf_92 : decode cX9_lawOf 92 = .ok (.getfield 81, 3) := by decide +kernel
theorem dX9_lawOf_95 : decode cX9_lawOf 95 = .ok (.iconst 4, 1) := by decide +kernel
theorem dX9_lawOf_96 : decode cX9_lawOf 96 = .ok (.iload 5, 2) := by decide +kernel
theorem dX9_lawOf_98 : decode cX9_lawOf 98 = .ok (.iastore, 1) := by decide +kernel
theorem dX9_lawOf_99 : decode cX9_lawOf 99 = .ok (.aload_n 0, 1) := by decide +kernel
theorem dX9_lawOf_100 : decode cX9_lawOf 100 = .ok (.getfield 81, 3) := by decide +kernel
theorem dX9_lawOf_103 : decode cX9_lawOf 103 = .ok (.iconst 5, 1) := by decide +kernel
theorem dX9_lawOf_104 : decode cX9_lawOf 104 = .ok (.iload 6, 2) := by decide +kernel
theorem dX9_lawOf_106 : decode cX9_lawOf 106 = .ok (.iastore, 1) := by decide +kernel
theorem dX9_lawOf_107 : decode cX9_lawOf 107 = .ok (.aload_n 0, 1) := by decide +kernel
theorem dX9_lawOf_108 : decode cX9_lawOf 108 = .ok (.getfield 81, 3) := by decide +kernel
theorem dX9_lawOf_111 : decode cX9_lawOf 111 = .ok (.bipush 6, 2) := by decide +kernel
theorem dX9_lawOf_113 : decode cX9_lawOf 113 = .ok (.aload_n 0, 1) := by decide +kernel
theorem dX9_lawOf_114 : decode cX9_lawOf 114 = .ok (.getfield 7, 3) := by decide +kernel
theorem dX9_lawOf_117 : decode cX9_lawOf 117 = .ok (.bipush 40, 2) := by decide +kernel
theorem dX9_lawOf_119 : decode cX9_lawOf 119 = .ok (.iload_n 2, 1) := by decide +kernel
theorem dX9_lawOf_120 : decode cX9_lawOf 120 = .ok (.iadd, 1) := by decide +kernel
theorem dX9_lawOf_121 : decode cX9_lawOf 121 = .ok (.iaload, 1) := by decide +kernel
theorem dX9_lawOf_122 : decode cX9_lawOf 122 = .ok (.iastore, 1) := by decide +kernel
theorem dX9_lawOf_123 : decode cX9_lawOf 123 = .ok (.aload_n 0, 1) := by decide +kernel
theorem dX9_lawOf_124 : decode cX9_lawOf 124 = .ok (.getfield 81, 3) := by decide +kernel
theorem dX9_lawOf_127 : decode cX9_lawOf 127 = .ok (.bipush 7, 2) := by decide +kernel
theorem dX9_lawOf_129 : decode cX9_lawOf 129 = .ok (.aload_n 0, 1) := by decide +kernel
theorem dX9_lawOf_130 : decode cX9_lawOf 130 = .ok (.getfield 7, 3) := by decide +kernel
theorem dX9_lawOf_133 : decode cX9_lawOf 133 = .ok (.bipush 48, 2) := by decide +kernel
theorem dX9_lawOf_135 : decode cX9_lawOf 135 = .ok (.iload_n 2, 1) := by decide +kernel
theorem dX9_lawOf_136 : decode cX9_lawOf 136 = .ok (.iadd, 1) := by decide +kernel
theorem dX9_lawOf_137 : decode cX9_lawOf 137 = .ok (.iaload, 1) := by decide +kernel
theorem dX9_lawOf_138 : decode cX9_lawOf 138 = .ok (.iastore, 1) := by decide +kernel
theorem dX9_lawOf_139 : decode cX9_lawOf 139 = .ok (.aload_n 0, 1) := by decide +kernel
theorem dX9_lawOf_140 : decode cX9_lawOf 140 = .ok (.iload 7, 2) := by decide +kernel
theorem dX9_lawOf_142 : decode cX9_lawOf 142 = .ok (.invokevirtual 299, 3) := by decide +kernel
theorem dX9_lawOf_145 : decode cX9_lawOf 145 = .ok (.iload_n 1, 1) := by decide +kernel
theorem dX9_lawOf_146 : decode cX9_lawOf 146 = .ok (.iconst 1, 1) := by decide +kernel
theorem dX9_lawOf_147 : decode cX9_lawOf 147 = .ok (.if_icmp .ne 7, 3) := by decide +kernel
theorem dX9_lawOf_150 : decode cX9_lawOf 150 = .ok (.iconst 1, 1) := by decide +kernel
theorem dX9_lawOf_151 : decode cX9_lawOf 151 = .ok (.goto 4, 3) := by decide +kernel
theorem dX9_lawOf_154 : decode cX9_lawOf 154 = .ok (.iconst 0, 1) := by decide +kernel
theorem dX9_lawOf_155 : decode cX9_lawOf 155 = .ok (.iload_n 1, 1) := by decide +kernel
theorem dX9_lawOf_156 : decode cX9_lawOf 156 = .ok (.iconst 3, 1) := by decide +kernel
theorem dX9_lawOf_157 : decode cX9_lawOf 157 = .ok (.if_icmp .ne 8, 3) := by decide +kernel
theorem dX9_lawOf_160 : decode cX9_lawOf 160 = .ok (.bipush 10, 2) := by decide +kernel
theorem dX9_lawOf_162 : decode cX9_lawOf 162 = .ok (.goto 5, 3) := by decide +kernel
theorem dX9_lawOf_165 : decode cX9_lawOf 165 = .ok (.bipush 99, 2) := by decide +kernel
theorem dX9_lawOf_167 : decode cX9_lawOf 167 = .ok (.invokestatic 303, 3) := by decide +kernel
theorem dX9_lawOf_170 : decode cX9_lawOf 170 = .ok (.ireturn, 1) := by decide +kernel
theorem dX9_lawFor_0 : decode cX9_lawFor 0 = .ok (.aload_n 0, 1) := by decide +kernel
theorem dX9_lawFor_1 : decode cX9_lawFor 1 = .ok (.iload_n 1, 1) := by decide +kernel
theorem dX9_lawFor_2 : decode cX9_lawFor 2 = .ok (.iload_n 2, 1) := by decide +kernel
theorem dX9_lawFor_3 : decode cX9_lawFor 3 = .ok (.iload_n 3, 1) := by decide +kernel
theorem dX9_lawFor_4 : decode cX9_lawFor 4 = .ok (.aload_n 0, 1) := by decide +kernel
theorem dX9_lawFor_5 : decode cX9_lawFor 5 = .ok (.iload_n 3, 1) := by decide +kernel
theorem dX9_lawFor_6 : decode cX9_lawFor 6 = .ok (.invokevirtual 307, 3) := by decide +kernel
theorem dX9_lawFor_9 : decode cX9_lawFor 9 = .ok (.aload_n 0, 1) := by decide +kernel
theorem dX9_lawFor_10 : decode cX9_lawFor 10 = .ok (.iload_n 3, 1) := by decide +kernel
theorem dX9_lawFor_11 : decode cX9_lawFor 11 = .ok (.invokevirtual 310, 3) := by decide +kernel
theorem dX9_lawFor_14 : decode cX9_lawFor 14 = .ok (.iload 4, 2) := by decide +kernel
theorem dX9_lawFor_16 : decode cX9_lawFor 16 = .ok (.invokevirtual 313, 3) := by decide +kernel
theorem dX9_lawFor_19 : decode cX9_lawFor 19 = .ok (.ireturn, 1) := by decide +kernel
theorem dX9_says_0 : decode cX9_says 0 = .ok (.aload_n 0, 1) := by decide +kernel
theorem dX9_says_1 : decode cX9_says 1 = .ok (.iload_n 1, 1) := by decide +kernel
theorem dX9_says_2 : decode cX9_says 2 = .ok (.invokevirtual 317, 3) := by decide +kernel
theorem dX9_says_5 : decode cX9_says 5 = .ok (.ifCond .eq 36, 3) := by decide +kernel
theorem dX9_says_8 : decode cX9_says 8 = .ok (.aload_n 0, 1) := by decide +kernel
theorem dX9_says_9 : decode cX9_says 9 = .ok (.iload_n 2, 1) := by decide +kernel
theorem dX9_says_10 : decode cX9_says 10 = .ok (.invokevirtual 320, 3) := by decide +kernel
theorem dX9_says_13 : decode cX9_says 13 = .ok (.ifCond .eq 28, 3) := by decide +kernel
theorem dX9_says_16 : decode cX9_says 16 = .ok (.iload_n 3, 1) := by decide +kernel
theorem dX9_says_17 : decode cX9_says 17 = .ok (.iconst 0, 1) := by decide +kernel
theorem dX9_says_18 : decode cX9_says 18 = .ok (.aload_n 0, 1) := by decide +kernel
theorem dX9_says_19 : decode cX9_says 19 = .ok (.iload_n 2, 1) := by decide +kernel
theorem dX9_says_20 : decode cX9_says 20 = .ok (.invokevirtual 310, 3) := by decide +kernel
theorem dX9_says_23 : decode cX9_says 23 = .ok (.iconst 1, 1) := by decide +kernel
theorem dX9_says_24 : decode cX9_says 24 = .ok (.isub, 1) := by decide +kernel
theorem dX9_says_25 : decode cX9_says 25 = .ok (.invokestatic 120, 3) := by decide +kernel
theorem dX9_says_28 : decode cX9_says 28 = .ok (.ifCond .eq 13, 3) := by decide +kernel
theorem dX9_says_31 : decode cX9_says 31 = .ok (.iload 4, 2) := by decide +kernel
theorem dX9_says_33 : decode cX9_says 33 = .ok (.iconst 0, 1) := by decide +kernel
theorem dX9_says_34 : decode cX9_says 34 = .ok (.iconst 3, 1) := by decide +kernel
theorem dX9_says_35 : decode cX9_says 35 = .ok (.invokestatic 120, 3) := by decide +kernel
theorem dX9_says_38 : decode cX9_says 38 = .ok (.ifCond .ne 6, 3) := by decide +kernel
theorem dX9_says_41 : decode cX9_says 41 = .ok (.bipush (-2), 2) := by decide +kernel
theorem dX9_says_43 : decode cX9_says 43 = .ok (.ireturn, 1) := by decide +kernel
theorem dX9_says_44 : decode cX9_says 44 = .ok (.aload_n 0, 1) := by decide +kernel
theorem dX9_says_45 : decode cX9_says 45 = .ok (.iload 4, 2) := by decide +kernel
theorem dX9_says_47 : decode cX9_says 47 = .ok (.iload_n 1, 1) := by decide +kernel
theorem dX9_says_48 : decode cX9_says 48 = .ok (.iload_n 2, 1) := by decide +kernel
theorem dX9_says_49 : decode cX9_says 49 = .ok (.iload_n 3, 1) := by decide +kernel
theorem dX9_says_50 : decode cX9_says 50 = .ok (.invokevirtual 323, 3) := by decide +kernel
theorem dX9_says_53 : decode cX9_says 53 = .ok (.ireturn, 1) := by decide +kernel
theorem dX9_buy_0 : decode cX9_buy 0 = .ok (.aload_n 0, 1) := by decide +kernel
theorem dX9_buy_1 : decode cX9_buy 1 = .ok (.iload_n 1, 1) := by decide +kernel
theorem dX9_buy_2 : decode cX9_buy 2 = .ok (.invokevirtual 317, 3) := by decide +kernel
theorem dX9_buy_5 : decode cX9_buy 5 = .ok (.ifCond .eq 41, 3) := by decide +kernel
theorem dX9_buy_8 : decode cX9_buy 8 = .ok (.aload_n 0, 1) := by decide +kernel
theorem dX9_buy_9 : decode cX9_buy 9 = .ok (.iload_n 2, 1) := by decide +kernel
theorem dX9_buy_10 : decode cX9_buy 10 = .ok (.invokevirtual 320, 3) := by decide +kernel
theorem dX9_buy_13 : decode cX9_buy 13 = .ok (.ifCond .eq 33, 3) := by decide +kernel
theorem dX9_buy_16 : decode cX9_buy 16 = .ok (.iload_n 3, 1) := by decide +kernel
theorem dX9_buy_17 : decode cX9_buy 17 = .ok (.aload_n 0, 1) := by decide +kernel
theorem dX9_buy_18 : decode cX9_buy 18 = .ok (.iload_n 2, 1) := by decide +kernel
theorem dX9_buy_19 : decode cX9_buy 19 = .ok (.iconst 2, 1) := by decide +kernel
theorem dX9_buy_20 : decode cX9_buy 20 = .ok (.invokevirtual 327, 3) := by decide +kernel
theorem dX9_buy_23 : decode cX9_buy 23 = .ok (.aload_n 0, 1) := by decide +kernel
theorem dX9_buy_24 : decode cX9_buy 24 = .ok (.iload_n 2, 1) := by decide +kernel
theorem dX9_buy_25 : decode cX9_buy 25 = .ok (.invokevirtual 310, 3) := by decide +kernel
theorem dX9_buy_28 : decode cX9_buy 28 = .ok (.iconst 1, 1) := by decide +kernel
theorem dX9_buy_29 : decode cX9_buy 29 = .ok (.isub, 1) := by decide +kernel
theorem dX9_buy_30 : decode cX9_buy 30 = .ok (.invokestatic 120, 3) := by decide +kernel
theorem dX9_buy_33 : decode cX9_buy 33 = .ok (.ifCond .eq 13, 3) := by decide +kernel
theorem dX9_buy_36 : decode cX9_buy 36 = .ok (.aload_n 0, 1) := by decide +kernel
theorem dX9_buy_37 : decode cX9_buy 37 = .ok (.iload_n 2, 1) := by decide +kernel
theorem dX9_buy_38 : decode cX9_buy 38 = .ok (.iload_n 3, 1) := by decide +kernel
theorem dX9_buy_39 : decode cX9_buy 39 = .ok (.invokevirtual 330, 3) := by decide +kernel
theorem dX9_buy_42 : decode cX9_buy 42 = .ok (.iconst (-1), 1) := by decide +kernel
theorem dX9_buy_43 : decode cX9_buy 43 = .ok (.if_icmp .eq 5, 3) := by decide +kernel
theorem dX9_buy_46 : decode cX9_buy 46 = .ok (.iconst (-1), 1) := by decide +kernel
theorem dX9_buy_47 : decode cX9_buy 47 = .ok (.ireturn, 1) := by decide +kernel
theorem dX9_buy_48 : decode cX9_buy 48 = .ok (.aload_n 0, 1) := by decide +kernel
theorem dX9_buy_49 : decode cX9_buy 49 = .ok (.iconst 0, 1) := by decide +kernel
theorem dX9_buy_50 : decode cX9_buy 50 = .ok (.iload_n 1, 1) := by decide +kernel
theorem dX9_buy_51 : decode cX9_buy 51 = .ok (.iload_n 2, 1) := by decide +kernel
theorem dX9_buy_52 : decode cX9_buy 52 = .ok (.iload_n 3, 1) := by decide +kernel
theorem dX9_buy_53 : decode cX9_buy 53 = .ok (.invokevirtual 323, 3) := by decide +kernel
theorem dX9_buy_56 : decode cX9_buy 56 = .ok (.istore 4, 2) := by decide +kernel
theorem dX9_buy_58 : decode cX9_buy 58 = .ok (.iload 4, 2) := by decide +kernel
theorem dX9_buy_60 : decode cX9_buy 60 = .ok (.aload_n 0, 1) := by decide +kernel
theorem dX9_buy_61 : decode cX9_buy 61 = .ok (.getfield 7, 3) := by decide +kernel
theorem dX9_buy_64 : decode cX9_buy 64 = .ok (.bipush 40, 2) := by decide +kernel
theorem dX9_buy_66 : decode cX9_buy 66 = .ok (.iload_n 1, 1) := by decide +kernel
theorem dX9_buy_67 : decode cX9_buy 67 = .ok (.iadd, 1) := by decide +kernel
theorem dX9_buy_68 : decode cX9_buy 68 = .ok (.iaload, 1) := by decide +kernel
theorem dX9_buy_69 : decode cX9_buy 69 = .ok (.if_icmp .le 5, 3) := by decide +kernel
theorem dX9_buy_72 : decode cX9_buy 72 = .ok (.iconst (-1), 1) := by decide +kernel
theorem dX9_buy_73 : decode cX9_buy 73 = .ok (.ireturn, 1) := by decide +kernel
theorem dX9_buy_74 : decode cX9_buy 74 = .ok (.aload_n 0, 1) := by decide +kernel
theorem dX9_buy_75 : decode cX9_buy 75 = .ok (.invokevirtual 333, 3) := by decide +kernel
theorem dX9_buy_78 : decode cX9_buy 78 = .ok (.aload_n 0, 1) := by decide +kernel
theorem dX9_buy_79 : decode cX9_buy 79 = .ok (.getfield 7, 3) := by decide +kernel
theorem dX9_buy_82 : decode cX9_buy 82 = .ok (.bipush 40, 2) := by decide +kernel
theorem dX9_buy_84 : decode cX9_buy 84 = .ok (.iload_n 1, 1) := by decide +kernel
theorem dX9_buy_85 : decode cX9_buy 85 = .ok (.iadd, 1) := by decide +kernel
theorem dX9_buy_86 : decode cX9_buy 86 = .ok (.dup2, 1) := by decide +kernel
theorem dX9_buy_87 : decode cX9_buy 87 = .ok (.iaload, 1) := by decide +kernel
theorem dX9_buy_88 : decode cX9_buy 88 = .ok (.iload 4, 2) := by decide +kernel
theorem dX9_buy_90 : decode cX9_buy 90 = .ok (.isub, 1) := by decide +kernel
theorem dX9_buy_91 : decode cX9_buy 91 = .ok (.iastore, 1) := by decide +kernel
theorem dX9_buy_92 : decode cX9_buy 92 = .ok (.aload_n 0, 1) := by decide +kernel
theorem dX9_buy_93 : decode cX9_buy 93 = .ok (.iload_n 2, 1) := by decide +kernel
theorem dX9_buy_94 : decode cX9_buy 94 = .ok (.iconst 3, 1) := by decide +kernel
theorem dX9_buy_95 : decode cX9_buy 95 = .ok (.iload_n 3, 1) := by decide +kernel
theorem dX9_buy_96 : decode cX9_buy 96 = .ok (.iadd, 1) := by decide +kernel
theorem dX9_buy_97 : decode cX9_buy 97 = .ok (.iload_n 1, 1) := by decide +kernel
theorem dX9_buy_98 : decode cX9_buy 98 = .ok (.invokevirtual 336, 3) := by decide +kernel
theorem dX9_buy_101 : decode cX9_buy 101 = .ok (.aload_n 0, 1) := by decide +kernel
theorem dX9_buy_102 : decode cX9_buy 102 = .ok (.getfield 7, 3) := by decide +kernel
theorem dX9_buy_105 : decode cX9_buy 105 = .ok (.bipush 40, 2) := by decide +kernel
theorem dX9_buy_107 : decode cX9_buy 107 = .ok (.iload_n 1, 1) := by decide +kernel
theorem dX9_buy_108 : decode cX9_buy 108 = .ok (.iadd, 1) := by decide +kernel
theorem dX9_buy_109 : decode cX9_buy 109 = .ok (.iaload, 1) := by decide +kernel
theorem dX9_buy_110 : decode cX9_buy 110 = .ok (.ireturn, 1) := by decide +kernel
theorem dX9_light_0 : decode cX9_light 0 = .ok (.aload_n 0, 1) := by decide +kernel
theorem dX9_light_1 : decode cX9_light 1 = .ok (.iload_n 1, 1) := by decide +kernel
theorem dX9_light_2 : decode cX9_light 2 = .ok (.invokevirtual 320, 3) := by decide +kernel
theorem dX9_light_5 : decode cX9_light 5 = .ok (.ifCond .ne 5, 3) := by decide +kernel
theorem dX9_light_8 : decode cX9_light 8 = .ok (.iconst (-1), 1) := by decide +kernel
theorem dX9_light_9 : decode cX9_light 9 = .ok (.ireturn, 1) := by decide +kernel
theorem dX9_light_10 : decode cX9_light 10 = .ok (.aload_n 0, 1) := by decide +kernel
theorem dX9_light_11 : decode cX9_light 11 = .ok (.iload_n 1, 1) := by decide +kernel
theorem dX9_light_12 : decode cX9_light 12 = .ok (.iconst 0, 1) := by decide +kernel
theorem dX9_light_13 : decode cX9_light 13 = .ok (.invokevirtual 327, 3) := by decide +kernel
theorem dX9_light_16 : decode cX9_light 16 = .ok (.istore_n 2, 1) := by decide +kernel
theorem dX9_light_17 : decode cX9_light 17 = .ok (.iload_n 2, 1) := by decide +kernel
theorem dX9_light_18 : decode cX9_light 18 = .ok (.ifCond .ne 12, 3) := by decide +kernel
theorem dX9_light_21 : decode cX9_light 21 = .ok (.aload_n 0, 1) := by decide +kernel
theorem dX9_light_22 : decode cX9_light 22 = .ok (.iload_n 1, 1) := by decide +kernel
theorem dX9_light_23 : decode cX9_light 23 = .ok (.iconst 0, 1) := by decide +kernel
theorem dX9_light_24 : decode cX9_light 24 = .ok (.invokevirtual 330, 3) := by decide +kernel
theorem dX9_light_27 : decode cX9_light 27 = .ok (.goto 9, 3) := by decide +kernel
theorem dX9_light_30 : decode cX9_light 30 = .ok (.aload_n 0, 1) := by decide +kernel
theorem dX9_light_31 : decode cX9_light 31 = .ok (.iload_n 1, 1) := by decide +kernel
theorem dX9_light_32 : decode cX9_light 32 = .ok (.iconst 1, 1) := by decide +kernel
theorem dX9_light_33 : decode cX9_light 33 = .ok (.invokevirtual 327, 3) := by decide +kernel
theorem dX9_light_36 : decode cX9_light 36 = .ok (.istore_n 3, 1) := by decide +kernel
theorem dX9_light_37 : decode cX9_light 37 = .ok (.iload_n 2, 1) := by decide +kernel
theorem dX9_light_38 : decode cX9_light 38 = .ok (.iconst 1, 1) := by decide +kernel
theorem dX9_light_39 : decode cX9_light 39 = .ok (.if_icmp .eq 30, 3) := by decide +kernel
theorem dX9_light_42 : decode cX9_light 42 = .ok (.iload_n 2, 1) := by decide +kernel
theorem dX9_light_43 : decode cX9_light 43 = .ok (.iconst 3, 1) := by decide +kernel
theorem dX9_light_44 : decode cX9_light 44 = .ok (.if_icmp .eq 25, 3) := by decide +kernel
theorem dX9_light_47 : decode cX9_light 47 = .ok (.iload_n 3, 1) := by decide +kernel
theorem dX9_light_48 : decode cX9_light 48 = .ok (.iconst (-1), 1) := by decide +kernel
theorem dX9_light_49 : decode cX9_light 49 = .ok (.if_icmp .eq 20, 3) := by decide +kernel
theorem dX9_light_52 : decode cX9_light 52 = .ok (.iload_n 2, 1) := by decide +kernel
theorem dX9_light_53 : decode cX9_light 53 = .ok (.iconst 2, 1) := by decide +kernel
theorem dX9_light_54 : decode cX9_light 54 = .ok (.if_icmp .ne 17, 3) := by decide +kernel
theorem dX9_light_57 : decode cX9_light 57 = .ok (.aload_n 0, 1) := by decide +kernel
theorem dX9_light_58 : decode cX9_light 58 = .ok (.getfield 7, 3) := by decide +kernel
theorem dX9_light_61 : decode cX9_light 61 = .ok (.bipush 40, 2) := by decide +kernel
theorem dX9_light_63 : decode cX9_light 63 = .ok (.iload_n 3, 1) := by decide +kernel
theorem dX9_light_64 : decode cX9_light 64 = .ok (.iadd, 1) := by decide +kernel
theorem dX9_light_65 : decode cX9_light 65 = .ok (.iaload, 1) := by decide +kernel
theorem dX9_light_66 : decode cX9_light 66 = .ok (.ifCond .ne 5, 3) := by decide +kernel
theorem dX9_light_69 : decode cX9_light 69 = .ok (.iconst (-1), 1) := by decide +kernel
theorem dX9_light_70 : decode cX9_light 70 = .ok (.ireturn, 1) := by decide +kernel
theorem dX9_light_71 : decode cX9_light 71 = .ok (.aload_n 0, 1) := by decide +kernel
theorem dX9_light_72 : decode cX9_light 72 = .ok (.invokevirtual 333, 3) := by decide +kernel
theorem dX9_light_75 : decode cX9_light 75 = .ok (.iload_n 2, 1) := by decide +kernel
theorem dX9_light_76 : decode cX9_light 76 = .ok (.iconst 2, 1) := by decide +kernel
theorem dX9_light_77 : decode cX9_light 77 = .ok (.if_icmp .ne 16, 3) := by decide +kernel
theorem dX9_light_80 : decode cX9_light 80 = .ok (.aload_n 0, 1) := by decide +kernel
theorem dX9_light_81 : decode cX9_light 81 = .ok (.getfield 7, 3) := by decide +kernel
theorem dX9_light_84 : decode cX9_light 84 = .ok (.bipush 40, 2) := by decide +kernel
theorem dX9_light_86 : decode cX9_light 86 = .ok (.iload_n 3, 1) := by decide +kernel
theorem dX9_light_87 : decode cX9_light 87 = .ok (.iadd, 1) := by decide +kernel
theorem dX9_light_88 : decode cX9_light 88 = .ok (.dup2, 1) := by decide +kernel
theorem dX9_light_89 : decode cX9_light 89 = .ok (.iaload, 1) := by decide +kernel
theorem dX9_light_90 : decode cX9_light 90 = .ok (.iconst 1, 1) := by decide +kernel
theorem dX9_light_91 : decode cX9_light 91 = .ok (.isub, 1) := by decide +kernel
theorem dX9_light_92 : decode cX9_light 92 = .ok (.iastore, 1) := by decide +kernel
theorem dX9_light_93 : decode cX9_light 93 = .ok (.aload_n 0, 1) := by decide +kernel
theorem dX9_light_94 : decode cX9_light 94 = .ok (.iload_n 1, 1) := by decide +kernel
theorem dX9_light_95 : decode cX9_light 95 = .ok (.iconst 0, 1) := by decide +kernel
theorem dX9_light_96 : decode cX9_light 96 = .ok (.iconst 1, 1) := by decide +kernel
theorem dX9_light_97 : decode cX9_light 97 = .ok (.invokevirtual 336, 3) := by decide +kernel
theorem dX9_light_100 : decode cX9_light 100 = .ok (.aload_n 0, 1) := by decide +kernel
theorem dX9_light_101 : decode cX9_light 101 = .ok (.iload_n 1, 1) := by decide +kernel
theorem dX9_light_102 : decode cX9_light 102 = .ok (.iconst 1, 1) := by decide +kernel
theorem dX9_light_103 : decode cX9_light 103 = .ok (.iload_n 3, 1) := by decide +kernel
theorem dX9_light_104 : decode cX9_light 104 = .ok (.invokevirtual 336, 3) := by decide +kernel
theorem dX9_light_107 : decode cX9_light 107 = .ok (.iload_n 3, 1) := by decide +kernel
theorem dX9_light_108 : decode cX9_light 108 = .ok (.ireturn, 1) := by decide +kernel
theorem dX9_least_0 : decode cX9_least 0 = .ok (.iload_n 0, 1) := by decide +kernel
theorem dX9_least_1 : decode cX9_least 1 = .ok (.iload_n 1, 1) := by decide +kernel
theorem dX9_least_2 : decode cX9_least 2 = .ok (.if_icmp .ge 7, 3) := by decide +kernel
theorem dX9_least_5 : decode cX9_least 5 = .ok (.iload_n 0, 1) := by decide +kernel
theorem dX9_least_6 : decode cX9_least 6 = .ok (.goto 4, 3) := by decide +kernel
theorem dX9_least_9 : decode cX9_least 9 = .ok (.iload_n 1, 1) := by decide +kernel
theorem dX9_least_10 : decode cX9_least 10 = .ok (.ireturn, 1) := by decide +kernel
theorem dX9_burn_0 : decode cX9_burn 0 = .ok (.aload_n 0, 1) := by decide +kernel
theorem dX9_burn_1 : decode cX9_burn 1 = .ok (.iload_n 1, 1) := by decide +kernel
theorem dX9_burn_2 : decode cX9_burn 2 = .ok (.invokevirtual 320, 3) := by decide +kernel
theorem dX9_burn_5 : decode cX9_burn 5 = .ok (.ifCond .eq 13, 3) := by decide +kernel
theorem dX9_burn_8 : decode cX9_burn 8 = .ok (.aload_n 0, 1) := by decide +kernel
theorem dX9_burn_9 : decode cX9_burn 9 = .ok (.iload_n 1, 1) := by decide +kernel
theorem dX9_burn_10 : decode cX9_burn 10 = .ok (.iconst 0, 1) := by decide +kernel
theorem dX9_burn_11 : decode cX9_burn 11 = .ok (.invokevirtual 327, 3) := by decide +kernel
theorem dX9_burn_14 : decode cX9_burn 14 = .ok (.iconst 1, 1) := by decide +kernel
theorem dX9_burn_15 : decode cX9_burn 15 = .ok (.if_icmp .eq 5, 3) := by decide +kernel
theorem dX9_burn_18 : decode cX9_burn 18 = .ok (.iconst (-1), 1) := by decide +kernel
theorem dX9_burn_19 : decode cX9_burn 19 = .ok (.ireturn, 1) := by decide +kernel
theorem dX9_burn_20 : decode cX9_burn 20 = .ok (.aload_n 0, 1) := by decide +kernel
theorem dX9_burn_21 : decode cX9_burn 21 = .ok (.invokevirtual 333, 3) := by decide +kernel
theorem dX9_burn_24 : decode cX9_burn 24 = .ok (.aload_n 0, 1) := by decide +kernel
theorem dX9_burn_25 : decode cX9_burn 25 = .ok (.iload_n 1, 1) := by decide +kernel
theorem dX9_burn_26 : decode cX9_burn 26 = .ok (.iconst 1, 1) := by decide +kernel
theorem dX9_burn_27 : decode cX9_burn 27 = .ok (.invokevirtual 327, 3) := by decide +kernel
theorem dX9_burn_30 : decode cX9_burn 30 = .ok (.istore_n 2, 1) := by decide +kernel
theorem dX9_burn_31 : decode cX9_burn 31 = .ok (.aload_n 0, 1) := by decide +kernel
theorem dX9_burn_32 : decode cX9_burn 32 = .ok (.iload_n 1, 1) := by decide +kernel
theorem dX9_burn_33 : decode cX9_burn 33 = .ok (.iconst 2, 1) := by decide +kernel
theorem dX9_burn_34 : decode cX9_burn 34 = .ok (.invokevirtual 327, 3) := by decide +kernel
theorem dX9_burn_37 : decode cX9_burn 37 = .ok (.istore_n 3, 1) := by decide +kernel
theorem dX9_burn_38 : decode cX9_burn 38 = .ok (.aload_n 0, 1) := by decide +kernel
theorem dX9_burn_39 : decode cX9_burn 39 = .ok (.iconst 1, 1) := by decide +kernel
theorem dX9_burn_40 : decode cX9_burn 40 = .ok (.iload_n 2, 1) := by decide +kernel
theorem dX9_burn_41 : decode cX9_burn 41 = .ok (.iload_n 1, 1) := by decide +kernel
theorem dX9_burn_42 : decode cX9_burn 42 = .ok (.iload_n 3, 1) := by decide +kernel
theorem dX9_burn_43 : decode cX9_burn 43 = .ok (.invokevirtual 323, 3) := by decide +kernel
theorem dX9_burn_46 : decode cX9_burn 46 = .ok (.istore 4, 2) := by decide +kernel
theorem dX9_burn_48 : decode cX9_burn 48 = .ok (.aload_n 0, 1) := by decide +kernel
theorem dX9_burn_49 : decode cX9_burn 49 = .ok (.iconst 2, 1) := by decide +kernel
theorem dX9_burn_50 : decode cX9_burn 50 = .ok (.iload_n 2, 1) := by decide +kernel
theorem dX9_burn_51 : decode cX9_burn 51 = .ok (.iload_n 1, 1) := by decide +kernel
theorem dX9_burn_52 : decode cX9_burn 52 = .ok (.iload_n 3, 1) := by decide +kernel
theorem dX9_burn_53 : decode cX9_burn 53 = .ok (.invokevirtual 323, 3) := by decide +kernel
theorem dX9_burn_56 : decode cX9_burn 56 = .ok (.istore 5, 2) := by decide +kernel
theorem dX9_burn_58 : decode cX9_burn 58 = .ok (.aload_n 0, 1) := by decide +kernel
theorem dX9_burn_59 : decode cX9_burn 59 = .ok (.iconst 0, 1) := by decide +kernel
theorem dX9_burn_60 : decode cX9_burn 60 = .ok (.iload_n 2, 1) := by decide +kernel
theorem dX9_burn_61 : decode cX9_burn 61 = .ok (.iload_n 1, 1) := by decide +kernel
theorem dX9_burn_62 : decode cX9_burn 62 = .ok (.iload_n 3, 1) := by decide +kernel
theorem dX9_burn_63 : decode cX9_burn 63 = .ok (.invokevirtual 323, 3) := by decide +kernel
theorem dX9_burn_66 : decode cX9_burn 66 = .ok (.istore 6, 2) := by decide +kernel
theorem dX9_burn_68 : decode cX9_burn 68 = .ok (.aload_n 0, 1) := by decide +kernel
theorem dX9_burn_69 : decode cX9_burn 69 = .ok (.getfield 7, 3) := by decide +kernel
theorem dX9_burn_72 : decode cX9_burn 72 = .ok (.bipush 56, 2) := by decide +kernel
theorem dX9_burn_74 : decode cX9_burn 74 = .ok (.iload_n 2, 1) := by decide +kernel
theorem dX9_burn_75 : decode cX9_burn 75 = .ok (.iadd, 1) := by decide +kernel
theorem dX9_burn_76 : decode cX9_burn 76 = .ok (.dup2, 1) := by decide +kernel
theorem dX9_burn_77 : decode cX9_burn 77 = .ok (.iaload, 1) := by decide +kernel
theorem dX9_burn_78 : decode cX9_burn 78 = .ok (.iload 4, 2) := by decide +kernel
theorem dX9_burn_80 : decode cX9_burn 80 = .ok (.iadd, 1) := by decide +kernel
theorem dX9_burn_81 : decode cX9_burn 81 = .ok (.iastore, 1) := by decide +kernel
theorem dX9_burn_82 : decode cX9_burn 82 = .ok (.aload_n 0, 1) := by decide +kernel
theorem dX9_burn_83 : decode cX9_burn 83 = .ok (.getfield 7, 3) := by decide +kernel
theorem dX9_burn_86 : decode cX9_burn 86 = .ok (.bipush 40, 2) := by decide +kernel
theorem dX9_burn_88 : decode cX9_burn 88 = .ok (.iload_n 2, 1) := by decide +kernel
theorem dX9_burn_89 : decode cX9_burn 89 = .ok (.iadd, 1) := by decide +kernel
theorem dX9_burn_90 : decode cX9_burn 90 = .ok (.sipush 999, 3) := by decide +kernel
theorem dX9_burn_93 : decode cX9_burn 93 = .ok (.aload_n 0, 1) := by decide +kernel
theorem dX9_burn_94 : decode cX9_burn 94 = .ok (.getfield 7, 3) := by decide +kernel
theorem dX9_burn_97 : decode cX9_burn 97 = .ok (.bipush 40, 2) := by decide +kernel
theorem dX9_burn_99 : decode cX9_burn 99 = .ok (.iload_n 2, 1) := by decide +kernel
theorem dX9_burn_100 : decode cX9_burn 100 = .ok (.iadd, 1) := by decide +kernel
theorem dX9_burn_101 : decode cX9_burn 101 = .ok (.iaload, 1) := by decide +kernel
theorem dX9_burn_102 : decode cX9_burn 102 = .ok (.iload 5, 2) := by decide +kernel
theorem dX9_burn_104 : decode cX9_burn 104 = .ok (.iadd, 1) := by decide +kernel
theorem dX9_burn_105 : decode cX9_burn 105 = .ok (.invokestatic 340, 3) := by decide +kernel
theorem dX9_burn_108 : decode cX9_burn 108 = .ok (.iastore, 1) := by decide +kernel
theorem dX9_burn_109 : decode cX9_burn 109 = .ok (.aload_n 0, 1) := by decide +kernel
theorem dX9_burn_110 : decode cX9_burn 110 = .ok (.iload_n 1, 1) := by decide +kernel
theorem dX9_burn_111 : decode cX9_burn 111 = .ok (.iload_n 3, 1) := by decide +kernel
theorem dX9_burn_112 : decode cX9_burn 112 = .ok (.invokevirtual 330, 3) := by decide +kernel
theorem dX9_burn_115 : decode cX9_burn 115 = .ok (.iconst (-1), 1) := by decide +kernel
theorem dX9_burn_116 : decode cX9_burn 116 = .ok (.if_icmp .ne 30, 3) := by decide +kernel
theorem dX9_burn_119 : decode cX9_burn 119 = .ok (.aload_n 0, 1) := by decide +kernel
theorem dX9_burn_120 : decode cX9_burn 120 = .ok (.getfield 7, 3) := by decide +kernel
theorem dX9_burn_123 : decode cX9_burn 123 = .ok (.bipush 48, 2) := by decide +kernel
theorem dX9_burn_125 : decode cX9_burn 125 = .ok (.iload_n 2, 1) := by decide +kernel
theorem dX9_burn_126 : decode cX9_burn 126 = .ok (.iadd, 1) := by decide +kernel
theorem dX9_burn_127 : decode cX9_burn 127 = .ok (.sipush 999, 3) := by decide +kernel
theorem dX9_burn_130 : decode cX9_burn 130 = .ok (.aload_n 0, 1) := by decide +kernel
theorem dX9_burn_131 : decode cX9_burn 131 = .ok (.getfield 7, 3) := by decide +kernel
theorem dX9_burn_134 : decode cX9_burn 134 = .ok (.bipush 48, 2) := by decide +kernel
theorem dX9_burn_136 : decode cX9_burn 136 = .ok (.iload_n 2, 1) := by decide +kernel
theorem dX9_burn_137 : decode cX9_burn 137 = .ok (.iadd, 1) := by decide +kernel
theorem dX9_burn_138 : decode cX9_burn 138 = .ok (.iaload, 1) := by decide +kernel
theorem dX9_burn_139 : decode cX9_burn 139 = .ok (.iload 6, 2) := by decide +kernel
theorem dX9_burn_141 : decode cX9_burn 141 = .ok (.iadd, 1) := by decide +kernel
theorem dX9_burn_142 : decode cX9_burn 142 = .ok (.invokestatic 340, 3) := by decide +kernel
theorem dX9_burn_145 : decode cX9_burn 145 = .ok (.iastore, 1) := by decide +kernel
theorem dX9_burn_146 : decode cX9_burn 146 = .ok (.sipush 155, 3) := by decide +kernel
theorem dX9_burn_149 : decode cX9_burn 149 = .ok (.iconst 5, 1) := by decide +kernel
theorem dX9_burn_150 : decode cX9_burn 150 = .ok (.aload_n 0, 1) := by decide +kernel
theorem dX9_burn_151 : decode cX9_burn 151 = .ok (.getfield 7, 3) := by decide +kernel
theorem dX9_burn_154 : decode cX9_burn 154 = .ok (.sipush 154, 3) := by decide +kernel
theorem dX9_burn_157 : decode cX9_burn 157 = .ok (.iaload, 1) := by decide +kernel
theorem dX9_burn_158 : decode cX9_burn 158 = .ok (.imul, 1) := by decide +kernel
theorem dX9_burn_159 : decode cX9_burn 159 = .ok (.iadd, 1) := by decide +kernel
theorem dX9_burn_160 : decode cX9_burn 160 = .ok (.istore 7, 2) := by decide +kernel
theorem dX9_burn_162 : decode cX9_burn 162 = .ok (.aload_n 0, 1) := by decide +kernel
theorem dX9_burn_163 : decode cX9_burn 163 = .ok (.getfield 7, 3) := by decide +kernel
theorem dX9_burn_166 : decode cX9_burn 166 = .ok (.iload 7, 2) := by decide +kernel
theorem dX9_burn_168 : decode cX9_burn 168 = .ok (.iload_n 1, 1) := by decide +kernel
theorem dX9_burn_169 : decode cX9_burn 169 = .ok (.iastore, 1) := by decide +kernel
theorem dX9_burn_170 : decode cX9_burn 170 = .ok (.aload_n 0, 1) := by decide +kernel
theorem dX9_burn_171 : decode cX9_burn 171 = .ok (.getfield 7, 3) := by decide +kernel
theorem dX9_burn_174 : decode cX9_burn 174 = .ok (.iload 7, 2) := by decide +kernel
theorem dX9_burn_176 : decode cX9_burn 176 = .ok (.iconst 1, 1) := by decide +kernel
theorem dX9_burn_177 : decode cX9_burn 177 = .ok (.iadd, 1) := by decide +kernel
theorem dX9_burn_178 : decode cX9_burn 178 = .ok (.iload_n 3, 1) := by decide +kernel
theorem dX9_burn_179 : decode cX9_burn 179 = .ok (.iastore, 1) := by decide +kernel
theorem dX9_burn_180 : decode cX9_burn 180 = .ok (.aload_n 0, 1) := by decide +kernel
theorem dX9_burn_181 : decode cX9_burn 181 = .ok (.getfield 7, 3) := by decide +kernel
theorem dX9_burn_184 : decode cX9_burn 184 = .ok (.iload 7, 2) := by decide +kernel
theorem dX9_burn_186 : decode cX9_burn 186 = .ok (.iconst 2, 1) := by decide +kernel
theorem dX9_burn_187 : decode cX9_burn 187 = .ok (.iadd, 1) := by decide +kernel
theorem dX9_burn_188 : decode cX9_burn 188 = .ok (.iload_n 2, 1) := by decide +kernel
theorem dX9_burn_189 : decode cX9_burn 189 = .ok (.iastore, 1) := by decide +kernel
theorem dX9_burn_190 : decode cX9_burn 190 = .ok (.aload_n 0, 1) := by decide +kernel
theorem dX9_burn_191 : decode cX9_burn 191 = .ok (.getfield 7, 3) := by decide +kernel
theorem dX9_burn_194 : decode cX9_burn 194 = .ok (.iload 7, 2) := by decide +kernel
theorem dX9_burn_196 : decode cX9_burn 196 = .ok (.iconst 3, 1) := by decide +kernel
theorem dX9_burn_197 : decode cX9_burn 197 = .ok (.iadd, 1) := by decide +kernel
theorem dX9_burn_198 : decode cX9_burn 198 = .ok (.iload 4, 2) := by decide +kernel
theorem dX9_burn_200 : decode cX9_burn 200 = .ok (.iastore, 1) := by decide +kernel
theorem dX9_burn_201 : decode cX9_burn 201 = .ok (.aload_n 0, 1) := by decide +kernel
theorem dX9_burn_202 : decode cX9_burn 202 = .ok (.getfield 7, 3) := by decide +kernel
theorem dX9_burn_205 : decode cX9_burn 205 = .ok (.iload 7, 2) := by decide +kernel
theorem dX9_burn_207 : decode cX9_burn 207 = .ok (.iconst 4, 1) := by decide +kernel
theorem dX9_burn_208 : decode cX9_burn 208 = .ok (.iadd, 1) := by decide +kernel
theorem dX9_burn_209 : decode cX9_burn 209 = .ok (.iload 5, 2) := by decide +kernel
theorem dX9_burn_211 : decode cX9_burn 211 = .ok (.iastore, 1) := by decide +kernel
theorem dX9_burn_212 : decode cX9_burn 212 = .ok (.aload_n 0, 1) := by decide +kernel
theorem dX9_burn_213 : decode cX9_burn 213 = .ok (.getfield 7, 3) := by decide +kernel
theorem dX9_burn_216 : decode cX9_burn 216 = .ok (.sipush 154, 3) := by decide +kernel
theorem dX9_burn_219 : decode cX9_burn 219 = .ok (.dup2, 1) := by decide +kernel
theorem dX9_burn_220 : decode cX9_burn 220 = .ok (.iaload, 1) := by decide +kernel
theorem dX9_burn_221 : decode cX9_burn 221 = .ok (.iconst 1, 1) := by decide +kernel
theorem dX9_burn_222 : decode cX9_burn 222 = .ok (.iadd, 1) := by decide +kernel
theorem dX9_burn_223 : decode cX9_burn 223 = .ok (.iastore, 1) := by decide +kernel
theorem dX9_burn_224 : decode cX9_burn 224 = .ok (.iinc 3 1, 3) := by decide +kernel
theorem dX9_burn_227 : decode cX9_burn 227 = .ok (.aload_n 0, 1) := by decide +kernel
theorem dX9_burn_228 : decode cX9_burn 228 = .ok (.iload_n 1, 1) := by decide +kernel
theorem dX9_burn_229 : decode cX9_burn 229 = .ok (.iconst 2, 1) := by decide +kernel
theorem dX9_burn_230 : decode cX9_burn 230 = .ok (.iload_n 3, 1) := by decide +kernel
theorem dX9_burn_231 : decode cX9_burn 231 = .ok (.invokevirtual 336, 3) := by decide +kernel
theorem dX9_burn_234 : decode cX9_burn 234 = .ok (.iload_n 3, 1) := by decide +kernel
theorem dX9_burn_235 : decode cX9_burn 235 = .ok (.aload_n 0, 1) := by decide +kernel
theorem dX9_burn_236 : decode cX9_burn 236 = .ok (.iload_n 1, 1) := by decide +kernel
theorem dX9_burn_237 : decode cX9_burn 237 = .ok (.invokevirtual 310, 3) := by decide +kernel
theorem dX9_burn_240 : decode cX9_burn 240 = .ok (.if_icmp .ne 13, 3) := by decide +kernel
theorem dX9_burn_243 : decode cX9_burn 243 = .ok (.aload_n 0, 1) := by decide +kernel
theorem dX9_burn_244 : decode cX9_burn 244 = .ok (.iload_n 1, 1) := by decide +kernel
theorem dX9_burn_245 : decode cX9_burn 245 = .ok (.iconst 0, 1) := by decide +kernel
theorem dX9_burn_246 : decode cX9_burn 246 = .ok (.iconst 3, 1) := by decide +kernel
theorem dX9_burn_247 : decode cX9_burn 247 = .ok (.invokevirtual 336, 3) := by decide +kernel
theorem dX9_burn_250 : decode cX9_burn 250 = .ok (.goto 68, 3) := by decide +kernel
theorem dX9_burn_253 : decode cX9_burn 253 = .ok (.aload_n 0, 1) := by decide +kernel
theorem dX9_burn_254 : decode cX9_burn 254 = .ok (.iload_n 1, 1) := by decide +kernel
theorem dX9_burn_255 : decode cX9_burn 255 = .ok (.iload_n 3, 1) := by decide +kernel
theorem dX9_burn_256 : decode cX9_burn 256 = .ok (.invokevirtual 330, 3) := by decide +kernel
theorem dX9_burn_259 : decode cX9_burn 259 = .ok (.iconst (-1), 1) := by decide +kernel
theorem dX9_burn_260 : decode cX9_burn 260 = .ok (.if_icmp .eq 58, 3) := by decide +kernel
theorem dX9_burn_263 : decode cX9_burn 263 = .ok (.aload_n 0, 1) := by decide +kernel
theorem dX9_burn_264 : decode cX9_burn 264 = .ok (.iload_n 1, 1) := by decide +kernel
theorem dX9_burn_265 : decode cX9_burn 265 = .ok (.iload_n 3, 1) := by decide +kernel
theorem dX9_burn_266 : decode cX9_burn 266 = .ok (.invokevirtual 330, 3) := by decide +kernel
theorem dX9_burn_269 : decode cX9_burn 269 = .ok (.iload_n 2, 1) := by decide +kernel
theorem dX9_burn_270 : decode cX9_burn 270 = .ok (.if_icmp .eq 48, 3) := by decide +kernel
theorem dX9_burn_273 : decode cX9_burn 273 = .ok (.aload_n 0, 1) := by decide +kernel
theorem dX9_burn_274 : decode cX9_burn 274 = .ok (.iload_n 1, 1) := by decide +kernel
theorem dX9_burn_275 : decode cX9_burn 275 = .ok (.iload_n 3, 1) := by decide +kernel
theorem dX9_burn_276 : decode cX9_burn 276 = .ok (.invokevirtual 330, 3) := by decide +kernel
theorem dX9_burn_279 : decode cX9_burn 279 = .ok (.istore 8, 2) := by decide +kernel
theorem dX9_burn_281 : decode cX9_burn 281 = .ok (.aload_n 0, 1) := by decide +kernel
theorem dX9_burn_282 : decode cX9_burn 282 = .ok (.iload_n 1, 1) := by decide +kernel
theorem dX9_burn_283 : decode cX9_burn 283 = .ok (.iconst 1, 1) := by decide +kernel
theorem dX9_burn_284 : decode cX9_burn 284 = .ok (.iload 8, 2) := by decide +kernel
theorem dX9_burn_286 : decode cX9_burn 286 = .ok (.invokevirtual 336, 3) := by decide +kernel
theorem dX9_burn_289 : decode cX9_burn 289 = .ok (.aload_n 0, 1) := by decide +kernel
theorem dX9_burn_290 : decode cX9_burn 290 = .ok (.bipush 10, 2) := by decide +kernel
theorem dX9_burn_292 : decode cX9_burn 292 = .ok (.invokevirtual 343, 3) := by decide +kernel
theorem dX9_burn_295 : decode cX9_burn 295 = .ok (.istore 9, 2) := by decide +kernel
theorem dX9_burn_297 : decode cX9_burn 297 = .ok (.iload 9, 2) := by decide +kernel
theorem dX9_burn_299 : decode cX9_burn 299 = .ok (.aload_n 0, 1) := by decide +kernel
theorem dX9_burn_300 : decode cX9_burn 300 = .ok (.iconst 3, 1) := by decide +kernel
theorem dX9_burn_301 : decode cX9_burn 301 = .ok (.iload 8, 2) := by decide +kernel
theorem dX9_burn_303 : decode cX9_burn 303 = .ok (.iload_n 1, 1) := by decide +kernel
theorem dX9_burn_304 : decode cX9_burn 304 = .ok (.iload_n 3, 1) := by decide +kernel
theorem dX9_burn_305 : decode cX9_burn 305 = .ok (.invokevirtual 323, 3) := by decide +kernel
theorem dX9_burn_308 : decode cX9_burn 308 = .ok (.if_icmp .ge 10, 3) := by decide +kernel
theorem dX9_burn_311 : decode cX9_burn 311 = .ok (.aload_n 0, 1) := by decide +kernel
theorem dX9_burn_312 : decode cX9_burn 312 = .ok (.iload_n 1, 1) := by decide +kernel
theorem dX9_burn_313 : decode cX9_burn 313 = .ok (.iconst 0, 1) := by decide +kernel
theorem dX9_burn_314 : decode cX9_burn 314 = .ok (.iconst 2, 1) := by decide +kernel
theorem dX9_burn_315 : decode cX9_burn 315 = .ok (.invokevirtual 336, 3) := by decide +kernel
theorem dX9_burn_318 : decode cX9_burn 318 = .ok (.aload_n 0, 1) := by decide +kernel
theorem dX9_burn_319 : decode cX9_burn 319 = .ok (.iload_n 1, 1) := by decide +kernel
theorem dX9_burn_320 : decode cX9_burn 320 = .ok (.iconst 0, 1) := by decide +kernel
theorem dX9_burn_321 : decode cX9_burn 321 = .ok (.invokevirtual 327, 3) := by decide +kernel
theorem dX9_burn_324 : decode cX9_burn 324 = .ok (.ireturn, 1) := by decide +kernel
theorem dX9_repay_0 : decode cX9_repay 0 = .ok (.aload_n 0, 1) := by decide +kernel
theorem dX9_repay_1 : decode cX9_repay 1 = .ok (.iload_n 1, 1) := by decide +kernel
theorem dX9_repay_2 : decode cX9_repay 2 = .ok (.invokevirtual 317, 3) := by decide +kernel
theorem dX9_repay_5 : decode cX9_repay 5 = .ok (.ifCond .eq 34, 3) := by decide +kernel
theorem dX9_repay_8 : decode cX9_repay 8 = .ok (.iload_n 2, 1) := by decide +kernel
theorem dX9_repay_9 : decode cX9_repay 9 = .ok (.iconst 1, 1) := by decide +kernel
theorem dX9_repay_10 : decode cX9_repay 10 = .ok (.if_icmp .lt 29, 3) := by decide +kernel
theorem dX9_repay_13 : decode cX9_repay 13 = .ok (.iload_n 2, 1) := by decide +kernel
theorem dX9_repay_14 : decode cX9_repay 14 = .ok (.aload_n 0, 1) := by decide +kernel
theorem dX9_repay_15 : decode cX9_repay 15 = .ok (.getfield 7, 3) := by decide +kernel
theorem dX9_repay_18 : decode cX9_repay 18 = .ok (.bipush 48, 2) := by decide +kernel
theorem dX9_repay_20 : decode cX9_repay 20 = .ok (.iload_n 1, 1) := by decide +kernel
theorem dX9_repay_21 : decode cX9_repay 21 = .ok (.iadd, 1) := by decide +kernel
theorem dX9_repay_22 : decode cX9_repay 22 = .ok (.iaload, 1) := by decide +kernel
theorem dX9_repay_23 : decode cX9_repay 23 = .ok (.if_icmp .gt 16, 3) := by decide +kernel
theorem dX9_repay_26 : decode cX9_repay 26 = .ok (.iload_n 2, 1) := by decide +kernel
theorem dX9_repay_27 : decode cX9_repay 27 = .ok (.aload_n 0, 1) := by decide +kernel
theorem dX9_repay_28 : decode cX9_repay 28 = .ok (.getfield 7, 3) := by decide +kernel
theorem dX9_repay_31 : decode cX9_repay 31 = .ok (.bipush 40, 2) := by decide +kernel
theorem dX9_repay_33 : decode cX9_repay 33 = .ok (.iload_n 1, 1) := by decide +kernel
theorem dX9_repay_34 : decode cX9_repay 34 = .ok (.iadd, 1) := by decide +kernel
theorem dX9_repay_35 : decode cX9_repay 35 = .ok (.iaload, 1) := by decide +kernel
theorem dX9_repay_36 : decode cX9_repay 36 = .ok (.if_icmp .le 5, 3) := by decide +kernel
theorem dX9_repay_39 : decode cX9_repay 39 = .ok (.iconst (-1), 1) := by decide +kernel
theorem dX9_repay_40 : decode cX9_repay 40 = .ok (.ireturn, 1) := by decide +kernel
theorem dX9_repay_41 : decode cX9_repay 41 = .ok (.aload_n 0, 1) := by decide +kernel
theorem dX9_repay_42 : decode cX9_repay 42 = .ok (.invokevirtual 333, 3) := by decide +kernel
theorem dX9_repay_45 : decode cX9_repay 45 = .ok (.aload_n 0, 1) := by decide +kernel
theorem dX9_repay_46 : decode cX9_repay 46 = .ok (.getfield 7, 3) := by decide +kernel
theorem dX9_repay_49 : decode cX9_repay 49 = .ok (.bipush 48, 2) := by decide +kernel
theorem dX9_repay_51 : decode cX9_repay 51 = .ok (.iload_n 1, 1) := by decide +kernel
theorem dX9_repay_52 : decode cX9_repay 52 = .ok (.iadd, 1) := by decide +kernel
theorem dX9_repay_53 : decode cX9_repay 53 = .ok (.dup2, 1) := by decide +kernel
theorem dX9_repay_54 : decode cX9_repay 54 = .ok (.iaload, 1) := by decide +kernel
theorem dX9_repay_55 : decode cX9_repay 55 = .ok (.iload_n 2, 1) := by decide +kernel
theorem dX9_repay_56 : decode cX9_repay 56 = .ok (.isub, 1) := by decide +kernel
theorem dX9_repay_57 : decode cX9_repay 57 = .ok (.iastore, 1) := by decide +kernel
theorem dX9_repay_58 : decode cX9_repay 58 = .ok (.aload_n 0, 1) := by decide +kernel
theorem dX9_repay_59 : decode cX9_repay 59 = .ok (.getfield 7, 3) := by decide +kernel
theorem dX9_repay_62 : decode cX9_repay 62 = .ok (.bipush 40, 2) := by decide +kernel
theorem dX9_repay_64 : decode cX9_repay 64 = .ok (.iload_n 1, 1) := by decide +kernel
theorem dX9_repay_65 : decode cX9_repay 65 = .ok (.iadd, 1) := by decide +kernel
theorem dX9_repay_66 : decode cX9_repay 66 = .ok (.dup2, 1) := by decide +kernel
theorem dX9_repay_67 : decode cX9_repay 67 = .ok (.iaload, 1) := by decide +kernel
theorem dX9_repay_68 : decode cX9_repay 68 = .ok (.iload_n 2, 1) := by decide +kernel
theorem dX9_repay_69 : decode cX9_repay 69 = .ok (.isub, 1) := by decide +kernel
theorem dX9_repay_70 : decode cX9_repay 70 = .ok (.iastore, 1) := by decide +kernel
theorem dX9_repay_71 : decode cX9_repay 71 = .ok (.aload_n 0, 1) := by decide +kernel
theorem dX9_repay_72 : decode cX9_repay 72 = .ok (.getfield 7, 3) := by decide +kernel
theorem dX9_repay_75 : decode cX9_repay 75 = .ok (.bipush 48, 2) := by decide +kernel
theorem dX9_repay_77 : decode cX9_repay 77 = .ok (.iload_n 1, 1) := by decide +kernel
theorem dX9_repay_78 : decode cX9_repay 78 = .ok (.iadd, 1) := by decide +kernel
theorem dX9_repay_79 : decode cX9_repay 79 = .ok (.iaload, 1) := by decide +kernel
theorem dX9_repay_80 : decode cX9_repay 80 = .ok (.ireturn, 1) := by decide +kernel
theorem dX9_moths_0 : decode cX9_moths 0 = .ok (.iload_n 1, 1) := by decide +kernel
theorem dX9_moths_1 : decode cX9_moths 1 = .ok (.iconst 1, 1) := by decide +kernel
theorem dX9_moths_2 : decode cX9_moths 2 = .ok (.bipush 30, 2) := by decide +kernel
theorem dX9_moths_4 : decode cX9_moths 4 = .ok (.invokestatic 120, 3) := by decide +kernel
theorem dX9_moths_7 : decode cX9_moths 7 = .ok (.ifCond .eq 12, 3) := by decide +kernel
theorem dX9_moths_10 : decode cX9_moths 10 = .ok (.aload_n 0, 1) := by decide +kernel
theorem dX9_moths_11 : decode cX9_moths 11 = .ok (.getfield 7, 3) := by decide +kernel
theorem dX9_moths_14 : decode cX9_moths 14 = .ok (.iconst 0, 1) := by decide +kernel
theorem dX9_moths_15 : decode cX9_moths 15 = .ok (.iaload, 1) := by decide +kernel
theorem dX9_moths_16 : decode cX9_moths 16 = .ok (.ifCond .ne 5, 3) := by decide +kernel
theorem dX9_moths_19 : decode cX9_moths 19 = .ok (.iconst (-1), 1) := by decide +kernel
theorem dX9_moths_20 : decode cX9_moths 20 = .ok (.ireturn, 1) := by decide +kernel
theorem dX9_moths_21 : decode cX9_moths 21 = .ok (.aload_n 0, 1) := by decide +kernel
theorem dX9_moths_22 : decode cX9_moths 22 = .ok (.invokevirtual 333, 3) := by decide +kernel
theorem dX9_moths_25 : decode cX9_moths 25 = .ok (.iconst 0, 1) := by decide +kernel
theorem dX9_moths_26 : decode cX9_moths 26 = .ok (.istore_n 2, 1) := by decide +kernel
theorem dX9_moths_27 : decode cX9_moths 27 = .ok (.iconst 0, 1) := by decide +kernel
theorem dX9_moths_28 : decode cX9_moths 28 = .ok (.istore_n 3, 1) := by decide +kernel
theorem dX9_moths_29 : decode cX9_moths 29 = .ok (.iload_n 3, 1) := by decide +kernel
theorem dX9_moths_30 : decode cX9_moths 30 = .ok (.iload_n 1, 1) := by decide +kernel
theorem dX9_moths_31 : decode cX9_moths 31 = .ok (.if_icmp .ge 78, 3) := by decide +kernel
theorem dX9_moths_34 : decode cX9_moths 34 = .ok (.aload_n 0, 1) := by decide +kernel
theorem dX9_moths_35 : decode cX9_moths 35 = .ok (.aload_n 0, 1) := by decide +kernel
theorem dX9_moths_36 : decode cX9_moths 36 = .ok (.getfield 7, 3) := by decide +kernel
theorem dX9_moths_39 : decode cX9_moths 39 = .ok (.iconst 0, 1) := by decide +kernel
theorem dX9_moths_40 : decode cX9_moths 40 = .ok (.iaload, 1) := by decide +kernel
theorem dX9_moths_41 : decode cX9_moths 41 = .ok (.invokevirtual 343, 3) := by decide +kernel
theorem dX9_moths_44 : decode cX9_moths 44 = .ok (.istore 4, 2) := by decide +kernel
theorem dX9_moths_46 : decode cX9_moths 46 = .ok (.aload_n 0, 1) := by decide +kernel
theorem dX9_moths_47 : decode cX9_moths 47 = .ok (.getfield 7, 3) := by decide +kernel
theorem dX9_moths_50 : decode cX9_moths 50 = .ok (.bipush 48, 2) := by decide +kernel
theorem dX9_moths_52 : decode cX9_moths 52 = .ok (.iload 4, 2) := by decide +kernel
theorem dX9_moths_54 : decode cX9_moths 54 = .ok (.iadd, 1) := by decide +kernel
theorem dX9_moths_55 : decode cX9_moths 55 = .ok (.iaload, 1) := by decide +kernel
theorem dX9_moths_56 : decode cX9_moths 56 = .ok (.ifCond .le 47, 3) := by decide +kernel
theorem dX9_moths_59 : decode cX9_moths 59 = .ok (.aload_n 0, 1) := by decide +kernel
theorem dX9_moths_60 : decode cX9_moths 60 = .ok (.getfield 7, 3) := by decide +kernel
theorem dX9_moths_63 : decode cX9_moths 63 = .ok (.bipush 40, 2) := by decide +kernel
theorem dX9_moths_65 : decode cX9_moths 65 = .ok (.iload 4, 2) := by decide +kernel
theorem dX9_moths_67 : decode cX9_moths 67 = .ok (.iadd, 1) := by decide +kernel
theorem dX9_moths_68 : decode cX9_moths 68 = .ok (.iaload, 1) := by decide +kernel
theorem dX9_moths_69 : decode cX9_moths 69 = .ok (.ifCond .le 34, 3) := by decide +kernel
theorem dX9_moths_72 : decode cX9_moths 72 = .ok (.aload_n 0, 1) := by decide +kernel
theorem dX9_moths_73 : decode cX9_moths 73 = .ok (.getfield 7, 3) := by decide +kernel
theorem dX9_moths_76 : decode cX9_moths 76 = .ok (.bipush 48, 2) := by decide +kernel
theorem dX9_moths_78 : decode cX9_moths 78 = .ok (.iload 4, 2) := by decide +kernel
theorem dX9_moths_80 : decode cX9_moths 80 = .ok (.iadd, 1) := by decide +kernel
theorem dX9_moths_81 : decode cX9_moths 81 = .ok (.dup2, 1) := by decide +kernel
theorem dX9_moths_82 : decode cX9_moths 82 = .ok (.iaload, 1) := by decide +kernel
theorem dX9_moths_83 : decode cX9_moths 83 = .ok (.iconst 1, 1) := by decide +kernel
theorem dX9_moths_84 : decode cX9_moths 84 = .ok (.isub, 1) := by decide +kernel
theorem dX9_moths_85 : decode cX9_moths 85 = .ok (.iastore, 1) := by decide +kernel
theorem dX9_moths_86 : decode cX9_moths 86 = .ok (.aload_n 0, 1) := by decide +kernel
theorem dX9_moths_87 : decode cX9_moths 87 = .ok (.getfield 7, 3) := by decide +kernel
theorem dX9_moths_90 : decode cX9_moths 90 = .ok (.bipush 40, 2) := by decide +kernel
theorem dX9_moths_92 : decode cX9_moths 92 = .ok (.iload 4, 2) := by decide +kernel
theorem dX9_moths_94 : decode cX9_moths 94 = .ok (.iadd, 1) := by decide +kernel
theorem dX9_moths_95 : decode cX9_moths 95 = .ok (.dup2, 1) := by decide +kernel
theorem dX9_moths_96 : decode cX9_moths 96 = .ok (.iaload, 1) := by decide +kernel
theorem dX9_moths_97 : decode cX9_moths 97 = .ok (.iconst 1, 1) := by decide +kernel
theorem dX9_moths_98 : decode cX9_moths 98 = .ok (.isub, 1) := by decide +kernel
theorem dX9_moths_99 : decode cX9_moths 99 = .ok (.iastore, 1) := by decide +kernel
theorem dX9_moths_100 : decode cX9_moths 100 = .ok (.iinc 2 1, 3) := by decide +kernel
theorem dX9_moths_103 : decode cX9_moths 103 = .ok (.iinc 3 1, 3) := by decide +kernel
theorem dX9_moths_106 : decode cX9_moths 106 = .ok (.goto (-77), 3) := by decide +kernel
theorem dX9_moths_109 : decode cX9_moths 109 = .ok (.iload_n 2, 1) := by decide +kernel
theorem dX9_moths_110 : decode cX9_moths 110 = .ok (.ireturn, 1) := by decide +kernel
theorem dX9_played_0 : decode cX9_played 0 = .ok (.iload_n 1, 1) := by decide +kernel
theorem dX9_played_1 : decode cX9_played 1 = .ok (.iconst 0, 1) := by decide +kernel
theorem dX9_played_2 : decode cX9_played 2 = .ok (.aload_n 0, 1) := by decide +kernel
theorem dX9_played_3 : decode cX9_played 3 = .ok (.getfield 7, 3) := by decide +kernel
theorem dX9_played_6 : decode cX9_played 6 = .ok (.iconst 2, 1) := by decide +kernel
theorem dX9_played_7 : decode cX9_played 7 = .ok (.iaload, 1) := by decide +kernel
theorem dX9_played_8 : decode cX9_played 8 = .ok (.iconst 1, 1) := by decide +kernel
theorem dX9_played_9 : decode cX9_played 9 = .ok (.isub, 1) := by decide +kernel
theorem dX9_played_10 : decode cX9_played 10 = .ok (.invokestatic 120, 3) := by decide +kernel
theorem dX9_played_13 : decode cX9_played 13 = .ok (.ifCond .ne 6, 3) := by decide +kernel
theorem dX9_played_16 : decode cX9_played 16 = .ok (.bipush (-2), 2) := by decide +kernel
theorem dX9_played_18 : decode cX9_played 18 = .ok (.ireturn, 1) := by decide +kernel
theorem dX9_played_19 : decode cX9_played 19 = .ok (.iconst 0, 1) := by decide +kernel
theorem dX9_played_20 : decode cX9_played 20 = .ok (.istore_n 2, 1) := by decide +kernel
theorem dX9_played_21 : decode cX9_played 21 = .ok (.iload_n 2, 1) := by decide +kernel
theorem dX9_played_22 : decode cX9_played 22 = .ok (.aload_n 0, 1) := by decide +kernel
theorem dX9_played_23 : decode cX9_played 23 = .ok (.getfield 27, 3) := by decide +kernel
theorem dX9_played_26 : decode cX9_played 26 = .ok (.iload_n 1, 1) := by decide +kernel
theorem dX9_played_27 : decode cX9_played 27 = .ok (.iaload, 1) := by decide +kernel
theorem dX9_played_28 : decode cX9_played 28 = .ok (.if_icmp .ge 134, 3) := by decide +kernel
theorem dX9_played_31 : decode cX9_played 31 = .ok (.bipush 24, 2) := by decide +kernel
theorem dX9_played_33 : decode cX9_played 33 = .ok (.iload_n 1, 1) := by decide +kernel
theorem dX9_played_34 : decode cX9_played 34 = .ok (.imul, 1) := by decide +kernel
theorem dX9_played_35 : decode cX9_played 35 = .ok (.iload_n 2, 1) := by decide +kernel
theorem dX9_played_36 : decode cX9_played 36 = .ok (.iadd, 1) := by decide +kernel
theorem dX9_played_37 : decode cX9_played 37 = .ok (.istore_n 3, 1) := by decide +kernel
theorem dX9_played_38 : decode cX9_played 38 = .ok (.iconst 0, 1) := by decide +kernel
theorem dX9_played_39 : decode cX9_played 39 = .ok (.istore 4, 2) := by decide +kernel
theorem dX9_played_41 : decode cX9_played 41 = .ok (.aload_n 0, 1) := by decide +kernel
theorem dX9_played_42 : decode cX9_played 42 = .ok (.getfield 30, 3) := by decide +kernel
theorem dX9_played_45 : decode cX9_played 45 = .ok (.iload_n 3, 1) := by decide +kernel
theorem dX9_played_46 : decode cX9_played 46 = .ok (.iaload, 1) := by decide +kernel
theorem dX9_played_47 : decode cX9_played 47 = .ok (.tableswitch 101 4 7 #[29, 56, 71, 86], 29) := by decide +kernel
theorem dX9_played_76 : decode cX9_played 76 = .ok (.aload_n 0, 1) := by decide +kernel
theorem dX9_played_77 : decode cX9_played 77 = .ok (.aload_n 0, 1) := by decide +kernel
theorem dX9_played_78 : decode cX9_played 78 = .ok (.getfield 42, 3) := by decide +kernel
theorem dX9_played_81 : decode cX9_played 81 = .ok (.iload_n 3, 1) := by decide +kernel
theorem dX9_played_82 : decode cX9_played 82 = .ok (.iaload, 1) := by decide +kernel
theorem dX9_played_83 : decode cX9_played 83 = .ok (.aload_n 0, 1) := by decide +kernel
theorem dX9_played_84 : decode cX9_played 84 = .ok (.getfield 39, 3) := by decide +kernel
theorem dX9_played_87 : decode cX9_played 87 = .ok (.iload_n 3, 1) := by decide +kernel
theorem dX9_played_88 : decode cX9_played 88 = .ok (.iaload, 1) := by decide +kernel
theorem dX9_played_89 : decode cX9_played 89 = .ok (.aload_n 0, 1) := by decide +kernel
theorem dX9_played_90 : decode cX9_played 90 = .ok (.getfield 36, 3) := by decide +kernel
theorem dX9_played_93 : decode cX9_played 93 = .ok (.iload_n 3, 1) := by decide +kernel
theorem dX9_played_94 : decode cX9_played 94 = .ok (.iaload, 1) := by decide +kernel
theorem dX9_played_95 : decode cX9_played 95 = .ok (.invokevirtual 346, 3) := by decide +kernel
theorem dX9_played_98 : decode cX9_played 98 = .ok (.istore 4, 2) := by decide +kernel
theorem dX9_played_100 : decode cX9_played 100 = .ok (.goto 48, 3) := by decide +kernel
theorem dX9_played_103 : decode cX9_played 103 = .ok (.aload_n 0, 1) := by decide +kernel
theorem dX9_played_104 : decode cX9_played 104 = .ok (.aload_n 0, 1) := by decide +kernel
theorem dX9_played_105 : decode cX9_played 105 = .ok (.getfield 36, 3) := by decide +kernel
theorem dX9_played_108 : decode cX9_played 108 = .ok (.iload_n 3, 1) := by decide +kernel
theorem dX9_played_109 : decode cX9_played 109 = .ok (.iaload, 1) := by decide +kernel
theorem dX9_played_110 : decode cX9_played 110 = .ok (.invokevirtual 350, 3) := by decide +kernel
theorem dX9_played_113 : decode cX9_played 113 = .ok (.istore 4, 2) := by decide +kernel
theorem dX9_played_115 : decode cX9_played 115 = .ok (.goto 33, 3) := by decide +kernel
theorem dX9_played_118 : decode cX9_played 118 = .ok (.aload_n 0, 1) := by decide +kernel
theorem dX9_played_119 : decode cX9_played 119 = .ok (.aload_n 0, 1) := by decide +kernel
theorem dX9_played_120 : decode cX9_played 120 = .ok (.getfield 36, 3) := by decide +kernel
theorem dX9_played_123 : decode cX9_played 123 = .ok (.iload_n 3, 1) := by decide +kernel
theorem dX9_played_124 : decode cX9_played 124 = .ok (.iaload, 1) := by decide +kernel
theorem dX9_played_125 : decode cX9_played 125 = .ok (.invokevirtual 353, 3) := by decide +kernel
theorem dX9_played_128 : decode cX9_played 128 = .ok (.istore 4, 2) := by decide +kernel
theorem dX9_played_130 : decode cX9_played 130 = .ok (.goto 18, 3) := by decide +kernel
theorem dX9_played_133 : decode cX9_played 133 = .ok (.aload_n 0, 1) := by decide +kernel
theorem dX9_played_134 : decode cX9_played 134 = .ok (.aload_n 0, 1) := by decide +kernel
theorem dX9_played_135 : decode cX9_played 135 = .ok (.getfield 36, 3) := by decide +kernel
theorem dX9_played_138 : decode cX9_played 138 = .ok (.iload_n 3, 1) := by decide +kernel
theorem dX9_played_139 : decode cX9_played 139 = .ok (.iaload, 1) := by decide +kernel
theorem dX9_played_140 : decode cX9_played 140 = .ok (.invokevirtual 356, 3) := by decide +kernel
theorem dX9_played_143 : decode cX9_played 143 = .ok (.istore 4, 2) := by decide +kernel
theorem dX9_played_145 : decode cX9_played 145 = .ok (.goto 3, 3) := by decide +kernel
theorem dX9_played_148 : decode cX9_played 148 = .ok (.iload 4, 2) := by decide +kernel
theorem dX9_played_150 : decode cX9_played 150 = .ok (.iconst (-1), 1) := by decide +kernel
theorem dX9_played_151 : decode cX9_played 151 = .ok (.if_icmp .ne 5, 3) := by decide +kernel
theorem dX9_played_154 : decode cX9_played 154 = .ok (.iload_n 2, 1) := by decide +kernel
theorem dX9_played_155 : decode cX9_played 155 = .ok (.ireturn, 1) := by decide +kernel
theorem dX9_played_156 : decode cX9_played 156 = .ok (.iinc 2 1, 3) := by decide +kernel
theorem dX9_played_159 : decode cX9_played 159 = .ok (.goto (-138), 3) := by decide +kernel
theorem dX9_played_162 : decode cX9_played 162 = .ok (.iconst (-1), 1) := by decide +kernel
theorem dX9_played_163 : decode cX9_played 163 = .ok (.ireturn, 1) := by decide +kernel
theorem dX9_houseOf_0 : decode cX9_houseOf 0 = .ok (.aload_n 0, 1) := by decide +kernel
theorem dX9_houseOf_1 : decode cX9_houseOf 1 = .ok (.iload_n 1, 1) := by decide +kernel
theorem dX9_houseOf_2 : decode cX9_houseOf 2 = .ok (.invokevirtual 317, 3) := by decide +kernel
theorem dX9_houseOf_5 : decode cX9_houseOf 5 = .ok (.ifCond .ne 6, 3) := by decide +kernel
theorem dX9_houseOf_8 : decode cX9_houseOf 8 = .ok (.bipush (-2), 2) := by decide +kernel
theorem dX9_houseOf_10 : decode cX9_houseOf 10 = .ok (.ireturn, 1) := by decide +kernel
theorem dX9_houseOf_11 : decode cX9_houseOf 11 = .ok (.iload_n 2, 1) := by decide +kernel
theorem dX9_houseOf_12 : decode cX9_houseOf 12 = .ok (.tableswitch 72 0 3 #[32, 42, 52, 62], 32) := by decide +kernel
theorem dX9_houseOf_44 : decode cX9_houseOf 44 = .ok (.aload_n 0, 1) := by decide +kernel
theorem dX9_houseOf_45 : decode cX9_houseOf 45 = .ok (.getfield 7, 3) := by decide +kernel
theorem dX9_houseOf_48 : decode cX9_houseOf 48 = .ok (.bipush 10, 2) := by decide +kernel
theorem dX9_houseOf_50 : decode cX9_houseOf 50 = .ok (.iload_n 1, 1) := by decide +kernel
theorem dX9_houseOf_51 : decode cX9_houseOf 51 = .ok (.iadd, 1) := by decide +kernel
theorem dX9_houseOf_52 : decode cX9_houseOf 52 = .ok (.iaload, 1) := by decide +kernel
theorem dX9_houseOf_53 : decode cX9_houseOf 53 = .ok (.ireturn, 1) := by decide +kernel
theorem dX9_houseOf_54 : decode cX9_houseOf 54 = .ok (.aload_n 0, 1) := by decide +kernel
theorem dX9_houseOf_55 : decode cX9_houseOf 55 = .ok (.getfield 7, 3) := by decide +kernel
theorem dX9_houseOf_58 : decode cX9_houseOf 58 = .ok (.bipush 40, 2) := by decide +kernel
theorem dX9_houseOf_60 : decode cX9_houseOf 60 = .ok (.iload_n 1, 1) := by decide +kernel
theorem dX9_houseOf_61 : decode cX9_houseOf 61 = .ok (.iadd, 1) := by decide +kernel
theorem dX9_houseOf_62 : decode cX9_houseOf 62 = .ok (.iaload, 1) := by decide +kernel
theorem dX9_houseOf_63 : decode cX9_houseOf 63 = .ok (.ireturn, 1) := by decide +kernel
theorem dX9_houseOf_64 : decode cX9_houseOf 64 = .ok (.aload_n 0, 1) := by decide +kernel
theorem dX9_houseOf_65 : decode cX9_houseOf 65 = .ok (.getfield 7, 3) := by decide +kernel
theorem dX9_houseOf_68 : decode cX9_houseOf 68 = .ok (.bipush 48, 2) := by decide +kernel
theorem dX9_houseOf_70 : decode cX9_houseOf 70 = .ok (.iload_n 1, 1) := by decide +kernel
theorem dX9_houseOf_71 : decode cX9_houseOf 71 = .ok (.iadd, 1) := by decide +kernel
theorem dX9_houseOf_72 : decode cX9_houseOf 72 = .ok (.iaload, 1) := by decide +kernel
theorem dX9_houseOf_73 : decode cX9_houseOf 73 = .ok (.ireturn, 1) := by decide +kernel
theorem dX9_houseOf_74 : decode cX9_houseOf 74 = .ok (.aload_n 0, 1) := by decide +kernel
theorem dX9_houseOf_75 : decode cX9_houseOf 75 = .ok (.getfield 7, 3) := by decide +kernel
theorem dX9_houseOf_78 : decode cX9_houseOf 78 = .ok (.bipush 56, 2) := by decide +kernel
theorem dX9_houseOf_80 : decode cX9_houseOf 80 = .ok (.iload_n 1, 1) := by decide +kernel
theorem dX9_houseOf_81 : decode cX9_houseOf 81 = .ok (.iadd, 1) := by decide +kernel
theorem dX9_houseOf_82 : decode cX9_houseOf 82 = .ok (.iaload, 1) := by decide +kernel
theorem dX9_houseOf_83 : decode cX9_houseOf 83 = .ok (.ireturn, 1) := by decide +kernel
theorem dX9_houseOf_84 : decode cX9_houseOf 84 = .ok (.bipush (-2), 2) := by decide +kernel
theorem dX9_houseOf_86 : decode cX9_houseOf 86 = .ok (.ireturn, 1) := by decide +kernel
theorem dX9_candleOf_0 : decode cX9_candleOf 0 = .ok (.aload_n 0, 1) := by decide +kernel
theorem dX9_candleOf_1 : decode cX9_candleOf 1 = .ok (.iload_n 1, 1) := by decide +kernel
theorem dX9_candleOf_2 : decode cX9_candleOf 2 = .ok (.invokevirtual 320, 3) := by decide +kernel
theorem dX9_candleOf_5 : decode cX9_candleOf 5 = .ok (.ifCond .ne 6, 3) := by decide +kernel
theorem dX9_candleOf_8 : decode cX9_candleOf 8 = .ok (.bipush (-2), 2) := by decide +kernel
theorem dX9_candleOf_10 : decode cX9_candleOf 10 = .ok (.ireturn, 1) := by decide +kernel
theorem dX9_candleOf_11 : decode cX9_candleOf 11 = .ok (.iload_n 2, 1) := by decide +kernel
theorem dX9_candleOf_12 : decode cX9_candleOf 12 = .ok (.bipush 10, 2) := by decide +kernel
theorem dX9_candleOf_14 : decode cX9_candleOf 14 = .ok (.bipush 9, 2) := by decide +kernel
theorem dX9_candleOf_16 : decode cX9_candleOf 16 = .ok (.aload_n 0, 1) := by decide +kernel
theorem dX9_candleOf_17 : decode cX9_candleOf 17 = .ok (.iload_n 1, 1) := by decide +kernel
theorem dX9_candleOf_18 : decode cX9_candleOf 18 = .ok (.invokevirtual 310, 3) := by decide +kernel
theorem dX9_candleOf_21 : decode cX9_candleOf 21 = .ok (.iadd, 1) := by decide +kernel
theorem dX9_candleOf_22 : decode cX9_candleOf 22 = .ok (.invokestatic 120, 3) := by decide +kernel
theorem dX9_candleOf_25 : decode cX9_candleOf 25 = .ok (.ifCond .eq 13, 3) := by decide +kernel
theorem dX9_candleOf_28 : decode cX9_candleOf 28 = .ok (.aload_n 0, 1) := by decide +kernel
theorem dX9_candleOf_29 : decode cX9_candleOf 29 = .ok (.iload_n 1, 1) := by decide +kernel
theorem dX9_candleOf_30 : decode cX9_candleOf 30 = .ok (.iload_n 2, 1) := by decide +kernel
theorem dX9_candleOf_31 : decode cX9_candleOf 31 = .ok (.bipush 10, 2) := by decide +kernel
theorem dX9_candleOf_33 : decode cX9_candleOf 33 = .ok (.isub, 1) := by decide +kernel
theorem dX9_candleOf_34 : decode cX9_candleOf 34 = .ok (.invokevirtual 330, 3) := by decide +kernel
theorem dX9_candleOf_37 : decode cX9_candleOf 37 = .ok (.ireturn, 1) := by decide +kernel
theorem dX9_candleOf_38 : decode cX9_candleOf 38 = .ok (.iload_n 2, 1) := by decide +kernel
theorem dX9_candleOf_39 : decode cX9_candleOf 39 = .ok (.tableswitch 66 0 4 #[33, 39, 45, 52, 59], 33) := by decide +kernel
theorem dX9_candleOf_72 : decode cX9_candleOf 72 = .ok (.aload_n 0, 1) := by decide +kernel
theorem dX9_candleOf_73 : decode cX9_candleOf 73 = .ok (.iload_n 1, 1) := by decide +kernel
theorem dX9_candleOf_74 : decode cX9_candleOf 74 = .ok (.invokevirtual 307, 3) := by decide +kernel
theorem dX9_candleOf_77 : decode cX9_candleOf 77 = .ok (.ireturn, 1) := by decide +kernel
theorem dX9_candleOf_78 : decode cX9_candleOf 78 = .ok (.aload_n 0, 1) := by decide +kernel
theorem dX9_candleOf_79 : decode cX9_candleOf 79 = .ok (.iload_n 1, 1) := by decide +kernel
theorem dX9_candleOf_80 : decode cX9_candleOf 80 = .ok (.invokevirtual 310, 3) := by decide +kernel
theorem dX9_candleOf_83 : decode cX9_candleOf 83 = .ok (.ireturn, 1) := by decide +kernel
theorem dX9_candleOf_84 : decode cX9_candleOf 84 = .ok (.aload_n 0, 1) := by decide +kernel
theorem dX9_candleOf_85 : decode cX9_candleOf 85 = .ok (.iload_n 1, 1) := by decide +kernel
theorem dX9_candleOf_86 : decode cX9_candleOf 86 = .ok (.iconst 0, 1) := by decide +kernel
theorem dX9_candleOf_87 : decode cX9_candleOf 87 = .ok (.invokevirtual 327, 3) := by decide +kernel
theorem dX9_candleOf_90 : decode cX9_candleOf 90 = .ok (.ireturn, 1) := by decide +kernel
theorem dX9_candleOf_91 : decode cX9_candleOf 91 = .ok (.aload_n 0, 1) := by decide +kernel
theorem dX9_candleOf_92 : decode cX9_candleOf 92 = .ok (.iload_n 1, 1) := by decide +kernel
theorem dX9_candleOf_93 : decode cX9_candleOf 93 = .ok (.iconst 1, 1) := by decide +kernel
theorem dX9_candleOf_94 : decode cX9_candleOf 94 = .ok (.invokevirtual 327, 3) := by decide +kernel
theorem dX9_candleOf_97 : decode cX9_candleOf 97 = .ok (.ireturn, 1) := by decide +kernel
theorem dX9_candleOf_98 : decode cX9_candleOf 98 = .ok (.aload_n 0, 1) := by decide +kernel
theorem dX9_candleOf_99 : decode cX9_candleOf 99 = .ok (.iload_n 1, 1) := by decide +kernel
theorem dX9_candleOf_100 : decode cX9_candleOf 100 = .ok (.iconst 2, 1) := by decide +kernel
theorem dX9_candleOf_101 : decode cX9_candleOf 101 = .ok (.invokevirtual 327, 3) := by decide +kernel
theorem dX9_candleOf_104 : decode cX9_candleOf 104 = .ok (.ireturn, 1) := by decide +kernel
theorem dX9_candleOf_105 : decode cX9_candleOf 105 = .ok (.bipush (-2), 2) := by decide +kernel
theorem dX9_candleOf_107 : decode cX9_candleOf 107 = .ok (.ireturn, 1) := by decide +kernel
theorem dX9_drip_0 : decode cX9_drip 0 = .ok (.iload_n 1, 1) := by decide +kernel
theorem dX9_drip_1 : decode cX9_drip 1 = .ok (.iconst (-1), 1) := by decide +kernel
theorem dX9_drip_2 : decode cX9_drip 2 = .ok (.if_icmp .ne 12, 3) := by decide +kernel
theorem dX9_drip_5 : decode cX9_drip 5 = .ok (.aload_n 0, 1) := by decide +kernel
theorem dX9_drip_6 : decode cX9_drip 6 = .ok (.getfield 7, 3) := by decide +kernel
theorem dX9_drip_9 : decode cX9_drip 9 = .ok (.sipush 154, 3) := by decide +kernel
theorem dX9_drip_12 : decode cX9_drip 12 = .ok (.iaload, 1) := by decide +kernel
theorem dX9_drip_13 : decode cX9_drip 13 = .ok (.ireturn, 1) := by decide +kernel
theorem dX9_drip_14 : decode cX9_drip 14 = .ok (.iload_n 1, 1) := by decide +kernel
theorem dX9_drip_15 : decode cX9_drip 15 = .ok (.iconst 0, 1) := by decide +kernel
theorem dX9_drip_16 : decode cX9_drip 16 = .ok (.aload_n 0, 1) := by decide +kernel
theorem dX9_drip_17 : decode cX9_drip 17 = .ok (.getfield 7, 3) := by decide +kernel
theorem dX9_drip_20 : decode cX9_drip 20 = .ok (.sipush 154, 3) := by decide +kernel
theorem dX9_drip_23 : decode cX9_drip 23 = .ok (.iaload, 1) := by decide +kernel
theorem dX9_drip_24 : decode cX9_drip 24 = .ok (.iconst 1, 1) := by decide +kernel
theorem dX9_drip_25 : decode cX9_drip 25 = .ok (.isub, 1) := by decide +kernel
theorem dX9_drip_26 : decode cX9_drip 26 = .ok (.invokestatic 120, 3) := by decide +kernel
theorem dX9_drip_29 : decode cX9_drip 29 = .ok (.ifCond .eq 29, 3) := by decide +kernel
theorem dX9_drip_32 : decode cX9_drip 32 = .ok (.iload_n 2, 1) := by decide +kernel
theorem dX9_drip_33 : decode cX9_drip 33 = .ok (.iconst 0, 1) := by decide +kernel
theorem dX9_drip_34 : decode cX9_drip 34 = .ok (.iconst 4, 1) := by decide +kernel
theorem dX9_drip_35 : decode cX9_drip 35 = .ok (.invokestatic 120, 3) := by decide +kernel
theorem dX9_drip_38 : decode cX9_drip 38 = .ok (.ifCond .eq 20, 3) := by decide +kernel
theorem dX9_drip_41 : decode cX9_drip 41 = .ok (.aload_n 0, 1) := by decide +kernel
theorem dX9_drip_42 : decode cX9_drip 42 = .ok (.getfield 7, 3) := by decide +kernel
theorem dX9_drip_45 : decode cX9_drip 45 = .ok (.sipush 155, 3) := by decide +kernel
theorem dX9_drip_48 : decode cX9_drip 48 = .ok (.iconst 5, 1) := by decide +kernel
theorem dX9_drip_49 : decode cX9_drip 49 = .ok (.iload_n 1, 1) := by decide +kernel
theorem dX9_drip_50 : decode cX9_drip 50 = .ok (.imul, 1) := by decide +kernel
theorem dX9_drip_51 : decode cX9_drip 51 = .ok (.iadd, 1) := by decide +kernel
theorem dX9_drip_52 : decode cX9_drip 52 = .ok (.iload_n 2, 1) := by decide +kernel
theorem dX9_drip_53 : decode cX9_drip 53 = .ok (.iadd, 1) := by decide +kernel
theorem dX9_drip_54 : decode cX9_drip 54 = .ok (.iaload, 1) := by decide +kernel
theorem dX9_drip_55 : decode cX9_drip 55 = .ok (.goto 5, 3) := by decide +kernel
theorem dX9_drip_58 : decode cX9_drip 58 = .ok (.bipush (-2), 2) := by decide +kernel
theorem dX9_drip_60 : decode cX9_drip 60 = .ok (.ireturn, 1) := by decide +kernel
theorem dX9_hasWay_0 : decode cX9_hasWay 0 = .ok (.aload_n 0, 1) := by decide +kernel
theorem dX9_hasWay_1 : decode cX9_hasWay 1 = .ok (.iload_n 1, 1) := by decide +kernel
theorem dX9_hasWay_2 : decode cX9_hasWay 2 = .ok (.invokevirtual 320, 3) := by decide +kernel
theorem dX9_hasWay_5 : decode cX9_hasWay 5 = .ok (.ifCond .eq 39, 3) := by decide +kernel
theorem dX9_hasWay_8 : decode cX9_hasWay 8 = .ok (.aload_n 0, 1) := by decide +kernel
theorem dX9_hasWay_9 : decode cX9_hasWay 9 = .ok (.iload_n 1, 1) := by decide +kernel
theorem dX9_hasWay_10 : decode cX9_hasWay 10 = .ok (.iconst 0, 1) := by decide +kernel
theorem dX9_hasWay_11 : decode cX9_hasWay 11 = .ok (.invokevirtual 327, 3) := by decide +kernel
theorem dX9_hasWay_14 : decode cX9_hasWay 14 = .ok (.ifCond .ne 16, 3) := by decide +kernel
theorem dX9_hasWay_17 : decode cX9_hasWay 17 = .ok (.aload_n 0, 1) := by decide +kernel
theorem dX9_hasWay_18 : decode cX9_hasWay 18 = .ok (.iload_n 1, 1) := by decide +kernel
theorem dX9_hasWay_19 : decode cX9_hasWay 19 = .ok (.iconst 0, 1) := by decide +kernel
theorem dX9_hasWay_20 : decode cX9_hasWay 20 = .ok (.invokevirtual 330, 3) := by decide +kernel
theorem dX9_hasWay_23 : decode cX9_hasWay 23 = .ok (.iconst (-1), 1) := by decide +kernel
theorem dX9_hasWay_24 : decode cX9_hasWay 24 = .ok (.if_icmp .eq 20, 3) := by decide +kernel
theorem dX9_hasWay_27 : decode cX9_hasWay 27 = .ok (.goto 13, 3) := by decide +kernel
theorem dX9_hasWay_30 : decode cX9_hasWay 30 = .ok (.aload_n 0, 1) := by decide +kernel
theorem dX9_hasWay_31 : decode cX9_hasWay 31 = .ok (.iload_n 1, 1) := by decide +kernel
theorem dX9_hasWay_32 : decode cX9_hasWay 32 = .ok (.iconst 0, 1) := by decide +kernel
theorem dX9_hasWay_33 : decode cX9_hasWay 33 = .ok (.invokevirtual 327, 3) := by decide +kernel
theorem dX9_hasWay_36 : decode cX9_hasWay 36 = .ok (.iconst 3, 1) := by decide +kernel
theorem dX9_hasWay_37 : decode cX9_hasWay 37 = .ok (.if_icmp .eq 7, 3) := by decide +kernel
theorem dX9_hasWay_40 : decode cX9_hasWay 40 = .ok (.iconst 1, 1) := by decide +kernel
theorem dX9_hasWay_41 : decode cX9_hasWay 41 = .ok (.goto 4, 3) := by decide +kernel
theorem dX9_hasWay_44 : decode cX9_hasWay 44 = .ok (.iconst 0, 1) := by decide +kernel
theorem dX9_hasWay_45 : decode cX9_hasWay 45 = .ok (.ireturn, 1) := by decide +kernel
theorem dX9_laysWay_0 : decode cX9_laysWay 0 = .ok (.aload_n 0, 1) := by decide +kernel
theorem dX9_laysWay_1 : decode cX9_laysWay 1 = .ok (.iload_n 1, 1) := by decide +kernel
theorem dX9_laysWay_2 : decode cX9_laysWay 2 = .ok (.iconst 2, 1) := by decide +kernel
theorem dX9_laysWay_3 : decode cX9_laysWay 3 = .ok (.invokevirtual 327, 3) := by decide +kernel
theorem dX9_laysWay_6 : decode cX9_laysWay 6 = .ok (.istore_n 2, 1) := by decide +kernel
theorem dX9_laysWay_7 : decode cX9_laysWay 7 = .ok (.aload_n 0, 1) := by decide +kernel
theorem dX9_laysWay_8 : decode cX9_laysWay 8 = .ok (.iload_n 1, 1) := by decide +kernel
theorem dX9_laysWay_9 : decode cX9_laysWay 9 = .ok (.iconst 0, 1) := by decide +kernel
theorem dX9_laysWay_10 : decode cX9_laysWay 10 = .ok (.invokevirtual 327, 3) := by decide +kernel
theorem dX9_laysWay_13 : decode cX9_laysWay 13 = .ok (.ifCond .ne 12, 3) := by decide +kernel
theorem dX9_laysWay_16 : decode cX9_laysWay 16 = .ok (.aload_n 0, 1) := by decide +kernel
theorem dX9_laysWay_17 : decode cX9_laysWay 17 = .ok (.iload_n 1, 1) := by decide +kernel
theorem dX9_laysWay_18 : decode cX9_laysWay 18 = .ok (.iconst 0, 1) := by decide +kernel
theorem dX9_laysWay_19 : decode cX9_laysWay 19 = .ok (.invokevirtual 330, 3) := by decide +kernel
theorem dX9_laysWay_22 : decode cX9_laysWay 22 = .ok (.goto 9, 3) := by decide +kernel
theorem dX9_laysWay_25 : decode cX9_laysWay 25 = .ok (.aload_n 0, 1) := by decide +kernel
theorem dX9_laysWay_26 : decode cX9_laysWay 26 = .ok (.iload_n 1, 1) := by decide +kernel
theorem dX9_laysWay_27 : decode cX9_laysWay 27 = .ok (.iconst 1, 1) := by decide +kernel
theorem dX9_laysWay_28 : decode cX9_laysWay 28 = .ok (.invokevirtual 327, 3) := by decide +kernel
theorem dX9_laysWay_31 : decode cX9_laysWay 31 = .ok (.istore_n 3, 1) := by decide +kernel
theorem dX9_laysWay_32 : decode cX9_laysWay 32 = .ok (.iload_n 2, 1) := by decide +kernel
theorem dX9_laysWay_33 : decode cX9_laysWay 33 = .ok (.istore 4, 2) := by decide +kernel
theorem dX9_laysWay_35 : decode cX9_laysWay 35 = .ok (.iload 4, 2) := by decide +kernel
theorem dX9_laysWay_37 : decode cX9_laysWay 37 = .ok (.aload_n 0, 1) := by decide +kernel
theorem dX9_laysWay_38 : decode cX9_laysWay 38 = .ok (.iload_n 1, 1) := by decide +kernel
theorem dX9_laysWay_39 : decode cX9_laysWay 39 = .ok (.invokevirtual 310, 3) := by decide +kernel
theorem dX9_laysWay_42 : decode cX9_laysWay 42 = .ok (.if_icmp .ge 71, 3) := by decide +kernel
theorem dX9_laysWay_45 : decode cX9_laysWay 45 = .ok (.aload_n 0, 1) := by decide +kernel
theorem dX9_laysWay_46 : decode cX9_laysWay 46 = .ok (.getfield 91, 3) := by decide +kernel
theorem dX9_laysWay_49 : decode cX9_laysWay 49 = .ok (.iload 4, 2) := by decide +kernel
theorem dX9_laysWay_51 : decode cX9_laysWay 51 = .ok (.iconst (-1), 1) := by decide +kernel
theorem dX9_laysWay_52 : decode cX9_laysWay 52 = .ok (.iastore, 1) := by decide +kernel
theorem dX9_laysWay_53 : decode cX9_laysWay 53 = .ok (.aload_n 0, 1) := by decide +kernel
theorem dX9_laysWay_54 : decode cX9_laysWay 54 = .ok (.iload_n 1, 1) := by decide +kernel
theorem dX9_laysWay_55 : decode cX9_laysWay 55 = .ok (.iload 4, 2) := by decide +kernel
theorem dX9_laysWay_57 : decode cX9_laysWay 57 = .ok (.invokevirtual 330, 3) := by decide +kernel
theorem dX9_laysWay_60 : decode cX9_laysWay 60 = .ok (.istore 5, 2) := by decide +kernel
theorem dX9_laysWay_62 : decode cX9_laysWay 62 = .ok (.iload 4, 2) := by decide +kernel
theorem dX9_laysWay_64 : decode cX9_laysWay 64 = .ok (.iload_n 2, 1) := by decide +kernel
theorem dX9_laysWay_65 : decode cX9_laysWay 65 = .ok (.if_icmp .le 34, 3) := by decide +kernel
theorem dX9_laysWay_68 : decode cX9_laysWay 68 = .ok (.iload 5, 2) := by decide +kernel
theorem dX9_laysWay_70 : decode cX9_laysWay 70 = .ok (.iconst (-1), 1) := by decide +kernel
theorem dX9_laysWay_71 : decode cX9_laysWay 71 = .ok (.if_icmp .eq 28, 3) := by decide +kernel
theorem dX9_laysWay_74 : decode cX9_laysWay 74 = .ok (.iload 5, 2) := by decide +kernel
theorem dX9_laysWay_76 : decode cX9_laysWay 76 = .ok (.iload_n 3, 1) := by decide +kernel
theorem dX9_laysWay_77 : decode cX9_laysWay 77 = .ok (.if_icmp .eq 22, 3) := by decide +kernel
theorem dX9_laysWay_80 : decode cX9_laysWay 80 = .ok (.iload 5, 2) := by decide +kernel
theorem dX9_laysWay_82 : decode cX9_laysWay 82 = .ok (.istore_n 3, 1) := by decide +kernel
theorem dX9_laysWay_83 : decode cX9_laysWay 83 = .ok (.aload_n 0, 1) := by decide +kernel
theorem dX9_laysWay_84 : decode cX9_laysWay 84 = .ok (.getfield 91, 3) := by decide +kernel
theorem dX9_laysWay_87 : decode cX9_laysWay 87 = .ok (.iload 4, 2) := by decide +kernel
theorem dX9_laysWay_89 : decode cX9_laysWay 89 = .ok (.aload_n 0, 1) := by decide +kernel
theorem dX9_laysWay_90 : decode cX9_laysWay 90 = .ok (.iconst 3, 1) := by decide +kernel
theorem dX9_laysWay_91 : decode cX9_laysWay 91 = .ok (.iload_n 3, 1) := by decide +kernel
theorem dX9_laysWay_92 : decode cX9_laysWay 92 = .ok (.iload_n 1, 1) := by decide +kernel
theorem dX9_laysWay_93 : decode cX9_laysWay 93 = .ok (.iload 4, 2) := by decide +kernel
theorem dX9_laysWay_95 : decode cX9_laysWay 95 = .ok (.invokevirtual 323, 3) := by decide +kernel
theorem dX9_laysWay_98 : decode cX9_laysWay 98 = .ok (.iastore, 1) := by decide +kernel
theorem dX9_laysWay_99 : decode cX9_laysWay 99 = .ok (.aload_n 0, 1) := by decide +kernel
theorem dX9_laysWay_100 : decode cX9_laysWay 100 = .ok (.getfield 88, 3) := by decide +kernel
theorem dX9_laysWay_103 : decode cX9_laysWay 103 = .ok (.iload 4, 2) := by decide +kernel
theorem dX9_laysWay_105 : decode cX9_laysWay 105 = .ok (.iload_n 3, 1) := by decide +kernel
theorem dX9_laysWay_106 : decode cX9_laysWay 106 = .ok (.iastore, 1) := by decide +kernel
theorem dX9_laysWay_107 : decode cX9_laysWay 107 = .ok (.iinc 4 1, 3) := by decide +kernel
theorem dX9_laysWay_110 : decode cX9_laysWay 110 = .ok (.goto (-75), 3) := by decide +kernel
theorem dX9_laysWay_113 : decode cX9_laysWay 113 = .ok (.return_, 1) := by decide +kernel
theorem dX9_whose_0 : decode cX9_whose 0 = .ok (.aload_n 0, 1) := by decide +kernel
theorem dX9_whose_1 : decode cX9_whose 1 = .ok (.iload_n 1, 1) := by decide +kernel
theorem dX9_whose_2 : decode cX9_whose 2 = .ok (.invokevirtual 359, 3) := by decide +kernel
theorem dX9_whose_5 : decode cX9_whose 5 = .ok (.ifCond .eq 14, 3) := by decide +kernel
theorem dX9_whose_8 : decode cX9_whose 8 = .ok (.iload_n 2, 1) := by decide +kernel
theorem dX9_whose_9 : decode cX9_whose 9 = .ok (.iconst 0, 1) := by decide +kernel
theorem dX9_whose_10 : decode cX9_whose 10 = .ok (.sipush 9999, 3) := by decide +kernel
theorem dX9_whose_13 : decode cX9_whose 13 = .ok (.invokestatic 120, 3) := by decide +kernel
theorem dX9_whose_16 : decode cX9_whose 16 = .ok (.ifCond .ne 5, 3) := by decide +kernel
theorem dX9_whose_19 : decode cX9_whose 19 = .ok (.iconst (-1), 1) := by decide +kernel
theorem dX9_whose_20 : decode cX9_whose 20 = .ok (.ireturn, 1) := by decide +kernel
theorem dX9_whose_21 : decode cX9_whose 21 = .ok (.aload_n 0, 1) := by decide +kernel
theorem dX9_whose_22 : decode cX9_whose 22 = .ok (.iload_n 1, 1) := by decide +kernel
theorem dX9_whose_23 : decode cX9_whose 23 = .ok (.invokevirtual 362, 3) := by decide +kernel
theorem dX9_whose_26 : decode cX9_whose 26 = .ok (.iload_n 2, 1) := by decide +kernel
theorem dX9_whose_27 : decode cX9_whose 27 = .ok (.istore_n 3, 1) := by decide +kernel
theorem dX9_whose_28 : decode cX9_whose 28 = .ok (.aload_n 0, 1) := by decide +kernel
theorem dX9_whose_29 : decode cX9_whose 29 = .ok (.iload_n 1, 1) := by decide +kernel
theorem dX9_whose_30 : decode cX9_whose 30 = .ok (.iconst 2, 1) := by decide +kernel
theorem dX9_whose_31 : decode cX9_whose 31 = .ok (.invokevirtual 327, 3) := by decide +kernel
theorem dX9_whose_34 : decode cX9_whose 34 = .ok (.istore 4, 2) := by decide +kernel
theorem dX9_whose_36 : decode cX9_whose 36 = .ok (.iload 4, 2) := by decide +kernel
theorem dX9_whose_38 : decode cX9_whose 38 = .ok (.aload_n 0, 1) := by decide +kernel
theorem dX9_whose_39 : decode cX9_whose 39 = .ok (.iload_n 1, 1) := by decide +kernel
theorem dX9_whose_40 : decode cX9_whose 40 = .ok (.invokevirtual 310, 3) := by decide +kernel
theorem dX9_whose_43 : decode cX9_whose 43 = .ok (.if_icmp .ge 39, 3) := by decide +kernel
theorem dX9_whose_46 : decode cX9_whose 46 = .ok (.iload_n 3, 1) := by decide +kernel
theorem dX9_whose_47 : decode cX9_whose 47 = .ok (.aload_n 0, 1) := by decide +kernel
theorem dX9_whose_48 : decode cX9_whose 48 = .ok (.iconst 1, 1) := by decide +kernel
theorem dX9_whose_49 : decode cX9_whose 49 = .ok (.aload_n 0, 1) := by decide +kernel
theorem dX9_whose_50 : decode cX9_whose 50 = .ok (.getfield 88, 3) := by decide +kernel
theorem dX9_whose_53 : decode cX9_whose 53 = .ok (.iload 4, 2) := by decide +kernel
theorem dX9_whose_55 : decode cX9_whose 55 = .ok (.iaload, 1) := by decide +kernel
theorem dX9_whose_56 : decode cX9_whose 56 = .ok (.iload_n 1, 1) := by decide +kernel
theorem dX9_whose_57 : decode cX9_whose 57 = .ok (.iload 4, 2) := by decide +kernel
theorem dX9_whose_59 : decode cX9_whose 59 = .ok (.invokevirtual 323, 3) := by decide +kernel
theorem dX9_whose_62 : decode cX9_whose 62 = .ok (.isub, 1) := by decide +kernel
theorem dX9_whose_63 : decode cX9_whose 63 = .ok (.istore_n 3, 1) := by decide +kernel
theorem dX9_whose_64 : decode cX9_whose 64 = .ok (.iload_n 3, 1) := by decide +kernel
theorem dX9_whose_65 : decode cX9_whose 65 = .ok (.ifCond .ge 11, 3) := by decide +kernel
theorem dX9_whose_68 : decode cX9_whose 68 = .ok (.aload_n 0, 1) := by decide +kernel
theorem dX9_whose_69 : decode cX9_whose 69 = .ok (.getfield 88, 3) := by decide +kernel
theorem dX9_whose_72 : decode cX9_whose 72 = .ok (.iload 4, 2) := by decide +kernel
theorem dX9_whose_74 : decode cX9_whose 74 = .ok (.iaload, 1) := by decide +kernel
theorem dX9_whose_75 : decode cX9_whose 75 = .ok (.ireturn, 1) := by decide +kernel
theorem dX9_whose_76 : decode cX9_whose 76 = .ok (.iinc 4 1, 3) := by decide +kernel
theorem dX9_whose_79 : decode cX9_whose 79 = .ok (.goto (-43), 3) := by decide +kernel
theorem dX9_whose_82 : decode cX9_whose 82 = .ok (.iconst (-1), 1) := by decide +kernel
theorem dX9_whose_83 : decode cX9_whose 83 = .ok (.ireturn, 1) := by decide +kernel
theorem dX9_common_0 : decode cX9_common 0 = .ok (.lload_n 0, 1) := by decide +kernel
theorem dX9_common_1 : decode cX9_common 1 = .ok (.lstore 4, 2) := by decide +kernel
theorem dX9_common_3 : decode cX9_common 3 = .ok (.lload_n 2, 1) := by decide +kernel
theorem dX9_common_4 : decode cX9_common 4 = .ok (.lstore 6, 2) := by decide +kernel
theorem dX9_common_6 : decode cX9_common 6 = .ok (.lload 6, 2) := by decide +kernel
theorem dX9_common_8 : decode cX9_common 8 = .ok (.lconst 0, 1) := by decide +kernel
theorem dX9_common_9 : decode cX9_common 9 = .ok (.lcmp, 1) := by decide +kernel
theorem dX9_common_10 : decode cX9_common 10 = .ok (.ifCond .eq 21, 3) := by decide +kernel
theorem dX9_common_13 : decode cX9_common 13 = .ok (.lload 4, 2) := by decide +kernel
theorem dX9_common_15 : decode cX9_common 15 = .ok (.lload 6, 2) := by decide +kernel
theorem dX9_common_17 : decode cX9_common 17 = .ok (.lrem, 1) := by decide +kernel
theorem dX9_common_18 : decode cX9_common 18 = .ok (.lstore 8, 2) := by decide +kernel
theorem dX9_common_20 : decode cX9_common 20 = .ok (.lload 6, 2) := by decide +kernel
theorem dX9_common_22 : decode cX9_common 22 = .ok (.lstore 4, 2) := by decide +kernel
theorem dX9_common_24 : decode cX9_common 24 = .ok (.lload 8, 2) := by decide +kernel
theorem dX9_common_26 : decode cX9_common 26 = .ok (.lstore 6, 2) := by decide +kernel
theorem dX9_common_28 : decode cX9_common 28 = .ok (.goto (-22), 3) := by decide +kernel
theorem dX9_common_31 : decode cX9_common 31 = .ok (.lload 4, 2) := by decide +kernel
theorem dX9_common_33 : decode cX9_common 33 = .ok (.lreturn, 1) := by decide +kernel
theorem dX9_inLowest_0 : decode cX9_inLowest 0 = .ok (.lload_n 2, 1) := by decide +kernel
theorem dX9_inLowest_1 : decode cX9_inLowest 1 = .ok (.lload_n 0, 1) := by decide +kernel
theorem dX9_inLowest_2 : decode cX9_inLowest 2 = .ok (.invokestatic 365, 3) := by decide +kernel
theorem dX9_inLowest_5 : decode cX9_inLowest 5 = .ok (.lstore 5, 2) := by decide +kernel
theorem dX9_inLowest_7 : decode cX9_inLowest 7 = .ok (.iload 4, 2) := by decide +kernel
theorem dX9_inLowest_9 : decode cX9_inLowest 9 = .ok (.ifCond .eq 10, 3) := by decide +kernel
theorem dX9_inLowest_12 : decode cX9_inLowest 12 = .ok (.lload_n 2, 1) := by decide +kernel
theorem dX9_inLowest_13 : decode cX9_inLowest 13 = .ok (.lload 5, 2) := by decide +kernel
theorem dX9_inLowest_15 : decode cX9_inLowest 15 = .ok (.ldiv, 1) := by decide +kernel
theorem dX9_inLowest_16 : decode cX9_inLowest 16 = .ok (.goto 7, 3) := by decide +kernel
theorem dX9_inLowest_19 : decode cX9_inLowest 19 = .ok (.lload_n 0, 1) := by decide +kernel
theorem dX9_inLowest_20 : decode cX9_inLowest 20 = .ok (.lload 5, 2) := by decide +kernel
theorem dX9_inLowest_22 : decode cX9_inLowest 22 = .ok (.ldiv, 1) := by decide +kernel
theorem dX9_inLowest_23 : decode cX9_inLowest 23 = .ok (.lreturn, 1) := by decide +kernel
theorem dX9_odds_0 : decode cX9_odds 0 = .ok (.aload_n 0, 1) := by decide +kernel
theorem dX9_odds_1 : decode cX9_odds 1 = .ok (.iload_n 1, 1) := by decide +kernel
theorem dX9_odds_2 : decode cX9_odds 2 = .ok (.invokevirtual 359, 3) := by decide +kernel
theorem dX9_odds_5 : decode cX9_odds 5 = .ok (.ifCond .eq 23, 3) := by decide +kernel
theorem dX9_odds_8 : decode cX9_odds 8 = .ok (.iload_n 2, 1) := by decide +kernel
theorem dX9_odds_9 : decode cX9_odds 9 = .ok (.aload_n 0, 1) := by decide +kernel
theorem dX9_odds_10 : decode cX9_odds 10 = .ok (.iload_n 1, 1) := by decide +kernel
theorem dX9_odds_11 : decode cX9_odds 11 = .ok (.iconst 2, 1) := by decide +kernel
theorem dX9_odds_12 : decode cX9_odds 12 = .ok (.invokevirtual 327, 3) := by decide +kernel
theorem dX9_odds_15 : decode cX9_odds 15 = .ok (.aload_n 0, 1) := by decide +kernel
theorem dX9_odds_16 : decode cX9_odds 16 = .ok (.iload_n 1, 1) := by decide +kernel
theorem dX9_odds_17 : decode cX9_odds 17 = .ok (.invokevirtual 310, 3) := by decide +kernel
theorem dX9_odds_20 : decode cX9_odds 20 = .ok (.iconst 1, 1) := by decide +kernel
theorem dX9_odds_21 : decode cX9_odds 21 = .ok (.isub, 1) := by decide +kernel
theorem dX9_odds_22 : decode cX9_odds 22 = .ok (.invokestatic 120, 3) := by decide +kernel
theorem dX9_odds_25 : decode cX9_odds 25 = .ok (.ifCond .ne 7, 3) := by decide +kernel
theorem dX9_odds_28 : decode cX9_odds 28 = .ok (.ldc2_w 369, 3) := by decide +kernel
theorem dX9_odds_31 : decode cX9_odds 31 = .ok (.lreturn, 1) := by decide +kernel
theorem dX9_odds_32 : decode cX9_odds 32 = .ok (.aload_n 0, 1) := by decide +kernel
theorem dX9_odds_33 : decode cX9_odds 33 = .ok (.iload_n 1, 1) := by decide +kernel
theorem dX9_odds_34 : decode cX9_odds 34 = .ok (.invokevirtual 362, 3) := by decide +kernel
theorem dX9_odds_37 : decode cX9_odds 37 = .ok (.lconst 1, 1) := by decide +kernel
theorem dX9_odds_38 : decode cX9_odds 38 = .ok (.lstore 4, 2) := by decide +kernel
theorem dX9_odds_40 : decode cX9_odds 40 = .ok (.lconst 1, 1) := by decide +kernel
theorem dX9_odds_41 : decode cX9_odds 41 = .ok (.lstore 6, 2) := by decide +kernel
theorem dX9_odds_43 : decode cX9_odds 43 = .ok (.aload_n 0, 1) := by decide +kernel
theorem dX9_odds_44 : decode cX9_odds 44 = .ok (.iload_n 1, 1) := by decide +kernel
theorem dX9_odds_45 : decode cX9_odds 45 = .ok (.iconst 2, 1) := by decide +kernel
theorem dX9_odds_46 : decode cX9_odds 46 = .ok (.invokevirtual 327, 3) := by decide +kernel
theorem dX9_odds_49 : decode cX9_odds 49 = .ok (.iconst 1, 1) := by decide +kernel
theorem dX9_odds_50 : decode cX9_odds 50 = .ok (.iadd, 1) := by decide +kernel
theorem dX9_odds_51 : decode cX9_odds 51 = .ok (.istore 8, 2) := by decide +kernel
theorem dX9_odds_53 : decode cX9_odds 53 = .ok (.iload 8, 2) := by decide +kernel
theorem dX9_odds_55 : decode cX9_odds 55 = .ok (.iload_n 2, 1) := by decide +kernel
theorem dX9_odds_56 : decode cX9_odds 56 = .ok (.if_icmp .gt 44, 3) := by decide +kernel
theorem dX9_odds_59 : decode cX9_odds 59 = .ok (.aload_n 0, 1) := by decide +kernel
theorem dX9_odds_60 : decode cX9_odds 60 = .ok (.getfield 91, 3) := by decide +kernel
theorem dX9_odds_63 : decode cX9_odds 63 = .ok (.iload 8, 2) := by decide +kernel
theorem dX9_odds_65 : decode cX9_odds 65 = .ok (.iaload, 1) := by decide +kernel
theorem dX9_odds_66 : decode cX9_odds 66 = .ok (.iconst (-1), 1) := by decide +kernel
theorem dX9_odds_67 : decode cX9_odds 67 = .ok (.if_icmp .eq 27, 3) := by decide +kernel
theorem dX9_odds_70 : decode cX9_odds 70 = .ok (.lload 4, 2) := by decide +kernel
theorem dX9_odds_72 : decode cX9_odds 72 = .ok (.bipush 10, 2) := by decide +kernel
theorem dX9_odds_74 : decode cX9_odds 74 = .ok (.aload_n 0, 1) := by decide +kernel
theorem dX9_odds_75 : decode cX9_odds 75 = .ok (.getfield 91, 3) := by decide +kernel
theorem dX9_odds_78 : decode cX9_odds 78 = .ok (.iload 8, 2) := by decide +kernel
theorem dX9_odds_80 : decode cX9_odds 80 = .ok (.iaload, 1) := by decide +kernel
theorem dX9_odds_81 : decode cX9_odds 81 = .ok (.isub, 1) := by decide +kernel
theorem dX9_odds_82 : decode cX9_odds 82 = .ok (.i2l, 1) := by decide +kernel
theorem dX9_odds_83 : decode cX9_odds 83 = .ok (.lmul, 1) := by decide +kernel
theorem dX9_odds_84 : decode cX9_odds 84 = .ok (.lstore 4, 2) := by decide +kernel
theorem dX9_odds_86 : decode cX9_odds 86 = .ok (.lload 6, 2) := by decide +kernel
theorem dX9_odds_88 : decode cX9_odds 88 = .ok (.ldc2_w 371, 3) := by decide +kernel
theorem dX9_odds_91 : decode cX9_odds 91 = .ok (.lmul, 1) := by decide +kernel
theorem dX9_odds_92 : decode cX9_odds 92 = .ok (.lstore 6, 2) := by decide +kernel
theorem dX9_odds_94 : decode cX9_odds 94 = .ok (.iinc 8 1, 3) := by decide +kernel
theorem dX9_odds_97 : decode cX9_odds 97 = .ok (.goto (-44), 3) := by decide +kernel
theorem dX9_odds_100 : decode cX9_odds 100 = .ok (.lload 4, 2) := by decide +kernel
theorem dX9_odds_102 : decode cX9_odds 102 = .ok (.lload 6, 2) := by decide +kernel
theorem dX9_odds_104 : decode cX9_odds 104 = .ok (.iload_n 3, 1) := by decide +kernel
theorem dX9_odds_105 : decode cX9_odds 105 = .ok (.invokestatic 373, 3) := by decide +kernel
theorem dX9_odds_108 : decode cX9_odds 108 = .ok (.lreturn, 1) := by decide +kernel
theorem dX9_blame_0 : decode cX9_blame 0 = .ok (.aload_n 0, 1) := by decide +kernel
theorem dX9_blame_1 : decode cX9_blame 1 = .ok (.iload_n 1, 1) := by decide +kernel
theorem dX9_blame_2 : decode cX9_blame 2 = .ok (.invokevirtual 359, 3) := by decide +kernel
theorem dX9_blame_5 : decode cX9_blame 5 = .ok (.ifCond .eq 11, 3) := by decide +kernel
theorem dX9_blame_8 : decode cX9_blame 8 = .ok (.aload_n 0, 1) := by decide +kernel
theorem dX9_blame_9 : decode cX9_blame 9 = .ok (.iload_n 2, 1) := by decide +kernel
theorem dX9_blame_10 : decode cX9_blame 10 = .ok (.invokevirtual 317, 3) := by decide +kernel
theorem dX9_blame_13 : decode cX9_blame 13 = .ok (.ifCond .ne 7, 3) := by decide +kernel
theorem dX9_blame_16 : decode cX9_blame 16 = .ok (.ldc2_w 369, 3) := by decide +kernel
theorem dX9_blame_19 : decode cX9_blame 19 = .ok (.lreturn, 1) := by decide +kernel
theorem dX9_blame_20 : decode cX9_blame 20 = .ok (.aload_n 0, 1) := by decide +kernel
theorem dX9_blame_21 : decode cX9_blame 21 = .ok (.iload_n 1, 1) := by decide +kernel
theorem dX9_blame_22 : decode cX9_blame 22 = .ok (.invokevirtual 362, 3) := by decide +kernel
theorem dX9_blame_25 : decode cX9_blame 25 = .ok (.lconst 1, 1) := by decide +kernel
theorem dX9_blame_26 : decode cX9_blame 26 = .ok (.lstore 4, 2) := by decide +kernel
theorem dX9_blame_28 : decode cX9_blame 28 = .ok (.lconst 0, 1) := by decide +kernel
theorem dX9_blame_29 : decode cX9_blame 29 = .ok (.lstore 6, 2) := by decide +kernel
theorem dX9_blame_31 : decode cX9_blame 31 = .ok (.lconst 0, 1) := by decide +kernel
theorem dX9_blame_32 : decode cX9_blame 32 = .ok (.lstore 8, 2) := by decide +kernel
theorem dX9_blame_34 : decode cX9_blame 34 = .ok (.aload_n 0, 1) := by decide +kernel
theorem dX9_blame_35 : decode cX9_blame 35 = .ok (.iload_n 1, 1) := by decide +kernel
theorem dX9_blame_36 : decode cX9_blame 36 = .ok (.iconst 2, 1) := by decide +kernel
theorem dX9_blame_37 : decode cX9_blame 37 = .ok (.invokevirtual 327, 3) := by decide +kernel
theorem dX9_blame_40 : decode cX9_blame 40 = .ok (.iconst 1, 1) := by decide +kernel
theorem dX9_blame_41 : decode cX9_blame 41 = .ok (.iadd, 1) := by decide +kernel
theorem dX9_blame_42 : decode cX9_blame 42 = .ok (.istore 10, 2) := by decide +kernel
theorem dX9_blame_44 : decode cX9_blame 44 = .ok (.iload 10, 2) := by decide +kernel
theorem dX9_blame_46 : decode cX9_blame 46 = .ok (.aload_n 0, 1) := by decide +kernel
theorem dX9_blame_47 : decode cX9_blame 47 = .ok (.iload_n 1, 1) := by decide +kernel
theorem dX9_blame_48 : decode cX9_blame 48 = .ok (.invokevirtual 310, 3) := by decide +kernel
theorem dX9_blame_51 : decode cX9_blame 51 = .ok (.if_icmp .ge 91, 3) := by decide +kernel
theorem dX9_blame_54 : decode cX9_blame 54 = .ok (.aload_n 0, 1) := by decide +kernel
theorem dX9_blame_55 : decode cX9_blame 55 = .ok (.getfield 91, 3) := by decide +kernel
theorem dX9_blame_58 : decode cX9_blame 58 = .ok (.iload 10, 2) := by decide +kernel
theorem dX9_blame_60 : decode cX9_blame 60 = .ok (.iaload, 1) := by decide +kernel
theorem dX9_blame_61 : decode cX9_blame 61 = .ok (.iconst (-1), 1) := by decide +kernel
theorem dX9_blame_62 : decode cX9_blame 62 = .ok (.if_icmp .eq 74, 3) := by decide +kernel
theorem dX9_blame_65 : decode cX9_blame 65 = .ok (.ldc2_w 371, 3) := by decide +kernel
theorem dX9_blame_68 : decode cX9_blame 68 = .ok (.lload 6, 2) := by decide +kernel
theorem dX9_blame_70 : decode cX9_blame 70 = .ok (.lmul, 1) := by decide +kernel
theorem dX9_blame_71 : decode cX9_blame 71 = .ok (.aload_n 0, 1) := by decide +kernel
theorem dX9_blame_72 : decode cX9_blame 72 = .ok (.getfield 88, 3) := by decide +kernel
theorem dX9_blame_75 : decode cX9_blame 75 = .ok (.iload 10, 2) := by decide +kernel
theorem dX9_blame_77 : decode cX9_blame 77 = .ok (.iaload, 1) := by decide +kernel
theorem dX9_blame_78 : decode cX9_blame 78 = .ok (.iload_n 2, 1) := by decide +kernel
theorem dX9_blame_79 : decode cX9_blame 79 = .ok (.if_icmp .ne 17, 3) := by decide +kernel
theorem dX9_blame_82 : decode cX9_blame 82 = .ok (.lload 4, 2) := by decide +kernel
theorem dX9_blame_84 : decode cX9_blame 84 = .ok (.aload_n 0, 1) := by decide +kernel
theorem dX9_blame_85 : decode cX9_blame 85 = .ok (.getfield 91, 3) := by decide +kernel
theorem dX9_blame_88 : decode cX9_blame 88 = .ok (.iload 10, 2) := by decide +kernel
theorem dX9_blame_90 : decode cX9_blame 90 = .ok (.iaload, 1) := by decide +kernel
theorem dX9_blame_91 : decode cX9_blame 91 = .ok (.i2l, 1) := by decide +kernel
theorem dX9_blame_92 : decode cX9_blame 92 = .ok (.lmul, 1) := by decide +kernel
theorem dX9_blame_93 : decode cX9_blame 93 = .ok (.goto 4, 3) := by decide +kernel
theorem dX9_blame_96 : decode cX9_blame 96 = .ok (.lconst 0, 1) := by decide +kernel
theorem dX9_blame_97 : decode cX9_blame 97 = .ok (.ladd, 1) := by decide +kernel
theorem dX9_blame_98 : decode cX9_blame 98 = .ok (.lstore 6, 2) := by decide +kernel
theorem dX9_blame_100 : decode cX9_blame 100 = .ok (.ldc2_w 371, 3) := by decide +kernel
theorem dX9_blame_103 : decode cX9_blame 103 = .ok (.lload 8, 2) := by decide +kernel
theorem dX9_blame_105 : decode cX9_blame 105 = .ok (.lmul, 1) := by decide +kernel
theorem dX9_blame_106 : decode cX9_blame 106 = .ok (.lload 4, 2) := by decide +kernel
theorem dX9_blame_108 : decode cX9_blame 108 = .ok (.aload_n 0, 1) := by decide +kernel
theorem dX9_blame_109 : decode cX9_blame 109 = .ok (.getfield 91, 3) := by decide +kernel
theorem dX9_blame_112 : decode cX9_blame 112 = .ok (.iload 10, 2) := by decide +kernel
theorem dX9_blame_114 : decode cX9_blame 114 = .ok (.iaload, 1) := by decide +kernel
theorem dX9_blame_115 : decode cX9_blame 115 = .ok (.i2l, 1) := by decide +kernel
theorem dX9_blame_116 : decode cX9_blame 116 = .ok (.lmul, 1) := by decide +kernel
theorem dX9_blame_117 : decode cX9_blame 117 = .ok (.ladd, 1) := by decide +kernel
theorem dX9_blame_118 : decode cX9_blame 118 = .ok (.lstore 8, 2) := by decide +kernel
theorem dX9_blame_120 : decode cX9_blame 120 = .ok (.lload 4, 2) := by decide +kernel
theorem dX9_blame_122 : decode cX9_blame 122 = .ok (.bipush 10, 2) := by decide +kernel
theorem dX9_blame_124 : decode cX9_blame 124 = .ok (.aload_n 0, 1) := by decide +kernel
theorem dX9_blame_125 : decode cX9_blame 125 = .ok (.getfield 91, 3) := by decide +kernel
theorem dX9_blame_128 : decode cX9_blame 128 = .ok (.iload 10, 2) := by decide +kernel
theorem dX9_blame_130 : decode cX9_blame 130 = .ok (.iaload, 1) := by decide +kernel
theorem dX9_blame_131 : decode cX9_blame 131 = .ok (.isub, 1) := by decide +kernel
theorem dX9_blame_132 : decode cX9_blame 132 = .ok (.i2l, 1) := by decide +kernel
theorem dX9_blame_133 : decode cX9_blame 133 = .ok (.lmul, 1) := by decide +kernel
theorem dX9_blame_134 : decode cX9_blame 134 = .ok (.lstore 4, 2) := by decide +kernel
theorem dX9_blame_136 : decode cX9_blame 136 = .ok (.iinc 10 1, 3) := by decide +kernel
theorem dX9_blame_139 : decode cX9_blame 139 = .ok (.goto (-95), 3) := by decide +kernel
theorem dX9_blame_142 : decode cX9_blame 142 = .ok (.lload 8, 2) := by decide +kernel
theorem dX9_blame_144 : decode cX9_blame 144 = .ok (.lconst 0, 1) := by decide +kernel
theorem dX9_blame_145 : decode cX9_blame 145 = .ok (.lcmp, 1) := by decide +kernel
theorem dX9_blame_146 : decode cX9_blame 146 = .ok (.ifCond .ne 9, 3) := by decide +kernel
theorem dX9_blame_149 : decode cX9_blame 149 = .ok (.ldc2_w 369, 3) := by decide +kernel
theorem dX9_blame_152 : decode cX9_blame 152 = .ok (.goto 11, 3) := by decide +kernel
theorem dX9_blame_155 : decode cX9_blame 155 = .ok (.lload 6, 2) := by decide +kernel
theorem dX9_blame_157 : decode cX9_blame 157 = .ok (.lload 8, 2) := by decide +kernel
theorem dX9_blame_159 : decode cX9_blame 159 = .ok (.iload_n 3, 1) := by decide +kernel
theorem dX9_blame_160 : decode cX9_blame 160 = .ok (.invokestatic 373, 3) := by decide +kernel
theorem dX9_blame_163 : decode cX9_blame 163 = .ok (.lreturn, 1) := by decide +kernel
theorem dX9_rows_0 : decode cX9_rows 0 = .ok (.iconst 1, 1) := by decide +kernel
theorem dX9_rows_1 : decode cX9_rows 1 = .ok (.istore_n 1, 1) := by decide +kernel
theorem dX9_rows_2 : decode cX9_rows 2 = .ok (.iconst 2, 1) := by decide +kernel
theorem dX9_rows_3 : decode cX9_rows 3 = .ok (.istore_n 2, 1) := by decide +kernel
theorem dX9_rows_4 : decode cX9_rows 4 = .ok (.iload_n 2, 1) := by decide +kernel
theorem dX9_rows_5 : decode cX9_rows 5 = .ok (.iload_n 0, 1) := by decide +kernel
theorem dX9_rows_6 : decode cX9_rows 6 = .ok (.if_icmp .gt 13, 3) := by decide +kernel
theorem dX9_rows_9 : decode cX9_rows 9 = .ok (.iload_n 1, 1) := by decide +kernel
theorem dX9_rows_10 : decode cX9_rows 10 = .ok (.iload_n 2, 1) := by decide +kernel
theorem dX9_rows_11 : decode cX9_rows 11 = .ok (.imul, 1) := by decide +kernel
theorem dX9_rows_12 : decode cX9_rows 12 = .ok (.istore_n 1, 1) := by decide +kernel
theorem dX9_rows_13 : decode cX9_rows 13 = .ok (.iinc 2 1, 3) := by decide +kernel
theorem dX9_rows_16 : decode cX9_rows 16 = .ok (.goto (-12), 3) := by decide +kernel
theorem dX9_rows_19 : decode cX9_rows 19 = .ok (.iload_n 1, 1) := by decide +kernel
theorem dX9_rows_20 : decode cX9_rows 20 = .ok (.ireturn, 1) := by decide +kernel
theorem dX9_laysOrder_0 : decode cX9_laysOrder 0 = .ok (.iload_n 2, 1) := by decide +kernel
theorem dX9_laysOrder_1 : decode cX9_laysOrder 1 = .ok (.istore_n 3, 1) := by decide +kernel
theorem dX9_laysOrder_2 : decode cX9_laysOrder 2 = .ok (.iconst 0, 1) := by decide +kernel
theorem dX9_laysOrder_3 : decode cX9_laysOrder 3 = .ok (.istore 4, 2) := by decide +kernel
theorem dX9_laysOrder_5 : decode cX9_laysOrder 5 = .ok (.iconst 0, 1) := by decide +kernel
theorem dX9_laysOrder_6 : decode cX9_laysOrder 6 = .ok (.istore 5, 2) := by decide +kernel
theorem dX9_laysOrder_8 : decode cX9_laysOrder 8 = .ok (.iload 5, 2) := by decide +kernel
theorem dX9_laysOrder_10 : decode cX9_laysOrder 10 = .ok (.iload_n 1, 1) := by decide +kernel
theorem dX9_laysOrder_11 : decode cX9_laysOrder 11 = .ok (.if_icmp .ge 103, 3) := by decide +kernel
theorem dX9_laysOrder_14 : decode cX9_laysOrder 14 = .ok (.iload_n 3, 1) := by decide +kernel
theorem dX9_laysOrder_15 : decode cX9_laysOrder 15 = .ok (.iload_n 1, 1) := by decide +kernel
theorem dX9_laysOrder_16 : decode cX9_laysOrder 16 = .ok (.iconst 1, 1) := by decide +kernel
theorem dX9_laysOrder_17 : decode cX9_laysOrder 17 = .ok (.isub, 1) := by decide +kernel
theorem dX9_laysOrder_18 : decode cX9_laysOrder 18 = .ok (.iload 5, 2) := by decide +kernel
theorem dX9_laysOrder_20 : decode cX9_laysOrder 20 = .ok (.isub, 1) := by decide +kernel
theorem dX9_laysOrder_21 : decode cX9_laysOrder 21 = .ok (.invokestatic 377, 3) := by decide +kernel
theorem dX9_laysOrder_24 : decode cX9_laysOrder 24 = .ok (.idiv, 1) := by decide +kernel
theorem dX9_laysOrder_25 : decode cX9_laysOrder 25 = .ok (.istore 6, 2) := by decide +kernel
theorem dX9_laysOrder_27 : decode cX9_laysOrder 27 = .ok (.iload_n 3, 1) := by decide +kernel
theorem dX9_laysOrder_28 : decode cX9_laysOrder 28 = .ok (.iload_n 1, 1) := by decide +kernel
theorem dX9_laysOrder_29 : decode cX9_laysOrder 29 = .ok (.iconst 1, 1) := by decide +kernel
theorem dX9_laysOrder_30 : decode cX9_laysOrder 30 = .ok (.isub, 1) := by decide +kernel
theorem dX9_laysOrder_31 : decode cX9_laysOrder 31 = .ok (.iload 5, 2) := by decide +kernel
theorem dX9_laysOrder_33 : decode cX9_laysOrder 33 = .ok (.isub, 1) := by decide +kernel
theorem dX9_laysOrder_34 : decode cX9_laysOrder 34 = .ok (.invokestatic 377, 3) := by decide +kernel
theorem dX9_laysOrder_37 : decode cX9_laysOrder 37 = .ok (.irem, 1) := by decide +kernel
theorem dX9_laysOrder_38 : decode cX9_laysOrder 38 = .ok (.istore_n 3, 1) := by decide +kernel
theorem dX9_laysOrder_39 : decode cX9_laysOrder 39 = .ok (.iconst 0, 1) := by decide +kernel
theorem dX9_laysOrder_40 : decode cX9_laysOrder 40 = .ok (.istore 7, 2) := by decide +kernel
theorem dX9_laysOrder_42 : decode cX9_laysOrder 42 = .ok (.iload 4, 2) := by decide +kernel
theorem dX9_laysOrder_44 : decode cX9_laysOrder 44 = .ok (.iload 7, 2) := by decide +kernel
theorem dX9_laysOrder_46 : decode cX9_laysOrder 46 = .ok (.ishr, 1) := by decide +kernel
theorem dX9_laysOrder_47 : decode cX9_laysOrder 47 = .ok (.iconst 1, 1) := by decide +kernel
theorem dX9_laysOrder_48 : decode cX9_laysOrder 48 = .ok (.iand, 1) := by decide +kernel
theorem dX9_laysOrder_49 : decode cX9_laysOrder 49 = .ok (.iconst 1, 1) := by decide +kernel
theorem dX9_laysOrder_50 : decode cX9_laysOrder 50 = .ok (.if_icmp .eq 8, 3) := by decide +kernel
theorem dX9_laysOrder_53 : decode cX9_laysOrder 53 = .ok (.iload 6, 2) := by decide +kernel
theorem dX9_laysOrder_55 : decode cX9_laysOrder 55 = .ok (.ifCond .le 30, 3) := by decide +kernel
theorem dX9_laysOrder_58 : decode cX9_laysOrder 58 = .ok (.iload 6, 2) := by decide +kernel
theorem dX9_laysOrder_60 : decode cX9_laysOrder 60 = .ok (.iload 4, 2) := by decide +kernel
theorem dX9_laysOrder_62 : decode cX9_laysOrder 62 = .ok (.iload 7, 2) := by decide +kernel
theorem dX9_laysOrder_64 : decode cX9_laysOrder 64 = .ok (.ishr, 1) := by decide +kernel
theorem dX9_laysOrder_65 : decode cX9_laysOrder 65 = .ok (.iconst 1, 1) := by decide +kernel
theorem dX9_laysOrder_66 : decode cX9_laysOrder 66 = .ok (.iand, 1) := by decide +kernel
theorem dX9_laysOrder_67 : decode cX9_laysOrder 67 = .ok (.iconst 1, 1) := by decide +kernel
theorem dX9_laysOrder_68 : decode cX9_laysOrder 68 = .ok (.if_icmp .ne 7, 3) := by decide +kernel
theorem dX9_laysOrder_71 : decode cX9_laysOrder 71 = .ok (.iconst 0, 1) := by decide +kernel
theorem dX9_laysOrder_72 : decode cX9_laysOrder 72 = .ok (.goto 4, 3) := by decide +kernel
theorem dX9_laysOrder_75 : decode cX9_laysOrder 75 = .ok (.iconst 1, 1) := by decide +kernel
theorem dX9_laysOrder_76 : decode cX9_laysOrder 76 = .ok (.isub, 1) := by decide +kernel
theorem dX9_laysOrder_77 : decode cX9_laysOrder 77 = .ok (.istore 6, 2) := by decide +kernel
theorem dX9_laysOrder_79 : decode cX9_laysOrder 79 = .ok (.iinc 7 1, 3) := by decide +kernel
theorem dX9_laysOrder_82 : decode cX9_laysOrder 82 = .ok (.goto (-40), 3) := by decide +kernel
theorem dX9_laysOrder_85 : decode cX9_laysOrder 85 = .ok (.iload 4, 2) := by decide +kernel
theorem dX9_laysOrder_87 : decode cX9_laysOrder 87 = .ok (.iconst 1, 1) := by decide +kernel
theorem dX9_laysOrder_88 : decode cX9_laysOrder 88 = .ok (.iload 7, 2) := by decide +kernel
theorem dX9_laysOrder_90 : decode cX9_laysOrder 90 = .ok (.ishl, 1) := by decide +kernel
theorem dX9_laysOrder_91 : decode cX9_laysOrder 91 = .ok (.ior, 1) := by decide +kernel
theorem dX9_laysOrder_92 : decode cX9_laysOrder 92 = .ok (.istore 4, 2) := by decide +kernel
theorem dX9_laysOrder_94 : decode cX9_laysOrder 94 = .ok (.aload_n 0, 1) := by decide +kernel
theorem dX9_laysOrder_95 : decode cX9_laysOrder 95 = .ok (.getfield 97, 3) := by decide +kernel
theorem dX9_laysOrder_98 : decode cX9_laysOrder 98 = .ok (.iload 5, 2) := by decide +kernel
theorem dX9_laysOrder_100 : decode cX9_laysOrder 100 = .ok (.aload_n 0, 1) := by decide +kernel
theorem dX9_laysOrder_101 : decode cX9_laysOrder 101 = .ok (.getfield 94, 3) := by decide +kernel
theorem dX9_laysOrder_104 : decode cX9_laysOrder 104 = .ok (.iload 7, 2) := by decide +kernel
theorem dX9_laysOrder_106 : decode cX9_laysOrder 106 = .ok (.iaload, 1) := by decide +kernel
theorem dX9_laysOrder_107 : decode cX9_laysOrder 107 = .ok (.iastore, 1) := by decide +kernel
theorem dX9_laysOrder_108 : decode cX9_laysOrder 108 = .ok (.iinc 5 1, 3) := by decide +kernel
theorem dX9_laysOrder_111 : decode cX9_laysOrder 111 = .ok (.goto (-103), 3) := by decide +kernel
theorem dX9_laysOrder_114 : decode cX9_laysOrder 114 = .ok (.return_, 1) := by decide +kernel
theorem dX9_supper_0 : decode cX9_supper 0 = .ok (.iload_n 1, 1) := by decide +kernel
theorem dX9_supper_1 : decode cX9_supper 1 = .ok (.iconst 1, 1) := by decide +kernel
theorem dX9_supper_2 : decode cX9_supper 2 = .ok (.iconst 1, 1) := by decide +kernel
theorem dX9_supper_3 : decode cX9_supper 3 = .ok (.aload_n 0, 1) := by decide +kernel
theorem dX9_supper_4 : decode cX9_supper 4 = .ok (.getfield 7, 3) := by decide +kernel
theorem dX9_supper_7 : decode cX9_supper 7 = .ok (.iconst 0, 1) := by decide +kernel
theorem dX9_supper_8 : decode cX9_supper 8 = .ok (.iaload, 1) := by decide +kernel
theorem dX9_supper_9 : decode cX9_supper 9 = .ok (.ishl, 1) := by decide +kernel
theorem dX9_supper_10 : decode cX9_supper 10 = .ok (.iconst 1, 1) := by decide +kernel
theorem dX9_supper_11 : decode cX9_supper 11 = .ok (.isub, 1) := by decide +kernel
theorem dX9_supper_12 : decode cX9_supper 12 = .ok (.invokestatic 120, 3) := by decide +kernel
theorem dX9_supper_15 : decode cX9_supper 15 = .ok (.ifCond .eq 17, 3) := by decide +kernel
theorem dX9_supper_18 : decode cX9_supper 18 = .ok (.iload_n 2, 1) := by decide +kernel
theorem dX9_supper_19 : decode cX9_supper 19 = .ok (.iconst 1, 1) := by decide +kernel
theorem dX9_supper_20 : decode cX9_supper 20 = .ok (.bipush 9, 2) := by decide +kernel
theorem dX9_supper_22 : decode cX9_supper 22 = .ok (.invokestatic 120, 3) := by decide +kernel
theorem dX9_supper_25 : decode cX9_supper 25 = .ok (.ifCond .eq 7, 3) := by decide +kernel
theorem dX9_supper_28 : decode cX9_supper 28 = .ok (.iload_n 3, 1) := by decide +kernel
theorem dX9_supper_29 : decode cX9_supper 29 = .ok (.ifCond .ge 5, 3) := by decide +kernel
theorem dX9_supper_32 : decode cX9_supper 32 = .ok (.iconst (-1), 1) := by decide +kernel
theorem dX9_supper_33 : decode cX9_supper 33 = .ok (.ireturn, 1) := by decide +kernel
theorem dX9_supper_34 : decode cX9_supper 34 = .ok (.iconst 0, 1) := by decide +kernel
theorem dX9_supper_35 : decode cX9_supper 35 = .ok (.istore 4, 2) := by decide +kernel
theorem dX9_supper_37 : decode cX9_supper 37 = .ok (.iconst 0, 1) := by decide +kernel
theorem dX9_supper_38 : decode cX9_supper 38 = .ok (.istore 5, 2) := by decide +kernel
theorem dX9_supper_40 : decode cX9_supper 40 = .ok (.iload 5, 2) := by decide +kernel
theorem dX9_supper_42 : decode cX9_supper 42 = .ok (.aload_n 0, 1) := by decide +kernel
theorem dX9_supper_43 : decode cX9_supper 43 = .ok (.getfield 7, 3) := by decide +kernel
theorem dX9_supper_46 : decode cX9_supper 46 = .ok (.iconst 0, 1) := by decide +kernel
theorem dX9_supper_47 : decode cX9_supper 47 = .ok (.iaload, 1) := by decide +kernel
theorem dX9_supper_48 : decode cX9_supper 48 = .ok (.if_icmp .ge 40, 3) := by decide +kernel
theorem dX9_supper_51 : decode cX9_supper 51 = .ok (.iload_n 1, 1) := by decide +kernel
theorem dX9_supper_52 : decode cX9_supper 52 = .ok (.iload 5, 2) := by decide +kernel
theorem dX9_supper_54 : decode cX9_supper 54 = .ok (.ishr, 1) := by decide +kernel
theorem dX9_supper_55 : decode cX9_supper 55 = .ok (.iconst 1, 1) := by decide +kernel
theorem dX9_supper_56 : decode cX9_supper 56 = .ok (.iand, 1) := by decide +kernel
theorem dX9_supper_57 : decode cX9_supper 57 = .ok (.iconst 1, 1) := by decide +kernel
theorem dX9_supper_58 : decode cX9_supper 58 = .ok (.if_icmp .ne 24, 3) := by decide +kernel
theorem dX9_supper_61 : decode cX9_supper 61 = .ok (.iload 4, 2) := by decide +kernel
theorem dX9_supper_63 : decode cX9_supper 63 = .ok (.bipush 6, 2) := by decide +kernel
theorem dX9_supper_65 : decode cX9_supper 65 = .ok (.if_icmp .ne 5, 3) := by decide +kernel
theorem dX9_supper_68 : decode cX9_supper 68 = .ok (.iconst (-1), 1) := by decide +kernel
theorem dX9_supper_69 : decode cX9_supper 69 = .ok (.ireturn, 1) := by decide +kernel
theorem dX9_supper_70 : decode cX9_supper 70 = .ok (.aload_n 0, 1) := by decide +kernel
theorem dX9_supper_71 : decode cX9_supper 71 = .ok (.getfield 94, 3) := by decide +kernel
theorem dX9_supper_74 : decode cX9_supper 74 = .ok (.iload 4, 2) := by decide +kernel
theorem dX9_supper_76 : decode cX9_supper 76 = .ok (.iload 5, 2) := by decide +kernel
theorem dX9_supper_78 : decode cX9_supper 78 = .ok (.iastore, 1) := by decide +kernel
theorem dX9_supper_79 : decode cX9_supper 79 = .ok (.iinc 4 1, 3) := by decide +kernel
theorem dX9_supper_82 : decode cX9_supper 82 = .ok (.iinc 5 1, 3) := by decide +kernel
theorem dX9_supper_85 : decode cX9_supper 85 = .ok (.goto (-45), 3) := by decide +kernel
theorem dX9_supper_88 : decode cX9_supper 88 = .ok (.iload_n 3, 1) := by decide +kernel
theorem dX9_supper_89 : decode cX9_supper 89 = .ok (.iload 4, 2) := by decide +kernel
theorem dX9_supper_91 : decode cX9_supper 91 = .ok (.if_icmp .lt 5, 3) := by decide +kernel
theorem dX9_supper_94 : decode cX9_supper 94 = .ok (.iconst (-1), 1) := by decide +kernel
theorem dX9_supper_95 : decode cX9_supper 95 = .ok (.ireturn, 1) := by decide +kernel
theorem dX9_supper_96 : decode cX9_supper 96 = .ok (.iconst (-1), 1) := by decide +kernel
theorem dX9_supper_97 : decode cX9_supper 97 = .ok (.istore 5, 2) := by decide +kernel
theorem dX9_supper_99 : decode cX9_supper 99 = .ok (.iconst 0, 1) := by decide +kernel
theorem dX9_supper_100 : decode cX9_supper 100 = .ok (.istore 6, 2) := by decide +kernel
theorem dX9_supper_102 : decode cX9_supper 102 = .ok (.iload 6, 2) := by decide +kernel
theorem dX9_supper_104 : decode cX9_supper 104 = .ok (.iload 4, 2) := by decide +kernel
theorem dX9_supper_106 : decode cX9_supper 106 = .ok (.invokestatic 377, 3) := by decide +kernel
theorem dX9_supper_109 : decode cX9_supper 109 = .ok (.if_icmp .ge 108, 3) := by decide +kernel
theorem dX9_supper_112 : decode cX9_supper 112 = .ok (.aload_n 0, 1) := by decide +kernel
theorem dX9_supper_113 : decode cX9_supper 113 = .ok (.iload 4, 2) := by decide +kernel
theorem dX9_supper_115 : decode cX9_supper 115 = .ok (.iload 6, 2) := by decide +kernel
theorem dX9_supper_117 : decode cX9_supper 117 = .ok (.invokevirtual 380, 3) := by decide +kernel
theorem dX9_supper_120 : decode cX9_supper 120 = .ok (.iconst 1, 1) := by decide +kernel
theorem dX9_supper_121 : decode cX9_supper 121 = .ok (.istore 7, 2) := by decide +kernel
theorem dX9_supper_123 : decode cX9_supper 123 = .ok (.iconst 1, 1) := by decide +kernel
theorem dX9_supper_124 : decode cX9_supper 124 = .ok (.istore 8, 2) := by decide +kernel
theorem dX9_supper_126 : decode cX9_supper 126 = .ok (.iload 8, 2) := by decide +kernel
theorem dX9_supper_128 : decode cX9_supper 128 = .ok (.iload 4, 2) := by decide +kernel
theorem dX9_supper_130 : decode cX9_supper 130 = .ok (.if_icmp .ge 40, 3) := by decide +kernel
theorem dX9_supper_133 : decode cX9_supper 133 = .ok (.iload 7, 2) := by decide +kernel
theorem dX9_supper_135 : decode cX9_supper 135 = .ok (.bipush 10, 2) := by decide +kernel
theorem dX9_supper_137 : decode cX9_supper 137 = .ok (.aload_n 0, 1) := by decide +kernel
theorem dX9_supper_138 : decode cX9_supper 138 = .ok (.iconst 3, 1) := by decide +kernel
theorem dX9_supper_139 : decode cX9_supper 139 = .ok (.aload_n 0, 1) := by decide +kernel
theorem dX9_supper_140 : decode cX9_supper 140 = .ok (.getfield 97, 3) := by decide +kernel
theorem dX9_supper_143 : decode cX9_supper 143 = .ok (.iload 8, 2) := by decide +kernel
theorem dX9_supper_145 : decode cX9_supper 145 = .ok (.iaload, 1) := by decide +kernel
theorem dX9_supper_146 : decode cX9_supper 146 = .ok (.aload_n 0, 1) := by decide +kernel
theorem dX9_supper_147 : decode cX9_supper 147 = .ok (.getfield 7, 3) := by decide +kernel
theorem dX9_supper_150 : decode cX9_supper 150 = .ok (.iconst 1, 1) := by decide +kernel
theorem dX9_supper_151 : decode cX9_supper 151 = .ok (.iaload, 1) := by decide +kernel
theorem dX9_supper_152 : decode cX9_supper 152 = .ok (.iload_n 2, 1) := by decide +kernel
theorem dX9_supper_153 : decode cX9_supper 153 = .ok (.iload 4, 2) := by decide +kernel
theorem dX9_supper_155 : decode cX9_supper 155 = .ok (.iload 8, 2) := by decide +kernel
theorem dX9_supper_157 : decode cX9_supper 157 = .ok (.invokevirtual 313, 3) := by decide +kernel
theorem dX9_supper_160 : decode cX9_supper 160 = .ok (.isub, 1) := by decide +kernel
theorem dX9_supper_161 : decode cX9_supper 161 = .ok (.imul, 1) := by decide +kernel
theorem dX9_supper_162 : decode cX9_supper 162 = .ok (.istore 7, 2) := by decide +kernel
theorem dX9_supper_164 : decode cX9_supper 164 = .ok (.iinc 8 1, 3) := by decide +kernel
theorem dX9_supper_167 : decode cX9_supper 167 = .ok (.goto (-41), 3) := by decide +kernel
theorem dX9_supper_170 : decode cX9_supper 170 = .ok (.iload 7, 2) := by decide +kernel
theorem dX9_supper_172 : decode cX9_supper 172 = .ok (.iload 5, 2) := by decide +kernel
theorem dX9_supper_174 : decode cX9_supper 174 = .ok (.if_icmp .le 37, 3) := by decide +kernel
theorem dX9_supper_177 : decode cX9_supper 177 = .ok (.iload 7, 2) := by decide +kernel
theorem dX9_supper_179 : decode cX9_supper 179 = .ok (.istore 5, 2) := by decide +kernel
theorem dX9_supper_181 : decode cX9_supper 181 = .ok (.iconst 0, 1) := by decide +kernel
theorem dX9_supper_182 : decode cX9_supper 182 = .ok (.istore 8, 2) := by decide +kernel
theorem dX9_supper_184 : decode cX9_supper 184 = .ok (.iload 8, 2) := by decide +kernel
theorem dX9_supper_186 : decode cX9_supper 186 = .ok (.iload 4, 2) := by decide +kernel
theorem dX9_supper_188 : decode cX9_supper 188 = .ok (.if_icmp .ge 23, 3) := by decide +kernel
theorem dX9_supper_191 : decode cX9_supper 191 = .ok (.aload_n 0, 1) := by decide +kernel
theorem dX9_supper_192 : decode cX9_supper 192 = .ok (.getfield 100, 3) := by decide +kernel
theorem dX9_supper_195 : decode cX9_supper 195 = .ok (.iload 8, 2) := by decide +kernel
theorem dX9_supper_197 : decode cX9_supper 197 = .ok (.aload_n 0, 1) := by decide +kernel
theorem dX9_supper_198 : decode cX9_supper 198 = .ok (.getfield 97, 3) := by decide +kernel
theorem dX9_supper_201 : decode cX9_supper 201 = .ok (.iload 8, 2) := by decide +kernel
theorem dX9_supper_203 : decode cX9_supper 203 = .ok (.iaload, 1) := by decide +kernel
theorem dX9_supper_204 : decode cX9_supper 204 = .ok (.iastore, 1) := by decide +kernel
theorem dX9_supper_205 : decode cX9_supper 205 = .ok (.iinc 8 1, 3) := by decide +kernel
theorem dX9_supper_208 : decode cX9_supper 208 = .ok (.goto (-24), 3) := by decide +kernel
theorem dX9_supper_211 : decode cX9_supper 211 = .ok (.iinc 6 1, 3) := by decide +kernel
theorem dX9_supper_214 : decode cX9_supper 214 = .ok (.goto (-112), 3) := by decide +kernel
theorem dX9_supper_217 : decode cX9_supper 217 = .ok (.aload_n 0, 1) := by decide +kernel
theorem dX9_supper_218 : decode cX9_supper 218 = .ok (.getfield 100, 3) := by decide +kernel
theorem dX9_supper_221 : decode cX9_supper 221 = .ok (.iload_n 3, 1) := by decide +kernel
theorem dX9_supper_222 : decode cX9_supper 222 = .ok (.iaload, 1) := by decide +kernel
theorem dX9_supper_223 : decode cX9_supper 223 = .ok (.ireturn, 1) := by decide +kernel
theorem dX9_laysMinutes_0 : decode cX9_laysMinutes 0 = .ok (.iconst 0, 1) := by decide +kernel
theorem dX9_laysMinutes_1 : decode cX9_laysMinutes 1 = .ok (.istore_n 1, 1) := by decide +kernel
theorem dX9_laysMinutes_2 : decode cX9_laysMinutes 2 = .ok (.iload_n 1, 1) := by decide +kernel
theorem dX9_laysMinutes_3 : decode cX9_laysMinutes 3 = .ok (.aload_n 0, 1) := by decide +kernel
theorem dX9_laysMinutes_4 : decode cX9_laysMinutes 4 = .ok (.getfield 7, 3) := by decide +kernel
theorem dX9_laysMinutes_7 : decode cX9_laysMinutes 7 = .ok (.iconst 1, 1) := by decide +kernel
theorem dX9_laysMinutes_8 : decode cX9_laysMinutes 8 = .ok (.iaload, 1) := by decide +kernel
theorem dX9_laysMinutes_9 : decode cX9_laysMinutes 9 = .ok (.if_icmp .ge 55, 3) := by decide +kernel
theorem dX9_laysMinutes_12 : decode cX9_laysMinutes 12 = .ok (.aload_n 0, 1) := by decide +kernel
theorem dX9_laysMinutes_13 : decode cX9_laysMinutes 13 = .ok (.getfield 103, 3) := by decide +kernel
theorem dX9_laysMinutes_16 : decode cX9_laysMinutes 16 = .ok (.iload_n 1, 1) := by decide +kernel
theorem dX9_laysMinutes_17 : decode cX9_laysMinutes 17 = .ok (.iconst 0, 1) := by decide +kernel
theorem dX9_laysMinutes_18 : decode cX9_laysMinutes 18 = .ok (.iastore, 1) := by decide +kernel
theorem dX9_laysMinutes_19 : decode cX9_laysMinutes 19 = .ok (.aload_n 0, 1) := by decide +kernel
theorem dX9_laysMinutes_20 : decode cX9_laysMinutes 20 = .ok (.iload_n 1, 1) := by decide +kernel
theorem dX9_laysMinutes_21 : decode cX9_laysMinutes 21 = .ok (.iconst 2, 1) := by decide +kernel
theorem dX9_laysMinutes_22 : decode cX9_laysMinutes 22 = .ok (.invokevirtual 327, 3) := by decide +kernel
theorem dX9_laysMinutes_25 : decode cX9_laysMinutes 25 = .ok (.istore_n 2, 1) := by decide +kernel
theorem dX9_laysMinutes_26 : decode cX9_laysMinutes 26 = .ok (.iload_n 2, 1) := by decide +kernel
theorem dX9_laysMinutes_27 : decode cX9_laysMinutes 27 = .ok (.aload_n 0, 1) := by decide +kernel
theorem dX9_laysMinutes_28 : decode cX9_laysMinutes 28 = .ok (.iload_n 1, 1) := by decide +kernel
theorem dX9_laysMinutes_29 : decode cX9_laysMinutes 29 = .ok (.invokevirtual 310, 3) := by decide +kernel
theorem dX9_laysMinutes_32 : decode cX9_laysMinutes 32 = .ok (.if_icmp .ge 26, 3) := by decide +kernel
theorem dX9_laysMinutes_35 : decode cX9_laysMinutes 35 = .ok (.aload_n 0, 1) := by decide +kernel
theorem dX9_laysMinutes_36 : decode cX9_laysMinutes 36 = .ok (.getfield 103, 3) := by decide +kernel
theorem dX9_laysMinutes_39 : decode cX9_laysMinutes 39 = .ok (.iload_n 1, 1) := by decide +kernel
theorem dX9_laysMinutes_40 : decode cX9_laysMinutes 40 = .ok (.dup2, 1) := by decide +kernel
theorem dX9_laysMinutes_41 : decode cX9_laysMinutes 41 = .ok (.iaload, 1) := by decide +kernel
theorem dX9_laysMinutes_42 : decode cX9_laysMinutes 42 = .ok (.aload_n 0, 1) := by decide +kernel
theorem dX9_laysMinutes_43 : decode cX9_laysMinutes 43 = .ok (.iconst 1, 1) := by decide +kernel
theorem dX9_laysMinutes_44 : decode cX9_laysMinutes 44 = .ok (.iconst 0, 1) := by decide +kernel
theorem dX9_laysMinutes_45 : decode cX9_laysMinutes 45 = .ok (.iload_n 1, 1) := by decide +kernel
theorem dX9_laysMinutes_46 : decode cX9_laysMinutes 46 = .ok (.iload_n 2, 1) := by decide +kernel
theorem dX9_laysMinutes_47 : decode cX9_laysMinutes 47 = .ok (.invokevirtual 323, 3) := by decide +kernel
theorem dX9_laysMinutes_50 : decode cX9_laysMinutes 50 = .ok (.iadd, 1) := by decide +kernel
theorem dX9_laysMinutes_51 : decode cX9_laysMinutes 51 = .ok (.iastore, 1) := by decide +kernel
theorem dX9_laysMinutes_52 : decode cX9_laysMinutes 52 = .ok (.iinc 2 1, 3) := by decide +kernel
theorem dX9_laysMinutes_55 : decode cX9_laysMinutes 55 = .ok (.goto (-29), 3) := by decide +kernel
theorem dX9_laysMinutes_58 : decode cX9_laysMinutes 58 = .ok (.iinc 1 1, 3) := by decide +kernel
theorem dX9_laysMinutes_61 : decode cX9_laysMinutes 61 = .ok (.goto (-59), 3) := by decide +kernel
theorem dX9_laysMinutes_64 : decode cX9_laysMinutes 64 = .ok (.return_, 1) := by decide +kernel
theorem dX9_laysMates_0 : decode cX9_laysMates 0 = .ok (.iload_n 2, 1) := by decide +kernel
theorem dX9_laysMates_1 : decode cX9_laysMates 1 = .ok (.istore 4, 2) := by decide +kernel
theorem dX9_laysMates_3 : decode cX9_laysMates 3 = .ok (.iload_n 3, 1) := by decide +kernel
theorem dX9_laysMates_4 : decode cX9_laysMates 4 = .ok (.istore 5, 2) := by decide +kernel
theorem dX9_laysMates_6 : decode cX9_laysMates 6 = .ok (.iconst 0, 1) := by decide +kernel
theorem dX9_laysMates_7 : decode cX9_laysMates 7 = .ok (.istore 6, 2) := by decide +kernel
theorem dX9_laysMates_9 : decode cX9_laysMates 9 = .ok (.iload 6, 2) := by decide +kernel
theorem dX9_laysMates_11 : decode cX9_laysMates 11 = .ok (.iload_n 1, 1) := by decide +kernel
theorem dX9_laysMates_12 : decode cX9_laysMates 12 = .ok (.if_icmp .ge 17, 3) := by decide +kernel
theorem dX9_laysMates_15 : decode cX9_laysMates 15 = .ok (.aload_n 0, 1) := by decide +kernel
theorem dX9_laysMates_16 : decode cX9_laysMates 16 = .ok (.getfield 106, 3) := by decide +kernel
theorem dX9_laysMates_19 : decode cX9_laysMates 19 = .ok (.iload 6, 2) := by decide +kernel
theorem dX9_laysMates_21 : decode cX9_laysMates 21 = .ok (.iconst (-1), 1) := by decide +kernel
theorem dX9_laysMates_22 : decode cX9_laysMates 22 = .ok (.iastore, 1) := by decide +kernel
theorem dX9_laysMates_23 : decode cX9_laysMates 23 = .ok (.iinc 6 1, 3) := by decide +kernel
theorem dX9_laysMates_26 : decode cX9_laysMates 26 = .ok (.goto (-17), 3) := by decide +kernel
theorem dX9_laysMates_29 : decode cX9_laysMates 29 = .ok (.iload_n 1, 1) := by decide +kernel
theorem dX9_laysMates_30 : decode cX9_laysMates 30 = .ok (.istore 6, 2) := by decide +kernel
theorem dX9_laysMates_32 : decode cX9_laysMates 32 = .ok (.iconst 0, 1) := by decide +kernel
theorem dX9_laysMates_33 : decode cX9_laysMates 33 = .ok (.istore 7, 2) := by decide +kernel
theorem dX9_laysMates_35 : decode cX9_laysMates 35 = .ok (.iload 7, 2) := by decide +kernel
theorem dX9_laysMates_37 : decode cX9_laysMates 37 = .ok (.iload_n 1, 1) := by decide +kernel
theorem dX9_laysMates_38 : decode cX9_laysMates 38 = .ok (.if_icmp .ge 113, 3) := by decide +kernel
theorem dX9_laysMates_41 : decode cX9_laysMates 41 = .ok (.aload_n 0, 1) := by decide +kernel
theorem dX9_laysMates_42 : decode cX9_laysMates 42 = .ok (.getfield 106, 3) := by decide +kernel
theorem dX9_laysMates_45 : decode cX9_laysMates 45 = .ok (.iload 7, 2) := by decide +kernel
theorem dX9_laysMates_47 : decode cX9_laysMates 47 = .ok (.iaload, 1) := by decide +kernel
theorem dX9_laysMates_48 : decode cX9_laysMates 48 = .ok (.iconst (-1), 1) := by decide +kernel
theorem dX9_laysMates_49 : decode cX9_laysMates 49 = .ok (.if_icmp .ne 96, 3) := by decide +kernel
theorem dX9_laysMates_52 : decode cX9_laysMates 52 = .ok (.iload 5, 2) := by decide +kernel
theorem dX9_laysMates_54 : decode cX9_laysMates 54 = .ok (.iload 6, 2) := by decide +kernel
theorem dX9_laysMates_56 : decode cX9_laysMates 56 = .ok (.iconst 1, 1) := by decide +kernel
theorem dX9_laysMates_57 : decode cX9_laysMates 57 = .ok (.isub, 1) := by decide +kernel
theorem dX9_laysMates_58 : decode cX9_laysMates 58 = .ok (.idiv, 1) := by decide +kernel
theorem dX9_laysMates_59 : decode cX9_laysMates 59 = .ok (.istore 5, 2) := by decide +kernel
theorem dX9_laysMates_61 : decode cX9_laysMates 61 = .ok (.iload 4, 2) := by decide +kernel
theorem dX9_laysMates_63 : decode cX9_laysMates 63 = .ok (.iload 5, 2) := by decide +kernel
theorem dX9_laysMates_65 : decode cX9_laysMates 65 = .ok (.idiv, 1) := by decide +kernel
theorem dX9_laysMates_66 : decode cX9_laysMates 66 = .ok (.istore 8, 2) := by decide +kernel
theorem dX9_laysMates_68 : decode cX9_laysMates 68 = .ok (.iload 4, 2) := by decide +kernel
theorem dX9_laysMates_70 : decode cX9_laysMates 70 = .ok (.iload 5, 2) := by decide +kernel
theorem dX9_laysMates_72 : decode cX9_laysMates 72 = .ok (.irem, 1) := by decide +kernel
theorem dX9_laysMates_73 : decode cX9_laysMates 73 = .ok (.istore 4, 2) := by decide +kernel
theorem dX9_laysMates_75 : decode cX9_laysMates 75 = .ok (.iload 7, 2) := by decide +kernel
theorem dX9_laysMates_77 : decode cX9_laysMates 77 = .ok (.iconst 1, 1) := by decide +kernel
theorem dX9_laysMates_78 : decode cX9_laysMates 78 = .ok (.iadd, 1) := by decide +kernel
theorem dX9_laysMates_79 : decode cX9_laysMates 79 = .ok (.istore 9, 2) := by decide +kernel
theorem dX9_laysMates_81 : decode cX9_laysMates 81 = .ok (.aload_n 0, 1) := by decide +kernel
theorem dX9_laysMates_82 : decode cX9_laysMates 82 = .ok (.getfield 106, 3) := by decide +kernel
theorem dX9_laysMates_85 : decode cX9_laysMates 85 = .ok (.iload 9, 2) := by decide +kernel
theorem dX9_laysMates_87 : decode cX9_laysMates 87 = .ok (.iaload, 1) := by decide +kernel
theorem dX9_laysMates_88 : decode cX9_laysMates 88 = .ok (.iconst (-1), 1) := by decide +kernel
theorem dX9_laysMates_89 : decode cX9_laysMates 89 = .ok (.if_icmp .ne 8, 3) := by decide +kernel
theorem dX9_laysMates_92 : decode cX9_laysMates 92 = .ok (.iload 8, 2) := by decide +kernel
theorem dX9_laysMates_94 : decode cX9_laysMates 94 = .ok (.ifCond .le 30, 3) := by decide +kernel
theorem dX9_laysMates_97 : decode cX9_laysMates 97 = .ok (.iload 8, 2) := by decide +kernel
theorem dX9_laysMates_99 : decode cX9_laysMates 99 = .ok (.aload_n 0, 1) := by decide +kernel
theorem dX9_laysMates_100 : decode cX9_laysMates 100 = .ok (.getfield 106, 3) := by decide +kernel
theorem dX9_laysMates_103 : decode cX9_laysMates 103 = .ok (.iload 9, 2) := by decide +kernel
theorem dX9_laysMates_105 : decode cX9_laysMates 105 = .ok (.iaload, 1) := by decide +kernel
theorem dX9_laysMates_106 : decode cX9_laysMates 106 = .ok (.iconst (-1), 1) := by decide +kernel
theorem dX9_laysMates_107 : decode cX9_laysMates 107 = .ok (.if_icmp .eq 7, 3) := by decide +kernel
theorem dX9_laysMates_110 : decode cX9_laysMates 110 = .ok (.iconst 0, 1) := by decide +kernel
theorem dX9_laysMates_111 : decode cX9_laysMates 111 = .ok (.goto 4, 3) := by decide +kernel
theorem dX9_laysMates_114 : decode cX9_laysMates 114 = .ok (.iconst 1, 1) := by decide +kernel
theorem dX9_laysMates_115 : decode cX9_laysMates 115 = .ok (.isub, 1) := by decide +kernel
theorem dX9_laysMates_116 : decode cX9_laysMates 116 = .ok (.istore 8, 2) := by decide +kernel
theorem dX9_laysMates_118 : decode cX9_laysMates 118 = .ok (.iinc 9 1, 3) := by decide +kernel
theorem dX9_laysMates_121 : decode cX9_laysMates 121 = .ok (.goto (-40), 3) := by decide +kernel
theorem dX9_laysMates_124 : decode cX9_laysMates 124 = .ok (.aload_n 0, 1) := by decide +kernel
theorem dX9_laysMates_125 : decode cX9_laysMates 125 = .ok (.getfield 106, 3) := by decide +kernel
theorem dX9_laysMates_128 : decode cX9_laysMates 128 = .ok (.iload 7, 2) := by decide +kernel
theorem dX9_laysMates_130 : decode cX9_laysMates 130 = .ok (.iload 9, 2) := by decide +kernel
theorem dX9_laysMates_132 : decode cX9_laysMates 132 = .ok (.iastore, 1) := by decide +kernel
theorem dX9_laysMates_133 : decode cX9_laysMates 133 = .ok (.aload_n 0, 1) := by decide +kernel
theorem dX9_laysMates_134 : decode cX9_laysMates 134 = .ok (.getfield 106, 3) := by decide +kernel
theorem dX9_laysMates_137 : decode cX9_laysMates 137 = .ok (.iload 9, 2) := by decide +kernel
theorem dX9_laysMates_139 : decode cX9_laysMates 139 = .ok (.iload 7, 2) := by decide +kernel
theorem dX9_laysMates_141 : decode cX9_laysMates 141 = .ok (.iastore, 1) := by decide +kernel
theorem dX9_laysMates_142 : decode cX9_laysMates 142 = .ok (.iinc 6 (-2), 3) := by decide +kernel
theorem dX9_laysMates_145 : decode cX9_laysMates 145 = .ok (.iinc 7 1, 3) := by decide +kernel
theorem dX9_laysMates_148 : decode cX9_laysMates 148 = .ok (.goto (-113), 3) := by decide +kernel
theorem dX9_laysMates_151 : decode cX9_laysMates 151 = .ok (.return_, 1) := by decide +kernel
theorem dX9_married_0 : decode cX9_married 0 = .ok (.aload_n 0, 1) := by decide +kernel
theorem dX9_married_1 : decode cX9_married 1 = .ok (.getfield 7, 3) := by decide +kernel
theorem dX9_married_4 : decode cX9_married 4 = .ok (.iconst 1, 1) := by decide +kernel
theorem dX9_married_5 : decode cX9_married 5 = .ok (.iaload, 1) := by decide +kernel
theorem dX9_married_6 : decode cX9_married 6 = .ok (.istore_n 2, 1) := by decide +kernel
theorem dX9_married_7 : decode cX9_married 7 = .ok (.aload_n 0, 1) := by decide +kernel
theorem dX9_married_8 : decode cX9_married 8 = .ok (.getfield 7, 3) := by decide +kernel
theorem dX9_married_11 : decode cX9_married 11 = .ok (.iconst 0, 1) := by decide +kernel
theorem dX9_married_12 : decode cX9_married 12 = .ok (.iaload, 1) := by decide +kernel
theorem dX9_married_13 : decode cX9_married 13 = .ok (.ifCond .eq 27, 3) := by decide +kernel
theorem dX9_married_16 : decode cX9_married 16 = .ok (.iload_n 2, 1) := by decide +kernel
theorem dX9_married_17 : decode cX9_married 17 = .ok (.ifCond .eq 23, 3) := by decide +kernel
theorem dX9_married_20 : decode cX9_married 20 = .ok (.iload_n 2, 1) := by decide +kernel
theorem dX9_married_21 : decode cX9_married 21 = .ok (.iconst 2, 1) := by decide +kernel
theorem dX9_married_22 : decode cX9_married 22 = .ok (.irem, 1) := by decide +kernel
theorem dX9_married_23 : decode cX9_married 23 = .ok (.iconst 1, 1) := by decide +kernel
theorem dX9_married_24 : decode cX9_married 24 = .ok (.if_icmp .eq 16, 3) := by decide +kernel
theorem dX9_married_27 : decode cX9_married 27 = .ok (.iload_n 1, 1) := by decide +kernel
theorem dX9_married_28 : decode cX9_married 28 = .ok (.iconst (-1), 1) := by decide +kernel
theorem dX9_married_29 : decode cX9_married 29 = .ok (.if_icmp .eq 13, 3) := by decide +kernel
theorem dX9_married_32 : decode cX9_married 32 = .ok (.aload_n 0, 1) := by decide +kernel
theorem dX9_married_33 : decode cX9_married 33 = .ok (.iload_n 1, 1) := by decide +kernel
theorem dX9_married_34 : decode cX9_married 34 = .ok (.invokevirtual 320, 3) := by decide +kernel
theorem dX9_married_37 : decode cX9_married 37 = .ok (.ifCond .ne 5, 3) := by decide +kernel
theorem dX9_married_40 : decode cX9_married 40 = .ok (.iconst (-1), 1) := by decide +kernel
theorem dX9_married_41 : decode cX9_married 41 = .ok (.ireturn, 1) := by decide +kernel
theorem dX9_married_42 : decode cX9_married 42 = .ok (.aload_n 0, 1) := by decide +kernel
theorem dX9_married_43 : decode cX9_married 43 = .ok (.invokevirtual 383, 3) := by decide +kernel
theorem dX9_married_46 : decode cX9_married 46 = .ok (.iload_n 2, 1) := by decide +kernel
theorem dX9_married_47 : decode cX9_married 47 = .ok (.iconst 2, 1) := by decide +kernel
theorem dX9_married_48 : decode cX9_married 48 = .ok (.if_icmp .ne 7, 3) := by decide +kernel
theorem dX9_married_51 : decode cX9_married 51 = .ok (.iconst 1, 1) := by decide +kernel
theorem dX9_married_52 : decode cX9_married 52 = .ok (.goto 14, 3) := by decide +kernel
theorem dX9_married_55 : decode cX9_married 55 = .ok (.iload_n 2, 1) := by decide +kernel
theorem dX9_married_56 : decode cX9_married 56 = .ok (.iconst 4, 1) := by decide +kernel
theorem dX9_married_57 : decode cX9_married 57 = .ok (.if_icmp .ne 7, 3) := by decide +kernel
theorem dX9_married_60 : decode cX9_married 60 = .ok (.iconst 3, 1) := by decide +kernel
theorem dX9_married_61 : decode cX9_married 61 = .ok (.goto 5, 3) := by decide +kernel
theorem dX9_married_64 : decode cX9_married 64 = .ok (.bipush 15, 2) := by decide +kernel
theorem dX9_married_66 : decode cX9_married 66 = .ok (.istore_n 3, 1) := by decide +kernel
theorem dX9_married_67 : decode cX9_married 67 = .ok (.iconst (-1), 1) := by decide +kernel
theorem dX9_married_68 : decode cX9_married 68 = .ok (.istore 4, 2) := by decide +kernel
theorem dX9_married_70 : decode cX9_married 70 = .ok (.iconst 0, 1) := by decide +kernel
theorem dX9_married_71 : decode cX9_married 71 = .ok (.istore 5, 2) := by decide +kernel
theorem dX9_married_73 : decode cX9_married 73 = .ok (.iload 5, 2) := by decide +kernel
theorem dX9_married_75 : decode cX9_married 75 = .ok (.iload_n 3, 1) := by decide +kernel
theorem dX9_married_76 : decode cX9_married 76 = .ok (.if_icmp .ge 119, 3) := by decide +kernel
theorem dX9_married_79 : decode cX9_married 79 = .ok (.aload_n 0, 1) := by decide +kernel
theorem dX9_married_80 : decode cX9_married 80 = .ok (.iload_n 2, 1) := by decide +kernel
theorem dX9_married_81 : decode cX9_married 81 = .ok (.iload 5, 2) := by decide +kernel
theorem dX9_married_83 : decode cX9_married 83 = .ok (.iload_n 3, 1) := by decide +kernel
theorem dX9_married_84 : decode cX9_married 84 = .ok (.invokevirtual 386, 3) := by decide +kernel
theorem dX9_married_87 : decode cX9_married 87 = .ok (.iconst 0, 1) := by decide +kernel
theorem dX9_married_88 : decode cX9_married 88 = .ok (.istore 6, 2) := by decide +kernel
theorem dX9_married_90 : decode cX9_married 90 = .ok (.iconst 0, 1) := by decide +kernel
theorem dX9_married_91 : decode cX9_married 91 = .ok (.istore 7, 2) := by decide +kernel
theorem dX9_married_93 : decode cX9_married 93 = .ok (.iload 7, 2) := by decide +kernel
theorem dX9_married_95 : decode cX9_married 95 = .ok (.iload_n 2, 1) := by decide +kernel
theorem dX9_married_96 : decode cX9_married 96 = .ok (.if_icmp .ge 47, 3) := by decide +kernel
theorem dX9_married_99 : decode cX9_married 99 = .ok (.aload_n 0, 1) := by decide +kernel
theorem dX9_married_100 : decode cX9_married 100 = .ok (.getfield 103, 3) := by decide +kernel
theorem dX9_married_103 : decode cX9_married 103 = .ok (.iload 7, 2) := by decide +kernel
theorem dX9_married_105 : decode cX9_married 105 = .ok (.iaload, 1) := by decide +kernel
theorem dX9_married_106 : decode cX9_married 106 = .ok (.aload_n 0, 1) := by decide +kernel
theorem dX9_married_107 : decode cX9_married 107 = .ok (.getfield 103, 3) := by decide +kernel
theorem dX9_married_110 : decode cX9_married 110 = .ok (.aload_n 0, 1) := by decide +kernel
theorem dX9_married_111 : decode cX9_married 111 = .ok (.getfield 106, 3) := by decide +kernel
theorem dX9_married_114 : decode cX9_married 114 = .ok (.iload 7, 2) := by decide +kernel
theorem dX9_married_116 : decode cX9_married 116 = .ok (.iaload, 1) := by decide +kernel
theorem dX9_married_117 : decode cX9_married 117 = .ok (.iaload, 1) := by decide +kernel
theorem dX9_married_118 : decode cX9_married 118 = .ok (.iadd, 1) := by decide +kernel
theorem dX9_married_119 : decode cX9_married 119 = .ok (.istore 8, 2) := by decide +kernel
theorem dX9_married_121 : decode cX9_married 121 = .ok (.iload 8, 2) := by decide +kernel
theorem dX9_married_123 : decode cX9_married 123 = .ok (.iload 6, 2) := by decide +kernel
theorem dX9_married_125 : decode cX9_married 125 = .ok (.if_icmp .le 8, 3) := by decide +kernel
theorem dX9_married_128 : decode cX9_married 128 = .ok (.iload 8, 2) := by decide +kernel
theorem dX9_married_130 : decode cX9_married 130 = .ok (.goto 5, 3) := by decide +kernel
theorem dX9_married_133 : decode cX9_married 133 = .ok (.iload 6, 2) := by decide +kernel
theorem dX9_married_135 : decode cX9_married 135 = .ok (.istore 6, 2) := by decide +kernel
theorem dX9_married_137 : decode cX9_married 137 = .ok (.iinc 7 1, 3) := by decide +kernel
theorem dX9_married_140 : decode cX9_married 140 = .ok (.goto (-47), 3) := by decide +kernel
theorem dX9_married_143 : decode cX9_married 143 = .ok (.iload 4, 2) := by decide +kernel
theorem dX9_married_145 : decode cX9_married 145 = .ok (.iconst (-1), 1) := by decide +kernel
theorem dX9_married_146 : decode cX9_married 146 = .ok (.if_icmp .eq 10, 3) := by decide +kernel
theorem dX9_married_149 : decode cX9_married 149 = .ok (.iload 6, 2) := by decide +kernel
theorem dX9_married_151 : decode cX9_married 151 = .ok (.iload 4, 2) := by decide +kernel
theorem dX9_married_153 : decode cX9_married 153 = .ok (.if_icmp .ge 36, 3) := by decide +kernel
theorem dX9_married_156 : decode cX9_married 156 = .ok (.iload 6, 2) := by decide +kernel
theorem dX9_married_158 : decode cX9_married 158 = .ok (.istore 4, 2) := by decide +kernel
theorem dX9_married_160 : decode cX9_married 160 = .ok (.iconst 0, 1) := by decide +kernel
theorem dX9_married_161 : decode cX9_married 161 = .ok (.istore 7, 2) := by decide +kernel
theorem dX9_married_163 : decode cX9_married 163 = .ok (.iload 7, 2) := by decide +kernel
theorem dX9_married_165 : decode cX9_married 165 = .ok (.iload_n 2, 1) := by decide +kernel
theorem dX9_married_166 : decode cX9_married 166 = .ok (.if_icmp .ge 23, 3) := by decide +kernel
theorem dX9_married_169 : decode cX9_married 169 = .ok (.aload_n 0, 1) := by decide +kernel
theorem dX9_married_170 : decode cX9_married 170 = .ok (.getfield 109, 3) := by decide +kernel
theorem dX9_married_173 : decode cX9_married 173 = .ok (.iload 7, 2) := by decide +kernel
theorem dX9_married_175 : decode cX9_married 175 = .ok (.aload_n 0, 1) := by decide +kernel
theorem dX9_married_176 : decode cX9_married 176 = .ok (.getfield 106, 3) := by decide +kernel
theorem dX9_married_179 : decode cX9_married 179 = .ok (.iload 7, 2) := by decide +kernel
theorem dX9_married_181 : decode cX9_married 181 = .ok (.iaload, 1) := by decide +kernel
theorem dX9_married_182 : decode cX9_married 182 = .ok (.iastore, 1) := by decide +kernel
theorem dX9_married_183 : decode cX9_married 183 = .ok (.iinc 7 1, 3) := by decide +kernel
theorem dX9_married_186 : decode cX9_married 186 = .ok (.goto (-23), 3) := by decide +kernel
theorem dX9_married_189 : decode cX9_married 189 = .ok (.iinc 5 1, 3) := by decide +kernel
theorem dX9_married_192 : decode cX9_married 192 = .ok (.goto (-119), 3) := by decide +kernel
theorem dX9_married_195 : decode cX9_married 195 = .ok (.iload_n 1, 1) := by decide +kernel
theorem dX9_married_196 : decode cX9_married 196 = .ok (.iconst (-1), 1) := by decide +kernel
theorem dX9_married_197 : decode cX9_married 197 = .ok (.if_icmp .ne 8, 3) := by decide +kernel
theorem dX9_married_200 : decode cX9_married 200 = .ok (.iload 4, 2) := by decide +kernel
theorem dX9_married_202 : decode cX9_married 202 = .ok (.goto 9, 3) := by decide +kernel
theorem dX9_married_205 : decode cX9_married 205 = .ok (.aload_n 0, 1) := by decide +kernel
theorem dX9_married_206 : decode cX9_married 206 = .ok (.getfield 109, 3) := by decide +kernel
theorem dX9_married_209 : decode cX9_married 209 = .ok (.iload_n 1, 1) := by decide +kernel
theorem dX9_married_210 : decode cX9_married 210 = .ok (.iaload, 1) := by decide +kernel
theorem dX9_married_211 : decode cX9_married 211 = .ok (.ireturn, 1) := by decide +kernel
theorem dX9_worthOf_0 : decode cX9_worthOf 0 = .ok (.iconst 0, 1) := by decide +kernel
theorem dX9_worthOf_1 : decode cX9_worthOf 1 = .ok (.istore_n 2, 1) := by decide +kernel
theorem dX9_worthOf_2 : decode cX9_worthOf 2 = .ok (.iconst 0, 1) := by decide +kernel
theorem dX9_worthOf_3 : decode cX9_worthOf 3 = .ok (.istore_n 3, 1) := by decide +kernel
theorem dX9_worthOf_4 : decode cX9_worthOf 4 = .ok (.iload_n 3, 1) := by decide +kernel
theorem dX9_worthOf_5 : decode cX9_worthOf 5 = .ok (.aload_n 0, 1) := by decide +kernel
theorem dX9_worthOf_6 : decode cX9_worthOf 6 = .ok (.getfield 7, 3) := by decide +kernel
theorem dX9_worthOf_9 : decode cX9_worthOf 9 = .ok (.iconst 1, 1) := by decide +kernel
theorem dX9_worthOf_10 : decode cX9_worthOf 10 = .ok (.iaload, 1) := by decide +kernel
theorem dX9_worthOf_11 : decode cX9_worthOf 11 = .ok (.if_icmp .ge 83, 3) := by decide +kernel
theorem dX9_worthOf_14 : decode cX9_worthOf 14 = .ok (.iconst 1, 1) := by decide +kernel
theorem dX9_worthOf_15 : decode cX9_worthOf 15 = .ok (.istore 4, 2) := by decide +kernel
theorem dX9_worthOf_17 : decode cX9_worthOf 17 = .ok (.iload 4, 2) := by decide +kernel
theorem dX9_worthOf_19 : decode cX9_worthOf 19 = .ok (.aload_n 0, 1) := by decide +kernel
theorem dX9_worthOf_20 : decode cX9_worthOf 20 = .ok (.iload_n 3, 1) := by decide +kernel
theorem dX9_worthOf_21 : decode cX9_worthOf 21 = .ok (.invokevirtual 310, 3) := by decide +kernel
theorem dX9_worthOf_24 : decode cX9_worthOf 24 = .ok (.if_icmp .ge 64, 3) := by decide +kernel
theorem dX9_worthOf_27 : decode cX9_worthOf 27 = .ok (.aload_n 0, 1) := by decide +kernel
theorem dX9_worthOf_28 : decode cX9_worthOf 28 = .ok (.iload_n 3, 1) := by decide +kernel
theorem dX9_worthOf_29 : decode cX9_worthOf 29 = .ok (.iload 4, 2) := by decide +kernel
theorem dX9_worthOf_31 : decode cX9_worthOf 31 = .ok (.iconst 1, 1) := by decide +kernel
theorem dX9_worthOf_32 : decode cX9_worthOf 32 = .ok (.isub, 1) := by decide +kernel
theorem dX9_worthOf_33 : decode cX9_worthOf 33 = .ok (.invokevirtual 330, 3) := by decide +kernel
theorem dX9_worthOf_36 : decode cX9_worthOf 36 = .ok (.istore 5, 2) := by decide +kernel
theorem dX9_worthOf_38 : decode cX9_worthOf 38 = .ok (.aload_n 0, 1) := by decide +kernel
theorem dX9_worthOf_39 : decode cX9_worthOf 39 = .ok (.iload_n 3, 1) := by decide +kernel
theorem dX9_worthOf_40 : decode cX9_worthOf 40 = .ok (.iload 4, 2) := by decide +kernel
theorem dX9_worthOf_42 : decode cX9_worthOf 42 = .ok (.invokevirtual 330, 3) := by decide +kernel
theorem dX9_worthOf_45 : decode cX9_worthOf 45 = .ok (.istore 6, 2) := by decide +kernel
theorem dX9_worthOf_47 : decode cX9_worthOf 47 = .ok (.iload 5, 2) := by decide +kernel
theorem dX9_worthOf_49 : decode cX9_worthOf 49 = .ok (.iconst (-1), 1) := by decide +kernel
theorem dX9_worthOf_50 : decode cX9_worthOf 50 = .ok (.if_icmp .eq 32, 3) := by decide +kernel
theorem dX9_worthOf_53 : decode cX9_worthOf 53 = .ok (.iload 6, 2) := by decide +kernel
theorem dX9_worthOf_55 : decode cX9_worthOf 55 = .ok (.iconst (-1), 1) := by decide +kernel
theorem dX9_worthOf_56 : decode cX9_worthOf 56 = .ok (.if_icmp .eq 26, 3) := by decide +kernel
theorem dX9_worthOf_59 : decode cX9_worthOf 59 = .ok (.iload_n 1, 1) := by decide +kernel
theorem dX9_worthOf_60 : decode cX9_worthOf 60 = .ok (.iload 5, 2) := by decide +kernel
theorem dX9_worthOf_62 : decode cX9_worthOf 62 = .ok (.ishr, 1) := by decide +kernel
theorem dX9_worthOf_63 : decode cX9_worthOf 63 = .ok (.iconst 1, 1) := by decide +kernel
theorem dX9_worthOf_64 : decode cX9_worthOf 64 = .ok (.iand, 1) := by decide +kernel
theorem dX9_worthOf_65 : decode cX9_worthOf 65 = .ok (.iconst 1, 1) := by decide +kernel
theorem dX9_worthOf_66 : decode cX9_worthOf 66 = .ok (.if_icmp .ne 16, 3) := by decide +kernel
theorem dX9_worthOf_69 : decode cX9_worthOf 69 = .ok (.iload_n 1, 1) := by decide +kernel
theorem dX9_worthOf_70 : decode cX9_worthOf 70 = .ok (.iload 6, 2) := by decide +kernel
theorem dX9_worthOf_72 : decode cX9_worthOf 72 = .ok (.ishr, 1) := by decide +kernel
theorem dX9_worthOf_73 : decode cX9_worthOf 73 = .ok (.iconst 1, 1) := by decide +kernel
theorem dX9_worthOf_74 : decode cX9_worthOf 74 = .ok (.iand, 1) := by decide +kernel
theorem dX9_worthOf_75 : decode cX9_worthOf 75 = .ok (.iconst 1, 1) := by decide +kernel
theorem dX9_worthOf_76 : decode cX9_worthOf 76 = .ok (.if_icmp .ne 6, 3) := by decide +kernel
theorem dX9_worthOf_79 : decode cX9_worthOf 79 = .ok (.iinc 2 1, 3) := by decide +kernel
theorem dX9_worthOf_82 : decode cX9_worthOf 82 = .ok (.iinc 4 1, 3) := by decide +kernel
theorem dX9_worthOf_85 : decode cX9_worthOf 85 = .ok (.goto (-68), 3) := by decide +kernel
theorem dX9_worthOf_88 : decode cX9_worthOf 88 = .ok (.iinc 3 1, 3) := by decide +kernel
theorem dX9_worthOf_91 : decode cX9_worthOf 91 = .ok (.goto (-87), 3) := by decide +kernel
theorem dX9_worthOf_94 : decode cX9_worthOf 94 = .ok (.iload_n 2, 1) := by decide +kernel
theorem dX9_worthOf_95 : decode cX9_worthOf 95 = .ok (.ireturn, 1) := by decide +kernel
theorem dX9_worth_0 : decode cX9_worth 0 = .ok (.iload_n 1, 1) := by decide +kernel
theorem dX9_worth_1 : decode cX9_worth 1 = .ok (.iconst 0, 1) := by decide +kernel
theorem dX9_worth_2 : decode cX9_worth 2 = .ok (.iconst 1, 1) := by decide +kernel
theorem dX9_worth_3 : decode cX9_worth 3 = .ok (.aload_n 0, 1) := by decide +kernel
theorem dX9_worth_4 : decode cX9_worth 4 = .ok (.getfield 7, 3) := by decide +kernel
theorem dX9_worth_7 : decode cX9_worth 7 = .ok (.iconst 0, 1) := by decide +kernel
theorem dX9_worth_8 : decode cX9_worth 8 = .ok (.iaload, 1) := by decide +kernel
theorem dX9_worth_9 : decode cX9_worth 9 = .ok (.ishl, 1) := by decide +kernel
theorem dX9_worth_10 : decode cX9_worth 10 = .ok (.iconst 1, 1) := by decide +kernel
theorem dX9_worth_11 : decode cX9_worth 11 = .ok (.isub, 1) := by decide +kernel
theorem dX9_worth_12 : decode cX9_worth 12 = .ok (.invokestatic 120, 3) := by decide +kernel
theorem dX9_worth_15 : decode cX9_worth 15 = .ok (.ifCond .eq 11, 3) := by decide +kernel
theorem dX9_worth_18 : decode cX9_worth 18 = .ok (.aload_n 0, 1) := by decide +kernel
theorem dX9_worth_19 : decode cX9_worth 19 = .ok (.iload_n 1, 1) := by decide +kernel
theorem dX9_worth_20 : decode cX9_worth 20 = .ok (.invokevirtual 389, 3) := by decide +kernel
theorem dX9_worth_23 : decode cX9_worth 23 = .ok (.goto 4, 3) := by decide +kernel
theorem dX9_worth_26 : decode cX9_worth 26 = .ok (.iconst (-1), 1) := by decide +kernel
theorem dX9_worth_27 : decode cX9_worth 27 = .ok (.ireturn, 1) := by decide +kernel
theorem dX9_club_0 : decode cX9_club 0 = .ok (.iload_n 1, 1) := by decide +kernel
theorem dX9_club_1 : decode cX9_club 1 = .ok (.iconst 1, 1) := by decide +kernel
theorem dX9_club_2 : decode cX9_club 2 = .ok (.aload_n 0, 1) := by decide +kernel
theorem dX9_club_3 : decode cX9_club 3 = .ok (.getfield 7, 3) := by decide +kernel
theorem dX9_club_6 : decode cX9_club 6 = .ok (.iconst 0, 1) := by decide +kernel
theorem dX9_club_7 : decode cX9_club 7 = .ok (.iaload, 1) := by decide +kernel
theorem dX9_club_8 : decode cX9_club 8 = .ok (.invokestatic 120, 3) := by decide +kernel
theorem dX9_club_11 : decode cX9_club 11 = .ok (.ifCond .ne 5, 3) := by decide +kernel
theorem dX9_club_14 : decode cX9_club 14 = .ok (.iconst (-1), 1) := by decide +kernel
theorem dX9_club_15 : decode cX9_club 15 = .ok (.ireturn, 1) := by decide +kernel
theorem dX9_club_16 : decode cX9_club 16 = .ok (.iconst (-1), 1) := by decide +kernel
theorem dX9_club_17 : decode cX9_club 17 = .ok (.istore_n 2, 1) := by decide +kernel
theorem dX9_club_18 : decode cX9_club 18 = .ok (.iconst (-1), 1) := by decide +kernel
theorem dX9_club_19 : decode cX9_club 19 = .ok (.istore_n 3, 1) := by decide +kernel
theorem dX9_club_20 : decode cX9_club 20 = .ok (.iconst 0, 1) := by decide +kernel
theorem dX9_club_21 : decode cX9_club 21 = .ok (.istore 4, 2) := by decide +kernel
theorem dX9_club_23 : decode cX9_club 23 = .ok (.iload 4, 2) := by decide +kernel
theorem dX9_club_25 : decode cX9_club 25 = .ok (.iconst 1, 1) := by decide +kernel
theorem dX9_club_26 : decode cX9_club 26 = .ok (.aload_n 0, 1) := by decide +kernel
theorem dX9_club_27 : decode cX9_club 27 = .ok (.getfield 7, 3) := by decide +kernel
theorem dX9_club_30 : decode cX9_club 30 = .ok (.iconst 0, 1) := by decide +kernel
theorem dX9_club_31 : decode cX9_club 31 = .ok (.iaload, 1) := by decide +kernel
theorem dX9_club_32 : decode cX9_club 32 = .ok (.ishl, 1) := by decide +kernel
theorem dX9_club_33 : decode cX9_club 33 = .ok (.if_icmp .ge 70, 3) := by decide +kernel
theorem dX9_club_36 : decode cX9_club 36 = .ok (.iconst 0, 1) := by decide +kernel
theorem dX9_club_37 : decode cX9_club 37 = .ok (.istore 5, 2) := by decide +kernel
theorem dX9_club_39 : decode cX9_club 39 = .ok (.iconst 0, 1) := by decide +kernel
theorem dX9_club_40 : decode cX9_club 40 = .ok (.istore 6, 2) := by decide +kernel
theorem dX9_club_42 : decode cX9_club 42 = .ok (.iload 6, 2) := by decide +kernel
theorem dX9_club_44 : decode cX9_club 44 = .ok (.aload_n 0, 1) := by decide +kernel
theorem dX9_club_45 : decode cX9_club 45 = .ok (.getfield 7, 3) := by decide +kernel
theorem dX9_club_48 : decode cX9_club 48 = .ok (.iconst 0, 1) := by decide +kernel
theorem dX9_club_49 : decode cX9_club 49 = .ok (.iaload, 1) := by decide +kernel
theorem dX9_club_50 : decode cX9_club 50 = .ok (.if_icmp .ge 21, 3) := by decide +kernel
theorem dX9_club_53 : decode cX9_club 53 = .ok (.iload 5, 2) := by decide +kernel
theorem dX9_club_55 : decode cX9_club 55 = .ok (.iload 4, 2) := by decide +kernel
theorem dX9_club_57 : decode cX9_club 57 = .ok (.iload 6, 2) := by decide +kernel
theorem dX9_club_59 : decode cX9_club 59 = .ok (.ishr, 1) := by decide +kernel
theorem dX9_club_60 : decode cX9_club 60 = .ok (.iconst 1, 1) := by decide +kernel
theorem dX9_club_61 : decode cX9_club 61 = .ok (.iand, 1) := by decide +kernel
theorem dX9_club_62 : decode cX9_club 62 = .ok (.iadd, 1) := by decide +kernel
theorem dX9_club_63 : decode cX9_club 63 = .ok (.istore 5, 2) := by decide +kernel
theorem dX9_club_65 : decode cX9_club 65 = .ok (.iinc 6 1, 3) := by decide +kernel
theorem dX9_club_68 : decode cX9_club 68 = .ok (.goto (-26), 3) := by decide +kernel
theorem dX9_club_71 : decode cX9_club 71 = .ok (.iload 5, 2) := by decide +kernel
theorem dX9_club_73 : decode cX9_club 73 = .ok (.iload_n 1, 1) := by decide +kernel
theorem dX9_club_74 : decode cX9_club 74 = .ok (.if_icmp .ne 23, 3) := by decide +kernel
theorem dX9_club_77 : decode cX9_club 77 = .ok (.aload_n 0, 1) := by decide +kernel
theorem dX9_club_78 : decode cX9_club 78 = .ok (.iload 4, 2) := by decide +kernel
theorem dX9_club_80 : decode cX9_club 80 = .ok (.invokevirtual 389, 3) := by decide +kernel
theorem dX9_club_83 : decode cX9_club 83 = .ok (.iload_n 3, 1) := by decide +kernel
theorem dX9_club_84 : decode cX9_club 84 = .ok (.if_icmp .le 13, 3) := by decide +kernel
theorem dX9_club_87 : decode cX9_club 87 = .ok (.aload_n 0, 1) := by decide +kernel
theorem dX9_club_88 : decode cX9_club 88 = .ok (.iload 4, 2) := by decide +kernel
theorem dX9_club_90 : decode cX9_club 90 = .ok (.invokevirtual 389, 3) := by decide +kernel
theorem dX9_club_93 : decode cX9_club 93 = .ok (.istore_n 3, 1) := by decide +kernel
theorem dX9_club_94 : decode cX9_club 94 = .ok (.iload 4, 2) := by decide +kernel
theorem dX9_club_96 : decode cX9_club 96 = .ok (.istore_n 2, 1) := by decide +kernel
theorem dX9_club_97 : decode cX9_club 97 = .ok (.iinc 4 1, 3) := by decide +kernel
theorem dX9_club_100 : decode cX9_club 100 = .ok (.goto (-77), 3) := by decide +kernel
theorem dX9_club_103 : decode cX9_club 103 = .ok (.iload_n 2, 1) := by decide +kernel
theorem dX9_club_104 : decode cX9_club 104 = .ok (.ireturn, 1) := by decide +kernel
theorem dX9_settles_0 : decode cX9_settles 0 = .ok (.aload_n 0, 1) := by decide +kernel
theorem dX9_settles_1 : decode cX9_settles 1 = .ok (.iload_n 1, 1) := by decide +kernel
theorem dX9_settles_2 : decode cX9_settles 2 = .ok (.invokevirtual 320, 3) := by decide +kernel
theorem dX9_settles_5 : decode cX9_settles 5 = .ok (.ifCond .eq 22, 3) := by decide +kernel
theorem dX9_settles_8 : decode cX9_settles 8 = .ok (.iload_n 2, 1) := by decide +kernel
theorem dX9_settles_9 : decode cX9_settles 9 = .ok (.iconst 0, 1) := by decide +kernel
theorem dX9_settles_10 : decode cX9_settles 10 = .ok (.bipush 99, 2) := by decide +kernel
theorem dX9_settles_12 : decode cX9_settles 12 = .ok (.invokestatic 120, 3) := by decide +kernel
theorem dX9_settles_15 : decode cX9_settles 15 = .ok (.ifCond .eq 12, 3) := by decide +kernel
theorem dX9_settles_18 : decode cX9_settles 18 = .ok (.iload_n 3, 1) := by decide +kernel
theorem dX9_settles_19 : decode cX9_settles 19 = .ok (.iconst 0, 1) := by decide +kernel
theorem dX9_settles_20 : decode cX9_settles 20 = .ok (.iconst 1, 1) := by decide +kernel
theorem dX9_settles_21 : decode cX9_settles 21 = .ok (.invokestatic 120, 3) := by decide +kernel
theorem dX9_settles_24 : decode cX9_settles 24 = .ok (.ifCond .ne 5, 3) := by decide +kernel
theorem dX9_settles_27 : decode cX9_settles 27 = .ok (.iconst (-1), 1) := by decide +kernel
theorem dX9_settles_28 : decode cX9_settles 28 = .ok (.ireturn, 1) := by decide +kernel
theorem dX9_settles_29 : decode cX9_settles 29 = .ok (.iconst 0, 1) := by decide +kernel
theorem dX9_settles_30 : decode cX9_settles 30 = .ok (.istore 4, 2) := by decide +kernel
theorem dX9_settles_32 : decode cX9_settles 32 = .ok (.iload 4, 2) := by decide +kernel
theorem dX9_settles_34 : decode cX9_settles 34 = .ok (.bipush 100, 2) := by decide +kernel
theorem dX9_settles_36 : decode cX9_settles 36 = .ok (.if_icmp .ge 17, 3) := by decide +kernel
theorem dX9_settles_39 : decode cX9_settles 39 = .ok (.aload_n 0, 1) := by decide +kernel
theorem dX9_settles_40 : decode cX9_settles 40 = .ok (.getfield 112, 3) := by decide +kernel
theorem dX9_settles_43 : decode cX9_settles 43 = .ok (.iload 4, 2) := by decide +kernel
theorem dX9_settles_45 : decode cX9_settles 45 = .ok (.iconst 0, 1) := by decide +kernel
theorem dX9_settles_46 : decode cX9_settles 46 = .ok (.bastore, 1) := by decide +kernel
theorem dX9_settles_47 : decode cX9_settles 47 = .ok (.iinc 4 1, 3) := by decide +kernel
theorem dX9_settles_50 : decode cX9_settles 50 = .ok (.goto (-18), 3) := by decide +kernel
theorem dX9_settles_53 : decode cX9_settles 53 = .ok (.iconst 0, 1) := by decide +kernel
theorem dX9_settles_54 : decode cX9_settles 54 = .ok (.istore 4, 2) := by decide +kernel
theorem dX9_settles_56 : decode cX9_settles 56 = .ok (.iconst 0, 1) := by decide +kernel
theorem dX9_settles_57 : decode cX9_settles 57 = .ok (.istore 5, 2) := by decide +kernel
theorem dX9_settles_59 : decode cX9_settles 59 = .ok (.iload 5, 2) := by decide +kernel
theorem dX9_settles_61 : decode cX9_settles 61 = .ok (.aload_n 0, 1) := by decide +kernel
theorem dX9_settles_62 : decode cX9_settles 62 = .ok (.iload_n 1, 1) := by decide +kernel
theorem dX9_settles_63 : decode cX9_settles 63 = .ok (.invokevirtual 310, 3) := by decide +kernel
theorem dX9_settles_66 : decode cX9_settles 66 = .ok (.if_icmp .ge 30, 3) := by decide +kernel
theorem dX9_settles_69 : decode cX9_settles 69 = .ok (.iload 4, 2) := by decide +kernel
theorem dX9_settles_71 : decode cX9_settles 71 = .ok (.aload_n 0, 1) := by decide +kernel
theorem dX9_settles_72 : decode cX9_settles 72 = .ok (.iload_n 1, 1) := by decide +kernel
theorem dX9_settles_73 : decode cX9_settles 73 = .ok (.iload 5, 2) := by decide +kernel
theorem dX9_settles_75 : decode cX9_settles 75 = .ok (.invokevirtual 330, 3) := by decide +kernel
theorem dX9_settles_78 : decode cX9_settles 78 = .ok (.iconst (-1), 1) := by decide +kernel
theorem dX9_settles_79 : decode cX9_settles 79 = .ok (.if_icmp .ne 7, 3) := by decide +kernel
theorem dX9_settles_82 : decode cX9_settles 82 = .ok (.iconst 1, 1) := by decide +kernel
theorem dX9_settles_83 : decode cX9_settles 83 = .ok (.goto 4, 3) := by decide +kernel
theorem dX9_settles_86 : decode cX9_settles 86 = .ok (.iconst 0, 1) := by decide +kernel
theorem dX9_settles_87 : decode cX9_settles 87 = .ok (.iadd, 1) := by decide +kernel
theorem dX9_settles_88 : decode cX9_settles 88 = .ok (.istore 4, 2) := by decide +kernel
theorem dX9_settles_90 : decode cX9_settles 90 = .ok (.iinc 5 1, 3) := by decide +kernel
theorem dX9_settles_93 : decode cX9_settles 93 = .ok (.goto (-34), 3) := by decide +kernel
theorem dX9_settles_96 : decode cX9_settles 96 = .ok (.iload_n 2, 1) := by decide +kernel
theorem dX9_settles_97 : decode cX9_settles 97 = .ok (.istore 5, 2) := by decide +kernel
theorem dX9_settles_99 : decode cX9_settles 99 = .ok (.iconst 0, 1) := by decide +kernel
theorem dX9_settles_100 : decode cX9_settles 100 = .ok (.istore 6, 2) := by decide +kernel
theorem dX9_settles_102 : decode cX9_settles 102 = .ok (.aload_n 0, 1) := by decide +kernel
theorem dX9_settles_103 : decode cX9_settles 103 = .ok (.getfield 112, 3) := by decide +kernel
theorem dX9_settles_106 : decode cX9_settles 106 = .ok (.iload 5, 2) := by decide +kernel
theorem dX9_settles_108 : decode cX9_settles 108 = .ok (.baload, 1) := by decide +kernel
theorem dX9_settles_109 : decode cX9_settles 109 = .ok (.ifCond .ne 131, 3) := by decide +kernel
theorem dX9_settles_112 : decode cX9_settles 112 = .ok (.aload_n 0, 1) := by decide +kernel
theorem dX9_settles_113 : decode cX9_settles 113 = .ok (.getfield 112, 3) := by decide +kernel
theorem dX9_settles_116 : decode cX9_settles 116 = .ok (.iload 5, 2) := by decide +kernel
theorem dX9_settles_118 : decode cX9_settles 118 = .ok (.iconst 1, 1) := by decide +kernel
theorem dX9_settles_119 : decode cX9_settles 119 = .ok (.bastore, 1) := by decide +kernel
theorem dX9_settles_120 : decode cX9_settles 120 = .ok (.iconst 0, 1) := by decide +kernel
theorem dX9_settles_121 : decode cX9_settles 121 = .ok (.istore 7, 2) := by decide +kernel
theorem dX9_settles_123 : decode cX9_settles 123 = .ok (.iconst 0, 1) := by decide +kernel
theorem dX9_settles_124 : decode cX9_settles 124 = .ok (.istore 8, 2) := by decide +kernel
theorem dX9_settles_126 : decode cX9_settles 126 = .ok (.iload 8, 2) := by decide +kernel
theorem dX9_settles_128 : decode cX9_settles 128 = .ok (.aload_n 0, 1) := by decide +kernel
theorem dX9_settles_129 : decode cX9_settles 129 = .ok (.getfield 7, 3) := by decide +kernel
theorem dX9_settles_132 : decode cX9_settles 132 = .ok (.iconst 0, 1) := by decide +kernel
theorem dX9_settles_133 : decode cX9_settles 133 = .ok (.iaload, 1) := by decide +kernel
theorem dX9_settles_134 : decode cX9_settles 134 = .ok (.if_icmp .ge 34, 3) := by decide +kernel
theorem dX9_settles_137 : decode cX9_settles 137 = .ok (.iload 7, 2) := by decide +kernel
theorem dX9_settles_139 : decode cX9_settles 139 = .ok (.aload_n 0, 1) := by decide +kernel
theorem dX9_settles_140 : decode cX9_settles 140 = .ok (.getfield 7, 3) := by decide +kernel
theorem dX9_settles_143 : decode cX9_settles 143 = .ok (.bipush 40, 2) := by decide +kernel
theorem dX9_settles_145 : decode cX9_settles 145 = .ok (.iload 8, 2) := by decide +kernel
theorem dX9_settles_147 : decode cX9_settles 147 = .ok (.iadd, 1) := by decide +kernel
theorem dX9_settles_148 : decode cX9_settles 148 = .ok (.iaload, 1) := by decide +kernel
theorem dX9_settles_149 : decode cX9_settles 149 = .ok (.iload 5, 2) := by decide +kernel
theorem dX9_settles_151 : decode cX9_settles 151 = .ok (.if_icmp .lt 7, 3) := by decide +kernel
theorem dX9_settles_154 : decode cX9_settles 154 = .ok (.iconst 1, 1) := by decide +kernel
theorem dX9_settles_155 : decode cX9_settles 155 = .ok (.goto 4, 3) := by decide +kernel
theorem dX9_settles_158 : decode cX9_settles 158 = .ok (.iconst 0, 1) := by decide +kernel
theorem dX9_settles_159 : decode cX9_settles 159 = .ok (.iadd, 1) := by decide +kernel
theorem dX9_settles_160 : decode cX9_settles 160 = .ok (.istore 7, 2) := by decide +kernel
theorem dX9_settles_162 : decode cX9_settles 162 = .ok (.iinc 8 1, 3) := by decide +kernel
theorem dX9_settles_165 : decode cX9_settles 165 = .ok (.goto (-39), 3) := by decide +kernel
theorem dX9_settles_168 : decode cX9_settles 168 = .ok (.iload 7, 2) := by decide +kernel
theorem dX9_settles_170 : decode cX9_settles 170 = .ok (.iload 4, 2) := by decide +kernel
theorem dX9_settles_172 : decode cX9_settles 172 = .ok (.if_icmp .le 10, 3) := by decide +kernel
theorem dX9_settles_175 : decode cX9_settles 175 = .ok (.iload 5, 2) := by decide +kernel
theorem dX9_settles_177 : decode cX9_settles 177 = .ok (.iconst 1, 1) := by decide +kernel
theorem dX9_settles_178 : decode cX9_settles 178 = .ok (.iadd, 1) := by decide +kernel
theorem dX9_settles_179 : decode cX9_settles 179 = .ok (.goto 19, 3) := by decide +kernel
theorem dX9_settles_182 : decode cX9_settles 182 = .ok (.iload 7, 2) := by decide +kernel
theorem dX9_settles_184 : decode cX9_settles 184 = .ok (.iload 4, 2) := by decide +kernel
theorem dX9_settles_186 : decode cX9_settles 186 = .ok (.if_icmp .ge 10, 3) := by decide +kernel
theorem dX9_settles_189 : decode cX9_settles 189 = .ok (.iload 5, 2) := by decide +kernel
theorem dX9_settles_191 : decode cX9_settles 191 = .ok (.iconst 1, 1) := by decide +kernel
theorem dX9_settles_192 : decode cX9_settles 192 = .ok (.isub, 1) := by decide +kernel
theorem dX9_settles_193 : decode cX9_settles 193 = .ok (.goto 5, 3) := by decide +kernel
theorem dX9_settles_196 : decode cX9_settles 196 = .ok (.iload 5, 2) := by decide +kernel
theorem dX9_settles_198 : decode cX9_settles 198 = .ok (.istore 8, 2) := by decide +kernel
theorem dX9_settles_200 : decode cX9_settles 200 = .ok (.iload 8, 2) := by decide +kernel
theorem dX9_settles_202 : decode cX9_settles 202 = .ok (.iload 5, 2) := by decide +kernel
theorem dX9_settles_204 : decode cX9_settles 204 = .ok (.if_icmp .eq 14, 3) := by decide +kernel
theorem dX9_settles_207 : decode cX9_settles 207 = .ok (.iload 8, 2) := by decide +kernel
theorem dX9_settles_209 : decode cX9_settles 209 = .ok (.iconst 0, 1) := by decide +kernel
theorem dX9_settles_210 : decode cX9_settles 210 = .ok (.bipush 99, 2) := by decide +kernel
theorem dX9_settles_212 : decode cX9_settles 212 = .ok (.invokestatic 120, 3) := by decide +kernel
theorem dX9_settles_215 : decode cX9_settles 215 = .ok (.ifCond .ne 15, 3) := by decide +kernel
theorem dX9_settles_218 : decode cX9_settles 218 = .ok (.iload_n 3, 1) := by decide +kernel
theorem dX9_settles_219 : decode cX9_settles 219 = .ok (.ifCond .ne 8, 3) := by decide +kernel
theorem dX9_settles_222 : decode cX9_settles 222 = .ok (.iload 6, 2) := by decide +kernel
theorem dX9_settles_224 : decode cX9_settles 224 = .ok (.goto 5, 3) := by decide +kernel
theorem dX9_settles_227 : decode cX9_settles 227 = .ok (.iload 5, 2) := by decide +kernel
theorem dX9_settles_229 : decode cX9_settles 229 = .ok (.ireturn, 1) := by decide +kernel
theorem dX9_settles_230 : decode cX9_settles 230 = .ok (.iload 8, 2) := by decide +kernel
theorem dX9_settles_232 : decode cX9_settles 232 = .ok (.istore 5, 2) := by decide +kernel
theorem dX9_settles_234 : decode cX9_settles 234 = .ok (.iinc 6 1, 3) := by decide +kernel
theorem dX9_settles_237 : decode cX9_settles 237 = .ok (.goto (-135), 3) := by decide +kernel
theorem dX9_settles_240 : decode cX9_settles 240 = .ok (.bipush (-2), 2) := by decide +kernel
theorem dX9_settles_242 : decode cX9_settles 242 = .ok (.ireturn, 1) := by decide +kernel
theorem dX9_image_0 : decode cX9_image 0 = .ok (.aload_n 0, 1) := by decide +kernel
theorem dX9_image_1 : decode cX9_image 1 = .ok (.iconst 1, 1) := by decide +kernel
theorem dX9_image_2 : decode cX9_image 2 = .ok (.invokevirtual 116, 3) := by decide +kernel
theorem dX9_image_5 : decode cX9_image 5 = .ok (.aload_n 0, 1) := by decide +kernel
theorem dX9_image_6 : decode cX9_image 6 = .ok (.getfield 7, 3) := by decide +kernel
theorem dX9_image_9 : decode cX9_image 9 = .ok (.sipush 154, 3) := by decide +kernel
theorem dX9_image_12 : decode cX9_image 12 = .ok (.iaload, 1) := by decide +kernel
theorem dX9_image_13 : decode cX9_image 13 = .ok (.ireturn, 1) := by decide +kernel
theorem dX9_back_0 : decode cX9_back 0 = .ok (.aload_n 0, 1) := by decide +kernel
theorem dX9_back_1 : decode cX9_back 1 = .ok (.iconst 0, 1) := by decide +kernel
theorem dX9_back_2 : decode cX9_back 2 = .ok (.invokevirtual 116, 3) := by decide +kernel
theorem dX9_back_5 : decode cX9_back 5 = .ok (.aload_n 0, 1) := by decide +kernel
theorem dX9_back_6 : decode cX9_back 6 = .ok (.getfield 7, 3) := by decide +kernel
theorem dX9_back_9 : decode cX9_back 9 = .ok (.sipush 154, 3) := by decide +kernel
theorem dX9_back_12 : decode cX9_back 12 = .ok (.iaload, 1) := by decide +kernel
theorem dX9_back_13 : decode cX9_back 13 = .ok (.ireturn, 1) := by decide +kernel
theorem dX9_about_0 : decode cX9_about 0 = .ok (.iload_n 1, 1) := by decide +kernel
theorem dX9_about_1 : decode cX9_about 1 = .ok (.tableswitch 92 0 6 #[43, 50, 57, 66, 73, 80, 87], 43) := by decide +kernel
theorem dX9_about_44 : decode cX9_about 44 = .ok (.aload_n 0, 1) := by decide +kernel
theorem dX9_about_45 : decode cX9_about 45 = .ok (.getfield 7, 3) := by decide +kernel
theorem dX9_about_48 : decode cX9_about 48 = .ok (.iconst 0, 1) := by decide +kernel
theorem dX9_about_49 : decode cX9_about 49 = .ok (.iaload, 1) := by decide +kernel
theorem dX9_about_50 : decode cX9_about 50 = .ok (.ireturn, 1) := by decide +kernel
theorem dX9_about_51 : decode cX9_about 51 = .ok (.aload_n 0, 1) := by decide +kernel
theorem dX9_about_52 : decode cX9_about 52 = .ok (.getfield 7, 3) := by decide +kernel
theorem dX9_about_55 : decode cX9_about 55 = .ok (.iconst 1, 1) := by decide +kernel
theorem dX9_about_56 : decode cX9_about 56 = .ok (.iaload, 1) := by decide +kernel
theorem dX9_about_57 : decode cX9_about 57 = .ok (.ireturn, 1) := by decide +kernel
theorem dX9_about_58 : decode cX9_about 58 = .ok (.aload_n 0, 1) := by decide +kernel
theorem dX9_about_59 : decode cX9_about 59 = .ok (.getfield 7, 3) := by decide +kernel
theorem dX9_about_62 : decode cX9_about 62 = .ok (.sipush 515, 3) := by decide +kernel
theorem dX9_about_65 : decode cX9_about 65 = .ok (.iaload, 1) := by decide +kernel
theorem dX9_about_66 : decode cX9_about 66 = .ok (.ireturn, 1) := by decide +kernel
theorem dX9_about_67 : decode cX9_about 67 = .ok (.aload_n 0, 1) := by decide +kernel
theorem dX9_about_68 : decode cX9_about 68 = .ok (.getfield 7, 3) := by decide +kernel
theorem dX9_about_71 : decode cX9_about 71 = .ok (.iconst 2, 1) := by decide +kernel
theorem dX9_about_72 : decode cX9_about 72 = .ok (.iaload, 1) := by decide +kernel
theorem dX9_about_73 : decode cX9_about 73 = .ok (.ireturn, 1) := by decide +kernel
theorem dX9_about_74 : decode cX9_about 74 = .ok (.aload_n 0, 1) := by decide +kernel
theorem dX9_about_75 : decode cX9_about 75 = .ok (.getfield 7, 3) := by decide +kernel
theorem dX9_about_78 : decode cX9_about 78 = .ok (.iconst 3, 1) := by decide +kernel
theorem dX9_about_79 : decode cX9_about 79 = .ok (.iaload, 1) := by decide +kernel
theorem dX9_about_80 : decode cX9_about 80 = .ok (.ireturn, 1) := by decide +kernel
theorem dX9_about_81 : decode cX9_about 81 = .ok (.aload_n 0, 1) := by decide +kernel
theorem dX9_about_82 : decode cX9_about 82 = .ok (.getfield 7, 3) := by decide +kernel
theorem dX9_about_85 : decode cX9_about 85 = .ok (.iconst 4, 1) := by decide +kernel
theorem dX9_about_86 : decode cX9_about 86 = .ok (.iaload, 1) := by decide +kernel
theorem dX9_about_87 : decode cX9_about 87 = .ok (.ireturn, 1) := by decide +kernel
theorem dX9_about_88 : decode cX9_about 88 = .ok (.aload_n 0, 1) := by decide +kernel
theorem dX9_about_89 : decode cX9_about 89 = .ok (.getfield 128, 3) := by decide +kernel
theorem dX9_about_92 : decode cX9_about 92 = .ok (.ireturn, 1) := by decide +kernel
theorem dX9_about_93 : decode cX9_about 93 = .ok (.iload_n 1, 1) := by decide +kernel
theorem dX9_about_94 : decode cX9_about 94 = .ok (.bipush 10, 2) := by decide +kernel
theorem dX9_about_96 : decode cX9_about 96 = .ok (.bipush 13, 2) := by decide +kernel
theorem dX9_about_98 : decode cX9_about 98 = .ok (.invokestatic 120, 3) := by decide +kernel
theorem dX9_about_101 : decode cX9_about 101 = .ok (.ifCond .ne 6, 3) := by decide +kernel
theorem dX9_about_104 : decode cX9_about 104 = .ok (.bipush (-2), 2) := by decide +kernel
theorem dX9_about_106 : decode cX9_about 106 = .ok (.ireturn, 1) := by decide +kernel
theorem dX9_about_107 : decode cX9_about 107 = .ok (.iconst 0, 1) := by decide +kernel
theorem dX9_about_108 : decode cX9_about 108 = .ok (.istore_n 2, 1) := by decide +kernel
theorem dX9_about_109 : decode cX9_about 109 = .ok (.iconst 0, 1) := by decide +kernel
theorem dX9_about_110 : decode cX9_about 110 = .ok (.istore_n 3, 1) := by decide +kernel
theorem dX9_about_111 : decode cX9_about 111 = .ok (.iload_n 3, 1) := by decide +kernel
theorem dX9_about_112 : decode cX9_about 112 = .ok (.aload_n 0, 1) := by decide +kernel
theorem dX9_about_113 : decode cX9_about 113 = .ok (.getfield 7, 3) := by decide +kernel
theorem dX9_about_116 : decode cX9_about 116 = .ok (.iconst 1, 1) := by decide +kernel
theorem dX9_about_117 : decode cX9_about 117 = .ok (.iaload, 1) := by decide +kernel
theorem dX9_about_118 : decode cX9_about 118 = .ok (.if_icmp .ge 30, 3) := by decide +kernel
theorem dX9_about_121 : decode cX9_about 121 = .ok (.iload_n 2, 1) := by decide +kernel
theorem dX9_about_122 : decode cX9_about 122 = .ok (.aload_n 0, 1) := by decide +kernel
theorem dX9_about_123 : decode cX9_about 123 = .ok (.iload_n 3, 1) := by decide +kernel
theorem dX9_about_124 : decode cX9_about 124 = .ok (.iconst 0, 1) := by decide +kernel
theorem dX9_about_125 : decode cX9_about 125 = .ok (.invokevirtual 327, 3) := by decide +kernel
theorem dX9_about_128 : decode cX9_about 128 = .ok (.iload_n 1, 1) := by decide +kernel
theorem dX9_about_129 : decode cX9_about 129 = .ok (.bipush 10, 2) := by decide +kernel
theorem dX9_about_131 : decode cX9_about 131 = .ok (.isub, 1) := by decide +kernel
theorem dX9_about_132 : decode cX9_about 132 = .ok (.if_icmp .ne 7, 3) := by decide +kernel
theorem dX9_about_135 : decode cX9_about 135 = .ok (.iconst 1, 1) := by decide +kernel
theorem dX9_about_136 : decode cX9_about 136 = .ok (.goto 4, 3) := by decide +kernel
theorem dX9_about_139 : decode cX9_about 139 = .ok (.iconst 0, 1) := by decide +kernel
theorem dX9_about_140 : decode cX9_about 140 = .ok (.iadd, 1) := by decide +kernel
theorem dX9_about_141 : decode cX9_about 141 = .ok (.istore_n 2, 1) := by decide +kernel
theorem dX9_about_142 : decode cX9_about 142 = .ok (.iinc 3 1, 3) := by decide +kernel
theorem dX9_about_145 : decode cX9_about 145 = .ok (.goto (-34), 3) := by decide +kernel
theorem dX9_about_148 : decode cX9_about 148 = .ok (.iload_n 2, 1) := by decide +kernel
theorem dX9_about_149 : decode cX9_about 149 = .ok (.ireturn, 1) := by decide +kernel
