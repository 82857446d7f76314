theorem dX4_init_0 : decode cX4_init 0 = .ok (.aload_n 0, 1) := by decide +kernel
theorem dX4_init_1 : decode cX4_init 1 = .ok (.invokespecial 5, 3) := by decide +kernel
theorem dX4_init_4 : decode cX4_init 4 = .ok (.aload_n 0, 1) := by decide +kernel
theorem dX4_init_5 : decode cX4_init 5 = .ok (.bipush 30, 2) := by decide +kernel
theorem dX4_init_7 : decode cX4_init 7 = .ok (.bipush 32, 2) := by decide +kernel
theorem dX4_init_9 : decode cX4_init 9 = .ok (.multianewarray 11 2, 4) := by decide +kernel
theorem dX4_init_13 : decode cX4_init 13 = .ok (.putfield 13, 3) := by decide +kernel
theorem dX4_init_16 : decode cX4_init 16 = .ok (.aload_n 0, 1) := by decide +kernel
theorem dX4_init_17 : decode cX4_init 17 = .ok (.iconst 0, 1) := by decide +kernel
theorem dX4_init_18 : decode cX4_init 18 = .ok (.putfield 16, 3) := by decide +kernel
theorem dX4_init_21 : decode cX4_init 21 = .ok (.aload_n 0, 1) := by decide +kernel
theorem dX4_init_22 : decode cX4_init 22 = .ok (.bipush 29, 2) := by decide +kernel
theorem dX4_init_24 : decode cX4_init 24 = .ok (.putfield 20, 3) := by decide +kernel
theorem dX4_init_27 : decode cX4_init 27 = .ok (.return_, 1) := by decide +kernel
theorem dX4_keep_0 : decode cX4_keep 0 = .ok (.aload_n 1, 1) := by decide +kernel
theorem dX4_keep_1 : decode cX4_keep 1 = .ok (.ifnonnull 4, 3) := by decide +kernel
theorem dX4_keep_4 : decode cX4_keep 4 = .ok (.return_, 1) := by decide +kernel
theorem dX4_keep_5 : decode cX4_keep 5 = .ok (.aload_n 0, 1) := by decide +kernel
theorem dX4_keep_6 : decode cX4_keep 6 = .ok (.aload_n 0, 1) := by decide +kernel
theorem dX4_keep_7 : decode cX4_keep 7 = .ok (.getfield 20, 3) := by decide +kernel
theorem dX4_keep_10 : decode cX4_keep 10 = .ok (.iconst 1, 1) := by decide +kernel
theorem dX4_keep_11 : decode cX4_keep 11 = .ok (.iadd, 1) := by decide +kernel
theorem dX4_keep_12 : decode cX4_keep 12 = .ok (.bipush 30, 2) := by decide +kernel
theorem dX4_keep_14 : decode cX4_keep 14 = .ok (.irem, 1) := by decide +kernel
theorem dX4_keep_15 : decode cX4_keep 15 = .ok (.putfield 20, 3) := by decide +kernel
theorem dX4_keep_18 : decode cX4_keep 18 = .ok (.aload_n 0, 1) := by decide +kernel
theorem dX4_keep_19 : decode cX4_keep 19 = .ok (.bipush 30, 2) := by decide +kernel
theorem dX4_keep_21 : decode cX4_keep 21 = .ok (.aload_n 0, 1) := by decide +kernel
theorem dX4_keep_22 : decode cX4_keep 22 = .ok (.getfield 16, 3) := by decide +kernel
theorem dX4_keep_25 : decode cX4_keep 25 = .ok (.iconst 1, 1) := by decide +kernel
theorem dX4_keep_26 : decode cX4_keep 26 = .ok (.iadd, 1) := by decide +kernel
theorem dX4_keep_27 : decode cX4_keep 27 = .ok (.invokestatic 23, 3) := by decide +kernel
theorem dX4_keep_30 : decode cX4_keep 30 = .ok (.putfield 16, 3) := by decide +kernel
theorem dX4_keep_33 : decode cX4_keep 33 = .ok (.aload_n 0, 1) := by decide +kernel
theorem dX4_keep_34 : decode cX4_keep 34 = .ok (.getfield 13, 3) := by decide +kernel
theorem dX4_keep_37 : decode cX4_keep 37 = .ok (.aload_n 0, 1) := by decide +kernel
theorem dX4_keep_38 : decode cX4_keep 38 = .ok (.getfield 20, 3) := by decide +kernel
theorem dX4_keep_41 : decode cX4_keep 41 = .ok (.aaload, 1) := by decide +kernel
theorem dX4_keep_42 : decode cX4_keep 42 = .ok (.astore 4, 2) := by decide +kernel
theorem dX4_keep_44 : decode cX4_keep 44 = .ok (.aload 4, 2) := by decide +kernel
theorem dX4_keep_46 : decode cX4_keep 46 = .ok (.iconst 0, 1) := by decide +kernel
theorem dX4_keep_47 : decode cX4_keep 47 = .ok (.aload_n 1, 1) := by decide +kernel
theorem dX4_keep_48 : decode cX4_keep 48 = .ok (.getfield 29, 3) := by decide +kernel
theorem dX4_keep_51 : decode cX4_keep 51 = .ok (.iastore, 1) := by decide +kernel
theorem dX4_keep_52 : decode cX4_keep 52 = .ok (.aload 4, 2) := by decide +kernel
theorem dX4_keep_54 : decode cX4_keep 54 = .ok (.iconst 1, 1) := by decide +kernel
theorem dX4_keep_55 : decode cX4_keep 55 = .ok (.aload_n 1, 1) := by decide +kernel
theorem dX4_keep_56 : decode cX4_keep 56 = .ok (.getfield 34, 3) := by decide +kernel
theorem dX4_keep_59 : decode cX4_keep 59 = .ok (.iastore, 1) := by decide +kernel
theorem dX4_keep_60 : decode cX4_keep 60 = .ok (.aload 4, 2) := by decide +kernel
theorem dX4_keep_62 : decode cX4_keep 62 = .ok (.iconst 2, 1) := by decide +kernel
theorem dX4_keep_63 : decode cX4_keep 63 = .ok (.iload_n 2, 1) := by decide +kernel
theorem dX4_keep_64 : decode cX4_keep 64 = .ok (.iastore, 1) := by decide +kernel
theorem dX4_keep_65 : decode cX4_keep 65 = .ok (.aload 4, 2) := by decide +kernel
theorem dX4_keep_67 : decode cX4_keep 67 = .ok (.bipush 6, 2) := by decide +kernel
theorem dX4_keep_69 : decode cX4_keep 69 = .ok (.iload_n 3, 1) := by decide +kernel
theorem dX4_keep_70 : decode cX4_keep 70 = .ok (.iastore, 1) := by decide +kernel
theorem dX4_keep_71 : decode cX4_keep 71 = .ok (.aload_n 1, 1) := by decide +kernel
theorem dX4_keep_72 : decode cX4_keep 72 = .ok (.iload_n 2, 1) := by decide +kernel
theorem dX4_keep_73 : decode cX4_keep 73 = .ok (.invokevirtual 37, 3) := by decide +kernel
theorem dX4_keep_76 : decode cX4_keep 76 = .ok (.ifCond .eq 33, 3) := by decide +kernel
theorem dX4_keep_79 : decode cX4_keep 79 = .ok (.aload 4, 2) := by decide +kernel
theorem dX4_keep_81 : decode cX4_keep 81 = .ok (.iconst 3, 1) := by decide +kernel
theorem dX4_keep_82 : decode cX4_keep 82 = .ok (.aload_n 1, 1) := by decide +kernel
theorem dX4_keep_83 : decode cX4_keep 83 = .ok (.getfield 41, 3) := by decide +kernel
theorem dX4_keep_86 : decode cX4_keep 86 = .ok (.iload_n 2, 1) := by decide +kernel
theorem dX4_keep_87 : decode cX4_keep 87 = .ok (.iaload, 1) := by decide +kernel
theorem dX4_keep_88 : decode cX4_keep 88 = .ok (.iastore, 1) := by decide +kernel
theorem dX4_keep_89 : decode cX4_keep 89 = .ok (.aload 4, 2) := by decide +kernel
theorem dX4_keep_91 : decode cX4_keep 91 = .ok (.iconst 4, 1) := by decide +kernel
theorem dX4_keep_92 : decode cX4_keep 92 = .ok (.aload_n 1, 1) := by decide +kernel
theorem dX4_keep_93 : decode cX4_keep 93 = .ok (.getfield 45, 3) := by decide +kernel
theorem dX4_keep_96 : decode cX4_keep 96 = .ok (.iload_n 2, 1) := by decide +kernel
theorem dX4_keep_97 : decode cX4_keep 97 = .ok (.iaload, 1) := by decide +kernel
theorem dX4_keep_98 : decode cX4_keep 98 = .ok (.iastore, 1) := by decide +kernel
theorem dX4_keep_99 : decode cX4_keep 99 = .ok (.aload 4, 2) := by decide +kernel
theorem dX4_keep_101 : decode cX4_keep 101 = .ok (.iconst 5, 1) := by decide +kernel
theorem dX4_keep_102 : decode cX4_keep 102 = .ok (.aload_n 1, 1) := by decide +kernel
theorem dX4_keep_103 : decode cX4_keep 103 = .ok (.getfield 48, 3) := by decide +kernel
theorem dX4_keep_106 : decode cX4_keep 106 = .ok (.iload_n 2, 1) := by decide +kernel
theorem dX4_keep_107 : decode cX4_keep 107 = .ok (.iaload, 1) := by decide +kernel
theorem dX4_keep_108 : decode cX4_keep 108 = .ok (.iastore, 1) := by decide +kernel
theorem dX4_keep_109 : decode cX4_keep 109 = .ok (.aload 4, 2) := by decide +kernel
theorem dX4_keep_111 : decode cX4_keep 111 = .ok (.bipush 7, 2) := by decide +kernel
theorem dX4_keep_113 : decode cX4_keep 113 = .ok (.aload_n 1, 1) := by decide +kernel
theorem dX4_keep_114 : decode cX4_keep 114 = .ok (.getfield 51, 3) := by decide +kernel
theorem dX4_keep_117 : decode cX4_keep 117 = .ok (.iastore, 1) := by decide +kernel
theorem dX4_keep_118 : decode cX4_keep 118 = .ok (.iconst 0, 1) := by decide +kernel
theorem dX4_keep_119 : decode cX4_keep 119 = .ok (.istore 5, 2) := by decide +kernel
theorem dX4_keep_121 : decode cX4_keep 121 = .ok (.iload 5, 2) := by decide +kernel
theorem dX4_keep_123 : decode cX4_keep 123 = .ok (.aload_n 1, 1) := by decide +kernel
theorem dX4_keep_124 : decode cX4_keep 124 = .ok (.getfield 51, 3) := by decide +kernel
theorem dX4_keep_127 : decode cX4_keep 127 = .ok (.if_icmp .ge 58, 3) := by decide +kernel
theorem dX4_keep_130 : decode cX4_keep 130 = .ok (.bipush 8, 2) := by decide +kernel
theorem dX4_keep_132 : decode cX4_keep 132 = .ok (.iload 5, 2) := by decide +kernel
theorem dX4_keep_134 : decode cX4_keep 134 = .ok (.iconst 3, 1) := by decide +kernel
theorem dX4_keep_135 : decode cX4_keep 135 = .ok (.imul, 1) := by decide +kernel
theorem dX4_keep_136 : decode cX4_keep 136 = .ok (.iadd, 1) := by decide +kernel
theorem dX4_keep_137 : decode cX4_keep 137 = .ok (.istore 6, 2) := by decide +kernel
theorem dX4_keep_139 : decode cX4_keep 139 = .ok (.aload 4, 2) := by decide +kernel
theorem dX4_keep_141 : decode cX4_keep 141 = .ok (.iload 6, 2) := by decide +kernel
theorem dX4_keep_143 : decode cX4_keep 143 = .ok (.aload_n 1, 1) := by decide +kernel
theorem dX4_keep_144 : decode cX4_keep 144 = .ok (.getfield 54, 3) := by decide +kernel
theorem dX4_keep_147 : decode cX4_keep 147 = .ok (.iload 5, 2) := by decide +kernel
theorem dX4_keep_149 : decode cX4_keep 149 = .ok (.iaload, 1) := by decide +kernel
theorem dX4_keep_150 : decode cX4_keep 150 = .ok (.iastore, 1) := by decide +kernel
theorem dX4_keep_151 : decode cX4_keep 151 = .ok (.aload 4, 2) := by decide +kernel
theorem dX4_keep_153 : decode cX4_keep 153 = .ok (.iload 6, 2) := by decide +kernel
theorem dX4_keep_155 : decode cX4_keep 155 = .ok (.iconst 1, 1) := by decide +kernel
theorem dX4_keep_156 : decode cX4_keep 156 = .ok (.iadd, 1) := by decide +kernel
theorem dX4_keep_157 : decode cX4_keep 157 = .ok (.aload_n 1, 1) := by decide +kernel
theorem dX4_keep_158 : decode cX4_keep 158 = .ok (.getfield 57, 3) := by decide +kernel
theorem dX4_keep_161 : decode cX4_keep 161 = .ok (.iload 5, 2) := by decide +kernel
theorem dX4_keep_163 : decode cX4_keep 163 = .ok (.iaload, 1) := by decide +kernel
theorem dX4_keep_164 : decode cX4_keep 164 = .ok (.iastore, 1) := by decide +kernel
theorem dX4_keep_165 : decode cX4_keep 165 = .ok (.aload 4, 2) := by decide +kernel
theorem dX4_keep_167 : decode cX4_keep 167 = .ok (.iload 6, 2) := by decide +kernel
theorem dX4_keep_169 : decode cX4_keep 169 = .ok (.iconst 2, 1) := by decide +kernel
theorem dX4_keep_170 : decode cX4_keep 170 = .ok (.iadd, 1) := by decide +kernel
theorem dX4_keep_171 : decode cX4_keep 171 = .ok (.aload_n 1, 1) := by decide +kernel
theorem dX4_keep_172 : decode cX4_keep 172 = .ok (.getfield 60, 3) := by decide +kernel
theorem dX4_keep_175 : decode cX4_keep 175 = .ok (.iload 5, 2) := by decide +kernel
theorem dX4_keep_177 : decode cX4_keep 177 = .ok (.iaload, 1) := by decide +kernel
theorem dX4_keep_178 : decode cX4_keep 178 = .ok (.iastore, 1) := by decide +kernel
theorem dX4_keep_179 : decode cX4_keep 179 = .ok (.iinc 5 1, 3) := by decide +kernel
theorem dX4_keep_182 : decode cX4_keep 182 = .ok (.goto (-61), 3) := by decide +kernel
theorem dX4_keep_185 : decode cX4_keep 185 = .ok (.return_, 1) := by decide +kernel
theorem dX4_takeBack_0 : decode cX4_takeBack 0 = .ok (.aload_n 1, 1) := by decide +kernel
theorem dX4_takeBack_1 : decode cX4_takeBack 1 = .ok (.ifnull 27, 3) := by decide +kernel
theorem dX4_takeBack_4 : decode cX4_takeBack 4 = .ok (.aload_n 0, 1) := by decide +kernel
theorem dX4_takeBack_5 : decode cX4_takeBack 5 = .ok (.getfield 16, 3) := by decide +kernel
theorem dX4_takeBack_8 : decode cX4_takeBack 8 = .ok (.iconst 1, 1) := by decide +kernel
theorem dX4_takeBack_9 : decode cX4_takeBack 9 = .ok (.if_icmp .lt 19, 3) := by decide +kernel
theorem dX4_takeBack_12 : decode cX4_takeBack 12 = .ok (.aload_n 0, 1) := by decide +kernel
theorem dX4_takeBack_13 : decode cX4_takeBack 13 = .ok (.getfield 20, 3) := by decide +kernel
theorem dX4_takeBack_16 : decode cX4_takeBack 16 = .ok (.ifCond .lt 12, 3) := by decide +kernel
theorem dX4_takeBack_19 : decode cX4_takeBack 19 = .ok (.aload_n 0, 1) := by decide +kernel
theorem dX4_takeBack_20 : decode cX4_takeBack 20 = .ok (.getfield 20, 3) := by decide +kernel
theorem dX4_takeBack_23 : decode cX4_takeBack 23 = .ok (.bipush 30, 2) := by decide +kernel
theorem dX4_takeBack_25 : decode cX4_takeBack 25 = .ok (.if_icmp .lt 5, 3) := by decide +kernel
theorem dX4_takeBack_28 : decode cX4_takeBack 28 = .ok (.iconst 0, 1) := by decide +kernel
theorem dX4_takeBack_29 : decode cX4_takeBack 29 = .ok (.ireturn, 1) := by decide +kernel
theorem dX4_takeBack_30 : decode cX4_takeBack 30 = .ok (.aload_n 0, 1) := by decide +kernel
theorem dX4_takeBack_31 : decode cX4_takeBack 31 = .ok (.getfield 13, 3) := by decide +kernel
theorem dX4_takeBack_34 : decode cX4_takeBack 34 = .ok (.aload_n 0, 1) := by decide +kernel
theorem dX4_takeBack_35 : decode cX4_takeBack 35 = .ok (.getfield 20, 3) := by decide +kernel
theorem dX4_takeBack_38 : decode cX4_takeBack 38 = .ok (.aaload, 1) := by decide +kernel
theorem dX4_takeBack_39 : decode cX4_takeBack 39 = .ok (.astore_n 2, 1) := by decide +kernel
theorem dX4_takeBack_40 : decode cX4_takeBack 40 = .ok (.aload_n 0, 1) := by decide +kernel
theorem dX4_takeBack_41 : decode cX4_takeBack 41 = .ok (.aload_n 0, 1) := by decide +kernel
theorem dX4_takeBack_42 : decode cX4_takeBack 42 = .ok (.getfield 20, 3) := by decide +kernel
theorem dX4_takeBack_45 : decode cX4_takeBack 45 = .ok (.bipush 30, 2) := by decide +kernel
theorem dX4_takeBack_47 : decode cX4_takeBack 47 = .ok (.iadd, 1) := by decide +kernel
theorem dX4_takeBack_48 : decode cX4_takeBack 48 = .ok (.iconst 1, 1) := by decide +kernel
theorem dX4_takeBack_49 : decode cX4_takeBack 49 = .ok (.isub, 1) := by decide +kernel
theorem dX4_takeBack_50 : decode cX4_takeBack 50 = .ok (.bipush 30, 2) := by decide +kernel
theorem dX4_takeBack_52 : decode cX4_takeBack 52 = .ok (.irem, 1) := by decide +kernel
theorem dX4_takeBack_53 : decode cX4_takeBack 53 = .ok (.putfield 20, 3) := by decide +kernel
theorem dX4_takeBack_56 : decode cX4_takeBack 56 = .ok (.aload_n 0, 1) := by decide +kernel
theorem dX4_takeBack_57 : decode cX4_takeBack 57 = .ok (.dup, 1) := by decide +kernel
theorem dX4_takeBack_58 : decode cX4_takeBack 58 = .ok (.getfield 16, 3) := by decide +kernel
theorem dX4_takeBack_61 : decode cX4_takeBack 61 = .ok (.iconst 1, 1) := by decide +kernel
theorem dX4_takeBack_62 : decode cX4_takeBack 62 = .ok (.isub, 1) := by decide +kernel
theorem dX4_takeBack_63 : decode cX4_takeBack 63 = .ok (.putfield 16, 3) := by decide +kernel
theorem dX4_takeBack_66 : decode cX4_takeBack 66 = .ok (.aload_n 1, 1) := by decide +kernel
theorem dX4_takeBack_67 : decode cX4_takeBack 67 = .ok (.aload_n 2, 1) := by decide +kernel
theorem dX4_takeBack_68 : decode cX4_takeBack 68 = .ok (.iconst 0, 1) := by decide +kernel
theorem dX4_takeBack_69 : decode cX4_takeBack 69 = .ok (.iaload, 1) := by decide +kernel
theorem dX4_takeBack_70 : decode cX4_takeBack 70 = .ok (.putfield 29, 3) := by decide +kernel
theorem dX4_takeBack_73 : decode cX4_takeBack 73 = .ok (.aload_n 1, 1) := by decide +kernel
theorem dX4_takeBack_74 : decode cX4_takeBack 74 = .ok (.aload_n 2, 1) := by decide +kernel
theorem dX4_takeBack_75 : decode cX4_takeBack 75 = .ok (.iconst 1, 1) := by decide +kernel
theorem dX4_takeBack_76 : decode cX4_takeBack 76 = .ok (.iaload, 1) := by decide +kernel
theorem dX4_takeBack_77 : decode cX4_takeBack 77 = .ok (.putfield 34, 3) := by decide +kernel
theorem dX4_takeBack_80 : decode cX4_takeBack 80 = .ok (.aload_n 2, 1) := by decide +kernel
theorem dX4_takeBack_81 : decode cX4_takeBack 81 = .ok (.iconst 2, 1) := by decide +kernel
theorem dX4_takeBack_82 : decode cX4_takeBack 82 = .ok (.iaload, 1) := by decide +kernel
theorem dX4_takeBack_83 : decode cX4_takeBack 83 = .ok (.istore_n 3, 1) := by decide +kernel
theorem dX4_takeBack_84 : decode cX4_takeBack 84 = .ok (.aload_n 1, 1) := by decide +kernel
theorem dX4_takeBack_85 : decode cX4_takeBack 85 = .ok (.iload_n 3, 1) := by decide +kernel
theorem dX4_takeBack_86 : decode cX4_takeBack 86 = .ok (.invokevirtual 37, 3) := by decide +kernel
theorem dX4_takeBack_89 : decode cX4_takeBack 89 = .ok (.ifCond .eq 40, 3) := by decide +kernel
theorem dX4_takeBack_92 : decode cX4_takeBack 92 = .ok (.aload_n 1, 1) := by decide +kernel
theorem dX4_takeBack_93 : decode cX4_takeBack 93 = .ok (.getfield 41, 3) := by decide +kernel
theorem dX4_takeBack_96 : decode cX4_takeBack 96 = .ok (.iload_n 3, 1) := by decide +kernel
theorem dX4_takeBack_97 : decode cX4_takeBack 97 = .ok (.aload_n 2, 1) := by decide +kernel
theorem dX4_takeBack_98 : decode cX4_takeBack 98 = .ok (.iconst 3, 1) := by decide +kernel
theorem dX4_takeBack_99 : decode cX4_takeBack 99 = .ok (.iaload, 1) := by decide +kernel
theorem dX4_takeBack_100 : decode cX4_takeBack 100 = .ok (.iastore, 1) := by decide +kernel
theorem dX4_takeBack_101 : decode cX4_takeBack 101 = .ok (.aload_n 1, 1) := by decide +kernel
theorem dX4_takeBack_102 : decode cX4_takeBack 102 = .ok (.getfield 45, 3) := by decide +kernel
theorem dX4_takeBack_105 : decode cX4_takeBack 105 = .ok (.iload_n 3, 1) := by decide +kernel
theorem dX4_takeBack_106 : decode cX4_takeBack 106 = .ok (.aload_n 2, 1) := by decide +kernel
theorem dX4_takeBack_107 : decode cX4_takeBack 107 = .ok (.iconst 4, 1) := by decide +kernel
theorem dX4_takeBack_108 : decode cX4_takeBack 108 = .ok (.iaload, 1) := by decide +kernel
theorem dX4_takeBack_109 : decode cX4_takeBack 109 = .ok (.iastore, 1) := by decide +kernel
theorem dX4_takeBack_110 : decode cX4_takeBack 110 = .ok (.aload_n 1, 1) := by decide +kernel
theorem dX4_takeBack_111 : decode cX4_takeBack 111 = .ok (.getfield 48, 3) := by decide +kernel
theorem dX4_takeBack_114 : decode cX4_takeBack 114 = .ok (.iload_n 3, 1) := by decide +kernel
theorem dX4_takeBack_115 : decode cX4_takeBack 115 = .ok (.aload_n 2, 1) := by decide +kernel
theorem dX4_takeBack_116 : decode cX4_takeBack 116 = .ok (.iconst 5, 1) := by decide +kernel
theorem dX4_takeBack_117 : decode cX4_takeBack 117 = .ok (.iaload, 1) := by decide +kernel
theorem dX4_takeBack_118 : decode cX4_takeBack 118 = .ok (.iastore, 1) := by decide +kernel
theorem dX4_takeBack_119 : decode cX4_takeBack 119 = .ok (.aload_n 1, 1) := by decide +kernel
theorem dX4_takeBack_120 : decode cX4_takeBack 120 = .ok (.iload_n 3, 1) := by decide +kernel
theorem dX4_takeBack_121 : decode cX4_takeBack 121 = .ok (.aload_n 2, 1) := by decide +kernel
theorem dX4_takeBack_122 : decode cX4_takeBack 122 = .ok (.bipush 6, 2) := by decide +kernel
theorem dX4_takeBack_124 : decode cX4_takeBack 124 = .ok (.iaload, 1) := by decide +kernel
theorem dX4_takeBack_125 : decode cX4_takeBack 125 = .ok (.iconst (-1), 1) := by decide +kernel
theorem dX4_takeBack_126 : decode cX4_takeBack 126 = .ok (.invokevirtual 63, 3) := by decide +kernel
theorem dX4_takeBack_129 : decode cX4_takeBack 129 = .ok (.iconst 0, 1) := by decide +kernel
theorem dX4_takeBack_130 : decode cX4_takeBack 130 = .ok (.istore 4, 2) := by decide +kernel
theorem dX4_takeBack_132 : decode cX4_takeBack 132 = .ok (.iload 4, 2) := by decide +kernel
theorem dX4_takeBack_134 : decode cX4_takeBack 134 = .ok (.aload_n 2, 1) := by decide +kernel
theorem dX4_takeBack_135 : decode cX4_takeBack 135 = .ok (.bipush 7, 2) := by decide +kernel
theorem dX4_takeBack_137 : decode cX4_takeBack 137 = .ok (.iaload, 1) := by decide +kernel
theorem dX4_takeBack_138 : decode cX4_takeBack 138 = .ok (.if_icmp .ge 64, 3) := by decide +kernel
theorem dX4_takeBack_141 : decode cX4_takeBack 141 = .ok (.aload_n 1, 1) := by decide +kernel
theorem dX4_takeBack_142 : decode cX4_takeBack 142 = .ok (.iload 4, 2) := by decide +kernel
theorem dX4_takeBack_144 : decode cX4_takeBack 144 = .ok (.invokevirtual 67, 3) := by decide +kernel
theorem dX4_takeBack_147 : decode cX4_takeBack 147 = .ok (.ifCond .eq 55, 3) := by decide +kernel
theorem dX4_takeBack_150 : decode cX4_takeBack 150 = .ok (.bipush 8, 2) := by decide +kernel
theorem dX4_takeBack_152 : decode cX4_takeBack 152 = .ok (.iload 4, 2) := by decide +kernel
theorem dX4_takeBack_154 : decode cX4_takeBack 154 = .ok (.iconst 3, 1) := by decide +kernel
theorem dX4_takeBack_155 : decode cX4_takeBack 155 = .ok (.imul, 1) := by decide +kernel
theorem dX4_takeBack_156 : decode cX4_takeBack 156 = .ok (.iadd, 1) := by decide +kernel
theorem dX4_takeBack_157 : decode cX4_takeBack 157 = .ok (.istore 5, 2) := by decide +kernel
theorem dX4_takeBack_159 : decode cX4_takeBack 159 = .ok (.aload_n 1, 1) := by decide +kernel
theorem dX4_takeBack_160 : decode cX4_takeBack 160 = .ok (.getfield 54, 3) := by decide +kernel
theorem dX4_takeBack_163 : decode cX4_takeBack 163 = .ok (.iload 4, 2) := by decide +kernel
theorem dX4_takeBack_165 : decode cX4_takeBack 165 = .ok (.aload_n 2, 1) := by decide +kernel
theorem dX4_takeBack_166 : decode cX4_takeBack 166 = .ok (.iload 5, 2) := by decide +kernel
theorem dX4_takeBack_168 : decode cX4_takeBack 168 = .ok (.iaload, 1) := by decide +kernel
theorem dX4_takeBack_169 : decode cX4_takeBack 169 = .ok (.iastore, 1) := by decide +kernel
theorem dX4_takeBack_170 : decode cX4_takeBack 170 = .ok (.aload_n 1, 1) := by decide +kernel
theorem dX4_takeBack_171 : decode cX4_takeBack 171 = .ok (.getfield 57, 3) := by decide +kernel
theorem dX4_takeBack_174 : decode cX4_takeBack 174 = .ok (.iload 4, 2) := by decide +kernel
theorem dX4_takeBack_176 : decode cX4_takeBack 176 = .ok (.aload_n 2, 1) := by decide +kernel
theorem dX4_takeBack_177 : decode cX4_takeBack 177 = .ok (.iload 5, 2) := by decide +kernel
theorem dX4_takeBack_179 : decode cX4_takeBack 179 = .ok (.iconst 1, 1) := by decide +kernel
theorem dX4_takeBack_180 : decode cX4_takeBack 180 = .ok (.iadd, 1) := by decide +kernel
theorem dX4_takeBack_181 : decode cX4_takeBack 181 = .ok (.iaload, 1) := by decide +kernel
theorem dX4_takeBack_182 : decode cX4_takeBack 182 = .ok (.iastore, 1) := by decide +kernel
theorem dX4_takeBack_183 : decode cX4_takeBack 183 = .ok (.aload_n 1, 1) := by decide +kernel
theorem dX4_takeBack_184 : decode cX4_takeBack 184 = .ok (.getfield 60, 3) := by decide +kernel
theorem dX4_takeBack_187 : decode cX4_takeBack 187 = .ok (.iload 4, 2) := by decide +kernel
theorem dX4_takeBack_189 : decode cX4_takeBack 189 = .ok (.aload_n 2, 1) := by decide +kernel
theorem dX4_takeBack_190 : decode cX4_takeBack 190 = .ok (.iload 5, 2) := by decide +kernel
theorem dX4_takeBack_192 : decode cX4_takeBack 192 = .ok (.iconst 2, 1) := by decide +kernel
theorem dX4_takeBack_193 : decode cX4_takeBack 193 = .ok (.iadd, 1) := by decide +kernel
theorem dX4_takeBack_194 : decode cX4_takeBack 194 = .ok (.iaload, 1) := by decide +kernel
theorem dX4_takeBack_195 : decode cX4_takeBack 195 = .ok (.iastore, 1) := by decide +kernel
theorem dX4_takeBack_196 : decode cX4_takeBack 196 = .ok (.iinc 4 1, 3) := by decide +kernel
theorem dX4_takeBack_199 : decode cX4_takeBack 199 = .ok (.goto (-67), 3) := by decide +kernel
theorem dX4_takeBack_202 : decode cX4_takeBack 202 = .ok (.iconst 1, 1) := by decide +kernel
theorem dX4_takeBack_203 : decode cX4_takeBack 203 = .ok (.ireturn, 1) := by decide +kernel
theorem dX4_copyFrom_0 : decode cX4_copyFrom 0 = .ok (.aload_n 1, 1) := by decide +kernel
theorem dX4_copyFrom_1 : decode cX4_copyFrom 1 = .ok (.ifnonnull 4, 3) := by decide +kernel
theorem dX4_copyFrom_4 : decode cX4_copyFrom 4 = .ok (.return_, 1) := by decide +kernel
theorem dX4_copyFrom_5 : decode cX4_copyFrom 5 = .ok (.aload_n 0, 1) := by decide +kernel
theorem dX4_copyFrom_6 : decode cX4_copyFrom 6 = .ok (.aload_n 1, 1) := by decide +kernel
theorem dX4_copyFrom_7 : decode cX4_copyFrom 7 = .ok (.getfield 16, 3) := by decide +kernel
theorem dX4_copyFrom_10 : decode cX4_copyFrom 10 = .ok (.putfield 16, 3) := by decide +kernel
theorem dX4_copyFrom_13 : decode cX4_copyFrom 13 = .ok (.aload_n 0, 1) := by decide +kernel
theorem dX4_copyFrom_14 : decode cX4_copyFrom 14 = .ok (.aload_n 1, 1) := by decide +kernel
theorem dX4_copyFrom_15 : decode cX4_copyFrom 15 = .ok (.getfield 20, 3) := by decide +kernel
theorem dX4_copyFrom_18 : decode cX4_copyFrom 18 = .ok (.putfield 20, 3) := by decide +kernel
theorem dX4_copyFrom_21 : decode cX4_copyFrom 21 = .ok (.iconst 0, 1) := by decide +kernel
theorem dX4_copyFrom_22 : decode cX4_copyFrom 22 = .ok (.istore_n 2, 1) := by decide +kernel
theorem dX4_copyFrom_23 : decode cX4_copyFrom 23 = .ok (.iload_n 2, 1) := by decide +kernel
theorem dX4_copyFrom_24 : decode cX4_copyFrom 24 = .ok (.bipush 30, 2) := by decide +kernel
theorem dX4_copyFrom_26 : decode cX4_copyFrom 26 = .ok (.if_icmp .ge 39, 3) := by decide +kernel
theorem dX4_copyFrom_29 : decode cX4_copyFrom 29 = .ok (.iconst 0, 1) := by decide +kernel
theorem dX4_copyFrom_30 : decode cX4_copyFrom 30 = .ok (.istore_n 3, 1) := by decide +kernel
theorem dX4_copyFrom_31 : decode cX4_copyFrom 31 = .ok (.iload_n 3, 1) := by decide +kernel
theorem dX4_copyFrom_32 : decode cX4_copyFrom 32 = .ok (.bipush 32, 2) := by decide +kernel
theorem dX4_copyFrom_34 : decode cX4_copyFrom 34 = .ok (.if_icmp .ge 25, 3) := by decide +kernel
theorem dX4_copyFrom_37 : decode cX4_copyFrom 37 = .ok (.aload_n 0, 1) := by decide +kernel
theorem dX4_copyFrom_38 : decode cX4_copyFrom 38 = .ok (.getfield 13, 3) := by decide +kernel
theorem dX4_copyFrom_41 : decode cX4_copyFrom 41 = .ok (.iload_n 2, 1) := by decide +kernel
theorem dX4_copyFrom_42 : decode cX4_copyFrom 42 = .ok (.aaload, 1) := by decide +kernel
theorem dX4_copyFrom_43 : decode cX4_copyFrom 43 = .ok (.iload_n 3, 1) := by decide +kernel
theorem dX4_copyFrom_44 : decode cX4_copyFrom 44 = .ok (.aload_n 1, 1) := by decide +kernel
theorem dX4_copyFrom_45 : decode cX4_copyFrom 45 = .ok (.getfield 13, 3) := by decide +kernel
theorem dX4_copyFrom_48 : decode cX4_copyFrom 48 = .ok (.iload_n 2, 1) := by decide +kernel
theorem dX4_copyFrom_49 : decode cX4_copyFrom 49 = .ok (.aaload, 1) := by decide +kernel
theorem dX4_copyFrom_50 : decode cX4_copyFrom 50 = .ok (.iload_n 3, 1) := by decide +kernel
theorem dX4_copyFrom_51 : decode cX4_copyFrom 51 = .ok (.iaload, 1) := by decide +kernel
theorem dX4_copyFrom_52 : decode cX4_copyFrom 52 = .ok (.iastore, 1) := by decide +kernel
theorem dX4_copyFrom_53 : decode cX4_copyFrom 53 = .ok (.iinc 3 1, 3) := by decide +kernel
theorem dX4_copyFrom_56 : decode cX4_copyFrom 56 = .ok (.goto (-25), 3) := by decide +kernel
theorem dX4_copyFrom_59 : decode cX4_copyFrom 59 = .ok (.iinc 2 1, 3) := by decide +kernel
theorem dX4_copyFrom_62 : decode cX4_copyFrom 62 = .ok (.goto (-39), 3) := by decide +kernel
theorem dX4_copyFrom_65 : decode cX4_copyFrom 65 = .ok (.return_, 1) := by decide +kernel
