theorem dX1_init_0 : decode cX1_init 0 = .ok (.aload_n 0, 1) := by decide +kernel
theorem dX1_init_1 : decode cX1_init 1 = .ok (.invokespecial 3, 3) := by decide +kernel
theorem dX1_init_4 : decode cX1_init 4 = .ok (.aload_n 0, 1) := by decide +kernel
theorem dX1_init_5 : decode cX1_init 5 = .ok (.bipush 8, 2) := by decide +kernel
theorem dX1_init_7 : decode cX1_init 7 = .ok (.newarray .int, 2) := by decide +kernel
theorem dX1_init_9 : decode cX1_init 9 = .ok (.putfield 9, 3) := by decide +kernel
theorem dX1_init_12 : decode cX1_init 12 = .ok (.aload_n 0, 1) := by decide +kernel
theorem dX1_init_13 : decode cX1_init 13 = .ok (.bipush 20, 2) := by decide +kernel
theorem dX1_init_15 : decode cX1_init 15 = .ok (.newarray .int, 2) := by decide +kernel
theorem dX1_init_17 : decode cX1_init 17 = .ok (.putfield 15, 3) := by decide +kernel
theorem dX1_init_20 : decode cX1_init 20 = .ok (.aload_n 0, 1) := by decide +kernel
theorem dX1_init_21 : decode cX1_init 21 = .ok (.aload_n 1, 1) := by decide +kernel
theorem dX1_init_22 : decode cX1_init 22 = .ok (.putfield 18, 3) := by decide +kernel
theorem dX1_init_25 : decode cX1_init 25 = .ok (.aload_n 0, 1) := by decide +kernel
theorem dX1_init_26 : decode cX1_init 26 = .ok (.aload_n 2, 1) := by decide +kernel
theorem dX1_init_27 : decode cX1_init 27 = .ok (.putfield 22, 3) := by decide +kernel
theorem dX1_init_30 : decode cX1_init 30 = .ok (.return_, 1) := by decide +kernel
theorem dX1_tell_0 : decode cX1_tell 0 = .ok (.aload_n 0, 1) := by decide +kernel
theorem dX1_tell_1 : decode cX1_tell 1 = .ok (.getfield 18, 3) := by decide +kernel
theorem dX1_tell_4 : decode cX1_tell 4 = .ok (.iload_n 2, 1) := by decide +kernel
theorem dX1_tell_5 : decode cX1_tell 5 = .ok (.invokevirtual 26, 3) := by decide +kernel
theorem dX1_tell_8 : decode cX1_tell 8 = .ok (.ifCond .eq 16, 3) := by decide +kernel
theorem dX1_tell_11 : decode cX1_tell 11 = .ok (.aload_n 0, 1) := by decide +kernel
theorem dX1_tell_12 : decode cX1_tell 12 = .ok (.getfield 18, 3) := by decide +kernel
theorem dX1_tell_15 : decode cX1_tell 15 = .ok (.iload_n 3, 1) := by decide +kernel
theorem dX1_tell_16 : decode cX1_tell 16 = .ok (.iload 4, 2) := by decide +kernel
theorem dX1_tell_18 : decode cX1_tell 18 = .ok (.invokevirtual 32, 3) := by decide +kernel
theorem dX1_tell_21 : decode cX1_tell 21 = .ok (.ifCond .ne 5, 3) := by decide +kernel
theorem dX1_tell_24 : decode cX1_tell 24 = .ok (.iconst 0, 1) := by decide +kernel
theorem dX1_tell_25 : decode cX1_tell 25 = .ok (.ireturn, 1) := by decide +kernel
theorem dX1_tell_26 : decode cX1_tell 26 = .ok (.aload_n 0, 1) := by decide +kernel
theorem dX1_tell_27 : decode cX1_tell 27 = .ok (.iload_n 3, 1) := by decide +kernel
theorem dX1_tell_28 : decode cX1_tell 28 = .ok (.aload_n 0, 1) := by decide +kernel
theorem dX1_tell_29 : decode cX1_tell 29 = .ok (.getfield 18, 3) := by decide +kernel
theorem dX1_tell_32 : decode cX1_tell 32 = .ok (.getfield 36, 3) := by decide +kernel
theorem dX1_tell_35 : decode cX1_tell 35 = .ok (.iload_n 3, 1) := by decide +kernel
theorem dX1_tell_36 : decode cX1_tell 36 = .ok (.iaload, 1) := by decide +kernel
theorem dX1_tell_37 : decode cX1_tell 37 = .ok (.aload_n 0, 1) := by decide +kernel
theorem dX1_tell_38 : decode cX1_tell 38 = .ok (.getfield 18, 3) := by decide +kernel
theorem dX1_tell_41 : decode cX1_tell 41 = .ok (.getfield 39, 3) := by decide +kernel
theorem dX1_tell_44 : decode cX1_tell 44 = .ok (.iload_n 3, 1) := by decide +kernel
theorem dX1_tell_45 : decode cX1_tell 45 = .ok (.iaload, 1) := by decide +kernel
theorem dX1_tell_46 : decode cX1_tell 46 = .ok (.iload 4, 2) := by decide +kernel
theorem dX1_tell_48 : decode cX1_tell 48 = .ok (.invokevirtual 42, 3) := by decide +kernel
theorem dX1_tell_51 : decode cX1_tell 51 = .ok (.aload_n 0, 1) := by decide +kernel
theorem dX1_tell_52 : decode cX1_tell 52 = .ok (.iload_n 2, 1) := by decide +kernel
theorem dX1_tell_53 : decode cX1_tell 53 = .ok (.invokevirtual 46, 3) := by decide +kernel
theorem dX1_tell_56 : decode cX1_tell 56 = .ok (.aload_n 0, 1) := by decide +kernel
theorem dX1_tell_57 : decode cX1_tell 57 = .ok (.iload_n 1, 1) := by decide +kernel
theorem dX1_tell_58 : decode cX1_tell 58 = .ok (.invokevirtual 50, 3) := by decide +kernel
theorem dX1_tell_61 : decode cX1_tell 61 = .ok (.ireturn, 1) := by decide +kernel
theorem dX1_tellNew_0 : decode cX1_tellNew 0 = .ok (.aload_n 0, 1) := by decide +kernel
theorem dX1_tellNew_1 : decode cX1_tellNew 1 = .ok (.getfield 18, 3) := by decide +kernel
theorem dX1_tellNew_4 : decode cX1_tellNew 4 = .ok (.iload_n 2, 1) := by decide +kernel
theorem dX1_tellNew_5 : decode cX1_tellNew 5 = .ok (.invokevirtual 26, 3) := by decide +kernel
theorem dX1_tellNew_8 : decode cX1_tellNew 8 = .ok (.ifCond .ne 5, 3) := by decide +kernel
theorem dX1_tellNew_11 : decode cX1_tellNew 11 = .ok (.iconst 0, 1) := by decide +kernel
theorem dX1_tellNew_12 : decode cX1_tellNew 12 = .ok (.ireturn, 1) := by decide +kernel
theorem dX1_tellNew_13 : decode cX1_tellNew 13 = .ok (.aload_n 0, 1) := by decide +kernel
theorem dX1_tellNew_14 : decode cX1_tellNew 14 = .ok (.aload_n 0, 1) := by decide +kernel
theorem dX1_tellNew_15 : decode cX1_tellNew 15 = .ok (.getfield 18, 3) := by decide +kernel
theorem dX1_tellNew_18 : decode cX1_tellNew 18 = .ok (.getfield 54, 3) := by decide +kernel
theorem dX1_tellNew_21 : decode cX1_tellNew 21 = .ok (.iload_n 3, 1) := by decide +kernel
theorem dX1_tellNew_22 : decode cX1_tellNew 22 = .ok (.iload 4, 2) := by decide +kernel
theorem dX1_tellNew_24 : decode cX1_tellNew 24 = .ok (.iload 5, 2) := by decide +kernel
theorem dX1_tellNew_26 : decode cX1_tellNew 26 = .ok (.invokevirtual 42, 3) := by decide +kernel
theorem dX1_tellNew_29 : decode cX1_tellNew 29 = .ok (.aload_n 0, 1) := by decide +kernel
theorem dX1_tellNew_30 : decode cX1_tellNew 30 = .ok (.iload_n 2, 1) := by decide +kernel
theorem dX1_tellNew_31 : decode cX1_tellNew 31 = .ok (.invokevirtual 46, 3) := by decide +kernel
theorem dX1_tellNew_34 : decode cX1_tellNew 34 = .ok (.aload_n 0, 1) := by decide +kernel
theorem dX1_tellNew_35 : decode cX1_tellNew 35 = .ok (.iload_n 1, 1) := by decide +kernel
theorem dX1_tellNew_36 : decode cX1_tellNew 36 = .ok (.invokevirtual 50, 3) := by decide +kernel
theorem dX1_tellNew_39 : decode cX1_tellNew 39 = .ok (.ireturn, 1) := by decide +kernel
theorem dX1_nameInch_0 : decode cX1_nameInch 0 = .ok (.aload_n 0, 1) := by decide +kernel
theorem dX1_nameInch_1 : decode cX1_nameInch 1 = .ok (.getfield 9, 3) := by decide +kernel
theorem dX1_nameInch_4 : decode cX1_nameInch 4 = .ok (.iconst 2, 1) := by decide +kernel
theorem dX1_nameInch_5 : decode cX1_nameInch 5 = .ok (.iload_n 1, 1) := by decide +kernel
theorem dX1_nameInch_6 : decode cX1_nameInch 6 = .ok (.iastore, 1) := by decide +kernel
theorem dX1_nameInch_7 : decode cX1_nameInch 7 = .ok (.aload_n 0, 1) := by decide +kernel
theorem dX1_nameInch_8 : decode cX1_nameInch 8 = .ok (.getfield 9, 3) := by decide +kernel
theorem dX1_nameInch_11 : decode cX1_nameInch 11 = .ok (.iconst 3, 1) := by decide +kernel
theorem dX1_nameInch_12 : decode cX1_nameInch 12 = .ok (.iload_n 2, 1) := by decide +kernel
theorem dX1_nameInch_13 : decode cX1_nameInch 13 = .ok (.iastore, 1) := by decide +kernel
theorem dX1_nameInch_14 : decode cX1_nameInch 14 = .ok (.aload_n 0, 1) := by decide +kernel
theorem dX1_nameInch_15 : decode cX1_nameInch 15 = .ok (.getfield 9, 3) := by decide +kernel
theorem dX1_nameInch_18 : decode cX1_nameInch 18 = .ok (.iconst 4, 1) := by decide +kernel
theorem dX1_nameInch_19 : decode cX1_nameInch 19 = .ok (.iload_n 3, 1) := by decide +kernel
theorem dX1_nameInch_20 : decode cX1_nameInch 20 = .ok (.iastore, 1) := by decide +kernel
theorem dX1_nameInch_21 : decode cX1_nameInch 21 = .ok (.aload_n 0, 1) := by decide +kernel
theorem dX1_nameInch_22 : decode cX1_nameInch 22 = .ok (.getfield 9, 3) := by decide +kernel
theorem dX1_nameInch_25 : decode cX1_nameInch 25 = .ok (.iconst 5, 1) := by decide +kernel
theorem dX1_nameInch_26 : decode cX1_nameInch 26 = .ok (.iload 4, 2) := by decide +kernel
theorem dX1_nameInch_28 : decode cX1_nameInch 28 = .ok (.iastore, 1) := by decide +kernel
theorem dX1_nameInch_29 : decode cX1_nameInch 29 = .ok (.return_, 1) := by decide +kernel
theorem dX1_nameHouse_0 : decode cX1_nameHouse 0 = .ok (.aload_n 0, 1) := by decide +kernel
theorem dX1_nameHouse_1 : decode cX1_nameHouse 1 = .ok (.getfield 9, 3) := by decide +kernel
theorem dX1_nameHouse_4 : decode cX1_nameHouse 4 = .ok (.iconst 0, 1) := by decide +kernel
theorem dX1_nameHouse_5 : decode cX1_nameHouse 5 = .ok (.iload_n 1, 1) := by decide +kernel
theorem dX1_nameHouse_6 : decode cX1_nameHouse 6 = .ok (.iastore, 1) := by decide +kernel
theorem dX1_nameHouse_7 : decode cX1_nameHouse 7 = .ok (.aload_n 0, 1) := by decide +kernel
theorem dX1_nameHouse_8 : decode cX1_nameHouse 8 = .ok (.getfield 9, 3) := by decide +kernel
theorem dX1_nameHouse_11 : decode cX1_nameHouse 11 = .ok (.iconst 1, 1) := by decide +kernel
theorem dX1_nameHouse_12 : decode cX1_nameHouse 12 = .ok (.aload_n 0, 1) := by decide +kernel
theorem dX1_nameHouse_13 : decode cX1_nameHouse 13 = .ok (.getfield 18, 3) := by decide +kernel
theorem dX1_nameHouse_16 : decode cX1_nameHouse 16 = .ok (.getfield 58, 3) := by decide +kernel
theorem dX1_nameHouse_19 : decode cX1_nameHouse 19 = .ok (.iload_n 1, 1) := by decide +kernel
theorem dX1_nameHouse_20 : decode cX1_nameHouse 20 = .ok (.iaload, 1) := by decide +kernel
theorem dX1_nameHouse_21 : decode cX1_nameHouse 21 = .ok (.iastore, 1) := by decide +kernel
theorem dX1_nameHouse_22 : decode cX1_nameHouse 22 = .ok (.aload_n 0, 1) := by decide +kernel
theorem dX1_nameHouse_23 : decode cX1_nameHouse 23 = .ok (.getfield 9, 3) := by decide +kernel
theorem dX1_nameHouse_26 : decode cX1_nameHouse 26 = .ok (.bipush 6, 2) := by decide +kernel
theorem dX1_nameHouse_28 : decode cX1_nameHouse 28 = .ok (.aload_n 0, 1) := by decide +kernel
theorem dX1_nameHouse_29 : decode cX1_nameHouse 29 = .ok (.getfield 18, 3) := by decide +kernel
theorem dX1_nameHouse_32 : decode cX1_nameHouse 32 = .ok (.getfield 61, 3) := by decide +kernel
theorem dX1_nameHouse_35 : decode cX1_nameHouse 35 = .ok (.iload_n 1, 1) := by decide +kernel
theorem dX1_nameHouse_36 : decode cX1_nameHouse 36 = .ok (.iaload, 1) := by decide +kernel
theorem dX1_nameHouse_37 : decode cX1_nameHouse 37 = .ok (.iastore, 1) := by decide +kernel
theorem dX1_nameHouse_38 : decode cX1_nameHouse 38 = .ok (.aload_n 0, 1) := by decide +kernel
theorem dX1_nameHouse_39 : decode cX1_nameHouse 39 = .ok (.getfield 9, 3) := by decide +kernel
theorem dX1_nameHouse_42 : decode cX1_nameHouse 42 = .ok (.bipush 7, 2) := by decide +kernel
theorem dX1_nameHouse_44 : decode cX1_nameHouse 44 = .ok (.aload_n 0, 1) := by decide +kernel
theorem dX1_nameHouse_45 : decode cX1_nameHouse 45 = .ok (.getfield 18, 3) := by decide +kernel
theorem dX1_nameHouse_48 : decode cX1_nameHouse 48 = .ok (.getfield 64, 3) := by decide +kernel
theorem dX1_nameHouse_51 : decode cX1_nameHouse 51 = .ok (.iload_n 1, 1) := by decide +kernel
theorem dX1_nameHouse_52 : decode cX1_nameHouse 52 = .ok (.iaload, 1) := by decide +kernel
theorem dX1_nameHouse_53 : decode cX1_nameHouse 53 = .ok (.iastore, 1) := by decide +kernel
theorem dX1_nameHouse_54 : decode cX1_nameHouse 54 = .ok (.return_, 1) := by decide +kernel
theorem dX1_answer_0 : decode cX1_answer 0 = .ok (.aload_n 0, 1) := by decide +kernel
theorem dX1_answer_1 : decode cX1_answer 1 = .ok (.getfield 18, 3) := by decide +kernel
theorem dX1_answer_4 : decode cX1_answer 4 = .ok (.aload_n 0, 1) := by decide +kernel
theorem dX1_answer_5 : decode cX1_answer 5 = .ok (.getfield 18, 3) := by decide +kernel
theorem dX1_answer_8 : decode cX1_answer 8 = .ok (.getfield 67, 3) := by decide +kernel
theorem dX1_answer_11 : decode cX1_answer 11 = .ok (.invokevirtual 70, 3) := by decide +kernel
theorem dX1_answer_14 : decode cX1_answer 14 = .ok (.ifCond .eq 33, 3) := by decide +kernel
theorem dX1_answer_17 : decode cX1_answer 17 = .ok (.aload_n 0, 1) := by decide +kernel
theorem dX1_answer_18 : decode cX1_answer 18 = .ok (.getfield 18, 3) := by decide +kernel
theorem dX1_answer_21 : decode cX1_answer 21 = .ok (.getfield 67, 3) := by decide +kernel
theorem dX1_answer_24 : decode cX1_answer 24 = .ok (.aload_n 0, 1) := by decide +kernel
theorem dX1_answer_25 : decode cX1_answer 25 = .ok (.getfield 22, 3) := by decide +kernel
theorem dX1_answer_28 : decode cX1_answer 28 = .ok (.arraylength, 1) := by decide +kernel
theorem dX1_answer_29 : decode cX1_answer 29 = .ok (.if_icmp .ge 18, 3) := by decide +kernel
theorem dX1_answer_32 : decode cX1_answer 32 = .ok (.aload_n 0, 1) := by decide +kernel
theorem dX1_answer_33 : decode cX1_answer 33 = .ok (.getfield 22, 3) := by decide +kernel
theorem dX1_answer_36 : decode cX1_answer 36 = .ok (.aload_n 0, 1) := by decide +kernel
theorem dX1_answer_37 : decode cX1_answer 37 = .ok (.getfield 18, 3) := by decide +kernel
theorem dX1_answer_40 : decode cX1_answer 40 = .ok (.getfield 67, 3) := by decide +kernel
theorem dX1_answer_43 : decode cX1_answer 43 = .ok (.aaload, 1) := by decide +kernel
theorem dX1_answer_44 : decode cX1_answer 44 = .ok (.goto 4, 3) := by decide +kernel
theorem dX1_answer_47 : decode cX1_answer 47 = .ok (.aconst_null, 1) := by decide +kernel
theorem dX1_answer_48 : decode cX1_answer 48 = .ok (.astore_n 2, 1) := by decide +kernel
theorem dX1_answer_49 : decode cX1_answer 49 = .ok (.aload_n 2, 1) := by decide +kernel
theorem dX1_answer_50 : decode cX1_answer 50 = .ok (.ifnull 15, 3) := by decide +kernel
theorem dX1_answer_53 : decode cX1_answer 53 = .ok (.aload_n 2, 1) := by decide +kernel
theorem dX1_answer_54 : decode cX1_answer 54 = .ok (.iload_n 1, 1) := by decide +kernel
theorem dX1_answer_55 : decode cX1_answer 55 = .ok (.invokevirtual 73, 3) := by decide +kernel
theorem dX1_answer_58 : decode cX1_answer 58 = .ok (.ifCond .eq 7, 3) := by decide +kernel
theorem dX1_answer_61 : decode cX1_answer 61 = .ok (.iconst 1, 1) := by decide +kernel
theorem dX1_answer_62 : decode cX1_answer 62 = .ok (.goto 4, 3) := by decide +kernel
theorem dX1_answer_65 : decode cX1_answer 65 = .ok (.iconst 0, 1) := by decide +kernel
theorem dX1_answer_66 : decode cX1_answer 66 = .ok (.istore_n 3, 1) := by decide +kernel
theorem dX1_answer_67 : decode cX1_answer 67 = .ok (.iload_n 3, 1) := by decide +kernel
theorem dX1_answer_68 : decode cX1_answer 68 = .ok (.ifCond .eq 23, 3) := by decide +kernel
theorem dX1_answer_71 : decode cX1_answer 71 = .ok (.aload_n 0, 1) := by decide +kernel
theorem dX1_answer_72 : decode cX1_answer 72 = .ok (.aload_n 2, 1) := by decide +kernel
theorem dX1_answer_73 : decode cX1_answer 73 = .ok (.aload_n 2, 1) := by decide +kernel
theorem dX1_answer_74 : decode cX1_answer 74 = .ok (.getfield 78, 3) := by decide +kernel
theorem dX1_answer_77 : decode cX1_answer 77 = .ok (.iload_n 1, 1) := by decide +kernel
theorem dX1_answer_78 : decode cX1_answer 78 = .ok (.iaload, 1) := by decide +kernel
theorem dX1_answer_79 : decode cX1_answer 79 = .ok (.aload_n 2, 1) := by decide +kernel
theorem dX1_answer_80 : decode cX1_answer 80 = .ok (.getfield 81, 3) := by decide +kernel
theorem dX1_answer_83 : decode cX1_answer 83 = .ok (.iload_n 1, 1) := by decide +kernel
theorem dX1_answer_84 : decode cX1_answer 84 = .ok (.iaload, 1) := by decide +kernel
theorem dX1_answer_85 : decode cX1_answer 85 = .ok (.invokevirtual 84, 3) := by decide +kernel
theorem dX1_answer_88 : decode cX1_answer 88 = .ok (.goto 8, 3) := by decide +kernel
theorem dX1_answer_91 : decode cX1_answer 91 = .ok (.aload_n 0, 1) := by decide +kernel
theorem dX1_answer_92 : decode cX1_answer 92 = .ok (.iload_n 1, 1) := by decide +kernel
theorem dX1_answer_93 : decode cX1_answer 93 = .ok (.invokevirtual 88, 3) := by decide +kernel
theorem dX1_answer_96 : decode cX1_answer 96 = .ok (.istore 4, 2) := by decide +kernel
theorem dX1_answer_98 : decode cX1_answer 98 = .ok (.iload_n 1, 1) := by decide +kernel
theorem dX1_answer_99 : decode cX1_answer 99 = .ok (.iconst 1, 1) := by decide +kernel
theorem dX1_answer_100 : decode cX1_answer 100 = .ok (.if_icmp .ne 7, 3) := by decide +kernel
theorem dX1_answer_103 : decode cX1_answer 103 = .ok (.iconst 1, 1) := by decide +kernel
theorem dX1_answer_104 : decode cX1_answer 104 = .ok (.goto 4, 3) := by decide +kernel
theorem dX1_answer_107 : decode cX1_answer 107 = .ok (.iconst 0, 1) := by decide +kernel
theorem dX1_answer_108 : decode cX1_answer 108 = .ok (.istore 5, 2) := by decide +kernel
theorem dX1_answer_110 : decode cX1_answer 110 = .ok (.iload_n 1, 1) := by decide +kernel
theorem dX1_answer_111 : decode cX1_answer 111 = .ok (.iconst 3, 1) := by decide +kernel
theorem dX1_answer_112 : decode cX1_answer 112 = .ok (.if_icmp .ne 8, 3) := by decide +kernel
theorem dX1_answer_115 : decode cX1_answer 115 = .ok (.bipush 10, 2) := by decide +kernel
theorem dX1_answer_117 : decode cX1_answer 117 = .ok (.goto 5, 3) := by decide +kernel
theorem dX1_answer_120 : decode cX1_answer 120 = .ok (.bipush 99, 2) := by decide +kernel
theorem dX1_answer_122 : decode cX1_answer 122 = .ok (.istore 6, 2) := by decide +kernel
theorem dX1_answer_124 : decode cX1_answer 124 = .ok (.iload 5, 2) := by decide +kernel
theorem dX1_answer_126 : decode cX1_answer 126 = .ok (.iload 6, 2) := by decide +kernel
theorem dX1_answer_128 : decode cX1_answer 128 = .ok (.iload 4, 2) := by decide +kernel
theorem dX1_answer_130 : decode cX1_answer 130 = .ok (.invokestatic 91, 3) := by decide +kernel
theorem dX1_answer_133 : decode cX1_answer 133 = .ok (.invokestatic 97, 3) := by decide +kernel
theorem dX1_answer_136 : decode cX1_answer 136 = .ok (.ireturn, 1) := by decide +kernel
theorem dX1_untold_0 : decode cX1_untold 0 = .ok (.iload_n 1, 1) := by decide +kernel
theorem dX1_untold_1 : decode cX1_untold 1 = .ok (.tableswitch 55 0 3 #[31, 38, 55, 48], 31) := by decide +kernel
theorem dX1_untold_32 : decode cX1_untold 32 = .ok (.aload_n 0, 1) := by decide +kernel
theorem dX1_untold_33 : decode cX1_untold 33 = .ok (.getfield 9, 3) := by decide +kernel
theorem dX1_untold_36 : decode cX1_untold 36 = .ok (.iconst 3, 1) := by decide +kernel
theorem dX1_untold_37 : decode cX1_untold 37 = .ok (.iaload, 1) := by decide +kernel
theorem dX1_untold_38 : decode cX1_untold 38 = .ok (.ireturn, 1) := by decide +kernel
theorem dX1_untold_39 : decode cX1_untold 39 = .ok (.bipush 10, 2) := by decide +kernel
theorem dX1_untold_41 : decode cX1_untold 41 = .ok (.aload_n 0, 1) := by decide +kernel
theorem dX1_untold_42 : decode cX1_untold 42 = .ok (.getfield 9, 3) := by decide +kernel
theorem dX1_untold_45 : decode cX1_untold 45 = .ok (.iconst 3, 1) := by decide +kernel
theorem dX1_untold_46 : decode cX1_untold 46 = .ok (.iaload, 1) := by decide +kernel
theorem dX1_untold_47 : decode cX1_untold 47 = .ok (.imul, 1) := by decide +kernel
theorem dX1_untold_48 : decode cX1_untold 48 = .ok (.ireturn, 1) := by decide +kernel
theorem dX1_untold_49 : decode cX1_untold 49 = .ok (.aload_n 0, 1) := by decide +kernel
theorem dX1_untold_50 : decode cX1_untold 50 = .ok (.getfield 9, 3) := by decide +kernel
theorem dX1_untold_53 : decode cX1_untold 53 = .ok (.iconst 1, 1) := by decide +kernel
theorem dX1_untold_54 : decode cX1_untold 54 = .ok (.iaload, 1) := by decide +kernel
theorem dX1_untold_55 : decode cX1_untold 55 = .ok (.ireturn, 1) := by decide +kernel
theorem dX1_untold_56 : decode cX1_untold 56 = .ok (.iconst 0, 1) := by decide +kernel
theorem dX1_untold_57 : decode cX1_untold 57 = .ok (.ireturn, 1) := by decide +kernel
theorem dX1_reckon_0 : decode cX1_reckon 0 = .ok (.iconst 0, 1) := by decide +kernel
theorem dX1_reckon_1 : decode cX1_reckon 1 = .ok (.istore 4, 2) := by decide +kernel
theorem dX1_reckon_3 : decode cX1_reckon 3 = .ok (.iload_n 2, 1) := by decide +kernel
theorem dX1_reckon_4 : decode cX1_reckon 4 = .ok (.istore 5, 2) := by decide +kernel
theorem dX1_reckon_6 : decode cX1_reckon 6 = .ok (.iload 5, 2) := by decide +kernel
theorem dX1_reckon_8 : decode cX1_reckon 8 = .ok (.ifCond .lt 163, 3) := by decide +kernel
theorem dX1_reckon_11 : decode cX1_reckon 11 = .ok (.iload 5, 2) := by decide +kernel
theorem dX1_reckon_13 : decode cX1_reckon 13 = .ok (.iload_n 3, 1) := by decide +kernel
theorem dX1_reckon_14 : decode cX1_reckon 14 = .ok (.if_icmp .ge 157, 3) := by decide +kernel
theorem dX1_reckon_17 : decode cX1_reckon 17 = .ok (.iload 5, 2) := by decide +kernel
theorem dX1_reckon_19 : decode cX1_reckon 19 = .ok (.aload_n 1, 1) := by decide +kernel
theorem dX1_reckon_20 : decode cX1_reckon 20 = .ok (.getfield 100, 3) := by decide +kernel
theorem dX1_reckon_23 : decode cX1_reckon 23 = .ok (.arraylength, 1) := by decide +kernel
theorem dX1_reckon_24 : decode cX1_reckon 24 = .ok (.if_icmp .ge 147, 3) := by decide +kernel
theorem dX1_reckon_27 : decode cX1_reckon 27 = .ok (.aload_n 1, 1) := by decide +kernel
theorem dX1_reckon_28 : decode cX1_reckon 28 = .ok (.getfield 100, 3) := by decide +kernel
theorem dX1_reckon_31 : decode cX1_reckon 31 = .ok (.iload 5, 2) := by decide +kernel
theorem dX1_reckon_33 : decode cX1_reckon 33 = .ok (.iaload, 1) := by decide +kernel
theorem dX1_reckon_34 : decode cX1_reckon 34 = .ok (.istore 6, 2) := by decide +kernel
theorem dX1_reckon_36 : decode cX1_reckon 36 = .ok (.iload 6, 2) := by decide +kernel
theorem dX1_reckon_38 : decode cX1_reckon 38 = .ok (.sipush 10008, 3) := by decide +kernel
theorem dX1_reckon_41 : decode cX1_reckon 41 = .ok (.if_icmp .ge 50, 3) := by decide +kernel
theorem dX1_reckon_44 : decode cX1_reckon 44 = .ok (.iload 4, 2) := by decide +kernel
theorem dX1_reckon_46 : decode cX1_reckon 46 = .ok (.aload_n 0, 1) := by decide +kernel
theorem dX1_reckon_47 : decode cX1_reckon 47 = .ok (.getfield 15, 3) := by decide +kernel
theorem dX1_reckon_50 : decode cX1_reckon 50 = .ok (.arraylength, 1) := by decide +kernel
theorem dX1_reckon_51 : decode cX1_reckon 51 = .ok (.if_icmp .ge 40, 3) := by decide +kernel
theorem dX1_reckon_54 : decode cX1_reckon 54 = .ok (.aload_n 0, 1) := by decide +kernel
theorem dX1_reckon_55 : decode cX1_reckon 55 = .ok (.getfield 15, 3) := by decide +kernel
theorem dX1_reckon_58 : decode cX1_reckon 58 = .ok (.iload 4, 2) := by decide +kernel
theorem dX1_reckon_60 : decode cX1_reckon 60 = .ok (.iload 6, 2) := by decide +kernel
theorem dX1_reckon_62 : decode cX1_reckon 62 = .ok (.sipush 10000, 3) := by decide +kernel
theorem dX1_reckon_65 : decode cX1_reckon 65 = .ok (.if_icmp .ge 8, 3) := by decide +kernel
theorem dX1_reckon_68 : decode cX1_reckon 68 = .ok (.iload 6, 2) := by decide +kernel
theorem dX1_reckon_70 : decode cX1_reckon 70 = .ok (.goto 14, 3) := by decide +kernel
theorem dX1_reckon_73 : decode cX1_reckon 73 = .ok (.aload_n 0, 1) := by decide +kernel
theorem dX1_reckon_74 : decode cX1_reckon 74 = .ok (.getfield 9, 3) := by decide +kernel
theorem dX1_reckon_77 : decode cX1_reckon 77 = .ok (.iload 6, 2) := by decide +kernel
theorem dX1_reckon_79 : decode cX1_reckon 79 = .ok (.sipush 10000, 3) := by decide +kernel
theorem dX1_reckon_82 : decode cX1_reckon 82 = .ok (.isub, 1) := by decide +kernel
theorem dX1_reckon_83 : decode cX1_reckon 83 = .ok (.iaload, 1) := by decide +kernel
theorem dX1_reckon_84 : decode cX1_reckon 84 = .ok (.iastore, 1) := by decide +kernel
theorem dX1_reckon_85 : decode cX1_reckon 85 = .ok (.iinc 4 1, 3) := by decide +kernel
theorem dX1_reckon_88 : decode cX1_reckon 88 = .ok (.goto 77, 3) := by decide +kernel
theorem dX1_reckon_91 : decode cX1_reckon 91 = .ok (.iload 6, 2) := by decide +kernel
theorem dX1_reckon_93 : decode cX1_reckon 93 = .ok (.sipush 10012, 3) := by decide +kernel
theorem dX1_reckon_96 : decode cX1_reckon 96 = .ok (.if_icmp .ne 30, 3) := by decide +kernel
theorem dX1_reckon_99 : decode cX1_reckon 99 = .ok (.iload 4, 2) := by decide +kernel
theorem dX1_reckon_101 : decode cX1_reckon 101 = .ok (.ifCond .le 25, 3) := by decide +kernel
theorem dX1_reckon_104 : decode cX1_reckon 104 = .ok (.aload_n 0, 1) := by decide +kernel
theorem dX1_reckon_105 : decode cX1_reckon 105 = .ok (.getfield 15, 3) := by decide +kernel
theorem dX1_reckon_108 : decode cX1_reckon 108 = .ok (.iload 4, 2) := by decide +kernel
theorem dX1_reckon_110 : decode cX1_reckon 110 = .ok (.iconst 1, 1) := by decide +kernel
theorem dX1_reckon_111 : decode cX1_reckon 111 = .ok (.isub, 1) := by decide +kernel
theorem dX1_reckon_112 : decode cX1_reckon 112 = .ok (.aload_n 0, 1) := by decide +kernel
theorem dX1_reckon_113 : decode cX1_reckon 113 = .ok (.getfield 15, 3) := by decide +kernel
theorem dX1_reckon_116 : decode cX1_reckon 116 = .ok (.iload 4, 2) := by decide +kernel
theorem dX1_reckon_118 : decode cX1_reckon 118 = .ok (.iconst 1, 1) := by decide +kernel
theorem dX1_reckon_119 : decode cX1_reckon 119 = .ok (.isub, 1) := by decide +kernel
theorem dX1_reckon_120 : decode cX1_reckon 120 = .ok (.iaload, 1) := by decide +kernel
theorem dX1_reckon_121 : decode cX1_reckon 121 = .ok (.ineg, 1) := by decide +kernel
theorem dX1_reckon_122 : decode cX1_reckon 122 = .ok (.iastore, 1) := by decide +kernel
theorem dX1_reckon_123 : decode cX1_reckon 123 = .ok (.goto 42, 3) := by decide +kernel
theorem dX1_reckon_126 : decode cX1_reckon 126 = .ok (.iload 4, 2) := by decide +kernel
theorem dX1_reckon_128 : decode cX1_reckon 128 = .ok (.iconst 1, 1) := by decide +kernel
theorem dX1_reckon_129 : decode cX1_reckon 129 = .ok (.if_icmp .le 36, 3) := by decide +kernel
theorem dX1_reckon_132 : decode cX1_reckon 132 = .ok (.iinc 4 (-1), 3) := by decide +kernel
theorem dX1_reckon_135 : decode cX1_reckon 135 = .ok (.aload_n 0, 1) := by decide +kernel
theorem dX1_reckon_136 : decode cX1_reckon 136 = .ok (.getfield 15, 3) := by decide +kernel
theorem dX1_reckon_139 : decode cX1_reckon 139 = .ok (.iload 4, 2) := by decide +kernel
theorem dX1_reckon_141 : decode cX1_reckon 141 = .ok (.iconst 1, 1) := by decide +kernel
theorem dX1_reckon_142 : decode cX1_reckon 142 = .ok (.isub, 1) := by decide +kernel
theorem dX1_reckon_143 : decode cX1_reckon 143 = .ok (.iload 6, 2) := by decide +kernel
theorem dX1_reckon_145 : decode cX1_reckon 145 = .ok (.aload_n 0, 1) := by decide +kernel
theorem dX1_reckon_146 : decode cX1_reckon 146 = .ok (.getfield 15, 3) := by decide +kernel
theorem dX1_reckon_149 : decode cX1_reckon 149 = .ok (.iload 4, 2) := by decide +kernel
theorem dX1_reckon_151 : decode cX1_reckon 151 = .ok (.iconst 1, 1) := by decide +kernel
theorem dX1_reckon_152 : decode cX1_reckon 152 = .ok (.isub, 1) := by decide +kernel
theorem dX1_reckon_153 : decode cX1_reckon 153 = .ok (.iaload, 1) := by decide +kernel
theorem dX1_reckon_154 : decode cX1_reckon 154 = .ok (.aload_n 0, 1) := by decide +kernel
theorem dX1_reckon_155 : decode cX1_reckon 155 = .ok (.getfield 15, 3) := by decide +kernel
theorem dX1_reckon_158 : decode cX1_reckon 158 = .ok (.iload 4, 2) := by decide +kernel
theorem dX1_reckon_160 : decode cX1_reckon 160 = .ok (.iaload, 1) := by decide +kernel
theorem dX1_reckon_161 : decode cX1_reckon 161 = .ok (.invokestatic 103, 3) := by decide +kernel
theorem dX1_reckon_164 : decode cX1_reckon 164 = .ok (.iastore, 1) := by decide +kernel
theorem dX1_reckon_165 : decode cX1_reckon 165 = .ok (.iinc 5 1, 3) := by decide +kernel
theorem dX1_reckon_168 : decode cX1_reckon 168 = .ok (.goto (-162), 3) := by decide +kernel
theorem dX1_reckon_171 : decode cX1_reckon 171 = .ok (.aload_n 0, 1) := by decide +kernel
theorem dX1_reckon_172 : decode cX1_reckon 172 = .ok (.getfield 15, 3) := by decide +kernel
theorem dX1_reckon_175 : decode cX1_reckon 175 = .ok (.iconst 0, 1) := by decide +kernel
theorem dX1_reckon_176 : decode cX1_reckon 176 = .ok (.iaload, 1) := by decide +kernel
theorem dX1_reckon_177 : decode cX1_reckon 177 = .ok (.ireturn, 1) := by decide +kernel
theorem dX1_combine_0 : decode cX1_combine 0 = .ok (.iload_n 0, 1) := by decide +kernel
theorem dX1_combine_1 : decode cX1_combine 1 = .ok (.tableswitch 52 10008 10010 #[27, 35, 43], 27) := by decide +kernel
theorem dX1_combine_28 : decode cX1_combine 28 = .ok (.iload_n 1, 1) := by decide +kernel
theorem dX1_combine_29 : decode cX1_combine 29 = .ok (.iload_n 2, 1) := by decide +kernel
theorem dX1_combine_30 : decode cX1_combine 30 = .ok (.iadd, 1) := by decide +kernel
theorem dX1_combine_31 : decode cX1_combine 31 = .ok (.i2l, 1) := by decide +kernel
theorem dX1_combine_32 : decode cX1_combine 32 = .ok (.lstore_n 3, 1) := by decide +kernel
theorem dX1_combine_33 : decode cX1_combine 33 = .ok (.goto 33, 3) := by decide +kernel
theorem dX1_combine_36 : decode cX1_combine 36 = .ok (.iload_n 1, 1) := by decide +kernel
theorem dX1_combine_37 : decode cX1_combine 37 = .ok (.iload_n 2, 1) := by decide +kernel
theorem dX1_combine_38 : decode cX1_combine 38 = .ok (.isub, 1) := by decide +kernel
theorem dX1_combine_39 : decode cX1_combine 39 = .ok (.i2l, 1) := by decide +kernel
theorem dX1_combine_40 : decode cX1_combine 40 = .ok (.lstore_n 3, 1) := by decide +kernel
theorem dX1_combine_41 : decode cX1_combine 41 = .ok (.goto 25, 3) := by decide +kernel
theorem dX1_combine_44 : decode cX1_combine 44 = .ok (.iload_n 1, 1) := by decide +kernel
theorem dX1_combine_45 : decode cX1_combine 45 = .ok (.i2l, 1) := by decide +kernel
theorem dX1_combine_46 : decode cX1_combine 46 = .ok (.iload_n 2, 1) := by decide +kernel
theorem dX1_combine_47 : decode cX1_combine 47 = .ok (.i2l, 1) := by decide +kernel
theorem dX1_combine_48 : decode cX1_combine 48 = .ok (.lmul, 1) := by decide +kernel
theorem dX1_combine_49 : decode cX1_combine 49 = .ok (.lstore_n 3, 1) := by decide +kernel
theorem dX1_combine_50 : decode cX1_combine 50 = .ok (.goto 16, 3) := by decide +kernel
theorem dX1_combine_53 : decode cX1_combine 53 = .ok (.iload_n 2, 1) := by decide +kernel
theorem dX1_combine_54 : decode cX1_combine 54 = .ok (.ifCond .ne 7, 3) := by decide +kernel
theorem dX1_combine_57 : decode cX1_combine 57 = .ok (.lconst 0, 1) := by decide +kernel
theorem dX1_combine_58 : decode cX1_combine 58 = .ok (.goto 7, 3) := by decide +kernel
theorem dX1_combine_61 : decode cX1_combine 61 = .ok (.iload_n 1, 1) := by decide +kernel
theorem dX1_combine_62 : decode cX1_combine 62 = .ok (.iload_n 2, 1) := by decide +kernel
theorem dX1_combine_63 : decode cX1_combine 63 = .ok (.idiv, 1) := by decide +kernel
theorem dX1_combine_64 : decode cX1_combine 64 = .ok (.i2l, 1) := by decide +kernel
theorem dX1_combine_65 : decode cX1_combine 65 = .ok (.lstore_n 3, 1) := by decide +kernel
theorem dX1_combine_66 : decode cX1_combine 66 = .ok (.ldc2_w 107, 3) := by decide +kernel
theorem dX1_combine_69 : decode cX1_combine 69 = .ok (.ldc2_w 109, 3) := by decide +kernel
theorem dX1_combine_72 : decode cX1_combine 72 = .ok (.lload_n 3, 1) := by decide +kernel
theorem dX1_combine_73 : decode cX1_combine 73 = .ok (.invokestatic 111, 3) := by decide +kernel
theorem dX1_combine_76 : decode cX1_combine 76 = .ok (.invokestatic 114, 3) := by decide +kernel
theorem dX1_combine_79 : decode cX1_combine 79 = .ok (.l2i, 1) := by decide +kernel
theorem dX1_combine_80 : decode cX1_combine 80 = .ok (.ireturn, 1) := by decide +kernel
