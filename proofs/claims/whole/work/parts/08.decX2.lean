theorem dX2_init_0 : decode cX2_init 0 = .ok (.aload_n 0, 1) := by decide +kernel
theorem dX2_init_1 : decode cX2_init 1 = .ok (.invokespecial 3, 3) := by decide +kernel
theorem dX2_init_4 : decode cX2_init 4 = .ok (.aload_n 0, 1) := by decide +kernel
theorem dX2_init_5 : decode cX2_init 5 = .ok (.sipush 300, 3) := by decide +kernel
theorem dX2_init_8 : decode cX2_init 8 = .ok (.newarray .int, 2) := by decide +kernel
theorem dX2_init_10 : decode cX2_init 10 = .ok (.putfield 9, 3) := by decide +kernel
theorem dX2_init_13 : decode cX2_init 13 = .ok (.aload_n 0, 1) := by decide +kernel
theorem dX2_init_14 : decode cX2_init 14 = .ok (.iconst 0, 1) := by decide +kernel
theorem dX2_init_15 : decode cX2_init 15 = .ok (.putfield 15, 3) := by decide +kernel
theorem dX2_init_18 : decode cX2_init 18 = .ok (.aload_n 0, 1) := by decide +kernel
theorem dX2_init_19 : decode cX2_init 19 = .ok (.sipush 301, 3) := by decide +kernel
theorem dX2_init_22 : decode cX2_init 22 = .ok (.newarray .int, 2) := by decide +kernel
theorem dX2_init_24 : decode cX2_init 24 = .ok (.putfield 19, 3) := by decide +kernel
theorem dX2_init_27 : decode cX2_init 27 = .ok (.aload_n 0, 1) := by decide +kernel
theorem dX2_init_28 : decode cX2_init 28 = .ok (.sipush 301, 3) := by decide +kernel
theorem dX2_init_31 : decode cX2_init 31 = .ok (.newarray .int, 2) := by decide +kernel
theorem dX2_init_33 : decode cX2_init 33 = .ok (.putfield 22, 3) := by decide +kernel
theorem dX2_init_36 : decode cX2_init 36 = .ok (.aload_n 0, 1) := by decide +kernel
theorem dX2_init_37 : decode cX2_init 37 = .ok (.sipush 301, 3) := by decide +kernel
theorem dX2_init_40 : decode cX2_init 40 = .ok (.newarray .int, 2) := by decide +kernel
theorem dX2_init_42 : decode cX2_init 42 = .ok (.putfield 25, 3) := by decide +kernel
theorem dX2_init_45 : decode cX2_init 45 = .ok (.aload_n 0, 1) := by decide +kernel
theorem dX2_init_46 : decode cX2_init 46 = .ok (.iconst 0, 1) := by decide +kernel
theorem dX2_init_47 : decode cX2_init 47 = .ok (.putfield 28, 3) := by decide +kernel
theorem dX2_init_50 : decode cX2_init 50 = .ok (.aload_n 0, 1) := by decide +kernel
theorem dX2_init_51 : decode cX2_init 51 = .ok (.iconst 0, 1) := by decide +kernel
theorem dX2_init_52 : decode cX2_init 52 = .ok (.putfield 31, 3) := by decide +kernel
theorem dX2_init_55 : decode cX2_init 55 = .ok (.aload_n 0, 1) := by decide +kernel
theorem dX2_init_56 : decode cX2_init 56 = .ok (.iconst 0, 1) := by decide +kernel
theorem dX2_init_57 : decode cX2_init 57 = .ok (.putfield 34, 3) := by decide +kernel
theorem dX2_init_60 : decode cX2_init 60 = .ok (.aload_n 0, 1) := by decide +kernel
theorem dX2_init_61 : decode cX2_init 61 = .ok (.iconst 0, 1) := by decide +kernel
theorem dX2_init_62 : decode cX2_init 62 = .ok (.putfield 37, 3) := by decide +kernel
theorem dX2_init_65 : decode cX2_init 65 = .ok (.aload_n 0, 1) := by decide +kernel
theorem dX2_init_66 : decode cX2_init 66 = .ok (.iconst (-1), 1) := by decide +kernel
theorem dX2_init_67 : decode cX2_init 67 = .ok (.putfield 40, 3) := by decide +kernel
theorem dX2_init_70 : decode cX2_init 70 = .ok (.aload_n 0, 1) := by decide +kernel
theorem dX2_init_71 : decode cX2_init 71 = .ok (.iconst 0, 1) := by decide +kernel
theorem dX2_init_72 : decode cX2_init 72 = .ok (.putfield 43, 3) := by decide +kernel
theorem dX2_init_75 : decode cX2_init 75 = .ok (.aload_n 0, 1) := by decide +kernel
theorem dX2_init_76 : decode cX2_init 76 = .ok (.iconst 0, 1) := by decide +kernel
theorem dX2_init_77 : decode cX2_init 77 = .ok (.putfield 47, 3) := by decide +kernel
theorem dX2_init_80 : decode cX2_init 80 = .ok (.aload_n 0, 1) := by decide +kernel
theorem dX2_init_81 : decode cX2_init 81 = .ok (.iconst (-1), 1) := by decide +kernel
theorem dX2_init_82 : decode cX2_init 82 = .ok (.putfield 50, 3) := by decide +kernel
theorem dX2_init_85 : decode cX2_init 85 = .ok (.return_, 1) := by decide +kernel
theorem dX2_hasRoom_0 : decode cX2_hasRoom 0 = .ok (.aload_n 0, 1) := by decide +kernel
theorem dX2_hasRoom_1 : decode cX2_hasRoom 1 = .ok (.getfield 15, 3) := by decide +kernel
theorem dX2_hasRoom_4 : decode cX2_hasRoom 4 = .ok (.bipush 20, 2) := by decide +kernel
theorem dX2_hasRoom_6 : decode cX2_hasRoom 6 = .ok (.iadd, 1) := by decide +kernel
theorem dX2_hasRoom_7 : decode cX2_hasRoom 7 = .ok (.sipush 300, 3) := by decide +kernel
theorem dX2_hasRoom_10 : decode cX2_hasRoom 10 = .ok (.if_icmp .gt 7, 3) := by decide +kernel
theorem dX2_hasRoom_13 : decode cX2_hasRoom 13 = .ok (.iconst 1, 1) := by decide +kernel
theorem dX2_hasRoom_14 : decode cX2_hasRoom 14 = .ok (.goto 4, 3) := by decide +kernel
theorem dX2_hasRoom_17 : decode cX2_hasRoom 17 = .ok (.iconst 0, 1) := by decide +kernel
theorem dX2_hasRoom_18 : decode cX2_hasRoom 18 = .ok (.ireturn, 1) := by decide +kernel
theorem dX2_addFour_0 : decode cX2_addFour 0 = .ok (.bipush 24, 2) := by decide +kernel
theorem dX2_addFour_2 : decode cX2_addFour 2 = .ok (.istore_n 2, 1) := by decide +kernel
theorem dX2_addFour_3 : decode cX2_addFour 3 = .ok (.iload_n 2, 1) := by decide +kernel
theorem dX2_addFour_4 : decode cX2_addFour 4 = .ok (.ifCond .lt 54, 3) := by decide +kernel
theorem dX2_addFour_7 : decode cX2_addFour 7 = .ok (.aload_n 0, 1) := by decide +kernel
theorem dX2_addFour_8 : decode cX2_addFour 8 = .ok (.getfield 15, 3) := by decide +kernel
theorem dX2_addFour_11 : decode cX2_addFour 11 = .ok (.ifCond .lt 41, 3) := by decide +kernel
theorem dX2_addFour_14 : decode cX2_addFour 14 = .ok (.aload_n 0, 1) := by decide +kernel
theorem dX2_addFour_15 : decode cX2_addFour 15 = .ok (.getfield 15, 3) := by decide +kernel
theorem dX2_addFour_18 : decode cX2_addFour 18 = .ok (.aload_n 0, 1) := by decide +kernel
theorem dX2_addFour_19 : decode cX2_addFour 19 = .ok (.getfield 9, 3) := by decide +kernel
theorem dX2_addFour_22 : decode cX2_addFour 22 = .ok (.arraylength, 1) := by decide +kernel
theorem dX2_addFour_23 : decode cX2_addFour 23 = .ok (.if_icmp .ge 29, 3) := by decide +kernel
theorem dX2_addFour_26 : decode cX2_addFour 26 = .ok (.aload_n 0, 1) := by decide +kernel
theorem dX2_addFour_27 : decode cX2_addFour 27 = .ok (.getfield 9, 3) := by decide +kernel
theorem dX2_addFour_30 : decode cX2_addFour 30 = .ok (.aload_n 0, 1) := by decide +kernel
theorem dX2_addFour_31 : decode cX2_addFour 31 = .ok (.getfield 15, 3) := by decide +kernel
theorem dX2_addFour_34 : decode cX2_addFour 34 = .ok (.iload_n 1, 1) := by decide +kernel
theorem dX2_addFour_35 : decode cX2_addFour 35 = .ok (.iload_n 2, 1) := by decide +kernel
theorem dX2_addFour_36 : decode cX2_addFour 36 = .ok (.iushr, 1) := by decide +kernel
theorem dX2_addFour_37 : decode cX2_addFour 37 = .ok (.sipush 255, 3) := by decide +kernel
theorem dX2_addFour_40 : decode cX2_addFour 40 = .ok (.iand, 1) := by decide +kernel
theorem dX2_addFour_41 : decode cX2_addFour 41 = .ok (.iastore, 1) := by decide +kernel
theorem dX2_addFour_42 : decode cX2_addFour 42 = .ok (.aload_n 0, 1) := by decide +kernel
theorem dX2_addFour_43 : decode cX2_addFour 43 = .ok (.dup, 1) := by decide +kernel
theorem dX2_addFour_44 : decode cX2_addFour 44 = .ok (.getfield 15, 3) := by decide +kernel
theorem dX2_addFour_47 : decode cX2_addFour 47 = .ok (.iconst 1, 1) := by decide +kernel
theorem dX2_addFour_48 : decode cX2_addFour 48 = .ok (.iadd, 1) := by decide +kernel
theorem dX2_addFour_49 : decode cX2_addFour 49 = .ok (.putfield 15, 3) := by decide +kernel
theorem dX2_addFour_52 : decode cX2_addFour 52 = .ok (.iinc 2 (-8), 3) := by decide +kernel
theorem dX2_addFour_55 : decode cX2_addFour 55 = .ok (.goto (-52), 3) := by decide +kernel
theorem dX2_addFour_58 : decode cX2_addFour 58 = .ok (.return_, 1) := by decide +kernel
theorem dX2_read_0 : decode cX2_read 0 = .ok (.aload_n 1, 1) := by decide +kernel
theorem dX2_read_1 : decode cX2_read 1 = .ok (.ifnonnull 5, 3) := by decide +kernel
theorem dX2_read_4 : decode cX2_read 4 = .ok (.iconst 0, 1) := by decide +kernel
theorem dX2_read_5 : decode cX2_read 5 = .ok (.ireturn, 1) := by decide +kernel
theorem dX2_read_6 : decode cX2_read 6 = .ok (.aload_n 1, 1) := by decide +kernel
theorem dX2_read_7 : decode cX2_read 7 = .ok (.invokevirtual 53, 3) := by decide +kernel
theorem dX2_read_10 : decode cX2_read 10 = .ok (.aload_n 0, 1) := by decide +kernel
theorem dX2_read_11 : decode cX2_read 11 = .ok (.iconst 1, 1) := by decide +kernel
theorem dX2_read_12 : decode cX2_read 12 = .ok (.putfield 43, 3) := by decide +kernel
theorem dX2_read_15 : decode cX2_read 15 = .ok (.aload_n 0, 1) := by decide +kernel
theorem dX2_read_16 : decode cX2_read 16 = .ok (.iconst 0, 1) := by decide +kernel
theorem dX2_read_17 : decode cX2_read 17 = .ok (.putfield 47, 3) := by decide +kernel
theorem dX2_read_20 : decode cX2_read 20 = .ok (.aload_n 0, 1) := by decide +kernel
theorem dX2_read_21 : decode cX2_read 21 = .ok (.iconst (-1), 1) := by decide +kernel
theorem dX2_read_22 : decode cX2_read 22 = .ok (.putfield 50, 3) := by decide +kernel
theorem dX2_read_25 : decode cX2_read 25 = .ok (.aload_n 0, 1) := by decide +kernel
theorem dX2_read_26 : decode cX2_read 26 = .ok (.invokevirtual 58, 3) := by decide +kernel
theorem dX2_read_29 : decode cX2_read 29 = .ok (.aload_n 0, 1) := by decide +kernel
theorem dX2_read_30 : decode cX2_read 30 = .ok (.iconst (-1), 1) := by decide +kernel
theorem dX2_read_31 : decode cX2_read 31 = .ok (.putfield 31, 3) := by decide +kernel
theorem dX2_read_34 : decode cX2_read 34 = .ok (.aload_n 0, 1) := by decide +kernel
theorem dX2_read_35 : decode cX2_read 35 = .ok (.invokevirtual 61, 3) := by decide +kernel
theorem dX2_read_38 : decode cX2_read 38 = .ok (.iconst 1, 1) := by decide +kernel
theorem dX2_read_39 : decode cX2_read 39 = .ok (.istore_n 2, 1) := by decide +kernel
theorem dX2_read_40 : decode cX2_read 40 = .ok (.iconst 0, 1) := by decide +kernel
theorem dX2_read_41 : decode cX2_read 41 = .ok (.istore_n 3, 1) := by decide +kernel
theorem dX2_read_42 : decode cX2_read 42 = .ok (.iload_n 2, 1) := by decide +kernel
theorem dX2_read_43 : decode cX2_read 43 = .ok (.ifCond .eq 29, 3) := by decide +kernel
theorem dX2_read_46 : decode cX2_read 46 = .ok (.aload_n 0, 1) := by decide +kernel
theorem dX2_read_47 : decode cX2_read 47 = .ok (.getfield 34, 3) := by decide +kernel
theorem dX2_read_50 : decode cX2_read 50 = .ok (.ifCond .eq 22, 3) := by decide +kernel
theorem dX2_read_53 : decode cX2_read 53 = .ok (.iload_n 3, 1) := by decide +kernel
theorem dX2_read_54 : decode cX2_read 54 = .ok (.sipush 300, 3) := by decide +kernel
theorem dX2_read_57 : decode cX2_read 57 = .ok (.if_icmp .gt 15, 3) := by decide +kernel
theorem dX2_read_60 : decode cX2_read 60 = .ok (.aload_n 0, 1) := by decide +kernel
theorem dX2_read_61 : decode cX2_read 61 = .ok (.aload_n 1, 1) := by decide +kernel
theorem dX2_read_62 : decode cX2_read 62 = .ok (.invokevirtual 64, 3) := by decide +kernel
theorem dX2_read_65 : decode cX2_read 65 = .ok (.istore_n 2, 1) := by decide +kernel
theorem dX2_read_66 : decode cX2_read 66 = .ok (.iinc 3 1, 3) := by decide +kernel
theorem dX2_read_69 : decode cX2_read 69 = .ok (.goto (-27), 3) := by decide +kernel
theorem dX2_read_72 : decode cX2_read 72 = .ok (.aload_n 0, 1) := by decide +kernel
theorem dX2_read_73 : decode cX2_read 73 = .ok (.iconst 0, 1) := by decide +kernel
theorem dX2_read_74 : decode cX2_read 74 = .ok (.putfield 15, 3) := by decide +kernel
theorem dX2_read_77 : decode cX2_read 77 = .ok (.iload_n 2, 1) := by decide +kernel
theorem dX2_read_78 : decode cX2_read 78 = .ok (.ireturn, 1) := by decide +kernel
theorem dX2_takeTokens_0 : decode cX2_takeTokens 0 = .ok (.aload_n 0, 1) := by decide +kernel
theorem dX2_takeTokens_1 : decode cX2_takeTokens 1 = .ok (.iconst 0, 1) := by decide +kernel
theorem dX2_takeTokens_2 : decode cX2_takeTokens 2 = .ok (.putfield 28, 3) := by decide +kernel
theorem dX2_takeTokens_5 : decode cX2_takeTokens 5 = .ok (.iconst 0, 1) := by decide +kernel
theorem dX2_takeTokens_6 : decode cX2_takeTokens 6 = .ok (.istore_n 1, 1) := by decide +kernel
theorem dX2_takeTokens_7 : decode cX2_takeTokens 7 = .ok (.iconst 0, 1) := by decide +kernel
theorem dX2_takeTokens_8 : decode cX2_takeTokens 8 = .ok (.istore_n 2, 1) := by decide +kernel
theorem dX2_takeTokens_9 : decode cX2_takeTokens 9 = .ok (.iload_n 2, 1) := by decide +kernel
theorem dX2_takeTokens_10 : decode cX2_takeTokens 10 = .ok (.sipush 300, 3) := by decide +kernel
theorem dX2_takeTokens_13 : decode cX2_takeTokens 13 = .ok (.if_icmp .ge 88, 3) := by decide +kernel
theorem dX2_takeTokens_16 : decode cX2_takeTokens 16 = .ok (.iload_n 1, 1) := by decide +kernel
theorem dX2_takeTokens_17 : decode cX2_takeTokens 17 = .ok (.aload_n 0, 1) := by decide +kernel
theorem dX2_takeTokens_18 : decode cX2_takeTokens 18 = .ok (.getfield 15, 3) := by decide +kernel
theorem dX2_takeTokens_21 : decode cX2_takeTokens 21 = .ok (.if_icmp .ge 80, 3) := by decide +kernel
theorem dX2_takeTokens_24 : decode cX2_takeTokens 24 = .ok (.aload_n 0, 1) := by decide +kernel
theorem dX2_takeTokens_25 : decode cX2_takeTokens 25 = .ok (.iload_n 1, 1) := by decide +kernel
theorem dX2_takeTokens_26 : decode cX2_takeTokens 26 = .ok (.invokevirtual 68, 3) := by decide +kernel
theorem dX2_takeTokens_29 : decode cX2_takeTokens 29 = .ok (.istore_n 3, 1) := by decide +kernel
theorem dX2_takeTokens_30 : decode cX2_takeTokens 30 = .ok (.iload_n 3, 1) := by decide +kernel
theorem dX2_takeTokens_31 : decode cX2_takeTokens 31 = .ok (.invokestatic 72, 3) := by decide +kernel
theorem dX2_takeTokens_34 : decode cX2_takeTokens 34 = .ok (.ifCond .eq 12, 3) := by decide +kernel
theorem dX2_takeTokens_37 : decode cX2_takeTokens 37 = .ok (.aload_n 0, 1) := by decide +kernel
theorem dX2_takeTokens_38 : decode cX2_takeTokens 38 = .ok (.iload_n 1, 1) := by decide +kernel
theorem dX2_takeTokens_39 : decode cX2_takeTokens 39 = .ok (.invokevirtual 76, 3) := by decide +kernel
theorem dX2_takeTokens_42 : decode cX2_takeTokens 42 = .ok (.istore_n 1, 1) := by decide +kernel
theorem dX2_takeTokens_43 : decode cX2_takeTokens 43 = .ok (.goto 52, 3) := by decide +kernel
theorem dX2_takeTokens_46 : decode cX2_takeTokens 46 = .ok (.iload_n 3, 1) := by decide +kernel
theorem dX2_takeTokens_47 : decode cX2_takeTokens 47 = .ok (.invokestatic 79, 3) := by decide +kernel
theorem dX2_takeTokens_50 : decode cX2_takeTokens 50 = .ok (.ifCond .eq 12, 3) := by decide +kernel
theorem dX2_takeTokens_53 : decode cX2_takeTokens 53 = .ok (.aload_n 0, 1) := by decide +kernel
theorem dX2_takeTokens_54 : decode cX2_takeTokens 54 = .ok (.iload_n 1, 1) := by decide +kernel
theorem dX2_takeTokens_55 : decode cX2_takeTokens 55 = .ok (.invokevirtual 82, 3) := by decide +kernel
theorem dX2_takeTokens_58 : decode cX2_takeTokens 58 = .ok (.istore_n 1, 1) := by decide +kernel
theorem dX2_takeTokens_59 : decode cX2_takeTokens 59 = .ok (.goto 36, 3) := by decide +kernel
theorem dX2_takeTokens_62 : decode cX2_takeTokens 62 = .ok (.iload_n 3, 1) := by decide +kernel
theorem dX2_takeTokens_63 : decode cX2_takeTokens 63 = .ok (.bipush 32, 2) := by decide +kernel
theorem dX2_takeTokens_65 : decode cX2_takeTokens 65 = .ok (.if_icmp .eq 27, 3) := by decide +kernel
theorem dX2_takeTokens_68 : decode cX2_takeTokens 68 = .ok (.iload_n 3, 1) := by decide +kernel
theorem dX2_takeTokens_69 : decode cX2_takeTokens 69 = .ok (.bipush 10, 2) := by decide +kernel
theorem dX2_takeTokens_71 : decode cX2_takeTokens 71 = .ok (.if_icmp .eq 21, 3) := by decide +kernel
theorem dX2_takeTokens_74 : decode cX2_takeTokens 74 = .ok (.aload_n 0, 1) := by decide +kernel
theorem dX2_takeTokens_75 : decode cX2_takeTokens 75 = .ok (.iload_n 3, 1) := by decide +kernel
theorem dX2_takeTokens_76 : decode cX2_takeTokens 76 = .ok (.invokestatic 85, 3) := by decide +kernel
theorem dX2_takeTokens_79 : decode cX2_takeTokens 79 = .ok (.ifCond .eq 7, 3) := by decide +kernel
theorem dX2_takeTokens_82 : decode cX2_takeTokens 82 = .ok (.iload_n 3, 1) := by decide +kernel
theorem dX2_takeTokens_83 : decode cX2_takeTokens 83 = .ok (.goto 4, 3) := by decide +kernel
theorem dX2_takeTokens_86 : decode cX2_takeTokens 86 = .ok (.iconst 3, 1) := by decide +kernel
theorem dX2_takeTokens_87 : decode cX2_takeTokens 87 = .ok (.iload_n 1, 1) := by decide +kernel
theorem dX2_takeTokens_88 : decode cX2_takeTokens 88 = .ok (.iconst 0, 1) := by decide +kernel
theorem dX2_takeTokens_89 : decode cX2_takeTokens 89 = .ok (.invokevirtual 88, 3) := by decide +kernel
theorem dX2_takeTokens_92 : decode cX2_takeTokens 92 = .ok (.iinc 1 1, 3) := by decide +kernel
theorem dX2_takeTokens_95 : decode cX2_takeTokens 95 = .ok (.iinc 2 1, 3) := by decide +kernel
theorem dX2_takeTokens_98 : decode cX2_takeTokens 98 = .ok (.goto (-89), 3) := by decide +kernel
theorem dX2_takeTokens_101 : decode cX2_takeTokens 101 = .ok (.aload_n 0, 1) := by decide +kernel
theorem dX2_takeTokens_102 : decode cX2_takeTokens 102 = .ok (.iconst 0, 1) := by decide +kernel
theorem dX2_takeTokens_103 : decode cX2_takeTokens 103 = .ok (.aload_n 0, 1) := by decide +kernel
theorem dX2_takeTokens_104 : decode cX2_takeTokens 104 = .ok (.getfield 15, 3) := by decide +kernel
theorem dX2_takeTokens_107 : decode cX2_takeTokens 107 = .ok (.iconst 0, 1) := by decide +kernel
theorem dX2_takeTokens_108 : decode cX2_takeTokens 108 = .ok (.invokevirtual 88, 3) := by decide +kernel
theorem dX2_takeTokens_111 : decode cX2_takeTokens 111 = .ok (.return_, 1) := by decide +kernel
theorem dX2_takeNumber_0 : decode cX2_takeNumber 0 = .ok (.iconst 0, 1) := by decide +kernel
theorem dX2_takeNumber_1 : decode cX2_takeNumber 1 = .ok (.istore_n 2, 1) := by decide +kernel
theorem dX2_takeNumber_2 : decode cX2_takeNumber 2 = .ok (.iload_n 1, 1) := by decide +kernel
theorem dX2_takeNumber_3 : decode cX2_takeNumber 3 = .ok (.istore_n 3, 1) := by decide +kernel
theorem dX2_takeNumber_4 : decode cX2_takeNumber 4 = .ok (.iload_n 3, 1) := by decide +kernel
theorem dX2_takeNumber_5 : decode cX2_takeNumber 5 = .ok (.aload_n 0, 1) := by decide +kernel
theorem dX2_takeNumber_6 : decode cX2_takeNumber 6 = .ok (.getfield 15, 3) := by decide +kernel
theorem dX2_takeNumber_9 : decode cX2_takeNumber 9 = .ok (.if_icmp .ge 40, 3) := by decide +kernel
theorem dX2_takeNumber_12 : decode cX2_takeNumber 12 = .ok (.aload_n 0, 1) := by decide +kernel
theorem dX2_takeNumber_13 : decode cX2_takeNumber 13 = .ok (.iload_n 3, 1) := by decide +kernel
theorem dX2_takeNumber_14 : decode cX2_takeNumber 14 = .ok (.invokevirtual 68, 3) := by decide +kernel
theorem dX2_takeNumber_17 : decode cX2_takeNumber 17 = .ok (.invokestatic 72, 3) := by decide +kernel
theorem dX2_takeNumber_20 : decode cX2_takeNumber 20 = .ok (.ifCond .eq 29, 3) := by decide +kernel
theorem dX2_takeNumber_23 : decode cX2_takeNumber 23 = .ok (.sipush 10000, 3) := by decide +kernel
theorem dX2_takeNumber_26 : decode cX2_takeNumber 26 = .ok (.iload_n 2, 1) := by decide +kernel
theorem dX2_takeNumber_27 : decode cX2_takeNumber 27 = .ok (.bipush 10, 2) := by decide +kernel
theorem dX2_takeNumber_29 : decode cX2_takeNumber 29 = .ok (.imul, 1) := by decide +kernel
theorem dX2_takeNumber_30 : decode cX2_takeNumber 30 = .ok (.aload_n 0, 1) := by decide +kernel
theorem dX2_takeNumber_31 : decode cX2_takeNumber 31 = .ok (.iload_n 3, 1) := by decide +kernel
theorem dX2_takeNumber_32 : decode cX2_takeNumber 32 = .ok (.invokevirtual 68, 3) := by decide +kernel
theorem dX2_takeNumber_35 : decode cX2_takeNumber 35 = .ok (.iadd, 1) := by decide +kernel
theorem dX2_takeNumber_36 : decode cX2_takeNumber 36 = .ok (.bipush 48, 2) := by decide +kernel
theorem dX2_takeNumber_38 : decode cX2_takeNumber 38 = .ok (.isub, 1) := by decide +kernel
theorem dX2_takeNumber_39 : decode cX2_takeNumber 39 = .ok (.invokestatic 92, 3) := by decide +kernel
theorem dX2_takeNumber_42 : decode cX2_takeNumber 42 = .ok (.istore_n 2, 1) := by decide +kernel
theorem dX2_takeNumber_43 : decode cX2_takeNumber 43 = .ok (.iinc 3 1, 3) := by decide +kernel
theorem dX2_takeNumber_46 : decode cX2_takeNumber 46 = .ok (.goto (-42), 3) := by decide +kernel
theorem dX2_takeNumber_49 : decode cX2_takeNumber 49 = .ok (.aload_n 0, 1) := by decide +kernel
theorem dX2_takeNumber_50 : decode cX2_takeNumber 50 = .ok (.iconst 1, 1) := by decide +kernel
theorem dX2_takeNumber_51 : decode cX2_takeNumber 51 = .ok (.iload_n 1, 1) := by decide +kernel
theorem dX2_takeNumber_52 : decode cX2_takeNumber 52 = .ok (.iload_n 2, 1) := by decide +kernel
theorem dX2_takeNumber_53 : decode cX2_takeNumber 53 = .ok (.invokevirtual 88, 3) := by decide +kernel
theorem dX2_takeNumber_56 : decode cX2_takeNumber 56 = .ok (.iload_n 3, 1) := by decide +kernel
theorem dX2_takeNumber_57 : decode cX2_takeNumber 57 = .ok (.ireturn, 1) := by decide +kernel
theorem dX2_takeWord_0 : decode cX2_takeWord 0 = .ok (.iload_n 1, 1) := by decide +kernel
theorem dX2_takeWord_1 : decode cX2_takeWord 1 = .ok (.istore_n 2, 1) := by decide +kernel
theorem dX2_takeWord_2 : decode cX2_takeWord 2 = .ok (.iload_n 2, 1) := by decide +kernel
theorem dX2_takeWord_3 : decode cX2_takeWord 3 = .ok (.aload_n 0, 1) := by decide +kernel
theorem dX2_takeWord_4 : decode cX2_takeWord 4 = .ok (.getfield 15, 3) := by decide +kernel
theorem dX2_takeWord_7 : decode cX2_takeWord 7 = .ok (.if_icmp .ge 20, 3) := by decide +kernel
theorem dX2_takeWord_10 : decode cX2_takeWord 10 = .ok (.aload_n 0, 1) := by decide +kernel
theorem dX2_takeWord_11 : decode cX2_takeWord 11 = .ok (.iload_n 2, 1) := by decide +kernel
theorem dX2_takeWord_12 : decode cX2_takeWord 12 = .ok (.invokevirtual 68, 3) := by decide +kernel
theorem dX2_takeWord_15 : decode cX2_takeWord 15 = .ok (.invokestatic 79, 3) := by decide +kernel
theorem dX2_takeWord_18 : decode cX2_takeWord 18 = .ok (.ifCond .eq 9, 3) := by decide +kernel
theorem dX2_takeWord_21 : decode cX2_takeWord 21 = .ok (.iinc 2 1, 3) := by decide +kernel
theorem dX2_takeWord_24 : decode cX2_takeWord 24 = .ok (.goto (-22), 3) := by decide +kernel
theorem dX2_takeWord_27 : decode cX2_takeWord 27 = .ok (.aload_n 0, 1) := by decide +kernel
theorem dX2_takeWord_28 : decode cX2_takeWord 28 = .ok (.iload_n 1, 1) := by decide +kernel
theorem dX2_takeWord_29 : decode cX2_takeWord 29 = .ok (.iload_n 2, 1) := by decide +kernel
theorem dX2_takeWord_30 : decode cX2_takeWord 30 = .ok (.invokevirtual 98, 3) := by decide +kernel
theorem dX2_takeWord_33 : decode cX2_takeWord 33 = .ok (.istore_n 3, 1) := by decide +kernel
theorem dX2_takeWord_34 : decode cX2_takeWord 34 = .ok (.aload_n 0, 1) := by decide +kernel
theorem dX2_takeWord_35 : decode cX2_takeWord 35 = .ok (.iconst 2, 1) := by decide +kernel
theorem dX2_takeWord_36 : decode cX2_takeWord 36 = .ok (.iload_n 1, 1) := by decide +kernel
theorem dX2_takeWord_37 : decode cX2_takeWord 37 = .ok (.iload_n 3, 1) := by decide +kernel
theorem dX2_takeWord_38 : decode cX2_takeWord 38 = .ok (.iconst (-1), 1) := by decide +kernel
theorem dX2_takeWord_39 : decode cX2_takeWord 39 = .ok (.if_icmp .ne 12, 3) := by decide +kernel
theorem dX2_takeWord_42 : decode cX2_takeWord 42 = .ok (.aload_n 0, 1) := by decide +kernel
theorem dX2_takeWord_43 : decode cX2_takeWord 43 = .ok (.iload_n 1, 1) := by decide +kernel
theorem dX2_takeWord_44 : decode cX2_takeWord 44 = .ok (.iload_n 2, 1) := by decide +kernel
theorem dX2_takeWord_45 : decode cX2_takeWord 45 = .ok (.invokevirtual 101, 3) := by decide +kernel
theorem dX2_takeWord_48 : decode cX2_takeWord 48 = .ok (.goto 4, 3) := by decide +kernel
theorem dX2_takeWord_51 : decode cX2_takeWord 51 = .ok (.iload_n 3, 1) := by decide +kernel
theorem dX2_takeWord_52 : decode cX2_takeWord 52 = .ok (.invokevirtual 88, 3) := by decide +kernel
theorem dX2_takeWord_55 : decode cX2_takeWord 55 = .ok (.iload_n 2, 1) := by decide +kernel
theorem dX2_takeWord_56 : decode cX2_takeWord 56 = .ok (.ireturn, 1) := by decide +kernel
theorem dX2_addToken_0 : decode cX2_addToken 0 = .ok (.aload_n 0, 1) := by decide +kernel
theorem dX2_addToken_1 : decode cX2_addToken 1 = .ok (.getfield 28, 3) := by decide +kernel
theorem dX2_addToken_4 : decode cX2_addToken 4 = .ok (.ifCond .lt 55, 3) := by decide +kernel
theorem dX2_addToken_7 : decode cX2_addToken 7 = .ok (.aload_n 0, 1) := by decide +kernel
theorem dX2_addToken_8 : decode cX2_addToken 8 = .ok (.getfield 28, 3) := by decide +kernel
theorem dX2_addToken_11 : decode cX2_addToken 11 = .ok (.aload_n 0, 1) := by decide +kernel
theorem dX2_addToken_12 : decode cX2_addToken 12 = .ok (.getfield 19, 3) := by decide +kernel
theorem dX2_addToken_15 : decode cX2_addToken 15 = .ok (.arraylength, 1) := by decide +kernel
theorem dX2_addToken_16 : decode cX2_addToken 16 = .ok (.if_icmp .ge 43, 3) := by decide +kernel
theorem dX2_addToken_19 : decode cX2_addToken 19 = .ok (.aload_n 0, 1) := by decide +kernel
theorem dX2_addToken_20 : decode cX2_addToken 20 = .ok (.getfield 19, 3) := by decide +kernel
theorem dX2_addToken_23 : decode cX2_addToken 23 = .ok (.aload_n 0, 1) := by decide +kernel
theorem dX2_addToken_24 : decode cX2_addToken 24 = .ok (.getfield 28, 3) := by decide +kernel
theorem dX2_addToken_27 : decode cX2_addToken 27 = .ok (.iload_n 1, 1) := by decide +kernel
theorem dX2_addToken_28 : decode cX2_addToken 28 = .ok (.iastore, 1) := by decide +kernel
theorem dX2_addToken_29 : decode cX2_addToken 29 = .ok (.aload_n 0, 1) := by decide +kernel
theorem dX2_addToken_30 : decode cX2_addToken 30 = .ok (.getfield 22, 3) := by decide +kernel
theorem dX2_addToken_33 : decode cX2_addToken 33 = .ok (.aload_n 0, 1) := by decide +kernel
theorem dX2_addToken_34 : decode cX2_addToken 34 = .ok (.getfield 28, 3) := by decide +kernel
theorem dX2_addToken_37 : decode cX2_addToken 37 = .ok (.iload_n 2, 1) := by decide +kernel
theorem dX2_addToken_38 : decode cX2_addToken 38 = .ok (.iastore, 1) := by decide +kernel
theorem dX2_addToken_39 : decode cX2_addToken 39 = .ok (.aload_n 0, 1) := by decide +kernel
theorem dX2_addToken_40 : decode cX2_addToken 40 = .ok (.getfield 25, 3) := by decide +kernel
theorem dX2_addToken_43 : decode cX2_addToken 43 = .ok (.aload_n 0, 1) := by decide +kernel
theorem dX2_addToken_44 : decode cX2_addToken 44 = .ok (.getfield 28, 3) := by decide +kernel
theorem dX2_addToken_47 : decode cX2_addToken 47 = .ok (.iload_n 3, 1) := by decide +kernel
theorem dX2_addToken_48 : decode cX2_addToken 48 = .ok (.iastore, 1) := by decide +kernel
theorem dX2_addToken_49 : decode cX2_addToken 49 = .ok (.aload_n 0, 1) := by decide +kernel
theorem dX2_addToken_50 : decode cX2_addToken 50 = .ok (.dup, 1) := by decide +kernel
theorem dX2_addToken_51 : decode cX2_addToken 51 = .ok (.getfield 28, 3) := by decide +kernel
theorem dX2_addToken_54 : decode cX2_addToken 54 = .ok (.iconst 1, 1) := by decide +kernel
theorem dX2_addToken_55 : decode cX2_addToken 55 = .ok (.iadd, 1) := by decide +kernel
theorem dX2_addToken_56 : decode cX2_addToken 56 = .ok (.putfield 28, 3) := by decide +kernel
theorem dX2_addToken_59 : decode cX2_addToken 59 = .ok (.return_, 1) := by decide +kernel
theorem dX2_clauseWord_0 : decode cX2_clauseWord 0 = .ok (.aload_n 0, 1) := by decide +kernel
theorem dX2_clauseWord_1 : decode cX2_clauseWord 1 = .ok (.ldc 104, 2) := by decide +kernel
theorem dX2_clauseWord_3 : decode cX2_clauseWord 3 = .ok (.iload_n 1, 1) := by decide +kernel
theorem dX2_clauseWord_4 : decode cX2_clauseWord 4 = .ok (.iload_n 2, 1) := by decide +kernel
theorem dX2_clauseWord_5 : decode cX2_clauseWord 5 = .ok (.invokevirtual 106, 3) := by decide +kernel
theorem dX2_clauseWord_8 : decode cX2_clauseWord 8 = .ok (.ifCond .eq 5, 3) := by decide +kernel
theorem dX2_clauseWord_11 : decode cX2_clauseWord 11 = .ok (.iconst 0, 1) := by decide +kernel
theorem dX2_clauseWord_12 : decode cX2_clauseWord 12 = .ok (.ireturn, 1) := by decide +kernel
theorem dX2_clauseWord_13 : decode cX2_clauseWord 13 = .ok (.aload_n 0, 1) := by decide +kernel
theorem dX2_clauseWord_14 : decode cX2_clauseWord 14 = .ok (.ldc 110, 2) := by decide +kernel
theorem dX2_clauseWord_16 : decode cX2_clauseWord 16 = .ok (.iload_n 1, 1) := by decide +kernel
theorem dX2_clauseWord_17 : decode cX2_clauseWord 17 = .ok (.iload_n 2, 1) := by decide +kernel
theorem dX2_clauseWord_18 : decode cX2_clauseWord 18 = .ok (.invokevirtual 106, 3) := by decide +kernel
theorem dX2_clauseWord_21 : decode cX2_clauseWord 21 = .ok (.ifCond .eq 5, 3) := by decide +kernel
theorem dX2_clauseWord_24 : decode cX2_clauseWord 24 = .ok (.iconst 1, 1) := by decide +kernel
theorem dX2_clauseWord_25 : decode cX2_clauseWord 25 = .ok (.ireturn, 1) := by decide +kernel
theorem dX2_clauseWord_26 : decode cX2_clauseWord 26 = .ok (.aload_n 0, 1) := by decide +kernel
theorem dX2_clauseWord_27 : decode cX2_clauseWord 27 = .ok (.ldc 112, 2) := by decide +kernel
theorem dX2_clauseWord_29 : decode cX2_clauseWord 29 = .ok (.iload_n 1, 1) := by decide +kernel
theorem dX2_clauseWord_30 : decode cX2_clauseWord 30 = .ok (.iload_n 2, 1) := by decide +kernel
theorem dX2_clauseWord_31 : decode cX2_clauseWord 31 = .ok (.invokevirtual 106, 3) := by decide +kernel
theorem dX2_clauseWord_34 : decode cX2_clauseWord 34 = .ok (.ifCond .eq 5, 3) := by decide +kernel
theorem dX2_clauseWord_37 : decode cX2_clauseWord 37 = .ok (.iconst 2, 1) := by decide +kernel
theorem dX2_clauseWord_38 : decode cX2_clauseWord 38 = .ok (.ireturn, 1) := by decide +kernel
theorem dX2_clauseWord_39 : decode cX2_clauseWord 39 = .ok (.aload_n 0, 1) := by decide +kernel
theorem dX2_clauseWord_40 : decode cX2_clauseWord 40 = .ok (.ldc 114, 2) := by decide +kernel
theorem dX2_clauseWord_42 : decode cX2_clauseWord 42 = .ok (.iload_n 1, 1) := by decide +kernel
theorem dX2_clauseWord_43 : decode cX2_clauseWord 43 = .ok (.iload_n 2, 1) := by decide +kernel
theorem dX2_clauseWord_44 : decode cX2_clauseWord 44 = .ok (.invokevirtual 106, 3) := by decide +kernel
theorem dX2_clauseWord_47 : decode cX2_clauseWord 47 = .ok (.ifCond .eq 5, 3) := by decide +kernel
theorem dX2_clauseWord_50 : decode cX2_clauseWord 50 = .ok (.iconst 3, 1) := by decide +kernel
theorem dX2_clauseWord_51 : decode cX2_clauseWord 51 = .ok (.ireturn, 1) := by decide +kernel
theorem dX2_clauseWord_52 : decode cX2_clauseWord 52 = .ok (.aload_n 0, 1) := by decide +kernel
theorem dX2_clauseWord_53 : decode cX2_clauseWord 53 = .ok (.ldc 116, 2) := by decide +kernel
theorem dX2_clauseWord_55 : decode cX2_clauseWord 55 = .ok (.iload_n 1, 1) := by decide +kernel
theorem dX2_clauseWord_56 : decode cX2_clauseWord 56 = .ok (.iload_n 2, 1) := by decide +kernel
theorem dX2_clauseWord_57 : decode cX2_clauseWord 57 = .ok (.invokevirtual 106, 3) := by decide +kernel
theorem dX2_clauseWord_60 : decode cX2_clauseWord 60 = .ok (.ifCond .eq 5, 3) := by decide +kernel
theorem dX2_clauseWord_63 : decode cX2_clauseWord 63 = .ok (.iconst 4, 1) := by decide +kernel
theorem dX2_clauseWord_64 : decode cX2_clauseWord 64 = .ok (.ireturn, 1) := by decide +kernel
theorem dX2_clauseWord_65 : decode cX2_clauseWord 65 = .ok (.aload_n 0, 1) := by decide +kernel
theorem dX2_clauseWord_66 : decode cX2_clauseWord 66 = .ok (.ldc 118, 2) := by decide +kernel
theorem dX2_clauseWord_68 : decode cX2_clauseWord 68 = .ok (.iload_n 1, 1) := by decide +kernel
theorem dX2_clauseWord_69 : decode cX2_clauseWord 69 = .ok (.iload_n 2, 1) := by decide +kernel
theorem dX2_clauseWord_70 : decode cX2_clauseWord 70 = .ok (.invokevirtual 106, 3) := by decide +kernel
theorem dX2_clauseWord_73 : decode cX2_clauseWord 73 = .ok (.ifCond .eq 5, 3) := by decide +kernel
theorem dX2_clauseWord_76 : decode cX2_clauseWord 76 = .ok (.iconst 5, 1) := by decide +kernel
theorem dX2_clauseWord_77 : decode cX2_clauseWord 77 = .ok (.ireturn, 1) := by decide +kernel
theorem dX2_clauseWord_78 : decode cX2_clauseWord 78 = .ok (.aload_n 0, 1) := by decide +kernel
theorem dX2_clauseWord_79 : decode cX2_clauseWord 79 = .ok (.ldc 120, 2) := by decide +kernel
theorem dX2_clauseWord_81 : decode cX2_clauseWord 81 = .ok (.iload_n 1, 1) := by decide +kernel
theorem dX2_clauseWord_82 : decode cX2_clauseWord 82 = .ok (.iload_n 2, 1) := by decide +kernel
theorem dX2_clauseWord_83 : decode cX2_clauseWord 83 = .ok (.invokevirtual 106, 3) := by decide +kernel
theorem dX2_clauseWord_86 : decode cX2_clauseWord 86 = .ok (.ifCond .eq 6, 3) := by decide +kernel
theorem dX2_clauseWord_89 : decode cX2_clauseWord 89 = .ok (.bipush 6, 2) := by decide +kernel
theorem dX2_clauseWord_91 : decode cX2_clauseWord 91 = .ok (.ireturn, 1) := by decide +kernel
theorem dX2_clauseWord_92 : decode cX2_clauseWord 92 = .ok (.aload_n 0, 1) := by decide +kernel
theorem dX2_clauseWord_93 : decode cX2_clauseWord 93 = .ok (.ldc 122, 2) := by decide +kernel
theorem dX2_clauseWord_95 : decode cX2_clauseWord 95 = .ok (.iload_n 1, 1) := by decide +kernel
theorem dX2_clauseWord_96 : decode cX2_clauseWord 96 = .ok (.iload_n 2, 1) := by decide +kernel
theorem dX2_clauseWord_97 : decode cX2_clauseWord 97 = .ok (.invokevirtual 106, 3) := by decide +kernel
theorem dX2_clauseWord_100 : decode cX2_clauseWord 100 = .ok (.ifCond .eq 6, 3) := by decide +kernel
theorem dX2_clauseWord_103 : decode cX2_clauseWord 103 = .ok (.bipush 7, 2) := by decide +kernel
theorem dX2_clauseWord_105 : decode cX2_clauseWord 105 = .ok (.ireturn, 1) := by decide +kernel
theorem dX2_clauseWord_106 : decode cX2_clauseWord 106 = .ok (.aload_n 0, 1) := by decide +kernel
theorem dX2_clauseWord_107 : decode cX2_clauseWord 107 = .ok (.ldc 124, 2) := by decide +kernel
theorem dX2_clauseWord_109 : decode cX2_clauseWord 109 = .ok (.iload_n 1, 1) := by decide +kernel
theorem dX2_clauseWord_110 : decode cX2_clauseWord 110 = .ok (.iload_n 2, 1) := by decide +kernel
theorem dX2_clauseWord_111 : decode cX2_clauseWord 111 = .ok (.invokevirtual 106, 3) := by decide +kernel
theorem dX2_clauseWord_114 : decode cX2_clauseWord 114 = .ok (.ifCond .eq 6, 3) := by decide +kernel
theorem dX2_clauseWord_117 : decode cX2_clauseWord 117 = .ok (.bipush 8, 2) := by decide +kernel
theorem dX2_clauseWord_119 : decode cX2_clauseWord 119 = .ok (.ireturn, 1) := by decide +kernel
theorem dX2_clauseWord_120 : decode cX2_clauseWord 120 = .ok (.aload_n 0, 1) := by decide +kernel
theorem dX2_clauseWord_121 : decode cX2_clauseWord 121 = .ok (.ldc 126, 2) := by decide +kernel
theorem dX2_clauseWord_123 : decode cX2_clauseWord 123 = .ok (.iload_n 1, 1) := by decide +kernel
theorem dX2_clauseWord_124 : decode cX2_clauseWord 124 = .ok (.iload_n 2, 1) := by decide +kernel
theorem dX2_clauseWord_125 : decode cX2_clauseWord 125 = .ok (.invokevirtual 106, 3) := by decide +kernel
theorem dX2_clauseWord_128 : decode cX2_clauseWord 128 = .ok (.ifCond .eq 8, 3) := by decide +kernel
theorem dX2_clauseWord_131 : decode cX2_clauseWord 131 = .ok (.bipush 9, 2) := by decide +kernel
theorem dX2_clauseWord_133 : decode cX2_clauseWord 133 = .ok (.goto 4, 3) := by decide +kernel
theorem dX2_clauseWord_136 : decode cX2_clauseWord 136 = .ok (.iconst (-1), 1) := by decide +kernel
theorem dX2_clauseWord_137 : decode cX2_clauseWord 137 = .ok (.ireturn, 1) := by decide +kernel
theorem dX2_nameWord_0 : decode cX2_nameWord 0 = .ok (.aload_n 0, 1) := by decide +kernel
theorem dX2_nameWord_1 : decode cX2_nameWord 1 = .ok (.ldc 128, 2) := by decide +kernel
theorem dX2_nameWord_3 : decode cX2_nameWord 3 = .ok (.iload_n 1, 1) := by decide +kernel
theorem dX2_nameWord_4 : decode cX2_nameWord 4 = .ok (.iload_n 2, 1) := by decide +kernel
theorem dX2_nameWord_5 : decode cX2_nameWord 5 = .ok (.invokevirtual 106, 3) := by decide +kernel
theorem dX2_nameWord_8 : decode cX2_nameWord 8 = .ok (.ifCond .eq 6, 3) := by decide +kernel
theorem dX2_nameWord_11 : decode cX2_nameWord 11 = .ok (.bipush 10, 2) := by decide +kernel
theorem dX2_nameWord_13 : decode cX2_nameWord 13 = .ok (.ireturn, 1) := by decide +kernel
theorem dX2_nameWord_14 : decode cX2_nameWord 14 = .ok (.aload_n 0, 1) := by decide +kernel
theorem dX2_nameWord_15 : decode cX2_nameWord 15 = .ok (.ldc 130, 2) := by decide +kernel
theorem dX2_nameWord_17 : decode cX2_nameWord 17 = .ok (.iload_n 1, 1) := by decide +kernel
theorem dX2_nameWord_18 : decode cX2_nameWord 18 = .ok (.iload_n 2, 1) := by decide +kernel
theorem dX2_nameWord_19 : decode cX2_nameWord 19 = .ok (.invokevirtual 106, 3) := by decide +kernel
theorem dX2_nameWord_22 : decode cX2_nameWord 22 = .ok (.ifCond .eq 6, 3) := by decide +kernel
theorem dX2_nameWord_25 : decode cX2_nameWord 25 = .ok (.bipush 11, 2) := by decide +kernel
theorem dX2_nameWord_27 : decode cX2_nameWord 27 = .ok (.ireturn, 1) := by decide +kernel
theorem dX2_nameWord_28 : decode cX2_nameWord 28 = .ok (.aload_n 0, 1) := by decide +kernel
theorem dX2_nameWord_29 : decode cX2_nameWord 29 = .ok (.ldc 132, 2) := by decide +kernel
theorem dX2_nameWord_31 : decode cX2_nameWord 31 = .ok (.iload_n 1, 1) := by decide +kernel
theorem dX2_nameWord_32 : decode cX2_nameWord 32 = .ok (.iload_n 2, 1) := by decide +kernel
theorem dX2_nameWord_33 : decode cX2_nameWord 33 = .ok (.invokevirtual 106, 3) := by decide +kernel
theorem dX2_nameWord_36 : decode cX2_nameWord 36 = .ok (.ifCond .eq 6, 3) := by decide +kernel
theorem dX2_nameWord_39 : decode cX2_nameWord 39 = .ok (.bipush 12, 2) := by decide +kernel
theorem dX2_nameWord_41 : decode cX2_nameWord 41 = .ok (.ireturn, 1) := by decide +kernel
theorem dX2_nameWord_42 : decode cX2_nameWord 42 = .ok (.aload_n 0, 1) := by decide +kernel
theorem dX2_nameWord_43 : decode cX2_nameWord 43 = .ok (.ldc 134, 2) := by decide +kernel
theorem dX2_nameWord_45 : decode cX2_nameWord 45 = .ok (.iload_n 1, 1) := by decide +kernel
theorem dX2_nameWord_46 : decode cX2_nameWord 46 = .ok (.iload_n 2, 1) := by decide +kernel
theorem dX2_nameWord_47 : decode cX2_nameWord 47 = .ok (.invokevirtual 106, 3) := by decide +kernel
theorem dX2_nameWord_50 : decode cX2_nameWord 50 = .ok (.ifCond .eq 6, 3) := by decide +kernel
theorem dX2_nameWord_53 : decode cX2_nameWord 53 = .ok (.bipush 13, 2) := by decide +kernel
theorem dX2_nameWord_55 : decode cX2_nameWord 55 = .ok (.ireturn, 1) := by decide +kernel
theorem dX2_nameWord_56 : decode cX2_nameWord 56 = .ok (.aload_n 0, 1) := by decide +kernel
theorem dX2_nameWord_57 : decode cX2_nameWord 57 = .ok (.ldc 136, 2) := by decide +kernel
theorem dX2_nameWord_59 : decode cX2_nameWord 59 = .ok (.iload_n 1, 1) := by decide +kernel
theorem dX2_nameWord_60 : decode cX2_nameWord 60 = .ok (.iload_n 2, 1) := by decide +kernel
theorem dX2_nameWord_61 : decode cX2_nameWord 61 = .ok (.invokevirtual 106, 3) := by decide +kernel
theorem dX2_nameWord_64 : decode cX2_nameWord 64 = .ok (.ifCond .eq 6, 3) := by decide +kernel
theorem dX2_nameWord_67 : decode cX2_nameWord 67 = .ok (.bipush 14, 2) := by decide +kernel
theorem dX2_nameWord_69 : decode cX2_nameWord 69 = .ok (.ireturn, 1) := by decide +kernel
theorem dX2_nameWord_70 : decode cX2_nameWord 70 = .ok (.aload_n 0, 1) := by decide +kernel
theorem dX2_nameWord_71 : decode cX2_nameWord 71 = .ok (.ldc 137, 2) := by decide +kernel
theorem dX2_nameWord_73 : decode cX2_nameWord 73 = .ok (.iload_n 1, 1) := by decide +kernel
theorem dX2_nameWord_74 : decode cX2_nameWord 74 = .ok (.iload_n 2, 1) := by decide +kernel
theorem dX2_nameWord_75 : decode cX2_nameWord 75 = .ok (.invokevirtual 106, 3) := by decide +kernel
theorem dX2_nameWord_78 : decode cX2_nameWord 78 = .ok (.ifCond .eq 6, 3) := by decide +kernel
theorem dX2_nameWord_81 : decode cX2_nameWord 81 = .ok (.bipush 15, 2) := by decide +kernel
theorem dX2_nameWord_83 : decode cX2_nameWord 83 = .ok (.ireturn, 1) := by decide +kernel
theorem dX2_nameWord_84 : decode cX2_nameWord 84 = .ok (.aload_n 0, 1) := by decide +kernel
theorem dX2_nameWord_85 : decode cX2_nameWord 85 = .ok (.ldc 139, 2) := by decide +kernel
theorem dX2_nameWord_87 : decode cX2_nameWord 87 = .ok (.iload_n 1, 1) := by decide +kernel
theorem dX2_nameWord_88 : decode cX2_nameWord 88 = .ok (.iload_n 2, 1) := by decide +kernel
theorem dX2_nameWord_89 : decode cX2_nameWord 89 = .ok (.invokevirtual 106, 3) := by decide +kernel
theorem dX2_nameWord_92 : decode cX2_nameWord 92 = .ok (.ifCond .eq 6, 3) := by decide +kernel
theorem dX2_nameWord_95 : decode cX2_nameWord 95 = .ok (.bipush 16, 2) := by decide +kernel
theorem dX2_nameWord_97 : decode cX2_nameWord 97 = .ok (.ireturn, 1) := by decide +kernel
theorem dX2_nameWord_98 : decode cX2_nameWord 98 = .ok (.aload_n 0, 1) := by decide +kernel
theorem dX2_nameWord_99 : decode cX2_nameWord 99 = .ok (.ldc 141, 2) := by decide +kernel
theorem dX2_nameWord_101 : decode cX2_nameWord 101 = .ok (.iload_n 1, 1) := by decide +kernel
theorem dX2_nameWord_102 : decode cX2_nameWord 102 = .ok (.iload_n 2, 1) := by decide +kernel
theorem dX2_nameWord_103 : decode cX2_nameWord 103 = .ok (.invokevirtual 106, 3) := by decide +kernel
theorem dX2_nameWord_106 : decode cX2_nameWord 106 = .ok (.ifCond .eq 8, 3) := by decide +kernel
theorem dX2_nameWord_109 : decode cX2_nameWord 109 = .ok (.bipush 17, 2) := by decide +kernel
theorem dX2_nameWord_111 : decode cX2_nameWord 111 = .ok (.goto 4, 3) := by decide +kernel
theorem dX2_nameWord_114 : decode cX2_nameWord 114 = .ok (.iconst (-1), 1) := by decide +kernel
theorem dX2_nameWord_115 : decode cX2_nameWord 115 = .ok (.ireturn, 1) := by decide +kernel
theorem dX2_isWord_0 : decode cX2_isWord 0 = .ok (.aload_n 1, 1) := by decide +kernel
theorem dX2_isWord_1 : decode cX2_isWord 1 = .ok (.ifnull 13, 3) := by decide +kernel
theorem dX2_isWord_4 : decode cX2_isWord 4 = .ok (.aload_n 1, 1) := by decide +kernel
theorem dX2_isWord_5 : decode cX2_isWord 5 = .ok (.invokevirtual 143, 3) := by decide +kernel
theorem dX2_isWord_8 : decode cX2_isWord 8 = .ok (.iload_n 3, 1) := by decide +kernel
theorem dX2_isWord_9 : decode cX2_isWord 9 = .ok (.iload_n 2, 1) := by decide +kernel
theorem dX2_isWord_10 : decode cX2_isWord 10 = .ok (.isub, 1) := by decide +kernel
theorem dX2_isWord_11 : decode cX2_isWord 11 = .ok (.if_icmp .eq 5, 3) := by decide +kernel
theorem dX2_isWord_14 : decode cX2_isWord 14 = .ok (.iconst 0, 1) := by decide +kernel
theorem dX2_isWord_15 : decode cX2_isWord 15 = .ok (.ireturn, 1) := by decide +kernel
theorem dX2_isWord_16 : decode cX2_isWord 16 = .ok (.iconst 0, 1) := by decide +kernel
theorem dX2_isWord_17 : decode cX2_isWord 17 = .ok (.istore 4, 2) := by decide +kernel
theorem dX2_isWord_19 : decode cX2_isWord 19 = .ok (.iload 4, 2) := by decide +kernel
theorem dX2_isWord_21 : decode cX2_isWord 21 = .ok (.aload_n 1, 1) := by decide +kernel
theorem dX2_isWord_22 : decode cX2_isWord 22 = .ok (.invokevirtual 143, 3) := by decide +kernel
theorem dX2_isWord_25 : decode cX2_isWord 25 = .ok (.if_icmp .ge 28, 3) := by decide +kernel
theorem dX2_isWord_28 : decode cX2_isWord 28 = .ok (.aload_n 0, 1) := by decide +kernel
theorem dX2_isWord_29 : decode cX2_isWord 29 = .ok (.iload_n 2, 1) := by decide +kernel
theorem dX2_isWord_30 : decode cX2_isWord 30 = .ok (.iload 4, 2) := by decide +kernel
theorem dX2_isWord_32 : decode cX2_isWord 32 = .ok (.iadd, 1) := by decide +kernel
theorem dX2_isWord_33 : decode cX2_isWord 33 = .ok (.invokevirtual 68, 3) := by decide +kernel
theorem dX2_isWord_36 : decode cX2_isWord 36 = .ok (.aload_n 1, 1) := by decide +kernel
theorem dX2_isWord_37 : decode cX2_isWord 37 = .ok (.iload 4, 2) := by decide +kernel
theorem dX2_isWord_39 : decode cX2_isWord 39 = .ok (.invokevirtual 148, 3) := by decide +kernel
theorem dX2_isWord_42 : decode cX2_isWord 42 = .ok (.if_icmp .eq 5, 3) := by decide +kernel
theorem dX2_isWord_45 : decode cX2_isWord 45 = .ok (.iconst 0, 1) := by decide +kernel
theorem dX2_isWord_46 : decode cX2_isWord 46 = .ok (.ireturn, 1) := by decide +kernel
theorem dX2_isWord_47 : decode cX2_isWord 47 = .ok (.iinc 4 1, 3) := by decide +kernel
theorem dX2_isWord_50 : decode cX2_isWord 50 = .ok (.goto (-31), 3) := by decide +kernel
theorem dX2_isWord_53 : decode cX2_isWord 53 = .ok (.iconst 1, 1) := by decide +kernel
theorem dX2_isWord_54 : decode cX2_isWord 54 = .ok (.ireturn, 1) := by decide +kernel
theorem dX2_byteAt_0 : decode cX2_byteAt 0 = .ok (.iload_n 1, 1) := by decide +kernel
theorem dX2_byteAt_1 : decode cX2_byteAt 1 = .ok (.ifCond .lt 29, 3) := by decide +kernel
theorem dX2_byteAt_4 : decode cX2_byteAt 4 = .ok (.iload_n 1, 1) := by decide +kernel
theorem dX2_byteAt_5 : decode cX2_byteAt 5 = .ok (.aload_n 0, 1) := by decide +kernel
theorem dX2_byteAt_6 : decode cX2_byteAt 6 = .ok (.getfield 15, 3) := by decide +kernel
theorem dX2_byteAt_9 : decode cX2_byteAt 9 = .ok (.if_icmp .ge 21, 3) := by decide +kernel
theorem dX2_byteAt_12 : decode cX2_byteAt 12 = .ok (.iload_n 1, 1) := by decide +kernel
theorem dX2_byteAt_13 : decode cX2_byteAt 13 = .ok (.aload_n 0, 1) := by decide +kernel
theorem dX2_byteAt_14 : decode cX2_byteAt 14 = .ok (.getfield 9, 3) := by decide +kernel
theorem dX2_byteAt_17 : decode cX2_byteAt 17 = .ok (.arraylength, 1) := by decide +kernel
theorem dX2_byteAt_18 : decode cX2_byteAt 18 = .ok (.if_icmp .ge 12, 3) := by decide +kernel
theorem dX2_byteAt_21 : decode cX2_byteAt 21 = .ok (.aload_n 0, 1) := by decide +kernel
theorem dX2_byteAt_22 : decode cX2_byteAt 22 = .ok (.getfield 9, 3) := by decide +kernel
theorem dX2_byteAt_25 : decode cX2_byteAt 25 = .ok (.iload_n 1, 1) := by decide +kernel
theorem dX2_byteAt_26 : decode cX2_byteAt 26 = .ok (.iaload, 1) := by decide +kernel
theorem dX2_byteAt_27 : decode cX2_byteAt 27 = .ok (.goto 4, 3) := by decide +kernel
theorem dX2_byteAt_30 : decode cX2_byteAt 30 = .ok (.iconst (-1), 1) := by decide +kernel
theorem dX2_byteAt_31 : decode cX2_byteAt 31 = .ok (.ireturn, 1) := by decide +kernel
theorem dX2_isDigit_0 : decode cX2_isDigit 0 = .ok (.iload_n 0, 1) := by decide +kernel
theorem dX2_isDigit_1 : decode cX2_isDigit 1 = .ok (.bipush 48, 2) := by decide +kernel
theorem dX2_isDigit_3 : decode cX2_isDigit 3 = .ok (.if_icmp .lt 13, 3) := by decide +kernel
theorem dX2_isDigit_6 : decode cX2_isDigit 6 = .ok (.iload_n 0, 1) := by decide +kernel
theorem dX2_isDigit_7 : decode cX2_isDigit 7 = .ok (.bipush 57, 2) := by decide +kernel
theorem dX2_isDigit_9 : decode cX2_isDigit 9 = .ok (.if_icmp .gt 7, 3) := by decide +kernel
theorem dX2_isDigit_12 : decode cX2_isDigit 12 = .ok (.iconst 1, 1) := by decide +kernel
theorem dX2_isDigit_13 : decode cX2_isDigit 13 = .ok (.goto 4, 3) := by decide +kernel
theorem dX2_isDigit_16 : decode cX2_isDigit 16 = .ok (.iconst 0, 1) := by decide +kernel
theorem dX2_isDigit_17 : decode cX2_isDigit 17 = .ok (.ireturn, 1) := by decide +kernel
theorem dX2_isLetter_0 : decode cX2_isLetter 0 = .ok (.iload_n 0, 1) := by decide +kernel
theorem dX2_isLetter_1 : decode cX2_isLetter 1 = .ok (.bipush 97, 2) := by decide +kernel
theorem dX2_isLetter_3 : decode cX2_isLetter 3 = .ok (.if_icmp .lt 9, 3) := by decide +kernel
theorem dX2_isLetter_6 : decode cX2_isLetter 6 = .ok (.iload_n 0, 1) := by decide +kernel
theorem dX2_isLetter_7 : decode cX2_isLetter 7 = .ok (.bipush 122, 2) := by decide +kernel
theorem dX2_isLetter_9 : decode cX2_isLetter 9 = .ok (.if_icmp .le 15, 3) := by decide +kernel
theorem dX2_isLetter_12 : decode cX2_isLetter 12 = .ok (.iload_n 0, 1) := by decide +kernel
theorem dX2_isLetter_13 : decode cX2_isLetter 13 = .ok (.bipush 65, 2) := by decide +kernel
theorem dX2_isLetter_15 : decode cX2_isLetter 15 = .ok (.if_icmp .lt 13, 3) := by decide +kernel
theorem dX2_isLetter_18 : decode cX2_isLetter 18 = .ok (.iload_n 0, 1) := by decide +kernel
theorem dX2_isLetter_19 : decode cX2_isLetter 19 = .ok (.bipush 90, 2) := by decide +kernel
theorem dX2_isLetter_21 : decode cX2_isLetter 21 = .ok (.if_icmp .gt 7, 3) := by decide +kernel
theorem dX2_isLetter_24 : decode cX2_isLetter 24 = .ok (.iconst 1, 1) := by decide +kernel
theorem dX2_isLetter_25 : decode cX2_isLetter 25 = .ok (.goto 4, 3) := by decide +kernel
theorem dX2_isLetter_28 : decode cX2_isLetter 28 = .ok (.iconst 0, 1) := by decide +kernel
theorem dX2_isLetter_29 : decode cX2_isLetter 29 = .ok (.ireturn, 1) := by decide +kernel
theorem dX2_isSign_0 : decode cX2_isSign 0 = .ok (.iload_n 0, 1) := by decide +kernel
theorem dX2_isSign_1 : decode cX2_isSign 1 = .ok (.bipush 43, 2) := by decide +kernel
theorem dX2_isSign_3 : decode cX2_isSign 3 = .ok (.if_icmp .eq 39, 3) := by decide +kernel
theorem dX2_isSign_6 : decode cX2_isSign 6 = .ok (.iload_n 0, 1) := by decide +kernel
theorem dX2_isSign_7 : decode cX2_isSign 7 = .ok (.bipush 45, 2) := by decide +kernel
theorem dX2_isSign_9 : decode cX2_isSign 9 = .ok (.if_icmp .eq 33, 3) := by decide +kernel
theorem dX2_isSign_12 : decode cX2_isSign 12 = .ok (.iload_n 0, 1) := by decide +kernel
theorem dX2_isSign_13 : decode cX2_isSign 13 = .ok (.bipush 42, 2) := by decide +kernel
theorem dX2_isSign_15 : decode cX2_isSign 15 = .ok (.if_icmp .eq 27, 3) := by decide +kernel
theorem dX2_isSign_18 : decode cX2_isSign 18 = .ok (.iload_n 0, 1) := by decide +kernel
theorem dX2_isSign_19 : decode cX2_isSign 19 = .ok (.bipush 47, 2) := by decide +kernel
theorem dX2_isSign_21 : decode cX2_isSign 21 = .ok (.if_icmp .eq 21, 3) := by decide +kernel
theorem dX2_isSign_24 : decode cX2_isSign 24 = .ok (.iload_n 0, 1) := by decide +kernel
theorem dX2_isSign_25 : decode cX2_isSign 25 = .ok (.bipush 40, 2) := by decide +kernel
theorem dX2_isSign_27 : decode cX2_isSign 27 = .ok (.if_icmp .eq 15, 3) := by decide +kernel
theorem dX2_isSign_30 : decode cX2_isSign 30 = .ok (.iload_n 0, 1) := by decide +kernel
theorem dX2_isSign_31 : decode cX2_isSign 31 = .ok (.bipush 41, 2) := by decide +kernel
theorem dX2_isSign_33 : decode cX2_isSign 33 = .ok (.if_icmp .eq 9, 3) := by decide +kernel
theorem dX2_isSign_36 : decode cX2_isSign 36 = .ok (.iload_n 0, 1) := by decide +kernel
theorem dX2_isSign_37 : decode cX2_isSign 37 = .ok (.bipush 59, 2) := by decide +kernel
theorem dX2_isSign_39 : decode cX2_isSign 39 = .ok (.if_icmp .ne 7, 3) := by decide +kernel
theorem dX2_isSign_42 : decode cX2_isSign 42 = .ok (.iconst 1, 1) := by decide +kernel
theorem dX2_isSign_43 : decode cX2_isSign 43 = .ok (.goto 4, 3) := by decide +kernel
theorem dX2_isSign_46 : decode cX2_isSign 46 = .ok (.iconst 0, 1) := by decide +kernel
theorem dX2_isSign_47 : decode cX2_isSign 47 = .ok (.ireturn, 1) := by decide +kernel
theorem dX2_advance_0 : decode cX2_advance 0 = .ok (.aload_n 0, 1) := by decide +kernel
theorem dX2_advance_1 : decode cX2_advance 1 = .ok (.dup, 1) := by decide +kernel
theorem dX2_advance_2 : decode cX2_advance 2 = .ok (.getfield 31, 3) := by decide +kernel
theorem dX2_advance_5 : decode cX2_advance 5 = .ok (.iconst 1, 1) := by decide +kernel
theorem dX2_advance_6 : decode cX2_advance 6 = .ok (.iadd, 1) := by decide +kernel
theorem dX2_advance_7 : decode cX2_advance 7 = .ok (.putfield 31, 3) := by decide +kernel
theorem dX2_advance_10 : decode cX2_advance 10 = .ok (.aload_n 0, 1) := by decide +kernel
theorem dX2_advance_11 : decode cX2_advance 11 = .ok (.getfield 31, 3) := by decide +kernel
theorem dX2_advance_14 : decode cX2_advance 14 = .ok (.ifCond .lt 30, 3) := by decide +kernel
theorem dX2_advance_17 : decode cX2_advance 17 = .ok (.aload_n 0, 1) := by decide +kernel
theorem dX2_advance_18 : decode cX2_advance 18 = .ok (.getfield 31, 3) := by decide +kernel
theorem dX2_advance_21 : decode cX2_advance 21 = .ok (.aload_n 0, 1) := by decide +kernel
theorem dX2_advance_22 : decode cX2_advance 22 = .ok (.getfield 28, 3) := by decide +kernel
theorem dX2_advance_25 : decode cX2_advance 25 = .ok (.if_icmp .ge 19, 3) := by decide +kernel
theorem dX2_advance_28 : decode cX2_advance 28 = .ok (.aload_n 0, 1) := by decide +kernel
theorem dX2_advance_29 : decode cX2_advance 29 = .ok (.getfield 31, 3) := by decide +kernel
theorem dX2_advance_32 : decode cX2_advance 32 = .ok (.aload_n 0, 1) := by decide +kernel
theorem dX2_advance_33 : decode cX2_advance 33 = .ok (.getfield 19, 3) := by decide +kernel
theorem dX2_advance_36 : decode cX2_advance 36 = .ok (.arraylength, 1) := by decide +kernel
theorem dX2_advance_37 : decode cX2_advance 37 = .ok (.if_icmp .ge 7, 3) := by decide +kernel
theorem dX2_advance_40 : decode cX2_advance 40 = .ok (.iconst 1, 1) := by decide +kernel
theorem dX2_advance_41 : decode cX2_advance 41 = .ok (.goto 4, 3) := by decide +kernel
theorem dX2_advance_44 : decode cX2_advance 44 = .ok (.iconst 0, 1) := by decide +kernel
theorem dX2_advance_45 : decode cX2_advance 45 = .ok (.istore_n 1, 1) := by decide +kernel
theorem dX2_advance_46 : decode cX2_advance 46 = .ok (.aload_n 0, 1) := by decide +kernel
theorem dX2_advance_47 : decode cX2_advance 47 = .ok (.iload_n 1, 1) := by decide +kernel
theorem dX2_advance_48 : decode cX2_advance 48 = .ok (.ifCond .eq 15, 3) := by decide +kernel
theorem dX2_advance_51 : decode cX2_advance 51 = .ok (.aload_n 0, 1) := by decide +kernel
theorem dX2_advance_52 : decode cX2_advance 52 = .ok (.getfield 19, 3) := by decide +kernel
theorem dX2_advance_55 : decode cX2_advance 55 = .ok (.aload_n 0, 1) := by decide +kernel
theorem dX2_advance_56 : decode cX2_advance 56 = .ok (.getfield 31, 3) := by decide +kernel
theorem dX2_advance_59 : decode cX2_advance 59 = .ok (.iaload, 1) := by decide +kernel
theorem dX2_advance_60 : decode cX2_advance 60 = .ok (.goto 4, 3) := by decide +kernel
theorem dX2_advance_63 : decode cX2_advance 63 = .ok (.iconst 0, 1) := by decide +kernel
theorem dX2_advance_64 : decode cX2_advance 64 = .ok (.putfield 34, 3) := by decide +kernel
theorem dX2_advance_67 : decode cX2_advance 67 = .ok (.aload_n 0, 1) := by decide +kernel
theorem dX2_advance_68 : decode cX2_advance 68 = .ok (.iload_n 1, 1) := by decide +kernel
theorem dX2_advance_69 : decode cX2_advance 69 = .ok (.ifCond .eq 15, 3) := by decide +kernel
theorem dX2_advance_72 : decode cX2_advance 72 = .ok (.aload_n 0, 1) := by decide +kernel
theorem dX2_advance_73 : decode cX2_advance 73 = .ok (.getfield 25, 3) := by decide +kernel
theorem dX2_advance_76 : decode cX2_advance 76 = .ok (.aload_n 0, 1) := by decide +kernel
theorem dX2_advance_77 : decode cX2_advance 77 = .ok (.getfield 31, 3) := by decide +kernel
theorem dX2_advance_80 : decode cX2_advance 80 = .ok (.iaload, 1) := by decide +kernel
theorem dX2_advance_81 : decode cX2_advance 81 = .ok (.goto 4, 3) := by decide +kernel
theorem dX2_advance_84 : decode cX2_advance 84 = .ok (.iconst 0, 1) := by decide +kernel
theorem dX2_advance_85 : decode cX2_advance 85 = .ok (.putfield 37, 3) := by decide +kernel
theorem dX2_advance_88 : decode cX2_advance 88 = .ok (.return_, 1) := by decide +kernel
theorem dX2_refuse_0 : decode cX2_refuse 0 = .ok (.aload_n 0, 1) := by decide +kernel
theorem dX2_refuse_1 : decode cX2_refuse 1 = .ok (.iload_n 1, 1) := by decide +kernel
theorem dX2_refuse_2 : decode cX2_refuse 2 = .ok (.putfield 47, 3) := by decide +kernel
theorem dX2_refuse_5 : decode cX2_refuse 5 = .ok (.aload_n 0, 1) := by decide +kernel
theorem dX2_refuse_6 : decode cX2_refuse 6 = .ok (.aload_n 0, 1) := by decide +kernel
theorem dX2_refuse_7 : decode cX2_refuse 7 = .ok (.getfield 31, 3) := by decide +kernel
theorem dX2_refuse_10 : decode cX2_refuse 10 = .ok (.ifCond .lt 27, 3) := by decide +kernel
theorem dX2_refuse_13 : decode cX2_refuse 13 = .ok (.aload_n 0, 1) := by decide +kernel
theorem dX2_refuse_14 : decode cX2_refuse 14 = .ok (.getfield 31, 3) := by decide +kernel
theorem dX2_refuse_17 : decode cX2_refuse 17 = .ok (.aload_n 0, 1) := by decide +kernel
theorem dX2_refuse_18 : decode cX2_refuse 18 = .ok (.getfield 22, 3) := by decide +kernel
theorem dX2_refuse_21 : decode cX2_refuse 21 = .ok (.arraylength, 1) := by decide +kernel
theorem dX2_refuse_22 : decode cX2_refuse 22 = .ok (.if_icmp .ge 15, 3) := by decide +kernel
theorem dX2_refuse_25 : decode cX2_refuse 25 = .ok (.aload_n 0, 1) := by decide +kernel
theorem dX2_refuse_26 : decode cX2_refuse 26 = .ok (.getfield 22, 3) := by decide +kernel
theorem dX2_refuse_29 : decode cX2_refuse 29 = .ok (.aload_n 0, 1) := by decide +kernel
theorem dX2_refuse_30 : decode cX2_refuse 30 = .ok (.getfield 31, 3) := by decide +kernel
theorem dX2_refuse_33 : decode cX2_refuse 33 = .ok (.iaload, 1) := by decide +kernel
theorem dX2_refuse_34 : decode cX2_refuse 34 = .ok (.goto 7, 3) := by decide +kernel
theorem dX2_refuse_37 : decode cX2_refuse 37 = .ok (.aload_n 0, 1) := by decide +kernel
theorem dX2_refuse_38 : decode cX2_refuse 38 = .ok (.getfield 15, 3) := by decide +kernel
theorem dX2_refuse_41 : decode cX2_refuse 41 = .ok (.putfield 50, 3) := by decide +kernel
theorem dX2_refuse_44 : decode cX2_refuse 44 = .ok (.iconst 0, 1) := by decide +kernel
theorem dX2_refuse_45 : decode cX2_refuse 45 = .ok (.ireturn, 1) := by decide +kernel
theorem dX2_readClause_0 : decode cX2_readClause 0 = .ok (.aload_n 0, 1) := by decide +kernel
theorem dX2_readClause_1 : decode cX2_readClause 1 = .ok (.getfield 34, 3) := by decide +kernel
theorem dX2_readClause_4 : decode cX2_readClause 4 = .ok (.iconst 2, 1) := by decide +kernel
theorem dX2_readClause_5 : decode cX2_readClause 5 = .ok (.if_icmp .ne 19, 3) := by decide +kernel
theorem dX2_readClause_8 : decode cX2_readClause 8 = .ok (.aload_n 0, 1) := by decide +kernel
theorem dX2_readClause_9 : decode cX2_readClause 9 = .ok (.getfield 37, 3) := by decide +kernel
theorem dX2_readClause_12 : decode cX2_readClause 12 = .ok (.ifCond .lt 12, 3) := by decide +kernel
theorem dX2_readClause_15 : decode cX2_readClause 15 = .ok (.aload_n 0, 1) := by decide +kernel
theorem dX2_readClause_16 : decode cX2_readClause 16 = .ok (.getfield 37, 3) := by decide +kernel
theorem dX2_readClause_19 : decode cX2_readClause 19 = .ok (.bipush 7, 2) := by decide +kernel
theorem dX2_readClause_21 : decode cX2_readClause 21 = .ok (.if_icmp .le 9, 3) := by decide +kernel
theorem dX2_readClause_24 : decode cX2_readClause 24 = .ok (.aload_n 0, 1) := by decide +kernel
theorem dX2_readClause_25 : decode cX2_readClause 25 = .ok (.iconst 1, 1) := by decide +kernel
theorem dX2_readClause_26 : decode cX2_readClause 26 = .ok (.invokevirtual 152, 3) := by decide +kernel
theorem dX2_readClause_29 : decode cX2_readClause 29 = .ok (.ireturn, 1) := by decide +kernel
theorem dX2_readClause_30 : decode cX2_readClause 30 = .ok (.aload_n 1, 1) := by decide +kernel
theorem dX2_readClause_31 : decode cX2_readClause 31 = .ok (.aload_n 0, 1) := by decide +kernel
theorem dX2_readClause_32 : decode cX2_readClause 32 = .ok (.getfield 37, 3) := by decide +kernel
theorem dX2_readClause_35 : decode cX2_readClause 35 = .ok (.invokevirtual 155, 3) := by decide +kernel
theorem dX2_readClause_38 : decode cX2_readClause 38 = .ok (.ifCond .eq 9, 3) := by decide +kernel
theorem dX2_readClause_41 : decode cX2_readClause 41 = .ok (.aload_n 0, 1) := by decide +kernel
theorem dX2_readClause_42 : decode cX2_readClause 42 = .ok (.iconst 4, 1) := by decide +kernel
theorem dX2_readClause_43 : decode cX2_readClause 43 = .ok (.invokevirtual 152, 3) := by decide +kernel
theorem dX2_readClause_46 : decode cX2_readClause 46 = .ok (.ireturn, 1) := by decide +kernel
theorem dX2_readClause_47 : decode cX2_readClause 47 = .ok (.aload_n 1, 1) := by decide +kernel
theorem dX2_readClause_48 : decode cX2_readClause 48 = .ok (.getfield 158, 3) := by decide +kernel
theorem dX2_readClause_51 : decode cX2_readClause 51 = .ok (.bipush 24, 2) := by decide +kernel
theorem dX2_readClause_53 : decode cX2_readClause 53 = .ok (.if_icmp .lt 10, 3) := by decide +kernel
theorem dX2_readClause_56 : decode cX2_readClause 56 = .ok (.aload_n 0, 1) := by decide +kernel
theorem dX2_readClause_57 : decode cX2_readClause 57 = .ok (.bipush 6, 2) := by decide +kernel
theorem dX2_readClause_59 : decode cX2_readClause 59 = .ok (.invokevirtual 152, 3) := by decide +kernel
theorem dX2_readClause_62 : decode cX2_readClause 62 = .ok (.ireturn, 1) := by decide +kernel
theorem dX2_readClause_63 : decode cX2_readClause 63 = .ok (.aload_n 0, 1) := by decide +kernel
theorem dX2_readClause_64 : decode cX2_readClause 64 = .ok (.getfield 37, 3) := by decide +kernel
theorem dX2_readClause_67 : decode cX2_readClause 67 = .ok (.istore_n 2, 1) := by decide +kernel
theorem dX2_readClause_68 : decode cX2_readClause 68 = .ok (.aload_n 1, 1) := by decide +kernel
theorem dX2_readClause_69 : decode cX2_readClause 69 = .ok (.getfield 161, 3) := by decide +kernel
theorem dX2_readClause_72 : decode cX2_readClause 72 = .ok (.istore_n 3, 1) := by decide +kernel
theorem dX2_readClause_73 : decode cX2_readClause 73 = .ok (.aload_n 0, 1) := by decide +kernel
theorem dX2_readClause_74 : decode cX2_readClause 74 = .ok (.invokevirtual 61, 3) := by decide +kernel
theorem dX2_readClause_77 : decode cX2_readClause 77 = .ok (.aload_n 0, 1) := by decide +kernel
theorem dX2_readClause_78 : decode cX2_readClause 78 = .ok (.iload_n 2, 1) := by decide +kernel
theorem dX2_readClause_79 : decode cX2_readClause 79 = .ok (.putfield 40, 3) := by decide +kernel
theorem dX2_readClause_82 : decode cX2_readClause 82 = .ok (.iload_n 2, 1) := by decide +kernel
theorem dX2_readClause_83 : decode cX2_readClause 83 = .ok (.iconst 4, 1) := by decide +kernel
theorem dX2_readClause_84 : decode cX2_readClause 84 = .ok (.if_icmp .ge 12, 3) := by decide +kernel
theorem dX2_readClause_87 : decode cX2_readClause 87 = .ok (.aload_n 0, 1) := by decide +kernel
theorem dX2_readClause_88 : decode cX2_readClause 88 = .ok (.aload_n 1, 1) := by decide +kernel
theorem dX2_readClause_89 : decode cX2_readClause 89 = .ok (.iconst 0, 1) := by decide +kernel
theorem dX2_readClause_90 : decode cX2_readClause 90 = .ok (.invokevirtual 164, 3) := by decide +kernel
theorem dX2_readClause_93 : decode cX2_readClause 93 = .ok (.goto 9, 3) := by decide +kernel
theorem dX2_readClause_96 : decode cX2_readClause 96 = .ok (.aload_n 0, 1) := by decide +kernel
theorem dX2_readClause_97 : decode cX2_readClause 97 = .ok (.aload_n 1, 1) := by decide +kernel
theorem dX2_readClause_98 : decode cX2_readClause 98 = .ok (.iload_n 2, 1) := by decide +kernel
theorem dX2_readClause_99 : decode cX2_readClause 99 = .ok (.invokevirtual 168, 3) := by decide +kernel
theorem dX2_readClause_102 : decode cX2_readClause 102 = .ok (.istore 4, 2) := by decide +kernel
theorem dX2_readClause_104 : decode cX2_readClause 104 = .ok (.iload 4, 2) := by decide +kernel
theorem dX2_readClause_106 : decode cX2_readClause 106 = .ok (.ifCond .eq 12, 3) := by decide +kernel
theorem dX2_readClause_109 : decode cX2_readClause 109 = .ok (.aload_n 0, 1) := by decide +kernel
theorem dX2_readClause_110 : decode cX2_readClause 110 = .ok (.bipush 59, 2) := by decide +kernel
theorem dX2_readClause_112 : decode cX2_readClause 112 = .ok (.invokevirtual 171, 3) := by decide +kernel
theorem dX2_readClause_115 : decode cX2_readClause 115 = .ok (.ifCond .ne 5, 3) := by decide +kernel
theorem dX2_readClause_118 : decode cX2_readClause 118 = .ok (.iconst 0, 1) := by decide +kernel
theorem dX2_readClause_119 : decode cX2_readClause 119 = .ok (.ireturn, 1) := by decide +kernel
theorem dX2_readClause_120 : decode cX2_readClause 120 = .ok (.aload_n 1, 1) := by decide +kernel
theorem dX2_readClause_121 : decode cX2_readClause 121 = .ok (.iload_n 2, 1) := by decide +kernel
theorem dX2_readClause_122 : decode cX2_readClause 122 = .ok (.iload_n 3, 1) := by decide +kernel
theorem dX2_readClause_123 : decode cX2_readClause 123 = .ok (.invokevirtual 174, 3) := by decide +kernel
theorem dX2_readClause_126 : decode cX2_readClause 126 = .ok (.iconst 1, 1) := by decide +kernel
theorem dX2_readClause_127 : decode cX2_readClause 127 = .ok (.ireturn, 1) := by decide +kernel
theorem dX2_readDeed_0 : decode cX2_readDeed 0 = .ok (.iload_n 2, 1) := by decide +kernel
theorem dX2_readDeed_1 : decode cX2_readDeed 1 = .ok (.iconst 4, 1) := by decide +kernel
theorem dX2_readDeed_2 : decode cX2_readDeed 2 = .ok (.if_icmp .ne 62, 3) := by decide +kernel
theorem dX2_readDeed_5 : decode cX2_readDeed 5 = .ok (.aload_n 0, 1) := by decide +kernel
theorem dX2_readDeed_6 : decode cX2_readDeed 6 = .ok (.aload_n 1, 1) := by decide +kernel
theorem dX2_readDeed_7 : decode cX2_readDeed 7 = .ok (.iconst 0, 1) := by decide +kernel
theorem dX2_readDeed_8 : decode cX2_readDeed 8 = .ok (.iconst 0, 1) := by decide +kernel
theorem dX2_readDeed_9 : decode cX2_readDeed 9 = .ok (.bipush 11, 2) := by decide +kernel
theorem dX2_readDeed_11 : decode cX2_readDeed 11 = .ok (.invokevirtual 178, 3) := by decide +kernel
theorem dX2_readDeed_14 : decode cX2_readDeed 14 = .ok (.ifCond .eq 48, 3) := by decide +kernel
theorem dX2_readDeed_17 : decode cX2_readDeed 17 = .ok (.aload_n 0, 1) := by decide +kernel
theorem dX2_readDeed_18 : decode cX2_readDeed 18 = .ok (.bipush 8, 2) := by decide +kernel
theorem dX2_readDeed_20 : decode cX2_readDeed 20 = .ok (.invokevirtual 182, 3) := by decide +kernel
theorem dX2_readDeed_23 : decode cX2_readDeed 23 = .ok (.ifCond .eq 39, 3) := by decide +kernel
theorem dX2_readDeed_26 : decode cX2_readDeed 26 = .ok (.aload_n 0, 1) := by decide +kernel
theorem dX2_readDeed_27 : decode cX2_readDeed 27 = .ok (.aload_n 1, 1) := by decide +kernel
theorem dX2_readDeed_28 : decode cX2_readDeed 28 = .ok (.iconst 1, 1) := by decide +kernel
theorem dX2_readDeed_29 : decode cX2_readDeed 29 = .ok (.iconst 0, 1) := by decide +kernel
theorem dX2_readDeed_30 : decode cX2_readDeed 30 = .ok (.iconst 5, 1) := by decide +kernel
theorem dX2_readDeed_31 : decode cX2_readDeed 31 = .ok (.invokevirtual 178, 3) := by decide +kernel
theorem dX2_readDeed_34 : decode cX2_readDeed 34 = .ok (.ifCond .eq 28, 3) := by decide +kernel
theorem dX2_readDeed_37 : decode cX2_readDeed 37 = .ok (.aload_n 0, 1) := by decide +kernel
theorem dX2_readDeed_38 : decode cX2_readDeed 38 = .ok (.bipush 9, 2) := by decide +kernel
theorem dX2_readDeed_40 : decode cX2_readDeed 40 = .ok (.invokevirtual 182, 3) := by decide +kernel
theorem dX2_readDeed_43 : decode cX2_readDeed 43 = .ok (.ifCond .eq 19, 3) := by decide +kernel
theorem dX2_readDeed_46 : decode cX2_readDeed 46 = .ok (.aload_n 0, 1) := by decide +kernel
theorem dX2_readDeed_47 : decode cX2_readDeed 47 = .ok (.aload_n 1, 1) := by decide +kernel
theorem dX2_readDeed_48 : decode cX2_readDeed 48 = .ok (.iconst 2, 1) := by decide +kernel
theorem dX2_readDeed_49 : decode cX2_readDeed 49 = .ok (.iconst 0, 1) := by decide +kernel
theorem dX2_readDeed_50 : decode cX2_readDeed 50 = .ok (.bipush 7, 2) := by decide +kernel
theorem dX2_readDeed_52 : decode cX2_readDeed 52 = .ok (.invokevirtual 178, 3) := by decide +kernel
theorem dX2_readDeed_55 : decode cX2_readDeed 55 = .ok (.ifCond .eq 7, 3) := by decide +kernel
theorem dX2_readDeed_58 : decode cX2_readDeed 58 = .ok (.iconst 1, 1) := by decide +kernel
theorem dX2_readDeed_59 : decode cX2_readDeed 59 = .ok (.goto 4, 3) := by decide +kernel
theorem dX2_readDeed_62 : decode cX2_readDeed 62 = .ok (.iconst 0, 1) := by decide +kernel
theorem dX2_readDeed_63 : decode cX2_readDeed 63 = .ok (.ireturn, 1) := by decide +kernel
theorem dX2_readDeed_64 : decode cX2_readDeed 64 = .ok (.iload_n 2, 1) := by decide +kernel
theorem dX2_readDeed_65 : decode cX2_readDeed 65 = .ok (.bipush 7, 2) := by decide +kernel
theorem dX2_readDeed_67 : decode cX2_readDeed 67 = .ok (.if_icmp .ne 13, 3) := by decide +kernel
theorem dX2_readDeed_70 : decode cX2_readDeed 70 = .ok (.aload_n 0, 1) := by decide +kernel
theorem dX2_readDeed_71 : decode cX2_readDeed 71 = .ok (.aload_n 1, 1) := by decide +kernel
theorem dX2_readDeed_72 : decode cX2_readDeed 72 = .ok (.iconst 0, 1) := by decide +kernel
theorem dX2_readDeed_73 : decode cX2_readDeed 73 = .ok (.iconst 1, 1) := by decide +kernel
theorem dX2_readDeed_74 : decode cX2_readDeed 74 = .ok (.bipush 30, 2) := by decide +kernel
theorem dX2_readDeed_76 : decode cX2_readDeed 76 = .ok (.invokevirtual 178, 3) := by decide +kernel
theorem dX2_readDeed_79 : decode cX2_readDeed 79 = .ok (.ireturn, 1) := by decide +kernel
theorem dX2_readDeed_80 : decode cX2_readDeed 80 = .ok (.aload_n 0, 1) := by decide +kernel
theorem dX2_readDeed_81 : decode cX2_readDeed 81 = .ok (.aload_n 1, 1) := by decide +kernel
theorem dX2_readDeed_82 : decode cX2_readDeed 82 = .ok (.iconst 0, 1) := by decide +kernel
theorem dX2_readDeed_83 : decode cX2_readDeed 83 = .ok (.iconst 0, 1) := by decide +kernel
theorem dX2_readDeed_84 : decode cX2_readDeed 84 = .ok (.iconst 5, 1) := by decide +kernel
theorem dX2_readDeed_85 : decode cX2_readDeed 85 = .ok (.invokevirtual 178, 3) := by decide +kernel
theorem dX2_readDeed_88 : decode cX2_readDeed 88 = .ok (.ireturn, 1) := by decide +kernel
theorem dX2_readNumber_0 : decode cX2_readNumber 0 = .ok (.aload_n 0, 1) := by decide +kernel
theorem dX2_readNumber_1 : decode cX2_readNumber 1 = .ok (.getfield 34, 3) := by decide +kernel
theorem dX2_readNumber_4 : decode cX2_readNumber 4 = .ok (.iconst 1, 1) := by decide +kernel
theorem dX2_readNumber_5 : decode cX2_readNumber 5 = .ok (.if_icmp .eq 9, 3) := by decide +kernel
theorem dX2_readNumber_8 : decode cX2_readNumber 8 = .ok (.aload_n 0, 1) := by decide +kernel
theorem dX2_readNumber_9 : decode cX2_readNumber 9 = .ok (.iconst 1, 1) := by decide +kernel
theorem dX2_readNumber_10 : decode cX2_readNumber 10 = .ok (.invokevirtual 152, 3) := by decide +kernel
theorem dX2_readNumber_13 : decode cX2_readNumber 13 = .ok (.ireturn, 1) := by decide +kernel
theorem dX2_readNumber_14 : decode cX2_readNumber 14 = .ok (.aload_n 0, 1) := by decide +kernel
theorem dX2_readNumber_15 : decode cX2_readNumber 15 = .ok (.getfield 37, 3) := by decide +kernel
theorem dX2_readNumber_18 : decode cX2_readNumber 18 = .ok (.iload_n 3, 1) := by decide +kernel
theorem dX2_readNumber_19 : decode cX2_readNumber 19 = .ok (.if_icmp .lt 12, 3) := by decide +kernel
theorem dX2_readNumber_22 : decode cX2_readNumber 22 = .ok (.aload_n 0, 1) := by decide +kernel
theorem dX2_readNumber_23 : decode cX2_readNumber 23 = .ok (.getfield 37, 3) := by decide +kernel
theorem dX2_readNumber_26 : decode cX2_readNumber 26 = .ok (.iload 4, 2) := by decide +kernel
theorem dX2_readNumber_28 : decode cX2_readNumber 28 = .ok (.if_icmp .le 9, 3) := by decide +kernel
theorem dX2_readNumber_31 : decode cX2_readNumber 31 = .ok (.aload_n 0, 1) := by decide +kernel
theorem dX2_readNumber_32 : decode cX2_readNumber 32 = .ok (.iconst 2, 1) := by decide +kernel
theorem dX2_readNumber_33 : decode cX2_readNumber 33 = .ok (.invokevirtual 152, 3) := by decide +kernel
theorem dX2_readNumber_36 : decode cX2_readNumber 36 = .ok (.ireturn, 1) := by decide +kernel
theorem dX2_readNumber_37 : decode cX2_readNumber 37 = .ok (.aload_n 1, 1) := by decide +kernel
theorem dX2_readNumber_38 : decode cX2_readNumber 38 = .ok (.iload_n 2, 1) := by decide +kernel
theorem dX2_readNumber_39 : decode cX2_readNumber 39 = .ok (.aload_n 0, 1) := by decide +kernel
theorem dX2_readNumber_40 : decode cX2_readNumber 40 = .ok (.getfield 37, 3) := by decide +kernel
theorem dX2_readNumber_43 : decode cX2_readNumber 43 = .ok (.invokevirtual 185, 3) := by decide +kernel
theorem dX2_readNumber_46 : decode cX2_readNumber 46 = .ok (.aload_n 0, 1) := by decide +kernel
theorem dX2_readNumber_47 : decode cX2_readNumber 47 = .ok (.invokevirtual 61, 3) := by decide +kernel
theorem dX2_readNumber_50 : decode cX2_readNumber 50 = .ok (.iconst 1, 1) := by decide +kernel
theorem dX2_readNumber_51 : decode cX2_readNumber 51 = .ok (.ireturn, 1) := by decide +kernel
theorem dX2_readWord_0 : decode cX2_readWord 0 = .ok (.aload_n 0, 1) := by decide +kernel
theorem dX2_readWord_1 : decode cX2_readWord 1 = .ok (.getfield 34, 3) := by decide +kernel
theorem dX2_readWord_4 : decode cX2_readWord 4 = .ok (.iconst 2, 1) := by decide +kernel
theorem dX2_readWord_5 : decode cX2_readWord 5 = .ok (.if_icmp .ne 11, 3) := by decide +kernel
theorem dX2_readWord_8 : decode cX2_readWord 8 = .ok (.aload_n 0, 1) := by decide +kernel
theorem dX2_readWord_9 : decode cX2_readWord 9 = .ok (.getfield 37, 3) := by decide +kernel
theorem dX2_readWord_12 : decode cX2_readWord 12 = .ok (.iload_n 1, 1) := by decide +kernel
theorem dX2_readWord_13 : decode cX2_readWord 13 = .ok (.if_icmp .eq 9, 3) := by decide +kernel
theorem dX2_readWord_16 : decode cX2_readWord 16 = .ok (.aload_n 0, 1) := by decide +kernel
theorem dX2_readWord_17 : decode cX2_readWord 17 = .ok (.iconst 1, 1) := by decide +kernel
theorem dX2_readWord_18 : decode cX2_readWord 18 = .ok (.invokevirtual 152, 3) := by decide +kernel
theorem dX2_readWord_21 : decode cX2_readWord 21 = .ok (.ireturn, 1) := by decide +kernel
theorem dX2_readWord_22 : decode cX2_readWord 22 = .ok (.aload_n 0, 1) := by decide +kernel
theorem dX2_readWord_23 : decode cX2_readWord 23 = .ok (.invokevirtual 61, 3) := by decide +kernel
theorem dX2_readWord_26 : decode cX2_readWord 26 = .ok (.iconst 1, 1) := by decide +kernel
theorem dX2_readWord_27 : decode cX2_readWord 27 = .ok (.ireturn, 1) := by decide +kernel
theorem dX2_readSign_0 : decode cX2_readSign 0 = .ok (.aload_n 0, 1) := by decide +kernel
theorem dX2_readSign_1 : decode cX2_readSign 1 = .ok (.getfield 34, 3) := by decide +kernel
theorem dX2_readSign_4 : decode cX2_readSign 4 = .ok (.iload_n 1, 1) := by decide +kernel
theorem dX2_readSign_5 : decode cX2_readSign 5 = .ok (.if_icmp .eq 9, 3) := by decide +kernel
theorem dX2_readSign_8 : decode cX2_readSign 8 = .ok (.aload_n 0, 1) := by decide +kernel
theorem dX2_readSign_9 : decode cX2_readSign 9 = .ok (.iconst 1, 1) := by decide +kernel
theorem dX2_readSign_10 : decode cX2_readSign 10 = .ok (.invokevirtual 152, 3) := by decide +kernel
theorem dX2_readSign_13 : decode cX2_readSign 13 = .ok (.ireturn, 1) := by decide +kernel
theorem dX2_readSign_14 : decode cX2_readSign 14 = .ok (.aload_n 0, 1) := by decide +kernel
theorem dX2_readSign_15 : decode cX2_readSign 15 = .ok (.invokevirtual 61, 3) := by decide +kernel
theorem dX2_readSign_18 : decode cX2_readSign 18 = .ok (.iconst 1, 1) := by decide +kernel
theorem dX2_readSign_19 : decode cX2_readSign 19 = .ok (.ireturn, 1) := by decide +kernel
theorem dX2_readSum_0 : decode cX2_readSum 0 = .ok (.aload_n 0, 1) := by decide +kernel
theorem dX2_readSum_1 : decode cX2_readSum 1 = .ok (.aload_n 1, 1) := by decide +kernel
theorem dX2_readSum_2 : decode cX2_readSum 2 = .ok (.iload_n 2, 1) := by decide +kernel
theorem dX2_readSum_3 : decode cX2_readSum 3 = .ok (.invokevirtual 188, 3) := by decide +kernel
theorem dX2_readSum_6 : decode cX2_readSum 6 = .ok (.ifCond .ne 5, 3) := by decide +kernel
theorem dX2_readSum_9 : decode cX2_readSum 9 = .ok (.iconst 0, 1) := by decide +kernel
theorem dX2_readSum_10 : decode cX2_readSum 10 = .ok (.ireturn, 1) := by decide +kernel
theorem dX2_readSum_11 : decode cX2_readSum 11 = .ok (.iconst 0, 1) := by decide +kernel
theorem dX2_readSum_12 : decode cX2_readSum 12 = .ok (.istore_n 3, 1) := by decide +kernel
theorem dX2_readSum_13 : decode cX2_readSum 13 = .ok (.iload_n 3, 1) := by decide +kernel
theorem dX2_readSum_14 : decode cX2_readSum 14 = .ok (.sipush 300, 3) := by decide +kernel
theorem dX2_readSum_17 : decode cX2_readSum 17 = .ok (.if_icmp .ge 68, 3) := by decide +kernel
theorem dX2_readSum_20 : decode cX2_readSum 20 = .ok (.aload_n 0, 1) := by decide +kernel
theorem dX2_readSum_21 : decode cX2_readSum 21 = .ok (.getfield 34, 3) := by decide +kernel
theorem dX2_readSum_24 : decode cX2_readSum 24 = .ok (.bipush 43, 2) := by decide +kernel
theorem dX2_readSum_26 : decode cX2_readSum 26 = .ok (.if_icmp .eq 12, 3) := by decide +kernel
theorem dX2_readSum_29 : decode cX2_readSum 29 = .ok (.aload_n 0, 1) := by decide +kernel
theorem dX2_readSum_30 : decode cX2_readSum 30 = .ok (.getfield 34, 3) := by decide +kernel
theorem dX2_readSum_33 : decode cX2_readSum 33 = .ok (.bipush 45, 2) := by decide +kernel
theorem dX2_readSum_35 : decode cX2_readSum 35 = .ok (.if_icmp .ne 50, 3) := by decide +kernel
theorem dX2_readSum_38 : decode cX2_readSum 38 = .ok (.aload_n 0, 1) := by decide +kernel
theorem dX2_readSum_39 : decode cX2_readSum 39 = .ok (.getfield 34, 3) := by decide +kernel
theorem dX2_readSum_42 : decode cX2_readSum 42 = .ok (.bipush 43, 2) := by decide +kernel
theorem dX2_readSum_44 : decode cX2_readSum 44 = .ok (.if_icmp .ne 9, 3) := by decide +kernel
theorem dX2_readSum_47 : decode cX2_readSum 47 = .ok (.sipush 10008, 3) := by decide +kernel
theorem dX2_readSum_50 : decode cX2_readSum 50 = .ok (.goto 6, 3) := by decide +kernel
theorem dX2_readSum_53 : decode cX2_readSum 53 = .ok (.sipush 10009, 3) := by decide +kernel
theorem dX2_readSum_56 : decode cX2_readSum 56 = .ok (.istore 4, 2) := by decide +kernel
theorem dX2_readSum_58 : decode cX2_readSum 58 = .ok (.aload_n 0, 1) := by decide +kernel
theorem dX2_readSum_59 : decode cX2_readSum 59 = .ok (.invokevirtual 61, 3) := by decide +kernel
theorem dX2_readSum_62 : decode cX2_readSum 62 = .ok (.aload_n 0, 1) := by decide +kernel
theorem dX2_readSum_63 : decode cX2_readSum 63 = .ok (.aload_n 1, 1) := by decide +kernel
theorem dX2_readSum_64 : decode cX2_readSum 64 = .ok (.iload_n 2, 1) := by decide +kernel
theorem dX2_readSum_65 : decode cX2_readSum 65 = .ok (.invokevirtual 188, 3) := by decide +kernel
theorem dX2_readSum_68 : decode cX2_readSum 68 = .ok (.ifCond .ne 5, 3) := by decide +kernel
theorem dX2_readSum_71 : decode cX2_readSum 71 = .ok (.iconst 0, 1) := by decide +kernel
theorem dX2_readSum_72 : decode cX2_readSum 72 = .ok (.ireturn, 1) := by decide +kernel
theorem dX2_readSum_73 : decode cX2_readSum 73 = .ok (.aload_n 1, 1) := by decide +kernel
theorem dX2_readSum_74 : decode cX2_readSum 74 = .ok (.iload 4, 2) := by decide +kernel
theorem dX2_readSum_76 : decode cX2_readSum 76 = .ok (.invokevirtual 191, 3) := by decide +kernel
theorem dX2_readSum_79 : decode cX2_readSum 79 = .ok (.iinc 3 1, 3) := by decide +kernel
theorem dX2_readSum_82 : decode cX2_readSum 82 = .ok (.goto (-69), 3) := by decide +kernel
theorem dX2_readSum_85 : decode cX2_readSum 85 = .ok (.iconst 1, 1) := by decide +kernel
theorem dX2_readSum_86 : decode cX2_readSum 86 = .ok (.ireturn, 1) := by decide +kernel
theorem dX2_readProduct_0 : decode cX2_readProduct 0 = .ok (.aload_n 0, 1) := by decide +kernel
theorem dX2_readProduct_1 : decode cX2_readProduct 1 = .ok (.aload_n 1, 1) := by decide +kernel
theorem dX2_readProduct_2 : decode cX2_readProduct 2 = .ok (.iload_n 2, 1) := by decide +kernel
theorem dX2_readProduct_3 : decode cX2_readProduct 3 = .ok (.invokevirtual 195, 3) := by decide +kernel
theorem dX2_readProduct_6 : decode cX2_readProduct 6 = .ok (.ifCond .ne 5, 3) := by decide +kernel
theorem dX2_readProduct_9 : decode cX2_readProduct 9 = .ok (.iconst 0, 1) := by decide +kernel
theorem dX2_readProduct_10 : decode cX2_readProduct 10 = .ok (.ireturn, 1) := by decide +kernel
theorem dX2_readProduct_11 : decode cX2_readProduct 11 = .ok (.iconst 0, 1) := by decide +kernel
theorem dX2_readProduct_12 : decode cX2_readProduct 12 = .ok (.istore_n 3, 1) := by decide +kernel
theorem dX2_readProduct_13 : decode cX2_readProduct 13 = .ok (.iload_n 3, 1) := by decide +kernel
theorem dX2_readProduct_14 : decode cX2_readProduct 14 = .ok (.sipush 300, 3) := by decide +kernel
theorem dX2_readProduct_17 : decode cX2_readProduct 17 = .ok (.if_icmp .ge 68, 3) := by decide +kernel
theorem dX2_readProduct_20 : decode cX2_readProduct 20 = .ok (.aload_n 0, 1) := by decide +kernel
theorem dX2_readProduct_21 : decode cX2_readProduct 21 = .ok (.getfield 34, 3) := by decide +kernel
theorem dX2_readProduct_24 : decode cX2_readProduct 24 = .ok (.bipush 42, 2) := by decide +kernel
theorem dX2_readProduct_26 : decode cX2_readProduct 26 = .ok (.if_icmp .eq 12, 3) := by decide +kernel
theorem dX2_readProduct_29 : decode cX2_readProduct 29 = .ok (.aload_n 0, 1) := by decide +kernel
theorem dX2_readProduct_30 : decode cX2_readProduct 30 = .ok (.getfield 34, 3) := by decide +kernel
theorem dX2_readProduct_33 : decode cX2_readProduct 33 = .ok (.bipush 47, 2) := by decide +kernel
theorem dX2_readProduct_35 : decode cX2_readProduct 35 = .ok (.if_icmp .ne 50, 3) := by decide +kernel
theorem dX2_readProduct_38 : decode cX2_readProduct 38 = .ok (.aload_n 0, 1) := by decide +kernel
theorem dX2_readProduct_39 : decode cX2_readProduct 39 = .ok (.getfield 34, 3) := by decide +kernel
theorem dX2_readProduct_42 : decode cX2_readProduct 42 = .ok (.bipush 42, 2) := by decide +kernel
theorem dX2_readProduct_44 : decode cX2_readProduct 44 = .ok (.if_icmp .ne 9, 3) := by decide +kernel
theorem dX2_readProduct_47 : decode cX2_readProduct 47 = .ok (.sipush 10010, 3) := by decide +kernel
theorem dX2_readProduct_50 : decode cX2_readProduct 50 = .ok (.goto 6, 3) := by decide +kernel
theorem dX2_readProduct_53 : decode cX2_readProduct 53 = .ok (.sipush 10011, 3) := by decide +kernel
theorem dX2_readProduct_56 : decode cX2_readProduct 56 = .ok (.istore 4, 2) := by decide +kernel
theorem dX2_readProduct_58 : decode cX2_readProduct 58 = .ok (.aload_n 0, 1) := by decide +kernel
theorem dX2_readProduct_59 : decode cX2_readProduct 59 = .ok (.invokevirtual 61, 3) := by decide +kernel
theorem dX2_readProduct_62 : decode cX2_readProduct 62 = .ok (.aload_n 0, 1) := by decide +kernel
theorem dX2_readProduct_63 : decode cX2_readProduct 63 = .ok (.aload_n 1, 1) := by decide +kernel
theorem dX2_readProduct_64 : decode cX2_readProduct 64 = .ok (.iload_n 2, 1) := by decide +kernel
theorem dX2_readProduct_65 : decode cX2_readProduct 65 = .ok (.invokevirtual 195, 3) := by decide +kernel
theorem dX2_readProduct_68 : decode cX2_readProduct 68 = .ok (.ifCond .ne 5, 3) := by decide +kernel
theorem dX2_readProduct_71 : decode cX2_readProduct 71 = .ok (.iconst 0, 1) := by decide +kernel
theorem dX2_readProduct_72 : decode cX2_readProduct 72 = .ok (.ireturn, 1) := by decide +kernel
theorem dX2_readProduct_73 : decode cX2_readProduct 73 = .ok (.aload_n 1, 1) := by decide +kernel
theorem dX2_readProduct_74 : decode cX2_readProduct 74 = .ok (.iload 4, 2) := by decide +kernel
theorem dX2_readProduct_76 : decode cX2_readProduct 76 = .ok (.invokevirtual 191, 3) := by decide +kernel
theorem dX2_readProduct_79 : decode cX2_readProduct 79 = .ok (.iinc 3 1, 3) := by decide +kernel
theorem dX2_readProduct_82 : decode cX2_readProduct 82 = .ok (.goto (-69), 3) := by decide +kernel
theorem dX2_readProduct_85 : decode cX2_readProduct 85 = .ok (.iconst 1, 1) := by decide +kernel
theorem dX2_readProduct_86 : decode cX2_readProduct 86 = .ok (.ireturn, 1) := by decide +kernel
theorem dX2_readOne_0 : decode cX2_readOne 0 = .ok (.aload_n 0, 1) := by decide +kernel
theorem dX2_readOne_1 : decode cX2_readOne 1 = .ok (.getfield 34, 3) := by decide +kernel
theorem dX2_readOne_4 : decode cX2_readOne 4 = .ok (.iconst 1, 1) := by decide +kernel
theorem dX2_readOne_5 : decode cX2_readOne 5 = .ok (.if_icmp .eq 11, 3) := by decide +kernel
theorem dX2_readOne_8 : decode cX2_readOne 8 = .ok (.aload_n 0, 1) := by decide +kernel
theorem dX2_readOne_9 : decode cX2_readOne 9 = .ok (.getfield 34, 3) := by decide +kernel
theorem dX2_readOne_12 : decode cX2_readOne 12 = .ok (.iconst 2, 1) := by decide +kernel
theorem dX2_readOne_13 : decode cX2_readOne 13 = .ok (.if_icmp .ne 9, 3) := by decide +kernel
theorem dX2_readOne_16 : decode cX2_readOne 16 = .ok (.aload_n 0, 1) := by decide +kernel
theorem dX2_readOne_17 : decode cX2_readOne 17 = .ok (.aload_n 1, 1) := by decide +kernel
theorem dX2_readOne_18 : decode cX2_readOne 18 = .ok (.invokevirtual 198, 3) := by decide +kernel
theorem dX2_readOne_21 : decode cX2_readOne 21 = .ok (.ireturn, 1) := by decide +kernel
theorem dX2_readOne_22 : decode cX2_readOne 22 = .ok (.aload_n 0, 1) := by decide +kernel
theorem dX2_readOne_23 : decode cX2_readOne 23 = .ok (.getfield 34, 3) := by decide +kernel
theorem dX2_readOne_26 : decode cX2_readOne 26 = .ok (.bipush 40, 2) := by decide +kernel
theorem dX2_readOne_28 : decode cX2_readOne 28 = .ok (.if_icmp .eq 18, 3) := by decide +kernel
theorem dX2_readOne_31 : decode cX2_readOne 31 = .ok (.aload_n 0, 1) := by decide +kernel
theorem dX2_readOne_32 : decode cX2_readOne 32 = .ok (.getfield 34, 3) := by decide +kernel
theorem dX2_readOne_35 : decode cX2_readOne 35 = .ok (.bipush 45, 2) := by decide +kernel
theorem dX2_readOne_37 : decode cX2_readOne 37 = .ok (.if_icmp .eq 9, 3) := by decide +kernel
theorem dX2_readOne_40 : decode cX2_readOne 40 = .ok (.aload_n 0, 1) := by decide +kernel
theorem dX2_readOne_41 : decode cX2_readOne 41 = .ok (.iconst 1, 1) := by decide +kernel
theorem dX2_readOne_42 : decode cX2_readOne 42 = .ok (.invokevirtual 152, 3) := by decide +kernel
theorem dX2_readOne_45 : decode cX2_readOne 45 = .ok (.ireturn, 1) := by decide +kernel
theorem dX2_readOne_46 : decode cX2_readOne 46 = .ok (.iload_n 2, 1) := by decide +kernel
theorem dX2_readOne_47 : decode cX2_readOne 47 = .ok (.bipush 8, 2) := by decide +kernel
theorem dX2_readOne_49 : decode cX2_readOne 49 = .ok (.if_icmp .lt 9, 3) := by decide +kernel
theorem dX2_readOne_52 : decode cX2_readOne 52 = .ok (.aload_n 0, 1) := by decide +kernel
theorem dX2_readOne_53 : decode cX2_readOne 53 = .ok (.iconst 3, 1) := by decide +kernel
theorem dX2_readOne_54 : decode cX2_readOne 54 = .ok (.invokevirtual 152, 3) := by decide +kernel
theorem dX2_readOne_57 : decode cX2_readOne 57 = .ok (.ireturn, 1) := by decide +kernel
theorem dX2_readOne_58 : decode cX2_readOne 58 = .ok (.aload_n 0, 1) := by decide +kernel
theorem dX2_readOne_59 : decode cX2_readOne 59 = .ok (.getfield 34, 3) := by decide +kernel
theorem dX2_readOne_62 : decode cX2_readOne 62 = .ok (.bipush 45, 2) := by decide +kernel
theorem dX2_readOne_64 : decode cX2_readOne 64 = .ok (.if_icmp .ne 7, 3) := by decide +kernel
theorem dX2_readOne_67 : decode cX2_readOne 67 = .ok (.iconst 1, 1) := by decide +kernel
theorem dX2_readOne_68 : decode cX2_readOne 68 = .ok (.goto 4, 3) := by decide +kernel
theorem dX2_readOne_71 : decode cX2_readOne 71 = .ok (.iconst 0, 1) := by decide +kernel
theorem dX2_readOne_72 : decode cX2_readOne 72 = .ok (.istore_n 3, 1) := by decide +kernel
theorem dX2_readOne_73 : decode cX2_readOne 73 = .ok (.aload_n 0, 1) := by decide +kernel
theorem dX2_readOne_74 : decode cX2_readOne 74 = .ok (.invokevirtual 61, 3) := by decide +kernel
theorem dX2_readOne_77 : decode cX2_readOne 77 = .ok (.iload_n 3, 1) := by decide +kernel
theorem dX2_readOne_78 : decode cX2_readOne 78 = .ok (.ifCond .ne 29, 3) := by decide +kernel
theorem dX2_readOne_81 : decode cX2_readOne 81 = .ok (.aload_n 0, 1) := by decide +kernel
theorem dX2_readOne_82 : decode cX2_readOne 82 = .ok (.aload_n 1, 1) := by decide +kernel
theorem dX2_readOne_83 : decode cX2_readOne 83 = .ok (.iload_n 2, 1) := by decide +kernel
theorem dX2_readOne_84 : decode cX2_readOne 84 = .ok (.iconst 1, 1) := by decide +kernel
theorem dX2_readOne_85 : decode cX2_readOne 85 = .ok (.iadd, 1) := by decide +kernel
theorem dX2_readOne_86 : decode cX2_readOne 86 = .ok (.invokevirtual 164, 3) := by decide +kernel
theorem dX2_readOne_89 : decode cX2_readOne 89 = .ok (.ifCond .eq 16, 3) := by decide +kernel
theorem dX2_readOne_92 : decode cX2_readOne 92 = .ok (.aload_n 0, 1) := by decide +kernel
theorem dX2_readOne_93 : decode cX2_readOne 93 = .ok (.bipush 41, 2) := by decide +kernel
theorem dX2_readOne_95 : decode cX2_readOne 95 = .ok (.invokevirtual 171, 3) := by decide +kernel
theorem dX2_readOne_98 : decode cX2_readOne 98 = .ok (.ifCond .eq 7, 3) := by decide +kernel
theorem dX2_readOne_101 : decode cX2_readOne 101 = .ok (.iconst 1, 1) := by decide +kernel
theorem dX2_readOne_102 : decode cX2_readOne 102 = .ok (.goto 4, 3) := by decide +kernel
theorem dX2_readOne_105 : decode cX2_readOne 105 = .ok (.iconst 0, 1) := by decide +kernel
theorem dX2_readOne_106 : decode cX2_readOne 106 = .ok (.ireturn, 1) := by decide +kernel
theorem dX2_readOne_107 : decode cX2_readOne 107 = .ok (.aload_n 0, 1) := by decide +kernel
theorem dX2_readOne_108 : decode cX2_readOne 108 = .ok (.aload_n 1, 1) := by decide +kernel
theorem dX2_readOne_109 : decode cX2_readOne 109 = .ok (.iload_n 2, 1) := by decide +kernel
theorem dX2_readOne_110 : decode cX2_readOne 110 = .ok (.iconst 1, 1) := by decide +kernel
theorem dX2_readOne_111 : decode cX2_readOne 111 = .ok (.iadd, 1) := by decide +kernel
theorem dX2_readOne_112 : decode cX2_readOne 112 = .ok (.invokevirtual 195, 3) := by decide +kernel
theorem dX2_readOne_115 : decode cX2_readOne 115 = .ok (.ifCond .ne 5, 3) := by decide +kernel
theorem dX2_readOne_118 : decode cX2_readOne 118 = .ok (.iconst 0, 1) := by decide +kernel
theorem dX2_readOne_119 : decode cX2_readOne 119 = .ok (.ireturn, 1) := by decide +kernel
theorem dX2_readOne_120 : decode cX2_readOne 120 = .ok (.aload_n 1, 1) := by decide +kernel
theorem dX2_readOne_121 : decode cX2_readOne 121 = .ok (.sipush 10012, 3) := by decide +kernel
theorem dX2_readOne_124 : decode cX2_readOne 124 = .ok (.invokevirtual 191, 3) := by decide +kernel
theorem dX2_readOne_127 : decode cX2_readOne 127 = .ok (.iconst 1, 1) := by decide +kernel
theorem dX2_readOne_128 : decode cX2_readOne 128 = .ok (.ireturn, 1) := by decide +kernel
theorem dX2_readLeaf_0 : decode cX2_readLeaf 0 = .ok (.aload_n 0, 1) := by decide +kernel
theorem dX2_readLeaf_1 : decode cX2_readLeaf 1 = .ok (.getfield 34, 3) := by decide +kernel
theorem dX2_readLeaf_4 : decode cX2_readLeaf 4 = .ok (.iconst 2, 1) := by decide +kernel
theorem dX2_readLeaf_5 : decode cX2_readLeaf 5 = .ok (.if_icmp .ne 7, 3) := by decide +kernel
theorem dX2_readLeaf_8 : decode cX2_readLeaf 8 = .ok (.iconst 1, 1) := by decide +kernel
theorem dX2_readLeaf_9 : decode cX2_readLeaf 9 = .ok (.goto 4, 3) := by decide +kernel
theorem dX2_readLeaf_12 : decode cX2_readLeaf 12 = .ok (.iconst 0, 1) := by decide +kernel
theorem dX2_readLeaf_13 : decode cX2_readLeaf 13 = .ok (.istore_n 2, 1) := by decide +kernel
theorem dX2_readLeaf_14 : decode cX2_readLeaf 14 = .ok (.aload_n 0, 1) := by decide +kernel
theorem dX2_readLeaf_15 : decode cX2_readLeaf 15 = .ok (.getfield 37, 3) := by decide +kernel
theorem dX2_readLeaf_18 : decode cX2_readLeaf 18 = .ok (.bipush 10, 2) := by decide +kernel
theorem dX2_readLeaf_20 : decode cX2_readLeaf 20 = .ok (.isub, 1) := by decide +kernel
theorem dX2_readLeaf_21 : decode cX2_readLeaf 21 = .ok (.istore_n 3, 1) := by decide +kernel
theorem dX2_readLeaf_22 : decode cX2_readLeaf 22 = .ok (.iload_n 2, 1) := by decide +kernel
theorem dX2_readLeaf_23 : decode cX2_readLeaf 23 = .ok (.ifCond .eq 19, 3) := by decide +kernel
theorem dX2_readLeaf_26 : decode cX2_readLeaf 26 = .ok (.iload_n 3, 1) := by decide +kernel
theorem dX2_readLeaf_27 : decode cX2_readLeaf 27 = .ok (.ifCond .lt 9, 3) := by decide +kernel
theorem dX2_readLeaf_30 : decode cX2_readLeaf 30 = .ok (.iload_n 3, 1) := by decide +kernel
theorem dX2_readLeaf_31 : decode cX2_readLeaf 31 = .ok (.bipush 8, 2) := by decide +kernel
theorem dX2_readLeaf_33 : decode cX2_readLeaf 33 = .ok (.if_icmp .lt 9, 3) := by decide +kernel
theorem dX2_readLeaf_36 : decode cX2_readLeaf 36 = .ok (.aload_n 0, 1) := by decide +kernel
theorem dX2_readLeaf_37 : decode cX2_readLeaf 37 = .ok (.iconst 1, 1) := by decide +kernel
theorem dX2_readLeaf_38 : decode cX2_readLeaf 38 = .ok (.invokevirtual 152, 3) := by decide +kernel
theorem dX2_readLeaf_41 : decode cX2_readLeaf 41 = .ok (.ireturn, 1) := by decide +kernel
theorem dX2_readLeaf_42 : decode cX2_readLeaf 42 = .ok (.iload_n 2, 1) := by decide +kernel
theorem dX2_readLeaf_43 : decode cX2_readLeaf 43 = .ok (.ifCond .ne 19, 3) := by decide +kernel
theorem dX2_readLeaf_46 : decode cX2_readLeaf 46 = .ok (.aload_n 0, 1) := by decide +kernel
theorem dX2_readLeaf_47 : decode cX2_readLeaf 47 = .ok (.getfield 37, 3) := by decide +kernel
theorem dX2_readLeaf_50 : decode cX2_readLeaf 50 = .ok (.sipush 9999, 3) := by decide +kernel
theorem dX2_readLeaf_53 : decode cX2_readLeaf 53 = .ok (.if_icmp .le 9, 3) := by decide +kernel
theorem dX2_readLeaf_56 : decode cX2_readLeaf 56 = .ok (.aload_n 0, 1) := by decide +kernel
theorem dX2_readLeaf_57 : decode cX2_readLeaf 57 = .ok (.iconst 2, 1) := by decide +kernel
theorem dX2_readLeaf_58 : decode cX2_readLeaf 58 = .ok (.invokevirtual 152, 3) := by decide +kernel
theorem dX2_readLeaf_61 : decode cX2_readLeaf 61 = .ok (.ireturn, 1) := by decide +kernel
theorem dX2_readLeaf_62 : decode cX2_readLeaf 62 = .ok (.iload_n 2, 1) := by decide +kernel
theorem dX2_readLeaf_63 : decode cX2_readLeaf 63 = .ok (.ifCond .eq 22, 3) := by decide +kernel
theorem dX2_readLeaf_66 : decode cX2_readLeaf 66 = .ok (.iload_n 3, 1) := by decide +kernel
theorem dX2_readLeaf_67 : decode cX2_readLeaf 67 = .ok (.bipush 6, 2) := by decide +kernel
theorem dX2_readLeaf_69 : decode cX2_readLeaf 69 = .ok (.if_icmp .lt 16, 3) := by decide +kernel
theorem dX2_readLeaf_72 : decode cX2_readLeaf 72 = .ok (.aload_n 0, 1) := by decide +kernel
theorem dX2_readLeaf_73 : decode cX2_readLeaf 73 = .ok (.getfield 40, 3) := by decide +kernel
theorem dX2_readLeaf_76 : decode cX2_readLeaf 76 = .ok (.ifCond .eq 9, 3) := by decide +kernel
theorem dX2_readLeaf_79 : decode cX2_readLeaf 79 = .ok (.aload_n 0, 1) := by decide +kernel
theorem dX2_readLeaf_80 : decode cX2_readLeaf 80 = .ok (.iconst 5, 1) := by decide +kernel
theorem dX2_readLeaf_81 : decode cX2_readLeaf 81 = .ok (.invokevirtual 152, 3) := by decide +kernel
theorem dX2_readLeaf_84 : decode cX2_readLeaf 84 = .ok (.ireturn, 1) := by decide +kernel
theorem dX2_readLeaf_85 : decode cX2_readLeaf 85 = .ok (.aload_n 1, 1) := by decide +kernel
theorem dX2_readLeaf_86 : decode cX2_readLeaf 86 = .ok (.iload_n 2, 1) := by decide +kernel
theorem dX2_readLeaf_87 : decode cX2_readLeaf 87 = .ok (.ifCond .eq 11, 3) := by decide +kernel
theorem dX2_readLeaf_90 : decode cX2_readLeaf 90 = .ok (.sipush 10000, 3) := by decide +kernel
theorem dX2_readLeaf_93 : decode cX2_readLeaf 93 = .ok (.iload_n 3, 1) := by decide +kernel
theorem dX2_readLeaf_94 : decode cX2_readLeaf 94 = .ok (.iadd, 1) := by decide +kernel
theorem dX2_readLeaf_95 : decode cX2_readLeaf 95 = .ok (.goto 7, 3) := by decide +kernel
theorem dX2_readLeaf_98 : decode cX2_readLeaf 98 = .ok (.aload_n 0, 1) := by decide +kernel
theorem dX2_readLeaf_99 : decode cX2_readLeaf 99 = .ok (.getfield 37, 3) := by decide +kernel
theorem dX2_readLeaf_102 : decode cX2_readLeaf 102 = .ok (.invokevirtual 191, 3) := by decide +kernel
theorem dX2_readLeaf_105 : decode cX2_readLeaf 105 = .ok (.aload_n 0, 1) := by decide +kernel
theorem dX2_readLeaf_106 : decode cX2_readLeaf 106 = .ok (.invokevirtual 61, 3) := by decide +kernel
theorem dX2_readLeaf_109 : decode cX2_readLeaf 109 = .ok (.iconst 1, 1) := by decide +kernel
theorem dX2_readLeaf_110 : decode cX2_readLeaf 110 = .ok (.ireturn, 1) := by decide +kernel
