theorem dX5_init_0 : decode cX5_init 0 = .ok (.aload_n 0, 1) := by decide +kernel
theorem dX5_init_1 : decode cX5_init 1 = .ok (.invokespecial 3, 3) := by decide +kernel
theorem dX5_init_4 : decode cX5_init 4 = .ok (.aload_n 0, 1) := by decide +kernel
theorem dX5_init_5 : decode cX5_init 5 = .ok (.bipush 6, 2) := by decide +kernel
theorem dX5_init_7 : decode cX5_init 7 = .ok (.newarray .int, 2) := by decide +kernel
theorem dX5_init_9 : decode cX5_init 9 = .ok (.putfield 9, 3) := by decide +kernel
theorem dX5_init_12 : decode cX5_init 12 = .ok (.aload_n 0, 1) := by decide +kernel
theorem dX5_init_13 : decode cX5_init 13 = .ok (.bipush 6, 2) := by decide +kernel
theorem dX5_init_15 : decode cX5_init 15 = .ok (.newarray .int, 2) := by decide +kernel
theorem dX5_init_17 : decode cX5_init 17 = .ok (.putfield 15, 3) := by decide +kernel
theorem dX5_init_20 : decode cX5_init 20 = .ok (.aload_n 0, 1) := by decide +kernel
theorem dX5_init_21 : decode cX5_init 21 = .ok (.bipush 36, 2) := by decide +kernel
theorem dX5_init_23 : decode cX5_init 23 = .ok (.newarray .int, 2) := by decide +kernel
theorem dX5_init_25 : decode cX5_init 25 = .ok (.putfield 18, 3) := by decide +kernel
theorem dX5_init_28 : decode cX5_init 28 = .ok (.aload_n 0, 1) := by decide +kernel
theorem dX5_init_29 : decode cX5_init 29 = .ok (.bipush 64, 2) := by decide +kernel
theorem dX5_init_31 : decode cX5_init 31 = .ok (.newarray .int, 2) := by decide +kernel
theorem dX5_init_33 : decode cX5_init 33 = .ok (.putfield 21, 3) := by decide +kernel
theorem dX5_init_36 : decode cX5_init 36 = .ok (.aload_n 0, 1) := by decide +kernel
theorem dX5_init_37 : decode cX5_init 37 = .ok (.iconst 0, 1) := by decide +kernel
theorem dX5_init_38 : decode cX5_init 38 = .ok (.putfield 24, 3) := by decide +kernel
theorem dX5_init_41 : decode cX5_init 41 = .ok (.aload_n 0, 1) := by decide +kernel
theorem dX5_init_42 : decode cX5_init 42 = .ok (.aload_n 1, 1) := by decide +kernel
theorem dX5_init_43 : decode cX5_init 43 = .ok (.putfield 28, 3) := by decide +kernel
theorem dX5_init_46 : decode cX5_init 46 = .ok (.aload_n 0, 1) := by decide +kernel
theorem dX5_init_47 : decode cX5_init 47 = .ok (.aload_n 2, 1) := by decide +kernel
theorem dX5_init_48 : decode cX5_init 48 = .ok (.putfield 32, 3) := by decide +kernel
theorem dX5_init_51 : decode cX5_init 51 = .ok (.return_, 1) := by decide +kernel
theorem dX5_guestAt_0 : decode cX5_guestAt 0 = .ok (.iload_n 1, 1) := by decide +kernel
theorem dX5_guestAt_1 : decode cX5_guestAt 1 = .ok (.ifCond .lt 20, 3) := by decide +kernel
theorem dX5_guestAt_4 : decode cX5_guestAt 4 = .ok (.iload_n 1, 1) := by decide +kernel
theorem dX5_guestAt_5 : decode cX5_guestAt 5 = .ok (.aload_n 0, 1) := by decide +kernel
theorem dX5_guestAt_6 : decode cX5_guestAt 6 = .ok (.getfield 24, 3) := by decide +kernel
theorem dX5_guestAt_9 : decode cX5_guestAt 9 = .ok (.if_icmp .ge 12, 3) := by decide +kernel
theorem dX5_guestAt_12 : decode cX5_guestAt 12 = .ok (.aload_n 0, 1) := by decide +kernel
theorem dX5_guestAt_13 : decode cX5_guestAt 13 = .ok (.getfield 15, 3) := by decide +kernel
theorem dX5_guestAt_16 : decode cX5_guestAt 16 = .ok (.iload_n 1, 1) := by decide +kernel
theorem dX5_guestAt_17 : decode cX5_guestAt 17 = .ok (.iaload, 1) := by decide +kernel
theorem dX5_guestAt_18 : decode cX5_guestAt 18 = .ok (.goto 4, 3) := by decide +kernel
theorem dX5_guestAt_21 : decode cX5_guestAt 21 = .ok (.iconst (-1), 1) := by decide +kernel
theorem dX5_guestAt_22 : decode cX5_guestAt 22 = .ok (.ireturn, 1) := by decide +kernel
theorem dX5_seat_0 : decode cX5_seat 0 = .ok (.aload_n 0, 1) := by decide +kernel
theorem dX5_seat_1 : decode cX5_seat 1 = .ok (.iload_n 1, 1) := by decide +kernel
theorem dX5_seat_2 : decode cX5_seat 2 = .ok (.invokevirtual 36, 3) := by decide +kernel
theorem dX5_seat_5 : decode cX5_seat 5 = .ok (.iconst 0, 1) := by decide +kernel
theorem dX5_seat_6 : decode cX5_seat 6 = .ok (.istore_n 3, 1) := by decide +kernel
theorem dX5_seat_7 : decode cX5_seat 7 = .ok (.iload_n 3, 1) := by decide +kernel
theorem dX5_seat_8 : decode cX5_seat 8 = .ok (.aload_n 0, 1) := by decide +kernel
theorem dX5_seat_9 : decode cX5_seat 9 = .ok (.getfield 24, 3) := by decide +kernel
theorem dX5_seat_12 : decode cX5_seat 12 = .ok (.if_icmp .ge 47, 3) := by decide +kernel
theorem dX5_seat_15 : decode cX5_seat 15 = .ok (.iconst 0, 1) := by decide +kernel
theorem dX5_seat_16 : decode cX5_seat 16 = .ok (.istore 4, 2) := by decide +kernel
theorem dX5_seat_18 : decode cX5_seat 18 = .ok (.iload 4, 2) := by decide +kernel
theorem dX5_seat_20 : decode cX5_seat 20 = .ok (.aload_n 0, 1) := by decide +kernel
theorem dX5_seat_21 : decode cX5_seat 21 = .ok (.getfield 24, 3) := by decide +kernel
theorem dX5_seat_24 : decode cX5_seat 24 = .ok (.if_icmp .ge 29, 3) := by decide +kernel
theorem dX5_seat_27 : decode cX5_seat 27 = .ok (.aload_n 0, 1) := by decide +kernel
theorem dX5_seat_28 : decode cX5_seat 28 = .ok (.getfield 18, 3) := by decide +kernel
theorem dX5_seat_31 : decode cX5_seat 31 = .ok (.iload_n 3, 1) := by decide +kernel
theorem dX5_seat_32 : decode cX5_seat 32 = .ok (.bipush 6, 2) := by decide +kernel
theorem dX5_seat_34 : decode cX5_seat 34 = .ok (.imul, 1) := by decide +kernel
theorem dX5_seat_35 : decode cX5_seat 35 = .ok (.iload 4, 2) := by decide +kernel
theorem dX5_seat_37 : decode cX5_seat 37 = .ok (.iadd, 1) := by decide +kernel
theorem dX5_seat_38 : decode cX5_seat 38 = .ok (.aload_n 0, 1) := by decide +kernel
theorem dX5_seat_39 : decode cX5_seat 39 = .ok (.iload_n 3, 1) := by decide +kernel
theorem dX5_seat_40 : decode cX5_seat 40 = .ok (.iload 4, 2) := by decide +kernel
theorem dX5_seat_42 : decode cX5_seat 42 = .ok (.iload_n 2, 1) := by decide +kernel
theorem dX5_seat_43 : decode cX5_seat 43 = .ok (.invokevirtual 40, 3) := by decide +kernel
theorem dX5_seat_46 : decode cX5_seat 46 = .ok (.iastore, 1) := by decide +kernel
theorem dX5_seat_47 : decode cX5_seat 47 = .ok (.iinc 4 1, 3) := by decide +kernel
theorem dX5_seat_50 : decode cX5_seat 50 = .ok (.goto (-32), 3) := by decide +kernel
theorem dX5_seat_53 : decode cX5_seat 53 = .ok (.iinc 3 1, 3) := by decide +kernel
theorem dX5_seat_56 : decode cX5_seat 56 = .ok (.goto (-49), 3) := by decide +kernel
theorem dX5_seat_59 : decode cX5_seat 59 = .ok (.aload_n 0, 1) := by decide +kernel
theorem dX5_seat_60 : decode cX5_seat 60 = .ok (.invokevirtual 44, 3) := by decide +kernel
theorem dX5_seat_63 : decode cX5_seat 63 = .ok (.aload_n 0, 1) := by decide +kernel
theorem dX5_seat_64 : decode cX5_seat 64 = .ok (.invokevirtual 47, 3) := by decide +kernel
theorem dX5_seat_67 : decode cX5_seat 67 = .ok (.return_, 1) := by decide +kernel
theorem dX5_invite_0 : decode cX5_invite 0 = .ok (.aload_n 0, 1) := by decide +kernel
theorem dX5_invite_1 : decode cX5_invite 1 = .ok (.iconst 0, 1) := by decide +kernel
theorem dX5_invite_2 : decode cX5_invite 2 = .ok (.putfield 24, 3) := by decide +kernel
theorem dX5_invite_5 : decode cX5_invite 5 = .ok (.iconst 0, 1) := by decide +kernel
theorem dX5_invite_6 : decode cX5_invite 6 = .ok (.istore_n 2, 1) := by decide +kernel
theorem dX5_invite_7 : decode cX5_invite 7 = .ok (.iload_n 2, 1) := by decide +kernel
theorem dX5_invite_8 : decode cX5_invite 8 = .ok (.aload_n 0, 1) := by decide +kernel
theorem dX5_invite_9 : decode cX5_invite 9 = .ok (.getfield 28, 3) := by decide +kernel
theorem dX5_invite_12 : decode cX5_invite 12 = .ok (.getfield 50, 3) := by decide +kernel
theorem dX5_invite_15 : decode cX5_invite 15 = .ok (.if_icmp .ge 47, 3) := by decide +kernel
theorem dX5_invite_18 : decode cX5_invite 18 = .ok (.aload_n 0, 1) := by decide +kernel
theorem dX5_invite_19 : decode cX5_invite 19 = .ok (.getfield 24, 3) := by decide +kernel
theorem dX5_invite_22 : decode cX5_invite 22 = .ok (.bipush 6, 2) := by decide +kernel
theorem dX5_invite_24 : decode cX5_invite 24 = .ok (.if_icmp .ge 38, 3) := by decide +kernel
theorem dX5_invite_27 : decode cX5_invite 27 = .ok (.iload_n 1, 1) := by decide +kernel
theorem dX5_invite_28 : decode cX5_invite 28 = .ok (.iload_n 2, 1) := by decide +kernel
theorem dX5_invite_29 : decode cX5_invite 29 = .ok (.ishr, 1) := by decide +kernel
theorem dX5_invite_30 : decode cX5_invite 30 = .ok (.iconst 1, 1) := by decide +kernel
theorem dX5_invite_31 : decode cX5_invite 31 = .ok (.iand, 1) := by decide +kernel
theorem dX5_invite_32 : decode cX5_invite 32 = .ok (.iconst 1, 1) := by decide +kernel
theorem dX5_invite_33 : decode cX5_invite 33 = .ok (.if_icmp .ne 23, 3) := by decide +kernel
theorem dX5_invite_36 : decode cX5_invite 36 = .ok (.aload_n 0, 1) := by decide +kernel
theorem dX5_invite_37 : decode cX5_invite 37 = .ok (.getfield 9, 3) := by decide +kernel
theorem dX5_invite_40 : decode cX5_invite 40 = .ok (.aload_n 0, 1) := by decide +kernel
theorem dX5_invite_41 : decode cX5_invite 41 = .ok (.getfield 24, 3) := by decide +kernel
theorem dX5_invite_44 : decode cX5_invite 44 = .ok (.iload_n 2, 1) := by decide +kernel
theorem dX5_invite_45 : decode cX5_invite 45 = .ok (.iastore, 1) := by decide +kernel
theorem dX5_invite_46 : decode cX5_invite 46 = .ok (.aload_n 0, 1) := by decide +kernel
theorem dX5_invite_47 : decode cX5_invite 47 = .ok (.dup, 1) := by decide +kernel
theorem dX5_invite_48 : decode cX5_invite 48 = .ok (.getfield 24, 3) := by decide +kernel
theorem dX5_invite_51 : decode cX5_invite 51 = .ok (.iconst 1, 1) := by decide +kernel
theorem dX5_invite_52 : decode cX5_invite 52 = .ok (.iadd, 1) := by decide +kernel
theorem dX5_invite_53 : decode cX5_invite 53 = .ok (.putfield 24, 3) := by decide +kernel
theorem dX5_invite_56 : decode cX5_invite 56 = .ok (.iinc 2 1, 3) := by decide +kernel
theorem dX5_invite_59 : decode cX5_invite 59 = .ok (.goto (-52), 3) := by decide +kernel
theorem dX5_invite_62 : decode cX5_invite 62 = .ok (.return_, 1) := by decide +kernel
theorem dX5_keptBy_0 : decode cX5_keptBy 0 = .ok (.iload_n 2, 1) := by decide +kernel
theorem dX5_keptBy_1 : decode cX5_keptBy 1 = .ok (.ifCond .ne 7, 3) := by decide +kernel
theorem dX5_keptBy_4 : decode cX5_keptBy 4 = .ok (.iconst 1, 1) := by decide +kernel
theorem dX5_keptBy_5 : decode cX5_keptBy 5 = .ok (.goto 26, 3) := by decide +kernel
theorem dX5_keptBy_8 : decode cX5_keptBy 8 = .ok (.bipush 10, 2) := by decide +kernel
theorem dX5_keptBy_10 : decode cX5_keptBy 10 = .ok (.aload_n 0, 1) := by decide +kernel
theorem dX5_keptBy_11 : decode cX5_keptBy 11 = .ok (.getfield 32, 3) := by decide +kernel
theorem dX5_keptBy_14 : decode cX5_keptBy 14 = .ok (.iconst 3, 1) := by decide +kernel
theorem dX5_keptBy_15 : decode cX5_keptBy 15 = .ok (.aload_n 0, 1) := by decide +kernel
theorem dX5_keptBy_16 : decode cX5_keptBy 16 = .ok (.getfield 9, 3) := by decide +kernel
theorem dX5_keptBy_19 : decode cX5_keptBy 19 = .ok (.iload_n 1, 1) := by decide +kernel
theorem dX5_keptBy_20 : decode cX5_keptBy 20 = .ok (.iaload, 1) := by decide +kernel
theorem dX5_keptBy_21 : decode cX5_keptBy 21 = .ok (.iload_n 3, 1) := by decide +kernel
theorem dX5_keptBy_22 : decode cX5_keptBy 22 = .ok (.aload_n 0, 1) := by decide +kernel
theorem dX5_keptBy_23 : decode cX5_keptBy 23 = .ok (.getfield 24, 3) := by decide +kernel
theorem dX5_keptBy_26 : decode cX5_keptBy 26 = .ok (.iload_n 2, 1) := by decide +kernel
theorem dX5_keptBy_27 : decode cX5_keptBy 27 = .ok (.invokevirtual 55, 3) := by decide +kernel
theorem dX5_keptBy_30 : decode cX5_keptBy 30 = .ok (.isub, 1) := by decide +kernel
theorem dX5_keptBy_31 : decode cX5_keptBy 31 = .ok (.ireturn, 1) := by decide +kernel
theorem dX5_weigh_0 : decode cX5_weigh 0 = .ok (.aload_n 0, 1) := by decide +kernel
theorem dX5_weigh_1 : decode cX5_weigh 1 = .ok (.getfield 21, 3) := by decide +kernel
theorem dX5_weigh_4 : decode cX5_weigh 4 = .ok (.iconst 0, 1) := by decide +kernel
theorem dX5_weigh_5 : decode cX5_weigh 5 = .ok (.iconst 1, 1) := by decide +kernel
theorem dX5_weigh_6 : decode cX5_weigh 6 = .ok (.iastore, 1) := by decide +kernel
theorem dX5_weigh_7 : decode cX5_weigh 7 = .ok (.iconst 1, 1) := by decide +kernel
theorem dX5_weigh_8 : decode cX5_weigh 8 = .ok (.istore_n 1, 1) := by decide +kernel
theorem dX5_weigh_9 : decode cX5_weigh 9 = .ok (.iload_n 1, 1) := by decide +kernel
theorem dX5_weigh_10 : decode cX5_weigh 10 = .ok (.iconst 1, 1) := by decide +kernel
theorem dX5_weigh_11 : decode cX5_weigh 11 = .ok (.aload_n 0, 1) := by decide +kernel
theorem dX5_weigh_12 : decode cX5_weigh 12 = .ok (.getfield 24, 3) := by decide +kernel
theorem dX5_weigh_15 : decode cX5_weigh 15 = .ok (.ishl, 1) := by decide +kernel
theorem dX5_weigh_16 : decode cX5_weigh 16 = .ok (.if_icmp .ge 71, 3) := by decide +kernel
theorem dX5_weigh_19 : decode cX5_weigh 19 = .ok (.iload_n 1, 1) := by decide +kernel
theorem dX5_weigh_20 : decode cX5_weigh 20 = .ok (.aload_n 0, 1) := by decide +kernel
theorem dX5_weigh_21 : decode cX5_weigh 21 = .ok (.getfield 21, 3) := by decide +kernel
theorem dX5_weigh_24 : decode cX5_weigh 24 = .ok (.arraylength, 1) := by decide +kernel
theorem dX5_weigh_25 : decode cX5_weigh 25 = .ok (.if_icmp .ge 62, 3) := by decide +kernel
theorem dX5_weigh_28 : decode cX5_weigh 28 = .ok (.aload_n 0, 1) := by decide +kernel
theorem dX5_weigh_29 : decode cX5_weigh 29 = .ok (.getfield 21, 3) := by decide +kernel
theorem dX5_weigh_32 : decode cX5_weigh 32 = .ok (.iload_n 1, 1) := by decide +kernel
theorem dX5_weigh_33 : decode cX5_weigh 33 = .ok (.iconst 0, 1) := by decide +kernel
theorem dX5_weigh_34 : decode cX5_weigh 34 = .ok (.iastore, 1) := by decide +kernel
theorem dX5_weigh_35 : decode cX5_weigh 35 = .ok (.iconst 0, 1) := by decide +kernel
theorem dX5_weigh_36 : decode cX5_weigh 36 = .ok (.istore_n 2, 1) := by decide +kernel
theorem dX5_weigh_37 : decode cX5_weigh 37 = .ok (.iload_n 2, 1) := by decide +kernel
theorem dX5_weigh_38 : decode cX5_weigh 38 = .ok (.aload_n 0, 1) := by decide +kernel
theorem dX5_weigh_39 : decode cX5_weigh 39 = .ok (.getfield 24, 3) := by decide +kernel
theorem dX5_weigh_42 : decode cX5_weigh 42 = .ok (.if_icmp .ge 39, 3) := by decide +kernel
theorem dX5_weigh_45 : decode cX5_weigh 45 = .ok (.iload_n 1, 1) := by decide +kernel
theorem dX5_weigh_46 : decode cX5_weigh 46 = .ok (.iload_n 2, 1) := by decide +kernel
theorem dX5_weigh_47 : decode cX5_weigh 47 = .ok (.ishr, 1) := by decide +kernel
theorem dX5_weigh_48 : decode cX5_weigh 48 = .ok (.iconst 1, 1) := by decide +kernel
theorem dX5_weigh_49 : decode cX5_weigh 49 = .ok (.iand, 1) := by decide +kernel
theorem dX5_weigh_50 : decode cX5_weigh 50 = .ok (.iconst 1, 1) := by decide +kernel
theorem dX5_weigh_51 : decode cX5_weigh 51 = .ok (.if_icmp .ne 24, 3) := by decide +kernel
theorem dX5_weigh_54 : decode cX5_weigh 54 = .ok (.aload_n 0, 1) := by decide +kernel
theorem dX5_weigh_55 : decode cX5_weigh 55 = .ok (.getfield 21, 3) := by decide +kernel
theorem dX5_weigh_58 : decode cX5_weigh 58 = .ok (.iload_n 1, 1) := by decide +kernel
theorem dX5_weigh_59 : decode cX5_weigh 59 = .ok (.aload_n 0, 1) := by decide +kernel
theorem dX5_weigh_60 : decode cX5_weigh 60 = .ok (.getfield 21, 3) := by decide +kernel
theorem dX5_weigh_63 : decode cX5_weigh 63 = .ok (.iload_n 1, 1) := by decide +kernel
theorem dX5_weigh_64 : decode cX5_weigh 64 = .ok (.iaload, 1) := by decide +kernel
theorem dX5_weigh_65 : decode cX5_weigh 65 = .ok (.aload_n 0, 1) := by decide +kernel
theorem dX5_weigh_66 : decode cX5_weigh 66 = .ok (.iload_n 1, 1) := by decide +kernel
theorem dX5_weigh_67 : decode cX5_weigh 67 = .ok (.iload_n 2, 1) := by decide +kernel
theorem dX5_weigh_68 : decode cX5_weigh 68 = .ok (.invokevirtual 61, 3) := by decide +kernel
theorem dX5_weigh_71 : decode cX5_weigh 71 = .ok (.invokestatic 65, 3) := by decide +kernel
theorem dX5_weigh_74 : decode cX5_weigh 74 = .ok (.iastore, 1) := by decide +kernel
theorem dX5_weigh_75 : decode cX5_weigh 75 = .ok (.iinc 2 1, 3) := by decide +kernel
theorem dX5_weigh_78 : decode cX5_weigh 78 = .ok (.goto (-41), 3) := by decide +kernel
theorem dX5_weigh_81 : decode cX5_weigh 81 = .ok (.iinc 1 1, 3) := by decide +kernel
theorem dX5_weigh_84 : decode cX5_weigh 84 = .ok (.goto (-75), 3) := by decide +kernel
theorem dX5_weigh_87 : decode cX5_weigh 87 = .ok (.return_, 1) := by decide +kernel
theorem dX5_leading_0 : decode cX5_leading 0 = .ok (.iload_n 2, 1) := by decide +kernel
theorem dX5_leading_1 : decode cX5_leading 1 = .ok (.bipush 6, 2) := by decide +kernel
theorem dX5_leading_3 : decode cX5_leading 3 = .ok (.imul, 1) := by decide +kernel
theorem dX5_leading_4 : decode cX5_leading 4 = .ok (.aload_n 0, 1) := by decide +kernel
theorem dX5_leading_5 : decode cX5_leading 5 = .ok (.getfield 24, 3) := by decide +kernel
theorem dX5_leading_8 : decode cX5_leading 8 = .ok (.iadd, 1) := by decide +kernel
theorem dX5_leading_9 : decode cX5_leading 9 = .ok (.iload_n 1, 1) := by decide +kernel
theorem dX5_leading_10 : decode cX5_leading 10 = .ok (.invokestatic 70, 3) := by decide +kernel
theorem dX5_leading_13 : decode cX5_leading 13 = .ok (.isub, 1) := by decide +kernel
theorem dX5_leading_14 : decode cX5_leading 14 = .ok (.istore_n 3, 1) := by decide +kernel
theorem dX5_leading_15 : decode cX5_leading 15 = .ok (.iload_n 1, 1) := by decide +kernel
theorem dX5_leading_16 : decode cX5_leading 16 = .ok (.iconst 1, 1) := by decide +kernel
theorem dX5_leading_17 : decode cX5_leading 17 = .ok (.iload_n 2, 1) := by decide +kernel
theorem dX5_leading_18 : decode cX5_leading 18 = .ok (.ishl, 1) := by decide +kernel
theorem dX5_leading_19 : decode cX5_leading 19 = .ok (.iconst (-1), 1) := by decide +kernel
theorem dX5_leading_20 : decode cX5_leading 20 = .ok (.ixor, 1) := by decide +kernel
theorem dX5_leading_21 : decode cX5_leading 21 = .ok (.iand, 1) := by decide +kernel
theorem dX5_leading_22 : decode cX5_leading 22 = .ok (.istore 4, 2) := by decide +kernel
theorem dX5_leading_24 : decode cX5_leading 24 = .ok (.iload_n 3, 1) := by decide +kernel
theorem dX5_leading_25 : decode cX5_leading 25 = .ok (.ifCond .lt 27, 3) := by decide +kernel
theorem dX5_leading_28 : decode cX5_leading 28 = .ok (.iload_n 3, 1) := by decide +kernel
theorem dX5_leading_29 : decode cX5_leading 29 = .ok (.aload_n 0, 1) := by decide +kernel
theorem dX5_leading_30 : decode cX5_leading 30 = .ok (.getfield 18, 3) := by decide +kernel
theorem dX5_leading_33 : decode cX5_leading 33 = .ok (.arraylength, 1) := by decide +kernel
theorem dX5_leading_34 : decode cX5_leading 34 = .ok (.if_icmp .ge 18, 3) := by decide +kernel
theorem dX5_leading_37 : decode cX5_leading 37 = .ok (.iload 4, 2) := by decide +kernel
theorem dX5_leading_39 : decode cX5_leading 39 = .ok (.ifCond .lt 13, 3) := by decide +kernel
theorem dX5_leading_42 : decode cX5_leading 42 = .ok (.iload 4, 2) := by decide +kernel
theorem dX5_leading_44 : decode cX5_leading 44 = .ok (.aload_n 0, 1) := by decide +kernel
theorem dX5_leading_45 : decode cX5_leading 45 = .ok (.getfield 21, 3) := by decide +kernel
theorem dX5_leading_48 : decode cX5_leading 48 = .ok (.arraylength, 1) := by decide +kernel
theorem dX5_leading_49 : decode cX5_leading 49 = .ok (.if_icmp .lt 5, 3) := by decide +kernel
theorem dX5_leading_52 : decode cX5_leading 52 = .ok (.iconst 0, 1) := by decide +kernel
theorem dX5_leading_53 : decode cX5_leading 53 = .ok (.ireturn, 1) := by decide +kernel
theorem dX5_leading_54 : decode cX5_leading 54 = .ok (.aload_n 0, 1) := by decide +kernel
theorem dX5_leading_55 : decode cX5_leading 55 = .ok (.getfield 18, 3) := by decide +kernel
theorem dX5_leading_58 : decode cX5_leading 58 = .ok (.iload_n 3, 1) := by decide +kernel
theorem dX5_leading_59 : decode cX5_leading 59 = .ok (.iaload, 1) := by decide +kernel
theorem dX5_leading_60 : decode cX5_leading 60 = .ok (.aload_n 0, 1) := by decide +kernel
theorem dX5_leading_61 : decode cX5_leading 61 = .ok (.getfield 21, 3) := by decide +kernel
theorem dX5_leading_64 : decode cX5_leading 64 = .ok (.iload 4, 2) := by decide +kernel
theorem dX5_leading_66 : decode cX5_leading 66 = .ok (.iaload, 1) := by decide +kernel
theorem dX5_leading_67 : decode cX5_leading 67 = .ok (.imul, 1) := by decide +kernel
theorem dX5_leading_68 : decode cX5_leading 68 = .ok (.ireturn, 1) := by decide +kernel
theorem dX5_choose_0 : decode cX5_choose 0 = .ok (.iconst 1, 1) := by decide +kernel
theorem dX5_choose_1 : decode cX5_choose 1 = .ok (.aload_n 0, 1) := by decide +kernel
theorem dX5_choose_2 : decode cX5_choose 2 = .ok (.getfield 24, 3) := by decide +kernel
theorem dX5_choose_5 : decode cX5_choose 5 = .ok (.ishl, 1) := by decide +kernel
theorem dX5_choose_6 : decode cX5_choose 6 = .ok (.iconst 1, 1) := by decide +kernel
theorem dX5_choose_7 : decode cX5_choose 7 = .ok (.isub, 1) := by decide +kernel
theorem dX5_choose_8 : decode cX5_choose 8 = .ok (.istore_n 1, 1) := by decide +kernel
theorem dX5_choose_9 : decode cX5_choose 9 = .ok (.aload_n 0, 1) := by decide +kernel
theorem dX5_choose_10 : decode cX5_choose 10 = .ok (.getfield 21, 3) := by decide +kernel
theorem dX5_choose_13 : decode cX5_choose 13 = .ok (.iload_n 1, 1) := by decide +kernel
theorem dX5_choose_14 : decode cX5_choose 14 = .ok (.iaload, 1) := by decide +kernel
theorem dX5_choose_15 : decode cX5_choose 15 = .ok (.istore_n 2, 1) := by decide +kernel
theorem dX5_choose_16 : decode cX5_choose 16 = .ok (.iconst 1, 1) := by decide +kernel
theorem dX5_choose_17 : decode cX5_choose 17 = .ok (.istore_n 3, 1) := by decide +kernel
theorem dX5_choose_18 : decode cX5_choose 18 = .ok (.iconst 0, 1) := by decide +kernel
theorem dX5_choose_19 : decode cX5_choose 19 = .ok (.istore 4, 2) := by decide +kernel
theorem dX5_choose_21 : decode cX5_choose 21 = .ok (.iload 4, 2) := by decide +kernel
theorem dX5_choose_23 : decode cX5_choose 23 = .ok (.aload_n 0, 1) := by decide +kernel
theorem dX5_choose_24 : decode cX5_choose 24 = .ok (.getfield 24, 3) := by decide +kernel
theorem dX5_choose_27 : decode cX5_choose 27 = .ok (.if_icmp .ge 57, 3) := by decide +kernel
theorem dX5_choose_30 : decode cX5_choose 30 = .ok (.aload_n 0, 1) := by decide +kernel
theorem dX5_choose_31 : decode cX5_choose 31 = .ok (.iload_n 1, 1) := by decide +kernel
theorem dX5_choose_32 : decode cX5_choose 32 = .ok (.iload_n 3, 1) := by decide +kernel
theorem dX5_choose_33 : decode cX5_choose 33 = .ok (.iload_n 2, 1) := by decide +kernel
theorem dX5_choose_34 : decode cX5_choose 34 = .ok (.invokevirtual 76, 3) := by decide +kernel
theorem dX5_choose_37 : decode cX5_choose 37 = .ok (.istore 5, 2) := by decide +kernel
theorem dX5_choose_39 : decode cX5_choose 39 = .ok (.aload_n 0, 1) := by decide +kernel
theorem dX5_choose_40 : decode cX5_choose 40 = .ok (.getfield 15, 3) := by decide +kernel
theorem dX5_choose_43 : decode cX5_choose 43 = .ok (.iload 4, 2) := by decide +kernel
theorem dX5_choose_45 : decode cX5_choose 45 = .ok (.aload_n 0, 1) := by decide +kernel
theorem dX5_choose_46 : decode cX5_choose 46 = .ok (.getfield 9, 3) := by decide +kernel
theorem dX5_choose_49 : decode cX5_choose 49 = .ok (.iload 5, 2) := by decide +kernel
theorem dX5_choose_51 : decode cX5_choose 51 = .ok (.iaload, 1) := by decide +kernel
theorem dX5_choose_52 : decode cX5_choose 52 = .ok (.iastore, 1) := by decide +kernel
theorem dX5_choose_53 : decode cX5_choose 53 = .ok (.iload_n 3, 1) := by decide +kernel
theorem dX5_choose_54 : decode cX5_choose 54 = .ok (.aload_n 0, 1) := by decide +kernel
theorem dX5_choose_55 : decode cX5_choose 55 = .ok (.getfield 18, 3) := by decide +kernel
theorem dX5_choose_58 : decode cX5_choose 58 = .ok (.iload 5, 2) := by decide +kernel
theorem dX5_choose_60 : decode cX5_choose 60 = .ok (.bipush 6, 2) := by decide +kernel
theorem dX5_choose_62 : decode cX5_choose 62 = .ok (.imul, 1) := by decide +kernel
theorem dX5_choose_63 : decode cX5_choose 63 = .ok (.iload 4, 2) := by decide +kernel
theorem dX5_choose_65 : decode cX5_choose 65 = .ok (.iadd, 1) := by decide +kernel
theorem dX5_choose_66 : decode cX5_choose 66 = .ok (.iaload, 1) := by decide +kernel
theorem dX5_choose_67 : decode cX5_choose 67 = .ok (.imul, 1) := by decide +kernel
theorem dX5_choose_68 : decode cX5_choose 68 = .ok (.istore_n 3, 1) := by decide +kernel
theorem dX5_choose_69 : decode cX5_choose 69 = .ok (.iload_n 1, 1) := by decide +kernel
theorem dX5_choose_70 : decode cX5_choose 70 = .ok (.iconst 1, 1) := by decide +kernel
theorem dX5_choose_71 : decode cX5_choose 71 = .ok (.iload 5, 2) := by decide +kernel
theorem dX5_choose_73 : decode cX5_choose 73 = .ok (.ishl, 1) := by decide +kernel
theorem dX5_choose_74 : decode cX5_choose 74 = .ok (.iconst (-1), 1) := by decide +kernel
theorem dX5_choose_75 : decode cX5_choose 75 = .ok (.ixor, 1) := by decide +kernel
theorem dX5_choose_76 : decode cX5_choose 76 = .ok (.iand, 1) := by decide +kernel
theorem dX5_choose_77 : decode cX5_choose 77 = .ok (.istore_n 1, 1) := by decide +kernel
theorem dX5_choose_78 : decode cX5_choose 78 = .ok (.iinc 4 1, 3) := by decide +kernel
theorem dX5_choose_81 : decode cX5_choose 81 = .ok (.goto (-60), 3) := by decide +kernel
theorem dX5_choose_84 : decode cX5_choose 84 = .ok (.return_, 1) := by decide +kernel
theorem dX5_firstOf_0 : decode cX5_firstOf 0 = .ok (.iconst 0, 1) := by decide +kernel
theorem dX5_firstOf_1 : decode cX5_firstOf 1 = .ok (.istore 4, 2) := by decide +kernel
theorem dX5_firstOf_3 : decode cX5_firstOf 3 = .ok (.iload 4, 2) := by decide +kernel
theorem dX5_firstOf_5 : decode cX5_firstOf 5 = .ok (.aload_n 0, 1) := by decide +kernel
theorem dX5_firstOf_6 : decode cX5_firstOf 6 = .ok (.getfield 24, 3) := by decide +kernel
theorem dX5_firstOf_9 : decode cX5_firstOf 9 = .ok (.if_icmp .ge 35, 3) := by decide +kernel
theorem dX5_firstOf_12 : decode cX5_firstOf 12 = .ok (.iload_n 1, 1) := by decide +kernel
theorem dX5_firstOf_13 : decode cX5_firstOf 13 = .ok (.iload 4, 2) := by decide +kernel
theorem dX5_firstOf_15 : decode cX5_firstOf 15 = .ok (.ishr, 1) := by decide +kernel
theorem dX5_firstOf_16 : decode cX5_firstOf 16 = .ok (.iconst 1, 1) := by decide +kernel
theorem dX5_firstOf_17 : decode cX5_firstOf 17 = .ok (.iand, 1) := by decide +kernel
theorem dX5_firstOf_18 : decode cX5_firstOf 18 = .ok (.iconst 1, 1) := by decide +kernel
theorem dX5_firstOf_19 : decode cX5_firstOf 19 = .ok (.if_icmp .ne 19, 3) := by decide +kernel
theorem dX5_firstOf_22 : decode cX5_firstOf 22 = .ok (.iload_n 2, 1) := by decide +kernel
theorem dX5_firstOf_23 : decode cX5_firstOf 23 = .ok (.aload_n 0, 1) := by decide +kernel
theorem dX5_firstOf_24 : decode cX5_firstOf 24 = .ok (.iload_n 1, 1) := by decide +kernel
theorem dX5_firstOf_25 : decode cX5_firstOf 25 = .ok (.iload 4, 2) := by decide +kernel
theorem dX5_firstOf_27 : decode cX5_firstOf 27 = .ok (.invokevirtual 61, 3) := by decide +kernel
theorem dX5_firstOf_30 : decode cX5_firstOf 30 = .ok (.imul, 1) := by decide +kernel
theorem dX5_firstOf_31 : decode cX5_firstOf 31 = .ok (.iload_n 3, 1) := by decide +kernel
theorem dX5_firstOf_32 : decode cX5_firstOf 32 = .ok (.if_icmp .ne 6, 3) := by decide +kernel
theorem dX5_firstOf_35 : decode cX5_firstOf 35 = .ok (.iload 4, 2) := by decide +kernel
theorem dX5_firstOf_37 : decode cX5_firstOf 37 = .ok (.ireturn, 1) := by decide +kernel
theorem dX5_firstOf_38 : decode cX5_firstOf 38 = .ok (.iinc 4 1, 3) := by decide +kernel
theorem dX5_firstOf_41 : decode cX5_firstOf 41 = .ok (.goto (-38), 3) := by decide +kernel
theorem dX5_firstOf_44 : decode cX5_firstOf 44 = .ok (.iconst 0, 1) := by decide +kernel
theorem dX5_firstOf_45 : decode cX5_firstOf 45 = .ok (.ireturn, 1) := by decide +kernel
