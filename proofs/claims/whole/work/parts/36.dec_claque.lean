theorem dX7_init_0 : decode cX7_init 0 = .ok (.aload_n 0, 1) := by decide +kernel
theorem dX7_init_1 : decode cX7_init 1 = .ok (.invokespecial 1, 3) := by decide +kernel
theorem dX7_init_4 : decode cX7_init 4 = .ok (.aload_n 0, 1) := by decide +kernel
theorem dX7_init_5 : decode cX7_init 5 = .ok (.new 7, 3) := by decide +kernel
theorem dX7_init_8 : decode cX7_init 8 = .ok (.dup, 1) := by decide +kernel
theorem dX7_init_9 : decode cX7_init 9 = .ok (.invokespecial 9, 3) := by decide +kernel
theorem dX7_init_12 : decode cX7_init 12 = .ok (.putfield 10, 3) := by decide +kernel
theorem dX7_init_15 : decode cX7_init 15 = .ok (.aload_n 0, 1) := by decide +kernel
theorem dX7_init_16 : decode cX7_init 16 = .ok (.new 16, 3) := by decide +kernel
theorem dX7_init_19 : decode cX7_init 19 = .ok (.dup, 1) := by decide +kernel
theorem dX7_init_20 : decode cX7_init 20 = .ok (.invokespecial 18, 3) := by decide +kernel
theorem dX7_init_23 : decode cX7_init 23 = .ok (.putfield 19, 3) := by decide +kernel
theorem dX7_init_26 : decode cX7_init 26 = .ok (.aload_n 0, 1) := by decide +kernel
theorem dX7_init_27 : decode cX7_init 27 = .ok (.new 23, 3) := by decide +kernel
theorem dX7_init_30 : decode cX7_init 30 = .ok (.dup, 1) := by decide +kernel
theorem dX7_init_31 : decode cX7_init 31 = .ok (.invokespecial 25, 3) := by decide +kernel
theorem dX7_init_34 : decode cX7_init 34 = .ok (.putfield 26, 3) := by decide +kernel
theorem dX7_init_37 : decode cX7_init 37 = .ok (.aload_n 0, 1) := by decide +kernel
theorem dX7_init_38 : decode cX7_init 38 = .ok (.new 30, 3) := by decide +kernel
theorem dX7_init_41 : decode cX7_init 41 = .ok (.dup, 1) := by decide +kernel
theorem dX7_init_42 : decode cX7_init 42 = .ok (.invokespecial 32, 3) := by decide +kernel
theorem dX7_init_45 : decode cX7_init 45 = .ok (.putfield 33, 3) := by decide +kernel
theorem dX7_init_48 : decode cX7_init 48 = .ok (.aload_n 0, 1) := by decide +kernel
theorem dX7_init_49 : decode cX7_init 49 = .ok (.iconst 0, 1) := by decide +kernel
theorem dX7_init_50 : decode cX7_init 50 = .ok (.putfield 37, 3) := by decide +kernel
theorem dX7_init_53 : decode cX7_init 53 = .ok (.aload_n 0, 1) := by decide +kernel
theorem dX7_init_54 : decode cX7_init 54 = .ok (.iconst 0, 1) := by decide +kernel
theorem dX7_init_55 : decode cX7_init 55 = .ok (.putfield 41, 3) := by decide +kernel
theorem dX7_init_58 : decode cX7_init 58 = .ok (.return_, 1) := by decide +kernel
theorem dX7_newHouse_0 : decode cX7_newHouse 0 = .ok (.iload_n 1, 1) := by decide +kernel
theorem dX7_newHouse_1 : decode cX7_newHouse 1 = .ok (.iconst 1, 1) := by decide +kernel
theorem dX7_newHouse_2 : decode cX7_newHouse 2 = .ok (.bipush 8, 2) := by decide +kernel
theorem dX7_newHouse_4 : decode cX7_newHouse 4 = .ok (.invokestatic 44, 3) := by decide +kernel
theorem dX7_newHouse_7 : decode cX7_newHouse 7 = .ok (.iload_n 2, 1) := by decide +kernel
theorem dX7_newHouse_8 : decode cX7_newHouse 8 = .ok (.iconst 1, 1) := by decide +kernel
theorem dX7_newHouse_9 : decode cX7_newHouse 9 = .ok (.bipush 10, 2) := by decide +kernel
theorem dX7_newHouse_11 : decode cX7_newHouse 11 = .ok (.invokestatic 44, 3) := by decide +kernel
theorem dX7_newHouse_14 : decode cX7_newHouse 14 = .ok (.aload_n 0, 1) := by decide +kernel
theorem dX7_newHouse_15 : decode cX7_newHouse 15 = .ok (.getfield 10, 3) := by decide +kernel
theorem dX7_newHouse_18 : decode cX7_newHouse 18 = .ok (.iload_n 1, 1) := by decide +kernel
theorem dX7_newHouse_19 : decode cX7_newHouse 19 = .ok (.iload_n 2, 1) := by decide +kernel
theorem dX7_newHouse_20 : decode cX7_newHouse 20 = .ok (.invokevirtual 48, 3) := by decide +kernel
theorem dX7_newHouse_23 : decode cX7_newHouse 23 = .ok (.aload_n 0, 1) := by decide +kernel
theorem dX7_newHouse_24 : decode cX7_newHouse 24 = .ok (.invokevirtual 52, 3) := by decide +kernel
theorem dX7_newHouse_27 : decode cX7_newHouse 27 = .ok (.iload_n 1, 1) := by decide +kernel
theorem dX7_newHouse_28 : decode cX7_newHouse 28 = .ok (.iload_n 2, 1) := by decide +kernel
theorem dX7_newHouse_29 : decode cX7_newHouse 29 = .ok (.imul, 1) := by decide +kernel
theorem dX7_newHouse_30 : decode cX7_newHouse 30 = .ok (.ireturn, 1) := by decide +kernel
theorem dX7_seatPayer_0 : decode cX7_seatPayer 0 = .ok (.aload_n 0, 1) := by decide +kernel
theorem dX7_seatPayer_1 : decode cX7_seatPayer 1 = .ok (.iload_n 1, 1) := by decide +kernel
theorem dX7_seatPayer_2 : decode cX7_seatPayer 2 = .ok (.iload_n 2, 1) := by decide +kernel
theorem dX7_seatPayer_3 : decode cX7_seatPayer 3 = .ok (.invokevirtual 55, 3) := by decide +kernel
theorem dX7_seatPayer_6 : decode cX7_seatPayer 6 = .ok (.astore 4, 2) := by decide +kernel
theorem dX7_seatPayer_8 : decode cX7_seatPayer 8 = .ok (.iload_n 3, 1) := by decide +kernel
theorem dX7_seatPayer_9 : decode cX7_seatPayer 9 = .ok (.iconst 1, 1) := by decide +kernel
theorem dX7_seatPayer_10 : decode cX7_seatPayer 10 = .ok (.bipush 9, 2) := by decide +kernel
theorem dX7_seatPayer_12 : decode cX7_seatPayer 12 = .ok (.invokestatic 44, 3) := by decide +kernel
theorem dX7_seatPayer_15 : decode cX7_seatPayer 15 = .ok (.aload 4, 2) := by decide +kernel
theorem dX7_seatPayer_17 : decode cX7_seatPayer 17 = .ok (.bipush 112, 2) := by decide +kernel
theorem dX7_seatPayer_19 : decode cX7_seatPayer 19 = .ok (.invokevirtual 59, 3) := by decide +kernel
theorem dX7_seatPayer_22 : decode cX7_seatPayer 22 = .ok (.istore 5, 2) := by decide +kernel
theorem dX7_seatPayer_24 : decode cX7_seatPayer 24 = .ok (.aload 4, 2) := by decide +kernel
theorem dX7_seatPayer_26 : decode cX7_seatPayer 26 = .ok (.iload_n 3, 1) := by decide +kernel
theorem dX7_seatPayer_27 : decode cX7_seatPayer 27 = .ok (.putfield 65, 3) := by decide +kernel
theorem dX7_seatPayer_30 : decode cX7_seatPayer 30 = .ok (.iload 5, 2) := by decide +kernel
theorem dX7_seatPayer_32 : decode cX7_seatPayer 32 = .ok (.ireturn, 1) := by decide +kernel
theorem dX7_seatRival_0 : decode cX7_seatRival 0 = .ok (.aload_n 0, 1) := by decide +kernel
theorem dX7_seatRival_1 : decode cX7_seatRival 1 = .ok (.iload_n 1, 1) := by decide +kernel
theorem dX7_seatRival_2 : decode cX7_seatRival 2 = .ok (.iload_n 2, 1) := by decide +kernel
theorem dX7_seatRival_3 : decode cX7_seatRival 3 = .ok (.invokevirtual 55, 3) := by decide +kernel
theorem dX7_seatRival_6 : decode cX7_seatRival 6 = .ok (.bipush 114, 2) := by decide +kernel
theorem dX7_seatRival_8 : decode cX7_seatRival 8 = .ok (.invokevirtual 59, 3) := by decide +kernel
theorem dX7_seatRival_11 : decode cX7_seatRival 11 = .ok (.ireturn, 1) := by decide +kernel
theorem dX7_seatHand_0 : decode cX7_seatHand 0 = .ok (.aload_n 0, 1) := by decide +kernel
theorem dX7_seatHand_1 : decode cX7_seatHand 1 = .ok (.iload_n 1, 1) := by decide +kernel
theorem dX7_seatHand_2 : decode cX7_seatHand 2 = .ok (.invokevirtual 68, 3) := by decide +kernel
theorem dX7_seatHand_5 : decode cX7_seatHand 5 = .ok (.astore 4, 2) := by decide +kernel
theorem dX7_seatHand_7 : decode cX7_seatHand 7 = .ok (.aload_n 0, 1) := by decide +kernel
theorem dX7_seatHand_8 : decode cX7_seatHand 8 = .ok (.iload_n 2, 1) := by decide +kernel
theorem dX7_seatHand_9 : decode cX7_seatHand 9 = .ok (.iload_n 3, 1) := by decide +kernel
theorem dX7_seatHand_10 : decode cX7_seatHand 10 = .ok (.invokevirtual 55, 3) := by decide +kernel
theorem dX7_seatHand_13 : decode cX7_seatHand 13 = .ok (.astore 5, 2) := by decide +kernel
theorem dX7_seatHand_15 : decode cX7_seatHand 15 = .ok (.aload 4, 2) := by decide +kernel
theorem dX7_seatHand_17 : decode cX7_seatHand 17 = .ok (.getfield 72, 3) := by decide +kernel
theorem dX7_seatHand_20 : decode cX7_seatHand 20 = .ok (.aload 5, 2) := by decide +kernel
theorem dX7_seatHand_22 : decode cX7_seatHand 22 = .ok (.if_acmp .ne 13, 3) := by decide +kernel
theorem dX7_seatHand_25 : decode cX7_seatHand 25 = .ok (.new 78, 3) := by decide +kernel
theorem dX7_seatHand_28 : decode cX7_seatHand 28 = .ok (.dup, 1) := by decide +kernel
theorem dX7_seatHand_29 : decode cX7_seatHand 29 = .ok (.ldc 80, 2) := by decide +kernel
theorem dX7_seatHand_31 : decode cX7_seatHand 31 = .ok (.invokespecial 82, 3) := by decide +kernel
theorem dX7_seatHand_34 : decode cX7_seatHand 34 = .ok (.athrow, 1) := by decide +kernel
theorem dX7_seatHand_35 : decode cX7_seatHand 35 = .ok (.aload 4, 2) := by decide +kernel
theorem dX7_seatHand_37 : decode cX7_seatHand 37 = .ok (.getfield 72, 3) := by decide +kernel
theorem dX7_seatHand_40 : decode cX7_seatHand 40 = .ok (.ifnull 14, 3) := by decide +kernel
theorem dX7_seatHand_43 : decode cX7_seatHand 43 = .ok (.aload 4, 2) := by decide +kernel
theorem dX7_seatHand_45 : decode cX7_seatHand 45 = .ok (.getfield 72, 3) := by decide +kernel
theorem dX7_seatHand_48 : decode cX7_seatHand 48 = .ok (.bipush 46, 2) := by decide +kernel
theorem dX7_seatHand_50 : decode cX7_seatHand 50 = .ok (.invokevirtual 59, 3) := by decide +kernel
theorem dX7_seatHand_53 : decode cX7_seatHand 53 = .ok (.pop, 1) := by decide +kernel
theorem dX7_seatHand_54 : decode cX7_seatHand 54 = .ok (.aload 5, 2) := by decide +kernel
theorem dX7_seatHand_56 : decode cX7_seatHand 56 = .ok (.bipush 104, 2) := by decide +kernel
theorem dX7_seatHand_58 : decode cX7_seatHand 58 = .ok (.invokevirtual 59, 3) := by decide +kernel
theorem dX7_seatHand_61 : decode cX7_seatHand 61 = .ok (.istore 6, 2) := by decide +kernel
theorem dX7_seatHand_63 : decode cX7_seatHand 63 = .ok (.aload 5, 2) := by decide +kernel
theorem dX7_seatHand_65 : decode cX7_seatHand 65 = .ok (.aload 4, 2) := by decide +kernel
theorem dX7_seatHand_67 : decode cX7_seatHand 67 = .ok (.putfield 85, 3) := by decide +kernel
theorem dX7_seatHand_70 : decode cX7_seatHand 70 = .ok (.aload 4, 2) := by decide +kernel
theorem dX7_seatHand_72 : decode cX7_seatHand 72 = .ok (.aload 5, 2) := by decide +kernel
theorem dX7_seatHand_74 : decode cX7_seatHand 74 = .ok (.putfield 72, 3) := by decide +kernel
theorem dX7_seatHand_77 : decode cX7_seatHand 77 = .ok (.iload 6, 2) := by decide +kernel
theorem dX7_seatHand_79 : decode cX7_seatHand 79 = .ok (.ireturn, 1) := by decide +kernel
theorem dX7_clearSeat_0 : decode cX7_clearSeat 0 = .ok (.aload_n 0, 1) := by decide +kernel
theorem dX7_clearSeat_1 : decode cX7_clearSeat 1 = .ok (.iload_n 1, 1) := by decide +kernel
theorem dX7_clearSeat_2 : decode cX7_clearSeat 2 = .ok (.iload_n 2, 1) := by decide +kernel
theorem dX7_clearSeat_3 : decode cX7_clearSeat 3 = .ok (.invokevirtual 55, 3) := by decide +kernel
theorem dX7_clearSeat_6 : decode cX7_clearSeat 6 = .ok (.bipush 46, 2) := by decide +kernel
theorem dX7_clearSeat_8 : decode cX7_clearSeat 8 = .ok (.invokevirtual 59, 3) := by decide +kernel
theorem dX7_clearSeat_11 : decode cX7_clearSeat 11 = .ok (.ireturn, 1) := by decide +kernel
theorem dX7_seatAt_0 : decode cX7_seatAt 0 = .ok (.aload_n 0, 1) := by decide +kernel
theorem dX7_seatAt_1 : decode cX7_seatAt 1 = .ok (.iload_n 1, 1) := by decide +kernel
theorem dX7_seatAt_2 : decode cX7_seatAt 2 = .ok (.iload_n 2, 1) := by decide +kernel
theorem dX7_seatAt_3 : decode cX7_seatAt 3 = .ok (.invokevirtual 55, 3) := by decide +kernel
theorem dX7_seatAt_6 : decode cX7_seatAt 6 = .ok (.getfield 89, 3) := by decide +kernel
theorem dX7_seatAt_9 : decode cX7_seatAt 9 = .ok (.ireturn, 1) := by decide +kernel
theorem dX7_addHand_0 : decode cX7_addHand 0 = .ok (.iload_n 1, 1) := by decide +kernel
theorem dX7_addHand_1 : decode cX7_addHand 1 = .ok (.bipush 97, 2) := by decide +kernel
theorem dX7_addHand_3 : decode cX7_addHand 3 = .ok (.if_icmp .eq 7, 3) := by decide +kernel
theorem dX7_addHand_6 : decode cX7_addHand 6 = .ok (.iload_n 1, 1) := by decide +kernel
theorem dX7_addHand_7 : decode cX7_addHand 7 = .ok (.invokestatic 93, 3) := by decide +kernel
theorem dX7_addHand_10 : decode cX7_addHand 10 = .ok (.iload_n 2, 1) := by decide +kernel
theorem dX7_addHand_11 : decode cX7_addHand 11 = .ok (.iconst 1, 1) := by decide +kernel
theorem dX7_addHand_12 : decode cX7_addHand 12 = .ok (.bipush 9, 2) := by decide +kernel
theorem dX7_addHand_14 : decode cX7_addHand 14 = .ok (.invokestatic 44, 3) := by decide +kernel
theorem dX7_addHand_17 : decode cX7_addHand 17 = .ok (.iload_n 3, 1) := by decide +kernel
theorem dX7_addHand_18 : decode cX7_addHand 18 = .ok (.iconst 0, 1) := by decide +kernel
theorem dX7_addHand_19 : decode cX7_addHand 19 = .ok (.iconst 3, 1) := by decide +kernel
theorem dX7_addHand_20 : decode cX7_addHand 20 = .ok (.invokestatic 44, 3) := by decide +kernel
theorem dX7_addHand_23 : decode cX7_addHand 23 = .ok (.iload 4, 2) := by decide +kernel
theorem dX7_addHand_25 : decode cX7_addHand 25 = .ok (.iconst 0, 1) := by decide +kernel
theorem dX7_addHand_26 : decode cX7_addHand 26 = .ok (.bipush 99, 2) := by decide +kernel
theorem dX7_addHand_28 : decode cX7_addHand 28 = .ok (.invokestatic 44, 3) := by decide +kernel
theorem dX7_addHand_31 : decode cX7_addHand 31 = .ok (.aload_n 0, 1) := by decide +kernel
theorem dX7_addHand_32 : decode cX7_addHand 32 = .ok (.getfield 19, 3) := by decide +kernel
theorem dX7_addHand_35 : decode cX7_addHand 35 = .ok (.getfield 97, 3) := by decide +kernel
theorem dX7_addHand_38 : decode cX7_addHand 38 = .ok (.invokevirtual 100, 3) := by decide +kernel
theorem dX7_addHand_41 : decode cX7_addHand 41 = .ok (.bipush 12, 2) := by decide +kernel
theorem dX7_addHand_43 : decode cX7_addHand 43 = .ok (.if_icmp .lt 13, 3) := by decide +kernel
theorem dX7_addHand_46 : decode cX7_addHand 46 = .ok (.new 104, 3) := by decide +kernel
theorem dX7_addHand_49 : decode cX7_addHand 49 = .ok (.dup, 1) := by decide +kernel
theorem dX7_addHand_50 : decode cX7_addHand 50 = .ok (.ldc 106, 2) := by decide +kernel
theorem dX7_addHand_52 : decode cX7_addHand 52 = .ok (.invokespecial 108, 3) := by decide +kernel
theorem dX7_addHand_55 : decode cX7_addHand 55 = .ok (.athrow, 1) := by decide +kernel
theorem dX7_addHand_56 : decode cX7_addHand 56 = .ok (.aload_n 0, 1) := by decide +kernel
theorem dX7_addHand_57 : decode cX7_addHand 57 = .ok (.getfield 19, 3) := by decide +kernel
theorem dX7_addHand_60 : decode cX7_addHand 60 = .ok (.getfield 97, 3) := by decide +kernel
theorem dX7_addHand_63 : decode cX7_addHand 63 = .ok (.new 73, 3) := by decide +kernel
theorem dX7_addHand_66 : decode cX7_addHand 66 = .ok (.dup, 1) := by decide +kernel
theorem dX7_addHand_67 : decode cX7_addHand 67 = .ok (.iload_n 1, 1) := by decide +kernel
theorem dX7_addHand_68 : decode cX7_addHand 68 = .ok (.iload_n 2, 1) := by decide +kernel
theorem dX7_addHand_69 : decode cX7_addHand 69 = .ok (.iload_n 3, 1) := by decide +kernel
theorem dX7_addHand_70 : decode cX7_addHand 70 = .ok (.iload 4, 2) := by decide +kernel
theorem dX7_addHand_72 : decode cX7_addHand 72 = .ok (.invokespecial 109, 3) := by decide +kernel
theorem dX7_addHand_75 : decode cX7_addHand 75 = .ok (.invokevirtual 112, 3) := by decide +kernel
theorem dX7_addHand_78 : decode cX7_addHand 78 = .ok (.pop, 1) := by decide +kernel
theorem dX7_addHand_79 : decode cX7_addHand 79 = .ok (.aload_n 0, 1) := by decide +kernel
theorem dX7_addHand_80 : decode cX7_addHand 80 = .ok (.getfield 19, 3) := by decide +kernel
theorem dX7_addHand_83 : decode cX7_addHand 83 = .ok (.getfield 97, 3) := by decide +kernel
theorem dX7_addHand_86 : decode cX7_addHand 86 = .ok (.invokevirtual 100, 3) := by decide +kernel
theorem dX7_addHand_89 : decode cX7_addHand 89 = .ok (.iconst 1, 1) := by decide +kernel
theorem dX7_addHand_90 : decode cX7_addHand 90 = .ok (.isub, 1) := by decide +kernel
theorem dX7_addHand_91 : decode cX7_addHand 91 = .ok (.ireturn, 1) := by decide +kernel
theorem dX7_isSeated_0 : decode cX7_isSeated 0 = .ok (.aload_n 0, 1) := by decide +kernel
theorem dX7_isSeated_1 : decode cX7_isSeated 1 = .ok (.iload_n 1, 1) := by decide +kernel
theorem dX7_isSeated_2 : decode cX7_isSeated 2 = .ok (.invokevirtual 68, 3) := by decide +kernel
theorem dX7_isSeated_5 : decode cX7_isSeated 5 = .ok (.getfield 72, 3) := by decide +kernel
theorem dX7_isSeated_8 : decode cX7_isSeated 8 = .ok (.ifnull 7, 3) := by decide +kernel
theorem dX7_isSeated_11 : decode cX7_isSeated 11 = .ok (.iconst 1, 1) := by decide +kernel
theorem dX7_isSeated_12 : decode cX7_isSeated 12 = .ok (.goto 4, 3) := by decide +kernel
theorem dX7_isSeated_15 : decode cX7_isSeated 15 = .ok (.iconst 0, 1) := by decide +kernel
theorem dX7_isSeated_16 : decode cX7_isSeated 16 = .ok (.ireturn, 1) := by decide +kernel
theorem dX7_addSinger_0 : decode cX7_addSinger 0 = .ok (.iload_n 1, 1) := by decide +kernel
theorem dX7_addSinger_1 : decode cX7_addSinger 1 = .ok (.iconst 0, 1) := by decide +kernel
theorem dX7_addSinger_2 : decode cX7_addSinger 2 = .ok (.sipush 999, 3) := by decide +kernel
theorem dX7_addSinger_5 : decode cX7_addSinger 5 = .ok (.invokestatic 44, 3) := by decide +kernel
theorem dX7_addSinger_8 : decode cX7_addSinger 8 = .ok (.iload_n 2, 1) := by decide +kernel
theorem dX7_addSinger_9 : decode cX7_addSinger 9 = .ok (.iconst 0, 1) := by decide +kernel
theorem dX7_addSinger_10 : decode cX7_addSinger 10 = .ok (.bipush 99, 2) := by decide +kernel
theorem dX7_addSinger_12 : decode cX7_addSinger 12 = .ok (.invokestatic 44, 3) := by decide +kernel
theorem dX7_addSinger_15 : decode cX7_addSinger 15 = .ok (.aload_n 0, 1) := by decide +kernel
theorem dX7_addSinger_16 : decode cX7_addSinger 16 = .ok (.getfield 26, 3) := by decide +kernel
theorem dX7_addSinger_19 : decode cX7_addSinger 19 = .ok (.invokevirtual 100, 3) := by decide +kernel
theorem dX7_addSinger_22 : decode cX7_addSinger 22 = .ok (.bipush 6, 2) := by decide +kernel
theorem dX7_addSinger_24 : decode cX7_addSinger 24 = .ok (.if_icmp .lt 13, 3) := by decide +kernel
theorem dX7_addSinger_27 : decode cX7_addSinger 27 = .ok (.new 104, 3) := by decide +kernel
theorem dX7_addSinger_30 : decode cX7_addSinger 30 = .ok (.dup, 1) := by decide +kernel
theorem dX7_addSinger_31 : decode cX7_addSinger 31 = .ok (.ldc 116, 2) := by decide +kernel
theorem dX7_addSinger_33 : decode cX7_addSinger 33 = .ok (.invokespecial 108, 3) := by decide +kernel
theorem dX7_addSinger_36 : decode cX7_addSinger 36 = .ok (.athrow, 1) := by decide +kernel
theorem dX7_addSinger_37 : decode cX7_addSinger 37 = .ok (.aload_n 0, 1) := by decide +kernel
theorem dX7_addSinger_38 : decode cX7_addSinger 38 = .ok (.getfield 26, 3) := by decide +kernel
theorem dX7_addSinger_41 : decode cX7_addSinger 41 = .ok (.new 118, 3) := by decide +kernel
theorem dX7_addSinger_44 : decode cX7_addSinger 44 = .ok (.dup, 1) := by decide +kernel
theorem dX7_addSinger_45 : decode cX7_addSinger 45 = .ok (.iload_n 1, 1) := by decide +kernel
theorem dX7_addSinger_46 : decode cX7_addSinger 46 = .ok (.iload_n 2, 1) := by decide +kernel
theorem dX7_addSinger_47 : decode cX7_addSinger 47 = .ok (.invokespecial 120, 3) := by decide +kernel
theorem dX7_addSinger_50 : decode cX7_addSinger 50 = .ok (.invokevirtual 112, 3) := by decide +kernel
theorem dX7_addSinger_53 : decode cX7_addSinger 53 = .ok (.pop, 1) := by decide +kernel
theorem dX7_addSinger_54 : decode cX7_addSinger 54 = .ok (.aload_n 0, 1) := by decide +kernel
theorem dX7_addSinger_55 : decode cX7_addSinger 55 = .ok (.getfield 26, 3) := by decide +kernel
theorem dX7_addSinger_58 : decode cX7_addSinger 58 = .ok (.invokevirtual 100, 3) := by decide +kernel
theorem dX7_addSinger_61 : decode cX7_addSinger 61 = .ok (.iconst 1, 1) := by decide +kernel
theorem dX7_addSinger_62 : decode cX7_addSinger 62 = .ok (.isub, 1) := by decide +kernel
theorem dX7_addSinger_63 : decode cX7_addSinger 63 = .ok (.ireturn, 1) := by decide +kernel
theorem dX7_addCue_0 : decode cX7_addCue 0 = .ok (.aload_n 0, 1) := by decide +kernel
theorem dX7_addCue_1 : decode cX7_addCue 1 = .ok (.iload_n 1, 1) := by decide +kernel
theorem dX7_addCue_2 : decode cX7_addCue 2 = .ok (.invokevirtual 122, 3) := by decide +kernel
theorem dX7_addCue_5 : decode cX7_addCue 5 = .ok (.astore 6, 2) := by decide +kernel
theorem dX7_addCue_7 : decode cX7_addCue 7 = .ok (.iload_n 2, 1) := by decide +kernel
theorem dX7_addCue_8 : decode cX7_addCue 8 = .ok (.invokestatic 93, 3) := by decide +kernel
theorem dX7_addCue_11 : decode cX7_addCue 11 = .ok (.iload_n 3, 1) := by decide +kernel
theorem dX7_addCue_12 : decode cX7_addCue 12 = .ok (.iconst 0, 1) := by decide +kernel
theorem dX7_addCue_13 : decode cX7_addCue 13 = .ok (.sipush 299, 3) := by decide +kernel
theorem dX7_addCue_16 : decode cX7_addCue 16 = .ok (.invokestatic 44, 3) := by decide +kernel
theorem dX7_addCue_19 : decode cX7_addCue 19 = .ok (.iload 4, 2) := by decide +kernel
theorem dX7_addCue_21 : decode cX7_addCue 21 = .ok (.iconst 1, 1) := by decide +kernel
theorem dX7_addCue_22 : decode cX7_addCue 22 = .ok (.iconst 3, 1) := by decide +kernel
theorem dX7_addCue_23 : decode cX7_addCue 23 = .ok (.invokestatic 44, 3) := by decide +kernel
theorem dX7_addCue_26 : decode cX7_addCue 26 = .ok (.iload 5, 2) := by decide +kernel
theorem dX7_addCue_28 : decode cX7_addCue 28 = .ok (.iconst 1, 1) := by decide +kernel
theorem dX7_addCue_29 : decode cX7_addCue 29 = .ok (.bipush 30, 2) := by decide +kernel
theorem dX7_addCue_31 : decode cX7_addCue 31 = .ok (.invokestatic 44, 3) := by decide +kernel
theorem dX7_addCue_34 : decode cX7_addCue 34 = .ok (.iload_n 3, 1) := by decide +kernel
theorem dX7_addCue_35 : decode cX7_addCue 35 = .ok (.aload_n 0, 1) := by decide +kernel
theorem dX7_addCue_36 : decode cX7_addCue 36 = .ok (.getfield 33, 3) := by decide +kernel
theorem dX7_addCue_39 : decode cX7_addCue 39 = .ok (.getfield 126, 3) := by decide +kernel
theorem dX7_addCue_42 : decode cX7_addCue 42 = .ok (.if_icmp .ge 13, 3) := by decide +kernel
theorem dX7_addCue_45 : decode cX7_addCue 45 = .ok (.new 78, 3) := by decide +kernel
theorem dX7_addCue_48 : decode cX7_addCue 48 = .ok (.dup, 1) := by decide +kernel
theorem dX7_addCue_49 : decode cX7_addCue 49 = .ok (.ldc 129, 2) := by decide +kernel
theorem dX7_addCue_51 : decode cX7_addCue 51 = .ok (.invokespecial 82, 3) := by decide +kernel
theorem dX7_addCue_54 : decode cX7_addCue 54 = .ok (.athrow, 1) := by decide +kernel
theorem dX7_addCue_55 : decode cX7_addCue 55 = .ok (.aload_n 0, 1) := by decide +kernel
theorem dX7_addCue_56 : decode cX7_addCue 56 = .ok (.getfield 33, 3) := by decide +kernel
theorem dX7_addCue_59 : decode cX7_addCue 59 = .ok (.getfield 131, 3) := by decide +kernel
theorem dX7_addCue_62 : decode cX7_addCue 62 = .ok (.invokevirtual 100, 3) := by decide +kernel
theorem dX7_addCue_65 : decode cX7_addCue 65 = .ok (.bipush 12, 2) := by decide +kernel
theorem dX7_addCue_67 : decode cX7_addCue 67 = .ok (.if_icmp .lt 13, 3) := by decide +kernel
theorem dX7_addCue_70 : decode cX7_addCue 70 = .ok (.new 104, 3) := by decide +kernel
theorem dX7_addCue_73 : decode cX7_addCue 73 = .ok (.dup, 1) := by decide +kernel
theorem dX7_addCue_74 : decode cX7_addCue 74 = .ok (.ldc 134, 2) := by decide +kernel
theorem dX7_addCue_76 : decode cX7_addCue 76 = .ok (.invokespecial 108, 3) := by decide +kernel
theorem dX7_addCue_79 : decode cX7_addCue 79 = .ok (.athrow, 1) := by decide +kernel
theorem dX7_addCue_80 : decode cX7_addCue 80 = .ok (.aload_n 0, 1) := by decide +kernel
theorem dX7_addCue_81 : decode cX7_addCue 81 = .ok (.getfield 33, 3) := by decide +kernel
theorem dX7_addCue_84 : decode cX7_addCue 84 = .ok (.getfield 131, 3) := by decide +kernel
theorem dX7_addCue_87 : decode cX7_addCue 87 = .ok (.new 136, 3) := by decide +kernel
theorem dX7_addCue_90 : decode cX7_addCue 90 = .ok (.dup, 1) := by decide +kernel
theorem dX7_addCue_91 : decode cX7_addCue 91 = .ok (.aload 6, 2) := by decide +kernel
theorem dX7_addCue_93 : decode cX7_addCue 93 = .ok (.iload_n 2, 1) := by decide +kernel
theorem dX7_addCue_94 : decode cX7_addCue 94 = .ok (.iload_n 3, 1) := by decide +kernel
theorem dX7_addCue_95 : decode cX7_addCue 95 = .ok (.iload 4, 2) := by decide +kernel
theorem dX7_addCue_97 : decode cX7_addCue 97 = .ok (.iload 5, 2) := by decide +kernel
theorem dX7_addCue_99 : decode cX7_addCue 99 = .ok (.invokespecial 138, 3) := by decide +kernel
theorem dX7_addCue_102 : decode cX7_addCue 102 = .ok (.invokevirtual 112, 3) := by decide +kernel
theorem dX7_addCue_105 : decode cX7_addCue 105 = .ok (.pop, 1) := by decide +kernel
theorem dX7_addCue_106 : decode cX7_addCue 106 = .ok (.aload_n 0, 1) := by decide +kernel
theorem dX7_addCue_107 : decode cX7_addCue 107 = .ok (.getfield 33, 3) := by decide +kernel
theorem dX7_addCue_110 : decode cX7_addCue 110 = .ok (.getfield 131, 3) := by decide +kernel
theorem dX7_addCue_113 : decode cX7_addCue 113 = .ok (.invokevirtual 100, 3) := by decide +kernel
theorem dX7_addCue_116 : decode cX7_addCue 116 = .ok (.iconst 1, 1) := by decide +kernel
theorem dX7_addCue_117 : decode cX7_addCue 117 = .ok (.isub, 1) := by decide +kernel
theorem dX7_addCue_118 : decode cX7_addCue 118 = .ok (.ireturn, 1) := by decide +kernel
theorem dX7_setLevel_0 : decode cX7_setLevel 0 = .ok (.iload_n 1, 1) := by decide +kernel
theorem dX7_setLevel_1 : decode cX7_setLevel 1 = .ok (.iconst 1, 1) := by decide +kernel
theorem dX7_setLevel_2 : decode cX7_setLevel 2 = .ok (.sipush 999, 3) := by decide +kernel
theorem dX7_setLevel_5 : decode cX7_setLevel 5 = .ok (.invokestatic 44, 3) := by decide +kernel
theorem dX7_setLevel_8 : decode cX7_setLevel 8 = .ok (.aload_n 0, 1) := by decide +kernel
theorem dX7_setLevel_9 : decode cX7_setLevel 9 = .ok (.getfield 33, 3) := by decide +kernel
theorem dX7_setLevel_12 : decode cX7_setLevel 12 = .ok (.getfield 141, 3) := by decide +kernel
theorem dX7_setLevel_15 : decode cX7_setLevel 15 = .ok (.istore_n 2, 1) := by decide +kernel
theorem dX7_setLevel_16 : decode cX7_setLevel 16 = .ok (.aload_n 0, 1) := by decide +kernel
theorem dX7_setLevel_17 : decode cX7_setLevel 17 = .ok (.getfield 33, 3) := by decide +kernel
theorem dX7_setLevel_20 : decode cX7_setLevel 20 = .ok (.iload_n 1, 1) := by decide +kernel
theorem dX7_setLevel_21 : decode cX7_setLevel 21 = .ok (.putfield 141, 3) := by decide +kernel
theorem dX7_setLevel_24 : decode cX7_setLevel 24 = .ok (.iload_n 2, 1) := by decide +kernel
theorem dX7_setLevel_25 : decode cX7_setLevel 25 = .ok (.ireturn, 1) := by decide +kernel
theorem dX7_run_0 : decode cX7_run 0 = .ok (.iload_n 1, 1) := by decide +kernel
theorem dX7_run_1 : decode cX7_run 1 = .ok (.iconst 1, 1) := by decide +kernel
theorem dX7_run_2 : decode cX7_run 2 = .ok (.bipush 100, 2) := by decide +kernel
theorem dX7_run_4 : decode cX7_run 4 = .ok (.invokestatic 44, 3) := by decide +kernel
theorem dX7_run_7 : decode cX7_run 7 = .ok (.aload_n 0, 1) := by decide +kernel
theorem dX7_run_8 : decode cX7_run 8 = .ok (.invokevirtual 144, 3) := by decide +kernel
theorem dX7_run_11 : decode cX7_run 11 = .ok (.iconst 0, 1) := by decide +kernel
theorem dX7_run_12 : decode cX7_run 12 = .ok (.istore_n 2, 1) := by decide +kernel
theorem dX7_run_13 : decode cX7_run 13 = .ok (.iload_n 2, 1) := by decide +kernel
theorem dX7_run_14 : decode cX7_run 14 = .ok (.iload_n 1, 1) := by decide +kernel
theorem dX7_run_15 : decode cX7_run 15 = .ok (.if_icmp .ge 20, 3) := by decide +kernel
theorem dX7_run_18 : decode cX7_run 18 = .ok (.aload_n 0, 1) := by decide +kernel
theorem dX7_run_19 : decode cX7_run 19 = .ok (.getfield 33, 3) := by decide +kernel
theorem dX7_run_22 : decode cX7_run 22 = .ok (.aload_n 0, 1) := by decide +kernel
theorem dX7_run_23 : decode cX7_run 23 = .ok (.getfield 10, 3) := by decide +kernel
theorem dX7_run_26 : decode cX7_run 26 = .ok (.invokevirtual 147, 3) := by decide +kernel
theorem dX7_run_29 : decode cX7_run 29 = .ok (.iinc 2 1, 3) := by decide +kernel
theorem dX7_run_32 : decode cX7_run 32 = .ok (.goto (-19), 3) := by decide +kernel
theorem dX7_run_35 : decode cX7_run 35 = .ok (.aload_n 0, 1) := by decide +kernel
theorem dX7_run_36 : decode cX7_run 36 = .ok (.getfield 33, 3) := by decide +kernel
theorem dX7_run_39 : decode cX7_run 39 = .ok (.getfield 126, 3) := by decide +kernel
theorem dX7_run_42 : decode cX7_run 42 = .ok (.ireturn, 1) := by decide +kernel
theorem dX7_noiseAt_0 : decode cX7_noiseAt 0 = .ok (.aload_n 0, 1) := by decide +kernel
theorem dX7_noiseAt_1 : decode cX7_noiseAt 1 = .ok (.iload_n 1, 1) := by decide +kernel
theorem dX7_noiseAt_2 : decode cX7_noiseAt 2 = .ok (.iload_n 2, 1) := by decide +kernel
theorem dX7_noiseAt_3 : decode cX7_noiseAt 3 = .ok (.invokevirtual 55, 3) := by decide +kernel
theorem dX7_noiseAt_6 : decode cX7_noiseAt 6 = .ok (.getfield 151, 3) := by decide +kernel
theorem dX7_noiseAt_9 : decode cX7_noiseAt 9 = .ok (.ireturn, 1) := by decide +kernel
theorem dX7_noise_0 : decode cX7_noise 0 = .ok (.aload_n 0, 1) := by decide +kernel
theorem dX7_noise_1 : decode cX7_noise 1 = .ok (.getfield 10, 3) := by decide +kernel
theorem dX7_noise_4 : decode cX7_noise 4 = .ok (.invokevirtual 154, 3) := by decide +kernel
theorem dX7_noise_7 : decode cX7_noise 7 = .ok (.ireturn, 1) := by decide +kernel
theorem dX7_joining_0 : decode cX7_joining 0 = .ok (.aload_n 0, 1) := by decide +kernel
theorem dX7_joining_1 : decode cX7_joining 1 = .ok (.getfield 10, 3) := by decide +kernel
theorem dX7_joining_4 : decode cX7_joining 4 = .ok (.invokevirtual 157, 3) := by decide +kernel
theorem dX7_joining_7 : decode cX7_joining 7 = .ok (.ireturn, 1) := by decide +kernel
theorem dX7_hisses_0 : decode cX7_hisses 0 = .ok (.aload_n 0, 1) := by decide +kernel
theorem dX7_hisses_1 : decode cX7_hisses 1 = .ok (.getfield 33, 3) := by decide +kernel
theorem dX7_hisses_4 : decode cX7_hisses 4 = .ok (.getfield 160, 3) := by decide +kernel
theorem dX7_hisses_7 : decode cX7_hisses 7 = .ok (.ireturn, 1) := by decide +kernel
theorem dX7_tiredness_0 : decode cX7_tiredness 0 = .ok (.aload_n 0, 1) := by decide +kernel
theorem dX7_tiredness_1 : decode cX7_tiredness 1 = .ok (.iload_n 1, 1) := by decide +kernel
theorem dX7_tiredness_2 : decode cX7_tiredness 2 = .ok (.iload_n 2, 1) := by decide +kernel
theorem dX7_tiredness_3 : decode cX7_tiredness 3 = .ok (.invokevirtual 55, 3) := by decide +kernel
theorem dX7_tiredness_6 : decode cX7_tiredness 6 = .ok (.astore_n 3, 1) := by decide +kernel
theorem dX7_tiredness_7 : decode cX7_tiredness 7 = .ok (.aload_n 3, 1) := by decide +kernel
theorem dX7_tiredness_8 : decode cX7_tiredness 8 = .ok (.getfield 89, 3) := by decide +kernel
theorem dX7_tiredness_11 : decode cX7_tiredness 11 = .ok (.bipush 112, 2) := by decide +kernel
theorem dX7_tiredness_13 : decode cX7_tiredness 13 = .ok (.if_icmp .eq 13, 3) := by decide +kernel
theorem dX7_tiredness_16 : decode cX7_tiredness 16 = .ok (.new 78, 3) := by decide +kernel
theorem dX7_tiredness_19 : decode cX7_tiredness 19 = .ok (.dup, 1) := by decide +kernel
theorem dX7_tiredness_20 : decode cX7_tiredness 20 = .ok (.ldc 163, 2) := by decide +kernel
theorem dX7_tiredness_22 : decode cX7_tiredness 22 = .ok (.invokespecial 82, 3) := by decide +kernel
theorem dX7_tiredness_25 : decode cX7_tiredness 25 = .ok (.athrow, 1) := by decide +kernel
theorem dX7_tiredness_26 : decode cX7_tiredness 26 = .ok (.aload_n 3, 1) := by decide +kernel
theorem dX7_tiredness_27 : decode cX7_tiredness 27 = .ok (.invokevirtual 165, 3) := by decide +kernel
theorem dX7_tiredness_30 : decode cX7_tiredness 30 = .ok (.ireturn, 1) := by decide +kernel
theorem dX7_callsOf_0 : decode cX7_callsOf 0 = .ok (.aload_n 0, 1) := by decide +kernel
theorem dX7_callsOf_1 : decode cX7_callsOf 1 = .ok (.iload_n 1, 1) := by decide +kernel
theorem dX7_callsOf_2 : decode cX7_callsOf 2 = .ok (.invokevirtual 122, 3) := by decide +kernel
theorem dX7_callsOf_5 : decode cX7_callsOf 5 = .ok (.getfield 168, 3) := by decide +kernel
theorem dX7_callsOf_8 : decode cX7_callsOf 8 = .ok (.ireturn, 1) := by decide +kernel
theorem dX7_calls_0 : decode cX7_calls 0 = .ok (.aload_n 0, 1) := by decide +kernel
theorem dX7_calls_1 : decode cX7_calls 1 = .ok (.getfield 33, 3) := by decide +kernel
theorem dX7_calls_4 : decode cX7_calls 4 = .ok (.getfield 171, 3) := by decide +kernel
theorem dX7_calls_7 : decode cX7_calls 7 = .ok (.ireturn, 1) := by decide +kernel
theorem dX7_suspicions_0 : decode cX7_suspicions 0 = .ok (.aload_n 0, 1) := by decide +kernel
theorem dX7_suspicions_1 : decode cX7_suspicions 1 = .ok (.getfield 33, 3) := by decide +kernel
theorem dX7_suspicions_4 : decode cX7_suspicions 4 = .ok (.getfield 172, 3) := by decide +kernel
theorem dX7_suspicions_7 : decode cX7_suspicions 7 = .ok (.ireturn, 1) := by decide +kernel
theorem dX7_areFoundOut_0 : decode cX7_areFoundOut 0 = .ok (.aload_n 0, 1) := by decide +kernel
theorem dX7_areFoundOut_1 : decode cX7_areFoundOut 1 = .ok (.getfield 33, 3) := by decide +kernel
theorem dX7_areFoundOut_4 : decode cX7_areFoundOut 4 = .ok (.invokevirtual 175, 3) := by decide +kernel
theorem dX7_areFoundOut_7 : decode cX7_areFoundOut 7 = .ok (.ireturn, 1) := by decide +kernel
theorem dX7_endEvening_0 : decode cX7_endEvening 0 = .ok (.aload_n 0, 1) := by decide +kernel
theorem dX7_endEvening_1 : decode cX7_endEvening 1 = .ok (.invokevirtual 144, 3) := by decide +kernel
theorem dX7_endEvening_4 : decode cX7_endEvening 4 = .ok (.iconst 0, 1) := by decide +kernel
theorem dX7_endEvening_5 : decode cX7_endEvening 5 = .ok (.istore_n 1, 1) := by decide +kernel
theorem dX7_endEvening_6 : decode cX7_endEvening 6 = .ok (.iconst 0, 1) := by decide +kernel
theorem dX7_endEvening_7 : decode cX7_endEvening 7 = .ok (.istore_n 2, 1) := by decide +kernel
theorem dX7_endEvening_8 : decode cX7_endEvening 8 = .ok (.iload_n 2, 1) := by decide +kernel
theorem dX7_endEvening_9 : decode cX7_endEvening 9 = .ok (.aload_n 0, 1) := by decide +kernel
theorem dX7_endEvening_10 : decode cX7_endEvening 10 = .ok (.getfield 26, 3) := by decide +kernel
theorem dX7_endEvening_13 : decode cX7_endEvening 13 = .ok (.invokevirtual 100, 3) := by decide +kernel
theorem dX7_endEvening_16 : decode cX7_endEvening 16 = .ok (.if_icmp .ge 27, 3) := by decide +kernel
theorem dX7_endEvening_19 : decode cX7_endEvening 19 = .ok (.iload_n 1, 1) := by decide +kernel
theorem dX7_endEvening_20 : decode cX7_endEvening 20 = .ok (.aload_n 0, 1) := by decide +kernel
theorem dX7_endEvening_21 : decode cX7_endEvening 21 = .ok (.aload_n 0, 1) := by decide +kernel
theorem dX7_endEvening_22 : decode cX7_endEvening 22 = .ok (.getfield 26, 3) := by decide +kernel
theorem dX7_endEvening_25 : decode cX7_endEvening 25 = .ok (.iload_n 2, 1) := by decide +kernel
theorem dX7_endEvening_26 : decode cX7_endEvening 26 = .ok (.invokevirtual 179, 3) := by decide +kernel
theorem dX7_endEvening_29 : decode cX7_endEvening 29 = .ok (.checkcast 118, 3) := by decide +kernel
theorem dX7_endEvening_32 : decode cX7_endEvening 32 = .ok (.invokevirtual 183, 3) := by decide +kernel
theorem dX7_endEvening_35 : decode cX7_endEvening 35 = .ok (.iadd, 1) := by decide +kernel
theorem dX7_endEvening_36 : decode cX7_endEvening 36 = .ok (.istore_n 1, 1) := by decide +kernel
theorem dX7_endEvening_37 : decode cX7_endEvening 37 = .ok (.iinc 2 1, 3) := by decide +kernel
theorem dX7_endEvening_40 : decode cX7_endEvening 40 = .ok (.goto (-32), 3) := by decide +kernel
theorem dX7_endEvening_43 : decode cX7_endEvening 43 = .ok (.aload_n 0, 1) := by decide +kernel
theorem dX7_endEvening_44 : decode cX7_endEvening 44 = .ok (.getfield 10, 3) := by decide +kernel
theorem dX7_endEvening_47 : decode cX7_endEvening 47 = .ok (.invokevirtual 187, 3) := by decide +kernel
theorem dX7_endEvening_50 : decode cX7_endEvening 50 = .ok (.aload_n 0, 1) := by decide +kernel
theorem dX7_endEvening_51 : decode cX7_endEvening 51 = .ok (.invokevirtual 52, 3) := by decide +kernel
theorem dX7_endEvening_54 : decode cX7_endEvening 54 = .ok (.iload_n 1, 1) := by decide +kernel
theorem dX7_endEvening_55 : decode cX7_endEvening 55 = .ok (.ireturn, 1) := by decide +kernel
theorem dX7_pay_0 : decode cX7_pay 0 = .ok (.aload_n 0, 1) := by decide +kernel
theorem dX7_pay_1 : decode cX7_pay 1 = .ok (.iload_n 1, 1) := by decide +kernel
theorem dX7_pay_2 : decode cX7_pay 2 = .ok (.invokevirtual 122, 3) := by decide +kernel
theorem dX7_pay_5 : decode cX7_pay 5 = .ok (.astore_n 3, 1) := by decide +kernel
theorem dX7_pay_6 : decode cX7_pay 6 = .ok (.iload_n 2, 1) := by decide +kernel
theorem dX7_pay_7 : decode cX7_pay 7 = .ok (.iconst 1, 1) := by decide +kernel
theorem dX7_pay_8 : decode cX7_pay 8 = .ok (.ldc 190, 2) := by decide +kernel
theorem dX7_pay_10 : decode cX7_pay 10 = .ok (.invokestatic 44, 3) := by decide +kernel
theorem dX7_pay_13 : decode cX7_pay 13 = .ok (.aload_n 3, 1) := by decide +kernel
theorem dX7_pay_14 : decode cX7_pay 14 = .ok (.getfield 191, 3) := by decide +kernel
theorem dX7_pay_17 : decode cX7_pay 17 = .ok (.ifCond .gt 13, 3) := by decide +kernel
theorem dX7_pay_20 : decode cX7_pay 20 = .ok (.new 78, 3) := by decide +kernel
theorem dX7_pay_23 : decode cX7_pay 23 = .ok (.dup, 1) := by decide +kernel
theorem dX7_pay_24 : decode cX7_pay 24 = .ok (.ldc 194, 2) := by decide +kernel
theorem dX7_pay_26 : decode cX7_pay 26 = .ok (.invokespecial 82, 3) := by decide +kernel
theorem dX7_pay_29 : decode cX7_pay 29 = .ok (.athrow, 1) := by decide +kernel
theorem dX7_pay_30 : decode cX7_pay 30 = .ok (.iload_n 2, 1) := by decide +kernel
theorem dX7_pay_31 : decode cX7_pay 31 = .ok (.aload_n 3, 1) := by decide +kernel
theorem dX7_pay_32 : decode cX7_pay 32 = .ok (.getfield 191, 3) := by decide +kernel
theorem dX7_pay_35 : decode cX7_pay 35 = .ok (.invokestatic 196, 3) := by decide +kernel
theorem dX7_pay_38 : decode cX7_pay 38 = .ok (.istore 4, 2) := by decide +kernel
theorem dX7_pay_40 : decode cX7_pay 40 = .ok (.aload_n 3, 1) := by decide +kernel
theorem dX7_pay_41 : decode cX7_pay 41 = .ok (.dup, 1) := by decide +kernel
theorem dX7_pay_42 : decode cX7_pay 42 = .ok (.getfield 191, 3) := by decide +kernel
theorem dX7_pay_45 : decode cX7_pay 45 = .ok (.iload 4, 2) := by decide +kernel
theorem dX7_pay_47 : decode cX7_pay 47 = .ok (.isub, 1) := by decide +kernel
theorem dX7_pay_48 : decode cX7_pay 48 = .ok (.putfield 191, 3) := by decide +kernel
theorem dX7_pay_51 : decode cX7_pay 51 = .ok (.aload_n 0, 1) := by decide +kernel
theorem dX7_pay_52 : decode cX7_pay 52 = .ok (.dup, 1) := by decide +kernel
theorem dX7_pay_53 : decode cX7_pay 53 = .ok (.getfield 37, 3) := by decide +kernel
theorem dX7_pay_56 : decode cX7_pay 56 = .ok (.iload 4, 2) := by decide +kernel
theorem dX7_pay_58 : decode cX7_pay 58 = .ok (.iadd, 1) := by decide +kernel
theorem dX7_pay_59 : decode cX7_pay 59 = .ok (.putfield 37, 3) := by decide +kernel
theorem dX7_pay_62 : decode cX7_pay 62 = .ok (.aload_n 3, 1) := by decide +kernel
theorem dX7_pay_63 : decode cX7_pay 63 = .ok (.getfield 191, 3) := by decide +kernel
theorem dX7_pay_66 : decode cX7_pay 66 = .ok (.ireturn, 1) := by decide +kernel
theorem dX7_owed_0 : decode cX7_owed 0 = .ok (.aload_n 0, 1) := by decide +kernel
theorem dX7_owed_1 : decode cX7_owed 1 = .ok (.iload_n 1, 1) := by decide +kernel
theorem dX7_owed_2 : decode cX7_owed 2 = .ok (.invokevirtual 122, 3) := by decide +kernel
theorem dX7_owed_5 : decode cX7_owed 5 = .ok (.getfield 191, 3) := by decide +kernel
theorem dX7_owed_8 : decode cX7_owed 8 = .ok (.ireturn, 1) := by decide +kernel
theorem dX7_purse_0 : decode cX7_purse 0 = .ok (.aload_n 0, 1) := by decide +kernel
theorem dX7_purse_1 : decode cX7_purse 1 = .ok (.getfield 37, 3) := by decide +kernel
theorem dX7_purse_4 : decode cX7_purse 4 = .ok (.ireturn, 1) := by decide +kernel
theorem dX7_share_0 : decode cX7_share 0 = .ok (.aload_n 0, 1) := by decide +kernel
theorem dX7_share_1 : decode cX7_share 1 = .ok (.getfield 37, 3) := by decide +kernel
theorem dX7_share_4 : decode cX7_share 4 = .ok (.ifCond .gt 13, 3) := by decide +kernel
theorem dX7_share_7 : decode cX7_share 7 = .ok (.new 78, 3) := by decide +kernel
theorem dX7_share_10 : decode cX7_share 10 = .ok (.dup, 1) := by decide +kernel
theorem dX7_share_11 : decode cX7_share 11 = .ok (.ldc 202, 2) := by decide +kernel
theorem dX7_share_13 : decode cX7_share 13 = .ok (.invokespecial 82, 3) := by decide +kernel
theorem dX7_share_16 : decode cX7_share 16 = .ok (.athrow, 1) := by decide +kernel
theorem dX7_share_17 : decode cX7_share 17 = .ok (.aload_n 0, 1) := by decide +kernel
theorem dX7_share_18 : decode cX7_share 18 = .ok (.getfield 19, 3) := by decide +kernel
theorem dX7_share_21 : decode cX7_share 21 = .ok (.aload_n 0, 1) := by decide +kernel
theorem dX7_share_22 : decode cX7_share 22 = .ok (.getfield 37, 3) := by decide +kernel
theorem dX7_share_25 : decode cX7_share 25 = .ok (.invokevirtual 204, 3) := by decide +kernel
theorem dX7_share_28 : decode cX7_share 28 = .ok (.istore_n 1, 1) := by decide +kernel
theorem dX7_share_29 : decode cX7_share 29 = .ok (.aload_n 0, 1) := by decide +kernel
theorem dX7_share_30 : decode cX7_share 30 = .ok (.iconst 0, 1) := by decide +kernel
theorem dX7_share_31 : decode cX7_share 31 = .ok (.putfield 37, 3) := by decide +kernel
theorem dX7_share_34 : decode cX7_share 34 = .ok (.aload_n 0, 1) := by decide +kernel
theorem dX7_share_35 : decode cX7_share 35 = .ok (.dup, 1) := by decide +kernel
theorem dX7_share_36 : decode cX7_share 36 = .ok (.getfield 41, 3) := by decide +kernel
theorem dX7_share_39 : decode cX7_share 39 = .ok (.iload_n 1, 1) := by decide +kernel
theorem dX7_share_40 : decode cX7_share 40 = .ok (.iadd, 1) := by decide +kernel
theorem dX7_share_41 : decode cX7_share 41 = .ok (.putfield 41, 3) := by decide +kernel
theorem dX7_share_44 : decode cX7_share 44 = .ok (.iload_n 1, 1) := by decide +kernel
theorem dX7_share_45 : decode cX7_share 45 = .ok (.ireturn, 1) := by decide +kernel
theorem dX7_moneyOf_0 : decode cX7_moneyOf 0 = .ok (.aload_n 0, 1) := by decide +kernel
theorem dX7_moneyOf_1 : decode cX7_moneyOf 1 = .ok (.iload_n 1, 1) := by decide +kernel
theorem dX7_moneyOf_2 : decode cX7_moneyOf 2 = .ok (.invokevirtual 68, 3) := by decide +kernel
theorem dX7_moneyOf_5 : decode cX7_moneyOf 5 = .ok (.getfield 208, 3) := by decide +kernel
theorem dX7_moneyOf_8 : decode cX7_moneyOf 8 = .ok (.ireturn, 1) := by decide +kernel
theorem dX7_chiefs_0 : decode cX7_chiefs 0 = .ok (.aload_n 0, 1) := by decide +kernel
theorem dX7_chiefs_1 : decode cX7_chiefs 1 = .ok (.getfield 41, 3) := by decide +kernel
theorem dX7_chiefs_4 : decode cX7_chiefs 4 = .ok (.ireturn, 1) := by decide +kernel
theorem dX7_planCost_0 : decode cX7_planCost 0 = .ok (.iload_n 1, 1) := by decide +kernel
theorem dX7_planCost_1 : decode cX7_planCost 1 = .ok (.iconst 1, 1) := by decide +kernel
theorem dX7_planCost_2 : decode cX7_planCost 2 = .ok (.bipush 20, 2) := by decide +kernel
theorem dX7_planCost_4 : decode cX7_planCost 4 = .ok (.invokestatic 44, 3) := by decide +kernel
theorem dX7_planCost_7 : decode cX7_planCost 7 = .ok (.aload_n 0, 1) := by decide +kernel
theorem dX7_planCost_8 : decode cX7_planCost 8 = .ok (.getfield 19, 3) := by decide +kernel
theorem dX7_planCost_11 : decode cX7_planCost 11 = .ok (.aload_n 0, 1) := by decide +kernel
theorem dX7_planCost_12 : decode cX7_planCost 12 = .ok (.iload_n 1, 1) := by decide +kernel
theorem dX7_planCost_13 : decode cX7_planCost 13 = .ok (.invokevirtual 211, 3) := by decide +kernel
theorem dX7_planCost_16 : decode cX7_planCost 16 = .ok (.invokevirtual 214, 3) := by decide +kernel
theorem dX7_planCost_19 : decode cX7_planCost 19 = .ok (.ireturn, 1) := by decide +kernel
theorem dX7_isPlanned_0 : decode cX7_isPlanned 0 = .ok (.iload_n 1, 1) := by decide +kernel
theorem dX7_isPlanned_1 : decode cX7_isPlanned 1 = .ok (.iconst 1, 1) := by decide +kernel
theorem dX7_isPlanned_2 : decode cX7_isPlanned 2 = .ok (.bipush 20, 2) := by decide +kernel
theorem dX7_isPlanned_4 : decode cX7_isPlanned 4 = .ok (.invokestatic 44, 3) := by decide +kernel
theorem dX7_isPlanned_7 : decode cX7_isPlanned 7 = .ok (.aload_n 0, 1) := by decide +kernel
theorem dX7_isPlanned_8 : decode cX7_isPlanned 8 = .ok (.iload_n 2, 1) := by decide +kernel
theorem dX7_isPlanned_9 : decode cX7_isPlanned 9 = .ok (.invokevirtual 68, 3) := by decide +kernel
theorem dX7_isPlanned_12 : decode cX7_isPlanned 12 = .ok (.pop, 1) := by decide +kernel
theorem dX7_isPlanned_13 : decode cX7_isPlanned 13 = .ok (.aload_n 0, 1) := by decide +kernel
theorem dX7_isPlanned_14 : decode cX7_isPlanned 14 = .ok (.iload_n 1, 1) := by decide +kernel
theorem dX7_isPlanned_15 : decode cX7_isPlanned 15 = .ok (.invokevirtual 211, 3) := by decide +kernel
theorem dX7_isPlanned_18 : decode cX7_isPlanned 18 = .ok (.iload_n 2, 1) := by decide +kernel
theorem dX7_isPlanned_19 : decode cX7_isPlanned 19 = .ok (.invokestatic 217, 3) := by decide +kernel
theorem dX7_isPlanned_22 : decode cX7_isPlanned 22 = .ok (.ireturn, 1) := by decide +kernel
theorem dX7_checksum_0 : decode cX7_checksum 0 = .ok (.ldc2_w 221, 3) := by decide +kernel
theorem dX7_checksum_3 : decode cX7_checksum 3 = .ok (.lstore_n 1, 1) := by decide +kernel
theorem dX7_checksum_4 : decode cX7_checksum 4 = .ok (.iconst 0, 1) := by decide +kernel
theorem dX7_checksum_5 : decode cX7_checksum 5 = .ok (.istore_n 3, 1) := by decide +kernel
theorem dX7_checksum_6 : decode cX7_checksum 6 = .ok (.iload_n 3, 1) := by decide +kernel
theorem dX7_checksum_7 : decode cX7_checksum 7 = .ok (.aload_n 0, 1) := by decide +kernel
theorem dX7_checksum_8 : decode cX7_checksum 8 = .ok (.getfield 10, 3) := by decide +kernel
theorem dX7_checksum_11 : decode cX7_checksum 11 = .ok (.getfield 223, 3) := by decide +kernel
theorem dX7_checksum_14 : decode cX7_checksum 14 = .ok (.if_icmp .ge 64, 3) := by decide +kernel
theorem dX7_checksum_17 : decode cX7_checksum 17 = .ok (.iconst 0, 1) := by decide +kernel
theorem dX7_checksum_18 : decode cX7_checksum 18 = .ok (.istore 4, 2) := by decide +kernel
theorem dX7_checksum_20 : decode cX7_checksum 20 = .ok (.iload 4, 2) := by decide +kernel
theorem dX7_checksum_22 : decode cX7_checksum 22 = .ok (.aload_n 0, 1) := by decide +kernel
theorem dX7_checksum_23 : decode cX7_checksum 23 = .ok (.getfield 10, 3) := by decide +kernel
theorem dX7_checksum_26 : decode cX7_checksum 26 = .ok (.getfield 226, 3) := by decide +kernel
theorem dX7_checksum_29 : decode cX7_checksum 29 = .ok (.if_icmp .ge 43, 3) := by decide +kernel
theorem dX7_checksum_32 : decode cX7_checksum 32 = .ok (.aload_n 0, 1) := by decide +kernel
theorem dX7_checksum_33 : decode cX7_checksum 33 = .ok (.getfield 10, 3) := by decide +kernel
theorem dX7_checksum_36 : decode cX7_checksum 36 = .ok (.iload_n 3, 1) := by decide +kernel
theorem dX7_checksum_37 : decode cX7_checksum 37 = .ok (.iload 4, 2) := by decide +kernel
theorem dX7_checksum_39 : decode cX7_checksum 39 = .ok (.invokevirtual 229, 3) := by decide +kernel
theorem dX7_checksum_42 : decode cX7_checksum 42 = .ok (.astore 5, 2) := by decide +kernel
theorem dX7_checksum_44 : decode cX7_checksum 44 = .ok (.ldc2_w 232, 3) := by decide +kernel
theorem dX7_checksum_47 : decode cX7_checksum 47 = .ok (.lload_n 1, 1) := by decide +kernel
theorem dX7_checksum_48 : decode cX7_checksum 48 = .ok (.lmul, 1) := by decide +kernel
theorem dX7_checksum_49 : decode cX7_checksum 49 = .ok (.aload 5, 2) := by decide +kernel
theorem dX7_checksum_51 : decode cX7_checksum 51 = .ok (.ifnonnull 7, 3) := by decide +kernel
theorem dX7_checksum_54 : decode cX7_checksum 54 = .ok (.iconst 0, 1) := by decide +kernel
theorem dX7_checksum_55 : decode cX7_checksum 55 = .ok (.goto 8, 3) := by decide +kernel
theorem dX7_checksum_58 : decode cX7_checksum 58 = .ok (.aload 5, 2) := by decide +kernel
theorem dX7_checksum_60 : decode cX7_checksum 60 = .ok (.getfield 151, 3) := by decide +kernel
theorem dX7_checksum_63 : decode cX7_checksum 63 = .ok (.i2l, 1) := by decide +kernel
theorem dX7_checksum_64 : decode cX7_checksum 64 = .ok (.ladd, 1) := by decide +kernel
theorem dX7_checksum_65 : decode cX7_checksum 65 = .ok (.lstore_n 1, 1) := by decide +kernel
theorem dX7_checksum_66 : decode cX7_checksum 66 = .ok (.iinc 4 1, 3) := by decide +kernel
theorem dX7_checksum_69 : decode cX7_checksum 69 = .ok (.goto (-49), 3) := by decide +kernel
theorem dX7_checksum_72 : decode cX7_checksum 72 = .ok (.iinc 3 1, 3) := by decide +kernel
theorem dX7_checksum_75 : decode cX7_checksum 75 = .ok (.goto (-69), 3) := by decide +kernel
theorem dX7_checksum_78 : decode cX7_checksum 78 = .ok (.ldc2_w 232, 3) := by decide +kernel
theorem dX7_checksum_81 : decode cX7_checksum 81 = .ok (.lload_n 1, 1) := by decide +kernel
theorem dX7_checksum_82 : decode cX7_checksum 82 = .ok (.lmul, 1) := by decide +kernel
theorem dX7_checksum_83 : decode cX7_checksum 83 = .ok (.aload_n 0, 1) := by decide +kernel
theorem dX7_checksum_84 : decode cX7_checksum 84 = .ok (.getfield 33, 3) := by decide +kernel
theorem dX7_checksum_87 : decode cX7_checksum 87 = .ok (.getfield 171, 3) := by decide +kernel
theorem dX7_checksum_90 : decode cX7_checksum 90 = .ok (.i2l, 1) := by decide +kernel
theorem dX7_checksum_91 : decode cX7_checksum 91 = .ok (.ladd, 1) := by decide +kernel
theorem dX7_checksum_92 : decode cX7_checksum 92 = .ok (.lstore_n 1, 1) := by decide +kernel
theorem dX7_checksum_93 : decode cX7_checksum 93 = .ok (.ldc2_w 232, 3) := by decide +kernel
theorem dX7_checksum_96 : decode cX7_checksum 96 = .ok (.lload_n 1, 1) := by decide +kernel
theorem dX7_checksum_97 : decode cX7_checksum 97 = .ok (.lmul, 1) := by decide +kernel
theorem dX7_checksum_98 : decode cX7_checksum 98 = .ok (.aload_n 0, 1) := by decide +kernel
theorem dX7_checksum_99 : decode cX7_checksum 99 = .ok (.getfield 33, 3) := by decide +kernel
theorem dX7_checksum_102 : decode cX7_checksum 102 = .ok (.getfield 160, 3) := by decide +kernel
theorem dX7_checksum_105 : decode cX7_checksum 105 = .ok (.i2l, 1) := by decide +kernel
theorem dX7_checksum_106 : decode cX7_checksum 106 = .ok (.ladd, 1) := by decide +kernel
theorem dX7_checksum_107 : decode cX7_checksum 107 = .ok (.lstore_n 1, 1) := by decide +kernel
theorem dX7_checksum_108 : decode cX7_checksum 108 = .ok (.ldc2_w 232, 3) := by decide +kernel
theorem dX7_checksum_111 : decode cX7_checksum 111 = .ok (.lload_n 1, 1) := by decide +kernel
theorem dX7_checksum_112 : decode cX7_checksum 112 = .ok (.lmul, 1) := by decide +kernel
theorem dX7_checksum_113 : decode cX7_checksum 113 = .ok (.aload_n 0, 1) := by decide +kernel
theorem dX7_checksum_114 : decode cX7_checksum 114 = .ok (.getfield 37, 3) := by decide +kernel
theorem dX7_checksum_117 : decode cX7_checksum 117 = .ok (.i2l, 1) := by decide +kernel
theorem dX7_checksum_118 : decode cX7_checksum 118 = .ok (.ladd, 1) := by decide +kernel
theorem dX7_checksum_119 : decode cX7_checksum 119 = .ok (.lstore_n 1, 1) := by decide +kernel
theorem dX7_checksum_120 : decode cX7_checksum 120 = .ok (.ldc2_w 232, 3) := by decide +kernel
theorem dX7_checksum_123 : decode cX7_checksum 123 = .ok (.lload_n 1, 1) := by decide +kernel
theorem dX7_checksum_124 : decode cX7_checksum 124 = .ok (.lmul, 1) := by decide +kernel
theorem dX7_checksum_125 : decode cX7_checksum 125 = .ok (.aload_n 0, 1) := by decide +kernel
theorem dX7_checksum_126 : decode cX7_checksum 126 = .ok (.getfield 41, 3) := by decide +kernel
theorem dX7_checksum_129 : decode cX7_checksum 129 = .ok (.i2l, 1) := by decide +kernel
theorem dX7_checksum_130 : decode cX7_checksum 130 = .ok (.ladd, 1) := by decide +kernel
theorem dX7_checksum_131 : decode cX7_checksum 131 = .ok (.lstore_n 1, 1) := by decide +kernel
theorem dX7_checksum_132 : decode cX7_checksum 132 = .ok (.iconst 0, 1) := by decide +kernel
theorem dX7_checksum_133 : decode cX7_checksum 133 = .ok (.istore_n 3, 1) := by decide +kernel
theorem dX7_checksum_134 : decode cX7_checksum 134 = .ok (.iload_n 3, 1) := by decide +kernel
theorem dX7_checksum_135 : decode cX7_checksum 135 = .ok (.aload_n 0, 1) := by decide +kernel
theorem dX7_checksum_136 : decode cX7_checksum 136 = .ok (.getfield 19, 3) := by decide +kernel
theorem dX7_checksum_139 : decode cX7_checksum 139 = .ok (.getfield 97, 3) := by decide +kernel
theorem dX7_checksum_142 : decode cX7_checksum 142 = .ok (.invokevirtual 100, 3) := by decide +kernel
theorem dX7_checksum_145 : decode cX7_checksum 145 = .ok (.if_icmp .ge 34, 3) := by decide +kernel
theorem dX7_checksum_148 : decode cX7_checksum 148 = .ok (.ldc2_w 232, 3) := by decide +kernel
theorem dX7_checksum_151 : decode cX7_checksum 151 = .ok (.lload_n 1, 1) := by decide +kernel
theorem dX7_checksum_152 : decode cX7_checksum 152 = .ok (.lmul, 1) := by decide +kernel
theorem dX7_checksum_153 : decode cX7_checksum 153 = .ok (.aload_n 0, 1) := by decide +kernel
theorem dX7_checksum_154 : decode cX7_checksum 154 = .ok (.getfield 19, 3) := by decide +kernel
theorem dX7_checksum_157 : decode cX7_checksum 157 = .ok (.getfield 97, 3) := by decide +kernel
theorem dX7_checksum_160 : decode cX7_checksum 160 = .ok (.iload_n 3, 1) := by decide +kernel
theorem dX7_checksum_161 : decode cX7_checksum 161 = .ok (.invokevirtual 179, 3) := by decide +kernel
theorem dX7_checksum_164 : decode cX7_checksum 164 = .ok (.checkcast 73, 3) := by decide +kernel
theorem dX7_checksum_167 : decode cX7_checksum 167 = .ok (.getfield 208, 3) := by decide +kernel
theorem dX7_checksum_170 : decode cX7_checksum 170 = .ok (.i2l, 1) := by decide +kernel
theorem dX7_checksum_171 : decode cX7_checksum 171 = .ok (.ladd, 1) := by decide +kernel
theorem dX7_checksum_172 : decode cX7_checksum 172 = .ok (.lstore_n 1, 1) := by decide +kernel
theorem dX7_checksum_173 : decode cX7_checksum 173 = .ok (.iinc 3 1, 3) := by decide +kernel
theorem dX7_checksum_176 : decode cX7_checksum 176 = .ok (.goto (-42), 3) := by decide +kernel
theorem dX7_checksum_179 : decode cX7_checksum 179 = .ok (.lload_n 1, 1) := by decide +kernel
theorem dX7_checksum_180 : decode cX7_checksum 180 = .ok (.lreturn, 1) := by decide +kernel
theorem dX7_joiningShare_0 : decode cX7_joiningShare 0 = .ok (.aload_n 0, 1) := by decide +kernel
theorem dX7_joiningShare_1 : decode cX7_joiningShare 1 = .ok (.getfield 10, 3) := by decide +kernel
theorem dX7_joiningShare_4 : decode cX7_joiningShare 4 = .ok (.bipush 112, 2) := by decide +kernel
theorem dX7_joiningShare_6 : decode cX7_joiningShare 6 = .ok (.invokevirtual 234, 3) := by decide +kernel
theorem dX7_joiningShare_9 : decode cX7_joiningShare 9 = .ok (.istore_n 1, 1) := by decide +kernel
theorem dX7_joiningShare_10 : decode cX7_joiningShare 10 = .ok (.iload_n 1, 1) := by decide +kernel
theorem dX7_joiningShare_11 : decode cX7_joiningShare 11 = .ok (.ifCond .ne 13, 3) := by decide +kernel
theorem dX7_joiningShare_14 : decode cX7_joiningShare 14 = .ok (.new 238, 3) := by decide +kernel
theorem dX7_joiningShare_17 : decode cX7_joiningShare 17 = .ok (.dup, 1) := by decide +kernel
theorem dX7_joiningShare_18 : decode cX7_joiningShare 18 = .ok (.ldc 240, 2) := by decide +kernel
theorem dX7_joiningShare_20 : decode cX7_joiningShare 20 = .ok (.invokespecial 242, 3) := by decide +kernel
theorem dX7_joiningShare_23 : decode cX7_joiningShare 23 = .ok (.athrow, 1) := by decide +kernel
theorem dX7_joiningShare_24 : decode cX7_joiningShare 24 = .ok (.aload_n 0, 1) := by decide +kernel
theorem dX7_joiningShare_25 : decode cX7_joiningShare 25 = .ok (.getfield 10, 3) := by decide +kernel
theorem dX7_joiningShare_28 : decode cX7_joiningShare 28 = .ok (.invokevirtual 157, 3) := by decide +kernel
theorem dX7_joiningShare_31 : decode cX7_joiningShare 31 = .ok (.i2f, 1) := by decide +kernel
theorem dX7_joiningShare_32 : decode cX7_joiningShare 32 = .ok (.iload_n 1, 1) := by decide +kernel
theorem dX7_joiningShare_33 : decode cX7_joiningShare 33 = .ok (.i2f, 1) := by decide +kernel
theorem dX7_joiningShare_34 : decode cX7_joiningShare 34 = .ok (.fdiv, 1) := by decide +kernel
theorem dX7_joiningShare_35 : decode cX7_joiningShare 35 = .ok (.freturn, 1) := by decide +kernel
theorem dX7_meanNoise_0 : decode cX7_meanNoise 0 = .ok (.aload_n 0, 1) := by decide +kernel
theorem dX7_meanNoise_1 : decode cX7_meanNoise 1 = .ok (.getfield 10, 3) := by decide +kernel
theorem dX7_meanNoise_4 : decode cX7_meanNoise 4 = .ok (.getfield 223, 3) := by decide +kernel
theorem dX7_meanNoise_7 : decode cX7_meanNoise 7 = .ok (.aload_n 0, 1) := by decide +kernel
theorem dX7_meanNoise_8 : decode cX7_meanNoise 8 = .ok (.getfield 10, 3) := by decide +kernel
theorem dX7_meanNoise_11 : decode cX7_meanNoise 11 = .ok (.getfield 226, 3) := by decide +kernel
theorem dX7_meanNoise_14 : decode cX7_meanNoise 14 = .ok (.imul, 1) := by decide +kernel
theorem dX7_meanNoise_15 : decode cX7_meanNoise 15 = .ok (.istore_n 1, 1) := by decide +kernel
theorem dX7_meanNoise_16 : decode cX7_meanNoise 16 = .ok (.iload_n 1, 1) := by decide +kernel
theorem dX7_meanNoise_17 : decode cX7_meanNoise 17 = .ok (.ifCond .ne 13, 3) := by decide +kernel
theorem dX7_meanNoise_20 : decode cX7_meanNoise 20 = .ok (.new 238, 3) := by decide +kernel
theorem dX7_meanNoise_23 : decode cX7_meanNoise 23 = .ok (.dup, 1) := by decide +kernel
theorem dX7_meanNoise_24 : decode cX7_meanNoise 24 = .ok (.ldc 243, 2) := by decide +kernel
theorem dX7_meanNoise_26 : decode cX7_meanNoise 26 = .ok (.invokespecial 242, 3) := by decide +kernel
theorem dX7_meanNoise_29 : decode cX7_meanNoise 29 = .ok (.athrow, 1) := by decide +kernel
theorem dX7_meanNoise_30 : decode cX7_meanNoise 30 = .ok (.aload_n 0, 1) := by decide +kernel
theorem dX7_meanNoise_31 : decode cX7_meanNoise 31 = .ok (.getfield 10, 3) := by decide +kernel
theorem dX7_meanNoise_34 : decode cX7_meanNoise 34 = .ok (.invokevirtual 154, 3) := by decide +kernel
theorem dX7_meanNoise_37 : decode cX7_meanNoise 37 = .ok (.i2d, 1) := by decide +kernel
theorem dX7_meanNoise_38 : decode cX7_meanNoise 38 = .ok (.iload_n 1, 1) := by decide +kernel
theorem dX7_meanNoise_39 : decode cX7_meanNoise 39 = .ok (.i2d, 1) := by decide +kernel
theorem dX7_meanNoise_40 : decode cX7_meanNoise 40 = .ok (.ddiv, 1) := by decide +kernel
theorem dX7_meanNoise_41 : decode cX7_meanNoise 41 = .ok (.dreturn, 1) := by decide +kernel
theorem dX7_isSound_0 : decode cX7_isSound 0 = .ok (.aload_n 0, 1) := by decide +kernel
theorem dX7_isSound_1 : decode cX7_isSound 1 = .ok (.getfield 10, 3) := by decide +kernel
theorem dX7_isSound_4 : decode cX7_isSound 4 = .ok (.invokevirtual 245, 3) := by decide +kernel
theorem dX7_isSound_7 : decode cX7_isSound 7 = .ok (.ifCond .eq 24, 3) := by decide +kernel
theorem dX7_isSound_10 : decode cX7_isSound 10 = .ok (.aload_n 0, 1) := by decide +kernel
theorem dX7_isSound_11 : decode cX7_isSound 11 = .ok (.getfield 19, 3) := by decide +kernel
theorem dX7_isSound_14 : decode cX7_isSound 14 = .ok (.invokevirtual 248, 3) := by decide +kernel
theorem dX7_isSound_17 : decode cX7_isSound 17 = .ok (.ifCond .eq 14, 3) := by decide +kernel
theorem dX7_isSound_20 : decode cX7_isSound 20 = .ok (.aload_n 0, 1) := by decide +kernel
theorem dX7_isSound_21 : decode cX7_isSound 21 = .ok (.getfield 37, 3) := by decide +kernel
theorem dX7_isSound_24 : decode cX7_isSound 24 = .ok (.ifCond .lt 7, 3) := by decide +kernel
theorem dX7_isSound_27 : decode cX7_isSound 27 = .ok (.iconst 1, 1) := by decide +kernel
theorem dX7_isSound_28 : decode cX7_isSound 28 = .ok (.goto 4, 3) := by decide +kernel
theorem dX7_isSound_31 : decode cX7_isSound 31 = .ok (.iconst 0, 1) := by decide +kernel
theorem dX7_isSound_32 : decode cX7_isSound 32 = .ok (.ireturn, 1) := by decide +kernel
theorem dX7_checkRange_0 : decode cX7_checkRange 0 = .ok (.iload_n 0, 1) := by decide +kernel
theorem dX7_checkRange_1 : decode cX7_checkRange 1 = .ok (.iload_n 1, 1) := by decide +kernel
theorem dX7_checkRange_2 : decode cX7_checkRange 2 = .ok (.if_icmp .lt 8, 3) := by decide +kernel
theorem dX7_checkRange_5 : decode cX7_checkRange 5 = .ok (.iload_n 0, 1) := by decide +kernel
theorem dX7_checkRange_6 : decode cX7_checkRange 6 = .ok (.iload_n 2, 1) := by decide +kernel
theorem dX7_checkRange_7 : decode cX7_checkRange 7 = .ok (.if_icmp .le 13, 3) := by decide +kernel
theorem dX7_checkRange_10 : decode cX7_checkRange 10 = .ok (.new 249, 3) := by decide +kernel
theorem dX7_checkRange_13 : decode cX7_checkRange 13 = .ok (.dup, 1) := by decide +kernel
theorem dX7_checkRange_14 : decode cX7_checkRange 14 = .ok (.ldc 251, 2) := by decide +kernel
theorem dX7_checkRange_16 : decode cX7_checkRange 16 = .ok (.invokespecial 253, 3) := by decide +kernel
theorem dX7_checkRange_19 : decode cX7_checkRange 19 = .ok (.athrow, 1) := by decide +kernel
theorem dX7_checkRange_20 : decode cX7_checkRange 20 = .ok (.return_, 1) := by decide +kernel
theorem dX7_checkCueKind_0 : decode cX7_checkCueKind 0 = .ok (.iload_n 0, 1) := by decide +kernel
theorem dX7_checkCueKind_1 : decode cX7_checkCueKind 1 = .ok (.bipush 99, 2) := by decide +kernel
theorem dX7_checkCueKind_3 : decode cX7_checkCueKind 3 = .ok (.if_icmp .eq 31, 3) := by decide +kernel
theorem dX7_checkCueKind_6 : decode cX7_checkCueKind 6 = .ok (.iload_n 0, 1) := by decide +kernel
theorem dX7_checkCueKind_7 : decode cX7_checkCueKind 7 = .ok (.bipush 119, 2) := by decide +kernel
theorem dX7_checkCueKind_9 : decode cX7_checkCueKind 9 = .ok (.if_icmp .eq 25, 3) := by decide +kernel
theorem dX7_checkCueKind_12 : decode cX7_checkCueKind 12 = .ok (.iload_n 0, 1) := by decide +kernel
theorem dX7_checkCueKind_13 : decode cX7_checkCueKind 13 = .ok (.bipush 108, 2) := by decide +kernel
theorem dX7_checkCueKind_15 : decode cX7_checkCueKind 15 = .ok (.if_icmp .eq 19, 3) := by decide +kernel
theorem dX7_checkCueKind_18 : decode cX7_checkCueKind 18 = .ok (.iload_n 0, 1) := by decide +kernel
theorem dX7_checkCueKind_19 : decode cX7_checkCueKind 19 = .ok (.bipush 101, 2) := by decide +kernel
theorem dX7_checkCueKind_21 : decode cX7_checkCueKind 21 = .ok (.if_icmp .eq 13, 3) := by decide +kernel
theorem dX7_checkCueKind_24 : decode cX7_checkCueKind 24 = .ok (.new 249, 3) := by decide +kernel
theorem dX7_checkCueKind_27 : decode cX7_checkCueKind 27 = .ok (.dup, 1) := by decide +kernel
theorem dX7_checkCueKind_28 : decode cX7_checkCueKind 28 = .ok (.ldc 254, 2) := by decide +kernel
theorem dX7_checkCueKind_30 : decode cX7_checkCueKind 30 = .ok (.invokespecial 253, 3) := by decide +kernel
theorem dX7_checkCueKind_33 : decode cX7_checkCueKind 33 = .ok (.athrow, 1) := by decide +kernel
theorem dX7_checkCueKind_34 : decode cX7_checkCueKind 34 = .ok (.return_, 1) := by decide +kernel
theorem dX7_checkHouse_0 : decode cX7_checkHouse 0 = .ok (.aload_n 0, 1) := by decide +kernel
theorem dX7_checkHouse_1 : decode cX7_checkHouse 1 = .ok (.getfield 10, 3) := by decide +kernel
theorem dX7_checkHouse_4 : decode cX7_checkHouse 4 = .ok (.getfield 223, 3) := by decide +kernel
theorem dX7_checkHouse_7 : decode cX7_checkHouse 7 = .ok (.ifCond .ne 13, 3) := by decide +kernel
theorem dX7_checkHouse_10 : decode cX7_checkHouse 10 = .ok (.new 104, 3) := by decide +kernel
theorem dX7_checkHouse_13 : decode cX7_checkHouse 13 = .ok (.dup, 1) := by decide +kernel
theorem dX7_checkHouse_14 : decode cX7_checkHouse 14 = .ok (.ldc 243, 2) := by decide +kernel
theorem dX7_checkHouse_16 : decode cX7_checkHouse 16 = .ok (.invokespecial 108, 3) := by decide +kernel
theorem dX7_checkHouse_19 : decode cX7_checkHouse 19 = .ok (.athrow, 1) := by decide +kernel
theorem dX7_checkHouse_20 : decode cX7_checkHouse 20 = .ok (.return_, 1) := by decide +kernel
theorem dX7_existingSeat_0 : decode cX7_existingSeat 0 = .ok (.aload_n 0, 1) := by decide +kernel
theorem dX7_existingSeat_1 : decode cX7_existingSeat 1 = .ok (.getfield 10, 3) := by decide +kernel
theorem dX7_existingSeat_4 : decode cX7_existingSeat 4 = .ok (.iload_n 1, 1) := by decide +kernel
theorem dX7_existingSeat_5 : decode cX7_existingSeat 5 = .ok (.iload_n 2, 1) := by decide +kernel
theorem dX7_existingSeat_6 : decode cX7_existingSeat 6 = .ok (.invokevirtual 229, 3) := by decide +kernel
theorem dX7_existingSeat_9 : decode cX7_existingSeat 9 = .ok (.astore_n 3, 1) := by decide +kernel
theorem dX7_existingSeat_10 : decode cX7_existingSeat 10 = .ok (.aload_n 3, 1) := by decide +kernel
theorem dX7_existingSeat_11 : decode cX7_existingSeat 11 = .ok (.ifnonnull 14, 3) := by decide +kernel
theorem dX7_existingSeat_14 : decode cX7_existingSeat 14 = .ok (.new 256, 3) := by decide +kernel
theorem dX7_existingSeat_17 : decode cX7_existingSeat 17 = .ok (.dup, 1) := by decide +kernel
theorem dX7_existingSeat_18 : decode cX7_existingSeat 18 = .ok (.ldc_w 258, 3) := by decide +kernel
theorem dX7_existingSeat_21 : decode cX7_existingSeat 21 = .ok (.invokespecial 260, 3) := by decide +kernel
theorem dX7_existingSeat_24 : decode cX7_existingSeat 24 = .ok (.athrow, 1) := by decide +kernel
theorem dX7_existingSeat_25 : decode cX7_existingSeat 25 = .ok (.aload_n 3, 1) := by decide +kernel
theorem dX7_existingSeat_26 : decode cX7_existingSeat 26 = .ok (.areturn, 1) := by decide +kernel
theorem dX7_existingHand_0 : decode cX7_existingHand 0 = .ok (.iload_n 1, 1) := by decide +kernel
theorem dX7_existingHand_1 : decode cX7_existingHand 1 = .ok (.ifCond .lt 17, 3) := by decide +kernel
theorem dX7_existingHand_4 : decode cX7_existingHand 4 = .ok (.iload_n 1, 1) := by decide +kernel
theorem dX7_existingHand_5 : decode cX7_existingHand 5 = .ok (.aload_n 0, 1) := by decide +kernel
theorem dX7_existingHand_6 : decode cX7_existingHand 6 = .ok (.getfield 19, 3) := by decide +kernel
theorem dX7_existingHand_9 : decode cX7_existingHand 9 = .ok (.getfield 97, 3) := by decide +kernel
theorem dX7_existingHand_12 : decode cX7_existingHand 12 = .ok (.invokevirtual 100, 3) := by decide +kernel
theorem dX7_existingHand_15 : decode cX7_existingHand 15 = .ok (.if_icmp .lt 14, 3) := by decide +kernel
theorem dX7_existingHand_18 : decode cX7_existingHand 18 = .ok (.new 256, 3) := by decide +kernel
theorem dX7_existingHand_21 : decode cX7_existingHand 21 = .ok (.dup, 1) := by decide +kernel
theorem dX7_existingHand_22 : decode cX7_existingHand 22 = .ok (.ldc_w 261, 3) := by decide +kernel
theorem dX7_existingHand_25 : decode cX7_existingHand 25 = .ok (.invokespecial 260, 3) := by decide +kernel
theorem dX7_existingHand_28 : decode cX7_existingHand 28 = .ok (.athrow, 1) := by decide +kernel
theorem dX7_existingHand_29 : decode cX7_existingHand 29 = .ok (.aload_n 0, 1) := by decide +kernel
theorem dX7_existingHand_30 : decode cX7_existingHand 30 = .ok (.getfield 19, 3) := by decide +kernel
theorem dX7_existingHand_33 : decode cX7_existingHand 33 = .ok (.getfield 97, 3) := by decide +kernel
theorem dX7_existingHand_36 : decode cX7_existingHand 36 = .ok (.iload_n 1, 1) := by decide +kernel
theorem dX7_existingHand_37 : decode cX7_existingHand 37 = .ok (.invokevirtual 179, 3) := by decide +kernel
theorem dX7_existingHand_40 : decode cX7_existingHand 40 = .ok (.checkcast 73, 3) := by decide +kernel
theorem dX7_existingHand_43 : decode cX7_existingHand 43 = .ok (.areturn, 1) := by decide +kernel
theorem dX7_existingSinger_0 : decode cX7_existingSinger 0 = .ok (.iload_n 1, 1) := by decide +kernel
theorem dX7_existingSinger_1 : decode cX7_existingSinger 1 = .ok (.ifCond .lt 14, 3) := by decide +kernel
theorem dX7_existingSinger_4 : decode cX7_existingSinger 4 = .ok (.iload_n 1, 1) := by decide +kernel
theorem dX7_existingSinger_5 : decode cX7_existingSinger 5 = .ok (.aload_n 0, 1) := by decide +kernel
theorem dX7_existingSinger_6 : decode cX7_existingSinger 6 = .ok (.getfield 26, 3) := by decide +kernel
theorem dX7_existingSinger_9 : decode cX7_existingSinger 9 = .ok (.invokevirtual 100, 3) := by decide +kernel
theorem dX7_existingSinger_12 : decode cX7_existingSinger 12 = .ok (.if_icmp .lt 14, 3) := by decide +kernel
theorem dX7_existingSinger_15 : decode cX7_existingSinger 15 = .ok (.new 256, 3) := by decide +kernel
theorem dX7_existingSinger_18 : decode cX7_existingSinger 18 = .ok (.dup, 1) := by decide +kernel
theorem dX7_existingSinger_19 : decode cX7_existingSinger 19 = .ok (.ldc_w 263, 3) := by decide +kernel
theorem dX7_existingSinger_22 : decode cX7_existingSinger 22 = .ok (.invokespecial 260, 3) := by decide +kernel
theorem dX7_existingSinger_25 : decode cX7_existingSinger 25 = .ok (.athrow, 1) := by decide +kernel
theorem dX7_existingSinger_26 : decode cX7_existingSinger 26 = .ok (.aload_n 0, 1) := by decide +kernel
theorem dX7_existingSinger_27 : decode cX7_existingSinger 27 = .ok (.getfield 26, 3) := by decide +kernel
theorem dX7_existingSinger_30 : decode cX7_existingSinger 30 = .ok (.iload_n 1, 1) := by decide +kernel
theorem dX7_existingSinger_31 : decode cX7_existingSinger 31 = .ok (.invokevirtual 179, 3) := by decide +kernel
theorem dX7_existingSinger_34 : decode cX7_existingSinger 34 = .ok (.checkcast 118, 3) := by decide +kernel
theorem dX7_existingSinger_37 : decode cX7_existingSinger 37 = .ok (.areturn, 1) := by decide +kernel
theorem dX7_existingPlan_0 : decode cX7_existingPlan 0 = .ok (.aload_n 0, 1) := by decide +kernel
theorem dX7_existingPlan_1 : decode cX7_existingPlan 1 = .ok (.getfield 19, 3) := by decide +kernel
theorem dX7_existingPlan_4 : decode cX7_existingPlan 4 = .ok (.bipush 6, 2) := by decide +kernel
theorem dX7_existingPlan_6 : decode cX7_existingPlan 6 = .ok (.iload_n 1, 1) := by decide +kernel
theorem dX7_existingPlan_7 : decode cX7_existingPlan 7 = .ok (.imul, 1) := by decide +kernel
theorem dX7_existingPlan_8 : decode cX7_existingPlan 8 = .ok (.invokevirtual 265, 3) := by decide +kernel
theorem dX7_existingPlan_11 : decode cX7_existingPlan 11 = .ok (.istore_n 2, 1) := by decide +kernel
theorem dX7_existingPlan_12 : decode cX7_existingPlan 12 = .ok (.iload_n 2, 1) := by decide +kernel
theorem dX7_existingPlan_13 : decode cX7_existingPlan 13 = .ok (.ifCond .ne 14, 3) := by decide +kernel
theorem dX7_existingPlan_16 : decode cX7_existingPlan 16 = .ok (.new 268, 3) := by decide +kernel
theorem dX7_existingPlan_19 : decode cX7_existingPlan 19 = .ok (.dup, 1) := by decide +kernel
theorem dX7_existingPlan_20 : decode cX7_existingPlan 20 = .ok (.ldc_w 270, 3) := by decide +kernel
theorem dX7_existingPlan_23 : decode cX7_existingPlan 23 = .ok (.invokespecial 272, 3) := by decide +kernel
theorem dX7_existingPlan_26 : decode cX7_existingPlan 26 = .ok (.athrow, 1) := by decide +kernel
theorem dX7_existingPlan_27 : decode cX7_existingPlan 27 = .ok (.iload_n 2, 1) := by decide +kernel
theorem dX7_existingPlan_28 : decode cX7_existingPlan 28 = .ok (.ireturn, 1) := by decide +kernel
theorem dX7_beginEvening_0 : decode cX7_beginEvening 0 = .ok (.aload_n 0, 1) := by decide +kernel
theorem dX7_beginEvening_1 : decode cX7_beginEvening 1 = .ok (.getfield 33, 3) := by decide +kernel
theorem dX7_beginEvening_4 : decode cX7_beginEvening 4 = .ok (.invokevirtual 273, 3) := by decide +kernel
theorem dX7_beginEvening_7 : decode cX7_beginEvening 7 = .ok (.iconst 0, 1) := by decide +kernel
theorem dX7_beginEvening_8 : decode cX7_beginEvening 8 = .ok (.istore_n 1, 1) := by decide +kernel
theorem dX7_beginEvening_9 : decode cX7_beginEvening 9 = .ok (.iload_n 1, 1) := by decide +kernel
theorem dX7_beginEvening_10 : decode cX7_beginEvening 10 = .ok (.aload_n 0, 1) := by decide +kernel
theorem dX7_beginEvening_11 : decode cX7_beginEvening 11 = .ok (.getfield 26, 3) := by decide +kernel
theorem dX7_beginEvening_14 : decode cX7_beginEvening 14 = .ok (.invokevirtual 100, 3) := by decide +kernel
theorem dX7_beginEvening_17 : decode cX7_beginEvening 17 = .ok (.if_icmp .ge 24, 3) := by decide +kernel
theorem dX7_beginEvening_20 : decode cX7_beginEvening 20 = .ok (.aload_n 0, 1) := by decide +kernel
theorem dX7_beginEvening_21 : decode cX7_beginEvening 21 = .ok (.getfield 26, 3) := by decide +kernel
theorem dX7_beginEvening_24 : decode cX7_beginEvening 24 = .ok (.iload_n 1, 1) := by decide +kernel
theorem dX7_beginEvening_25 : decode cX7_beginEvening 25 = .ok (.invokevirtual 179, 3) := by decide +kernel
theorem dX7_beginEvening_28 : decode cX7_beginEvening 28 = .ok (.checkcast 118, 3) := by decide +kernel
theorem dX7_beginEvening_31 : decode cX7_beginEvening 31 = .ok (.iconst 0, 1) := by decide +kernel
theorem dX7_beginEvening_32 : decode cX7_beginEvening 32 = .ok (.putfield 168, 3) := by decide +kernel
theorem dX7_beginEvening_35 : decode cX7_beginEvening 35 = .ok (.iinc 1 1, 3) := by decide +kernel
theorem dX7_beginEvening_38 : decode cX7_beginEvening 38 = .ok (.goto (-29), 3) := by decide +kernel
theorem dX7_beginEvening_41 : decode cX7_beginEvening 41 = .ok (.return_, 1) := by decide +kernel
theorem dX7_billFor_0 : decode cX7_billFor 0 = .ok (.aload_n 0, 1) := by decide +kernel
theorem dX7_billFor_1 : decode cX7_billFor 1 = .ok (.getfield 33, 3) := by decide +kernel
theorem dX7_billFor_4 : decode cX7_billFor 4 = .ok (.aload_n 1, 1) := by decide +kernel
theorem dX7_billFor_5 : decode cX7_billFor 5 = .ok (.invokevirtual 276, 3) := by decide +kernel
theorem dX7_billFor_8 : decode cX7_billFor 8 = .ok (.ifCond .ne 5, 3) := by decide +kernel
theorem dX7_billFor_11 : decode cX7_billFor 11 = .ok (.iconst 0, 1) := by decide +kernel
theorem dX7_billFor_12 : decode cX7_billFor 12 = .ok (.ireturn, 1) := by decide +kernel
theorem dX7_billFor_13 : decode cX7_billFor 13 = .ok (.aload_n 1, 1) := by decide +kernel
theorem dX7_billFor_14 : decode cX7_billFor 14 = .ok (.getfield 280, 3) := by decide +kernel
theorem dX7_billFor_17 : decode cX7_billFor 17 = .ok (.aload_n 1, 1) := by decide +kernel
theorem dX7_billFor_18 : decode cX7_billFor 18 = .ok (.getfield 283, 3) := by decide +kernel
theorem dX7_billFor_21 : decode cX7_billFor 21 = .ok (.aload_n 1, 1) := by decide +kernel
theorem dX7_billFor_22 : decode cX7_billFor 22 = .ok (.getfield 168, 3) := by decide +kernel
theorem dX7_billFor_25 : decode cX7_billFor 25 = .ok (.imul, 1) := by decide +kernel
theorem dX7_billFor_26 : decode cX7_billFor 26 = .ok (.iadd, 1) := by decide +kernel
theorem dX7_billFor_27 : decode cX7_billFor 27 = .ok (.istore_n 2, 1) := by decide +kernel
theorem dX7_billFor_28 : decode cX7_billFor 28 = .ok (.aload_n 1, 1) := by decide +kernel
theorem dX7_billFor_29 : decode cX7_billFor 29 = .ok (.dup, 1) := by decide +kernel
theorem dX7_billFor_30 : decode cX7_billFor 30 = .ok (.getfield 191, 3) := by decide +kernel
theorem dX7_billFor_33 : decode cX7_billFor 33 = .ok (.iload_n 2, 1) := by decide +kernel
theorem dX7_billFor_34 : decode cX7_billFor 34 = .ok (.iadd, 1) := by decide +kernel
theorem dX7_billFor_35 : decode cX7_billFor 35 = .ok (.putfield 191, 3) := by decide +kernel
theorem dX7_billFor_38 : decode cX7_billFor 38 = .ok (.iload_n 2, 1) := by decide +kernel
theorem dX7_billFor_39 : decode cX7_billFor 39 = .ok (.ireturn, 1) := by decide +kernel
