theorem dL_newHouse_0 : decode cL_newHouse 0 = .ok (.aload_n 3, 1) := by decide +kernel
theorem dL_newHouse_1 : decode cL_newHouse 1 = .ok (.iconst 0, 1) := by decide +kernel
theorem dL_newHouse_2 : decode cL_newHouse 2 = .ok (.aload_n 0, 1) := by decide +kernel
theorem dL_newHouse_3 : decode cL_newHouse 3 = .ok (.iload_n 1, 1) := by decide +kernel
theorem dL_newHouse_4 : decode cL_newHouse 4 = .ok (.iload_n 2, 1) := by decide +kernel
theorem dL_newHouse_5 : decode cL_newHouse 5 = .ok (.invokevirtual 7, 3) := by decide +kernel
theorem dL_newHouse_8 : decode cL_newHouse 8 = .ok (.i2l, 1) := by decide +kernel
theorem dL_newHouse_9 : decode cL_newHouse 9 = .ok (.lastore, 1) := by decide +kernel
theorem dL_newHouse_10 : decode cL_newHouse 10 = .ok (.goto 7, 3) := by decide +kernel
theorem dL_newHouse_13 : decode cL_newHouse 13 = .ok (.astore 4, 2) := by decide +kernel
theorem dL_newHouse_15 : decode cL_newHouse 15 = .ok (.iconst 1, 1) := by decide +kernel
theorem dL_newHouse_16 : decode cL_newHouse 16 = .ok (.ireturn, 1) := by decide +kernel
theorem dL_newHouse_17 : decode cL_newHouse 17 = .ok (.iconst 0, 1) := by decide +kernel
theorem dL_newHouse_18 : decode cL_newHouse 18 = .ok (.ireturn, 1) := by decide +kernel
theorem dL_seatPayer_0 : decode cL_seatPayer 0 = .ok (.aload 4, 2) := by decide +kernel
theorem dL_seatPayer_2 : decode cL_seatPayer 2 = .ok (.iconst 0, 1) := by decide +kernel
theorem dL_seatPayer_3 : decode cL_seatPayer 3 = .ok (.aload_n 0, 1) := by decide +kernel
theorem dL_seatPayer_4 : decode cL_seatPayer 4 = .ok (.iload_n 1, 1) := by decide +kernel
theorem dL_seatPayer_5 : decode cL_seatPayer 5 = .ok (.iload_n 2, 1) := by decide +kernel
theorem dL_seatPayer_6 : decode cL_seatPayer 6 = .ok (.iload_n 3, 1) := by decide +kernel
theorem dL_seatPayer_7 : decode cL_seatPayer 7 = .ok (.invokevirtual 15, 3) := by decide +kernel
theorem dL_seatPayer_10 : decode cL_seatPayer 10 = .ok (.i2l, 1) := by decide +kernel
theorem dL_seatPayer_11 : decode cL_seatPayer 11 = .ok (.lastore, 1) := by decide +kernel
theorem dL_seatPayer_12 : decode cL_seatPayer 12 = .ok (.goto 11, 3) := by decide +kernel
theorem dL_seatPayer_15 : decode cL_seatPayer 15 = .ok (.astore 5, 2) := by decide +kernel
theorem dL_seatPayer_17 : decode cL_seatPayer 17 = .ok (.iconst 1, 1) := by decide +kernel
theorem dL_seatPayer_18 : decode cL_seatPayer 18 = .ok (.ireturn, 1) := by decide +kernel
theorem dL_seatPayer_19 : decode cL_seatPayer 19 = .ok (.astore 5, 2) := by decide +kernel
theorem dL_seatPayer_21 : decode cL_seatPayer 21 = .ok (.iconst 2, 1) := by decide +kernel
theorem dL_seatPayer_22 : decode cL_seatPayer 22 = .ok (.ireturn, 1) := by decide +kernel
theorem dL_seatPayer_23 : decode cL_seatPayer 23 = .ok (.iconst 0, 1) := by decide +kernel
theorem dL_seatPayer_24 : decode cL_seatPayer 24 = .ok (.ireturn, 1) := by decide +kernel
theorem dL_seatRival_0 : decode cL_seatRival 0 = .ok (.aload_n 3, 1) := by decide +kernel
theorem dL_seatRival_1 : decode cL_seatRival 1 = .ok (.iconst 0, 1) := by decide +kernel
theorem dL_seatRival_2 : decode cL_seatRival 2 = .ok (.aload_n 0, 1) := by decide +kernel
theorem dL_seatRival_3 : decode cL_seatRival 3 = .ok (.iload_n 1, 1) := by decide +kernel
theorem dL_seatRival_4 : decode cL_seatRival 4 = .ok (.iload_n 2, 1) := by decide +kernel
theorem dL_seatRival_5 : decode cL_seatRival 5 = .ok (.invokevirtual 21, 3) := by decide +kernel
theorem dL_seatRival_8 : decode cL_seatRival 8 = .ok (.i2l, 1) := by decide +kernel
theorem dL_seatRival_9 : decode cL_seatRival 9 = .ok (.lastore, 1) := by decide +kernel
theorem dL_seatRival_10 : decode cL_seatRival 10 = .ok (.goto 7, 3) := by decide +kernel
theorem dL_seatRival_13 : decode cL_seatRival 13 = .ok (.astore 4, 2) := by decide +kernel
theorem dL_seatRival_15 : decode cL_seatRival 15 = .ok (.iconst 1, 1) := by decide +kernel
theorem dL_seatRival_16 : decode cL_seatRival 16 = .ok (.ireturn, 1) := by decide +kernel
theorem dL_seatRival_17 : decode cL_seatRival 17 = .ok (.iconst 0, 1) := by decide +kernel
theorem dL_seatRival_18 : decode cL_seatRival 18 = .ok (.ireturn, 1) := by decide +kernel
theorem dL_seatHand_0 : decode cL_seatHand 0 = .ok (.aload 4, 2) := by decide +kernel
theorem dL_seatHand_2 : decode cL_seatHand 2 = .ok (.iconst 0, 1) := by decide +kernel
theorem dL_seatHand_3 : decode cL_seatHand 3 = .ok (.aload_n 0, 1) := by decide +kernel
theorem dL_seatHand_4 : decode cL_seatHand 4 = .ok (.iload_n 1, 1) := by decide +kernel
theorem dL_seatHand_5 : decode cL_seatHand 5 = .ok (.iload_n 2, 1) := by decide +kernel
theorem dL_seatHand_6 : decode cL_seatHand 6 = .ok (.iload_n 3, 1) := by decide +kernel
theorem dL_seatHand_7 : decode cL_seatHand 7 = .ok (.invokevirtual 25, 3) := by decide +kernel
theorem dL_seatHand_10 : decode cL_seatHand 10 = .ok (.i2l, 1) := by decide +kernel
theorem dL_seatHand_11 : decode cL_seatHand 11 = .ok (.lastore, 1) := by decide +kernel
theorem dL_seatHand_12 : decode cL_seatHand 12 = .ok (.goto 11, 3) := by decide +kernel
theorem dL_seatHand_15 : decode cL_seatHand 15 = .ok (.astore 5, 2) := by decide +kernel
theorem dL_seatHand_17 : decode cL_seatHand 17 = .ok (.iconst 1, 1) := by decide +kernel
theorem dL_seatHand_18 : decode cL_seatHand 18 = .ok (.ireturn, 1) := by decide +kernel
theorem dL_seatHand_19 : decode cL_seatHand 19 = .ok (.astore 5, 2) := by decide +kernel
theorem dL_seatHand_21 : decode cL_seatHand 21 = .ok (.iconst 2, 1) := by decide +kernel
theorem dL_seatHand_22 : decode cL_seatHand 22 = .ok (.ireturn, 1) := by decide +kernel
theorem dL_seatHand_23 : decode cL_seatHand 23 = .ok (.iconst 0, 1) := by decide +kernel
theorem dL_seatHand_24 : decode cL_seatHand 24 = .ok (.ireturn, 1) := by decide +kernel
theorem dL_clearSeat_0 : decode cL_clearSeat 0 = .ok (.aload_n 3, 1) := by decide +kernel
theorem dL_clearSeat_1 : decode cL_clearSeat 1 = .ok (.iconst 0, 1) := by decide +kernel
theorem dL_clearSeat_2 : decode cL_clearSeat 2 = .ok (.aload_n 0, 1) := by decide +kernel
theorem dL_clearSeat_3 : decode cL_clearSeat 3 = .ok (.iload_n 1, 1) := by decide +kernel
theorem dL_clearSeat_4 : decode cL_clearSeat 4 = .ok (.iload_n 2, 1) := by decide +kernel
theorem dL_clearSeat_5 : decode cL_clearSeat 5 = .ok (.invokevirtual 30, 3) := by decide +kernel
theorem dL_clearSeat_8 : decode cL_clearSeat 8 = .ok (.i2l, 1) := by decide +kernel
theorem dL_clearSeat_9 : decode cL_clearSeat 9 = .ok (.lastore, 1) := by decide +kernel
theorem dL_clearSeat_10 : decode cL_clearSeat 10 = .ok (.goto 7, 3) := by decide +kernel
theorem dL_clearSeat_13 : decode cL_clearSeat 13 = .ok (.astore 4, 2) := by decide +kernel
theorem dL_clearSeat_15 : decode cL_clearSeat 15 = .ok (.iconst 1, 1) := by decide +kernel
theorem dL_clearSeat_16 : decode cL_clearSeat 16 = .ok (.ireturn, 1) := by decide +kernel
theorem dL_clearSeat_17 : decode cL_clearSeat 17 = .ok (.iconst 0, 1) := by decide +kernel
theorem dL_clearSeat_18 : decode cL_clearSeat 18 = .ok (.ireturn, 1) := by decide +kernel
theorem dL_seatAt_0 : decode cL_seatAt 0 = .ok (.aload_n 3, 1) := by decide +kernel
theorem dL_seatAt_1 : decode cL_seatAt 1 = .ok (.iconst 0, 1) := by decide +kernel
theorem dL_seatAt_2 : decode cL_seatAt 2 = .ok (.aload_n 0, 1) := by decide +kernel
theorem dL_seatAt_3 : decode cL_seatAt 3 = .ok (.iload_n 1, 1) := by decide +kernel
theorem dL_seatAt_4 : decode cL_seatAt 4 = .ok (.iload_n 2, 1) := by decide +kernel
theorem dL_seatAt_5 : decode cL_seatAt 5 = .ok (.invokevirtual 33, 3) := by decide +kernel
theorem dL_seatAt_8 : decode cL_seatAt 8 = .ok (.i2l, 1) := by decide +kernel
theorem dL_seatAt_9 : decode cL_seatAt 9 = .ok (.lastore, 1) := by decide +kernel
theorem dL_seatAt_10 : decode cL_seatAt 10 = .ok (.goto 7, 3) := by decide +kernel
theorem dL_seatAt_13 : decode cL_seatAt 13 = .ok (.astore 4, 2) := by decide +kernel
theorem dL_seatAt_15 : decode cL_seatAt 15 = .ok (.iconst 1, 1) := by decide +kernel
theorem dL_seatAt_16 : decode cL_seatAt 16 = .ok (.ireturn, 1) := by decide +kernel
theorem dL_seatAt_17 : decode cL_seatAt 17 = .ok (.iconst 0, 1) := by decide +kernel
theorem dL_seatAt_18 : decode cL_seatAt 18 = .ok (.ireturn, 1) := by decide +kernel
theorem dL_addHand_0 : decode cL_addHand 0 = .ok (.aload 5, 2) := by decide +kernel
theorem dL_addHand_2 : decode cL_addHand 2 = .ok (.iconst 0, 1) := by decide +kernel
theorem dL_addHand_3 : decode cL_addHand 3 = .ok (.aload_n 0, 1) := by decide +kernel
theorem dL_addHand_4 : decode cL_addHand 4 = .ok (.iload_n 1, 1) := by decide +kernel
theorem dL_addHand_5 : decode cL_addHand 5 = .ok (.iload_n 2, 1) := by decide +kernel
theorem dL_addHand_6 : decode cL_addHand 6 = .ok (.iload_n 3, 1) := by decide +kernel
theorem dL_addHand_7 : decode cL_addHand 7 = .ok (.iload 4, 2) := by decide +kernel
theorem dL_addHand_9 : decode cL_addHand 9 = .ok (.invokevirtual 36, 3) := by decide +kernel
theorem dL_addHand_12 : decode cL_addHand 12 = .ok (.i2l, 1) := by decide +kernel
theorem dL_addHand_13 : decode cL_addHand 13 = .ok (.lastore, 1) := by decide +kernel
theorem dL_addHand_14 : decode cL_addHand 14 = .ok (.goto 11, 3) := by decide +kernel
theorem dL_addHand_17 : decode cL_addHand 17 = .ok (.astore 6, 2) := by decide +kernel
theorem dL_addHand_19 : decode cL_addHand 19 = .ok (.iconst 1, 1) := by decide +kernel
theorem dL_addHand_20 : decode cL_addHand 20 = .ok (.ireturn, 1) := by decide +kernel
theorem dL_addHand_21 : decode cL_addHand 21 = .ok (.astore 6, 2) := by decide +kernel
theorem dL_addHand_23 : decode cL_addHand 23 = .ok (.iconst 2, 1) := by decide +kernel
theorem dL_addHand_24 : decode cL_addHand 24 = .ok (.ireturn, 1) := by decide +kernel
theorem dL_addHand_25 : decode cL_addHand 25 = .ok (.iconst 0, 1) := by decide +kernel
theorem dL_addHand_26 : decode cL_addHand 26 = .ok (.ireturn, 1) := by decide +kernel
theorem dL_isSeated_0 : decode cL_isSeated 0 = .ok (.aload_n 2, 1) := by decide +kernel
theorem dL_isSeated_1 : decode cL_isSeated 1 = .ok (.iconst 0, 1) := by decide +kernel
theorem dL_isSeated_2 : decode cL_isSeated 2 = .ok (.aload_n 0, 1) := by decide +kernel
theorem dL_isSeated_3 : decode cL_isSeated 3 = .ok (.iload_n 1, 1) := by decide +kernel
theorem dL_isSeated_4 : decode cL_isSeated 4 = .ok (.invokevirtual 42, 3) := by decide +kernel
theorem dL_isSeated_7 : decode cL_isSeated 7 = .ok (.ifCond .eq 7, 3) := by decide +kernel
theorem dL_isSeated_10 : decode cL_isSeated 10 = .ok (.lconst 1, 1) := by decide +kernel
theorem dL_isSeated_11 : decode cL_isSeated 11 = .ok (.goto 4, 3) := by decide +kernel
theorem dL_isSeated_14 : decode cL_isSeated 14 = .ok (.lconst 0, 1) := by decide +kernel
theorem dL_isSeated_15 : decode cL_isSeated 15 = .ok (.lastore, 1) := by decide +kernel
theorem dL_isSeated_16 : decode cL_isSeated 16 = .ok (.goto 6, 3) := by decide +kernel
theorem dL_isSeated_19 : decode cL_isSeated 19 = .ok (.astore_n 3, 1) := by decide +kernel
theorem dL_isSeated_20 : decode cL_isSeated 20 = .ok (.iconst 1, 1) := by decide +kernel
theorem dL_isSeated_21 : decode cL_isSeated 21 = .ok (.ireturn, 1) := by decide +kernel
theorem dL_isSeated_22 : decode cL_isSeated 22 = .ok (.iconst 0, 1) := by decide +kernel
theorem dL_isSeated_23 : decode cL_isSeated 23 = .ok (.ireturn, 1) := by decide +kernel
theorem dL_addSinger_0 : decode cL_addSinger 0 = .ok (.aload_n 3, 1) := by decide +kernel
theorem dL_addSinger_1 : decode cL_addSinger 1 = .ok (.iconst 0, 1) := by decide +kernel
theorem dL_addSinger_2 : decode cL_addSinger 2 = .ok (.aload_n 0, 1) := by decide +kernel
theorem dL_addSinger_3 : decode cL_addSinger 3 = .ok (.iload_n 1, 1) := by decide +kernel
theorem dL_addSinger_4 : decode cL_addSinger 4 = .ok (.iload_n 2, 1) := by decide +kernel
theorem dL_addSinger_5 : decode cL_addSinger 5 = .ok (.invokevirtual 46, 3) := by decide +kernel
theorem dL_addSinger_8 : decode cL_addSinger 8 = .ok (.i2l, 1) := by decide +kernel
theorem dL_addSinger_9 : decode cL_addSinger 9 = .ok (.lastore, 1) := by decide +kernel
theorem dL_addSinger_10 : decode cL_addSinger 10 = .ok (.goto 11, 3) := by decide +kernel
theorem dL_addSinger_13 : decode cL_addSinger 13 = .ok (.astore 4, 2) := by decide +kernel
theorem dL_addSinger_15 : decode cL_addSinger 15 = .ok (.iconst 1, 1) := by decide +kernel
theorem dL_addSinger_16 : decode cL_addSinger 16 = .ok (.ireturn, 1) := by decide +kernel
theorem dL_addSinger_17 : decode cL_addSinger 17 = .ok (.astore 4, 2) := by decide +kernel
theorem dL_addSinger_19 : decode cL_addSinger 19 = .ok (.iconst 2, 1) := by decide +kernel
theorem dL_addSinger_20 : decode cL_addSinger 20 = .ok (.ireturn, 1) := by decide +kernel
theorem dL_addSinger_21 : decode cL_addSinger 21 = .ok (.iconst 0, 1) := by decide +kernel
theorem dL_addSinger_22 : decode cL_addSinger 22 = .ok (.ireturn, 1) := by decide +kernel
theorem dL_addCue_0 : decode cL_addCue 0 = .ok (.aload 6, 2) := by decide +kernel
theorem dL_addCue_2 : decode cL_addCue 2 = .ok (.iconst 0, 1) := by decide +kernel
theorem dL_addCue_3 : decode cL_addCue 3 = .ok (.aload_n 0, 1) := by decide +kernel
theorem dL_addCue_4 : decode cL_addCue 4 = .ok (.iload_n 1, 1) := by decide +kernel
theorem dL_addCue_5 : decode cL_addCue 5 = .ok (.iload_n 2, 1) := by decide +kernel
theorem dL_addCue_6 : decode cL_addCue 6 = .ok (.iload_n 3, 1) := by decide +kernel
theorem dL_addCue_7 : decode cL_addCue 7 = .ok (.iload 4, 2) := by decide +kernel
theorem dL_addCue_9 : decode cL_addCue 9 = .ok (.iload 5, 2) := by decide +kernel
theorem dL_addCue_11 : decode cL_addCue 11 = .ok (.invokevirtual 49, 3) := by decide +kernel
theorem dL_addCue_14 : decode cL_addCue 14 = .ok (.i2l, 1) := by decide +kernel
theorem dL_addCue_15 : decode cL_addCue 15 = .ok (.lastore, 1) := by decide +kernel
theorem dL_addCue_16 : decode cL_addCue 16 = .ok (.goto 19, 3) := by decide +kernel
theorem dL_addCue_19 : decode cL_addCue 19 = .ok (.astore 7, 2) := by decide +kernel
theorem dL_addCue_21 : decode cL_addCue 21 = .ok (.iconst 1, 1) := by decide +kernel
theorem dL_addCue_22 : decode cL_addCue 22 = .ok (.ireturn, 1) := by decide +kernel
theorem dL_addCue_23 : decode cL_addCue 23 = .ok (.astore 7, 2) := by decide +kernel
theorem dL_addCue_25 : decode cL_addCue 25 = .ok (.iconst 2, 1) := by decide +kernel
theorem dL_addCue_26 : decode cL_addCue 26 = .ok (.ireturn, 1) := by decide +kernel
theorem dL_addCue_27 : decode cL_addCue 27 = .ok (.astore 7, 2) := by decide +kernel
theorem dL_addCue_29 : decode cL_addCue 29 = .ok (.iconst 3, 1) := by decide +kernel
theorem dL_addCue_30 : decode cL_addCue 30 = .ok (.ireturn, 1) := by decide +kernel
theorem dL_addCue_31 : decode cL_addCue 31 = .ok (.astore 7, 2) := by decide +kernel
theorem dL_addCue_33 : decode cL_addCue 33 = .ok (.iconst 4, 1) := by decide +kernel
theorem dL_addCue_34 : decode cL_addCue 34 = .ok (.ireturn, 1) := by decide +kernel
theorem dL_addCue_35 : decode cL_addCue 35 = .ok (.iconst 0, 1) := by decide +kernel
theorem dL_addCue_36 : decode cL_addCue 36 = .ok (.ireturn, 1) := by decide +kernel
theorem dL_setLevel_0 : decode cL_setLevel 0 = .ok (.aload_n 2, 1) := by decide +kernel
theorem dL_setLevel_1 : decode cL_setLevel 1 = .ok (.iconst 0, 1) := by decide +kernel
theorem dL_setLevel_2 : decode cL_setLevel 2 = .ok (.aload_n 0, 1) := by decide +kernel
theorem dL_setLevel_3 : decode cL_setLevel 3 = .ok (.iload_n 1, 1) := by decide +kernel
theorem dL_setLevel_4 : decode cL_setLevel 4 = .ok (.invokevirtual 53, 3) := by decide +kernel
theorem dL_setLevel_7 : decode cL_setLevel 7 = .ok (.i2l, 1) := by decide +kernel
theorem dL_setLevel_8 : decode cL_setLevel 8 = .ok (.lastore, 1) := by decide +kernel
theorem dL_setLevel_9 : decode cL_setLevel 9 = .ok (.goto 6, 3) := by decide +kernel
theorem dL_setLevel_12 : decode cL_setLevel 12 = .ok (.astore_n 3, 1) := by decide +kernel
theorem dL_setLevel_13 : decode cL_setLevel 13 = .ok (.iconst 1, 1) := by decide +kernel
theorem dL_setLevel_14 : decode cL_setLevel 14 = .ok (.ireturn, 1) := by decide +kernel
theorem dL_setLevel_15 : decode cL_setLevel 15 = .ok (.iconst 0, 1) := by decide +kernel
theorem dL_setLevel_16 : decode cL_setLevel 16 = .ok (.ireturn, 1) := by decide +kernel
theorem dL_run_0 : decode cL_run 0 = .ok (.aload_n 2, 1) := by decide +kernel
theorem dL_run_1 : decode cL_run 1 = .ok (.iconst 0, 1) := by decide +kernel
theorem dL_run_2 : decode cL_run 2 = .ok (.aload_n 0, 1) := by decide +kernel
theorem dL_run_3 : decode cL_run 3 = .ok (.iload_n 1, 1) := by decide +kernel
theorem dL_run_4 : decode cL_run 4 = .ok (.invokevirtual 57, 3) := by decide +kernel
theorem dL_run_7 : decode cL_run 7 = .ok (.i2l, 1) := by decide +kernel
theorem dL_run_8 : decode cL_run 8 = .ok (.lastore, 1) := by decide +kernel
theorem dL_run_9 : decode cL_run 9 = .ok (.goto 9, 3) := by decide +kernel
theorem dL_run_12 : decode cL_run 12 = .ok (.astore_n 3, 1) := by decide +kernel
theorem dL_run_13 : decode cL_run 13 = .ok (.iconst 1, 1) := by decide +kernel
theorem dL_run_14 : decode cL_run 14 = .ok (.ireturn, 1) := by decide +kernel
theorem dL_run_15 : decode cL_run 15 = .ok (.astore_n 3, 1) := by decide +kernel
theorem dL_run_16 : decode cL_run 16 = .ok (.iconst 2, 1) := by decide +kernel
theorem dL_run_17 : decode cL_run 17 = .ok (.ireturn, 1) := by decide +kernel
theorem dL_run_18 : decode cL_run 18 = .ok (.iconst 0, 1) := by decide +kernel
theorem dL_run_19 : decode cL_run 19 = .ok (.ireturn, 1) := by decide +kernel
theorem dL_noiseAt_0 : decode cL_noiseAt 0 = .ok (.aload_n 3, 1) := by decide +kernel
theorem dL_noiseAt_1 : decode cL_noiseAt 1 = .ok (.iconst 0, 1) := by decide +kernel
theorem dL_noiseAt_2 : decode cL_noiseAt 2 = .ok (.aload_n 0, 1) := by decide +kernel
theorem dL_noiseAt_3 : decode cL_noiseAt 3 = .ok (.iload_n 1, 1) := by decide +kernel
theorem dL_noiseAt_4 : decode cL_noiseAt 4 = .ok (.iload_n 2, 1) := by decide +kernel
theorem dL_noiseAt_5 : decode cL_noiseAt 5 = .ok (.invokevirtual 60, 3) := by decide +kernel
theorem dL_noiseAt_8 : decode cL_noiseAt 8 = .ok (.i2l, 1) := by decide +kernel
theorem dL_noiseAt_9 : decode cL_noiseAt 9 = .ok (.lastore, 1) := by decide +kernel
theorem dL_noiseAt_10 : decode cL_noiseAt 10 = .ok (.goto 7, 3) := by decide +kernel
theorem dL_noiseAt_13 : decode cL_noiseAt 13 = .ok (.astore 4, 2) := by decide +kernel
theorem dL_noiseAt_15 : decode cL_noiseAt 15 = .ok (.iconst 1, 1) := by decide +kernel
theorem dL_noiseAt_16 : decode cL_noiseAt 16 = .ok (.ireturn, 1) := by decide +kernel
theorem dL_noiseAt_17 : decode cL_noiseAt 17 = .ok (.iconst 0, 1) := by decide +kernel
theorem dL_noiseAt_18 : decode cL_noiseAt 18 = .ok (.ireturn, 1) := by decide +kernel
theorem dL_tiredness_0 : decode cL_tiredness 0 = .ok (.aload_n 3, 1) := by decide +kernel
theorem dL_tiredness_1 : decode cL_tiredness 1 = .ok (.iconst 0, 1) := by decide +kernel
theorem dL_tiredness_2 : decode cL_tiredness 2 = .ok (.aload_n 0, 1) := by decide +kernel
theorem dL_tiredness_3 : decode cL_tiredness 3 = .ok (.iload_n 1, 1) := by decide +kernel
theorem dL_tiredness_4 : decode cL_tiredness 4 = .ok (.iload_n 2, 1) := by decide +kernel
theorem dL_tiredness_5 : decode cL_tiredness 5 = .ok (.invokevirtual 63, 3) := by decide +kernel
theorem dL_tiredness_8 : decode cL_tiredness 8 = .ok (.i2l, 1) := by decide +kernel
theorem dL_tiredness_9 : decode cL_tiredness 9 = .ok (.lastore, 1) := by decide +kernel
theorem dL_tiredness_10 : decode cL_tiredness 10 = .ok (.goto 11, 3) := by decide +kernel
theorem dL_tiredness_13 : decode cL_tiredness 13 = .ok (.astore 4, 2) := by decide +kernel
theorem dL_tiredness_15 : decode cL_tiredness 15 = .ok (.iconst 1, 1) := by decide +kernel
theorem dL_tiredness_16 : decode cL_tiredness 16 = .ok (.ireturn, 1) := by decide +kernel
theorem dL_tiredness_17 : decode cL_tiredness 17 = .ok (.astore 4, 2) := by decide +kernel
theorem dL_tiredness_19 : decode cL_tiredness 19 = .ok (.iconst 2, 1) := by decide +kernel
theorem dL_tiredness_20 : decode cL_tiredness 20 = .ok (.ireturn, 1) := by decide +kernel
theorem dL_tiredness_21 : decode cL_tiredness 21 = .ok (.iconst 0, 1) := by decide +kernel
theorem dL_tiredness_22 : decode cL_tiredness 22 = .ok (.ireturn, 1) := by decide +kernel
theorem dL_callsOf_0 : decode cL_callsOf 0 = .ok (.aload_n 2, 1) := by decide +kernel
theorem dL_callsOf_1 : decode cL_callsOf 1 = .ok (.iconst 0, 1) := by decide +kernel
theorem dL_callsOf_2 : decode cL_callsOf 2 = .ok (.aload_n 0, 1) := by decide +kernel
theorem dL_callsOf_3 : decode cL_callsOf 3 = .ok (.iload_n 1, 1) := by decide +kernel
theorem dL_callsOf_4 : decode cL_callsOf 4 = .ok (.invokevirtual 66, 3) := by decide +kernel
theorem dL_callsOf_7 : decode cL_callsOf 7 = .ok (.i2l, 1) := by decide +kernel
theorem dL_callsOf_8 : decode cL_callsOf 8 = .ok (.lastore, 1) := by decide +kernel
theorem dL_callsOf_9 : decode cL_callsOf 9 = .ok (.goto 6, 3) := by decide +kernel
theorem dL_callsOf_12 : decode cL_callsOf 12 = .ok (.astore_n 3, 1) := by decide +kernel
theorem dL_callsOf_13 : decode cL_callsOf 13 = .ok (.iconst 1, 1) := by decide +kernel
theorem dL_callsOf_14 : decode cL_callsOf 14 = .ok (.ireturn, 1) := by decide +kernel
theorem dL_callsOf_15 : decode cL_callsOf 15 = .ok (.iconst 0, 1) := by decide +kernel
theorem dL_callsOf_16 : decode cL_callsOf 16 = .ok (.ireturn, 1) := by decide +kernel
theorem dL_endEvening_0 : decode cL_endEvening 0 = .ok (.aload_n 1, 1) := by decide +kernel
theorem dL_endEvening_1 : decode cL_endEvening 1 = .ok (.iconst 0, 1) := by decide +kernel
theorem dL_endEvening_2 : decode cL_endEvening 2 = .ok (.aload_n 0, 1) := by decide +kernel
theorem dL_endEvening_3 : decode cL_endEvening 3 = .ok (.invokevirtual 69, 3) := by decide +kernel
theorem dL_endEvening_6 : decode cL_endEvening 6 = .ok (.i2l, 1) := by decide +kernel
theorem dL_endEvening_7 : decode cL_endEvening 7 = .ok (.lastore, 1) := by decide +kernel
theorem dL_endEvening_8 : decode cL_endEvening 8 = .ok (.goto 6, 3) := by decide +kernel
theorem dL_endEvening_11 : decode cL_endEvening 11 = .ok (.astore_n 2, 1) := by decide +kernel
theorem dL_endEvening_12 : decode cL_endEvening 12 = .ok (.iconst 1, 1) := by decide +kernel
theorem dL_endEvening_13 : decode cL_endEvening 13 = .ok (.ireturn, 1) := by decide +kernel
theorem dL_endEvening_14 : decode cL_endEvening 14 = .ok (.iconst 0, 1) := by decide +kernel
theorem dL_endEvening_15 : decode cL_endEvening 15 = .ok (.ireturn, 1) := by decide +kernel
theorem dL_pay_0 : decode cL_pay 0 = .ok (.aload_n 3, 1) := by decide +kernel
theorem dL_pay_1 : decode cL_pay 1 = .ok (.iconst 0, 1) := by decide +kernel
theorem dL_pay_2 : decode cL_pay 2 = .ok (.aload_n 0, 1) := by decide +kernel
theorem dL_pay_3 : decode cL_pay 3 = .ok (.iload_n 1, 1) := by decide +kernel
theorem dL_pay_4 : decode cL_pay 4 = .ok (.iload_n 2, 1) := by decide +kernel
theorem dL_pay_5 : decode cL_pay 5 = .ok (.invokevirtual 73, 3) := by decide +kernel
theorem dL_pay_8 : decode cL_pay 8 = .ok (.i2l, 1) := by decide +kernel
theorem dL_pay_9 : decode cL_pay 9 = .ok (.lastore, 1) := by decide +kernel
theorem dL_pay_10 : decode cL_pay 10 = .ok (.goto 15, 3) := by decide +kernel
theorem dL_pay_13 : decode cL_pay 13 = .ok (.astore 4, 2) := by decide +kernel
theorem dL_pay_15 : decode cL_pay 15 = .ok (.iconst 1, 1) := by decide +kernel
theorem dL_pay_16 : decode cL_pay 16 = .ok (.ireturn, 1) := by decide +kernel
theorem dL_pay_17 : decode cL_pay 17 = .ok (.astore 4, 2) := by decide +kernel
theorem dL_pay_19 : decode cL_pay 19 = .ok (.iconst 2, 1) := by decide +kernel
theorem dL_pay_20 : decode cL_pay 20 = .ok (.ireturn, 1) := by decide +kernel
theorem dL_pay_21 : decode cL_pay 21 = .ok (.astore 4, 2) := by decide +kernel
theorem dL_pay_23 : decode cL_pay 23 = .ok (.iconst 3, 1) := by decide +kernel
theorem dL_pay_24 : decode cL_pay 24 = .ok (.ireturn, 1) := by decide +kernel
theorem dL_pay_25 : decode cL_pay 25 = .ok (.iconst 0, 1) := by decide +kernel
theorem dL_pay_26 : decode cL_pay 26 = .ok (.ireturn, 1) := by decide +kernel
theorem dL_owed_0 : decode cL_owed 0 = .ok (.aload_n 2, 1) := by decide +kernel
theorem dL_owed_1 : decode cL_owed 1 = .ok (.iconst 0, 1) := by decide +kernel
theorem dL_owed_2 : decode cL_owed 2 = .ok (.aload_n 0, 1) := by decide +kernel
theorem dL_owed_3 : decode cL_owed 3 = .ok (.iload_n 1, 1) := by decide +kernel
theorem dL_owed_4 : decode cL_owed 4 = .ok (.invokevirtual 76, 3) := by decide +kernel
theorem dL_owed_7 : decode cL_owed 7 = .ok (.i2l, 1) := by decide +kernel
theorem dL_owed_8 : decode cL_owed 8 = .ok (.lastore, 1) := by decide +kernel
theorem dL_owed_9 : decode cL_owed 9 = .ok (.goto 6, 3) := by decide +kernel
theorem dL_owed_12 : decode cL_owed 12 = .ok (.astore_n 3, 1) := by decide +kernel
theorem dL_owed_13 : decode cL_owed 13 = .ok (.iconst 1, 1) := by decide +kernel
theorem dL_owed_14 : decode cL_owed 14 = .ok (.ireturn, 1) := by decide +kernel
theorem dL_owed_15 : decode cL_owed 15 = .ok (.iconst 0, 1) := by decide +kernel
theorem dL_owed_16 : decode cL_owed 16 = .ok (.ireturn, 1) := by decide +kernel
theorem dL_share_0 : decode cL_share 0 = .ok (.aload_n 1, 1) := by decide +kernel
theorem dL_share_1 : decode cL_share 1 = .ok (.iconst 0, 1) := by decide +kernel
theorem dL_share_2 : decode cL_share 2 = .ok (.aload_n 0, 1) := by decide +kernel
theorem dL_share_3 : decode cL_share 3 = .ok (.invokevirtual 79, 3) := by decide +kernel
theorem dL_share_6 : decode cL_share 6 = .ok (.i2l, 1) := by decide +kernel
theorem dL_share_7 : decode cL_share 7 = .ok (.lastore, 1) := by decide +kernel
theorem dL_share_8 : decode cL_share 8 = .ok (.goto 6, 3) := by decide +kernel
theorem dL_share_11 : decode cL_share 11 = .ok (.astore_n 2, 1) := by decide +kernel
theorem dL_share_12 : decode cL_share 12 = .ok (.iconst 1, 1) := by decide +kernel
theorem dL_share_13 : decode cL_share 13 = .ok (.ireturn, 1) := by decide +kernel
theorem dL_share_14 : decode cL_share 14 = .ok (.iconst 0, 1) := by decide +kernel
theorem dL_share_15 : decode cL_share 15 = .ok (.ireturn, 1) := by decide +kernel
theorem dL_moneyOf_0 : decode cL_moneyOf 0 = .ok (.aload_n 2, 1) := by decide +kernel
theorem dL_moneyOf_1 : decode cL_moneyOf 1 = .ok (.iconst 0, 1) := by decide +kernel
theorem dL_moneyOf_2 : decode cL_moneyOf 2 = .ok (.aload_n 0, 1) := by decide +kernel
theorem dL_moneyOf_3 : decode cL_moneyOf 3 = .ok (.iload_n 1, 1) := by decide +kernel
theorem dL_moneyOf_4 : decode cL_moneyOf 4 = .ok (.invokevirtual 82, 3) := by decide +kernel
theorem dL_moneyOf_7 : decode cL_moneyOf 7 = .ok (.i2l, 1) := by decide +kernel
theorem dL_moneyOf_8 : decode cL_moneyOf 8 = .ok (.lastore, 1) := by decide +kernel
theorem dL_moneyOf_9 : decode cL_moneyOf 9 = .ok (.goto 6, 3) := by decide +kernel
theorem dL_moneyOf_12 : decode cL_moneyOf 12 = .ok (.astore_n 3, 1) := by decide +kernel
theorem dL_moneyOf_13 : decode cL_moneyOf 13 = .ok (.iconst 1, 1) := by decide +kernel
theorem dL_moneyOf_14 : decode cL_moneyOf 14 = .ok (.ireturn, 1) := by decide +kernel
theorem dL_moneyOf_15 : decode cL_moneyOf 15 = .ok (.iconst 0, 1) := by decide +kernel
theorem dL_moneyOf_16 : decode cL_moneyOf 16 = .ok (.ireturn, 1) := by decide +kernel
theorem dL_planCost_0 : decode cL_planCost 0 = .ok (.aload_n 2, 1) := by decide +kernel
theorem dL_planCost_1 : decode cL_planCost 1 = .ok (.iconst 0, 1) := by decide +kernel
theorem dL_planCost_2 : decode cL_planCost 2 = .ok (.aload_n 0, 1) := by decide +kernel
theorem dL_planCost_3 : decode cL_planCost 3 = .ok (.iload_n 1, 1) := by decide +kernel
theorem dL_planCost_4 : decode cL_planCost 4 = .ok (.invokevirtual 85, 3) := by decide +kernel
theorem dL_planCost_7 : decode cL_planCost 7 = .ok (.i2l, 1) := by decide +kernel
theorem dL_planCost_8 : decode cL_planCost 8 = .ok (.lastore, 1) := by decide +kernel
theorem dL_planCost_9 : decode cL_planCost 9 = .ok (.goto 9, 3) := by decide +kernel
theorem dL_planCost_12 : decode cL_planCost 12 = .ok (.astore_n 3, 1) := by decide +kernel
theorem dL_planCost_13 : decode cL_planCost 13 = .ok (.iconst 1, 1) := by decide +kernel
theorem dL_planCost_14 : decode cL_planCost 14 = .ok (.ireturn, 1) := by decide +kernel
theorem dL_planCost_15 : decode cL_planCost 15 = .ok (.astore_n 3, 1) := by decide +kernel
theorem dL_planCost_16 : decode cL_planCost 16 = .ok (.iconst 2, 1) := by decide +kernel
theorem dL_planCost_17 : decode cL_planCost 17 = .ok (.ireturn, 1) := by decide +kernel
theorem dL_planCost_18 : decode cL_planCost 18 = .ok (.iconst 0, 1) := by decide +kernel
theorem dL_planCost_19 : decode cL_planCost 19 = .ok (.ireturn, 1) := by decide +kernel
theorem dL_isPlanned_0 : decode cL_isPlanned 0 = .ok (.aload_n 3, 1) := by decide +kernel
theorem dL_isPlanned_1 : decode cL_isPlanned 1 = .ok (.iconst 0, 1) := by decide +kernel
theorem dL_isPlanned_2 : decode cL_isPlanned 2 = .ok (.aload_n 0, 1) := by decide +kernel
theorem dL_isPlanned_3 : decode cL_isPlanned 3 = .ok (.iload_n 1, 1) := by decide +kernel
theorem dL_isPlanned_4 : decode cL_isPlanned 4 = .ok (.iload_n 2, 1) := by decide +kernel
theorem dL_isPlanned_5 : decode cL_isPlanned 5 = .ok (.invokevirtual 90, 3) := by decide +kernel
theorem dL_isPlanned_8 : decode cL_isPlanned 8 = .ok (.ifCond .eq 7, 3) := by decide +kernel
theorem dL_isPlanned_11 : decode cL_isPlanned 11 = .ok (.lconst 1, 1) := by decide +kernel
theorem dL_isPlanned_12 : decode cL_isPlanned 12 = .ok (.goto 4, 3) := by decide +kernel
theorem dL_isPlanned_15 : decode cL_isPlanned 15 = .ok (.lconst 0, 1) := by decide +kernel
theorem dL_isPlanned_16 : decode cL_isPlanned 16 = .ok (.lastore, 1) := by decide +kernel
theorem dL_isPlanned_17 : decode cL_isPlanned 17 = .ok (.goto 15, 3) := by decide +kernel
theorem dL_isPlanned_20 : decode cL_isPlanned 20 = .ok (.astore 4, 2) := by decide +kernel
theorem dL_isPlanned_22 : decode cL_isPlanned 22 = .ok (.iconst 1, 1) := by decide +kernel
theorem dL_isPlanned_23 : decode cL_isPlanned 23 = .ok (.ireturn, 1) := by decide +kernel
theorem dL_isPlanned_24 : decode cL_isPlanned 24 = .ok (.astore 4, 2) := by decide +kernel
theorem dL_isPlanned_26 : decode cL_isPlanned 26 = .ok (.iconst 2, 1) := by decide +kernel
theorem dL_isPlanned_27 : decode cL_isPlanned 27 = .ok (.ireturn, 1) := by decide +kernel
theorem dL_isPlanned_28 : decode cL_isPlanned 28 = .ok (.astore 4, 2) := by decide +kernel
theorem dL_isPlanned_30 : decode cL_isPlanned 30 = .ok (.iconst 3, 1) := by decide +kernel
theorem dL_isPlanned_31 : decode cL_isPlanned 31 = .ok (.ireturn, 1) := by decide +kernel
theorem dL_isPlanned_32 : decode cL_isPlanned 32 = .ok (.iconst 0, 1) := by decide +kernel
theorem dL_isPlanned_33 : decode cL_isPlanned 33 = .ok (.ireturn, 1) := by decide +kernel
theorem dL_joiningShare_0 : decode cL_joiningShare 0 = .ok (.aload_n 1, 1) := by decide +kernel
theorem dL_joiningShare_1 : decode cL_joiningShare 1 = .ok (.iconst 0, 1) := by decide +kernel
theorem dL_joiningShare_2 : decode cL_joiningShare 2 = .ok (.aload_n 0, 1) := by decide +kernel
theorem dL_joiningShare_3 : decode cL_joiningShare 3 = .ok (.invokevirtual 94, 3) := by decide +kernel
theorem dL_joiningShare_6 : decode cL_joiningShare 6 = .ok (.f2d, 1) := by decide +kernel
theorem dL_joiningShare_7 : decode cL_joiningShare 7 = .ok (.dastore, 1) := by decide +kernel
theorem dL_joiningShare_8 : decode cL_joiningShare 8 = .ok (.goto 6, 3) := by decide +kernel
theorem dL_joiningShare_11 : decode cL_joiningShare 11 = .ok (.astore_n 2, 1) := by decide +kernel
theorem dL_joiningShare_12 : decode cL_joiningShare 12 = .ok (.iconst 1, 1) := by decide +kernel
theorem dL_joiningShare_13 : decode cL_joiningShare 13 = .ok (.ireturn, 1) := by decide +kernel
theorem dL_joiningShare_14 : decode cL_joiningShare 14 = .ok (.iconst 0, 1) := by decide +kernel
theorem dL_joiningShare_15 : decode cL_joiningShare 15 = .ok (.ireturn, 1) := by decide +kernel
theorem dL_meanNoise_0 : decode cL_meanNoise 0 = .ok (.aload_n 1, 1) := by decide +kernel
theorem dL_meanNoise_1 : decode cL_meanNoise 1 = .ok (.iconst 0, 1) := by decide +kernel
theorem dL_meanNoise_2 : decode cL_meanNoise 2 = .ok (.aload_n 0, 1) := by decide +kernel
theorem dL_meanNoise_3 : decode cL_meanNoise 3 = .ok (.invokevirtual 100, 3) := by decide +kernel
theorem dL_meanNoise_6 : decode cL_meanNoise 6 = .ok (.dastore, 1) := by decide +kernel
theorem dL_meanNoise_7 : decode cL_meanNoise 7 = .ok (.goto 6, 3) := by decide +kernel
theorem dL_meanNoise_10 : decode cL_meanNoise 10 = .ok (.astore_n 2, 1) := by decide +kernel
theorem dL_meanNoise_11 : decode cL_meanNoise 11 = .ok (.iconst 1, 1) := by decide +kernel
theorem dL_meanNoise_12 : decode cL_meanNoise 12 = .ok (.ireturn, 1) := by decide +kernel
theorem dL_meanNoise_13 : decode cL_meanNoise 13 = .ok (.iconst 0, 1) := by decide +kernel
theorem dL_meanNoise_14 : decode cL_meanNoise 14 = .ok (.ireturn, 1) := by decide +kernel
