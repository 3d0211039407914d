theorem dX0_init_0 : decode cX0_init 0 = .ok (.aload_n 0, 1) := by decide +kernel
theorem dX0_init_1 : decode cX0_init 1 = .ok (.invokespecial 1, 3) := by decide +kernel
theorem dX0_init_4 : decode cX0_init 4 = .ok (.aload_n 0, 1) := by decide +kernel
theorem dX0_init_5 : decode cX0_init 5 = .ok (.aload_n 1, 1) := by decide +kernel
theorem dX0_init_6 : decode cX0_init 6 = .ok (.putfield 7, 3) := by decide +kernel
theorem dX0_init_9 : decode cX0_init 9 = .ok (.aload_n 0, 1) := by decide +kernel
theorem dX0_init_10 : decode cX0_init 10 = .ok (.iload_n 2, 1) := by decide +kernel
theorem dX0_init_11 : decode cX0_init 11 = .ok (.putfield 13, 3) := by decide +kernel
theorem dX0_init_14 : decode cX0_init 14 = .ok (.aload_n 0, 1) := by decide +kernel
theorem dX0_init_15 : decode cX0_init 15 = .ok (.iload_n 3, 1) := by decide +kernel
theorem dX0_init_16 : decode cX0_init 16 = .ok (.putfield 17, 3) := by decide +kernel
theorem dX0_init_19 : decode cX0_init 19 = .ok (.aload_n 0, 1) := by decide +kernel
theorem dX0_init_20 : decode cX0_init 20 = .ok (.iload 4, 2) := by decide +kernel
theorem dX0_init_22 : decode cX0_init 22 = .ok (.putfield 21, 3) := by decide +kernel
theorem dX0_init_25 : decode cX0_init 25 = .ok (.aload_n 0, 1) := by decide +kernel
theorem dX0_init_26 : decode cX0_init 26 = .ok (.iload 5, 2) := by decide +kernel
theorem dX0_init_28 : decode cX0_init 28 = .ok (.putfield 24, 3) := by decide +kernel
theorem dX0_init_31 : decode cX0_init 31 = .ok (.return_, 1) := by decide +kernel
theorem dX0_lastTick_0 : decode cX0_lastTick 0 = .ok (.aload_n 0, 1) := by decide +kernel
theorem dX0_lastTick_1 : decode cX0_lastTick 1 = .ok (.getfield 17, 3) := by decide +kernel
theorem dX0_lastTick_4 : decode cX0_lastTick 4 = .ok (.aload_n 0, 1) := by decide +kernel
theorem dX0_lastTick_5 : decode cX0_lastTick 5 = .ok (.getfield 24, 3) := by decide +kernel
theorem dX0_lastTick_8 : decode cX0_lastTick 8 = .ok (.iadd, 1) := by decide +kernel
theorem dX0_lastTick_9 : decode cX0_lastTick 9 = .ok (.iconst 1, 1) := by decide +kernel
theorem dX0_lastTick_10 : decode cX0_lastTick 10 = .ok (.isub, 1) := by decide +kernel
theorem dX0_lastTick_11 : decode cX0_lastTick 11 = .ok (.ireturn, 1) := by decide +kernel
theorem dX0_isOnIn_0 : decode cX0_isOnIn 0 = .ok (.aload_n 0, 1) := by decide +kernel
theorem dX0_isOnIn_1 : decode cX0_isOnIn 1 = .ok (.getfield 17, 3) := by decide +kernel
theorem dX0_isOnIn_4 : decode cX0_isOnIn 4 = .ok (.iload_n 1, 1) := by decide +kernel
theorem dX0_isOnIn_5 : decode cX0_isOnIn 5 = .ok (.if_icmp .gt 15, 3) := by decide +kernel
theorem dX0_isOnIn_8 : decode cX0_isOnIn 8 = .ok (.iload_n 1, 1) := by decide +kernel
theorem dX0_isOnIn_9 : decode cX0_isOnIn 9 = .ok (.aload_n 0, 1) := by decide +kernel
theorem dX0_isOnIn_10 : decode cX0_isOnIn 10 = .ok (.invokevirtual 27, 3) := by decide +kernel
theorem dX0_isOnIn_13 : decode cX0_isOnIn 13 = .ok (.if_icmp .gt 7, 3) := by decide +kernel
theorem dX0_isOnIn_16 : decode cX0_isOnIn 16 = .ok (.iconst 1, 1) := by decide +kernel
theorem dX0_isOnIn_17 : decode cX0_isOnIn 17 = .ok (.goto 4, 3) := by decide +kernel
theorem dX0_isOnIn_20 : decode cX0_isOnIn 20 = .ok (.iconst 0, 1) := by decide +kernel
theorem dX0_isOnIn_21 : decode cX0_isOnIn 21 = .ok (.ireturn, 1) := by decide +kernel
theorem dX1_init_0 : decode cX1_init 0 = .ok (.aload_n 0, 1) := by decide +kernel
theorem dX1_init_1 : decode cX1_init 1 = .ok (.invokespecial 3, 3) := by decide +kernel
theorem dX1_init_4 : decode cX1_init 4 = .ok (.aload_n 0, 1) := by decide +kernel
theorem dX1_init_5 : decode cX1_init 5 = .ok (.new 9, 3) := by decide +kernel
theorem dX1_init_8 : decode cX1_init 8 = .ok (.dup, 1) := by decide +kernel
theorem dX1_init_9 : decode cX1_init 9 = .ok (.invokespecial 11, 3) := by decide +kernel
theorem dX1_init_12 : decode cX1_init 12 = .ok (.putfield 12, 3) := by decide +kernel
theorem dX1_init_15 : decode cX1_init 15 = .ok (.aload_n 0, 1) := by decide +kernel
theorem dX1_init_16 : decode cX1_init 16 = .ok (.bipush 40, 2) := by decide +kernel
theorem dX1_init_18 : decode cX1_init 18 = .ok (.putfield 18, 3) := by decide +kernel
theorem dX1_init_21 : decode cX1_init 21 = .ok (.aload_n 0, 1) := by decide +kernel
theorem dX1_init_22 : decode cX1_init 22 = .ok (.iconst 0, 1) := by decide +kernel
theorem dX1_init_23 : decode cX1_init 23 = .ok (.putfield 22, 3) := by decide +kernel
theorem dX1_init_26 : decode cX1_init 26 = .ok (.aload_n 0, 1) := by decide +kernel
theorem dX1_init_27 : decode cX1_init 27 = .ok (.iconst 0, 1) := by decide +kernel
theorem dX1_init_28 : decode cX1_init 28 = .ok (.putfield 25, 3) := by decide +kernel
theorem dX1_init_31 : decode cX1_init 31 = .ok (.aload_n 0, 1) := by decide +kernel
theorem dX1_init_32 : decode cX1_init 32 = .ok (.iconst 0, 1) := by decide +kernel
theorem dX1_init_33 : decode cX1_init 33 = .ok (.putfield 28, 3) := by decide +kernel
theorem dX1_init_36 : decode cX1_init 36 = .ok (.aload_n 0, 1) := by decide +kernel
theorem dX1_init_37 : decode cX1_init 37 = .ok (.iconst 0, 1) := by decide +kernel
theorem dX1_init_38 : decode cX1_init 38 = .ok (.putfield 31, 3) := by decide +kernel
theorem dX1_init_41 : decode cX1_init 41 = .ok (.aload_n 0, 1) := by decide +kernel
theorem dX1_init_42 : decode cX1_init 42 = .ok (.iconst 0, 1) := by decide +kernel
theorem dX1_init_43 : decode cX1_init 43 = .ok (.putfield 34, 3) := by decide +kernel
theorem dX1_init_46 : decode cX1_init 46 = .ok (.return_, 1) := by decide +kernel
theorem dX1_begin_0 : decode cX1_begin 0 = .ok (.aload_n 0, 1) := by decide +kernel
theorem dX1_begin_1 : decode cX1_begin 1 = .ok (.getfield 12, 3) := by decide +kernel
theorem dX1_begin_4 : decode cX1_begin 4 = .ok (.invokevirtual 37, 3) := by decide +kernel
theorem dX1_begin_7 : decode cX1_begin 7 = .ok (.aload_n 0, 1) := by decide +kernel
theorem dX1_begin_8 : decode cX1_begin 8 = .ok (.iconst 0, 1) := by decide +kernel
theorem dX1_begin_9 : decode cX1_begin 9 = .ok (.putfield 22, 3) := by decide +kernel
theorem dX1_begin_12 : decode cX1_begin 12 = .ok (.aload_n 0, 1) := by decide +kernel
theorem dX1_begin_13 : decode cX1_begin 13 = .ok (.iconst 0, 1) := by decide +kernel
theorem dX1_begin_14 : decode cX1_begin 14 = .ok (.putfield 25, 3) := by decide +kernel
theorem dX1_begin_17 : decode cX1_begin 17 = .ok (.aload_n 0, 1) := by decide +kernel
theorem dX1_begin_18 : decode cX1_begin 18 = .ok (.iconst 0, 1) := by decide +kernel
theorem dX1_begin_19 : decode cX1_begin 19 = .ok (.putfield 28, 3) := by decide +kernel
theorem dX1_begin_22 : decode cX1_begin 22 = .ok (.aload_n 0, 1) := by decide +kernel
theorem dX1_begin_23 : decode cX1_begin 23 = .ok (.iconst 0, 1) := by decide +kernel
theorem dX1_begin_24 : decode cX1_begin 24 = .ok (.putfield 31, 3) := by decide +kernel
theorem dX1_begin_27 : decode cX1_begin 27 = .ok (.aload_n 0, 1) := by decide +kernel
theorem dX1_begin_28 : decode cX1_begin 28 = .ok (.iconst 0, 1) := by decide +kernel
theorem dX1_begin_29 : decode cX1_begin 29 = .ok (.putfield 34, 3) := by decide +kernel
theorem dX1_begin_32 : decode cX1_begin 32 = .ok (.return_, 1) := by decide +kernel
theorem dX1_handsAreFoundOut_0 : decode cX1_handsAreFoundOut 0 = .ok (.aload_n 0, 1) := by decide +kernel
theorem dX1_handsAreFoundOut_1 : decode cX1_handsAreFoundOut 1 = .ok (.getfield 34, 3) := by decide +kernel
theorem dX1_handsAreFoundOut_4 : decode cX1_handsAreFoundOut 4 = .ok (.iconst 3, 1) := by decide +kernel
theorem dX1_handsAreFoundOut_5 : decode cX1_handsAreFoundOut 5 = .ok (.if_icmp .lt 7, 3) := by decide +kernel
theorem dX1_handsAreFoundOut_8 : decode cX1_handsAreFoundOut 8 = .ok (.iconst 1, 1) := by decide +kernel
theorem dX1_handsAreFoundOut_9 : decode cX1_handsAreFoundOut 9 = .ok (.goto 4, 3) := by decide +kernel
theorem dX1_handsAreFoundOut_12 : decode cX1_handsAreFoundOut 12 = .ok (.iconst 0, 1) := by decide +kernel
theorem dX1_handsAreFoundOut_13 : decode cX1_handsAreFoundOut 13 = .ok (.ireturn, 1) := by decide +kernel
theorem dX1_passTick_0 : decode cX1_passTick 0 = .ok (.aload_n 1, 1) := by decide +kernel
theorem dX1_passTick_1 : decode cX1_passTick 1 = .ok (.invokevirtual 40, 3) := by decide +kernel
theorem dX1_passTick_4 : decode cX1_passTick 4 = .ok (.iconst 0, 1) := by decide +kernel
theorem dX1_passTick_5 : decode cX1_passTick 5 = .ok (.istore_n 2, 1) := by decide +kernel
theorem dX1_passTick_6 : decode cX1_passTick 6 = .ok (.iload_n 2, 1) := by decide +kernel
theorem dX1_passTick_7 : decode cX1_passTick 7 = .ok (.aload_n 1, 1) := by decide +kernel
theorem dX1_passTick_8 : decode cX1_passTick 8 = .ok (.getfield 45, 3) := by decide +kernel
theorem dX1_passTick_11 : decode cX1_passTick 11 = .ok (.if_icmp .ge 32, 3) := by decide +kernel
theorem dX1_passTick_14 : decode cX1_passTick 14 = .ok (.iconst 0, 1) := by decide +kernel
theorem dX1_passTick_15 : decode cX1_passTick 15 = .ok (.istore_n 3, 1) := by decide +kernel
theorem dX1_passTick_16 : decode cX1_passTick 16 = .ok (.iload_n 3, 1) := by decide +kernel
theorem dX1_passTick_17 : decode cX1_passTick 17 = .ok (.aload_n 1, 1) := by decide +kernel
theorem dX1_passTick_18 : decode cX1_passTick 18 = .ok (.getfield 48, 3) := by decide +kernel
theorem dX1_passTick_21 : decode cX1_passTick 21 = .ok (.if_icmp .ge 16, 3) := by decide +kernel
theorem dX1_passTick_24 : decode cX1_passTick 24 = .ok (.aload_n 0, 1) := by decide +kernel
theorem dX1_passTick_25 : decode cX1_passTick 25 = .ok (.aload_n 1, 1) := by decide +kernel
theorem dX1_passTick_26 : decode cX1_passTick 26 = .ok (.iload_n 2, 1) := by decide +kernel
theorem dX1_passTick_27 : decode cX1_passTick 27 = .ok (.iload_n 3, 1) := by decide +kernel
theorem dX1_passTick_28 : decode cX1_passTick 28 = .ok (.invokevirtual 51, 3) := by decide +kernel
theorem dX1_passTick_31 : decode cX1_passTick 31 = .ok (.iinc 3 1, 3) := by decide +kernel
theorem dX1_passTick_34 : decode cX1_passTick 34 = .ok (.goto (-18), 3) := by decide +kernel
theorem dX1_passTick_37 : decode cX1_passTick 37 = .ok (.iinc 2 1, 3) := by decide +kernel
theorem dX1_passTick_40 : decode cX1_passTick 40 = .ok (.goto (-34), 3) := by decide +kernel
theorem dX1_passTick_43 : decode cX1_passTick 43 = .ok (.aload_n 0, 1) := by decide +kernel
theorem dX1_passTick_44 : decode cX1_passTick 44 = .ok (.aload_n 1, 1) := by decide +kernel
theorem dX1_passTick_45 : decode cX1_passTick 45 = .ok (.invokevirtual 55, 3) := by decide +kernel
theorem dX1_passTick_48 : decode cX1_passTick 48 = .ok (.invokevirtual 59, 3) := by decide +kernel
theorem dX1_passTick_51 : decode cX1_passTick 51 = .ok (.aload_n 0, 1) := by decide +kernel
theorem dX1_passTick_52 : decode cX1_passTick 52 = .ok (.aload_n 1, 1) := by decide +kernel
theorem dX1_passTick_53 : decode cX1_passTick 53 = .ok (.bipush 112, 2) := by decide +kernel
theorem dX1_passTick_55 : decode cX1_passTick 55 = .ok (.invokevirtual 63, 3) := by decide +kernel
theorem dX1_passTick_58 : decode cX1_passTick 58 = .ok (.aload_n 1, 1) := by decide +kernel
theorem dX1_passTick_59 : decode cX1_passTick 59 = .ok (.bipush 104, 2) := by decide +kernel
theorem dX1_passTick_61 : decode cX1_passTick 61 = .ok (.invokevirtual 63, 3) := by decide +kernel
theorem dX1_passTick_64 : decode cX1_passTick 64 = .ok (.invokevirtual 67, 3) := by decide +kernel
theorem dX1_passTick_67 : decode cX1_passTick 67 = .ok (.aload_n 0, 1) := by decide +kernel
theorem dX1_passTick_68 : decode cX1_passTick 68 = .ok (.dup, 1) := by decide +kernel
theorem dX1_passTick_69 : decode cX1_passTick 69 = .ok (.getfield 22, 3) := by decide +kernel
theorem dX1_passTick_72 : decode cX1_passTick 72 = .ok (.iconst 1, 1) := by decide +kernel
theorem dX1_passTick_73 : decode cX1_passTick 73 = .ok (.iadd, 1) := by decide +kernel
theorem dX1_passTick_74 : decode cX1_passTick 74 = .ok (.putfield 22, 3) := by decide +kernel
theorem dX1_passTick_77 : decode cX1_passTick 77 = .ok (.return_, 1) := by decide +kernel
theorem dX1_soundSeat_0 : decode cX1_soundSeat 0 = .ok (.aload_n 1, 1) := by decide +kernel
theorem dX1_soundSeat_1 : decode cX1_soundSeat 1 = .ok (.iload_n 2, 1) := by decide +kernel
theorem dX1_soundSeat_2 : decode cX1_soundSeat 2 = .ok (.iload_n 3, 1) := by decide +kernel
theorem dX1_soundSeat_3 : decode cX1_soundSeat 3 = .ok (.invokevirtual 71, 3) := by decide +kernel
theorem dX1_soundSeat_6 : decode cX1_soundSeat 6 = .ok (.astore 4, 2) := by decide +kernel
theorem dX1_soundSeat_8 : decode cX1_soundSeat 8 = .ok (.aload 4, 2) := by decide +kernel
theorem dX1_soundSeat_10 : decode cX1_soundSeat 10 = .ok (.ifnonnull 4, 3) := by decide +kernel
theorem dX1_soundSeat_13 : decode cX1_soundSeat 13 = .ok (.return_, 1) := by decide +kernel
theorem dX1_soundSeat_14 : decode cX1_soundSeat 14 = .ok (.aload 4, 2) := by decide +kernel
theorem dX1_soundSeat_16 : decode cX1_soundSeat 16 = .ok (.getfield 75, 3) := by decide +kernel
theorem dX1_soundSeat_19 : decode cX1_soundSeat 19 = .ok (.bipush 112, 2) := by decide +kernel
theorem dX1_soundSeat_21 : decode cX1_soundSeat 21 = .ok (.if_icmp .ne 17, 3) := by decide +kernel
theorem dX1_soundSeat_24 : decode cX1_soundSeat 24 = .ok (.aload 4, 2) := by decide +kernel
theorem dX1_soundSeat_26 : decode cX1_soundSeat 26 = .ok (.aload_n 1, 1) := by decide +kernel
theorem dX1_soundSeat_27 : decode cX1_soundSeat 27 = .ok (.iload_n 2, 1) := by decide +kernel
theorem dX1_soundSeat_28 : decode cX1_soundSeat 28 = .ok (.iload_n 3, 1) := by decide +kernel
theorem dX1_soundSeat_29 : decode cX1_soundSeat 29 = .ok (.invokevirtual 81, 3) := by decide +kernel
theorem dX1_soundSeat_32 : decode cX1_soundSeat 32 = .ok (.invokevirtual 85, 3) := by decide +kernel
theorem dX1_soundSeat_35 : decode cX1_soundSeat 35 = .ok (.goto 81, 3) := by decide +kernel
theorem dX1_soundSeat_38 : decode cX1_soundSeat 38 = .ok (.aload 4, 2) := by decide +kernel
theorem dX1_soundSeat_40 : decode cX1_soundSeat 40 = .ok (.getfield 75, 3) := by decide +kernel
theorem dX1_soundSeat_43 : decode cX1_soundSeat 43 = .ok (.bipush 114, 2) := by decide +kernel
theorem dX1_soundSeat_45 : decode cX1_soundSeat 45 = .ok (.if_icmp .ne 49, 3) := by decide +kernel
theorem dX1_soundSeat_48 : decode cX1_soundSeat 48 = .ok (.aload 4, 2) := by decide +kernel
theorem dX1_soundSeat_50 : decode cX1_soundSeat 50 = .ok (.aload_n 1, 1) := by decide +kernel
theorem dX1_soundSeat_51 : decode cX1_soundSeat 51 = .ok (.iload_n 2, 1) := by decide +kernel
theorem dX1_soundSeat_52 : decode cX1_soundSeat 52 = .ok (.iload_n 3, 1) := by decide +kernel
theorem dX1_soundSeat_53 : decode cX1_soundSeat 53 = .ok (.invokevirtual 81, 3) := by decide +kernel
theorem dX1_soundSeat_56 : decode cX1_soundSeat 56 = .ok (.bipush 12, 2) := by decide +kernel
theorem dX1_soundSeat_58 : decode cX1_soundSeat 58 = .ok (.if_icmp .lt 7, 3) := by decide +kernel
theorem dX1_soundSeat_61 : decode cX1_soundSeat 61 = .ok (.iconst 1, 1) := by decide +kernel
theorem dX1_soundSeat_62 : decode cX1_soundSeat 62 = .ok (.goto 4, 3) := by decide +kernel
theorem dX1_soundSeat_65 : decode cX1_soundSeat 65 = .ok (.iconst 0, 1) := by decide +kernel
theorem dX1_soundSeat_66 : decode cX1_soundSeat 66 = .ok (.putfield 88, 3) := by decide +kernel
theorem dX1_soundSeat_69 : decode cX1_soundSeat 69 = .ok (.aload_n 0, 1) := by decide +kernel
theorem dX1_soundSeat_70 : decode cX1_soundSeat 70 = .ok (.dup, 1) := by decide +kernel
theorem dX1_soundSeat_71 : decode cX1_soundSeat 71 = .ok (.getfield 31, 3) := by decide +kernel
theorem dX1_soundSeat_74 : decode cX1_soundSeat 74 = .ok (.aload 4, 2) := by decide +kernel
theorem dX1_soundSeat_76 : decode cX1_soundSeat 76 = .ok (.getfield 88, 3) := by decide +kernel
theorem dX1_soundSeat_79 : decode cX1_soundSeat 79 = .ok (.ifCond .eq 7, 3) := by decide +kernel
theorem dX1_soundSeat_82 : decode cX1_soundSeat 82 = .ok (.iconst 1, 1) := by decide +kernel
theorem dX1_soundSeat_83 : decode cX1_soundSeat 83 = .ok (.goto 4, 3) := by decide +kernel
theorem dX1_soundSeat_86 : decode cX1_soundSeat 86 = .ok (.iconst 0, 1) := by decide +kernel
theorem dX1_soundSeat_87 : decode cX1_soundSeat 87 = .ok (.iadd, 1) := by decide +kernel
theorem dX1_soundSeat_88 : decode cX1_soundSeat 88 = .ok (.putfield 31, 3) := by decide +kernel
theorem dX1_soundSeat_91 : decode cX1_soundSeat 91 = .ok (.goto 25, 3) := by decide +kernel
theorem dX1_soundSeat_94 : decode cX1_soundSeat 94 = .ok (.aload 4, 2) := by decide +kernel
theorem dX1_soundSeat_96 : decode cX1_soundSeat 96 = .ok (.getfield 92, 3) := by decide +kernel
theorem dX1_soundSeat_99 : decode cX1_soundSeat 99 = .ok (.ifnull 17, 3) := by decide +kernel
theorem dX1_soundSeat_102 : decode cX1_soundSeat 102 = .ok (.aload 4, 2) := by decide +kernel
theorem dX1_soundSeat_104 : decode cX1_soundSeat 104 = .ok (.aload_n 0, 1) := by decide +kernel
theorem dX1_soundSeat_105 : decode cX1_soundSeat 105 = .ok (.aload 4, 2) := by decide +kernel
theorem dX1_soundSeat_107 : decode cX1_soundSeat 107 = .ok (.getfield 92, 3) := by decide +kernel
theorem dX1_soundSeat_110 : decode cX1_soundSeat 110 = .ok (.invokevirtual 96, 3) := by decide +kernel
theorem dX1_soundSeat_113 : decode cX1_soundSeat 113 = .ok (.putfield 100, 3) := by decide +kernel
theorem dX1_soundSeat_116 : decode cX1_soundSeat 116 = .ok (.return_, 1) := by decide +kernel
theorem dX1_noiseOf_0 : decode cX1_noiseOf 0 = .ok (.aload_n 0, 1) := by decide +kernel
theorem dX1_noiseOf_1 : decode cX1_noiseOf 1 = .ok (.invokevirtual 103, 3) := by decide +kernel
theorem dX1_noiseOf_4 : decode cX1_noiseOf 4 = .ok (.ifCond .eq 5, 3) := by decide +kernel
theorem dX1_noiseOf_7 : decode cX1_noiseOf 7 = .ok (.iconst 0, 1) := by decide +kernel
theorem dX1_noiseOf_8 : decode cX1_noiseOf 8 = .ok (.ireturn, 1) := by decide +kernel
theorem dX1_noiseOf_9 : decode cX1_noiseOf 9 = .ok (.iconst 0, 1) := by decide +kernel
theorem dX1_noiseOf_10 : decode cX1_noiseOf 10 = .ok (.istore_n 2, 1) := by decide +kernel
theorem dX1_noiseOf_11 : decode cX1_noiseOf 11 = .ok (.iconst 0, 1) := by decide +kernel
theorem dX1_noiseOf_12 : decode cX1_noiseOf 12 = .ok (.istore_n 3, 1) := by decide +kernel
theorem dX1_noiseOf_13 : decode cX1_noiseOf 13 = .ok (.iload_n 3, 1) := by decide +kernel
theorem dX1_noiseOf_14 : decode cX1_noiseOf 14 = .ok (.aload_n 0, 1) := by decide +kernel
theorem dX1_noiseOf_15 : decode cX1_noiseOf 15 = .ok (.getfield 12, 3) := by decide +kernel
theorem dX1_noiseOf_18 : decode cX1_noiseOf 18 = .ok (.invokevirtual 107, 3) := by decide +kernel
theorem dX1_noiseOf_21 : decode cX1_noiseOf 21 = .ok (.if_icmp .ge 53, 3) := by decide +kernel
theorem dX1_noiseOf_24 : decode cX1_noiseOf 24 = .ok (.aload_n 0, 1) := by decide +kernel
theorem dX1_noiseOf_25 : decode cX1_noiseOf 25 = .ok (.getfield 12, 3) := by decide +kernel
theorem dX1_noiseOf_28 : decode cX1_noiseOf 28 = .ok (.iload_n 3, 1) := by decide +kernel
theorem dX1_noiseOf_29 : decode cX1_noiseOf 29 = .ok (.invokevirtual 110, 3) := by decide +kernel
theorem dX1_noiseOf_32 : decode cX1_noiseOf 32 = .ok (.checkcast 114, 3) := by decide +kernel
theorem dX1_noiseOf_35 : decode cX1_noiseOf 35 = .ok (.astore 4, 2) := by decide +kernel
theorem dX1_noiseOf_37 : decode cX1_noiseOf 37 = .ok (.aload 4, 2) := by decide +kernel
theorem dX1_noiseOf_39 : decode cX1_noiseOf 39 = .ok (.aload_n 0, 1) := by decide +kernel
theorem dX1_noiseOf_40 : decode cX1_noiseOf 40 = .ok (.getfield 22, 3) := by decide +kernel
theorem dX1_noiseOf_43 : decode cX1_noiseOf 43 = .ok (.invokevirtual 116, 3) := by decide +kernel
theorem dX1_noiseOf_46 : decode cX1_noiseOf 46 = .ok (.ifCond .eq 22, 3) := by decide +kernel
theorem dX1_noiseOf_49 : decode cX1_noiseOf 49 = .ok (.aload_n 1, 1) := by decide +kernel
theorem dX1_noiseOf_50 : decode cX1_noiseOf 50 = .ok (.aload 4, 2) := by decide +kernel
theorem dX1_noiseOf_52 : decode cX1_noiseOf 52 = .ok (.invokevirtual 120, 3) := by decide +kernel
theorem dX1_noiseOf_55 : decode cX1_noiseOf 55 = .ok (.ifCond .eq 13, 3) := by decide +kernel
theorem dX1_noiseOf_58 : decode cX1_noiseOf 58 = .ok (.iload_n 2, 1) := by decide +kernel
theorem dX1_noiseOf_59 : decode cX1_noiseOf 59 = .ok (.aload 4, 2) := by decide +kernel
theorem dX1_noiseOf_61 : decode cX1_noiseOf 61 = .ok (.getfield 126, 3) := by decide +kernel
theorem dX1_noiseOf_64 : decode cX1_noiseOf 64 = .ok (.invokestatic 129, 3) := by decide +kernel
theorem dX1_noiseOf_67 : decode cX1_noiseOf 67 = .ok (.istore_n 2, 1) := by decide +kernel
theorem dX1_noiseOf_68 : decode cX1_noiseOf 68 = .ok (.iinc 3 1, 3) := by decide +kernel
theorem dX1_noiseOf_71 : decode cX1_noiseOf 71 = .ok (.goto (-58), 3) := by decide +kernel
theorem dX1_noiseOf_74 : decode cX1_noiseOf 74 = .ok (.bipush 9, 2) := by decide +kernel
theorem dX1_noiseOf_76 : decode cX1_noiseOf 76 = .ok (.aload_n 1, 1) := by decide +kernel
theorem dX1_noiseOf_77 : decode cX1_noiseOf 77 = .ok (.getfield 134, 3) := by decide +kernel
theorem dX1_noiseOf_80 : decode cX1_noiseOf 80 = .ok (.iload_n 2, 1) := by decide +kernel
theorem dX1_noiseOf_81 : decode cX1_noiseOf 81 = .ok (.imul, 1) := by decide +kernel
theorem dX1_noiseOf_82 : decode cX1_noiseOf 82 = .ok (.invokestatic 137, 3) := by decide +kernel
theorem dX1_noiseOf_85 : decode cX1_noiseOf 85 = .ok (.ireturn, 1) := by decide +kernel
theorem dX1_hearNoise_0 : decode cX1_hearNoise 0 = .ok (.iload_n 1, 1) := by decide +kernel
theorem dX1_hearNoise_1 : decode cX1_hearNoise 1 = .ok (.aload_n 0, 1) := by decide +kernel
theorem dX1_hearNoise_2 : decode cX1_hearNoise 2 = .ok (.getfield 18, 3) := by decide +kernel
theorem dX1_hearNoise_5 : decode cX1_hearNoise 5 = .ok (.if_icmp .ge 9, 3) := by decide +kernel
theorem dX1_hearNoise_8 : decode cX1_hearNoise 8 = .ok (.aload_n 0, 1) := by decide +kernel
theorem dX1_hearNoise_9 : decode cX1_hearNoise 9 = .ok (.iconst 0, 1) := by decide +kernel
theorem dX1_hearNoise_10 : decode cX1_hearNoise 10 = .ok (.putfield 25, 3) := by decide +kernel
theorem dX1_hearNoise_13 : decode cX1_hearNoise 13 = .ok (.return_, 1) := by decide +kernel
theorem dX1_hearNoise_14 : decode cX1_hearNoise 14 = .ok (.aload_n 0, 1) := by decide +kernel
theorem dX1_hearNoise_15 : decode cX1_hearNoise 15 = .ok (.dup, 1) := by decide +kernel
theorem dX1_hearNoise_16 : decode cX1_hearNoise 16 = .ok (.getfield 25, 3) := by decide +kernel
theorem dX1_hearNoise_19 : decode cX1_hearNoise 19 = .ok (.iconst 1, 1) := by decide +kernel
theorem dX1_hearNoise_20 : decode cX1_hearNoise 20 = .ok (.iadd, 1) := by decide +kernel
theorem dX1_hearNoise_21 : decode cX1_hearNoise 21 = .ok (.putfield 25, 3) := by decide +kernel
theorem dX1_hearNoise_24 : decode cX1_hearNoise 24 = .ok (.aload_n 0, 1) := by decide +kernel
theorem dX1_hearNoise_25 : decode cX1_hearNoise 25 = .ok (.getfield 25, 3) := by decide +kernel
theorem dX1_hearNoise_28 : decode cX1_hearNoise 28 = .ok (.iconst 5, 1) := by decide +kernel
theorem dX1_hearNoise_29 : decode cX1_hearNoise 29 = .ok (.if_icmp .ge 4, 3) := by decide +kernel
theorem dX1_hearNoise_32 : decode cX1_hearNoise 32 = .ok (.return_, 1) := by decide +kernel
theorem dX1_hearNoise_33 : decode cX1_hearNoise 33 = .ok (.aload_n 0, 1) := by decide +kernel
theorem dX1_hearNoise_34 : decode cX1_hearNoise 34 = .ok (.iconst 0, 1) := by decide +kernel
theorem dX1_hearNoise_35 : decode cX1_hearNoise 35 = .ok (.putfield 25, 3) := by decide +kernel
theorem dX1_hearNoise_38 : decode cX1_hearNoise 38 = .ok (.aload_n 0, 1) := by decide +kernel
theorem dX1_hearNoise_39 : decode cX1_hearNoise 39 = .ok (.dup, 1) := by decide +kernel
theorem dX1_hearNoise_40 : decode cX1_hearNoise 40 = .ok (.getfield 28, 3) := by decide +kernel
theorem dX1_hearNoise_43 : decode cX1_hearNoise 43 = .ok (.iconst 1, 1) := by decide +kernel
theorem dX1_hearNoise_44 : decode cX1_hearNoise 44 = .ok (.iadd, 1) := by decide +kernel
theorem dX1_hearNoise_45 : decode cX1_hearNoise 45 = .ok (.putfield 28, 3) := by decide +kernel
theorem dX1_hearNoise_48 : decode cX1_hearNoise 48 = .ok (.aload_n 0, 1) := by decide +kernel
theorem dX1_hearNoise_49 : decode cX1_hearNoise 49 = .ok (.invokevirtual 140, 3) := by decide +kernel
theorem dX1_hearNoise_52 : decode cX1_hearNoise 52 = .ok (.astore_n 2, 1) := by decide +kernel
theorem dX1_hearNoise_53 : decode cX1_hearNoise 53 = .ok (.aload_n 2, 1) := by decide +kernel
theorem dX1_hearNoise_54 : decode cX1_hearNoise 54 = .ok (.ifnull 16, 3) := by decide +kernel
theorem dX1_hearNoise_57 : decode cX1_hearNoise 57 = .ok (.aload_n 2, 1) := by decide +kernel
theorem dX1_hearNoise_58 : decode cX1_hearNoise 58 = .ok (.getfield 144, 3) := by decide +kernel
theorem dX1_hearNoise_61 : decode cX1_hearNoise 61 = .ok (.dup, 1) := by decide +kernel
theorem dX1_hearNoise_62 : decode cX1_hearNoise 62 = .ok (.getfield 148, 3) := by decide +kernel
theorem dX1_hearNoise_65 : decode cX1_hearNoise 65 = .ok (.iconst 1, 1) := by decide +kernel
theorem dX1_hearNoise_66 : decode cX1_hearNoise 66 = .ok (.iadd, 1) := by decide +kernel
theorem dX1_hearNoise_67 : decode cX1_hearNoise 67 = .ok (.putfield 148, 3) := by decide +kernel
theorem dX1_hearNoise_70 : decode cX1_hearNoise 70 = .ok (.return_, 1) := by decide +kernel
theorem dX1_lastBegunCue_0 : decode cX1_lastBegunCue 0 = .ok (.aconst_null, 1) := by decide +kernel
theorem dX1_lastBegunCue_1 : decode cX1_lastBegunCue 1 = .ok (.astore_n 1, 1) := by decide +kernel
theorem dX1_lastBegunCue_2 : decode cX1_lastBegunCue 2 = .ok (.iconst 0, 1) := by decide +kernel
theorem dX1_lastBegunCue_3 : decode cX1_lastBegunCue 3 = .ok (.istore_n 2, 1) := by decide +kernel
theorem dX1_lastBegunCue_4 : decode cX1_lastBegunCue 4 = .ok (.iload_n 2, 1) := by decide +kernel
theorem dX1_lastBegunCue_5 : decode cX1_lastBegunCue 5 = .ok (.aload_n 0, 1) := by decide +kernel
theorem dX1_lastBegunCue_6 : decode cX1_lastBegunCue 6 = .ok (.getfield 12, 3) := by decide +kernel
theorem dX1_lastBegunCue_9 : decode cX1_lastBegunCue 9 = .ok (.invokevirtual 107, 3) := by decide +kernel
theorem dX1_lastBegunCue_12 : decode cX1_lastBegunCue 12 = .ok (.if_icmp .ge 49, 3) := by decide +kernel
theorem dX1_lastBegunCue_15 : decode cX1_lastBegunCue 15 = .ok (.aload_n 0, 1) := by decide +kernel
theorem dX1_lastBegunCue_16 : decode cX1_lastBegunCue 16 = .ok (.getfield 12, 3) := by decide +kernel
theorem dX1_lastBegunCue_19 : decode cX1_lastBegunCue 19 = .ok (.iload_n 2, 1) := by decide +kernel
theorem dX1_lastBegunCue_20 : decode cX1_lastBegunCue 20 = .ok (.invokevirtual 110, 3) := by decide +kernel
theorem dX1_lastBegunCue_23 : decode cX1_lastBegunCue 23 = .ok (.checkcast 114, 3) := by decide +kernel
theorem dX1_lastBegunCue_26 : decode cX1_lastBegunCue 26 = .ok (.astore_n 3, 1) := by decide +kernel
theorem dX1_lastBegunCue_27 : decode cX1_lastBegunCue 27 = .ok (.aload_n 3, 1) := by decide +kernel
theorem dX1_lastBegunCue_28 : decode cX1_lastBegunCue 28 = .ok (.getfield 151, 3) := by decide +kernel
theorem dX1_lastBegunCue_31 : decode cX1_lastBegunCue 31 = .ok (.aload_n 0, 1) := by decide +kernel
theorem dX1_lastBegunCue_32 : decode cX1_lastBegunCue 32 = .ok (.getfield 22, 3) := by decide +kernel
theorem dX1_lastBegunCue_35 : decode cX1_lastBegunCue 35 = .ok (.if_icmp .gt 20, 3) := by decide +kernel
theorem dX1_lastBegunCue_38 : decode cX1_lastBegunCue 38 = .ok (.aload_n 1, 1) := by decide +kernel
theorem dX1_lastBegunCue_39 : decode cX1_lastBegunCue 39 = .ok (.ifnull 14, 3) := by decide +kernel
theorem dX1_lastBegunCue_42 : decode cX1_lastBegunCue 42 = .ok (.aload_n 3, 1) := by decide +kernel
theorem dX1_lastBegunCue_43 : decode cX1_lastBegunCue 43 = .ok (.getfield 151, 3) := by decide +kernel
theorem dX1_lastBegunCue_46 : decode cX1_lastBegunCue 46 = .ok (.aload_n 1, 1) := by decide +kernel
theorem dX1_lastBegunCue_47 : decode cX1_lastBegunCue 47 = .ok (.getfield 151, 3) := by decide +kernel
theorem dX1_lastBegunCue_50 : decode cX1_lastBegunCue 50 = .ok (.if_icmp .lt 5, 3) := by decide +kernel
theorem dX1_lastBegunCue_53 : decode cX1_lastBegunCue 53 = .ok (.aload_n 3, 1) := by decide +kernel
theorem dX1_lastBegunCue_54 : decode cX1_lastBegunCue 54 = .ok (.astore_n 1, 1) := by decide +kernel
theorem dX1_lastBegunCue_55 : decode cX1_lastBegunCue 55 = .ok (.iinc 2 1, 3) := by decide +kernel
theorem dX1_lastBegunCue_58 : decode cX1_lastBegunCue 58 = .ok (.goto (-54), 3) := by decide +kernel
theorem dX1_lastBegunCue_61 : decode cX1_lastBegunCue 61 = .ok (.aload_n 1, 1) := by decide +kernel
theorem dX1_lastBegunCue_62 : decode cX1_lastBegunCue 62 = .ok (.areturn, 1) := by decide +kernel
theorem dX1_judgeCues_0 : decode cX1_judgeCues 0 = .ok (.iload_n 1, 1) := by decide +kernel
theorem dX1_judgeCues_1 : decode cX1_judgeCues 1 = .ok (.iload_n 2, 1) := by decide +kernel
theorem dX1_judgeCues_2 : decode cX1_judgeCues 2 = .ok (.if_icmp .lt 4, 3) := by decide +kernel
theorem dX1_judgeCues_5 : decode cX1_judgeCues 5 = .ok (.return_, 1) := by decide +kernel
theorem dX1_judgeCues_6 : decode cX1_judgeCues 6 = .ok (.iconst 0, 1) := by decide +kernel
theorem dX1_judgeCues_7 : decode cX1_judgeCues 7 = .ok (.istore_n 3, 1) := by decide +kernel
theorem dX1_judgeCues_8 : decode cX1_judgeCues 8 = .ok (.iload_n 3, 1) := by decide +kernel
theorem dX1_judgeCues_9 : decode cX1_judgeCues 9 = .ok (.aload_n 0, 1) := by decide +kernel
theorem dX1_judgeCues_10 : decode cX1_judgeCues 10 = .ok (.getfield 12, 3) := by decide +kernel
theorem dX1_judgeCues_13 : decode cX1_judgeCues 13 = .ok (.invokevirtual 107, 3) := by decide +kernel
theorem dX1_judgeCues_16 : decode cX1_judgeCues 16 = .ok (.if_icmp .ge 40, 3) := by decide +kernel
theorem dX1_judgeCues_19 : decode cX1_judgeCues 19 = .ok (.aload_n 0, 1) := by decide +kernel
theorem dX1_judgeCues_20 : decode cX1_judgeCues 20 = .ok (.getfield 12, 3) := by decide +kernel
theorem dX1_judgeCues_23 : decode cX1_judgeCues 23 = .ok (.iload_n 3, 1) := by decide +kernel
theorem dX1_judgeCues_24 : decode cX1_judgeCues 24 = .ok (.invokevirtual 110, 3) := by decide +kernel
theorem dX1_judgeCues_27 : decode cX1_judgeCues 27 = .ok (.checkcast 114, 3) := by decide +kernel
theorem dX1_judgeCues_30 : decode cX1_judgeCues 30 = .ok (.invokevirtual 154, 3) := by decide +kernel
theorem dX1_judgeCues_33 : decode cX1_judgeCues 33 = .ok (.aload_n 0, 1) := by decide +kernel
theorem dX1_judgeCues_34 : decode cX1_judgeCues 34 = .ok (.getfield 22, 3) := by decide +kernel
theorem dX1_judgeCues_37 : decode cX1_judgeCues 37 = .ok (.if_icmp .ne 13, 3) := by decide +kernel
theorem dX1_judgeCues_40 : decode cX1_judgeCues 40 = .ok (.aload_n 0, 1) := by decide +kernel
theorem dX1_judgeCues_41 : decode cX1_judgeCues 41 = .ok (.dup, 1) := by decide +kernel
theorem dX1_judgeCues_42 : decode cX1_judgeCues 42 = .ok (.getfield 34, 3) := by decide +kernel
theorem dX1_judgeCues_45 : decode cX1_judgeCues 45 = .ok (.iconst 1, 1) := by decide +kernel
theorem dX1_judgeCues_46 : decode cX1_judgeCues 46 = .ok (.iadd, 1) := by decide +kernel
theorem dX1_judgeCues_47 : decode cX1_judgeCues 47 = .ok (.putfield 34, 3) := by decide +kernel
theorem dX1_judgeCues_50 : decode cX1_judgeCues 50 = .ok (.iinc 3 1, 3) := by decide +kernel
theorem dX1_judgeCues_53 : decode cX1_judgeCues 53 = .ok (.goto (-45), 3) := by decide +kernel
theorem dX1_judgeCues_56 : decode cX1_judgeCues 56 = .ok (.return_, 1) := by decide +kernel
theorem dX1_hasBegunCueFor_0 : decode cX1_hasBegunCueFor 0 = .ok (.iconst 0, 1) := by decide +kernel
theorem dX1_hasBegunCueFor_1 : decode cX1_hasBegunCueFor 1 = .ok (.istore_n 2, 1) := by decide +kernel
theorem dX1_hasBegunCueFor_2 : decode cX1_hasBegunCueFor 2 = .ok (.iload_n 2, 1) := by decide +kernel
theorem dX1_hasBegunCueFor_3 : decode cX1_hasBegunCueFor 3 = .ok (.aload_n 0, 1) := by decide +kernel
theorem dX1_hasBegunCueFor_4 : decode cX1_hasBegunCueFor 4 = .ok (.getfield 12, 3) := by decide +kernel
theorem dX1_hasBegunCueFor_7 : decode cX1_hasBegunCueFor 7 = .ok (.invokevirtual 107, 3) := by decide +kernel
theorem dX1_hasBegunCueFor_10 : decode cX1_hasBegunCueFor 10 = .ok (.if_icmp .ge 42, 3) := by decide +kernel
theorem dX1_hasBegunCueFor_13 : decode cX1_hasBegunCueFor 13 = .ok (.aload_n 0, 1) := by decide +kernel
theorem dX1_hasBegunCueFor_14 : decode cX1_hasBegunCueFor 14 = .ok (.getfield 12, 3) := by decide +kernel
theorem dX1_hasBegunCueFor_17 : decode cX1_hasBegunCueFor 17 = .ok (.iload_n 2, 1) := by decide +kernel
theorem dX1_hasBegunCueFor_18 : decode cX1_hasBegunCueFor 18 = .ok (.invokevirtual 110, 3) := by decide +kernel
theorem dX1_hasBegunCueFor_21 : decode cX1_hasBegunCueFor 21 = .ok (.checkcast 114, 3) := by decide +kernel
theorem dX1_hasBegunCueFor_24 : decode cX1_hasBegunCueFor 24 = .ok (.astore_n 3, 1) := by decide +kernel
theorem dX1_hasBegunCueFor_25 : decode cX1_hasBegunCueFor 25 = .ok (.aload_n 3, 1) := by decide +kernel
theorem dX1_hasBegunCueFor_26 : decode cX1_hasBegunCueFor 26 = .ok (.getfield 144, 3) := by decide +kernel
theorem dX1_hasBegunCueFor_29 : decode cX1_hasBegunCueFor 29 = .ok (.aload_n 1, 1) := by decide +kernel
theorem dX1_hasBegunCueFor_30 : decode cX1_hasBegunCueFor 30 = .ok (.if_acmp .ne 16, 3) := by decide +kernel
theorem dX1_hasBegunCueFor_33 : decode cX1_hasBegunCueFor 33 = .ok (.aload_n 3, 1) := by decide +kernel
theorem dX1_hasBegunCueFor_34 : decode cX1_hasBegunCueFor 34 = .ok (.getfield 151, 3) := by decide +kernel
theorem dX1_hasBegunCueFor_37 : decode cX1_hasBegunCueFor 37 = .ok (.aload_n 0, 1) := by decide +kernel
theorem dX1_hasBegunCueFor_38 : decode cX1_hasBegunCueFor 38 = .ok (.getfield 22, 3) := by decide +kernel
theorem dX1_hasBegunCueFor_41 : decode cX1_hasBegunCueFor 41 = .ok (.if_icmp .ge 5, 3) := by decide +kernel
theorem dX1_hasBegunCueFor_44 : decode cX1_hasBegunCueFor 44 = .ok (.iconst 1, 1) := by decide +kernel
theorem dX1_hasBegunCueFor_45 : decode cX1_hasBegunCueFor 45 = .ok (.ireturn, 1) := by decide +kernel
theorem dX1_hasBegunCueFor_46 : decode cX1_hasBegunCueFor 46 = .ok (.iinc 2 1, 3) := by decide +kernel
theorem dX1_hasBegunCueFor_49 : decode cX1_hasBegunCueFor 49 = .ok (.goto (-47), 3) := by decide +kernel
theorem dX1_hasBegunCueFor_52 : decode cX1_hasBegunCueFor 52 = .ok (.iconst 0, 1) := by decide +kernel
theorem dX1_hasBegunCueFor_53 : decode cX1_hasBegunCueFor 53 = .ok (.ireturn, 1) := by decide +kernel
theorem dX2_init_0 : decode cX2_init 0 = .ok (.aload_n 0, 1) := by decide +kernel
theorem dX2_init_1 : decode cX2_init 1 = .ok (.invokespecial 3, 3) := by decide +kernel
theorem dX2_init_4 : decode cX2_init 4 = .ok (.aload_n 0, 1) := by decide +kernel
theorem dX2_init_5 : decode cX2_init 5 = .ok (.iconst 0, 1) := by decide +kernel
theorem dX2_init_6 : decode cX2_init 6 = .ok (.putfield 9, 3) := by decide +kernel
theorem dX2_init_9 : decode cX2_init 9 = .ok (.aload_n 0, 1) := by decide +kernel
theorem dX2_init_10 : decode cX2_init 10 = .ok (.aconst_null, 1) := by decide +kernel
theorem dX2_init_11 : decode cX2_init 11 = .ok (.putfield 15, 3) := by decide +kernel
theorem dX2_init_14 : decode cX2_init 14 = .ok (.aload_n 0, 1) := by decide +kernel
theorem dX2_init_15 : decode cX2_init 15 = .ok (.iload_n 1, 1) := by decide +kernel
theorem dX2_init_16 : decode cX2_init 16 = .ok (.putfield 19, 3) := by decide +kernel
theorem dX2_init_19 : decode cX2_init 19 = .ok (.aload_n 0, 1) := by decide +kernel
theorem dX2_init_20 : decode cX2_init 20 = .ok (.iload_n 2, 1) := by decide +kernel
theorem dX2_init_21 : decode cX2_init 21 = .ok (.putfield 23, 3) := by decide +kernel
theorem dX2_init_24 : decode cX2_init 24 = .ok (.aload_n 0, 1) := by decide +kernel
theorem dX2_init_25 : decode cX2_init 25 = .ok (.iload_n 3, 1) := by decide +kernel
theorem dX2_init_26 : decode cX2_init 26 = .ok (.putfield 26, 3) := by decide +kernel
theorem dX2_init_29 : decode cX2_init 29 = .ok (.aload_n 0, 1) := by decide +kernel
theorem dX2_init_30 : decode cX2_init 30 = .ok (.iload 4, 2) := by decide +kernel
theorem dX2_init_32 : decode cX2_init 32 = .ok (.putfield 29, 3) := by decide +kernel
theorem dX2_init_35 : decode cX2_init 35 = .ok (.return_, 1) := by decide +kernel
theorem dX2_parts_0 : decode cX2_parts 0 = .ok (.aload_n 0, 1) := by decide +kernel
theorem dX2_parts_1 : decode cX2_parts 1 = .ok (.getfield 26, 3) := by decide +kernel
theorem dX2_parts_4 : decode cX2_parts 4 = .ok (.iconst 1, 1) := by decide +kernel
theorem dX2_parts_5 : decode cX2_parts 5 = .ok (.iadd, 1) := by decide +kernel
theorem dX2_parts_6 : decode cX2_parts 6 = .ok (.ireturn, 1) := by decide +kernel
theorem dX2_follows_0 : decode cX2_follows 0 = .ok (.aload_n 0, 1) := by decide +kernel
theorem dX2_follows_1 : decode cX2_follows 1 = .ok (.getfield 19, 3) := by decide +kernel
theorem dX2_follows_4 : decode cX2_follows 4 = .ok (.bipush 97, 2) := by decide +kernel
theorem dX2_follows_6 : decode cX2_follows 6 = .ok (.if_icmp .eq 14, 3) := by decide +kernel
theorem dX2_follows_9 : decode cX2_follows 9 = .ok (.aload_n 0, 1) := by decide +kernel
theorem dX2_follows_10 : decode cX2_follows 10 = .ok (.getfield 19, 3) := by decide +kernel
theorem dX2_follows_13 : decode cX2_follows 13 = .ok (.aload_n 1, 1) := by decide +kernel
theorem dX2_follows_14 : decode cX2_follows 14 = .ok (.getfield 32, 3) := by decide +kernel
theorem dX2_follows_17 : decode cX2_follows 17 = .ok (.if_icmp .ne 7, 3) := by decide +kernel
theorem dX2_follows_20 : decode cX2_follows 20 = .ok (.iconst 1, 1) := by decide +kernel
theorem dX2_follows_21 : decode cX2_follows 21 = .ok (.goto 4, 3) := by decide +kernel
theorem dX2_follows_24 : decode cX2_follows 24 = .ok (.iconst 0, 1) := by decide +kernel
theorem dX2_follows_25 : decode cX2_follows 25 = .ok (.ireturn, 1) := by decide +kernel
theorem dX3_init_0 : decode cX3_init 0 = .ok (.aload_n 0, 1) := by decide +kernel
theorem dX3_init_1 : decode cX3_init 1 = .ok (.invokespecial 3, 3) := by decide +kernel
theorem dX3_init_4 : decode cX3_init 4 = .ok (.aload_n 0, 1) := by decide +kernel
theorem dX3_init_5 : decode cX3_init 5 = .ok (.bipush 80, 2) := by decide +kernel
theorem dX3_init_7 : decode cX3_init 7 = .ok (.anewarray 9, 3) := by decide +kernel
theorem dX3_init_10 : decode cX3_init 10 = .ok (.putfield 11, 3) := by decide +kernel
theorem dX3_init_13 : decode cX3_init 13 = .ok (.aload_n 0, 1) := by decide +kernel
theorem dX3_init_14 : decode cX3_init 14 = .ok (.iconst 0, 1) := by decide +kernel
theorem dX3_init_15 : decode cX3_init 15 = .ok (.putfield 17, 3) := by decide +kernel
theorem dX3_init_18 : decode cX3_init 18 = .ok (.aload_n 0, 1) := by decide +kernel
theorem dX3_init_19 : decode cX3_init 19 = .ok (.iconst 0, 1) := by decide +kernel
theorem dX3_init_20 : decode cX3_init 20 = .ok (.putfield 21, 3) := by decide +kernel
theorem dX3_init_23 : decode cX3_init 23 = .ok (.iconst 0, 1) := by decide +kernel
theorem dX3_init_24 : decode cX3_init 24 = .ok (.istore_n 1, 1) := by decide +kernel
theorem dX3_init_25 : decode cX3_init 25 = .ok (.iload_n 1, 1) := by decide +kernel
theorem dX3_init_26 : decode cX3_init 26 = .ok (.aload_n 0, 1) := by decide +kernel
theorem dX3_init_27 : decode cX3_init 27 = .ok (.getfield 11, 3) := by decide +kernel
theorem dX3_init_30 : decode cX3_init 30 = .ok (.arraylength, 1) := by decide +kernel
theorem dX3_init_31 : decode cX3_init 31 = .ok (.if_icmp .ge 22, 3) := by decide +kernel
theorem dX3_init_34 : decode cX3_init 34 = .ok (.aload_n 0, 1) := by decide +kernel
theorem dX3_init_35 : decode cX3_init 35 = .ok (.getfield 11, 3) := by decide +kernel
theorem dX3_init_38 : decode cX3_init 38 = .ok (.iload_n 1, 1) := by decide +kernel
theorem dX3_init_39 : decode cX3_init 39 = .ok (.new 9, 3) := by decide +kernel
theorem dX3_init_42 : decode cX3_init 42 = .ok (.dup, 1) := by decide +kernel
theorem dX3_init_43 : decode cX3_init 43 = .ok (.invokespecial 24, 3) := by decide +kernel
theorem dX3_init_46 : decode cX3_init 46 = .ok (.aastore, 1) := by decide +kernel
theorem dX3_init_47 : decode cX3_init 47 = .ok (.iinc 1 1, 3) := by decide +kernel
theorem dX3_init_50 : decode cX3_init 50 = .ok (.goto (-25), 3) := by decide +kernel
theorem dX3_init_53 : decode cX3_init 53 = .ok (.return_, 1) := by decide +kernel
theorem dX3_build_0 : decode cX3_build 0 = .ok (.aload_n 0, 1) := by decide +kernel
theorem dX3_build_1 : decode cX3_build 1 = .ok (.getfield 11, 3) := by decide +kernel
theorem dX3_build_4 : decode cX3_build 4 = .ok (.astore_n 3, 1) := by decide +kernel
theorem dX3_build_5 : decode cX3_build 5 = .ok (.aload_n 3, 1) := by decide +kernel
theorem dX3_build_6 : decode cX3_build 6 = .ok (.arraylength, 1) := by decide +kernel
theorem dX3_build_7 : decode cX3_build 7 = .ok (.istore 4, 2) := by decide +kernel
theorem dX3_build_9 : decode cX3_build 9 = .ok (.iconst 0, 1) := by decide +kernel
theorem dX3_build_10 : decode cX3_build 10 = .ok (.istore 5, 2) := by decide +kernel
theorem dX3_build_12 : decode cX3_build 12 = .ok (.iload 5, 2) := by decide +kernel
theorem dX3_build_14 : decode cX3_build 14 = .ok (.iload 4, 2) := by decide +kernel
theorem dX3_build_16 : decode cX3_build 16 = .ok (.if_icmp .ge 23, 3) := by decide +kernel
theorem dX3_build_19 : decode cX3_build 19 = .ok (.aload_n 3, 1) := by decide +kernel
theorem dX3_build_20 : decode cX3_build 20 = .ok (.iload 5, 2) := by decide +kernel
theorem dX3_build_22 : decode cX3_build 22 = .ok (.aaload, 1) := by decide +kernel
theorem dX3_build_23 : decode cX3_build 23 = .ok (.astore 6, 2) := by decide +kernel
theorem dX3_build_25 : decode cX3_build 25 = .ok (.aload 6, 2) := by decide +kernel
theorem dX3_build_27 : decode cX3_build 27 = .ok (.bipush 46, 2) := by decide +kernel
theorem dX3_build_29 : decode cX3_build 29 = .ok (.invokevirtual 25, 3) := by decide +kernel
theorem dX3_build_32 : decode cX3_build 32 = .ok (.pop, 1) := by decide +kernel
theorem dX3_build_33 : decode cX3_build 33 = .ok (.iinc 5 1, 3) := by decide +kernel
theorem dX3_build_36 : decode cX3_build 36 = .ok (.goto (-24), 3) := by decide +kernel
theorem dX3_build_39 : decode cX3_build 39 = .ok (.aload_n 0, 1) := by decide +kernel
theorem dX3_build_40 : decode cX3_build 40 = .ok (.iload_n 1, 1) := by decide +kernel
theorem dX3_build_41 : decode cX3_build 41 = .ok (.putfield 17, 3) := by decide +kernel
theorem dX3_build_44 : decode cX3_build 44 = .ok (.aload_n 0, 1) := by decide +kernel
theorem dX3_build_45 : decode cX3_build 45 = .ok (.iload_n 2, 1) := by decide +kernel
theorem dX3_build_46 : decode cX3_build 46 = .ok (.putfield 21, 3) := by decide +kernel
theorem dX3_build_49 : decode cX3_build 49 = .ok (.return_, 1) := by decide +kernel
theorem dX3_seatOrNull_0 : decode cX3_seatOrNull 0 = .ok (.iload_n 1, 1) := by decide +kernel
theorem dX3_seatOrNull_1 : decode cX3_seatOrNull 1 = .ok (.ifCond .lt 23, 3) := by decide +kernel
theorem dX3_seatOrNull_4 : decode cX3_seatOrNull 4 = .ok (.iload_n 1, 1) := by decide +kernel
theorem dX3_seatOrNull_5 : decode cX3_seatOrNull 5 = .ok (.aload_n 0, 1) := by decide +kernel
theorem dX3_seatOrNull_6 : decode cX3_seatOrNull 6 = .ok (.getfield 17, 3) := by decide +kernel
theorem dX3_seatOrNull_9 : decode cX3_seatOrNull 9 = .ok (.if_icmp .ge 15, 3) := by decide +kernel
theorem dX3_seatOrNull_12 : decode cX3_seatOrNull 12 = .ok (.iload_n 2, 1) := by decide +kernel
theorem dX3_seatOrNull_13 : decode cX3_seatOrNull 13 = .ok (.ifCond .lt 11, 3) := by decide +kernel
theorem dX3_seatOrNull_16 : decode cX3_seatOrNull 16 = .ok (.iload_n 2, 1) := by decide +kernel
theorem dX3_seatOrNull_17 : decode cX3_seatOrNull 17 = .ok (.aload_n 0, 1) := by decide +kernel
theorem dX3_seatOrNull_18 : decode cX3_seatOrNull 18 = .ok (.getfield 21, 3) := by decide +kernel
theorem dX3_seatOrNull_21 : decode cX3_seatOrNull 21 = .ok (.if_icmp .lt 5, 3) := by decide +kernel
theorem dX3_seatOrNull_24 : decode cX3_seatOrNull 24 = .ok (.aconst_null, 1) := by decide +kernel
theorem dX3_seatOrNull_25 : decode cX3_seatOrNull 25 = .ok (.areturn, 1) := by decide +kernel
theorem dX3_seatOrNull_26 : decode cX3_seatOrNull 26 = .ok (.iload_n 1, 1) := by decide +kernel
theorem dX3_seatOrNull_27 : decode cX3_seatOrNull 27 = .ok (.bipush 10, 2) := by decide +kernel
theorem dX3_seatOrNull_29 : decode cX3_seatOrNull 29 = .ok (.imul, 1) := by decide +kernel
theorem dX3_seatOrNull_30 : decode cX3_seatOrNull 30 = .ok (.iload_n 2, 1) := by decide +kernel
theorem dX3_seatOrNull_31 : decode cX3_seatOrNull 31 = .ok (.iadd, 1) := by decide +kernel
theorem dX3_seatOrNull_32 : decode cX3_seatOrNull 32 = .ok (.istore_n 3, 1) := by decide +kernel
theorem dX3_seatOrNull_33 : decode cX3_seatOrNull 33 = .ok (.iload_n 3, 1) := by decide +kernel
theorem dX3_seatOrNull_34 : decode cX3_seatOrNull 34 = .ok (.aload_n 0, 1) := by decide +kernel
theorem dX3_seatOrNull_35 : decode cX3_seatOrNull 35 = .ok (.getfield 11, 3) := by decide +kernel
theorem dX3_seatOrNull_38 : decode cX3_seatOrNull 38 = .ok (.arraylength, 1) := by decide +kernel
theorem dX3_seatOrNull_39 : decode cX3_seatOrNull 39 = .ok (.if_icmp .ge 12, 3) := by decide +kernel
theorem dX3_seatOrNull_42 : decode cX3_seatOrNull 42 = .ok (.aload_n 0, 1) := by decide +kernel
theorem dX3_seatOrNull_43 : decode cX3_seatOrNull 43 = .ok (.getfield 11, 3) := by decide +kernel
theorem dX3_seatOrNull_46 : decode cX3_seatOrNull 46 = .ok (.iload_n 3, 1) := by decide +kernel
theorem dX3_seatOrNull_47 : decode cX3_seatOrNull 47 = .ok (.aaload, 1) := by decide +kernel
theorem dX3_seatOrNull_48 : decode cX3_seatOrNull 48 = .ok (.goto 4, 3) := by decide +kernel
theorem dX3_seatOrNull_51 : decode cX3_seatOrNull 51 = .ok (.aconst_null, 1) := by decide +kernel
theorem dX3_seatOrNull_52 : decode cX3_seatOrNull 52 = .ok (.areturn, 1) := by decide +kernel
theorem dX3_forgetEvening_0 : decode cX3_forgetEvening 0 = .ok (.aload_n 0, 1) := by decide +kernel
theorem dX3_forgetEvening_1 : decode cX3_forgetEvening 1 = .ok (.getfield 11, 3) := by decide +kernel
theorem dX3_forgetEvening_4 : decode cX3_forgetEvening 4 = .ok (.astore_n 1, 1) := by decide +kernel
theorem dX3_forgetEvening_5 : decode cX3_forgetEvening 5 = .ok (.aload_n 1, 1) := by decide +kernel
theorem dX3_forgetEvening_6 : decode cX3_forgetEvening 6 = .ok (.arraylength, 1) := by decide +kernel
theorem dX3_forgetEvening_7 : decode cX3_forgetEvening 7 = .ok (.istore_n 2, 1) := by decide +kernel
theorem dX3_forgetEvening_8 : decode cX3_forgetEvening 8 = .ok (.iconst 0, 1) := by decide +kernel
theorem dX3_forgetEvening_9 : decode cX3_forgetEvening 9 = .ok (.istore_n 3, 1) := by decide +kernel
theorem dX3_forgetEvening_10 : decode cX3_forgetEvening 10 = .ok (.iload_n 3, 1) := by decide +kernel
theorem dX3_forgetEvening_11 : decode cX3_forgetEvening 11 = .ok (.iload_n 2, 1) := by decide +kernel
theorem dX3_forgetEvening_12 : decode cX3_forgetEvening 12 = .ok (.if_icmp .ge 19, 3) := by decide +kernel
theorem dX3_forgetEvening_15 : decode cX3_forgetEvening 15 = .ok (.aload_n 1, 1) := by decide +kernel
theorem dX3_forgetEvening_16 : decode cX3_forgetEvening 16 = .ok (.iload_n 3, 1) := by decide +kernel
theorem dX3_forgetEvening_17 : decode cX3_forgetEvening 17 = .ok (.aaload, 1) := by decide +kernel
theorem dX3_forgetEvening_18 : decode cX3_forgetEvening 18 = .ok (.astore 4, 2) := by decide +kernel
theorem dX3_forgetEvening_20 : decode cX3_forgetEvening 20 = .ok (.aload 4, 2) := by decide +kernel
theorem dX3_forgetEvening_22 : decode cX3_forgetEvening 22 = .ok (.invokevirtual 29, 3) := by decide +kernel
theorem dX3_forgetEvening_25 : decode cX3_forgetEvening 25 = .ok (.iinc 3 1, 3) := by decide +kernel
theorem dX3_forgetEvening_28 : decode cX3_forgetEvening 28 = .ok (.goto (-18), 3) := by decide +kernel
theorem dX3_forgetEvening_31 : decode cX3_forgetEvening 31 = .ok (.return_, 1) := by decide +kernel
theorem dX3_keepTickAhead_0 : decode cX3_keepTickAhead 0 = .ok (.aload_n 0, 1) := by decide +kernel
theorem dX3_keepTickAhead_1 : decode cX3_keepTickAhead 1 = .ok (.getfield 11, 3) := by decide +kernel
theorem dX3_keepTickAhead_4 : decode cX3_keepTickAhead 4 = .ok (.astore_n 1, 1) := by decide +kernel
theorem dX3_keepTickAhead_5 : decode cX3_keepTickAhead 5 = .ok (.aload_n 1, 1) := by decide +kernel
theorem dX3_keepTickAhead_6 : decode cX3_keepTickAhead 6 = .ok (.arraylength, 1) := by decide +kernel
theorem dX3_keepTickAhead_7 : decode cX3_keepTickAhead 7 = .ok (.istore_n 2, 1) := by decide +kernel
theorem dX3_keepTickAhead_8 : decode cX3_keepTickAhead 8 = .ok (.iconst 0, 1) := by decide +kernel
theorem dX3_keepTickAhead_9 : decode cX3_keepTickAhead 9 = .ok (.istore_n 3, 1) := by decide +kernel
theorem dX3_keepTickAhead_10 : decode cX3_keepTickAhead 10 = .ok (.iload_n 3, 1) := by decide +kernel
theorem dX3_keepTickAhead_11 : decode cX3_keepTickAhead 11 = .ok (.iload_n 2, 1) := by decide +kernel
theorem dX3_keepTickAhead_12 : decode cX3_keepTickAhead 12 = .ok (.if_icmp .ge 19, 3) := by decide +kernel
theorem dX3_keepTickAhead_15 : decode cX3_keepTickAhead 15 = .ok (.aload_n 1, 1) := by decide +kernel
theorem dX3_keepTickAhead_16 : decode cX3_keepTickAhead 16 = .ok (.iload_n 3, 1) := by decide +kernel
theorem dX3_keepTickAhead_17 : decode cX3_keepTickAhead 17 = .ok (.aaload, 1) := by decide +kernel
theorem dX3_keepTickAhead_18 : decode cX3_keepTickAhead 18 = .ok (.astore 4, 2) := by decide +kernel
theorem dX3_keepTickAhead_20 : decode cX3_keepTickAhead 20 = .ok (.aload 4, 2) := by decide +kernel
theorem dX3_keepTickAhead_22 : decode cX3_keepTickAhead 22 = .ok (.invokevirtual 32, 3) := by decide +kernel
theorem dX3_keepTickAhead_25 : decode cX3_keepTickAhead 25 = .ok (.iinc 3 1, 3) := by decide +kernel
theorem dX3_keepTickAhead_28 : decode cX3_keepTickAhead 28 = .ok (.goto (-18), 3) := by decide +kernel
theorem dX3_keepTickAhead_31 : decode cX3_keepTickAhead 31 = .ok (.return_, 1) := by decide +kernel
theorem dX3_around_0 : decode cX3_around 0 = .ok (.iconst 0, 1) := by decide +kernel
theorem dX3_around_1 : decode cX3_around 1 = .ok (.istore_n 3, 1) := by decide +kernel
theorem dX3_around_2 : decode cX3_around 2 = .ok (.iload_n 1, 1) := by decide +kernel
theorem dX3_around_3 : decode cX3_around 3 = .ok (.iconst 1, 1) := by decide +kernel
theorem dX3_around_4 : decode cX3_around 4 = .ok (.isub, 1) := by decide +kernel
theorem dX3_around_5 : decode cX3_around 5 = .ok (.istore 4, 2) := by decide +kernel
theorem dX3_around_7 : decode cX3_around 7 = .ok (.iload 4, 2) := by decide +kernel
theorem dX3_around_9 : decode cX3_around 9 = .ok (.iload_n 1, 1) := by decide +kernel
theorem dX3_around_10 : decode cX3_around 10 = .ok (.iconst 1, 1) := by decide +kernel
theorem dX3_around_11 : decode cX3_around 11 = .ok (.iadd, 1) := by decide +kernel
theorem dX3_around_12 : decode cX3_around 12 = .ok (.if_icmp .gt 67, 3) := by decide +kernel
theorem dX3_around_15 : decode cX3_around 15 = .ok (.iload_n 2, 1) := by decide +kernel
theorem dX3_around_16 : decode cX3_around 16 = .ok (.iconst 1, 1) := by decide +kernel
theorem dX3_around_17 : decode cX3_around 17 = .ok (.isub, 1) := by decide +kernel
theorem dX3_around_18 : decode cX3_around 18 = .ok (.istore 5, 2) := by decide +kernel
theorem dX3_around_20 : decode cX3_around 20 = .ok (.iload 5, 2) := by decide +kernel
theorem dX3_around_22 : decode cX3_around 22 = .ok (.iload_n 2, 1) := by decide +kernel
theorem dX3_around_23 : decode cX3_around 23 = .ok (.iconst 1, 1) := by decide +kernel
theorem dX3_around_24 : decode cX3_around 24 = .ok (.iadd, 1) := by decide +kernel
theorem dX3_around_25 : decode cX3_around 25 = .ok (.if_icmp .gt 48, 3) := by decide +kernel
theorem dX3_around_28 : decode cX3_around 28 = .ok (.iload 4, 2) := by decide +kernel
theorem dX3_around_30 : decode cX3_around 30 = .ok (.iload_n 1, 1) := by decide +kernel
theorem dX3_around_31 : decode cX3_around 31 = .ok (.if_icmp .ne 13, 3) := by decide +kernel
theorem dX3_around_34 : decode cX3_around 34 = .ok (.iload 5, 2) := by decide +kernel
theorem dX3_around_36 : decode cX3_around 36 = .ok (.iload_n 2, 1) := by decide +kernel
theorem dX3_around_37 : decode cX3_around 37 = .ok (.if_icmp .ne 7, 3) := by decide +kernel
theorem dX3_around_40 : decode cX3_around 40 = .ok (.aconst_null, 1) := by decide +kernel
theorem dX3_around_41 : decode cX3_around 41 = .ok (.goto 11, 3) := by decide +kernel
theorem dX3_around_44 : decode cX3_around 44 = .ok (.aload_n 0, 1) := by decide +kernel
theorem dX3_around_45 : decode cX3_around 45 = .ok (.iload 4, 2) := by decide +kernel
theorem dX3_around_47 : decode cX3_around 47 = .ok (.iload 5, 2) := by decide +kernel
theorem dX3_around_49 : decode cX3_around 49 = .ok (.invokevirtual 35, 3) := by decide +kernel
theorem dX3_around_52 : decode cX3_around 52 = .ok (.astore 6, 2) := by decide +kernel
theorem dX3_around_54 : decode cX3_around 54 = .ok (.aload 6, 2) := by decide +kernel
theorem dX3_around_56 : decode cX3_around 56 = .ok (.ifnull 11, 3) := by decide +kernel
theorem dX3_around_59 : decode cX3_around 59 = .ok (.iload_n 3, 1) := by decide +kernel
theorem dX3_around_60 : decode cX3_around 60 = .ok (.aload 6, 2) := by decide +kernel
theorem dX3_around_62 : decode cX3_around 62 = .ok (.invokevirtual 39, 3) := by decide +kernel
theorem dX3_around_65 : decode cX3_around 65 = .ok (.iadd, 1) := by decide +kernel
theorem dX3_around_66 : decode cX3_around 66 = .ok (.istore_n 3, 1) := by decide +kernel
theorem dX3_around_67 : decode cX3_around 67 = .ok (.iinc 5 1, 3) := by decide +kernel
theorem dX3_around_70 : decode cX3_around 70 = .ok (.goto (-50), 3) := by decide +kernel
theorem dX3_around_73 : decode cX3_around 73 = .ok (.iinc 4 1, 3) := by decide +kernel
theorem dX3_around_76 : decode cX3_around 76 = .ok (.goto (-69), 3) := by decide +kernel
theorem dX3_around_79 : decode cX3_around 79 = .ok (.iload_n 3, 1) := by decide +kernel
theorem dX3_around_80 : decode cX3_around 80 = .ok (.ireturn, 1) := by decide +kernel
theorem dX3_noiseSum_0 : decode cX3_noiseSum 0 = .ok (.iconst 0, 1) := by decide +kernel
theorem dX3_noiseSum_1 : decode cX3_noiseSum 1 = .ok (.istore_n 1, 1) := by decide +kernel
theorem dX3_noiseSum_2 : decode cX3_noiseSum 2 = .ok (.aload_n 0, 1) := by decide +kernel
theorem dX3_noiseSum_3 : decode cX3_noiseSum 3 = .ok (.getfield 11, 3) := by decide +kernel
theorem dX3_noiseSum_6 : decode cX3_noiseSum 6 = .ok (.astore_n 2, 1) := by decide +kernel
theorem dX3_noiseSum_7 : decode cX3_noiseSum 7 = .ok (.aload_n 2, 1) := by decide +kernel
theorem dX3_noiseSum_8 : decode cX3_noiseSum 8 = .ok (.arraylength, 1) := by decide +kernel
theorem dX3_noiseSum_9 : decode cX3_noiseSum 9 = .ok (.istore_n 3, 1) := by decide +kernel
theorem dX3_noiseSum_10 : decode cX3_noiseSum 10 = .ok (.iconst 0, 1) := by decide +kernel
theorem dX3_noiseSum_11 : decode cX3_noiseSum 11 = .ok (.istore 4, 2) := by decide +kernel
theorem dX3_noiseSum_13 : decode cX3_noiseSum 13 = .ok (.iload 4, 2) := by decide +kernel
theorem dX3_noiseSum_15 : decode cX3_noiseSum 15 = .ok (.iload_n 3, 1) := by decide +kernel
theorem dX3_noiseSum_16 : decode cX3_noiseSum 16 = .ok (.if_icmp .ge 23, 3) := by decide +kernel
theorem dX3_noiseSum_19 : decode cX3_noiseSum 19 = .ok (.aload_n 2, 1) := by decide +kernel
theorem dX3_noiseSum_20 : decode cX3_noiseSum 20 = .ok (.iload 4, 2) := by decide +kernel
theorem dX3_noiseSum_22 : decode cX3_noiseSum 22 = .ok (.aaload, 1) := by decide +kernel
theorem dX3_noiseSum_23 : decode cX3_noiseSum 23 = .ok (.astore 5, 2) := by decide +kernel
theorem dX3_noiseSum_25 : decode cX3_noiseSum 25 = .ok (.iload_n 1, 1) := by decide +kernel
theorem dX3_noiseSum_26 : decode cX3_noiseSum 26 = .ok (.aload 5, 2) := by decide +kernel
theorem dX3_noiseSum_28 : decode cX3_noiseSum 28 = .ok (.getfield 43, 3) := by decide +kernel
theorem dX3_noiseSum_31 : decode cX3_noiseSum 31 = .ok (.iadd, 1) := by decide +kernel
theorem dX3_noiseSum_32 : decode cX3_noiseSum 32 = .ok (.istore_n 1, 1) := by decide +kernel
theorem dX3_noiseSum_33 : decode cX3_noiseSum 33 = .ok (.iinc 4 1, 3) := by decide +kernel
theorem dX3_noiseSum_36 : decode cX3_noiseSum 36 = .ok (.goto (-23), 3) := by decide +kernel
theorem dX3_noiseSum_39 : decode cX3_noiseSum 39 = .ok (.iload_n 1, 1) := by decide +kernel
theorem dX3_noiseSum_40 : decode cX3_noiseSum 40 = .ok (.ireturn, 1) := by decide +kernel
theorem dX3_countJoined_0 : decode cX3_countJoined 0 = .ok (.iconst 0, 1) := by decide +kernel
theorem dX3_countJoined_1 : decode cX3_countJoined 1 = .ok (.istore_n 1, 1) := by decide +kernel
theorem dX3_countJoined_2 : decode cX3_countJoined 2 = .ok (.aload_n 0, 1) := by decide +kernel
theorem dX3_countJoined_3 : decode cX3_countJoined 3 = .ok (.getfield 11, 3) := by decide +kernel
theorem dX3_countJoined_6 : decode cX3_countJoined 6 = .ok (.astore_n 2, 1) := by decide +kernel
theorem dX3_countJoined_7 : decode cX3_countJoined 7 = .ok (.aload_n 2, 1) := by decide +kernel
theorem dX3_countJoined_8 : decode cX3_countJoined 8 = .ok (.arraylength, 1) := by decide +kernel
theorem dX3_countJoined_9 : decode cX3_countJoined 9 = .ok (.istore_n 3, 1) := by decide +kernel
theorem dX3_countJoined_10 : decode cX3_countJoined 10 = .ok (.iconst 0, 1) := by decide +kernel
theorem dX3_countJoined_11 : decode cX3_countJoined 11 = .ok (.istore 4, 2) := by decide +kernel
theorem dX3_countJoined_13 : decode cX3_countJoined 13 = .ok (.iload 4, 2) := by decide +kernel
theorem dX3_countJoined_15 : decode cX3_countJoined 15 = .ok (.iload_n 3, 1) := by decide +kernel
theorem dX3_countJoined_16 : decode cX3_countJoined 16 = .ok (.if_icmp .ge 26, 3) := by decide +kernel
theorem dX3_countJoined_19 : decode cX3_countJoined 19 = .ok (.aload_n 2, 1) := by decide +kernel
theorem dX3_countJoined_20 : decode cX3_countJoined 20 = .ok (.iload 4, 2) := by decide +kernel
theorem dX3_countJoined_22 : decode cX3_countJoined 22 = .ok (.aaload, 1) := by decide +kernel
theorem dX3_countJoined_23 : decode cX3_countJoined 23 = .ok (.astore 5, 2) := by decide +kernel
theorem dX3_countJoined_25 : decode cX3_countJoined 25 = .ok (.aload 5, 2) := by decide +kernel
theorem dX3_countJoined_27 : decode cX3_countJoined 27 = .ok (.getfield 46, 3) := by decide +kernel
theorem dX3_countJoined_30 : decode cX3_countJoined 30 = .ok (.ifCond .eq 6, 3) := by decide +kernel
theorem dX3_countJoined_33 : decode cX3_countJoined 33 = .ok (.iinc 1 1, 3) := by decide +kernel
theorem dX3_countJoined_36 : decode cX3_countJoined 36 = .ok (.iinc 4 1, 3) := by decide +kernel
theorem dX3_countJoined_39 : decode cX3_countJoined 39 = .ok (.goto (-26), 3) := by decide +kernel
theorem dX3_countJoined_42 : decode cX3_countJoined 42 = .ok (.iload_n 1, 1) := by decide +kernel
theorem dX3_countJoined_43 : decode cX3_countJoined 43 = .ok (.ireturn, 1) := by decide +kernel
theorem dX3_countSeated_0 : decode cX3_countSeated 0 = .ok (.iconst 0, 1) := by decide +kernel
theorem dX3_countSeated_1 : decode cX3_countSeated 1 = .ok (.istore_n 2, 1) := by decide +kernel
theorem dX3_countSeated_2 : decode cX3_countSeated 2 = .ok (.aload_n 0, 1) := by decide +kernel
theorem dX3_countSeated_3 : decode cX3_countSeated 3 = .ok (.getfield 11, 3) := by decide +kernel
theorem dX3_countSeated_6 : decode cX3_countSeated 6 = .ok (.astore_n 3, 1) := by decide +kernel
theorem dX3_countSeated_7 : decode cX3_countSeated 7 = .ok (.aload_n 3, 1) := by decide +kernel
theorem dX3_countSeated_8 : decode cX3_countSeated 8 = .ok (.arraylength, 1) := by decide +kernel
theorem dX3_countSeated_9 : decode cX3_countSeated 9 = .ok (.istore 4, 2) := by decide +kernel
theorem dX3_countSeated_11 : decode cX3_countSeated 11 = .ok (.iconst 0, 1) := by decide +kernel
theorem dX3_countSeated_12 : decode cX3_countSeated 12 = .ok (.istore 5, 2) := by decide +kernel
theorem dX3_countSeated_14 : decode cX3_countSeated 14 = .ok (.iload 5, 2) := by decide +kernel
theorem dX3_countSeated_16 : decode cX3_countSeated 16 = .ok (.iload 4, 2) := by decide +kernel
theorem dX3_countSeated_18 : decode cX3_countSeated 18 = .ok (.if_icmp .ge 27, 3) := by decide +kernel
theorem dX3_countSeated_21 : decode cX3_countSeated 21 = .ok (.aload_n 3, 1) := by decide +kernel
theorem dX3_countSeated_22 : decode cX3_countSeated 22 = .ok (.iload 5, 2) := by decide +kernel
theorem dX3_countSeated_24 : decode cX3_countSeated 24 = .ok (.aaload, 1) := by decide +kernel
theorem dX3_countSeated_25 : decode cX3_countSeated 25 = .ok (.astore 6, 2) := by decide +kernel
theorem dX3_countSeated_27 : decode cX3_countSeated 27 = .ok (.aload 6, 2) := by decide +kernel
theorem dX3_countSeated_29 : decode cX3_countSeated 29 = .ok (.getfield 50, 3) := by decide +kernel
theorem dX3_countSeated_32 : decode cX3_countSeated 32 = .ok (.iload_n 1, 1) := by decide +kernel
theorem dX3_countSeated_33 : decode cX3_countSeated 33 = .ok (.if_icmp .ne 6, 3) := by decide +kernel
theorem dX3_countSeated_36 : decode cX3_countSeated 36 = .ok (.iinc 2 1, 3) := by decide +kernel
theorem dX3_countSeated_39 : decode cX3_countSeated 39 = .ok (.iinc 5 1, 3) := by decide +kernel
theorem dX3_countSeated_42 : decode cX3_countSeated 42 = .ok (.goto (-28), 3) := by decide +kernel
theorem dX3_countSeated_45 : decode cX3_countSeated 45 = .ok (.iload_n 2, 1) := by decide +kernel
theorem dX3_countSeated_46 : decode cX3_countSeated 46 = .ok (.ireturn, 1) := by decide +kernel
theorem dX3_countNoisy_0 : decode cX3_countNoisy 0 = .ok (.iconst 0, 1) := by decide +kernel
theorem dX3_countNoisy_1 : decode cX3_countNoisy 1 = .ok (.istore_n 2, 1) := by decide +kernel
theorem dX3_countNoisy_2 : decode cX3_countNoisy 2 = .ok (.aload_n 0, 1) := by decide +kernel
theorem dX3_countNoisy_3 : decode cX3_countNoisy 3 = .ok (.getfield 11, 3) := by decide +kernel
theorem dX3_countNoisy_6 : decode cX3_countNoisy 6 = .ok (.astore_n 3, 1) := by decide +kernel
theorem dX3_countNoisy_7 : decode cX3_countNoisy 7 = .ok (.aload_n 3, 1) := by decide +kernel
theorem dX3_countNoisy_8 : decode cX3_countNoisy 8 = .ok (.arraylength, 1) := by decide +kernel
theorem dX3_countNoisy_9 : decode cX3_countNoisy 9 = .ok (.istore 4, 2) := by decide +kernel
theorem dX3_countNoisy_11 : decode cX3_countNoisy 11 = .ok (.iconst 0, 1) := by decide +kernel
theorem dX3_countNoisy_12 : decode cX3_countNoisy 12 = .ok (.istore 5, 2) := by decide +kernel
theorem dX3_countNoisy_14 : decode cX3_countNoisy 14 = .ok (.iload 5, 2) := by decide +kernel
theorem dX3_countNoisy_16 : decode cX3_countNoisy 16 = .ok (.iload 4, 2) := by decide +kernel
theorem dX3_countNoisy_18 : decode cX3_countNoisy 18 = .ok (.if_icmp .ge 35, 3) := by decide +kernel
theorem dX3_countNoisy_21 : decode cX3_countNoisy 21 = .ok (.aload_n 3, 1) := by decide +kernel
theorem dX3_countNoisy_22 : decode cX3_countNoisy 22 = .ok (.iload 5, 2) := by decide +kernel
theorem dX3_countNoisy_24 : decode cX3_countNoisy 24 = .ok (.aaload, 1) := by decide +kernel
theorem dX3_countNoisy_25 : decode cX3_countNoisy 25 = .ok (.astore 6, 2) := by decide +kernel
theorem dX3_countNoisy_27 : decode cX3_countNoisy 27 = .ok (.aload 6, 2) := by decide +kernel
theorem dX3_countNoisy_29 : decode cX3_countNoisy 29 = .ok (.getfield 50, 3) := by decide +kernel
theorem dX3_countNoisy_32 : decode cX3_countNoisy 32 = .ok (.iload_n 1, 1) := by decide +kernel
theorem dX3_countNoisy_33 : decode cX3_countNoisy 33 = .ok (.if_icmp .ne 14, 3) := by decide +kernel
theorem dX3_countNoisy_36 : decode cX3_countNoisy 36 = .ok (.aload 6, 2) := by decide +kernel
theorem dX3_countNoisy_38 : decode cX3_countNoisy 38 = .ok (.getfield 43, 3) := by decide +kernel
theorem dX3_countNoisy_41 : decode cX3_countNoisy 41 = .ok (.ifCond .le 6, 3) := by decide +kernel
theorem dX3_countNoisy_44 : decode cX3_countNoisy 44 = .ok (.iinc 2 1, 3) := by decide +kernel
theorem dX3_countNoisy_47 : decode cX3_countNoisy 47 = .ok (.iinc 5 1, 3) := by decide +kernel
theorem dX3_countNoisy_50 : decode cX3_countNoisy 50 = .ok (.goto (-36), 3) := by decide +kernel
theorem dX3_countNoisy_53 : decode cX3_countNoisy 53 = .ok (.iload_n 2, 1) := by decide +kernel
theorem dX3_countNoisy_54 : decode cX3_countNoisy 54 = .ok (.ireturn, 1) := by decide +kernel
theorem dX3_isInOrder_0 : decode cX3_isInOrder 0 = .ok (.aload_n 0, 1) := by decide +kernel
theorem dX3_isInOrder_1 : decode cX3_isInOrder 1 = .ok (.getfield 11, 3) := by decide +kernel
theorem dX3_isInOrder_4 : decode cX3_isInOrder 4 = .ok (.astore_n 1, 1) := by decide +kernel
theorem dX3_isInOrder_5 : decode cX3_isInOrder 5 = .ok (.aload_n 1, 1) := by decide +kernel
theorem dX3_isInOrder_6 : decode cX3_isInOrder 6 = .ok (.arraylength, 1) := by decide +kernel
theorem dX3_isInOrder_7 : decode cX3_isInOrder 7 = .ok (.istore_n 2, 1) := by decide +kernel
theorem dX3_isInOrder_8 : decode cX3_isInOrder 8 = .ok (.iconst 0, 1) := by decide +kernel
theorem dX3_isInOrder_9 : decode cX3_isInOrder 9 = .ok (.istore_n 3, 1) := by decide +kernel
theorem dX3_isInOrder_10 : decode cX3_isInOrder 10 = .ok (.iload_n 3, 1) := by decide +kernel
theorem dX3_isInOrder_11 : decode cX3_isInOrder 11 = .ok (.iload_n 2, 1) := by decide +kernel
theorem dX3_isInOrder_12 : decode cX3_isInOrder 12 = .ok (.if_icmp .ge 24, 3) := by decide +kernel
theorem dX3_isInOrder_15 : decode cX3_isInOrder 15 = .ok (.aload_n 1, 1) := by decide +kernel
theorem dX3_isInOrder_16 : decode cX3_isInOrder 16 = .ok (.iload_n 3, 1) := by decide +kernel
theorem dX3_isInOrder_17 : decode cX3_isInOrder 17 = .ok (.aaload, 1) := by decide +kernel
theorem dX3_isInOrder_18 : decode cX3_isInOrder 18 = .ok (.astore 4, 2) := by decide +kernel
theorem dX3_isInOrder_20 : decode cX3_isInOrder 20 = .ok (.aload 4, 2) := by decide +kernel
theorem dX3_isInOrder_22 : decode cX3_isInOrder 22 = .ok (.invokevirtual 54, 3) := by decide +kernel
theorem dX3_isInOrder_25 : decode cX3_isInOrder 25 = .ok (.ifCond .ne 5, 3) := by decide +kernel
theorem dX3_isInOrder_28 : decode cX3_isInOrder 28 = .ok (.iconst 0, 1) := by decide +kernel
theorem dX3_isInOrder_29 : decode cX3_isInOrder 29 = .ok (.ireturn, 1) := by decide +kernel
theorem dX3_isInOrder_30 : decode cX3_isInOrder 30 = .ok (.iinc 3 1, 3) := by decide +kernel
theorem dX3_isInOrder_33 : decode cX3_isInOrder 33 = .ok (.goto (-23), 3) := by decide +kernel
theorem dX3_isInOrder_36 : decode cX3_isInOrder 36 = .ok (.iconst 1, 1) := by decide +kernel
theorem dX3_isInOrder_37 : decode cX3_isInOrder 37 = .ok (.ireturn, 1) := by decide +kernel
theorem dX4_init_0 : decode cX4_init 0 = .ok (.aload_n 0, 1) := by decide +kernel
theorem dX4_init_1 : decode cX4_init 1 = .ok (.invokespecial 3, 3) := by decide +kernel
theorem dX4_init_4 : decode cX4_init 4 = .ok (.aload_n 0, 1) := by decide +kernel
theorem dX4_init_5 : decode cX4_init 5 = .ok (.bipush 46, 2) := by decide +kernel
theorem dX4_init_7 : decode cX4_init 7 = .ok (.putfield 9, 3) := by decide +kernel
theorem dX4_init_10 : decode cX4_init 10 = .ok (.aload_n 0, 1) := by decide +kernel
theorem dX4_init_11 : decode cX4_init 11 = .ok (.iconst 0, 1) := by decide +kernel
theorem dX4_init_12 : decode cX4_init 12 = .ok (.putfield 15, 3) := by decide +kernel
theorem dX4_init_15 : decode cX4_init 15 = .ok (.aload_n 0, 1) := by decide +kernel
theorem dX4_init_16 : decode cX4_init 16 = .ok (.aconst_null, 1) := by decide +kernel
theorem dX4_init_17 : decode cX4_init 17 = .ok (.putfield 19, 3) := by decide +kernel
theorem dX4_init_20 : decode cX4_init 20 = .ok (.aload_n 0, 1) := by decide +kernel
theorem dX4_init_21 : decode cX4_init 21 = .ok (.iconst 0, 1) := by decide +kernel
theorem dX4_init_22 : decode cX4_init 22 = .ok (.putfield 23, 3) := by decide +kernel
theorem dX4_init_25 : decode cX4_init 25 = .ok (.aload_n 0, 1) := by decide +kernel
theorem dX4_init_26 : decode cX4_init 26 = .ok (.iconst 0, 1) := by decide +kernel
theorem dX4_init_27 : decode cX4_init 27 = .ok (.putfield 26, 3) := by decide +kernel
theorem dX4_init_30 : decode cX4_init 30 = .ok (.aload_n 0, 1) := by decide +kernel
theorem dX4_init_31 : decode cX4_init 31 = .ok (.iconst 0, 1) := by decide +kernel
theorem dX4_init_32 : decode cX4_init 32 = .ok (.putfield 29, 3) := by decide +kernel
theorem dX4_init_35 : decode cX4_init 35 = .ok (.aload_n 0, 1) := by decide +kernel
theorem dX4_init_36 : decode cX4_init 36 = .ok (.iconst 0, 1) := by decide +kernel
theorem dX4_init_37 : decode cX4_init 37 = .ok (.putfield 33, 3) := by decide +kernel
theorem dX4_init_40 : decode cX4_init 40 = .ok (.aload_n 0, 1) := by decide +kernel
theorem dX4_init_41 : decode cX4_init 41 = .ok (.iconst 0, 1) := by decide +kernel
theorem dX4_init_42 : decode cX4_init 42 = .ok (.putfield 36, 3) := by decide +kernel
theorem dX4_init_45 : decode cX4_init 45 = .ok (.aload_n 0, 1) := by decide +kernel
theorem dX4_init_46 : decode cX4_init 46 = .ok (.iconst 0, 1) := by decide +kernel
theorem dX4_init_47 : decode cX4_init 47 = .ok (.putfield 39, 3) := by decide +kernel
theorem dX4_init_50 : decode cX4_init 50 = .ok (.return_, 1) := by decide +kernel
theorem dX4_take_0 : decode cX4_take 0 = .ok (.aload_n 0, 1) := by decide +kernel
theorem dX4_take_1 : decode cX4_take 1 = .ok (.getfield 9, 3) := by decide +kernel
theorem dX4_take_4 : decode cX4_take 4 = .ok (.istore_n 2, 1) := by decide +kernel
theorem dX4_take_5 : decode cX4_take 5 = .ok (.aload_n 0, 1) := by decide +kernel
theorem dX4_take_6 : decode cX4_take 6 = .ok (.getfield 19, 3) := by decide +kernel
theorem dX4_take_9 : decode cX4_take 9 = .ok (.ifnull 16, 3) := by decide +kernel
theorem dX4_take_12 : decode cX4_take 12 = .ok (.aload_n 0, 1) := by decide +kernel
theorem dX4_take_13 : decode cX4_take 13 = .ok (.getfield 19, 3) := by decide +kernel
theorem dX4_take_16 : decode cX4_take 16 = .ok (.aconst_null, 1) := by decide +kernel
theorem dX4_take_17 : decode cX4_take 17 = .ok (.putfield 42, 3) := by decide +kernel
theorem dX4_take_20 : decode cX4_take 20 = .ok (.aload_n 0, 1) := by decide +kernel
theorem dX4_take_21 : decode cX4_take 21 = .ok (.aconst_null, 1) := by decide +kernel
theorem dX4_take_22 : decode cX4_take 22 = .ok (.putfield 19, 3) := by decide +kernel
theorem dX4_take_25 : decode cX4_take 25 = .ok (.aload_n 0, 1) := by decide +kernel
theorem dX4_take_26 : decode cX4_take 26 = .ok (.iload_n 1, 1) := by decide +kernel
theorem dX4_take_27 : decode cX4_take 27 = .ok (.putfield 9, 3) := by decide +kernel
theorem dX4_take_30 : decode cX4_take 30 = .ok (.aload_n 0, 1) := by decide +kernel
theorem dX4_take_31 : decode cX4_take 31 = .ok (.iconst 0, 1) := by decide +kernel
theorem dX4_take_32 : decode cX4_take 32 = .ok (.putfield 15, 3) := by decide +kernel
theorem dX4_take_35 : decode cX4_take 35 = .ok (.aload_n 0, 1) := by decide +kernel
theorem dX4_take_36 : decode cX4_take 36 = .ok (.invokevirtual 48, 3) := by decide +kernel
theorem dX4_take_39 : decode cX4_take 39 = .ok (.iload_n 2, 1) := by decide +kernel
theorem dX4_take_40 : decode cX4_take 40 = .ok (.ireturn, 1) := by decide +kernel
theorem dX4_forgetEvening_0 : decode cX4_forgetEvening 0 = .ok (.aload_n 0, 1) := by decide +kernel
theorem dX4_forgetEvening_1 : decode cX4_forgetEvening 1 = .ok (.iconst 0, 1) := by decide +kernel
theorem dX4_forgetEvening_2 : decode cX4_forgetEvening 2 = .ok (.putfield 23, 3) := by decide +kernel
theorem dX4_forgetEvening_5 : decode cX4_forgetEvening 5 = .ok (.aload_n 0, 1) := by decide +kernel
theorem dX4_forgetEvening_6 : decode cX4_forgetEvening 6 = .ok (.iconst 0, 1) := by decide +kernel
theorem dX4_forgetEvening_7 : decode cX4_forgetEvening 7 = .ok (.putfield 29, 3) := by decide +kernel
theorem dX4_forgetEvening_10 : decode cX4_forgetEvening 10 = .ok (.aload_n 0, 1) := by decide +kernel
theorem dX4_forgetEvening_11 : decode cX4_forgetEvening 11 = .ok (.iconst 0, 1) := by decide +kernel
theorem dX4_forgetEvening_12 : decode cX4_forgetEvening 12 = .ok (.putfield 33, 3) := by decide +kernel
theorem dX4_forgetEvening_15 : decode cX4_forgetEvening 15 = .ok (.aload_n 0, 1) := by decide +kernel
theorem dX4_forgetEvening_16 : decode cX4_forgetEvening 16 = .ok (.iconst 0, 1) := by decide +kernel
theorem dX4_forgetEvening_17 : decode cX4_forgetEvening 17 = .ok (.putfield 36, 3) := by decide +kernel
theorem dX4_forgetEvening_20 : decode cX4_forgetEvening 20 = .ok (.return_, 1) := by decide +kernel
theorem dX4_keepTickAhead_0 : decode cX4_keepTickAhead 0 = .ok (.aload_n 0, 1) := by decide +kernel
theorem dX4_keepTickAhead_1 : decode cX4_keepTickAhead 1 = .ok (.aload_n 0, 1) := by decide +kernel
theorem dX4_keepTickAhead_2 : decode cX4_keepTickAhead 2 = .ok (.getfield 23, 3) := by decide +kernel
theorem dX4_keepTickAhead_5 : decode cX4_keepTickAhead 5 = .ok (.putfield 26, 3) := by decide +kernel
theorem dX4_keepTickAhead_8 : decode cX4_keepTickAhead 8 = .ok (.aload_n 0, 1) := by decide +kernel
theorem dX4_keepTickAhead_9 : decode cX4_keepTickAhead 9 = .ok (.aload_n 0, 1) := by decide +kernel
theorem dX4_keepTickAhead_10 : decode cX4_keepTickAhead 10 = .ok (.getfield 36, 3) := by decide +kernel
theorem dX4_keepTickAhead_13 : decode cX4_keepTickAhead 13 = .ok (.putfield 39, 3) := by decide +kernel
theorem dX4_keepTickAhead_16 : decode cX4_keepTickAhead 16 = .ok (.return_, 1) := by decide +kernel
theorem dX4_heardByNeighbours_0 : decode cX4_heardByNeighbours 0 = .ok (.aload_n 0, 1) := by decide +kernel
theorem dX4_heardByNeighbours_1 : decode cX4_heardByNeighbours 1 = .ok (.getfield 39, 3) := by decide +kernel
theorem dX4_heardByNeighbours_4 : decode cX4_heardByNeighbours 4 = .ok (.ifCond .eq 12, 3) := by decide +kernel
theorem dX4_heardByNeighbours_7 : decode cX4_heardByNeighbours 7 = .ok (.aload_n 0, 1) := by decide +kernel
theorem dX4_heardByNeighbours_8 : decode cX4_heardByNeighbours 8 = .ok (.getfield 26, 3) := by decide +kernel
theorem dX4_heardByNeighbours_11 : decode cX4_heardByNeighbours 11 = .ok (.iconst 4, 1) := by decide +kernel
theorem dX4_heardByNeighbours_12 : decode cX4_heardByNeighbours 12 = .ok (.isub, 1) := by decide +kernel
theorem dX4_heardByNeighbours_13 : decode cX4_heardByNeighbours 13 = .ok (.goto 7, 3) := by decide +kernel
theorem dX4_heardByNeighbours_16 : decode cX4_heardByNeighbours 16 = .ok (.aload_n 0, 1) := by decide +kernel
theorem dX4_heardByNeighbours_17 : decode cX4_heardByNeighbours 17 = .ok (.getfield 26, 3) := by decide +kernel
theorem dX4_heardByNeighbours_20 : decode cX4_heardByNeighbours 20 = .ok (.ireturn, 1) := by decide +kernel
theorem dX4_tirednessNow_0 : decode cX4_tirednessNow 0 = .ok (.aload_n 0, 1) := by decide +kernel
theorem dX4_tirednessNow_1 : decode cX4_tirednessNow 1 = .ok (.getfield 33, 3) := by decide +kernel
theorem dX4_tirednessNow_4 : decode cX4_tirednessNow 4 = .ok (.bipush 10, 2) := by decide +kernel
theorem dX4_tirednessNow_6 : decode cX4_tirednessNow 6 = .ok (.idiv, 1) := by decide +kernel
theorem dX4_tirednessNow_7 : decode cX4_tirednessNow 7 = .ok (.ireturn, 1) := by decide +kernel
theorem dX4_soundAsPayer_0 : decode cX4_soundAsPayer 0 = .ok (.aload_n 0, 1) := by decide +kernel
theorem dX4_soundAsPayer_1 : decode cX4_soundAsPayer 1 = .ok (.iload_n 1, 1) := by decide +kernel
theorem dX4_soundAsPayer_2 : decode cX4_soundAsPayer 2 = .ok (.iconst 3, 1) := by decide +kernel
theorem dX4_soundAsPayer_3 : decode cX4_soundAsPayer 3 = .ok (.aload_n 0, 1) := by decide +kernel
theorem dX4_soundAsPayer_4 : decode cX4_soundAsPayer 4 = .ok (.getfield 15, 3) := by decide +kernel
theorem dX4_soundAsPayer_7 : decode cX4_soundAsPayer 7 = .ok (.aload_n 0, 1) := by decide +kernel
theorem dX4_soundAsPayer_8 : decode cX4_soundAsPayer 8 = .ok (.invokevirtual 51, 3) := by decide +kernel
theorem dX4_soundAsPayer_11 : decode cX4_soundAsPayer 11 = .ok (.iadd, 1) := by decide +kernel
theorem dX4_soundAsPayer_12 : decode cX4_soundAsPayer 12 = .ok (.imul, 1) := by decide +kernel
theorem dX4_soundAsPayer_13 : decode cX4_soundAsPayer 13 = .ok (.if_icmp .lt 7, 3) := by decide +kernel
theorem dX4_soundAsPayer_16 : decode cX4_soundAsPayer 16 = .ok (.iconst 1, 1) := by decide +kernel
theorem dX4_soundAsPayer_17 : decode cX4_soundAsPayer 17 = .ok (.goto 4, 3) := by decide +kernel
theorem dX4_soundAsPayer_20 : decode cX4_soundAsPayer 20 = .ok (.iconst 0, 1) := by decide +kernel
theorem dX4_soundAsPayer_21 : decode cX4_soundAsPayer 21 = .ok (.putfield 29, 3) := by decide +kernel
theorem dX4_soundAsPayer_24 : decode cX4_soundAsPayer 24 = .ok (.aload_n 0, 1) := by decide +kernel
theorem dX4_soundAsPayer_25 : decode cX4_soundAsPayer 25 = .ok (.getfield 29, 3) := by decide +kernel
theorem dX4_soundAsPayer_28 : decode cX4_soundAsPayer 28 = .ok (.ifCond .eq 32, 3) := by decide +kernel
theorem dX4_soundAsPayer_31 : decode cX4_soundAsPayer 31 = .ok (.aload_n 0, 1) := by decide +kernel
theorem dX4_soundAsPayer_32 : decode cX4_soundAsPayer 32 = .ok (.dup, 1) := by decide +kernel
theorem dX4_soundAsPayer_33 : decode cX4_soundAsPayer 33 = .ok (.getfield 33, 3) := by decide +kernel
theorem dX4_soundAsPayer_36 : decode cX4_soundAsPayer 36 = .ok (.iconst 1, 1) := by decide +kernel
theorem dX4_soundAsPayer_37 : decode cX4_soundAsPayer 37 = .ok (.iadd, 1) := by decide +kernel
theorem dX4_soundAsPayer_38 : decode cX4_soundAsPayer 38 = .ok (.putfield 33, 3) := by decide +kernel
theorem dX4_soundAsPayer_41 : decode cX4_soundAsPayer 41 = .ok (.aload_n 0, 1) := by decide +kernel
theorem dX4_soundAsPayer_42 : decode cX4_soundAsPayer 42 = .ok (.iconst 1, 1) := by decide +kernel
theorem dX4_soundAsPayer_43 : decode cX4_soundAsPayer 43 = .ok (.bipush 9, 2) := by decide +kernel
theorem dX4_soundAsPayer_45 : decode cX4_soundAsPayer 45 = .ok (.iload_n 1, 1) := by decide +kernel
theorem dX4_soundAsPayer_46 : decode cX4_soundAsPayer 46 = .ok (.iconst 4, 1) := by decide +kernel
theorem dX4_soundAsPayer_47 : decode cX4_soundAsPayer 47 = .ok (.idiv, 1) := by decide +kernel
theorem dX4_soundAsPayer_48 : decode cX4_soundAsPayer 48 = .ok (.invokestatic 55, 3) := by decide +kernel
theorem dX4_soundAsPayer_51 : decode cX4_soundAsPayer 51 = .ok (.invokestatic 61, 3) := by decide +kernel
theorem dX4_soundAsPayer_54 : decode cX4_soundAsPayer 54 = .ok (.putfield 23, 3) := by decide +kernel
theorem dX4_soundAsPayer_57 : decode cX4_soundAsPayer 57 = .ok (.goto 17, 3) := by decide +kernel
theorem dX4_soundAsPayer_60 : decode cX4_soundAsPayer 60 = .ok (.aload_n 0, 1) := by decide +kernel
theorem dX4_soundAsPayer_61 : decode cX4_soundAsPayer 61 = .ok (.iconst 0, 1) := by decide +kernel
theorem dX4_soundAsPayer_62 : decode cX4_soundAsPayer 62 = .ok (.aload_n 0, 1) := by decide +kernel
theorem dX4_soundAsPayer_63 : decode cX4_soundAsPayer 63 = .ok (.getfield 26, 3) := by decide +kernel
theorem dX4_soundAsPayer_66 : decode cX4_soundAsPayer 66 = .ok (.iconst 1, 1) := by decide +kernel
theorem dX4_soundAsPayer_67 : decode cX4_soundAsPayer 67 = .ok (.isub, 1) := by decide +kernel
theorem dX4_soundAsPayer_68 : decode cX4_soundAsPayer 68 = .ok (.invokestatic 61, 3) := by decide +kernel
theorem dX4_soundAsPayer_71 : decode cX4_soundAsPayer 71 = .ok (.putfield 23, 3) := by decide +kernel
theorem dX4_soundAsPayer_74 : decode cX4_soundAsPayer 74 = .ok (.return_, 1) := by decide +kernel
theorem dX4_isInOrder_0 : decode cX4_isInOrder 0 = .ok (.aload_n 0, 1) := by decide +kernel
theorem dX4_isInOrder_1 : decode cX4_isInOrder 1 = .ok (.getfield 19, 3) := by decide +kernel
theorem dX4_isInOrder_4 : decode cX4_isInOrder 4 = .ok (.ifnonnull 20, 3) := by decide +kernel
theorem dX4_isInOrder_7 : decode cX4_isInOrder 7 = .ok (.aload_n 0, 1) := by decide +kernel
theorem dX4_isInOrder_8 : decode cX4_isInOrder 8 = .ok (.getfield 9, 3) := by decide +kernel
theorem dX4_isInOrder_11 : decode cX4_isInOrder 11 = .ok (.bipush 104, 2) := by decide +kernel
theorem dX4_isInOrder_13 : decode cX4_isInOrder 13 = .ok (.if_icmp .eq 7, 3) := by decide +kernel
theorem dX4_isInOrder_16 : decode cX4_isInOrder 16 = .ok (.iconst 1, 1) := by decide +kernel
theorem dX4_isInOrder_17 : decode cX4_isInOrder 17 = .ok (.goto 32, 3) := by decide +kernel
theorem dX4_isInOrder_20 : decode cX4_isInOrder 20 = .ok (.iconst 0, 1) := by decide +kernel
theorem dX4_isInOrder_21 : decode cX4_isInOrder 21 = .ok (.goto 28, 3) := by decide +kernel
theorem dX4_isInOrder_24 : decode cX4_isInOrder 24 = .ok (.aload_n 0, 1) := by decide +kernel
theorem dX4_isInOrder_25 : decode cX4_isInOrder 25 = .ok (.getfield 9, 3) := by decide +kernel
theorem dX4_isInOrder_28 : decode cX4_isInOrder 28 = .ok (.bipush 104, 2) := by decide +kernel
theorem dX4_isInOrder_30 : decode cX4_isInOrder 30 = .ok (.if_icmp .ne 18, 3) := by decide +kernel
theorem dX4_isInOrder_33 : decode cX4_isInOrder 33 = .ok (.aload_n 0, 1) := by decide +kernel
theorem dX4_isInOrder_34 : decode cX4_isInOrder 34 = .ok (.getfield 19, 3) := by decide +kernel
theorem dX4_isInOrder_37 : decode cX4_isInOrder 37 = .ok (.getfield 42, 3) := by decide +kernel
theorem dX4_isInOrder_40 : decode cX4_isInOrder 40 = .ok (.aload_n 0, 1) := by decide +kernel
theorem dX4_isInOrder_41 : decode cX4_isInOrder 41 = .ok (.if_acmp .ne 7, 3) := by decide +kernel
theorem dX4_isInOrder_44 : decode cX4_isInOrder 44 = .ok (.iconst 1, 1) := by decide +kernel
theorem dX4_isInOrder_45 : decode cX4_isInOrder 45 = .ok (.goto 4, 3) := by decide +kernel
theorem dX4_isInOrder_48 : decode cX4_isInOrder 48 = .ok (.iconst 0, 1) := by decide +kernel
theorem dX4_isInOrder_49 : decode cX4_isInOrder 49 = .ok (.istore_n 1, 1) := by decide +kernel
theorem dX4_isInOrder_50 : decode cX4_isInOrder 50 = .ok (.iload_n 1, 1) := by decide +kernel
theorem dX4_isInOrder_51 : decode cX4_isInOrder 51 = .ok (.ifCond .eq 23, 3) := by decide +kernel
theorem dX4_isInOrder_54 : decode cX4_isInOrder 54 = .ok (.aload_n 0, 1) := by decide +kernel
theorem dX4_isInOrder_55 : decode cX4_isInOrder 55 = .ok (.getfield 23, 3) := by decide +kernel
theorem dX4_isInOrder_58 : decode cX4_isInOrder 58 = .ok (.ifCond .lt 16, 3) := by decide +kernel
theorem dX4_isInOrder_61 : decode cX4_isInOrder 61 = .ok (.aload_n 0, 1) := by decide +kernel
theorem dX4_isInOrder_62 : decode cX4_isInOrder 62 = .ok (.getfield 23, 3) := by decide +kernel
theorem dX4_isInOrder_65 : decode cX4_isInOrder 65 = .ok (.bipush 9, 2) := by decide +kernel
theorem dX4_isInOrder_67 : decode cX4_isInOrder 67 = .ok (.if_icmp .gt 7, 3) := by decide +kernel
theorem dX4_isInOrder_70 : decode cX4_isInOrder 70 = .ok (.iconst 1, 1) := by decide +kernel
theorem dX4_isInOrder_71 : decode cX4_isInOrder 71 = .ok (.goto 4, 3) := by decide +kernel
theorem dX4_isInOrder_74 : decode cX4_isInOrder 74 = .ok (.iconst 0, 1) := by decide +kernel
theorem dX4_isInOrder_75 : decode cX4_isInOrder 75 = .ok (.ireturn, 1) := by decide +kernel
theorem dX5_init_0 : decode cX5_init 0 = .ok (.aload_n 0, 1) := by decide +kernel
theorem dX5_init_1 : decode cX5_init 1 = .ok (.invokespecial 1, 3) := by decide +kernel
theorem dX5_init_4 : decode cX5_init 4 = .ok (.aload_n 0, 1) := by decide +kernel
theorem dX5_init_5 : decode cX5_init 5 = .ok (.iconst 0, 1) := by decide +kernel
theorem dX5_init_6 : decode cX5_init 6 = .ok (.putfield 7, 3) := by decide +kernel
theorem dX5_init_9 : decode cX5_init 9 = .ok (.aload_n 0, 1) := by decide +kernel
theorem dX5_init_10 : decode cX5_init 10 = .ok (.iconst 0, 1) := by decide +kernel
theorem dX5_init_11 : decode cX5_init 11 = .ok (.putfield 13, 3) := by decide +kernel
theorem dX5_init_14 : decode cX5_init 14 = .ok (.aload_n 0, 1) := by decide +kernel
theorem dX5_init_15 : decode cX5_init 15 = .ok (.iload_n 1, 1) := by decide +kernel
theorem dX5_init_16 : decode cX5_init 16 = .ok (.putfield 16, 3) := by decide +kernel
theorem dX5_init_19 : decode cX5_init 19 = .ok (.aload_n 0, 1) := by decide +kernel
theorem dX5_init_20 : decode cX5_init 20 = .ok (.iload_n 2, 1) := by decide +kernel
theorem dX5_init_21 : decode cX5_init 21 = .ok (.putfield 19, 3) := by decide +kernel
theorem dX5_init_24 : decode cX5_init 24 = .ok (.return_, 1) := by decide +kernel
theorem dX6_init_0 : decode cX6_init 0 = .ok (.aload_n 0, 1) := by decide +kernel
theorem dX6_init_1 : decode cX6_init 1 = .ok (.invokespecial 3, 3) := by decide +kernel
theorem dX6_init_4 : decode cX6_init 4 = .ok (.aload_n 0, 1) := by decide +kernel
theorem dX6_init_5 : decode cX6_init 5 = .ok (.new 9, 3) := by decide +kernel
theorem dX6_init_8 : decode cX6_init 8 = .ok (.dup, 1) := by decide +kernel
theorem dX6_init_9 : decode cX6_init 9 = .ok (.invokespecial 11, 3) := by decide +kernel
theorem dX6_init_12 : decode cX6_init 12 = .ok (.putfield 12, 3) := by decide +kernel
theorem dX6_init_15 : decode cX6_init 15 = .ok (.return_, 1) := by decide +kernel
theorem dX6_holds_0 : decode cX6_holds 0 = .ok (.iload_n 0, 1) := by decide +kernel
theorem dX6_holds_1 : decode cX6_holds 1 = .ok (.iload_n 1, 1) := by decide +kernel
theorem dX6_holds_2 : decode cX6_holds 2 = .ok (.ishr, 1) := by decide +kernel
theorem dX6_holds_3 : decode cX6_holds 3 = .ok (.iconst 1, 1) := by decide +kernel
theorem dX6_holds_4 : decode cX6_holds 4 = .ok (.iand, 1) := by decide +kernel
theorem dX6_holds_5 : decode cX6_holds 5 = .ok (.ifCond .eq 7, 3) := by decide +kernel
theorem dX6_holds_8 : decode cX6_holds 8 = .ok (.iconst 1, 1) := by decide +kernel
theorem dX6_holds_9 : decode cX6_holds 9 = .ok (.goto 4, 3) := by decide +kernel
theorem dX6_holds_12 : decode cX6_holds 12 = .ok (.iconst 0, 1) := by decide +kernel
theorem dX6_holds_13 : decode cX6_holds 13 = .ok (.ireturn, 1) := by decide +kernel
theorem dX6_shareOut_0 : decode cX6_shareOut 0 = .ok (.iconst 5, 1) := by decide +kernel
theorem dX6_shareOut_1 : decode cX6_shareOut 1 = .ok (.istore_n 2, 1) := by decide +kernel
theorem dX6_shareOut_2 : decode cX6_shareOut 2 = .ok (.iconst 0, 1) := by decide +kernel
theorem dX6_shareOut_3 : decode cX6_shareOut 3 = .ok (.istore_n 3, 1) := by decide +kernel
theorem dX6_shareOut_4 : decode cX6_shareOut 4 = .ok (.iload_n 3, 1) := by decide +kernel
theorem dX6_shareOut_5 : decode cX6_shareOut 5 = .ok (.aload_n 0, 1) := by decide +kernel
theorem dX6_shareOut_6 : decode cX6_shareOut 6 = .ok (.getfield 12, 3) := by decide +kernel
theorem dX6_shareOut_9 : decode cX6_shareOut 9 = .ok (.invokevirtual 18, 3) := by decide +kernel
theorem dX6_shareOut_12 : decode cX6_shareOut 12 = .ok (.if_icmp .ge 26, 3) := by decide +kernel
theorem dX6_shareOut_15 : decode cX6_shareOut 15 = .ok (.iload_n 2, 1) := by decide +kernel
theorem dX6_shareOut_16 : decode cX6_shareOut 16 = .ok (.aload_n 0, 1) := by decide +kernel
theorem dX6_shareOut_17 : decode cX6_shareOut 17 = .ok (.getfield 12, 3) := by decide +kernel
theorem dX6_shareOut_20 : decode cX6_shareOut 20 = .ok (.iload_n 3, 1) := by decide +kernel
theorem dX6_shareOut_21 : decode cX6_shareOut 21 = .ok (.invokevirtual 22, 3) := by decide +kernel
theorem dX6_shareOut_24 : decode cX6_shareOut 24 = .ok (.checkcast 26, 3) := by decide +kernel
theorem dX6_shareOut_27 : decode cX6_shareOut 27 = .ok (.invokevirtual 28, 3) := by decide +kernel
theorem dX6_shareOut_30 : decode cX6_shareOut 30 = .ok (.iadd, 1) := by decide +kernel
theorem dX6_shareOut_31 : decode cX6_shareOut 31 = .ok (.istore_n 2, 1) := by decide +kernel
theorem dX6_shareOut_32 : decode cX6_shareOut 32 = .ok (.iinc 3 1, 3) := by decide +kernel
theorem dX6_shareOut_35 : decode cX6_shareOut 35 = .ok (.goto (-31), 3) := by decide +kernel
theorem dX6_shareOut_38 : decode cX6_shareOut 38 = .ok (.iload_n 1, 1) := by decide +kernel
theorem dX6_shareOut_39 : decode cX6_shareOut 39 = .ok (.istore_n 3, 1) := by decide +kernel
theorem dX6_shareOut_40 : decode cX6_shareOut 40 = .ok (.iconst 0, 1) := by decide +kernel
theorem dX6_shareOut_41 : decode cX6_shareOut 41 = .ok (.istore 4, 2) := by decide +kernel
theorem dX6_shareOut_43 : decode cX6_shareOut 43 = .ok (.iload 4, 2) := by decide +kernel
theorem dX6_shareOut_45 : decode cX6_shareOut 45 = .ok (.aload_n 0, 1) := by decide +kernel
theorem dX6_shareOut_46 : decode cX6_shareOut 46 = .ok (.getfield 12, 3) := by decide +kernel
theorem dX6_shareOut_49 : decode cX6_shareOut 49 = .ok (.invokevirtual 18, 3) := by decide +kernel
theorem dX6_shareOut_52 : decode cX6_shareOut 52 = .ok (.if_icmp .ge 55, 3) := by decide +kernel
theorem dX6_shareOut_55 : decode cX6_shareOut 55 = .ok (.aload_n 0, 1) := by decide +kernel
theorem dX6_shareOut_56 : decode cX6_shareOut 56 = .ok (.getfield 12, 3) := by decide +kernel
theorem dX6_shareOut_59 : decode cX6_shareOut 59 = .ok (.iload 4, 2) := by decide +kernel
theorem dX6_shareOut_61 : decode cX6_shareOut 61 = .ok (.invokevirtual 22, 3) := by decide +kernel
theorem dX6_shareOut_64 : decode cX6_shareOut 64 = .ok (.checkcast 26, 3) := by decide +kernel
theorem dX6_shareOut_67 : decode cX6_shareOut 67 = .ok (.astore 5, 2) := by decide +kernel
theorem dX6_shareOut_69 : decode cX6_shareOut 69 = .ok (.iload_n 1, 1) := by decide +kernel
theorem dX6_shareOut_70 : decode cX6_shareOut 70 = .ok (.i2l, 1) := by decide +kernel
theorem dX6_shareOut_71 : decode cX6_shareOut 71 = .ok (.aload 5, 2) := by decide +kernel
theorem dX6_shareOut_73 : decode cX6_shareOut 73 = .ok (.invokevirtual 28, 3) := by decide +kernel
theorem dX6_shareOut_76 : decode cX6_shareOut 76 = .ok (.i2l, 1) := by decide +kernel
theorem dX6_shareOut_77 : decode cX6_shareOut 77 = .ok (.lmul, 1) := by decide +kernel
theorem dX6_shareOut_78 : decode cX6_shareOut 78 = .ok (.iload_n 2, 1) := by decide +kernel
theorem dX6_shareOut_79 : decode cX6_shareOut 79 = .ok (.invokestatic 31, 3) := by decide +kernel
theorem dX6_shareOut_82 : decode cX6_shareOut 82 = .ok (.istore 6, 2) := by decide +kernel
theorem dX6_shareOut_84 : decode cX6_shareOut 84 = .ok (.aload 5, 2) := by decide +kernel
theorem dX6_shareOut_86 : decode cX6_shareOut 86 = .ok (.dup, 1) := by decide +kernel
theorem dX6_shareOut_87 : decode cX6_shareOut 87 = .ok (.getfield 35, 3) := by decide +kernel
theorem dX6_shareOut_90 : decode cX6_shareOut 90 = .ok (.iload 6, 2) := by decide +kernel
theorem dX6_shareOut_92 : decode cX6_shareOut 92 = .ok (.iadd, 1) := by decide +kernel
theorem dX6_shareOut_93 : decode cX6_shareOut 93 = .ok (.putfield 35, 3) := by decide +kernel
theorem dX6_shareOut_96 : decode cX6_shareOut 96 = .ok (.iload_n 3, 1) := by decide +kernel
theorem dX6_shareOut_97 : decode cX6_shareOut 97 = .ok (.iload 6, 2) := by decide +kernel
theorem dX6_shareOut_99 : decode cX6_shareOut 99 = .ok (.isub, 1) := by decide +kernel
theorem dX6_shareOut_100 : decode cX6_shareOut 100 = .ok (.istore_n 3, 1) := by decide +kernel
theorem dX6_shareOut_101 : decode cX6_shareOut 101 = .ok (.iinc 4 1, 3) := by decide +kernel
theorem dX6_shareOut_104 : decode cX6_shareOut 104 = .ok (.goto (-61), 3) := by decide +kernel
theorem dX6_shareOut_107 : decode cX6_shareOut 107 = .ok (.iload_n 3, 1) := by decide +kernel
theorem dX6_shareOut_108 : decode cX6_shareOut 108 = .ok (.ireturn, 1) := by decide +kernel
theorem dX6_cutShare_0 : decode cX6_cutShare 0 = .ok (.iload_n 2, 1) := by decide +kernel
theorem dX6_cutShare_1 : decode cX6_cutShare 1 = .ok (.ifCond .ne 7, 3) := by decide +kernel
theorem dX6_cutShare_4 : decode cX6_cutShare 4 = .ok (.iconst 0, 1) := by decide +kernel
theorem dX6_cutShare_5 : decode cX6_cutShare 5 = .ok (.goto 8, 3) := by decide +kernel
theorem dX6_cutShare_8 : decode cX6_cutShare 8 = .ok (.lload_n 0, 1) := by decide +kernel
theorem dX6_cutShare_9 : decode cX6_cutShare 9 = .ok (.iload_n 2, 1) := by decide +kernel
theorem dX6_cutShare_10 : decode cX6_cutShare 10 = .ok (.i2l, 1) := by decide +kernel
theorem dX6_cutShare_11 : decode cX6_cutShare 11 = .ok (.ldiv, 1) := by decide +kernel
theorem dX6_cutShare_12 : decode cX6_cutShare 12 = .ok (.l2i, 1) := by decide +kernel
theorem dX6_cutShare_13 : decode cX6_cutShare 13 = .ok (.ireturn, 1) := by decide +kernel
theorem dX6_cheapestPlan_0 : decode cX6_cheapestPlan 0 = .ok (.iconst 0, 1) := by decide +kernel
theorem dX6_cheapestPlan_1 : decode cX6_cheapestPlan 1 = .ok (.istore_n 2, 1) := by decide +kernel
theorem dX6_cheapestPlan_2 : decode cX6_cheapestPlan 2 = .ok (.iconst 1, 1) := by decide +kernel
theorem dX6_cheapestPlan_3 : decode cX6_cheapestPlan 3 = .ok (.aload_n 0, 1) := by decide +kernel
theorem dX6_cheapestPlan_4 : decode cX6_cheapestPlan 4 = .ok (.getfield 12, 3) := by decide +kernel
theorem dX6_cheapestPlan_7 : decode cX6_cheapestPlan 7 = .ok (.invokevirtual 18, 3) := by decide +kernel
theorem dX6_cheapestPlan_10 : decode cX6_cheapestPlan 10 = .ok (.ishl, 1) := by decide +kernel
theorem dX6_cheapestPlan_11 : decode cX6_cheapestPlan 11 = .ok (.istore_n 3, 1) := by decide +kernel
theorem dX6_cheapestPlan_12 : decode cX6_cheapestPlan 12 = .ok (.iconst 1, 1) := by decide +kernel
theorem dX6_cheapestPlan_13 : decode cX6_cheapestPlan 13 = .ok (.istore 4, 2) := by decide +kernel
theorem dX6_cheapestPlan_15 : decode cX6_cheapestPlan 15 = .ok (.iload 4, 2) := by decide +kernel
theorem dX6_cheapestPlan_17 : decode cX6_cheapestPlan 17 = .ok (.iload_n 3, 1) := by decide +kernel
theorem dX6_cheapestPlan_18 : decode cX6_cheapestPlan 18 = .ok (.if_icmp .ge 36, 3) := by decide +kernel
theorem dX6_cheapestPlan_21 : decode cX6_cheapestPlan 21 = .ok (.aload_n 0, 1) := by decide +kernel
theorem dX6_cheapestPlan_22 : decode cX6_cheapestPlan 22 = .ok (.iload 4, 2) := by decide +kernel
theorem dX6_cheapestPlan_24 : decode cX6_cheapestPlan 24 = .ok (.invokevirtual 39, 3) := by decide +kernel
theorem dX6_cheapestPlan_27 : decode cX6_cheapestPlan 27 = .ok (.iload_n 1, 1) := by decide +kernel
theorem dX6_cheapestPlan_28 : decode cX6_cheapestPlan 28 = .ok (.if_icmp .lt 20, 3) := by decide +kernel
theorem dX6_cheapestPlan_31 : decode cX6_cheapestPlan 31 = .ok (.iload_n 2, 1) := by decide +kernel
theorem dX6_cheapestPlan_32 : decode cX6_cheapestPlan 32 = .ok (.ifCond .eq 13, 3) := by decide +kernel
theorem dX6_cheapestPlan_35 : decode cX6_cheapestPlan 35 = .ok (.aload_n 0, 1) := by decide +kernel
theorem dX6_cheapestPlan_36 : decode cX6_cheapestPlan 36 = .ok (.iload 4, 2) := by decide +kernel
theorem dX6_cheapestPlan_38 : decode cX6_cheapestPlan 38 = .ok (.iload_n 2, 1) := by decide +kernel
theorem dX6_cheapestPlan_39 : decode cX6_cheapestPlan 39 = .ok (.invokevirtual 43, 3) := by decide +kernel
theorem dX6_cheapestPlan_42 : decode cX6_cheapestPlan 42 = .ok (.ifCond .eq 6, 3) := by decide +kernel
theorem dX6_cheapestPlan_45 : decode cX6_cheapestPlan 45 = .ok (.iload 4, 2) := by decide +kernel
theorem dX6_cheapestPlan_47 : decode cX6_cheapestPlan 47 = .ok (.istore_n 2, 1) := by decide +kernel
theorem dX6_cheapestPlan_48 : decode cX6_cheapestPlan 48 = .ok (.iinc 4 1, 3) := by decide +kernel
theorem dX6_cheapestPlan_51 : decode cX6_cheapestPlan 51 = .ok (.goto (-36), 3) := by decide +kernel
theorem dX6_cheapestPlan_54 : decode cX6_cheapestPlan 54 = .ok (.iload_n 2, 1) := by decide +kernel
theorem dX6_cheapestPlan_55 : decode cX6_cheapestPlan 55 = .ok (.ireturn, 1) := by decide +kernel
theorem dX6_priceOf_0 : decode cX6_priceOf 0 = .ok (.iconst 0, 1) := by decide +kernel
theorem dX6_priceOf_1 : decode cX6_priceOf 1 = .ok (.istore_n 2, 1) := by decide +kernel
theorem dX6_priceOf_2 : decode cX6_priceOf 2 = .ok (.iconst 0, 1) := by decide +kernel
theorem dX6_priceOf_3 : decode cX6_priceOf 3 = .ok (.istore_n 3, 1) := by decide +kernel
theorem dX6_priceOf_4 : decode cX6_priceOf 4 = .ok (.iload_n 3, 1) := by decide +kernel
theorem dX6_priceOf_5 : decode cX6_priceOf 5 = .ok (.aload_n 0, 1) := by decide +kernel
theorem dX6_priceOf_6 : decode cX6_priceOf 6 = .ok (.getfield 12, 3) := by decide +kernel
theorem dX6_priceOf_9 : decode cX6_priceOf 9 = .ok (.invokevirtual 18, 3) := by decide +kernel
theorem dX6_priceOf_12 : decode cX6_priceOf 12 = .ok (.if_icmp .ge 34, 3) := by decide +kernel
theorem dX6_priceOf_15 : decode cX6_priceOf 15 = .ok (.iload_n 1, 1) := by decide +kernel
theorem dX6_priceOf_16 : decode cX6_priceOf 16 = .ok (.iload_n 3, 1) := by decide +kernel
theorem dX6_priceOf_17 : decode cX6_priceOf 17 = .ok (.invokestatic 47, 3) := by decide +kernel
theorem dX6_priceOf_20 : decode cX6_priceOf 20 = .ok (.ifCond .eq 20, 3) := by decide +kernel
theorem dX6_priceOf_23 : decode cX6_priceOf 23 = .ok (.iload_n 2, 1) := by decide +kernel
theorem dX6_priceOf_24 : decode cX6_priceOf 24 = .ok (.aload_n 0, 1) := by decide +kernel
theorem dX6_priceOf_25 : decode cX6_priceOf 25 = .ok (.getfield 12, 3) := by decide +kernel
theorem dX6_priceOf_28 : decode cX6_priceOf 28 = .ok (.iload_n 3, 1) := by decide +kernel
theorem dX6_priceOf_29 : decode cX6_priceOf 29 = .ok (.invokevirtual 22, 3) := by decide +kernel
theorem dX6_priceOf_32 : decode cX6_priceOf 32 = .ok (.checkcast 26, 3) := by decide +kernel
theorem dX6_priceOf_35 : decode cX6_priceOf 35 = .ok (.getfield 50, 3) := by decide +kernel
theorem dX6_priceOf_38 : decode cX6_priceOf 38 = .ok (.iadd, 1) := by decide +kernel
theorem dX6_priceOf_39 : decode cX6_priceOf 39 = .ok (.istore_n 2, 1) := by decide +kernel
theorem dX6_priceOf_40 : decode cX6_priceOf 40 = .ok (.iinc 3 1, 3) := by decide +kernel
theorem dX6_priceOf_43 : decode cX6_priceOf 43 = .ok (.goto (-39), 3) := by decide +kernel
theorem dX6_priceOf_46 : decode cX6_priceOf 46 = .ok (.iload_n 2, 1) := by decide +kernel
theorem dX6_priceOf_47 : decode cX6_priceOf 47 = .ok (.ireturn, 1) := by decide +kernel
theorem dX6_strengthOf_0 : decode cX6_strengthOf 0 = .ok (.iconst 0, 1) := by decide +kernel
theorem dX6_strengthOf_1 : decode cX6_strengthOf 1 = .ok (.istore_n 2, 1) := by decide +kernel
theorem dX6_strengthOf_2 : decode cX6_strengthOf 2 = .ok (.iconst 0, 1) := by decide +kernel
theorem dX6_strengthOf_3 : decode cX6_strengthOf 3 = .ok (.istore_n 3, 1) := by decide +kernel
theorem dX6_strengthOf_4 : decode cX6_strengthOf 4 = .ok (.iload_n 3, 1) := by decide +kernel
theorem dX6_strengthOf_5 : decode cX6_strengthOf 5 = .ok (.aload_n 0, 1) := by decide +kernel
theorem dX6_strengthOf_6 : decode cX6_strengthOf 6 = .ok (.getfield 12, 3) := by decide +kernel
theorem dX6_strengthOf_9 : decode cX6_strengthOf 9 = .ok (.invokevirtual 18, 3) := by decide +kernel
theorem dX6_strengthOf_12 : decode cX6_strengthOf 12 = .ok (.if_icmp .ge 34, 3) := by decide +kernel
theorem dX6_strengthOf_15 : decode cX6_strengthOf 15 = .ok (.iload_n 1, 1) := by decide +kernel
theorem dX6_strengthOf_16 : decode cX6_strengthOf 16 = .ok (.iload_n 3, 1) := by decide +kernel
theorem dX6_strengthOf_17 : decode cX6_strengthOf 17 = .ok (.invokestatic 47, 3) := by decide +kernel
theorem dX6_strengthOf_20 : decode cX6_strengthOf 20 = .ok (.ifCond .eq 20, 3) := by decide +kernel
theorem dX6_strengthOf_23 : decode cX6_strengthOf 23 = .ok (.iload_n 2, 1) := by decide +kernel
theorem dX6_strengthOf_24 : decode cX6_strengthOf 24 = .ok (.aload_n 0, 1) := by decide +kernel
theorem dX6_strengthOf_25 : decode cX6_strengthOf 25 = .ok (.getfield 12, 3) := by decide +kernel
theorem dX6_strengthOf_28 : decode cX6_strengthOf 28 = .ok (.iload_n 3, 1) := by decide +kernel
theorem dX6_strengthOf_29 : decode cX6_strengthOf 29 = .ok (.invokevirtual 22, 3) := by decide +kernel
theorem dX6_strengthOf_32 : decode cX6_strengthOf 32 = .ok (.checkcast 26, 3) := by decide +kernel
theorem dX6_strengthOf_35 : decode cX6_strengthOf 35 = .ok (.getfield 53, 3) := by decide +kernel
theorem dX6_strengthOf_38 : decode cX6_strengthOf 38 = .ok (.iadd, 1) := by decide +kernel
theorem dX6_strengthOf_39 : decode cX6_strengthOf 39 = .ok (.istore_n 2, 1) := by decide +kernel
theorem dX6_strengthOf_40 : decode cX6_strengthOf 40 = .ok (.iinc 3 1, 3) := by decide +kernel
theorem dX6_strengthOf_43 : decode cX6_strengthOf 43 = .ok (.goto (-39), 3) := by decide +kernel
theorem dX6_strengthOf_46 : decode cX6_strengthOf 46 = .ok (.iload_n 2, 1) := by decide +kernel
theorem dX6_strengthOf_47 : decode cX6_strengthOf 47 = .ok (.ireturn, 1) := by decide +kernel
theorem dX6_isBetter_0 : decode cX6_isBetter 0 = .ok (.aload_n 0, 1) := by decide +kernel
theorem dX6_isBetter_1 : decode cX6_isBetter 1 = .ok (.iload_n 1, 1) := by decide +kernel
theorem dX6_isBetter_2 : decode cX6_isBetter 2 = .ok (.invokevirtual 56, 3) := by decide +kernel
theorem dX6_isBetter_5 : decode cX6_isBetter 5 = .ok (.istore_n 3, 1) := by decide +kernel
theorem dX6_isBetter_6 : decode cX6_isBetter 6 = .ok (.aload_n 0, 1) := by decide +kernel
theorem dX6_isBetter_7 : decode cX6_isBetter 7 = .ok (.iload_n 2, 1) := by decide +kernel
theorem dX6_isBetter_8 : decode cX6_isBetter 8 = .ok (.invokevirtual 56, 3) := by decide +kernel
theorem dX6_isBetter_11 : decode cX6_isBetter 11 = .ok (.istore 4, 2) := by decide +kernel
theorem dX6_isBetter_13 : decode cX6_isBetter 13 = .ok (.iload_n 3, 1) := by decide +kernel
theorem dX6_isBetter_14 : decode cX6_isBetter 14 = .ok (.iload 4, 2) := by decide +kernel
theorem dX6_isBetter_16 : decode cX6_isBetter 16 = .ok (.if_icmp .eq 15, 3) := by decide +kernel
theorem dX6_isBetter_19 : decode cX6_isBetter 19 = .ok (.iload_n 3, 1) := by decide +kernel
theorem dX6_isBetter_20 : decode cX6_isBetter 20 = .ok (.iload 4, 2) := by decide +kernel
theorem dX6_isBetter_22 : decode cX6_isBetter 22 = .ok (.if_icmp .ge 7, 3) := by decide +kernel
theorem dX6_isBetter_25 : decode cX6_isBetter 25 = .ok (.iconst 1, 1) := by decide +kernel
theorem dX6_isBetter_26 : decode cX6_isBetter 26 = .ok (.goto 4, 3) := by decide +kernel
theorem dX6_isBetter_29 : decode cX6_isBetter 29 = .ok (.iconst 0, 1) := by decide +kernel
theorem dX6_isBetter_30 : decode cX6_isBetter 30 = .ok (.ireturn, 1) := by decide +kernel
theorem dX6_isBetter_31 : decode cX6_isBetter 31 = .ok (.iload_n 1, 1) := by decide +kernel
theorem dX6_isBetter_32 : decode cX6_isBetter 32 = .ok (.invokestatic 59, 3) := by decide +kernel
theorem dX6_isBetter_35 : decode cX6_isBetter 35 = .ok (.istore 5, 2) := by decide +kernel
theorem dX6_isBetter_37 : decode cX6_isBetter 37 = .ok (.iload_n 2, 1) := by decide +kernel
theorem dX6_isBetter_38 : decode cX6_isBetter 38 = .ok (.invokestatic 59, 3) := by decide +kernel
theorem dX6_isBetter_41 : decode cX6_isBetter 41 = .ok (.istore 6, 2) := by decide +kernel
theorem dX6_isBetter_43 : decode cX6_isBetter 43 = .ok (.iload 5, 2) := by decide +kernel
theorem dX6_isBetter_45 : decode cX6_isBetter 45 = .ok (.iload 6, 2) := by decide +kernel
theorem dX6_isBetter_47 : decode cX6_isBetter 47 = .ok (.if_icmp .eq 16, 3) := by decide +kernel
theorem dX6_isBetter_50 : decode cX6_isBetter 50 = .ok (.iload 5, 2) := by decide +kernel
theorem dX6_isBetter_52 : decode cX6_isBetter 52 = .ok (.iload 6, 2) := by decide +kernel
theorem dX6_isBetter_54 : decode cX6_isBetter 54 = .ok (.if_icmp .ge 7, 3) := by decide +kernel
theorem dX6_isBetter_57 : decode cX6_isBetter 57 = .ok (.iconst 1, 1) := by decide +kernel
theorem dX6_isBetter_58 : decode cX6_isBetter 58 = .ok (.goto 4, 3) := by decide +kernel
theorem dX6_isBetter_61 : decode cX6_isBetter 61 = .ok (.iconst 0, 1) := by decide +kernel
theorem dX6_isBetter_62 : decode cX6_isBetter 62 = .ok (.ireturn, 1) := by decide +kernel
theorem dX6_isBetter_63 : decode cX6_isBetter 63 = .ok (.iload_n 1, 1) := by decide +kernel
theorem dX6_isBetter_64 : decode cX6_isBetter 64 = .ok (.iload_n 2, 1) := by decide +kernel
theorem dX6_isBetter_65 : decode cX6_isBetter 65 = .ok (.ixor, 1) := by decide +kernel
theorem dX6_isBetter_66 : decode cX6_isBetter 66 = .ok (.istore 7, 2) := by decide +kernel
theorem dX6_isBetter_68 : decode cX6_isBetter 68 = .ok (.iload_n 1, 1) := by decide +kernel
theorem dX6_isBetter_69 : decode cX6_isBetter 69 = .ok (.iload 7, 2) := by decide +kernel
theorem dX6_isBetter_71 : decode cX6_isBetter 71 = .ok (.iand, 1) := by decide +kernel
theorem dX6_isBetter_72 : decode cX6_isBetter 72 = .ok (.iload 7, 2) := by decide +kernel
theorem dX6_isBetter_74 : decode cX6_isBetter 74 = .ok (.ineg, 1) := by decide +kernel
theorem dX6_isBetter_75 : decode cX6_isBetter 75 = .ok (.iand, 1) := by decide +kernel
theorem dX6_isBetter_76 : decode cX6_isBetter 76 = .ok (.ifCond .eq 7, 3) := by decide +kernel
theorem dX6_isBetter_79 : decode cX6_isBetter 79 = .ok (.iconst 1, 1) := by decide +kernel
theorem dX6_isBetter_80 : decode cX6_isBetter 80 = .ok (.goto 4, 3) := by decide +kernel
theorem dX6_isBetter_83 : decode cX6_isBetter 83 = .ok (.iconst 0, 1) := by decide +kernel
theorem dX6_isBetter_84 : decode cX6_isBetter 84 = .ok (.ireturn, 1) := by decide +kernel
theorem dX6_isInOrder_0 : decode cX6_isInOrder 0 = .ok (.iconst 0, 1) := by decide +kernel
theorem dX6_isInOrder_1 : decode cX6_isInOrder 1 = .ok (.istore_n 1, 1) := by decide +kernel
theorem dX6_isInOrder_2 : decode cX6_isInOrder 2 = .ok (.iload_n 1, 1) := by decide +kernel
theorem dX6_isInOrder_3 : decode cX6_isInOrder 3 = .ok (.aload_n 0, 1) := by decide +kernel
theorem dX6_isInOrder_4 : decode cX6_isInOrder 4 = .ok (.getfield 12, 3) := by decide +kernel
theorem dX6_isInOrder_7 : decode cX6_isInOrder 7 = .ok (.invokevirtual 18, 3) := by decide +kernel
theorem dX6_isInOrder_10 : decode cX6_isInOrder 10 = .ok (.if_icmp .ge 41, 3) := by decide +kernel
theorem dX6_isInOrder_13 : decode cX6_isInOrder 13 = .ok (.aload_n 0, 1) := by decide +kernel
theorem dX6_isInOrder_14 : decode cX6_isInOrder 14 = .ok (.getfield 12, 3) := by decide +kernel
theorem dX6_isInOrder_17 : decode cX6_isInOrder 17 = .ok (.iload_n 1, 1) := by decide +kernel
theorem dX6_isInOrder_18 : decode cX6_isInOrder 18 = .ok (.invokevirtual 22, 3) := by decide +kernel
theorem dX6_isInOrder_21 : decode cX6_isInOrder 21 = .ok (.checkcast 26, 3) := by decide +kernel
theorem dX6_isInOrder_24 : decode cX6_isInOrder 24 = .ok (.astore_n 2, 1) := by decide +kernel
theorem dX6_isInOrder_25 : decode cX6_isInOrder 25 = .ok (.aload_n 2, 1) := by decide +kernel
theorem dX6_isInOrder_26 : decode cX6_isInOrder 26 = .ok (.getfield 64, 3) := by decide +kernel
theorem dX6_isInOrder_29 : decode cX6_isInOrder 29 = .ok (.ifnull 16, 3) := by decide +kernel
theorem dX6_isInOrder_32 : decode cX6_isInOrder 32 = .ok (.aload_n 2, 1) := by decide +kernel
theorem dX6_isInOrder_33 : decode cX6_isInOrder 33 = .ok (.getfield 64, 3) := by decide +kernel
theorem dX6_isInOrder_36 : decode cX6_isInOrder 36 = .ok (.getfield 68, 3) := by decide +kernel
theorem dX6_isInOrder_39 : decode cX6_isInOrder 39 = .ok (.aload_n 2, 1) := by decide +kernel
theorem dX6_isInOrder_40 : decode cX6_isInOrder 40 = .ok (.if_acmp .eq 5, 3) := by decide +kernel
theorem dX6_isInOrder_43 : decode cX6_isInOrder 43 = .ok (.iconst 0, 1) := by decide +kernel
theorem dX6_isInOrder_44 : decode cX6_isInOrder 44 = .ok (.ireturn, 1) := by decide +kernel
theorem dX6_isInOrder_45 : decode cX6_isInOrder 45 = .ok (.iinc 1 1, 3) := by decide +kernel
theorem dX6_isInOrder_48 : decode cX6_isInOrder 48 = .ok (.goto (-46), 3) := by decide +kernel
theorem dX6_isInOrder_51 : decode cX6_isInOrder 51 = .ok (.iconst 1, 1) := by decide +kernel
theorem dX6_isInOrder_52 : decode cX6_isInOrder 52 = .ok (.ireturn, 1) := by decide +kernel
