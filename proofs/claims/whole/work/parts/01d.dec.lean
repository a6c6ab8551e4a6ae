theorem dX0_init_0 : decode cX0_init 0 = .ok (.aload_n 0, 1) := by decide +kernel
theorem dX0_init_1 : decode cX0_init 1 = .ok (.invokespecial 1, 3) := by decide +kernel
theorem dX0_init_4 : decode cX0_init 4 = .ok (.aload_n 0, 1) := by decide +kernel
theorem dX0_init_5 : decode cX0_init 5 = .ok (.new 7, 3) := by decide +kernel
theorem dX0_init_8 : decode cX0_init 8 = .ok (.dup, 1) := by decide +kernel
theorem dX0_init_9 : decode cX0_init 9 = .ok (.invokespecial 9, 3) := by decide +kernel
theorem dX0_init_12 : decode cX0_init 12 = .ok (.putfield 10, 3) := by decide +kernel
theorem dX0_init_15 : decode cX0_init 15 = .ok (.aload_n 0, 1) := by decide +kernel
theorem dX0_init_16 : decode cX0_init 16 = .ok (.iconst 0, 1) := by decide +kernel
theorem dX0_init_17 : decode cX0_init 17 = .ok (.putfield 16, 3) := by decide +kernel
theorem dX0_init_20 : decode cX0_init 20 = .ok (.aload_n 0, 1) := by decide +kernel
theorem dX0_init_21 : decode cX0_init 21 = .ok (.iload_n 1, 1) := by decide +kernel
theorem dX0_init_22 : decode cX0_init 22 = .ok (.putfield 20, 3) := by decide +kernel
theorem dX0_init_25 : decode cX0_init 25 = .ok (.return_, 1) := by decide +kernel
theorem dX0_keys_0 : decode cX0_keys 0 = .ok (.aload_n 0, 1) := by decide +kernel
theorem dX0_keys_1 : decode cX0_keys 1 = .ok (.getfield 10, 3) := by decide +kernel
theorem dX0_keys_4 : decode cX0_keys 4 = .ok (.areturn, 1) := by decide +kernel
theorem dX0_hitCount_0 : decode cX0_hitCount 0 = .ok (.aload_n 0, 1) := by decide +kernel
theorem dX0_hitCount_1 : decode cX0_hitCount 1 = .ok (.getfield 16, 3) := by decide +kernel
theorem dX0_hitCount_4 : decode cX0_hitCount 4 = .ok (.ireturn, 1) := by decide +kernel
theorem dX0_ask_0 : decode cX0_ask 0 = .ok (.aload_n 0, 1) := by decide +kernel
theorem dX0_ask_1 : decode cX0_ask 1 = .ok (.getfield 10, 3) := by decide +kernel
theorem dX0_ask_4 : decode cX0_ask 4 = .ok (.iload_n 1, 1) := by decide +kernel
theorem dX0_ask_5 : decode cX0_ask 5 = .ok (.invokevirtual 23, 3) := by decide +kernel
theorem dX0_ask_8 : decode cX0_ask 8 = .ok (.istore_n 2, 1) := by decide +kernel
theorem dX0_ask_9 : decode cX0_ask 9 = .ok (.iload_n 2, 1) := by decide +kernel
theorem dX0_ask_10 : decode cX0_ask 10 = .ok (.ifCond .eq 13, 3) := by decide +kernel
theorem dX0_ask_13 : decode cX0_ask 13 = .ok (.aload_n 0, 1) := by decide +kernel
theorem dX0_ask_14 : decode cX0_ask 14 = .ok (.dup, 1) := by decide +kernel
theorem dX0_ask_15 : decode cX0_ask 15 = .ok (.getfield 16, 3) := by decide +kernel
theorem dX0_ask_18 : decode cX0_ask 18 = .ok (.iconst 1, 1) := by decide +kernel
theorem dX0_ask_19 : decode cX0_ask 19 = .ok (.iadd, 1) := by decide +kernel
theorem dX0_ask_20 : decode cX0_ask 20 = .ok (.putfield 16, 3) := by decide +kernel
theorem dX0_ask_23 : decode cX0_ask 23 = .ok (.aload_n 0, 1) := by decide +kernel
theorem dX0_ask_24 : decode cX0_ask 24 = .ok (.getfield 10, 3) := by decide +kernel
theorem dX0_ask_27 : decode cX0_ask 27 = .ok (.aload_n 0, 1) := by decide +kernel
theorem dX0_ask_28 : decode cX0_ask 28 = .ok (.getfield 20, 3) := by decide +kernel
theorem dX0_ask_31 : decode cX0_ask 31 = .ok (.invokevirtual 27, 3) := by decide +kernel
theorem dX0_ask_34 : decode cX0_ask 34 = .ok (.pop, 1) := by decide +kernel
theorem dX0_ask_35 : decode cX0_ask 35 = .ok (.iload_n 2, 1) := by decide +kernel
theorem dX0_ask_36 : decode cX0_ask 36 = .ok (.ireturn, 1) := by decide +kernel
theorem dX0_restart_0 : decode cX0_restart 0 = .ok (.aload_n 0, 1) := by decide +kernel
theorem dX0_restart_1 : decode cX0_restart 1 = .ok (.getfield 10, 3) := by decide +kernel
theorem dX0_restart_4 : decode cX0_restart 4 = .ok (.invokevirtual 31, 3) := by decide +kernel
theorem dX0_restart_7 : decode cX0_restart 7 = .ok (.aload_n 0, 1) := by decide +kernel
theorem dX0_restart_8 : decode cX0_restart 8 = .ok (.iconst 0, 1) := by decide +kernel
theorem dX0_restart_9 : decode cX0_restart 9 = .ok (.putfield 16, 3) := by decide +kernel
theorem dX0_restart_12 : decode cX0_restart 12 = .ok (.return_, 1) := by decide +kernel
theorem dX1_init_0 : decode cX1_init 0 = .ok (.aload_n 0, 1) := by decide +kernel
theorem dX1_init_1 : decode cX1_init 1 = .ok (.invokespecial 1, 3) := by decide +kernel
theorem dX1_init_4 : decode cX1_init 4 = .ok (.aload_n 0, 1) := by decide +kernel
theorem dX1_init_5 : decode cX1_init 5 = .ok (.iconst 0, 1) := by decide +kernel
theorem dX1_init_6 : decode cX1_init 6 = .ok (.putfield 7, 3) := by decide +kernel
theorem dX1_init_9 : decode cX1_init 9 = .ok (.aload_n 0, 1) := by decide +kernel
theorem dX1_init_10 : decode cX1_init 10 = .ok (.iconst 0, 1) := by decide +kernel
theorem dX1_init_11 : decode cX1_init 11 = .ok (.putfield 13, 3) := by decide +kernel
theorem dX1_init_14 : decode cX1_init 14 = .ok (.aload_n 0, 1) := by decide +kernel
theorem dX1_init_15 : decode cX1_init 15 = .ok (.iconst 0, 1) := by decide +kernel
theorem dX1_init_16 : decode cX1_init 16 = .ok (.putfield 17, 3) := by decide +kernel
theorem dX1_init_19 : decode cX1_init 19 = .ok (.return_, 1) := by decide +kernel
theorem dX1_begin_0 : decode cX1_begin 0 = .ok (.aload_n 0, 1) := by decide +kernel
theorem dX1_begin_1 : decode cX1_begin 1 = .ok (.iconst 1, 1) := by decide +kernel
theorem dX1_begin_2 : decode cX1_begin 2 = .ok (.putfield 7, 3) := by decide +kernel
theorem dX1_begin_5 : decode cX1_begin 5 = .ok (.aload_n 0, 1) := by decide +kernel
theorem dX1_begin_6 : decode cX1_begin 6 = .ok (.iconst 0, 1) := by decide +kernel
theorem dX1_begin_7 : decode cX1_begin 7 = .ok (.putfield 13, 3) := by decide +kernel
theorem dX1_begin_10 : decode cX1_begin 10 = .ok (.aload_n 0, 1) := by decide +kernel
theorem dX1_begin_11 : decode cX1_begin 11 = .ok (.iconst 0, 1) := by decide +kernel
theorem dX1_begin_12 : decode cX1_begin 12 = .ok (.putfield 17, 3) := by decide +kernel
theorem dX1_begin_15 : decode cX1_begin 15 = .ok (.return_, 1) := by decide +kernel
theorem dX1_end_0 : decode cX1_end 0 = .ok (.aload_n 0, 1) := by decide +kernel
theorem dX1_end_1 : decode cX1_end 1 = .ok (.iconst 0, 1) := by decide +kernel
theorem dX1_end_2 : decode cX1_end 2 = .ok (.putfield 7, 3) := by decide +kernel
theorem dX1_end_5 : decode cX1_end 5 = .ok (.return_, 1) := by decide +kernel
theorem dX1_isBegun_0 : decode cX1_isBegun 0 = .ok (.aload_n 0, 1) := by decide +kernel
theorem dX1_isBegun_1 : decode cX1_isBegun 1 = .ok (.getfield 7, 3) := by decide +kernel
theorem dX1_isBegun_4 : decode cX1_isBegun 4 = .ok (.ireturn, 1) := by decide +kernel
theorem dX1_isAheadOf_0 : decode cX1_isAheadOf 0 = .ok (.aload_n 0, 1) := by decide +kernel
theorem dX1_isAheadOf_1 : decode cX1_isAheadOf 1 = .ok (.getfield 7, 3) := by decide +kernel
theorem dX1_isAheadOf_4 : decode cX1_isAheadOf 4 = .ok (.ifCond .eq 15, 3) := by decide +kernel
theorem dX1_isAheadOf_7 : decode cX1_isAheadOf 7 = .ok (.aload_n 0, 1) := by decide +kernel
theorem dX1_isAheadOf_8 : decode cX1_isAheadOf 8 = .ok (.getfield 13, 3) := by decide +kernel
theorem dX1_isAheadOf_11 : decode cX1_isAheadOf 11 = .ok (.iload_n 1, 1) := by decide +kernel
theorem dX1_isAheadOf_12 : decode cX1_isAheadOf 12 = .ok (.if_icmp .ge 7, 3) := by decide +kernel
theorem dX1_isAheadOf_15 : decode cX1_isAheadOf 15 = .ok (.iconst 1, 1) := by decide +kernel
theorem dX1_isAheadOf_16 : decode cX1_isAheadOf 16 = .ok (.goto 4, 3) := by decide +kernel
theorem dX1_isAheadOf_19 : decode cX1_isAheadOf 19 = .ok (.iconst 0, 1) := by decide +kernel
theorem dX1_isAheadOf_20 : decode cX1_isAheadOf 20 = .ok (.ireturn, 1) := by decide +kernel
theorem dX1_canTake_0 : decode cX1_canTake 0 = .ok (.aload_n 0, 1) := by decide +kernel
theorem dX1_canTake_1 : decode cX1_canTake 1 = .ok (.getfield 7, 3) := by decide +kernel
theorem dX1_canTake_4 : decode cX1_canTake 4 = .ok (.ifCond .eq 14, 3) := by decide +kernel
theorem dX1_canTake_7 : decode cX1_canTake 7 = .ok (.aload_n 0, 1) := by decide +kernel
theorem dX1_canTake_8 : decode cX1_canTake 8 = .ok (.getfield 17, 3) := by decide +kernel
theorem dX1_canTake_11 : decode cX1_canTake 11 = .ok (.ifCond .eq 7, 3) := by decide +kernel
theorem dX1_canTake_14 : decode cX1_canTake 14 = .ok (.iconst 1, 1) := by decide +kernel
theorem dX1_canTake_15 : decode cX1_canTake 15 = .ok (.goto 4, 3) := by decide +kernel
theorem dX1_canTake_18 : decode cX1_canTake 18 = .ok (.iconst 0, 1) := by decide +kernel
theorem dX1_canTake_19 : decode cX1_canTake 19 = .ok (.ireturn, 1) := by decide +kernel
theorem dX1_advance_0 : decode cX1_advance 0 = .ok (.aload_n 0, 1) := by decide +kernel
theorem dX1_advance_1 : decode cX1_advance 1 = .ok (.getfield 13, 3) := by decide +kernel
theorem dX1_advance_4 : decode cX1_advance 4 = .ok (.istore_n 1, 1) := by decide +kernel
theorem dX1_advance_5 : decode cX1_advance 5 = .ok (.aload_n 0, 1) := by decide +kernel
theorem dX1_advance_6 : decode cX1_advance 6 = .ok (.dup, 1) := by decide +kernel
theorem dX1_advance_7 : decode cX1_advance 7 = .ok (.getfield 13, 3) := by decide +kernel
theorem dX1_advance_10 : decode cX1_advance 10 = .ok (.iconst 1, 1) := by decide +kernel
theorem dX1_advance_11 : decode cX1_advance 11 = .ok (.iadd, 1) := by decide +kernel
theorem dX1_advance_12 : decode cX1_advance 12 = .ok (.putfield 13, 3) := by decide +kernel
theorem dX1_advance_15 : decode cX1_advance 15 = .ok (.aload_n 0, 1) := by decide +kernel
theorem dX1_advance_16 : decode cX1_advance 16 = .ok (.iconst 1, 1) := by decide +kernel
theorem dX1_advance_17 : decode cX1_advance 17 = .ok (.putfield 17, 3) := by decide +kernel
theorem dX1_advance_20 : decode cX1_advance 20 = .ok (.iload_n 1, 1) := by decide +kernel
theorem dX1_advance_21 : decode cX1_advance 21 = .ok (.ireturn, 1) := by decide +kernel
theorem dX1_stepBack_0 : decode cX1_stepBack 0 = .ok (.aload_n 0, 1) := by decide +kernel
theorem dX1_stepBack_1 : decode cX1_stepBack 1 = .ok (.dup, 1) := by decide +kernel
theorem dX1_stepBack_2 : decode cX1_stepBack 2 = .ok (.getfield 13, 3) := by decide +kernel
theorem dX1_stepBack_5 : decode cX1_stepBack 5 = .ok (.iconst 1, 1) := by decide +kernel
theorem dX1_stepBack_6 : decode cX1_stepBack 6 = .ok (.isub, 1) := by decide +kernel
theorem dX1_stepBack_7 : decode cX1_stepBack 7 = .ok (.putfield 13, 3) := by decide +kernel
theorem dX1_stepBack_10 : decode cX1_stepBack 10 = .ok (.aload_n 0, 1) := by decide +kernel
theorem dX1_stepBack_11 : decode cX1_stepBack 11 = .ok (.iconst 0, 1) := by decide +kernel
theorem dX1_stepBack_12 : decode cX1_stepBack 12 = .ok (.putfield 17, 3) := by decide +kernel
theorem dX1_stepBack_15 : decode cX1_stepBack 15 = .ok (.aload_n 0, 1) := by decide +kernel
theorem dX1_stepBack_16 : decode cX1_stepBack 16 = .ok (.getfield 13, 3) := by decide +kernel
theorem dX1_stepBack_19 : decode cX1_stepBack 19 = .ok (.ireturn, 1) := by decide +kernel
theorem dX2_init_0 : decode cX2_init 0 = .ok (.aload_n 0, 1) := by decide +kernel
theorem dX2_init_1 : decode cX2_init 1 = .ok (.invokespecial 3, 3) := by decide +kernel
theorem dX2_init_4 : decode cX2_init 4 = .ok (.aload_n 0, 1) := by decide +kernel
theorem dX2_init_5 : decode cX2_init 5 = .ok (.bipush 64, 2) := by decide +kernel
theorem dX2_init_7 : decode cX2_init 7 = .ok (.newarray .int, 2) := by decide +kernel
theorem dX2_init_9 : decode cX2_init 9 = .ok (.putfield 9, 3) := by decide +kernel
theorem dX2_init_12 : decode cX2_init 12 = .ok (.aload_n 0, 1) := by decide +kernel
theorem dX2_init_13 : decode cX2_init 13 = .ok (.bipush 64, 2) := by decide +kernel
theorem dX2_init_15 : decode cX2_init 15 = .ok (.newarray .int, 2) := by decide +kernel
theorem dX2_init_17 : decode cX2_init 17 = .ok (.putfield 15, 3) := by decide +kernel
theorem dX2_init_20 : decode cX2_init 20 = .ok (.aload_n 0, 1) := by decide +kernel
theorem dX2_init_21 : decode cX2_init 21 = .ok (.bipush 16, 2) := by decide +kernel
theorem dX2_init_23 : decode cX2_init 23 = .ok (.newarray .boolean, 2) := by decide +kernel
theorem dX2_init_25 : decode cX2_init 25 = .ok (.putfield 18, 3) := by decide +kernel
theorem dX2_init_28 : decode cX2_init 28 = .ok (.aload_n 0, 1) := by decide +kernel
theorem dX2_init_29 : decode cX2_init 29 = .ok (.new 22, 3) := by decide +kernel
theorem dX2_init_32 : decode cX2_init 32 = .ok (.dup, 1) := by decide +kernel
theorem dX2_init_33 : decode cX2_init 33 = .ok (.invokespecial 24, 3) := by decide +kernel
theorem dX2_init_36 : decode cX2_init 36 = .ok (.putfield 25, 3) := by decide +kernel
theorem dX2_init_39 : decode cX2_init 39 = .ok (.aload_n 0, 1) := by decide +kernel
theorem dX2_init_40 : decode cX2_init 40 = .ok (.iconst 2, 1) := by decide +kernel
theorem dX2_init_41 : decode cX2_init 41 = .ok (.putfield 29, 3) := by decide +kernel
theorem dX2_init_44 : decode cX2_init 44 = .ok (.aload_n 0, 1) := by decide +kernel
theorem dX2_init_45 : decode cX2_init 45 = .ok (.iconst 0, 1) := by decide +kernel
theorem dX2_init_46 : decode cX2_init 46 = .ok (.putfield 33, 3) := by decide +kernel
theorem dX2_init_49 : decode cX2_init 49 = .ok (.aload_n 0, 1) := by decide +kernel
theorem dX2_init_50 : decode cX2_init 50 = .ok (.iconst 0, 1) := by decide +kernel
theorem dX2_init_51 : decode cX2_init 51 = .ok (.putfield 36, 3) := by decide +kernel
theorem dX2_init_54 : decode cX2_init 54 = .ok (.aload_n 0, 1) := by decide +kernel
theorem dX2_init_55 : decode cX2_init 55 = .ok (.iconst 0, 1) := by decide +kernel
theorem dX2_init_56 : decode cX2_init 56 = .ok (.putfield 39, 3) := by decide +kernel
theorem dX2_init_59 : decode cX2_init 59 = .ok (.iconst 0, 1) := by decide +kernel
theorem dX2_init_60 : decode cX2_init 60 = .ok (.istore_n 1, 1) := by decide +kernel
theorem dX2_init_61 : decode cX2_init 61 = .ok (.iload_n 1, 1) := by decide +kernel
theorem dX2_init_62 : decode cX2_init 62 = .ok (.bipush 64, 2) := by decide +kernel
theorem dX2_init_64 : decode cX2_init 64 = .ok (.if_icmp .ge 16, 3) := by decide +kernel
theorem dX2_init_67 : decode cX2_init 67 = .ok (.aload_n 0, 1) := by decide +kernel
theorem dX2_init_68 : decode cX2_init 68 = .ok (.getfield 9, 3) := by decide +kernel
theorem dX2_init_71 : decode cX2_init 71 = .ok (.iload_n 1, 1) := by decide +kernel
theorem dX2_init_72 : decode cX2_init 72 = .ok (.iload_n 1, 1) := by decide +kernel
theorem dX2_init_73 : decode cX2_init 73 = .ok (.iastore, 1) := by decide +kernel
theorem dX2_init_74 : decode cX2_init 74 = .ok (.iinc 1 1, 3) := by decide +kernel
theorem dX2_init_77 : decode cX2_init 77 = .ok (.goto (-16), 3) := by decide +kernel
theorem dX2_init_80 : decode cX2_init 80 = .ok (.return_, 1) := by decide +kernel
theorem dX2_pages_0 : decode cX2_pages 0 = .ok (.aload_n 0, 1) := by decide +kernel
theorem dX2_pages_1 : decode cX2_pages 1 = .ok (.getfield 25, 3) := by decide +kernel
theorem dX2_pages_4 : decode cX2_pages 4 = .ok (.areturn, 1) := by decide +kernel
theorem dX2_accumulated_0 : decode cX2_accumulated 0 = .ok (.aload_n 0, 1) := by decide +kernel
theorem dX2_accumulated_1 : decode cX2_accumulated 1 = .ok (.getfield 33, 3) := by decide +kernel
theorem dX2_accumulated_4 : decode cX2_accumulated 4 = .ok (.ireturn, 1) := by decide +kernel
theorem dX2_faultCount_0 : decode cX2_faultCount 0 = .ok (.aload_n 0, 1) := by decide +kernel
theorem dX2_faultCount_1 : decode cX2_faultCount 1 = .ok (.getfield 36, 3) := by decide +kernel
theorem dX2_faultCount_4 : decode cX2_faultCount 4 = .ok (.ireturn, 1) := by decide +kernel
theorem dX2_writeCount_0 : decode cX2_writeCount 0 = .ok (.aload_n 0, 1) := by decide +kernel
theorem dX2_writeCount_1 : decode cX2_writeCount 1 = .ok (.getfield 39, 3) := by decide +kernel
theorem dX2_writeCount_4 : decode cX2_writeCount 4 = .ok (.ireturn, 1) := by decide +kernel
theorem dX2_hasChanged_0 : decode cX2_hasChanged 0 = .ok (.iload_n 1, 1) := by decide +kernel
theorem dX2_hasChanged_1 : decode cX2_hasChanged 1 = .ok (.ifCond .lt 22, 3) := by decide +kernel
theorem dX2_hasChanged_4 : decode cX2_hasChanged 4 = .ok (.iload_n 1, 1) := by decide +kernel
theorem dX2_hasChanged_5 : decode cX2_hasChanged 5 = .ok (.bipush 16, 2) := by decide +kernel
theorem dX2_hasChanged_7 : decode cX2_hasChanged 7 = .ok (.if_icmp .ge 16, 3) := by decide +kernel
theorem dX2_hasChanged_10 : decode cX2_hasChanged 10 = .ok (.aload_n 0, 1) := by decide +kernel
theorem dX2_hasChanged_11 : decode cX2_hasChanged 11 = .ok (.getfield 18, 3) := by decide +kernel
theorem dX2_hasChanged_14 : decode cX2_hasChanged 14 = .ok (.iload_n 1, 1) := by decide +kernel
theorem dX2_hasChanged_15 : decode cX2_hasChanged 15 = .ok (.baload, 1) := by decide +kernel
theorem dX2_hasChanged_16 : decode cX2_hasChanged 16 = .ok (.ifCond .eq 7, 3) := by decide +kernel
theorem dX2_hasChanged_19 : decode cX2_hasChanged 19 = .ok (.iconst 1, 1) := by decide +kernel
theorem dX2_hasChanged_20 : decode cX2_hasChanged 20 = .ok (.goto 4, 3) := by decide +kernel
theorem dX2_hasChanged_23 : decode cX2_hasChanged 23 = .ok (.iconst 0, 1) := by decide +kernel
theorem dX2_hasChanged_24 : decode cX2_hasChanged 24 = .ok (.ireturn, 1) := by decide +kernel
theorem dX2_discIn_0 : decode cX2_discIn 0 = .ok (.iload_n 1, 1) := by decide +kernel
theorem dX2_discIn_1 : decode cX2_discIn 1 = .ok (.ifCond .lt 18, 3) := by decide +kernel
theorem dX2_discIn_4 : decode cX2_discIn 4 = .ok (.iload_n 1, 1) := by decide +kernel
theorem dX2_discIn_5 : decode cX2_discIn 5 = .ok (.bipush 64, 2) := by decide +kernel
theorem dX2_discIn_7 : decode cX2_discIn 7 = .ok (.if_icmp .ge 12, 3) := by decide +kernel
theorem dX2_discIn_10 : decode cX2_discIn 10 = .ok (.aload_n 0, 1) := by decide +kernel
theorem dX2_discIn_11 : decode cX2_discIn 11 = .ok (.getfield 9, 3) := by decide +kernel
theorem dX2_discIn_14 : decode cX2_discIn 14 = .ok (.iload_n 1, 1) := by decide +kernel
theorem dX2_discIn_15 : decode cX2_discIn 15 = .ok (.iaload, 1) := by decide +kernel
theorem dX2_discIn_16 : decode cX2_discIn 16 = .ok (.goto 4, 3) := by decide +kernel
theorem dX2_discIn_19 : decode cX2_discIn 19 = .ok (.iconst 0, 1) := by decide +kernel
theorem dX2_discIn_20 : decode cX2_discIn 20 = .ok (.ireturn, 1) := by decide +kernel
theorem dX2_wordIn_0 : decode cX2_wordIn 0 = .ok (.iload_n 1, 1) := by decide +kernel
theorem dX2_wordIn_1 : decode cX2_wordIn 1 = .ok (.ifCond .lt 9, 3) := by decide +kernel
theorem dX2_wordIn_4 : decode cX2_wordIn 4 = .ok (.iload_n 1, 1) := by decide +kernel
theorem dX2_wordIn_5 : decode cX2_wordIn 5 = .ok (.bipush 64, 2) := by decide +kernel
theorem dX2_wordIn_7 : decode cX2_wordIn 7 = .ok (.if_icmp .lt 5, 3) := by decide +kernel
theorem dX2_wordIn_10 : decode cX2_wordIn 10 = .ok (.iconst 0, 1) := by decide +kernel
theorem dX2_wordIn_11 : decode cX2_wordIn 11 = .ok (.ireturn, 1) := by decide +kernel
theorem dX2_wordIn_12 : decode cX2_wordIn 12 = .ok (.aload_n 0, 1) := by decide +kernel
theorem dX2_wordIn_13 : decode cX2_wordIn 13 = .ok (.getfield 25, 3) := by decide +kernel
theorem dX2_wordIn_16 : decode cX2_wordIn 16 = .ok (.iload_n 1, 1) := by decide +kernel
theorem dX2_wordIn_17 : decode cX2_wordIn 17 = .ok (.iconst 4, 1) := by decide +kernel
theorem dX2_wordIn_18 : decode cX2_wordIn 18 = .ok (.idiv, 1) := by decide +kernel
theorem dX2_wordIn_19 : decode cX2_wordIn 19 = .ok (.invokevirtual 42, 3) := by decide +kernel
theorem dX2_wordIn_22 : decode cX2_wordIn 22 = .ok (.ifCond .eq 12, 3) := by decide +kernel
theorem dX2_wordIn_25 : decode cX2_wordIn 25 = .ok (.aload_n 0, 1) := by decide +kernel
theorem dX2_wordIn_26 : decode cX2_wordIn 26 = .ok (.getfield 15, 3) := by decide +kernel
theorem dX2_wordIn_29 : decode cX2_wordIn 29 = .ok (.iload_n 1, 1) := by decide +kernel
theorem dX2_wordIn_30 : decode cX2_wordIn 30 = .ok (.iaload, 1) := by decide +kernel
theorem dX2_wordIn_31 : decode cX2_wordIn 31 = .ok (.goto 9, 3) := by decide +kernel
theorem dX2_wordIn_34 : decode cX2_wordIn 34 = .ok (.aload_n 0, 1) := by decide +kernel
theorem dX2_wordIn_35 : decode cX2_wordIn 35 = .ok (.getfield 9, 3) := by decide +kernel
theorem dX2_wordIn_38 : decode cX2_wordIn 38 = .ok (.iload_n 1, 1) := by decide +kernel
theorem dX2_wordIn_39 : decode cX2_wordIn 39 = .ok (.iaload, 1) := by decide +kernel
theorem dX2_wordIn_40 : decode cX2_wordIn 40 = .ok (.ireturn, 1) := by decide +kernel
theorem dX2_perform_0 : decode cX2_perform 0 = .ok (.iload_n 1, 1) := by decide +kernel
theorem dX2_perform_1 : decode cX2_perform 1 = .ok (.bipush 99, 2) := by decide +kernel
theorem dX2_perform_3 : decode cX2_perform 3 = .ok (.if_icmp .ne 9, 3) := by decide +kernel
theorem dX2_perform_6 : decode cX2_perform 6 = .ok (.aload_n 0, 1) := by decide +kernel
theorem dX2_perform_7 : decode cX2_perform 7 = .ok (.iload_n 2, 1) := by decide +kernel
theorem dX2_perform_8 : decode cX2_perform 8 = .ok (.putfield 33, 3) := by decide +kernel
theorem dX2_perform_11 : decode cX2_perform 11 = .ok (.return_, 1) := by decide +kernel
theorem dX2_perform_12 : decode cX2_perform 12 = .ok (.aload_n 0, 1) := by decide +kernel
theorem dX2_perform_13 : decode cX2_perform 13 = .ok (.iload_n 2, 1) := by decide +kernel
theorem dX2_perform_14 : decode cX2_perform 14 = .ok (.iconst 4, 1) := by decide +kernel
theorem dX2_perform_15 : decode cX2_perform 15 = .ok (.idiv, 1) := by decide +kernel
theorem dX2_perform_16 : decode cX2_perform 16 = .ok (.invokevirtual 46, 3) := by decide +kernel
theorem dX2_perform_19 : decode cX2_perform 19 = .ok (.iload_n 1, 1) := by decide +kernel
theorem dX2_perform_20 : decode cX2_perform 20 = .ok (.bipush 108, 2) := by decide +kernel
theorem dX2_perform_22 : decode cX2_perform 22 = .ok (.if_icmp .ne 15, 3) := by decide +kernel
theorem dX2_perform_25 : decode cX2_perform 25 = .ok (.aload_n 0, 1) := by decide +kernel
theorem dX2_perform_26 : decode cX2_perform 26 = .ok (.aload_n 0, 1) := by decide +kernel
theorem dX2_perform_27 : decode cX2_perform 27 = .ok (.iload_n 2, 1) := by decide +kernel
theorem dX2_perform_28 : decode cX2_perform 28 = .ok (.invokevirtual 50, 3) := by decide +kernel
theorem dX2_perform_31 : decode cX2_perform 31 = .ok (.putfield 33, 3) := by decide +kernel
theorem dX2_perform_34 : decode cX2_perform 34 = .ok (.goto 35, 3) := by decide +kernel
theorem dX2_perform_37 : decode cX2_perform 37 = .ok (.iload_n 1, 1) := by decide +kernel
theorem dX2_perform_38 : decode cX2_perform 38 = .ok (.bipush 97, 2) := by decide +kernel
theorem dX2_perform_40 : decode cX2_perform 40 = .ok (.if_icmp .ne 20, 3) := by decide +kernel
theorem dX2_perform_43 : decode cX2_perform 43 = .ok (.aload_n 0, 1) := by decide +kernel
theorem dX2_perform_44 : decode cX2_perform 44 = .ok (.dup, 1) := by decide +kernel
theorem dX2_perform_45 : decode cX2_perform 45 = .ok (.getfield 33, 3) := by decide +kernel
theorem dX2_perform_48 : decode cX2_perform 48 = .ok (.aload_n 0, 1) := by decide +kernel
theorem dX2_perform_49 : decode cX2_perform 49 = .ok (.iload_n 2, 1) := by decide +kernel
theorem dX2_perform_50 : decode cX2_perform 50 = .ok (.invokevirtual 50, 3) := by decide +kernel
theorem dX2_perform_53 : decode cX2_perform 53 = .ok (.iadd, 1) := by decide +kernel
theorem dX2_perform_54 : decode cX2_perform 54 = .ok (.putfield 33, 3) := by decide +kernel
theorem dX2_perform_57 : decode cX2_perform 57 = .ok (.goto 12, 3) := by decide +kernel
theorem dX2_perform_60 : decode cX2_perform 60 = .ok (.aload_n 0, 1) := by decide +kernel
theorem dX2_perform_61 : decode cX2_perform 61 = .ok (.iload_n 2, 1) := by decide +kernel
theorem dX2_perform_62 : decode cX2_perform 62 = .ok (.aload_n 0, 1) := by decide +kernel
theorem dX2_perform_63 : decode cX2_perform 63 = .ok (.getfield 33, 3) := by decide +kernel
theorem dX2_perform_66 : decode cX2_perform 66 = .ok (.invokevirtual 54, 3) := by decide +kernel
theorem dX2_perform_69 : decode cX2_perform 69 = .ok (.return_, 1) := by decide +kernel
theorem dX2_changeFrames_0 : decode cX2_changeFrames 0 = .ok (.aload_n 0, 1) := by decide +kernel
theorem dX2_changeFrames_1 : decode cX2_changeFrames 1 = .ok (.invokevirtual 58, 3) := by decide +kernel
theorem dX2_changeFrames_4 : decode cX2_changeFrames 4 = .ok (.istore_n 2, 1) := by decide +kernel
theorem dX2_changeFrames_5 : decode cX2_changeFrames 5 = .ok (.aload_n 0, 1) := by decide +kernel
theorem dX2_changeFrames_6 : decode cX2_changeFrames 6 = .ok (.getfield 25, 3) := by decide +kernel
theorem dX2_changeFrames_9 : decode cX2_changeFrames 9 = .ok (.invokevirtual 62, 3) := by decide +kernel
theorem dX2_changeFrames_12 : decode cX2_changeFrames 12 = .ok (.aload_n 0, 1) := by decide +kernel
theorem dX2_changeFrames_13 : decode cX2_changeFrames 13 = .ok (.iload_n 1, 1) := by decide +kernel
theorem dX2_changeFrames_14 : decode cX2_changeFrames 14 = .ok (.putfield 29, 3) := by decide +kernel
theorem dX2_changeFrames_17 : decode cX2_changeFrames 17 = .ok (.iload_n 2, 1) := by decide +kernel
theorem dX2_changeFrames_18 : decode cX2_changeFrames 18 = .ok (.ireturn, 1) := by decide +kernel
theorem dX2_writeAll_0 : decode cX2_writeAll 0 = .ok (.aload_n 0, 1) := by decide +kernel
theorem dX2_writeAll_1 : decode cX2_writeAll 1 = .ok (.getfield 39, 3) := by decide +kernel
theorem dX2_writeAll_4 : decode cX2_writeAll 4 = .ok (.istore_n 1, 1) := by decide +kernel
theorem dX2_writeAll_5 : decode cX2_writeAll 5 = .ok (.iconst 0, 1) := by decide +kernel
theorem dX2_writeAll_6 : decode cX2_writeAll 6 = .ok (.istore_n 2, 1) := by decide +kernel
theorem dX2_writeAll_7 : decode cX2_writeAll 7 = .ok (.iload_n 2, 1) := by decide +kernel
theorem dX2_writeAll_8 : decode cX2_writeAll 8 = .ok (.bipush 16, 2) := by decide +kernel
theorem dX2_writeAll_10 : decode cX2_writeAll 10 = .ok (.if_icmp .ge 14, 3) := by decide +kernel
theorem dX2_writeAll_13 : decode cX2_writeAll 13 = .ok (.aload_n 0, 1) := by decide +kernel
theorem dX2_writeAll_14 : decode cX2_writeAll 14 = .ok (.iload_n 2, 1) := by decide +kernel
theorem dX2_writeAll_15 : decode cX2_writeAll 15 = .ok (.invokevirtual 65, 3) := by decide +kernel
theorem dX2_writeAll_18 : decode cX2_writeAll 18 = .ok (.iinc 2 1, 3) := by decide +kernel
theorem dX2_writeAll_21 : decode cX2_writeAll 21 = .ok (.goto (-14), 3) := by decide +kernel
theorem dX2_writeAll_24 : decode cX2_writeAll 24 = .ok (.aload_n 0, 1) := by decide +kernel
theorem dX2_writeAll_25 : decode cX2_writeAll 25 = .ok (.getfield 39, 3) := by decide +kernel
theorem dX2_writeAll_28 : decode cX2_writeAll 28 = .ok (.iload_n 1, 1) := by decide +kernel
theorem dX2_writeAll_29 : decode cX2_writeAll 29 = .ok (.isub, 1) := by decide +kernel
theorem dX2_writeAll_30 : decode cX2_writeAll 30 = .ok (.ireturn, 1) := by decide +kernel
theorem dX2_access_0 : decode cX2_access 0 = .ok (.aload_n 0, 1) := by decide +kernel
theorem dX2_access_1 : decode cX2_access 1 = .ok (.getfield 25, 3) := by decide +kernel
theorem dX2_access_4 : decode cX2_access 4 = .ok (.iload_n 1, 1) := by decide +kernel
theorem dX2_access_5 : decode cX2_access 5 = .ok (.invokevirtual 68, 3) := by decide +kernel
theorem dX2_access_8 : decode cX2_access 8 = .ok (.ifCond .ne 25, 3) := by decide +kernel
theorem dX2_access_11 : decode cX2_access 11 = .ok (.aload_n 0, 1) := by decide +kernel
theorem dX2_access_12 : decode cX2_access 12 = .ok (.dup, 1) := by decide +kernel
theorem dX2_access_13 : decode cX2_access 13 = .ok (.getfield 36, 3) := by decide +kernel
theorem dX2_access_16 : decode cX2_access 16 = .ok (.iconst 1, 1) := by decide +kernel
theorem dX2_access_17 : decode cX2_access 17 = .ok (.iadd, 1) := by decide +kernel
theorem dX2_access_18 : decode cX2_access 18 = .ok (.putfield 36, 3) := by decide +kernel
theorem dX2_access_21 : decode cX2_access 21 = .ok (.iload_n 1, 1) := by decide +kernel
theorem dX2_access_22 : decode cX2_access 22 = .ok (.aload_n 0, 1) := by decide +kernel
theorem dX2_access_23 : decode cX2_access 23 = .ok (.getfield 9, 3) := by decide +kernel
theorem dX2_access_26 : decode cX2_access 26 = .ok (.aload_n 0, 1) := by decide +kernel
theorem dX2_access_27 : decode cX2_access 27 = .ok (.getfield 15, 3) := by decide +kernel
theorem dX2_access_30 : decode cX2_access 30 = .ok (.invokestatic 71, 3) := by decide +kernel
theorem dX2_access_33 : decode cX2_access 33 = .ok (.aload_n 0, 1) := by decide +kernel
theorem dX2_access_34 : decode cX2_access 34 = .ok (.aload_n 0, 1) := by decide +kernel
theorem dX2_access_35 : decode cX2_access 35 = .ok (.getfield 25, 3) := by decide +kernel
theorem dX2_access_38 : decode cX2_access 38 = .ok (.aload_n 0, 1) := by decide +kernel
theorem dX2_access_39 : decode cX2_access 39 = .ok (.getfield 29, 3) := by decide +kernel
theorem dX2_access_42 : decode cX2_access 42 = .ok (.invokevirtual 75, 3) := by decide +kernel
theorem dX2_access_45 : decode cX2_access 45 = .ok (.invokevirtual 65, 3) := by decide +kernel
theorem dX2_access_48 : decode cX2_access 48 = .ok (.return_, 1) := by decide +kernel
theorem dX2_storeWord_0 : decode cX2_storeWord 0 = .ok (.iload_n 1, 1) := by decide +kernel
theorem dX2_storeWord_1 : decode cX2_storeWord 1 = .ok (.ifCond .lt 25, 3) := by decide +kernel
theorem dX2_storeWord_4 : decode cX2_storeWord 4 = .ok (.iload_n 1, 1) := by decide +kernel
theorem dX2_storeWord_5 : decode cX2_storeWord 5 = .ok (.bipush 64, 2) := by decide +kernel
theorem dX2_storeWord_7 : decode cX2_storeWord 7 = .ok (.if_icmp .ge 19, 3) := by decide +kernel
theorem dX2_storeWord_10 : decode cX2_storeWord 10 = .ok (.aload_n 0, 1) := by decide +kernel
theorem dX2_storeWord_11 : decode cX2_storeWord 11 = .ok (.getfield 15, 3) := by decide +kernel
theorem dX2_storeWord_14 : decode cX2_storeWord 14 = .ok (.iload_n 1, 1) := by decide +kernel
theorem dX2_storeWord_15 : decode cX2_storeWord 15 = .ok (.iload_n 2, 1) := by decide +kernel
theorem dX2_storeWord_16 : decode cX2_storeWord 16 = .ok (.iastore, 1) := by decide +kernel
theorem dX2_storeWord_17 : decode cX2_storeWord 17 = .ok (.aload_n 0, 1) := by decide +kernel
theorem dX2_storeWord_18 : decode cX2_storeWord 18 = .ok (.getfield 18, 3) := by decide +kernel
theorem dX2_storeWord_21 : decode cX2_storeWord 21 = .ok (.iload_n 1, 1) := by decide +kernel
theorem dX2_storeWord_22 : decode cX2_storeWord 22 = .ok (.iconst 4, 1) := by decide +kernel
theorem dX2_storeWord_23 : decode cX2_storeWord 23 = .ok (.idiv, 1) := by decide +kernel
theorem dX2_storeWord_24 : decode cX2_storeWord 24 = .ok (.iconst 1, 1) := by decide +kernel
theorem dX2_storeWord_25 : decode cX2_storeWord 25 = .ok (.bastore, 1) := by decide +kernel
theorem dX2_storeWord_26 : decode cX2_storeWord 26 = .ok (.return_, 1) := by decide +kernel
theorem dX2_writeIfDirty_0 : decode cX2_writeIfDirty 0 = .ok (.aload_n 0, 1) := by decide +kernel
theorem dX2_writeIfDirty_1 : decode cX2_writeIfDirty 1 = .ok (.iload_n 1, 1) := by decide +kernel
theorem dX2_writeIfDirty_2 : decode cX2_writeIfDirty 2 = .ok (.invokevirtual 78, 3) := by decide +kernel
theorem dX2_writeIfDirty_5 : decode cX2_writeIfDirty 5 = .ok (.ifCond .eq 32, 3) := by decide +kernel
theorem dX2_writeIfDirty_8 : decode cX2_writeIfDirty 8 = .ok (.iload_n 1, 1) := by decide +kernel
theorem dX2_writeIfDirty_9 : decode cX2_writeIfDirty 9 = .ok (.aload_n 0, 1) := by decide +kernel
theorem dX2_writeIfDirty_10 : decode cX2_writeIfDirty 10 = .ok (.getfield 15, 3) := by decide +kernel
theorem dX2_writeIfDirty_13 : decode cX2_writeIfDirty 13 = .ok (.aload_n 0, 1) := by decide +kernel
theorem dX2_writeIfDirty_14 : decode cX2_writeIfDirty 14 = .ok (.getfield 9, 3) := by decide +kernel
theorem dX2_writeIfDirty_17 : decode cX2_writeIfDirty 17 = .ok (.invokestatic 71, 3) := by decide +kernel
theorem dX2_writeIfDirty_20 : decode cX2_writeIfDirty 20 = .ok (.aload_n 0, 1) := by decide +kernel
theorem dX2_writeIfDirty_21 : decode cX2_writeIfDirty 21 = .ok (.getfield 18, 3) := by decide +kernel
theorem dX2_writeIfDirty_24 : decode cX2_writeIfDirty 24 = .ok (.iload_n 1, 1) := by decide +kernel
theorem dX2_writeIfDirty_25 : decode cX2_writeIfDirty 25 = .ok (.iconst 0, 1) := by decide +kernel
theorem dX2_writeIfDirty_26 : decode cX2_writeIfDirty 26 = .ok (.bastore, 1) := by decide +kernel
theorem dX2_writeIfDirty_27 : decode cX2_writeIfDirty 27 = .ok (.aload_n 0, 1) := by decide +kernel
theorem dX2_writeIfDirty_28 : decode cX2_writeIfDirty 28 = .ok (.dup, 1) := by decide +kernel
theorem dX2_writeIfDirty_29 : decode cX2_writeIfDirty 29 = .ok (.getfield 39, 3) := by decide +kernel
theorem dX2_writeIfDirty_32 : decode cX2_writeIfDirty 32 = .ok (.iconst 1, 1) := by decide +kernel
theorem dX2_writeIfDirty_33 : decode cX2_writeIfDirty 33 = .ok (.iadd, 1) := by decide +kernel
theorem dX2_writeIfDirty_34 : decode cX2_writeIfDirty 34 = .ok (.putfield 39, 3) := by decide +kernel
theorem dX2_writeIfDirty_37 : decode cX2_writeIfDirty 37 = .ok (.return_, 1) := by decide +kernel
theorem dX2_copyPage_0 : decode cX2_copyPage 0 = .ok (.iload_n 0, 1) := by decide +kernel
theorem dX2_copyPage_1 : decode cX2_copyPage 1 = .ok (.ifCond .lt 9, 3) := by decide +kernel
theorem dX2_copyPage_4 : decode cX2_copyPage 4 = .ok (.iload_n 0, 1) := by decide +kernel
theorem dX2_copyPage_5 : decode cX2_copyPage 5 = .ok (.bipush 16, 2) := by decide +kernel
theorem dX2_copyPage_7 : decode cX2_copyPage 7 = .ok (.if_icmp .lt 4, 3) := by decide +kernel
theorem dX2_copyPage_10 : decode cX2_copyPage 10 = .ok (.return_, 1) := by decide +kernel
theorem dX2_copyPage_11 : decode cX2_copyPage 11 = .ok (.iconst 4, 1) := by decide +kernel
theorem dX2_copyPage_12 : decode cX2_copyPage 12 = .ok (.iload_n 0, 1) := by decide +kernel
theorem dX2_copyPage_13 : decode cX2_copyPage 13 = .ok (.imul, 1) := by decide +kernel
theorem dX2_copyPage_14 : decode cX2_copyPage 14 = .ok (.istore_n 3, 1) := by decide +kernel
theorem dX2_copyPage_15 : decode cX2_copyPage 15 = .ok (.iload_n 3, 1) := by decide +kernel
theorem dX2_copyPage_16 : decode cX2_copyPage 16 = .ok (.iconst 4, 1) := by decide +kernel
theorem dX2_copyPage_17 : decode cX2_copyPage 17 = .ok (.iload_n 0, 1) := by decide +kernel
theorem dX2_copyPage_18 : decode cX2_copyPage 18 = .ok (.iconst 1, 1) := by decide +kernel
theorem dX2_copyPage_19 : decode cX2_copyPage 19 = .ok (.iadd, 1) := by decide +kernel
theorem dX2_copyPage_20 : decode cX2_copyPage 20 = .ok (.imul, 1) := by decide +kernel
theorem dX2_copyPage_21 : decode cX2_copyPage 21 = .ok (.if_icmp .ge 15, 3) := by decide +kernel
theorem dX2_copyPage_24 : decode cX2_copyPage 24 = .ok (.aload_n 2, 1) := by decide +kernel
theorem dX2_copyPage_25 : decode cX2_copyPage 25 = .ok (.iload_n 3, 1) := by decide +kernel
theorem dX2_copyPage_26 : decode cX2_copyPage 26 = .ok (.aload_n 1, 1) := by decide +kernel
theorem dX2_copyPage_27 : decode cX2_copyPage 27 = .ok (.iload_n 3, 1) := by decide +kernel
theorem dX2_copyPage_28 : decode cX2_copyPage 28 = .ok (.iaload, 1) := by decide +kernel
theorem dX2_copyPage_29 : decode cX2_copyPage 29 = .ok (.iastore, 1) := by decide +kernel
theorem dX2_copyPage_30 : decode cX2_copyPage 30 = .ok (.iinc 3 1, 3) := by decide +kernel
theorem dX2_copyPage_33 : decode cX2_copyPage 33 = .ok (.goto (-18), 3) := by decide +kernel
theorem dX2_copyPage_36 : decode cX2_copyPage 36 = .ok (.return_, 1) := by decide +kernel
theorem dX3_init_0 : decode cX3_init 0 = .ok (.aload_n 0, 1) := by decide +kernel
theorem dX3_init_1 : decode cX3_init 1 = .ok (.invokespecial 3, 3) := by decide +kernel
theorem dX3_init_4 : decode cX3_init 4 = .ok (.aload_n 0, 1) := by decide +kernel
theorem dX3_init_5 : decode cX3_init 5 = .ok (.sipush 200, 3) := by decide +kernel
theorem dX3_init_8 : decode cX3_init 8 = .ok (.newarray .int, 2) := by decide +kernel
theorem dX3_init_10 : decode cX3_init 10 = .ok (.putfield 9, 3) := by decide +kernel
theorem dX3_init_13 : decode cX3_init 13 = .ok (.aload_n 0, 1) := by decide +kernel
theorem dX3_init_14 : decode cX3_init 14 = .ok (.sipush 200, 3) := by decide +kernel
theorem dX3_init_17 : decode cX3_init 17 = .ok (.newarray .int, 2) := by decide +kernel
theorem dX3_init_19 : decode cX3_init 19 = .ok (.putfield 15, 3) := by decide +kernel
theorem dX3_init_22 : decode cX3_init 22 = .ok (.aload_n 0, 1) := by decide +kernel
theorem dX3_init_23 : decode cX3_init 23 = .ok (.iconst 0, 1) := by decide +kernel
theorem dX3_init_24 : decode cX3_init 24 = .ok (.putfield 18, 3) := by decide +kernel
theorem dX3_init_27 : decode cX3_init 27 = .ok (.aload_n 0, 1) := by decide +kernel
theorem dX3_init_28 : decode cX3_init 28 = .ok (.iconst 4, 1) := by decide +kernel
theorem dX3_init_29 : decode cX3_init 29 = .ok (.newarray .int, 2) := by decide +kernel
theorem dX3_init_31 : decode cX3_init 31 = .ok (.putfield 22, 3) := by decide +kernel
theorem dX3_init_34 : decode cX3_init 34 = .ok (.aload_n 0, 1) := by decide +kernel
theorem dX3_init_35 : decode cX3_init 35 = .ok (.iconst 4, 1) := by decide +kernel
theorem dX3_init_36 : decode cX3_init 36 = .ok (.newarray .int, 2) := by decide +kernel
theorem dX3_init_38 : decode cX3_init 38 = .ok (.putfield 25, 3) := by decide +kernel
theorem dX3_init_41 : decode cX3_init 41 = .ok (.aload_n 0, 1) := by decide +kernel
theorem dX3_init_42 : decode cX3_init 42 = .ok (.iconst 0, 1) := by decide +kernel
theorem dX3_init_43 : decode cX3_init 43 = .ok (.putfield 28, 3) := by decide +kernel
theorem dX3_init_46 : decode cX3_init 46 = .ok (.return_, 1) := by decide +kernel
theorem dX3_restart_0 : decode cX3_restart 0 = .ok (.aload_n 0, 1) := by decide +kernel
theorem dX3_restart_1 : decode cX3_restart 1 = .ok (.iconst 0, 1) := by decide +kernel
theorem dX3_restart_2 : decode cX3_restart 2 = .ok (.putfield 18, 3) := by decide +kernel
theorem dX3_restart_5 : decode cX3_restart 5 = .ok (.aload_n 0, 1) := by decide +kernel
theorem dX3_restart_6 : decode cX3_restart 6 = .ok (.iconst 0, 1) := by decide +kernel
theorem dX3_restart_7 : decode cX3_restart 7 = .ok (.putfield 28, 3) := by decide +kernel
theorem dX3_restart_10 : decode cX3_restart 10 = .ok (.return_, 1) := by decide +kernel
theorem dX3_length_0 : decode cX3_length 0 = .ok (.aload_n 0, 1) := by decide +kernel
theorem dX3_length_1 : decode cX3_length 1 = .ok (.getfield 18, 3) := by decide +kernel
theorem dX3_length_4 : decode cX3_length 4 = .ok (.ireturn, 1) := by decide +kernel
theorem dX3_letterIn_0 : decode cX3_letterIn 0 = .ok (.iload_n 1, 1) := by decide +kernel
theorem dX3_letterIn_1 : decode cX3_letterIn 1 = .ok (.ifCond .lt 20, 3) := by decide +kernel
theorem dX3_letterIn_4 : decode cX3_letterIn 4 = .ok (.iload_n 1, 1) := by decide +kernel
theorem dX3_letterIn_5 : decode cX3_letterIn 5 = .ok (.aload_n 0, 1) := by decide +kernel
theorem dX3_letterIn_6 : decode cX3_letterIn 6 = .ok (.getfield 18, 3) := by decide +kernel
theorem dX3_letterIn_9 : decode cX3_letterIn 9 = .ok (.if_icmp .ge 12, 3) := by decide +kernel
theorem dX3_letterIn_12 : decode cX3_letterIn 12 = .ok (.aload_n 0, 1) := by decide +kernel
theorem dX3_letterIn_13 : decode cX3_letterIn 13 = .ok (.getfield 9, 3) := by decide +kernel
theorem dX3_letterIn_16 : decode cX3_letterIn 16 = .ok (.iload_n 1, 1) := by decide +kernel
theorem dX3_letterIn_17 : decode cX3_letterIn 17 = .ok (.iaload, 1) := by decide +kernel
theorem dX3_letterIn_18 : decode cX3_letterIn 18 = .ok (.goto 4, 3) := by decide +kernel
theorem dX3_letterIn_21 : decode cX3_letterIn 21 = .ok (.iconst (-1), 1) := by decide +kernel
theorem dX3_letterIn_22 : decode cX3_letterIn 22 = .ok (.ireturn, 1) := by decide +kernel
theorem dX3_numberIn_0 : decode cX3_numberIn 0 = .ok (.iload_n 1, 1) := by decide +kernel
theorem dX3_numberIn_1 : decode cX3_numberIn 1 = .ok (.ifCond .lt 20, 3) := by decide +kernel
theorem dX3_numberIn_4 : decode cX3_numberIn 4 = .ok (.iload_n 1, 1) := by decide +kernel
theorem dX3_numberIn_5 : decode cX3_numberIn 5 = .ok (.aload_n 0, 1) := by decide +kernel
theorem dX3_numberIn_6 : decode cX3_numberIn 6 = .ok (.getfield 18, 3) := by decide +kernel
theorem dX3_numberIn_9 : decode cX3_numberIn 9 = .ok (.if_icmp .ge 12, 3) := by decide +kernel
theorem dX3_numberIn_12 : decode cX3_numberIn 12 = .ok (.aload_n 0, 1) := by decide +kernel
theorem dX3_numberIn_13 : decode cX3_numberIn 13 = .ok (.getfield 15, 3) := by decide +kernel
theorem dX3_numberIn_16 : decode cX3_numberIn 16 = .ok (.iload_n 1, 1) := by decide +kernel
theorem dX3_numberIn_17 : decode cX3_numberIn 17 = .ok (.iaload, 1) := by decide +kernel
theorem dX3_numberIn_18 : decode cX3_numberIn 18 = .ok (.goto 4, 3) := by decide +kernel
theorem dX3_numberIn_21 : decode cX3_numberIn 21 = .ok (.iconst (-1), 1) := by decide +kernel
theorem dX3_numberIn_22 : decode cX3_numberIn 22 = .ok (.ireturn, 1) := by decide +kernel
theorem dX3_isInLoop_0 : decode cX3_isInLoop 0 = .ok (.aload_n 0, 1) := by decide +kernel
theorem dX3_isInLoop_1 : decode cX3_isInLoop 1 = .ok (.getfield 28, 3) := by decide +kernel
theorem dX3_isInLoop_4 : decode cX3_isInLoop 4 = .ok (.ifCond .le 7, 3) := by decide +kernel
theorem dX3_isInLoop_7 : decode cX3_isInLoop 7 = .ok (.iconst 1, 1) := by decide +kernel
theorem dX3_isInLoop_8 : decode cX3_isInLoop 8 = .ok (.goto 4, 3) := by decide +kernel
theorem dX3_isInLoop_11 : decode cX3_isInLoop 11 = .ok (.iconst 0, 1) := by decide +kernel
theorem dX3_isInLoop_12 : decode cX3_isInLoop 12 = .ok (.ireturn, 1) := by decide +kernel
theorem dX3_canOpenLoop_0 : decode cX3_canOpenLoop 0 = .ok (.aload_n 0, 1) := by decide +kernel
theorem dX3_canOpenLoop_1 : decode cX3_canOpenLoop 1 = .ok (.getfield 28, 3) := by decide +kernel
theorem dX3_canOpenLoop_4 : decode cX3_canOpenLoop 4 = .ok (.iconst 4, 1) := by decide +kernel
theorem dX3_canOpenLoop_5 : decode cX3_canOpenLoop 5 = .ok (.if_icmp .ge 7, 3) := by decide +kernel
theorem dX3_canOpenLoop_8 : decode cX3_canOpenLoop 8 = .ok (.iconst 1, 1) := by decide +kernel
theorem dX3_canOpenLoop_9 : decode cX3_canOpenLoop 9 = .ok (.goto 4, 3) := by decide +kernel
theorem dX3_canOpenLoop_12 : decode cX3_canOpenLoop 12 = .ok (.iconst 0, 1) := by decide +kernel
theorem dX3_canOpenLoop_13 : decode cX3_canOpenLoop 13 = .ok (.ireturn, 1) := by decide +kernel
theorem dX3_addStep_0 : decode cX3_addStep 0 = .ok (.aload_n 0, 1) := by decide +kernel
theorem dX3_addStep_1 : decode cX3_addStep 1 = .ok (.getfield 18, 3) := by decide +kernel
theorem dX3_addStep_4 : decode cX3_addStep 4 = .ok (.sipush 200, 3) := by decide +kernel
theorem dX3_addStep_7 : decode cX3_addStep 7 = .ok (.if_icmp .ge 33, 3) := by decide +kernel
theorem dX3_addStep_10 : decode cX3_addStep 10 = .ok (.aload_n 0, 1) := by decide +kernel
theorem dX3_addStep_11 : decode cX3_addStep 11 = .ok (.getfield 9, 3) := by decide +kernel
theorem dX3_addStep_14 : decode cX3_addStep 14 = .ok (.aload_n 0, 1) := by decide +kernel
theorem dX3_addStep_15 : decode cX3_addStep 15 = .ok (.getfield 18, 3) := by decide +kernel
theorem dX3_addStep_18 : decode cX3_addStep 18 = .ok (.iload_n 1, 1) := by decide +kernel
theorem dX3_addStep_19 : decode cX3_addStep 19 = .ok (.iastore, 1) := by decide +kernel
theorem dX3_addStep_20 : decode cX3_addStep 20 = .ok (.aload_n 0, 1) := by decide +kernel
theorem dX3_addStep_21 : decode cX3_addStep 21 = .ok (.getfield 15, 3) := by decide +kernel
theorem dX3_addStep_24 : decode cX3_addStep 24 = .ok (.aload_n 0, 1) := by decide +kernel
theorem dX3_addStep_25 : decode cX3_addStep 25 = .ok (.getfield 18, 3) := by decide +kernel
theorem dX3_addStep_28 : decode cX3_addStep 28 = .ok (.iload_n 2, 1) := by decide +kernel
theorem dX3_addStep_29 : decode cX3_addStep 29 = .ok (.iastore, 1) := by decide +kernel
theorem dX3_addStep_30 : decode cX3_addStep 30 = .ok (.aload_n 0, 1) := by decide +kernel
theorem dX3_addStep_31 : decode cX3_addStep 31 = .ok (.dup, 1) := by decide +kernel
theorem dX3_addStep_32 : decode cX3_addStep 32 = .ok (.getfield 18, 3) := by decide +kernel
theorem dX3_addStep_35 : decode cX3_addStep 35 = .ok (.iconst 1, 1) := by decide +kernel
theorem dX3_addStep_36 : decode cX3_addStep 36 = .ok (.iadd, 1) := by decide +kernel
theorem dX3_addStep_37 : decode cX3_addStep 37 = .ok (.putfield 18, 3) := by decide +kernel
theorem dX3_addStep_40 : decode cX3_addStep 40 = .ok (.return_, 1) := by decide +kernel
theorem dX3_openLoop_0 : decode cX3_openLoop 0 = .ok (.aload_n 0, 1) := by decide +kernel
theorem dX3_openLoop_1 : decode cX3_openLoop 1 = .ok (.getfield 28, 3) := by decide +kernel
theorem dX3_openLoop_4 : decode cX3_openLoop 4 = .ok (.iconst 4, 1) := by decide +kernel
theorem dX3_openLoop_5 : decode cX3_openLoop 5 = .ok (.if_icmp .ge 36, 3) := by decide +kernel
theorem dX3_openLoop_8 : decode cX3_openLoop 8 = .ok (.aload_n 0, 1) := by decide +kernel
theorem dX3_openLoop_9 : decode cX3_openLoop 9 = .ok (.getfield 22, 3) := by decide +kernel
theorem dX3_openLoop_12 : decode cX3_openLoop 12 = .ok (.aload_n 0, 1) := by decide +kernel
theorem dX3_openLoop_13 : decode cX3_openLoop 13 = .ok (.getfield 28, 3) := by decide +kernel
theorem dX3_openLoop_16 : decode cX3_openLoop 16 = .ok (.aload_n 0, 1) := by decide +kernel
theorem dX3_openLoop_17 : decode cX3_openLoop 17 = .ok (.getfield 18, 3) := by decide +kernel
theorem dX3_openLoop_20 : decode cX3_openLoop 20 = .ok (.iastore, 1) := by decide +kernel
theorem dX3_openLoop_21 : decode cX3_openLoop 21 = .ok (.aload_n 0, 1) := by decide +kernel
theorem dX3_openLoop_22 : decode cX3_openLoop 22 = .ok (.getfield 25, 3) := by decide +kernel
theorem dX3_openLoop_25 : decode cX3_openLoop 25 = .ok (.aload_n 0, 1) := by decide +kernel
theorem dX3_openLoop_26 : decode cX3_openLoop 26 = .ok (.getfield 28, 3) := by decide +kernel
theorem dX3_openLoop_29 : decode cX3_openLoop 29 = .ok (.iload_n 1, 1) := by decide +kernel
theorem dX3_openLoop_30 : decode cX3_openLoop 30 = .ok (.iastore, 1) := by decide +kernel
theorem dX3_openLoop_31 : decode cX3_openLoop 31 = .ok (.aload_n 0, 1) := by decide +kernel
theorem dX3_openLoop_32 : decode cX3_openLoop 32 = .ok (.dup, 1) := by decide +kernel
theorem dX3_openLoop_33 : decode cX3_openLoop 33 = .ok (.getfield 28, 3) := by decide +kernel
theorem dX3_openLoop_36 : decode cX3_openLoop 36 = .ok (.iconst 1, 1) := by decide +kernel
theorem dX3_openLoop_37 : decode cX3_openLoop 37 = .ok (.iadd, 1) := by decide +kernel
theorem dX3_openLoop_38 : decode cX3_openLoop 38 = .ok (.putfield 28, 3) := by decide +kernel
theorem dX3_openLoop_41 : decode cX3_openLoop 41 = .ok (.return_, 1) := by decide +kernel
theorem dX3_closeLoop_0 : decode cX3_closeLoop 0 = .ok (.aload_n 0, 1) := by decide +kernel
theorem dX3_closeLoop_1 : decode cX3_closeLoop 1 = .ok (.getfield 28, 3) := by decide +kernel
theorem dX3_closeLoop_4 : decode cX3_closeLoop 4 = .ok (.ifCond .gt 4, 3) := by decide +kernel
theorem dX3_closeLoop_7 : decode cX3_closeLoop 7 = .ok (.return_, 1) := by decide +kernel
theorem dX3_closeLoop_8 : decode cX3_closeLoop 8 = .ok (.aload_n 0, 1) := by decide +kernel
theorem dX3_closeLoop_9 : decode cX3_closeLoop 9 = .ok (.dup, 1) := by decide +kernel
theorem dX3_closeLoop_10 : decode cX3_closeLoop 10 = .ok (.getfield 28, 3) := by decide +kernel
theorem dX3_closeLoop_13 : decode cX3_closeLoop 13 = .ok (.iconst 1, 1) := by decide +kernel
theorem dX3_closeLoop_14 : decode cX3_closeLoop 14 = .ok (.isub, 1) := by decide +kernel
theorem dX3_closeLoop_15 : decode cX3_closeLoop 15 = .ok (.putfield 28, 3) := by decide +kernel
theorem dX3_closeLoop_18 : decode cX3_closeLoop 18 = .ok (.aload_n 0, 1) := by decide +kernel
theorem dX3_closeLoop_19 : decode cX3_closeLoop 19 = .ok (.getfield 22, 3) := by decide +kernel
theorem dX3_closeLoop_22 : decode cX3_closeLoop 22 = .ok (.aload_n 0, 1) := by decide +kernel
theorem dX3_closeLoop_23 : decode cX3_closeLoop 23 = .ok (.getfield 28, 3) := by decide +kernel
theorem dX3_closeLoop_26 : decode cX3_closeLoop 26 = .ok (.iaload, 1) := by decide +kernel
theorem dX3_closeLoop_27 : decode cX3_closeLoop 27 = .ok (.istore_n 1, 1) := by decide +kernel
theorem dX3_closeLoop_28 : decode cX3_closeLoop 28 = .ok (.aload_n 0, 1) := by decide +kernel
theorem dX3_closeLoop_29 : decode cX3_closeLoop 29 = .ok (.getfield 18, 3) := by decide +kernel
theorem dX3_closeLoop_32 : decode cX3_closeLoop 32 = .ok (.istore_n 2, 1) := by decide +kernel
theorem dX3_closeLoop_33 : decode cX3_closeLoop 33 = .ok (.iconst 1, 1) := by decide +kernel
theorem dX3_closeLoop_34 : decode cX3_closeLoop 34 = .ok (.istore_n 3, 1) := by decide +kernel
theorem dX3_closeLoop_35 : decode cX3_closeLoop 35 = .ok (.iload_n 3, 1) := by decide +kernel
theorem dX3_closeLoop_36 : decode cX3_closeLoop 36 = .ok (.aload_n 0, 1) := by decide +kernel
theorem dX3_closeLoop_37 : decode cX3_closeLoop 37 = .ok (.getfield 25, 3) := by decide +kernel
theorem dX3_closeLoop_40 : decode cX3_closeLoop 40 = .ok (.aload_n 0, 1) := by decide +kernel
theorem dX3_closeLoop_41 : decode cX3_closeLoop 41 = .ok (.getfield 28, 3) := by decide +kernel
theorem dX3_closeLoop_44 : decode cX3_closeLoop 44 = .ok (.iaload, 1) := by decide +kernel
theorem dX3_closeLoop_45 : decode cX3_closeLoop 45 = .ok (.if_icmp .ge 40, 3) := by decide +kernel
theorem dX3_closeLoop_48 : decode cX3_closeLoop 48 = .ok (.iload_n 1, 1) := by decide +kernel
theorem dX3_closeLoop_49 : decode cX3_closeLoop 49 = .ok (.istore 4, 2) := by decide +kernel
theorem dX3_closeLoop_51 : decode cX3_closeLoop 51 = .ok (.iload 4, 2) := by decide +kernel
theorem dX3_closeLoop_53 : decode cX3_closeLoop 53 = .ok (.iload_n 2, 1) := by decide +kernel
theorem dX3_closeLoop_54 : decode cX3_closeLoop 54 = .ok (.if_icmp .ge 25, 3) := by decide +kernel
theorem dX3_closeLoop_57 : decode cX3_closeLoop 57 = .ok (.aload_n 0, 1) := by decide +kernel
theorem dX3_closeLoop_58 : decode cX3_closeLoop 58 = .ok (.aload_n 0, 1) := by decide +kernel
theorem dX3_closeLoop_59 : decode cX3_closeLoop 59 = .ok (.iload 4, 2) := by decide +kernel
theorem dX3_closeLoop_61 : decode cX3_closeLoop 61 = .ok (.invokevirtual 31, 3) := by decide +kernel
theorem dX3_closeLoop_64 : decode cX3_closeLoop 64 = .ok (.aload_n 0, 1) := by decide +kernel
theorem dX3_closeLoop_65 : decode cX3_closeLoop 65 = .ok (.iload 4, 2) := by decide +kernel
theorem dX3_closeLoop_67 : decode cX3_closeLoop 67 = .ok (.invokevirtual 35, 3) := by decide +kernel
theorem dX3_closeLoop_70 : decode cX3_closeLoop 70 = .ok (.invokevirtual 38, 3) := by decide +kernel
theorem dX3_closeLoop_73 : decode cX3_closeLoop 73 = .ok (.iinc 4 1, 3) := by decide +kernel
theorem dX3_closeLoop_76 : decode cX3_closeLoop 76 = .ok (.goto (-25), 3) := by decide +kernel
theorem dX3_closeLoop_79 : decode cX3_closeLoop 79 = .ok (.iinc 3 1, 3) := by decide +kernel
theorem dX3_closeLoop_82 : decode cX3_closeLoop 82 = .ok (.goto (-47), 3) := by decide +kernel
theorem dX3_closeLoop_85 : decode cX3_closeLoop 85 = .ok (.return_, 1) := by decide +kernel
theorem dX4_init_0 : decode cX4_init 0 = .ok (.aload_n 0, 1) := by decide +kernel
theorem dX4_init_1 : decode cX4_init 1 = .ok (.invokespecial 3, 3) := by decide +kernel
theorem dX4_init_4 : decode cX4_init 4 = .ok (.aload_n 0, 1) := by decide +kernel
theorem dX4_init_5 : decode cX4_init 5 = .ok (.new 9, 3) := by decide +kernel
theorem dX4_init_8 : decode cX4_init 8 = .ok (.dup, 1) := by decide +kernel
theorem dX4_init_9 : decode cX4_init 9 = .ok (.invokespecial 11, 3) := by decide +kernel
theorem dX4_init_12 : decode cX4_init 12 = .ok (.putfield 12, 3) := by decide +kernel
theorem dX4_init_15 : decode cX4_init 15 = .ok (.aload_n 0, 1) := by decide +kernel
theorem dX4_init_16 : decode cX4_init 16 = .ok (.new 18, 3) := by decide +kernel
theorem dX4_init_19 : decode cX4_init 19 = .ok (.dup, 1) := by decide +kernel
theorem dX4_init_20 : decode cX4_init 20 = .ok (.invokespecial 20, 3) := by decide +kernel
theorem dX4_init_23 : decode cX4_init 23 = .ok (.putfield 21, 3) := by decide +kernel
theorem dX4_init_26 : decode cX4_init 26 = .ok (.aload_n 0, 1) := by decide +kernel
theorem dX4_init_27 : decode cX4_init 27 = .ok (.iconst 0, 1) := by decide +kernel
theorem dX4_init_28 : decode cX4_init 28 = .ok (.putfield 25, 3) := by decide +kernel
theorem dX4_init_31 : decode cX4_init 31 = .ok (.return_, 1) := by decide +kernel
theorem dX4_tape_0 : decode cX4_tape 0 = .ok (.aload_n 0, 1) := by decide +kernel
theorem dX4_tape_1 : decode cX4_tape 1 = .ok (.getfield 12, 3) := by decide +kernel
theorem dX4_tape_4 : decode cX4_tape 4 = .ok (.areturn, 1) := by decide +kernel
theorem dX4_program_0 : decode cX4_program 0 = .ok (.aload_n 0, 1) := by decide +kernel
theorem dX4_program_1 : decode cX4_program 1 = .ok (.getfield 21, 3) := by decide +kernel
theorem dX4_program_4 : decode cX4_program 4 = .ok (.areturn, 1) := by decide +kernel
theorem dX4_read_0 : decode cX4_read 0 = .ok (.aload_n 0, 1) := by decide +kernel
theorem dX4_read_1 : decode cX4_read 1 = .ok (.getfield 21, 3) := by decide +kernel
theorem dX4_read_4 : decode cX4_read 4 = .ok (.invokevirtual 29, 3) := by decide +kernel
theorem dX4_read_7 : decode cX4_read 7 = .ok (.aload_n 0, 1) := by decide +kernel
theorem dX4_read_8 : decode cX4_read 8 = .ok (.iconst 0, 1) := by decide +kernel
theorem dX4_read_9 : decode cX4_read 9 = .ok (.putfield 25, 3) := by decide +kernel
theorem dX4_read_12 : decode cX4_read 12 = .ok (.aload_n 0, 1) := by decide +kernel
theorem dX4_read_13 : decode cX4_read 13 = .ok (.iconst 0, 1) := by decide +kernel
theorem dX4_read_14 : decode cX4_read 14 = .ok (.invokevirtual 32, 3) := by decide +kernel
theorem dX4_read_17 : decode cX4_read 17 = .ok (.iconst 0, 1) := by decide +kernel
theorem dX4_read_18 : decode cX4_read 18 = .ok (.istore_n 1, 1) := by decide +kernel
theorem dX4_read_19 : decode cX4_read 19 = .ok (.iload_n 1, 1) := by decide +kernel
theorem dX4_read_20 : decode cX4_read 20 = .ok (.sipush 300, 3) := by decide +kernel
theorem dX4_read_23 : decode cX4_read 23 = .ok (.if_icmp .ge 35, 3) := by decide +kernel
theorem dX4_read_26 : decode cX4_read 26 = .ok (.aload_n 0, 1) := by decide +kernel
theorem dX4_read_27 : decode cX4_read 27 = .ok (.getfield 25, 3) := by decide +kernel
theorem dX4_read_30 : decode cX4_read 30 = .ok (.aload_n 0, 1) := by decide +kernel
theorem dX4_read_31 : decode cX4_read 31 = .ok (.getfield 12, 3) := by decide +kernel
theorem dX4_read_34 : decode cX4_read 34 = .ok (.invokevirtual 36, 3) := by decide +kernel
theorem dX4_read_37 : decode cX4_read 37 = .ok (.if_icmp .ge 21, 3) := by decide +kernel
theorem dX4_read_40 : decode cX4_read 40 = .ok (.aload_n 0, 1) := by decide +kernel
theorem dX4_read_41 : decode cX4_read 41 = .ok (.invokevirtual 40, 3) := by decide +kernel
theorem dX4_read_44 : decode cX4_read 44 = .ok (.ifCond .ne 8, 3) := by decide +kernel
theorem dX4_read_47 : decode cX4_read 47 = .ok (.aload_n 0, 1) := by decide +kernel
theorem dX4_read_48 : decode cX4_read 48 = .ok (.getfield 25, 3) := by decide +kernel
theorem dX4_read_51 : decode cX4_read 51 = .ok (.ireturn, 1) := by decide +kernel
theorem dX4_read_52 : decode cX4_read 52 = .ok (.iinc 1 1, 3) := by decide +kernel
theorem dX4_read_55 : decode cX4_read 55 = .ok (.goto (-36), 3) := by decide +kernel
theorem dX4_read_58 : decode cX4_read 58 = .ok (.aload_n 0, 1) := by decide +kernel
theorem dX4_read_59 : decode cX4_read 59 = .ok (.getfield 21, 3) := by decide +kernel
theorem dX4_read_62 : decode cX4_read 62 = .ok (.invokevirtual 44, 3) := by decide +kernel
theorem dX4_read_65 : decode cX4_read 65 = .ok (.ifCond .eq 10, 3) := by decide +kernel
theorem dX4_read_68 : decode cX4_read 68 = .ok (.aload_n 0, 1) := by decide +kernel
theorem dX4_read_69 : decode cX4_read 69 = .ok (.getfield 25, 3) := by decide +kernel
theorem dX4_read_72 : decode cX4_read 72 = .ok (.goto 4, 3) := by decide +kernel
theorem dX4_read_75 : decode cX4_read 75 = .ok (.iconst (-1), 1) := by decide +kernel
theorem dX4_read_76 : decode cX4_read 76 = .ok (.ireturn, 1) := by decide +kernel
theorem dX4_readPart_0 : decode cX4_readPart 0 = .ok (.aload_n 0, 1) := by decide +kernel
theorem dX4_readPart_1 : decode cX4_readPart 1 = .ok (.getfield 12, 3) := by decide +kernel
theorem dX4_readPart_4 : decode cX4_readPart 4 = .ok (.aload_n 0, 1) := by decide +kernel
theorem dX4_readPart_5 : decode cX4_readPart 5 = .ok (.getfield 25, 3) := by decide +kernel
theorem dX4_readPart_8 : decode cX4_readPart 8 = .ok (.invokevirtual 47, 3) := by decide +kernel
theorem dX4_readPart_11 : decode cX4_readPart 11 = .ok (.lookupswitch 82 #[(97, 57), (99, 64), (108, 57), (115, 57), (120, 72), (125, 77)], 57) := by decide +kernel
theorem dX4_readPart_68 : decode cX4_readPart 68 = .ok (.aload_n 0, 1) := by decide +kernel
theorem dX4_readPart_69 : decode cX4_readPart 69 = .ok (.bipush 63, 2) := by decide +kernel
theorem dX4_readPart_71 : decode cX4_readPart 71 = .ok (.invokevirtual 51, 3) := by decide +kernel
theorem dX4_readPart_74 : decode cX4_readPart 74 = .ok (.ireturn, 1) := by decide +kernel
theorem dX4_readPart_75 : decode cX4_readPart 75 = .ok (.aload_n 0, 1) := by decide +kernel
theorem dX4_readPart_76 : decode cX4_readPart 76 = .ok (.sipush 999, 3) := by decide +kernel
theorem dX4_readPart_79 : decode cX4_readPart 79 = .ok (.invokevirtual 51, 3) := by decide +kernel
theorem dX4_readPart_82 : decode cX4_readPart 82 = .ok (.ireturn, 1) := by decide +kernel
theorem dX4_readPart_83 : decode cX4_readPart 83 = .ok (.aload_n 0, 1) := by decide +kernel
theorem dX4_readPart_84 : decode cX4_readPart 84 = .ok (.invokevirtual 55, 3) := by decide +kernel
theorem dX4_readPart_87 : decode cX4_readPart 87 = .ok (.ireturn, 1) := by decide +kernel
theorem dX4_readPart_88 : decode cX4_readPart 88 = .ok (.aload_n 0, 1) := by decide +kernel
theorem dX4_readPart_89 : decode cX4_readPart 89 = .ok (.invokevirtual 58, 3) := by decide +kernel
theorem dX4_readPart_92 : decode cX4_readPart 92 = .ok (.ireturn, 1) := by decide +kernel
theorem dX4_readPart_93 : decode cX4_readPart 93 = .ok (.iconst 0, 1) := by decide +kernel
theorem dX4_readPart_94 : decode cX4_readPart 94 = .ok (.ireturn, 1) := by decide +kernel
theorem dX4_readStep_0 : decode cX4_readStep 0 = .ok (.aload_n 0, 1) := by decide +kernel
theorem dX4_readStep_1 : decode cX4_readStep 1 = .ok (.getfield 12, 3) := by decide +kernel
theorem dX4_readStep_4 : decode cX4_readStep 4 = .ok (.aload_n 0, 1) := by decide +kernel
theorem dX4_readStep_5 : decode cX4_readStep 5 = .ok (.getfield 25, 3) := by decide +kernel
theorem dX4_readStep_8 : decode cX4_readStep 8 = .ok (.invokevirtual 47, 3) := by decide +kernel
theorem dX4_readStep_11 : decode cX4_readStep 11 = .ok (.istore_n 2, 1) := by decide +kernel
theorem dX4_readStep_12 : decode cX4_readStep 12 = .ok (.aload_n 0, 1) := by decide +kernel
theorem dX4_readStep_13 : decode cX4_readStep 13 = .ok (.iconst 1, 1) := by decide +kernel
theorem dX4_readStep_14 : decode cX4_readStep 14 = .ok (.invokevirtual 32, 3) := by decide +kernel
theorem dX4_readStep_17 : decode cX4_readStep 17 = .ok (.aload_n 0, 1) := by decide +kernel
theorem dX4_readStep_18 : decode cX4_readStep 18 = .ok (.iconst 0, 1) := by decide +kernel
theorem dX4_readStep_19 : decode cX4_readStep 19 = .ok (.iload_n 1, 1) := by decide +kernel
theorem dX4_readStep_20 : decode cX4_readStep 20 = .ok (.invokevirtual 61, 3) := by decide +kernel
theorem dX4_readStep_23 : decode cX4_readStep 23 = .ok (.istore_n 3, 1) := by decide +kernel
theorem dX4_readStep_24 : decode cX4_readStep 24 = .ok (.iload_n 3, 1) := by decide +kernel
theorem dX4_readStep_25 : decode cX4_readStep 25 = .ok (.iconst (-1), 1) := by decide +kernel
theorem dX4_readStep_26 : decode cX4_readStep 26 = .ok (.if_icmp .eq 12, 3) := by decide +kernel
theorem dX4_readStep_29 : decode cX4_readStep 29 = .ok (.aload_n 0, 1) := by decide +kernel
theorem dX4_readStep_30 : decode cX4_readStep 30 = .ok (.bipush 59, 2) := by decide +kernel
theorem dX4_readStep_32 : decode cX4_readStep 32 = .ok (.invokevirtual 65, 3) := by decide +kernel
theorem dX4_readStep_35 : decode cX4_readStep 35 = .ok (.ifCond .ne 5, 3) := by decide +kernel
theorem dX4_readStep_38 : decode cX4_readStep 38 = .ok (.iconst 0, 1) := by decide +kernel
theorem dX4_readStep_39 : decode cX4_readStep 39 = .ok (.ireturn, 1) := by decide +kernel
theorem dX4_readStep_40 : decode cX4_readStep 40 = .ok (.aload_n 0, 1) := by decide +kernel
theorem dX4_readStep_41 : decode cX4_readStep 41 = .ok (.getfield 21, 3) := by decide +kernel
theorem dX4_readStep_44 : decode cX4_readStep 44 = .ok (.iload_n 2, 1) := by decide +kernel
theorem dX4_readStep_45 : decode cX4_readStep 45 = .ok (.iload_n 3, 1) := by decide +kernel
theorem dX4_readStep_46 : decode cX4_readStep 46 = .ok (.invokevirtual 68, 3) := by decide +kernel
theorem dX4_readStep_49 : decode cX4_readStep 49 = .ok (.iconst 1, 1) := by decide +kernel
theorem dX4_readStep_50 : decode cX4_readStep 50 = .ok (.ireturn, 1) := by decide +kernel
theorem dX4_readLoopStart_0 : decode cX4_readLoopStart 0 = .ok (.aload_n 0, 1) := by decide +kernel
theorem dX4_readLoopStart_1 : decode cX4_readLoopStart 1 = .ok (.iconst 1, 1) := by decide +kernel
theorem dX4_readLoopStart_2 : decode cX4_readLoopStart 2 = .ok (.invokevirtual 32, 3) := by decide +kernel
theorem dX4_readLoopStart_5 : decode cX4_readLoopStart 5 = .ok (.aload_n 0, 1) := by decide +kernel
theorem dX4_readLoopStart_6 : decode cX4_readLoopStart 6 = .ok (.iconst 1, 1) := by decide +kernel
theorem dX4_readLoopStart_7 : decode cX4_readLoopStart 7 = .ok (.bipush 9, 2) := by decide +kernel
theorem dX4_readLoopStart_9 : decode cX4_readLoopStart 9 = .ok (.invokevirtual 61, 3) := by decide +kernel
theorem dX4_readLoopStart_12 : decode cX4_readLoopStart 12 = .ok (.istore_n 1, 1) := by decide +kernel
theorem dX4_readLoopStart_13 : decode cX4_readLoopStart 13 = .ok (.iload_n 1, 1) := by decide +kernel
theorem dX4_readLoopStart_14 : decode cX4_readLoopStart 14 = .ok (.iconst (-1), 1) := by decide +kernel
theorem dX4_readLoopStart_15 : decode cX4_readLoopStart 15 = .ok (.if_icmp .eq 22, 3) := by decide +kernel
theorem dX4_readLoopStart_18 : decode cX4_readLoopStart 18 = .ok (.aload_n 0, 1) := by decide +kernel
theorem dX4_readLoopStart_19 : decode cX4_readLoopStart 19 = .ok (.getfield 21, 3) := by decide +kernel
theorem dX4_readLoopStart_22 : decode cX4_readLoopStart 22 = .ok (.invokevirtual 72, 3) := by decide +kernel
theorem dX4_readLoopStart_25 : decode cX4_readLoopStart 25 = .ok (.ifCond .eq 12, 3) := by decide +kernel
theorem dX4_readLoopStart_28 : decode cX4_readLoopStart 28 = .ok (.aload_n 0, 1) := by decide +kernel
theorem dX4_readLoopStart_29 : decode cX4_readLoopStart 29 = .ok (.bipush 123, 2) := by decide +kernel
theorem dX4_readLoopStart_31 : decode cX4_readLoopStart 31 = .ok (.invokevirtual 65, 3) := by decide +kernel
theorem dX4_readLoopStart_34 : decode cX4_readLoopStart 34 = .ok (.ifCond .ne 5, 3) := by decide +kernel
theorem dX4_readLoopStart_37 : decode cX4_readLoopStart 37 = .ok (.iconst 0, 1) := by decide +kernel
theorem dX4_readLoopStart_38 : decode cX4_readLoopStart 38 = .ok (.ireturn, 1) := by decide +kernel
theorem dX4_readLoopStart_39 : decode cX4_readLoopStart 39 = .ok (.aload_n 0, 1) := by decide +kernel
theorem dX4_readLoopStart_40 : decode cX4_readLoopStart 40 = .ok (.getfield 21, 3) := by decide +kernel
theorem dX4_readLoopStart_43 : decode cX4_readLoopStart 43 = .ok (.iload_n 1, 1) := by decide +kernel
theorem dX4_readLoopStart_44 : decode cX4_readLoopStart 44 = .ok (.invokevirtual 75, 3) := by decide +kernel
theorem dX4_readLoopStart_47 : decode cX4_readLoopStart 47 = .ok (.iconst 1, 1) := by decide +kernel
theorem dX4_readLoopStart_48 : decode cX4_readLoopStart 48 = .ok (.ireturn, 1) := by decide +kernel
theorem dX4_readLoopEnd_0 : decode cX4_readLoopEnd 0 = .ok (.aload_n 0, 1) := by decide +kernel
theorem dX4_readLoopEnd_1 : decode cX4_readLoopEnd 1 = .ok (.getfield 21, 3) := by decide +kernel
theorem dX4_readLoopEnd_4 : decode cX4_readLoopEnd 4 = .ok (.invokevirtual 44, 3) := by decide +kernel
theorem dX4_readLoopEnd_7 : decode cX4_readLoopEnd 7 = .ok (.ifCond .ne 5, 3) := by decide +kernel
theorem dX4_readLoopEnd_10 : decode cX4_readLoopEnd 10 = .ok (.iconst 0, 1) := by decide +kernel
theorem dX4_readLoopEnd_11 : decode cX4_readLoopEnd 11 = .ok (.ireturn, 1) := by decide +kernel
theorem dX4_readLoopEnd_12 : decode cX4_readLoopEnd 12 = .ok (.aload_n 0, 1) := by decide +kernel
theorem dX4_readLoopEnd_13 : decode cX4_readLoopEnd 13 = .ok (.getfield 21, 3) := by decide +kernel
theorem dX4_readLoopEnd_16 : decode cX4_readLoopEnd 16 = .ok (.invokevirtual 78, 3) := by decide +kernel
theorem dX4_readLoopEnd_19 : decode cX4_readLoopEnd 19 = .ok (.aload_n 0, 1) := by decide +kernel
theorem dX4_readLoopEnd_20 : decode cX4_readLoopEnd 20 = .ok (.iconst 1, 1) := by decide +kernel
theorem dX4_readLoopEnd_21 : decode cX4_readLoopEnd 21 = .ok (.invokevirtual 32, 3) := by decide +kernel
theorem dX4_readLoopEnd_24 : decode cX4_readLoopEnd 24 = .ok (.iconst 1, 1) := by decide +kernel
theorem dX4_readLoopEnd_25 : decode cX4_readLoopEnd 25 = .ok (.ireturn, 1) := by decide +kernel
theorem dX4_readSign_0 : decode cX4_readSign 0 = .ok (.aload_n 0, 1) := by decide +kernel
theorem dX4_readSign_1 : decode cX4_readSign 1 = .ok (.getfield 12, 3) := by decide +kernel
theorem dX4_readSign_4 : decode cX4_readSign 4 = .ok (.aload_n 0, 1) := by decide +kernel
theorem dX4_readSign_5 : decode cX4_readSign 5 = .ok (.getfield 25, 3) := by decide +kernel
theorem dX4_readSign_8 : decode cX4_readSign 8 = .ok (.invokevirtual 47, 3) := by decide +kernel
theorem dX4_readSign_11 : decode cX4_readSign 11 = .ok (.iload_n 1, 1) := by decide +kernel
theorem dX4_readSign_12 : decode cX4_readSign 12 = .ok (.if_icmp .eq 5, 3) := by decide +kernel
theorem dX4_readSign_15 : decode cX4_readSign 15 = .ok (.iconst 0, 1) := by decide +kernel
theorem dX4_readSign_16 : decode cX4_readSign 16 = .ok (.ireturn, 1) := by decide +kernel
theorem dX4_readSign_17 : decode cX4_readSign 17 = .ok (.aload_n 0, 1) := by decide +kernel
theorem dX4_readSign_18 : decode cX4_readSign 18 = .ok (.iconst 1, 1) := by decide +kernel
theorem dX4_readSign_19 : decode cX4_readSign 19 = .ok (.invokevirtual 32, 3) := by decide +kernel
theorem dX4_readSign_22 : decode cX4_readSign 22 = .ok (.iconst 1, 1) := by decide +kernel
theorem dX4_readSign_23 : decode cX4_readSign 23 = .ok (.ireturn, 1) := by decide +kernel
theorem dX4_readNumber_0 : decode cX4_readNumber 0 = .ok (.aload_n 0, 1) := by decide +kernel
theorem dX4_readNumber_1 : decode cX4_readNumber 1 = .ok (.invokevirtual 81, 3) := by decide +kernel
theorem dX4_readNumber_4 : decode cX4_readNumber 4 = .ok (.istore_n 3, 1) := by decide +kernel
theorem dX4_readNumber_5 : decode cX4_readNumber 5 = .ok (.iload_n 3, 1) := by decide +kernel
theorem dX4_readNumber_6 : decode cX4_readNumber 6 = .ok (.iconst 1, 1) := by decide +kernel
theorem dX4_readNumber_7 : decode cX4_readNumber 7 = .ok (.if_icmp .lt 8, 3) := by decide +kernel
theorem dX4_readNumber_10 : decode cX4_readNumber 10 = .ok (.iload_n 3, 1) := by decide +kernel
theorem dX4_readNumber_11 : decode cX4_readNumber 11 = .ok (.iconst 3, 1) := by decide +kernel
theorem dX4_readNumber_12 : decode cX4_readNumber 12 = .ok (.if_icmp .le 5, 3) := by decide +kernel
theorem dX4_readNumber_15 : decode cX4_readNumber 15 = .ok (.iconst (-1), 1) := by decide +kernel
theorem dX4_readNumber_16 : decode cX4_readNumber 16 = .ok (.ireturn, 1) := by decide +kernel
theorem dX4_readNumber_17 : decode cX4_readNumber 17 = .ok (.iconst 0, 1) := by decide +kernel
theorem dX4_readNumber_18 : decode cX4_readNumber 18 = .ok (.istore 4, 2) := by decide +kernel
theorem dX4_readNumber_20 : decode cX4_readNumber 20 = .ok (.iconst 0, 1) := by decide +kernel
theorem dX4_readNumber_21 : decode cX4_readNumber 21 = .ok (.istore 5, 2) := by decide +kernel
theorem dX4_readNumber_23 : decode cX4_readNumber 23 = .ok (.iload 5, 2) := by decide +kernel
theorem dX4_readNumber_25 : decode cX4_readNumber 25 = .ok (.iload_n 3, 1) := by decide +kernel
theorem dX4_readNumber_26 : decode cX4_readNumber 26 = .ok (.if_icmp .ge 34, 3) := by decide +kernel
theorem dX4_readNumber_29 : decode cX4_readNumber 29 = .ok (.bipush 10, 2) := by decide +kernel
theorem dX4_readNumber_31 : decode cX4_readNumber 31 = .ok (.iload 4, 2) := by decide +kernel
theorem dX4_readNumber_33 : decode cX4_readNumber 33 = .ok (.imul, 1) := by decide +kernel
theorem dX4_readNumber_34 : decode cX4_readNumber 34 = .ok (.aload_n 0, 1) := by decide +kernel
theorem dX4_readNumber_35 : decode cX4_readNumber 35 = .ok (.getfield 12, 3) := by decide +kernel
theorem dX4_readNumber_38 : decode cX4_readNumber 38 = .ok (.aload_n 0, 1) := by decide +kernel
theorem dX4_readNumber_39 : decode cX4_readNumber 39 = .ok (.getfield 25, 3) := by decide +kernel
theorem dX4_readNumber_42 : decode cX4_readNumber 42 = .ok (.iload 5, 2) := by decide +kernel
theorem dX4_readNumber_44 : decode cX4_readNumber 44 = .ok (.iadd, 1) := by decide +kernel
theorem dX4_readNumber_45 : decode cX4_readNumber 45 = .ok (.invokevirtual 47, 3) := by decide +kernel
theorem dX4_readNumber_48 : decode cX4_readNumber 48 = .ok (.iadd, 1) := by decide +kernel
theorem dX4_readNumber_49 : decode cX4_readNumber 49 = .ok (.bipush 48, 2) := by decide +kernel
theorem dX4_readNumber_51 : decode cX4_readNumber 51 = .ok (.isub, 1) := by decide +kernel
theorem dX4_readNumber_52 : decode cX4_readNumber 52 = .ok (.istore 4, 2) := by decide +kernel
theorem dX4_readNumber_54 : decode cX4_readNumber 54 = .ok (.iinc 5 1, 3) := by decide +kernel
theorem dX4_readNumber_57 : decode cX4_readNumber 57 = .ok (.goto (-34), 3) := by decide +kernel
theorem dX4_readNumber_60 : decode cX4_readNumber 60 = .ok (.iload 4, 2) := by decide +kernel
theorem dX4_readNumber_62 : decode cX4_readNumber 62 = .ok (.iload_n 1, 1) := by decide +kernel
theorem dX4_readNumber_63 : decode cX4_readNumber 63 = .ok (.if_icmp .lt 9, 3) := by decide +kernel
theorem dX4_readNumber_66 : decode cX4_readNumber 66 = .ok (.iload 4, 2) := by decide +kernel
theorem dX4_readNumber_68 : decode cX4_readNumber 68 = .ok (.iload_n 2, 1) := by decide +kernel
theorem dX4_readNumber_69 : decode cX4_readNumber 69 = .ok (.if_icmp .le 5, 3) := by decide +kernel
theorem dX4_readNumber_72 : decode cX4_readNumber 72 = .ok (.iconst (-1), 1) := by decide +kernel
theorem dX4_readNumber_73 : decode cX4_readNumber 73 = .ok (.ireturn, 1) := by decide +kernel
theorem dX4_readNumber_74 : decode cX4_readNumber 74 = .ok (.aload_n 0, 1) := by decide +kernel
theorem dX4_readNumber_75 : decode cX4_readNumber 75 = .ok (.iload_n 3, 1) := by decide +kernel
theorem dX4_readNumber_76 : decode cX4_readNumber 76 = .ok (.invokevirtual 32, 3) := by decide +kernel
theorem dX4_readNumber_79 : decode cX4_readNumber 79 = .ok (.iload 4, 2) := by decide +kernel
theorem dX4_readNumber_81 : decode cX4_readNumber 81 = .ok (.ireturn, 1) := by decide +kernel
theorem dX4_countDigits_0 : decode cX4_countDigits 0 = .ok (.iconst 0, 1) := by decide +kernel
theorem dX4_countDigits_1 : decode cX4_countDigits 1 = .ok (.istore_n 1, 1) := by decide +kernel
theorem dX4_countDigits_2 : decode cX4_countDigits 2 = .ok (.iload_n 1, 1) := by decide +kernel
theorem dX4_countDigits_3 : decode cX4_countDigits 3 = .ok (.sipush 300, 3) := by decide +kernel
theorem dX4_countDigits_6 : decode cX4_countDigits 6 = .ok (.if_icmp .ge 28, 3) := by decide +kernel
theorem dX4_countDigits_9 : decode cX4_countDigits 9 = .ok (.aload_n 0, 1) := by decide +kernel
theorem dX4_countDigits_10 : decode cX4_countDigits 10 = .ok (.getfield 12, 3) := by decide +kernel
theorem dX4_countDigits_13 : decode cX4_countDigits 13 = .ok (.aload_n 0, 1) := by decide +kernel
theorem dX4_countDigits_14 : decode cX4_countDigits 14 = .ok (.getfield 25, 3) := by decide +kernel
theorem dX4_countDigits_17 : decode cX4_countDigits 17 = .ok (.iload_n 1, 1) := by decide +kernel
theorem dX4_countDigits_18 : decode cX4_countDigits 18 = .ok (.iadd, 1) := by decide +kernel
theorem dX4_countDigits_19 : decode cX4_countDigits 19 = .ok (.invokevirtual 47, 3) := by decide +kernel
theorem dX4_countDigits_22 : decode cX4_countDigits 22 = .ok (.invokestatic 84, 3) := by decide +kernel
theorem dX4_countDigits_25 : decode cX4_countDigits 25 = .ok (.ifCond .eq 9, 3) := by decide +kernel
theorem dX4_countDigits_28 : decode cX4_countDigits 28 = .ok (.iinc 1 1, 3) := by decide +kernel
theorem dX4_countDigits_31 : decode cX4_countDigits 31 = .ok (.goto (-29), 3) := by decide +kernel
theorem dX4_countDigits_34 : decode cX4_countDigits 34 = .ok (.iload_n 1, 1) := by decide +kernel
theorem dX4_countDigits_35 : decode cX4_countDigits 35 = .ok (.ireturn, 1) := by decide +kernel
theorem dX4_pass_0 : decode cX4_pass 0 = .ok (.aload_n 0, 1) := by decide +kernel
theorem dX4_pass_1 : decode cX4_pass 1 = .ok (.dup, 1) := by decide +kernel
theorem dX4_pass_2 : decode cX4_pass 2 = .ok (.getfield 25, 3) := by decide +kernel
theorem dX4_pass_5 : decode cX4_pass 5 = .ok (.iload_n 1, 1) := by decide +kernel
theorem dX4_pass_6 : decode cX4_pass 6 = .ok (.iadd, 1) := by decide +kernel
theorem dX4_pass_7 : decode cX4_pass 7 = .ok (.putfield 25, 3) := by decide +kernel
theorem dX4_pass_10 : decode cX4_pass 10 = .ok (.aload_n 0, 1) := by decide +kernel
theorem dX4_pass_11 : decode cX4_pass 11 = .ok (.getfield 25, 3) := by decide +kernel
theorem dX4_pass_14 : decode cX4_pass 14 = .ok (.aload_n 0, 1) := by decide +kernel
theorem dX4_pass_15 : decode cX4_pass 15 = .ok (.getfield 12, 3) := by decide +kernel
theorem dX4_pass_18 : decode cX4_pass 18 = .ok (.invokevirtual 36, 3) := by decide +kernel
theorem dX4_pass_21 : decode cX4_pass 21 = .ok (.if_icmp .ge 33, 3) := by decide +kernel
theorem dX4_pass_24 : decode cX4_pass 24 = .ok (.aload_n 0, 1) := by decide +kernel
theorem dX4_pass_25 : decode cX4_pass 25 = .ok (.getfield 12, 3) := by decide +kernel
theorem dX4_pass_28 : decode cX4_pass 28 = .ok (.aload_n 0, 1) := by decide +kernel
theorem dX4_pass_29 : decode cX4_pass 29 = .ok (.getfield 25, 3) := by decide +kernel
theorem dX4_pass_32 : decode cX4_pass 32 = .ok (.invokevirtual 47, 3) := by decide +kernel
theorem dX4_pass_35 : decode cX4_pass 35 = .ok (.invokestatic 87, 3) := by decide +kernel
theorem dX4_pass_38 : decode cX4_pass 38 = .ok (.ifCond .eq 16, 3) := by decide +kernel
theorem dX4_pass_41 : decode cX4_pass 41 = .ok (.aload_n 0, 1) := by decide +kernel
theorem dX4_pass_42 : decode cX4_pass 42 = .ok (.dup, 1) := by decide +kernel
theorem dX4_pass_43 : decode cX4_pass 43 = .ok (.getfield 25, 3) := by decide +kernel
theorem dX4_pass_46 : decode cX4_pass 46 = .ok (.iconst 1, 1) := by decide +kernel
theorem dX4_pass_47 : decode cX4_pass 47 = .ok (.iadd, 1) := by decide +kernel
theorem dX4_pass_48 : decode cX4_pass 48 = .ok (.putfield 25, 3) := by decide +kernel
theorem dX4_pass_51 : decode cX4_pass 51 = .ok (.goto (-41), 3) := by decide +kernel
theorem dX4_pass_54 : decode cX4_pass 54 = .ok (.return_, 1) := by decide +kernel
theorem dX4_isDigit_0 : decode cX4_isDigit 0 = .ok (.iload_n 0, 1) := by decide +kernel
theorem dX4_isDigit_1 : decode cX4_isDigit 1 = .ok (.bipush 48, 2) := by decide +kernel
theorem dX4_isDigit_3 : decode cX4_isDigit 3 = .ok (.if_icmp .lt 13, 3) := by decide +kernel
theorem dX4_isDigit_6 : decode cX4_isDigit 6 = .ok (.iload_n 0, 1) := by decide +kernel
theorem dX4_isDigit_7 : decode cX4_isDigit 7 = .ok (.bipush 57, 2) := by decide +kernel
theorem dX4_isDigit_9 : decode cX4_isDigit 9 = .ok (.if_icmp .gt 7, 3) := by decide +kernel
theorem dX4_isDigit_12 : decode cX4_isDigit 12 = .ok (.iconst 1, 1) := by decide +kernel
theorem dX4_isDigit_13 : decode cX4_isDigit 13 = .ok (.goto 4, 3) := by decide +kernel
theorem dX4_isDigit_16 : decode cX4_isDigit 16 = .ok (.iconst 0, 1) := by decide +kernel
theorem dX4_isDigit_17 : decode cX4_isDigit 17 = .ok (.ireturn, 1) := by decide +kernel
theorem dX4_isBlank_0 : decode cX4_isBlank 0 = .ok (.iload_n 0, 1) := by decide +kernel
theorem dX4_isBlank_1 : decode cX4_isBlank 1 = .ok (.bipush 32, 2) := by decide +kernel
theorem dX4_isBlank_3 : decode cX4_isBlank 3 = .ok (.if_icmp .eq 9, 3) := by decide +kernel
theorem dX4_isBlank_6 : decode cX4_isBlank 6 = .ok (.iload_n 0, 1) := by decide +kernel
theorem dX4_isBlank_7 : decode cX4_isBlank 7 = .ok (.bipush 10, 2) := by decide +kernel
theorem dX4_isBlank_9 : decode cX4_isBlank 9 = .ok (.if_icmp .ne 7, 3) := by decide +kernel
theorem dX4_isBlank_12 : decode cX4_isBlank 12 = .ok (.iconst 1, 1) := by decide +kernel
theorem dX4_isBlank_13 : decode cX4_isBlank 13 = .ok (.goto 4, 3) := by decide +kernel
theorem dX4_isBlank_16 : decode cX4_isBlank 16 = .ok (.iconst 0, 1) := by decide +kernel
theorem dX4_isBlank_17 : decode cX4_isBlank 17 = .ok (.ireturn, 1) := by decide +kernel
theorem dX5_init_0 : decode cX5_init 0 = .ok (.aload_n 0, 1) := by decide +kernel
theorem dX5_init_1 : decode cX5_init 1 = .ok (.invokespecial 3, 3) := by decide +kernel
theorem dX5_init_4 : decode cX5_init 4 = .ok (.aload_n 0, 1) := by decide +kernel
theorem dX5_init_5 : decode cX5_init 5 = .ok (.sipush 1000, 3) := by decide +kernel
theorem dX5_init_8 : decode cX5_init 8 = .ok (.newarray .int, 2) := by decide +kernel
theorem dX5_init_10 : decode cX5_init 10 = .ok (.putfield 9, 3) := by decide +kernel
theorem dX5_init_13 : decode cX5_init 13 = .ok (.aload_n 0, 1) := by decide +kernel
theorem dX5_init_14 : decode cX5_init 14 = .ok (.sipush 1000, 3) := by decide +kernel
theorem dX5_init_17 : decode cX5_init 17 = .ok (.newarray .int, 2) := by decide +kernel
theorem dX5_init_19 : decode cX5_init 19 = .ok (.putfield 15, 3) := by decide +kernel
theorem dX5_init_22 : decode cX5_init 22 = .ok (.aload_n 0, 1) := by decide +kernel
theorem dX5_init_23 : decode cX5_init 23 = .ok (.new 18, 3) := by decide +kernel
theorem dX5_init_26 : decode cX5_init 26 = .ok (.dup, 1) := by decide +kernel
theorem dX5_init_27 : decode cX5_init 27 = .ok (.invokespecial 20, 3) := by decide +kernel
theorem dX5_init_30 : decode cX5_init 30 = .ok (.putfield 21, 3) := by decide +kernel
theorem dX5_init_33 : decode cX5_init 33 = .ok (.aload_n 0, 1) := by decide +kernel
theorem dX5_init_34 : decode cX5_init 34 = .ok (.iconst 0, 1) := by decide +kernel
theorem dX5_init_35 : decode cX5_init 35 = .ok (.putfield 25, 3) := by decide +kernel
theorem dX5_init_38 : decode cX5_init 38 = .ok (.return_, 1) := by decide +kernel
theorem dX5_length_0 : decode cX5_length 0 = .ok (.aload_n 0, 1) := by decide +kernel
theorem dX5_length_1 : decode cX5_length 1 = .ok (.getfield 25, 3) := by decide +kernel
theorem dX5_length_4 : decode cX5_length 4 = .ok (.ireturn, 1) := by decide +kernel
theorem dX5_keyIn_0 : decode cX5_keyIn 0 = .ok (.iload_n 1, 1) := by decide +kernel
theorem dX5_keyIn_1 : decode cX5_keyIn 1 = .ok (.ifCond .lt 20, 3) := by decide +kernel
theorem dX5_keyIn_4 : decode cX5_keyIn 4 = .ok (.iload_n 1, 1) := by decide +kernel
theorem dX5_keyIn_5 : decode cX5_keyIn 5 = .ok (.aload_n 0, 1) := by decide +kernel
theorem dX5_keyIn_6 : decode cX5_keyIn 6 = .ok (.getfield 25, 3) := by decide +kernel
theorem dX5_keyIn_9 : decode cX5_keyIn 9 = .ok (.if_icmp .ge 12, 3) := by decide +kernel
theorem dX5_keyIn_12 : decode cX5_keyIn 12 = .ok (.aload_n 0, 1) := by decide +kernel
theorem dX5_keyIn_13 : decode cX5_keyIn 13 = .ok (.getfield 9, 3) := by decide +kernel
theorem dX5_keyIn_16 : decode cX5_keyIn 16 = .ok (.iload_n 1, 1) := by decide +kernel
theorem dX5_keyIn_17 : decode cX5_keyIn 17 = .ok (.iaload, 1) := by decide +kernel
theorem dX5_keyIn_18 : decode cX5_keyIn 18 = .ok (.goto 4, 3) := by decide +kernel
theorem dX5_keyIn_21 : decode cX5_keyIn 21 = .ok (.iconst (-1), 1) := by decide +kernel
theorem dX5_keyIn_22 : decode cX5_keyIn 22 = .ok (.ireturn, 1) := by decide +kernel
theorem dX5_distanceIn_0 : decode cX5_distanceIn 0 = .ok (.iload_n 1, 1) := by decide +kernel
theorem dX5_distanceIn_1 : decode cX5_distanceIn 1 = .ok (.ifCond .lt 20, 3) := by decide +kernel
theorem dX5_distanceIn_4 : decode cX5_distanceIn 4 = .ok (.iload_n 1, 1) := by decide +kernel
theorem dX5_distanceIn_5 : decode cX5_distanceIn 5 = .ok (.aload_n 0, 1) := by decide +kernel
theorem dX5_distanceIn_6 : decode cX5_distanceIn 6 = .ok (.getfield 25, 3) := by decide +kernel
theorem dX5_distanceIn_9 : decode cX5_distanceIn 9 = .ok (.if_icmp .ge 12, 3) := by decide +kernel
theorem dX5_distanceIn_12 : decode cX5_distanceIn 12 = .ok (.aload_n 0, 1) := by decide +kernel
theorem dX5_distanceIn_13 : decode cX5_distanceIn 13 = .ok (.getfield 15, 3) := by decide +kernel
theorem dX5_distanceIn_16 : decode cX5_distanceIn 16 = .ok (.iload_n 1, 1) := by decide +kernel
theorem dX5_distanceIn_17 : decode cX5_distanceIn 17 = .ok (.iaload, 1) := by decide +kernel
theorem dX5_distanceIn_18 : decode cX5_distanceIn 18 = .ok (.goto 4, 3) := by decide +kernel
theorem dX5_distanceIn_21 : decode cX5_distanceIn 21 = .ok (.iconst (-1), 1) := by decide +kernel
theorem dX5_distanceIn_22 : decode cX5_distanceIn 22 = .ok (.ireturn, 1) := by decide +kernel
theorem dX5_note_0 : decode cX5_note 0 = .ok (.aload_n 0, 1) := by decide +kernel
theorem dX5_note_1 : decode cX5_note 1 = .ok (.getfield 25, 3) := by decide +kernel
theorem dX5_note_4 : decode cX5_note 4 = .ok (.sipush 1000, 3) := by decide +kernel
theorem dX5_note_7 : decode cX5_note 7 = .ok (.if_icmp .lt 4, 3) := by decide +kernel
theorem dX5_note_10 : decode cX5_note 10 = .ok (.return_, 1) := by decide +kernel
theorem dX5_note_11 : decode cX5_note 11 = .ok (.aload_n 0, 1) := by decide +kernel
theorem dX5_note_12 : decode cX5_note 12 = .ok (.getfield 9, 3) := by decide +kernel
theorem dX5_note_15 : decode cX5_note 15 = .ok (.aload_n 0, 1) := by decide +kernel
theorem dX5_note_16 : decode cX5_note 16 = .ok (.getfield 25, 3) := by decide +kernel
theorem dX5_note_19 : decode cX5_note 19 = .ok (.iload_n 1, 1) := by decide +kernel
theorem dX5_note_20 : decode cX5_note 20 = .ok (.iastore, 1) := by decide +kernel
theorem dX5_note_21 : decode cX5_note 21 = .ok (.aload_n 0, 1) := by decide +kernel
theorem dX5_note_22 : decode cX5_note 22 = .ok (.getfield 15, 3) := by decide +kernel
theorem dX5_note_25 : decode cX5_note 25 = .ok (.aload_n 0, 1) := by decide +kernel
theorem dX5_note_26 : decode cX5_note 26 = .ok (.getfield 25, 3) := by decide +kernel
theorem dX5_note_29 : decode cX5_note 29 = .ok (.aload_n 0, 1) := by decide +kernel
theorem dX5_note_30 : decode cX5_note 30 = .ok (.iload_n 1, 1) := by decide +kernel
theorem dX5_note_31 : decode cX5_note 31 = .ok (.invokevirtual 29, 3) := by decide +kernel
theorem dX5_note_34 : decode cX5_note 34 = .ok (.iastore, 1) := by decide +kernel
theorem dX5_note_35 : decode cX5_note 35 = .ok (.aload_n 0, 1) := by decide +kernel
theorem dX5_note_36 : decode cX5_note 36 = .ok (.dup, 1) := by decide +kernel
theorem dX5_note_37 : decode cX5_note 37 = .ok (.getfield 25, 3) := by decide +kernel
theorem dX5_note_40 : decode cX5_note 40 = .ok (.iconst 1, 1) := by decide +kernel
theorem dX5_note_41 : decode cX5_note 41 = .ok (.iadd, 1) := by decide +kernel
theorem dX5_note_42 : decode cX5_note 42 = .ok (.putfield 25, 3) := by decide +kernel
theorem dX5_note_45 : decode cX5_note 45 = .ok (.aload_n 0, 1) := by decide +kernel
theorem dX5_note_46 : decode cX5_note 46 = .ok (.getfield 21, 3) := by decide +kernel
theorem dX5_note_49 : decode cX5_note 49 = .ok (.iload_n 1, 1) := by decide +kernel
theorem dX5_note_50 : decode cX5_note 50 = .ok (.invokevirtual 33, 3) := by decide +kernel
theorem dX5_note_53 : decode cX5_note 53 = .ok (.pop, 1) := by decide +kernel
theorem dX5_note_54 : decode cX5_note 54 = .ok (.return_, 1) := by decide +kernel
theorem dX5_countBelow_0 : decode cX5_countBelow 0 = .ok (.iconst 0, 1) := by decide +kernel
theorem dX5_countBelow_1 : decode cX5_countBelow 1 = .ok (.istore_n 2, 1) := by decide +kernel
theorem dX5_countBelow_2 : decode cX5_countBelow 2 = .ok (.iconst 0, 1) := by decide +kernel
theorem dX5_countBelow_3 : decode cX5_countBelow 3 = .ok (.istore_n 3, 1) := by decide +kernel
theorem dX5_countBelow_4 : decode cX5_countBelow 4 = .ok (.iload_n 3, 1) := by decide +kernel
theorem dX5_countBelow_5 : decode cX5_countBelow 5 = .ok (.aload_n 0, 1) := by decide +kernel
theorem dX5_countBelow_6 : decode cX5_countBelow 6 = .ok (.getfield 25, 3) := by decide +kernel
theorem dX5_countBelow_9 : decode cX5_countBelow 9 = .ok (.if_icmp .ge 32, 3) := by decide +kernel
theorem dX5_countBelow_12 : decode cX5_countBelow 12 = .ok (.aload_n 0, 1) := by decide +kernel
theorem dX5_countBelow_13 : decode cX5_countBelow 13 = .ok (.getfield 15, 3) := by decide +kernel
theorem dX5_countBelow_16 : decode cX5_countBelow 16 = .ok (.iload_n 3, 1) := by decide +kernel
theorem dX5_countBelow_17 : decode cX5_countBelow 17 = .ok (.iaload, 1) := by decide +kernel
theorem dX5_countBelow_18 : decode cX5_countBelow 18 = .ok (.iconst (-1), 1) := by decide +kernel
theorem dX5_countBelow_19 : decode cX5_countBelow 19 = .ok (.if_icmp .eq 16, 3) := by decide +kernel
theorem dX5_countBelow_22 : decode cX5_countBelow 22 = .ok (.aload_n 0, 1) := by decide +kernel
theorem dX5_countBelow_23 : decode cX5_countBelow 23 = .ok (.getfield 15, 3) := by decide +kernel
theorem dX5_countBelow_26 : decode cX5_countBelow 26 = .ok (.iload_n 3, 1) := by decide +kernel
theorem dX5_countBelow_27 : decode cX5_countBelow 27 = .ok (.iaload, 1) := by decide +kernel
theorem dX5_countBelow_28 : decode cX5_countBelow 28 = .ok (.iload_n 1, 1) := by decide +kernel
theorem dX5_countBelow_29 : decode cX5_countBelow 29 = .ok (.if_icmp .ge 6, 3) := by decide +kernel
theorem dX5_countBelow_32 : decode cX5_countBelow 32 = .ok (.iinc 2 1, 3) := by decide +kernel
theorem dX5_countBelow_35 : decode cX5_countBelow 35 = .ok (.iinc 3 1, 3) := by decide +kernel
theorem dX5_countBelow_38 : decode cX5_countBelow 38 = .ok (.goto (-34), 3) := by decide +kernel
theorem dX5_countBelow_41 : decode cX5_countBelow 41 = .ok (.iload_n 2, 1) := by decide +kernel
theorem dX5_countBelow_42 : decode cX5_countBelow 42 = .ok (.ireturn, 1) := by decide +kernel
theorem dX5_distanceTotal_0 : decode cX5_distanceTotal 0 = .ok (.iconst 0, 1) := by decide +kernel
theorem dX5_distanceTotal_1 : decode cX5_distanceTotal 1 = .ok (.istore_n 1, 1) := by decide +kernel
theorem dX5_distanceTotal_2 : decode cX5_distanceTotal 2 = .ok (.iconst 0, 1) := by decide +kernel
theorem dX5_distanceTotal_3 : decode cX5_distanceTotal 3 = .ok (.istore_n 2, 1) := by decide +kernel
theorem dX5_distanceTotal_4 : decode cX5_distanceTotal 4 = .ok (.iload_n 2, 1) := by decide +kernel
theorem dX5_distanceTotal_5 : decode cX5_distanceTotal 5 = .ok (.aload_n 0, 1) := by decide +kernel
theorem dX5_distanceTotal_6 : decode cX5_distanceTotal 6 = .ok (.getfield 25, 3) := by decide +kernel
theorem dX5_distanceTotal_9 : decode cX5_distanceTotal 9 = .ok (.if_icmp .ge 28, 3) := by decide +kernel
theorem dX5_distanceTotal_12 : decode cX5_distanceTotal 12 = .ok (.aload_n 0, 1) := by decide +kernel
theorem dX5_distanceTotal_13 : decode cX5_distanceTotal 13 = .ok (.getfield 15, 3) := by decide +kernel
theorem dX5_distanceTotal_16 : decode cX5_distanceTotal 16 = .ok (.iload_n 2, 1) := by decide +kernel
theorem dX5_distanceTotal_17 : decode cX5_distanceTotal 17 = .ok (.iaload, 1) := by decide +kernel
theorem dX5_distanceTotal_18 : decode cX5_distanceTotal 18 = .ok (.iconst (-1), 1) := by decide +kernel
theorem dX5_distanceTotal_19 : decode cX5_distanceTotal 19 = .ok (.if_icmp .eq 12, 3) := by decide +kernel
theorem dX5_distanceTotal_22 : decode cX5_distanceTotal 22 = .ok (.iload_n 1, 1) := by decide +kernel
theorem dX5_distanceTotal_23 : decode cX5_distanceTotal 23 = .ok (.aload_n 0, 1) := by decide +kernel
theorem dX5_distanceTotal_24 : decode cX5_distanceTotal 24 = .ok (.getfield 15, 3) := by decide +kernel
theorem dX5_distanceTotal_27 : decode cX5_distanceTotal 27 = .ok (.iload_n 2, 1) := by decide +kernel
theorem dX5_distanceTotal_28 : decode cX5_distanceTotal 28 = .ok (.iaload, 1) := by decide +kernel
theorem dX5_distanceTotal_29 : decode cX5_distanceTotal 29 = .ok (.iadd, 1) := by decide +kernel
theorem dX5_distanceTotal_30 : decode cX5_distanceTotal 30 = .ok (.istore_n 1, 1) := by decide +kernel
theorem dX5_distanceTotal_31 : decode cX5_distanceTotal 31 = .ok (.iinc 2 1, 3) := by decide +kernel
theorem dX5_distanceTotal_34 : decode cX5_distanceTotal 34 = .ok (.goto (-30), 3) := by decide +kernel
theorem dX5_distanceTotal_37 : decode cX5_distanceTotal 37 = .ok (.iload_n 1, 1) := by decide +kernel
theorem dX5_distanceTotal_38 : decode cX5_distanceTotal 38 = .ok (.ireturn, 1) := by decide +kernel
theorem dX5_restart_0 : decode cX5_restart 0 = .ok (.aload_n 0, 1) := by decide +kernel
theorem dX5_restart_1 : decode cX5_restart 1 = .ok (.iconst 0, 1) := by decide +kernel
theorem dX5_restart_2 : decode cX5_restart 2 = .ok (.putfield 25, 3) := by decide +kernel
theorem dX5_restart_5 : decode cX5_restart 5 = .ok (.aload_n 0, 1) := by decide +kernel
theorem dX5_restart_6 : decode cX5_restart 6 = .ok (.getfield 21, 3) := by decide +kernel
theorem dX5_restart_9 : decode cX5_restart 9 = .ok (.invokevirtual 37, 3) := by decide +kernel
theorem dX5_restart_12 : decode cX5_restart 12 = .ok (.return_, 1) := by decide +kernel
theorem dX5_distanceTo_0 : decode cX5_distanceTo 0 = .ok (.aload_n 0, 1) := by decide +kernel
theorem dX5_distanceTo_1 : decode cX5_distanceTo 1 = .ok (.getfield 21, 3) := by decide +kernel
theorem dX5_distanceTo_4 : decode cX5_distanceTo 4 = .ok (.iload_n 1, 1) := by decide +kernel
theorem dX5_distanceTo_5 : decode cX5_distanceTo 5 = .ok (.invokevirtual 40, 3) := by decide +kernel
theorem dX5_distanceTo_8 : decode cX5_distanceTo 8 = .ok (.istore_n 2, 1) := by decide +kernel
theorem dX5_distanceTo_9 : decode cX5_distanceTo 9 = .ok (.iload_n 2, 1) := by decide +kernel
theorem dX5_distanceTo_10 : decode cX5_distanceTo 10 = .ok (.iconst (-1), 1) := by decide +kernel
theorem dX5_distanceTo_11 : decode cX5_distanceTo 11 = .ok (.if_icmp .ne 7, 3) := by decide +kernel
theorem dX5_distanceTo_14 : decode cX5_distanceTo 14 = .ok (.iconst (-1), 1) := by decide +kernel
theorem dX5_distanceTo_15 : decode cX5_distanceTo 15 = .ok (.goto 14, 3) := by decide +kernel
theorem dX5_distanceTo_18 : decode cX5_distanceTo 18 = .ok (.aload_n 0, 1) := by decide +kernel
theorem dX5_distanceTo_19 : decode cX5_distanceTo 19 = .ok (.getfield 21, 3) := by decide +kernel
theorem dX5_distanceTo_22 : decode cX5_distanceTo 22 = .ok (.invokevirtual 43, 3) := by decide +kernel
theorem dX5_distanceTo_25 : decode cX5_distanceTo 25 = .ok (.iconst 1, 1) := by decide +kernel
theorem dX5_distanceTo_26 : decode cX5_distanceTo 26 = .ok (.isub, 1) := by decide +kernel
theorem dX5_distanceTo_27 : decode cX5_distanceTo 27 = .ok (.iload_n 2, 1) := by decide +kernel
theorem dX5_distanceTo_28 : decode cX5_distanceTo 28 = .ok (.isub, 1) := by decide +kernel
theorem dX5_distanceTo_29 : decode cX5_distanceTo 29 = .ok (.ireturn, 1) := by decide +kernel
theorem dX6_init_0 : decode cX6_init 0 = .ok (.aload_n 0, 1) := by decide +kernel
theorem dX6_init_1 : decode cX6_init 1 = .ok (.invokespecial 3, 3) := by decide +kernel
theorem dX6_init_4 : decode cX6_init 4 = .ok (.aload_n 0, 1) := by decide +kernel
theorem dX6_init_5 : decode cX6_init 5 = .ok (.sipush 300, 3) := by decide +kernel
theorem dX6_init_8 : decode cX6_init 8 = .ok (.newarray .int, 2) := by decide +kernel
theorem dX6_init_10 : decode cX6_init 10 = .ok (.putfield 9, 3) := by decide +kernel
theorem dX6_init_13 : decode cX6_init 13 = .ok (.aload_n 0, 1) := by decide +kernel
theorem dX6_init_14 : decode cX6_init 14 = .ok (.iconst 0, 1) := by decide +kernel
theorem dX6_init_15 : decode cX6_init 15 = .ok (.putfield 15, 3) := by decide +kernel
theorem dX6_init_18 : decode cX6_init 18 = .ok (.return_, 1) := by decide +kernel
theorem dX6_bytesOf_0 : decode cX6_bytesOf 0 = .ok (.iconst 0, 1) := by decide +kernel
theorem dX6_bytesOf_1 : decode cX6_bytesOf 1 = .ok (.istore_n 1, 1) := by decide +kernel
theorem dX6_bytesOf_2 : decode cX6_bytesOf 2 = .ok (.bipush 24, 2) := by decide +kernel
theorem dX6_bytesOf_4 : decode cX6_bytesOf 4 = .ok (.istore_n 2, 1) := by decide +kernel
theorem dX6_bytesOf_5 : decode cX6_bytesOf 5 = .ok (.iload_n 2, 1) := by decide +kernel
theorem dX6_bytesOf_6 : decode cX6_bytesOf 6 = .ok (.ifCond .lt 22, 3) := by decide +kernel
theorem dX6_bytesOf_9 : decode cX6_bytesOf 9 = .ok (.iload_n 0, 1) := by decide +kernel
theorem dX6_bytesOf_10 : decode cX6_bytesOf 10 = .ok (.iload_n 2, 1) := by decide +kernel
theorem dX6_bytesOf_11 : decode cX6_bytesOf 11 = .ok (.iushr, 1) := by decide +kernel
theorem dX6_bytesOf_12 : decode cX6_bytesOf 12 = .ok (.sipush 255, 3) := by decide +kernel
theorem dX6_bytesOf_15 : decode cX6_bytesOf 15 = .ok (.iand, 1) := by decide +kernel
theorem dX6_bytesOf_16 : decode cX6_bytesOf 16 = .ok (.ifCond .eq 6, 3) := by decide +kernel
theorem dX6_bytesOf_19 : decode cX6_bytesOf 19 = .ok (.iinc 1 1, 3) := by decide +kernel
theorem dX6_bytesOf_22 : decode cX6_bytesOf 22 = .ok (.iinc 2 (-8), 3) := by decide +kernel
theorem dX6_bytesOf_25 : decode cX6_bytesOf 25 = .ok (.goto (-20), 3) := by decide +kernel
theorem dX6_bytesOf_28 : decode cX6_bytesOf 28 = .ok (.iload_n 1, 1) := by decide +kernel
theorem dX6_bytesOf_29 : decode cX6_bytesOf 29 = .ok (.ireturn, 1) := by decide +kernel
theorem dX6_length_0 : decode cX6_length 0 = .ok (.aload_n 0, 1) := by decide +kernel
theorem dX6_length_1 : decode cX6_length 1 = .ok (.getfield 15, 3) := by decide +kernel
theorem dX6_length_4 : decode cX6_length 4 = .ok (.ireturn, 1) := by decide +kernel
theorem dX6_byteIn_0 : decode cX6_byteIn 0 = .ok (.iload_n 1, 1) := by decide +kernel
theorem dX6_byteIn_1 : decode cX6_byteIn 1 = .ok (.ifCond .lt 20, 3) := by decide +kernel
theorem dX6_byteIn_4 : decode cX6_byteIn 4 = .ok (.iload_n 1, 1) := by decide +kernel
theorem dX6_byteIn_5 : decode cX6_byteIn 5 = .ok (.aload_n 0, 1) := by decide +kernel
theorem dX6_byteIn_6 : decode cX6_byteIn 6 = .ok (.getfield 15, 3) := by decide +kernel
theorem dX6_byteIn_9 : decode cX6_byteIn 9 = .ok (.if_icmp .ge 12, 3) := by decide +kernel
theorem dX6_byteIn_12 : decode cX6_byteIn 12 = .ok (.aload_n 0, 1) := by decide +kernel
theorem dX6_byteIn_13 : decode cX6_byteIn 13 = .ok (.getfield 9, 3) := by decide +kernel
theorem dX6_byteIn_16 : decode cX6_byteIn 16 = .ok (.iload_n 1, 1) := by decide +kernel
theorem dX6_byteIn_17 : decode cX6_byteIn 17 = .ok (.iaload, 1) := by decide +kernel
theorem dX6_byteIn_18 : decode cX6_byteIn 18 = .ok (.goto 4, 3) := by decide +kernel
theorem dX6_byteIn_21 : decode cX6_byteIn 21 = .ok (.iconst (-1), 1) := by decide +kernel
theorem dX6_byteIn_22 : decode cX6_byteIn 22 = .ok (.ireturn, 1) := by decide +kernel
theorem dX6_addBytes_0 : decode cX6_addBytes 0 = .ok (.bipush 24, 2) := by decide +kernel
theorem dX6_addBytes_2 : decode cX6_addBytes 2 = .ok (.istore_n 2, 1) := by decide +kernel
theorem dX6_addBytes_3 : decode cX6_addBytes 3 = .ok (.iload_n 2, 1) := by decide +kernel
theorem dX6_addBytes_4 : decode cX6_addBytes 4 = .ok (.ifCond .lt 51, 3) := by decide +kernel
theorem dX6_addBytes_7 : decode cX6_addBytes 7 = .ok (.iload_n 1, 1) := by decide +kernel
theorem dX6_addBytes_8 : decode cX6_addBytes 8 = .ok (.iload_n 2, 1) := by decide +kernel
theorem dX6_addBytes_9 : decode cX6_addBytes 9 = .ok (.iushr, 1) := by decide +kernel
theorem dX6_addBytes_10 : decode cX6_addBytes 10 = .ok (.sipush 255, 3) := by decide +kernel
theorem dX6_addBytes_13 : decode cX6_addBytes 13 = .ok (.iand, 1) := by decide +kernel
theorem dX6_addBytes_14 : decode cX6_addBytes 14 = .ok (.istore_n 3, 1) := by decide +kernel
theorem dX6_addBytes_15 : decode cX6_addBytes 15 = .ok (.iload_n 3, 1) := by decide +kernel
theorem dX6_addBytes_16 : decode cX6_addBytes 16 = .ok (.ifCond .eq 33, 3) := by decide +kernel
theorem dX6_addBytes_19 : decode cX6_addBytes 19 = .ok (.aload_n 0, 1) := by decide +kernel
theorem dX6_addBytes_20 : decode cX6_addBytes 20 = .ok (.getfield 15, 3) := by decide +kernel
theorem dX6_addBytes_23 : decode cX6_addBytes 23 = .ok (.sipush 300, 3) := by decide +kernel
theorem dX6_addBytes_26 : decode cX6_addBytes 26 = .ok (.if_icmp .ge 23, 3) := by decide +kernel
theorem dX6_addBytes_29 : decode cX6_addBytes 29 = .ok (.aload_n 0, 1) := by decide +kernel
theorem dX6_addBytes_30 : decode cX6_addBytes 30 = .ok (.getfield 9, 3) := by decide +kernel
theorem dX6_addBytes_33 : decode cX6_addBytes 33 = .ok (.aload_n 0, 1) := by decide +kernel
theorem dX6_addBytes_34 : decode cX6_addBytes 34 = .ok (.getfield 15, 3) := by decide +kernel
theorem dX6_addBytes_37 : decode cX6_addBytes 37 = .ok (.iload_n 3, 1) := by decide +kernel
theorem dX6_addBytes_38 : decode cX6_addBytes 38 = .ok (.iastore, 1) := by decide +kernel
theorem dX6_addBytes_39 : decode cX6_addBytes 39 = .ok (.aload_n 0, 1) := by decide +kernel
theorem dX6_addBytes_40 : decode cX6_addBytes 40 = .ok (.dup, 1) := by decide +kernel
theorem dX6_addBytes_41 : decode cX6_addBytes 41 = .ok (.getfield 15, 3) := by decide +kernel
theorem dX6_addBytes_44 : decode cX6_addBytes 44 = .ok (.iconst 1, 1) := by decide +kernel
theorem dX6_addBytes_45 : decode cX6_addBytes 45 = .ok (.iadd, 1) := by decide +kernel
theorem dX6_addBytes_46 : decode cX6_addBytes 46 = .ok (.putfield 15, 3) := by decide +kernel
theorem dX6_addBytes_49 : decode cX6_addBytes 49 = .ok (.iinc 2 (-8), 3) := by decide +kernel
theorem dX6_addBytes_52 : decode cX6_addBytes 52 = .ok (.goto (-49), 3) := by decide +kernel
theorem dX6_addBytes_55 : decode cX6_addBytes 55 = .ok (.return_, 1) := by decide +kernel
theorem dX6_empty_0 : decode cX6_empty 0 = .ok (.aload_n 0, 1) := by decide +kernel
theorem dX6_empty_1 : decode cX6_empty 1 = .ok (.getfield 15, 3) := by decide +kernel
theorem dX6_empty_4 : decode cX6_empty 4 = .ok (.istore_n 1, 1) := by decide +kernel
theorem dX6_empty_5 : decode cX6_empty 5 = .ok (.aload_n 0, 1) := by decide +kernel
theorem dX6_empty_6 : decode cX6_empty 6 = .ok (.iconst 0, 1) := by decide +kernel
theorem dX6_empty_7 : decode cX6_empty 7 = .ok (.putfield 15, 3) := by decide +kernel
theorem dX6_empty_10 : decode cX6_empty 10 = .ok (.iload_n 1, 1) := by decide +kernel
theorem dX6_empty_11 : decode cX6_empty 11 = .ok (.ireturn, 1) := by decide +kernel
theorem dX7_init_0 : decode cX7_init 0 = .ok (.aload_n 0, 1) := by decide +kernel
theorem dX7_init_1 : decode cX7_init 1 = .ok (.invokespecial 3, 3) := by decide +kernel
theorem dX7_init_4 : decode cX7_init 4 = .ok (.aload_n 0, 1) := by decide +kernel
theorem dX7_init_5 : decode cX7_init 5 = .ok (.new 9, 3) := by decide +kernel
theorem dX7_init_8 : decode cX7_init 8 = .ok (.dup, 1) := by decide +kernel
theorem dX7_init_9 : decode cX7_init 9 = .ok (.invokespecial 11, 3) := by decide +kernel
theorem dX7_init_12 : decode cX7_init 12 = .ok (.putfield 12, 3) := by decide +kernel
theorem dX7_init_15 : decode cX7_init 15 = .ok (.aload_n 0, 1) := by decide +kernel
theorem dX7_init_16 : decode cX7_init 16 = .ok (.new 18, 3) := by decide +kernel
theorem dX7_init_19 : decode cX7_init 19 = .ok (.dup, 1) := by decide +kernel
theorem dX7_init_20 : decode cX7_init 20 = .ok (.invokespecial 20, 3) := by decide +kernel
theorem dX7_init_23 : decode cX7_init 23 = .ok (.putfield 21, 3) := by decide +kernel
theorem dX7_init_26 : decode cX7_init 26 = .ok (.aload_n 0, 1) := by decide +kernel
theorem dX7_init_27 : decode cX7_init 27 = .ok (.bipush 100, 2) := by decide +kernel
theorem dX7_init_29 : decode cX7_init 29 = .ok (.newarray .int, 2) := by decide +kernel
theorem dX7_init_31 : decode cX7_init 31 = .ok (.putfield 25, 3) := by decide +kernel
theorem dX7_init_34 : decode cX7_init 34 = .ok (.aload_n 0, 1) := by decide +kernel
theorem dX7_init_35 : decode cX7_init 35 = .ok (.iconst 0, 1) := by decide +kernel
theorem dX7_init_36 : decode cX7_init 36 = .ok (.putfield 29, 3) := by decide +kernel
theorem dX7_init_39 : decode cX7_init 39 = .ok (.aload_n 0, 1) := by decide +kernel
theorem dX7_init_40 : decode cX7_init 40 = .ok (.iconst (-1), 1) := by decide +kernel
theorem dX7_init_41 : decode cX7_init 41 = .ok (.putfield 33, 3) := by decide +kernel
theorem dX7_init_44 : decode cX7_init 44 = .ok (.aload_n 0, 1) := by decide +kernel
theorem dX7_init_45 : decode cX7_init 45 = .ok (.iload_n 1, 1) := by decide +kernel
theorem dX7_init_46 : decode cX7_init 46 = .ok (.putfield 36, 3) := by decide +kernel
theorem dX7_init_49 : decode cX7_init 49 = .ok (.return_, 1) := by decide +kernel
theorem dX7_keys_0 : decode cX7_keys 0 = .ok (.aload_n 0, 1) := by decide +kernel
theorem dX7_keys_1 : decode cX7_keys 1 = .ok (.getfield 12, 3) := by decide +kernel
theorem dX7_keys_4 : decode cX7_keys 4 = .ok (.areturn, 1) := by decide +kernel
theorem dX7_cursor_0 : decode cX7_cursor 0 = .ok (.aload_n 0, 1) := by decide +kernel
theorem dX7_cursor_1 : decode cX7_cursor 1 = .ok (.getfield 21, 3) := by decide +kernel
theorem dX7_cursor_4 : decode cX7_cursor 4 = .ok (.areturn, 1) := by decide +kernel
theorem dX7_outCount_0 : decode cX7_outCount 0 = .ok (.aload_n 0, 1) := by decide +kernel
theorem dX7_outCount_1 : decode cX7_outCount 1 = .ok (.getfield 29, 3) := by decide +kernel
theorem dX7_outCount_4 : decode cX7_outCount 4 = .ok (.ireturn, 1) := by decide +kernel
theorem dX7_outLast_0 : decode cX7_outLast 0 = .ok (.aload_n 0, 1) := by decide +kernel
theorem dX7_outLast_1 : decode cX7_outLast 1 = .ok (.getfield 33, 3) := by decide +kernel
theorem dX7_outLast_4 : decode cX7_outLast 4 = .ok (.ireturn, 1) := by decide +kernel
theorem dX7_lookUp_0 : decode cX7_lookUp 0 = .ok (.iload_n 1, 1) := by decide +kernel
theorem dX7_lookUp_1 : decode cX7_lookUp 1 = .ok (.ifCond .lt 29, 3) := by decide +kernel
theorem dX7_lookUp_4 : decode cX7_lookUp 4 = .ok (.iload_n 1, 1) := by decide +kernel
theorem dX7_lookUp_5 : decode cX7_lookUp 5 = .ok (.bipush 100, 2) := by decide +kernel
theorem dX7_lookUp_7 : decode cX7_lookUp 7 = .ok (.if_icmp .ge 23, 3) := by decide +kernel
theorem dX7_lookUp_10 : decode cX7_lookUp 10 = .ok (.aload_n 0, 1) := by decide +kernel
theorem dX7_lookUp_11 : decode cX7_lookUp 11 = .ok (.getfield 12, 3) := by decide +kernel
theorem dX7_lookUp_14 : decode cX7_lookUp 14 = .ok (.iload_n 1, 1) := by decide +kernel
theorem dX7_lookUp_15 : decode cX7_lookUp 15 = .ok (.invokevirtual 39, 3) := by decide +kernel
theorem dX7_lookUp_18 : decode cX7_lookUp 18 = .ok (.ifCond .eq 12, 3) := by decide +kernel
theorem dX7_lookUp_21 : decode cX7_lookUp 21 = .ok (.aload_n 0, 1) := by decide +kernel
theorem dX7_lookUp_22 : decode cX7_lookUp 22 = .ok (.getfield 25, 3) := by decide +kernel
theorem dX7_lookUp_25 : decode cX7_lookUp 25 = .ok (.iload_n 1, 1) := by decide +kernel
theorem dX7_lookUp_26 : decode cX7_lookUp 26 = .ok (.iaload, 1) := by decide +kernel
theorem dX7_lookUp_27 : decode cX7_lookUp 27 = .ok (.goto 4, 3) := by decide +kernel
theorem dX7_lookUp_30 : decode cX7_lookUp 30 = .ok (.iconst (-1), 1) := by decide +kernel
theorem dX7_lookUp_31 : decode cX7_lookUp 31 = .ok (.ireturn, 1) := by decide +kernel
theorem dX7_valueIn_0 : decode cX7_valueIn 0 = .ok (.aload_n 0, 1) := by decide +kernel
theorem dX7_valueIn_1 : decode cX7_valueIn 1 = .ok (.aload_n 0, 1) := by decide +kernel
theorem dX7_valueIn_2 : decode cX7_valueIn 2 = .ok (.getfield 12, 3) := by decide +kernel
theorem dX7_valueIn_5 : decode cX7_valueIn 5 = .ok (.iload_n 1, 1) := by decide +kernel
theorem dX7_valueIn_6 : decode cX7_valueIn 6 = .ok (.invokevirtual 43, 3) := by decide +kernel
theorem dX7_valueIn_9 : decode cX7_valueIn 9 = .ok (.invokevirtual 47, 3) := by decide +kernel
theorem dX7_valueIn_12 : decode cX7_valueIn 12 = .ok (.ireturn, 1) := by decide +kernel
theorem dX7_store_0 : decode cX7_store 0 = .ok (.aload_n 0, 1) := by decide +kernel
theorem dX7_store_1 : decode cX7_store 1 = .ok (.iload_n 1, 1) := by decide +kernel
theorem dX7_store_2 : decode cX7_store 2 = .ok (.invokevirtual 47, 3) := by decide +kernel
theorem dX7_store_5 : decode cX7_store 5 = .ok (.istore_n 3, 1) := by decide +kernel
theorem dX7_store_6 : decode cX7_store 6 = .ok (.aload_n 0, 1) := by decide +kernel
theorem dX7_store_7 : decode cX7_store 7 = .ok (.getfield 21, 3) := by decide +kernel
theorem dX7_store_10 : decode cX7_store 10 = .ok (.invokevirtual 50, 3) := by decide +kernel
theorem dX7_store_13 : decode cX7_store 13 = .ok (.iload_n 1, 1) := by decide +kernel
theorem dX7_store_14 : decode cX7_store 14 = .ok (.ifCond .lt 40, 3) := by decide +kernel
theorem dX7_store_17 : decode cX7_store 17 = .ok (.iload_n 1, 1) := by decide +kernel
theorem dX7_store_18 : decode cX7_store 18 = .ok (.bipush 100, 2) := by decide +kernel
theorem dX7_store_20 : decode cX7_store 20 = .ok (.if_icmp .ge 34, 3) := by decide +kernel
theorem dX7_store_23 : decode cX7_store 23 = .ok (.aload_n 0, 1) := by decide +kernel
theorem dX7_store_24 : decode cX7_store 24 = .ok (.getfield 12, 3) := by decide +kernel
theorem dX7_store_27 : decode cX7_store 27 = .ok (.iload_n 1, 1) := by decide +kernel
theorem dX7_store_28 : decode cX7_store 28 = .ok (.invokevirtual 53, 3) := by decide +kernel
theorem dX7_store_31 : decode cX7_store 31 = .ok (.pop, 1) := by decide +kernel
theorem dX7_store_32 : decode cX7_store 32 = .ok (.aload_n 0, 1) := by decide +kernel
theorem dX7_store_33 : decode cX7_store 33 = .ok (.getfield 25, 3) := by decide +kernel
theorem dX7_store_36 : decode cX7_store 36 = .ok (.iload_n 1, 1) := by decide +kernel
theorem dX7_store_37 : decode cX7_store 37 = .ok (.iload_n 2, 1) := by decide +kernel
theorem dX7_store_38 : decode cX7_store 38 = .ok (.iastore, 1) := by decide +kernel
theorem dX7_store_39 : decode cX7_store 39 = .ok (.aload_n 0, 1) := by decide +kernel
theorem dX7_store_40 : decode cX7_store 40 = .ok (.aload_n 0, 1) := by decide +kernel
theorem dX7_store_41 : decode cX7_store 41 = .ok (.getfield 12, 3) := by decide +kernel
theorem dX7_store_44 : decode cX7_store 44 = .ok (.aload_n 0, 1) := by decide +kernel
theorem dX7_store_45 : decode cX7_store 45 = .ok (.getfield 36, 3) := by decide +kernel
theorem dX7_store_48 : decode cX7_store 48 = .ok (.invokevirtual 56, 3) := by decide +kernel
theorem dX7_store_51 : decode cX7_store 51 = .ok (.invokevirtual 59, 3) := by decide +kernel
theorem dX7_store_54 : decode cX7_store 54 = .ok (.iload_n 3, 1) := by decide +kernel
theorem dX7_store_55 : decode cX7_store 55 = .ok (.ireturn, 1) := by decide +kernel
theorem dX7_storeIfMissing_0 : decode cX7_storeIfMissing 0 = .ok (.aload_n 0, 1) := by decide +kernel
theorem dX7_storeIfMissing_1 : decode cX7_storeIfMissing 1 = .ok (.iload_n 1, 1) := by decide +kernel
theorem dX7_storeIfMissing_2 : decode cX7_storeIfMissing 2 = .ok (.invokevirtual 47, 3) := by decide +kernel
theorem dX7_storeIfMissing_5 : decode cX7_storeIfMissing 5 = .ok (.istore_n 3, 1) := by decide +kernel
theorem dX7_storeIfMissing_6 : decode cX7_storeIfMissing 6 = .ok (.aload_n 0, 1) := by decide +kernel
theorem dX7_storeIfMissing_7 : decode cX7_storeIfMissing 7 = .ok (.iload_n 1, 1) := by decide +kernel
theorem dX7_storeIfMissing_8 : decode cX7_storeIfMissing 8 = .ok (.iload_n 3, 1) := by decide +kernel
theorem dX7_storeIfMissing_9 : decode cX7_storeIfMissing 9 = .ok (.iconst (-1), 1) := by decide +kernel
theorem dX7_storeIfMissing_10 : decode cX7_storeIfMissing 10 = .ok (.if_icmp .ne 7, 3) := by decide +kernel
theorem dX7_storeIfMissing_13 : decode cX7_storeIfMissing 13 = .ok (.iload_n 2, 1) := by decide +kernel
theorem dX7_storeIfMissing_14 : decode cX7_storeIfMissing 14 = .ok (.goto 4, 3) := by decide +kernel
theorem dX7_storeIfMissing_17 : decode cX7_storeIfMissing 17 = .ok (.iload_n 3, 1) := by decide +kernel
theorem dX7_storeIfMissing_18 : decode cX7_storeIfMissing 18 = .ok (.invokevirtual 63, 3) := by decide +kernel
theorem dX7_storeIfMissing_21 : decode cX7_storeIfMissing 21 = .ok (.ireturn, 1) := by decide +kernel
theorem dX7_fetch_0 : decode cX7_fetch 0 = .ok (.aload_n 0, 1) := by decide +kernel
theorem dX7_fetch_1 : decode cX7_fetch 1 = .ok (.iload_n 1, 1) := by decide +kernel
theorem dX7_fetch_2 : decode cX7_fetch 2 = .ok (.invokevirtual 47, 3) := by decide +kernel
theorem dX7_fetch_5 : decode cX7_fetch 5 = .ok (.istore_n 2, 1) := by decide +kernel
theorem dX7_fetch_6 : decode cX7_fetch 6 = .ok (.aload_n 0, 1) := by decide +kernel
theorem dX7_fetch_7 : decode cX7_fetch 7 = .ok (.getfield 21, 3) := by decide +kernel
theorem dX7_fetch_10 : decode cX7_fetch 10 = .ok (.invokevirtual 50, 3) := by decide +kernel
theorem dX7_fetch_13 : decode cX7_fetch 13 = .ok (.iload_n 2, 1) := by decide +kernel
theorem dX7_fetch_14 : decode cX7_fetch 14 = .ok (.iconst (-1), 1) := by decide +kernel
theorem dX7_fetch_15 : decode cX7_fetch 15 = .ok (.if_icmp .eq 12, 3) := by decide +kernel
theorem dX7_fetch_18 : decode cX7_fetch 18 = .ok (.aload_n 0, 1) := by decide +kernel
theorem dX7_fetch_19 : decode cX7_fetch 19 = .ok (.getfield 12, 3) := by decide +kernel
theorem dX7_fetch_22 : decode cX7_fetch 22 = .ok (.iload_n 1, 1) := by decide +kernel
theorem dX7_fetch_23 : decode cX7_fetch 23 = .ok (.invokevirtual 53, 3) := by decide +kernel
theorem dX7_fetch_26 : decode cX7_fetch 26 = .ok (.pop, 1) := by decide +kernel
theorem dX7_fetch_27 : decode cX7_fetch 27 = .ok (.iload_n 2, 1) := by decide +kernel
theorem dX7_fetch_28 : decode cX7_fetch 28 = .ok (.ireturn, 1) := by decide +kernel
theorem dX7_drop_0 : decode cX7_drop 0 = .ok (.aload_n 0, 1) := by decide +kernel
theorem dX7_drop_1 : decode cX7_drop 1 = .ok (.iload_n 1, 1) := by decide +kernel
theorem dX7_drop_2 : decode cX7_drop 2 = .ok (.invokevirtual 47, 3) := by decide +kernel
theorem dX7_drop_5 : decode cX7_drop 5 = .ok (.istore_n 2, 1) := by decide +kernel
theorem dX7_drop_6 : decode cX7_drop 6 = .ok (.aload_n 0, 1) := by decide +kernel
theorem dX7_drop_7 : decode cX7_drop 7 = .ok (.getfield 21, 3) := by decide +kernel
theorem dX7_drop_10 : decode cX7_drop 10 = .ok (.invokevirtual 50, 3) := by decide +kernel
theorem dX7_drop_13 : decode cX7_drop 13 = .ok (.aload_n 0, 1) := by decide +kernel
theorem dX7_drop_14 : decode cX7_drop 14 = .ok (.getfield 12, 3) := by decide +kernel
theorem dX7_drop_17 : decode cX7_drop 17 = .ok (.aload_n 0, 1) := by decide +kernel
theorem dX7_drop_18 : decode cX7_drop 18 = .ok (.getfield 12, 3) := by decide +kernel
theorem dX7_drop_21 : decode cX7_drop 21 = .ok (.iload_n 1, 1) := by decide +kernel
theorem dX7_drop_22 : decode cX7_drop 22 = .ok (.invokevirtual 67, 3) := by decide +kernel
theorem dX7_drop_25 : decode cX7_drop 25 = .ok (.invokevirtual 70, 3) := by decide +kernel
theorem dX7_drop_28 : decode cX7_drop 28 = .ok (.iload_n 2, 1) := by decide +kernel
theorem dX7_drop_29 : decode cX7_drop 29 = .ok (.ireturn, 1) := by decide +kernel
theorem dX7_dropAll_0 : decode cX7_dropAll 0 = .ok (.aload_n 0, 1) := by decide +kernel
theorem dX7_dropAll_1 : decode cX7_dropAll 1 = .ok (.getfield 12, 3) := by decide +kernel
theorem dX7_dropAll_4 : decode cX7_dropAll 4 = .ok (.invokevirtual 73, 3) := by decide +kernel
theorem dX7_dropAll_7 : decode cX7_dropAll 7 = .ok (.istore_n 1, 1) := by decide +kernel
theorem dX7_dropAll_8 : decode cX7_dropAll 8 = .ok (.aload_n 0, 1) := by decide +kernel
theorem dX7_dropAll_9 : decode cX7_dropAll 9 = .ok (.getfield 21, 3) := by decide +kernel
theorem dX7_dropAll_12 : decode cX7_dropAll 12 = .ok (.invokevirtual 50, 3) := by decide +kernel
theorem dX7_dropAll_15 : decode cX7_dropAll 15 = .ok (.aload_n 0, 1) := by decide +kernel
theorem dX7_dropAll_16 : decode cX7_dropAll 16 = .ok (.getfield 12, 3) := by decide +kernel
theorem dX7_dropAll_19 : decode cX7_dropAll 19 = .ok (.invokevirtual 77, 3) := by decide +kernel
theorem dX7_dropAll_22 : decode cX7_dropAll 22 = .ok (.iload_n 1, 1) := by decide +kernel
theorem dX7_dropAll_23 : decode cX7_dropAll 23 = .ok (.ireturn, 1) := by decide +kernel
theorem dX7_changeBound_0 : decode cX7_changeBound 0 = .ok (.aload_n 0, 1) := by decide +kernel
theorem dX7_changeBound_1 : decode cX7_changeBound 1 = .ok (.getfield 36, 3) := by decide +kernel
theorem dX7_changeBound_4 : decode cX7_changeBound 4 = .ok (.istore_n 2, 1) := by decide +kernel
theorem dX7_changeBound_5 : decode cX7_changeBound 5 = .ok (.aload_n 0, 1) := by decide +kernel
theorem dX7_changeBound_6 : decode cX7_changeBound 6 = .ok (.invokevirtual 80, 3) := by decide +kernel
theorem dX7_changeBound_9 : decode cX7_changeBound 9 = .ok (.pop, 1) := by decide +kernel
theorem dX7_changeBound_10 : decode cX7_changeBound 10 = .ok (.aload_n 0, 1) := by decide +kernel
theorem dX7_changeBound_11 : decode cX7_changeBound 11 = .ok (.iload_n 1, 1) := by decide +kernel
theorem dX7_changeBound_12 : decode cX7_changeBound 12 = .ok (.putfield 36, 3) := by decide +kernel
theorem dX7_changeBound_15 : decode cX7_changeBound 15 = .ok (.iload_n 2, 1) := by decide +kernel
theorem dX7_changeBound_16 : decode cX7_changeBound 16 = .ok (.ireturn, 1) := by decide +kernel
theorem dX7_holdsValue_0 : decode cX7_holdsValue 0 = .ok (.iconst 0, 1) := by decide +kernel
theorem dX7_holdsValue_1 : decode cX7_holdsValue 1 = .ok (.istore_n 2, 1) := by decide +kernel
theorem dX7_holdsValue_2 : decode cX7_holdsValue 2 = .ok (.iload_n 2, 1) := by decide +kernel
theorem dX7_holdsValue_3 : decode cX7_holdsValue 3 = .ok (.aload_n 0, 1) := by decide +kernel
theorem dX7_holdsValue_4 : decode cX7_holdsValue 4 = .ok (.getfield 12, 3) := by decide +kernel
theorem dX7_holdsValue_7 : decode cX7_holdsValue 7 = .ok (.invokevirtual 73, 3) := by decide +kernel
theorem dX7_holdsValue_10 : decode cX7_holdsValue 10 = .ok (.if_icmp .ge 20, 3) := by decide +kernel
theorem dX7_holdsValue_13 : decode cX7_holdsValue 13 = .ok (.aload_n 0, 1) := by decide +kernel
theorem dX7_holdsValue_14 : decode cX7_holdsValue 14 = .ok (.iload_n 2, 1) := by decide +kernel
theorem dX7_holdsValue_15 : decode cX7_holdsValue 15 = .ok (.invokevirtual 82, 3) := by decide +kernel
theorem dX7_holdsValue_18 : decode cX7_holdsValue 18 = .ok (.iload_n 1, 1) := by decide +kernel
theorem dX7_holdsValue_19 : decode cX7_holdsValue 19 = .ok (.if_icmp .ne 5, 3) := by decide +kernel
theorem dX7_holdsValue_22 : decode cX7_holdsValue 22 = .ok (.iconst 1, 1) := by decide +kernel
theorem dX7_holdsValue_23 : decode cX7_holdsValue 23 = .ok (.ireturn, 1) := by decide +kernel
theorem dX7_holdsValue_24 : decode cX7_holdsValue 24 = .ok (.iinc 2 1, 3) := by decide +kernel
theorem dX7_holdsValue_27 : decode cX7_holdsValue 27 = .ok (.goto (-25), 3) := by decide +kernel
theorem dX7_holdsValue_30 : decode cX7_holdsValue 30 = .ok (.iconst 0, 1) := by decide +kernel
theorem dX7_holdsValue_31 : decode cX7_holdsValue 31 = .ok (.ireturn, 1) := by decide +kernel
theorem dX7_total_0 : decode cX7_total 0 = .ok (.iconst 0, 1) := by decide +kernel
theorem dX7_total_1 : decode cX7_total 1 = .ok (.istore_n 1, 1) := by decide +kernel
theorem dX7_total_2 : decode cX7_total 2 = .ok (.iconst 0, 1) := by decide +kernel
theorem dX7_total_3 : decode cX7_total 3 = .ok (.istore_n 2, 1) := by decide +kernel
theorem dX7_total_4 : decode cX7_total 4 = .ok (.iload_n 2, 1) := by decide +kernel
theorem dX7_total_5 : decode cX7_total 5 = .ok (.aload_n 0, 1) := by decide +kernel
theorem dX7_total_6 : decode cX7_total 6 = .ok (.getfield 12, 3) := by decide +kernel
theorem dX7_total_9 : decode cX7_total 9 = .ok (.invokevirtual 73, 3) := by decide +kernel
theorem dX7_total_12 : decode cX7_total 12 = .ok (.if_icmp .ge 17, 3) := by decide +kernel
theorem dX7_total_15 : decode cX7_total 15 = .ok (.iload_n 1, 1) := by decide +kernel
theorem dX7_total_16 : decode cX7_total 16 = .ok (.aload_n 0, 1) := by decide +kernel
theorem dX7_total_17 : decode cX7_total 17 = .ok (.iload_n 2, 1) := by decide +kernel
theorem dX7_total_18 : decode cX7_total 18 = .ok (.invokevirtual 82, 3) := by decide +kernel
theorem dX7_total_21 : decode cX7_total 21 = .ok (.iadd, 1) := by decide +kernel
theorem dX7_total_22 : decode cX7_total 22 = .ok (.istore_n 1, 1) := by decide +kernel
theorem dX7_total_23 : decode cX7_total 23 = .ok (.iinc 2 1, 3) := by decide +kernel
theorem dX7_total_26 : decode cX7_total 26 = .ok (.goto (-22), 3) := by decide +kernel
theorem dX7_total_29 : decode cX7_total 29 = .ok (.iload_n 1, 1) := by decide +kernel
theorem dX7_total_30 : decode cX7_total 30 = .ok (.ireturn, 1) := by decide +kernel
theorem dX7_recordOut_0 : decode cX7_recordOut 0 = .ok (.iload_n 1, 1) := by decide +kernel
theorem dX7_recordOut_1 : decode cX7_recordOut 1 = .ok (.iconst (-1), 1) := by decide +kernel
theorem dX7_recordOut_2 : decode cX7_recordOut 2 = .ok (.if_icmp .eq 18, 3) := by decide +kernel
theorem dX7_recordOut_5 : decode cX7_recordOut 5 = .ok (.aload_n 0, 1) := by decide +kernel
theorem dX7_recordOut_6 : decode cX7_recordOut 6 = .ok (.dup, 1) := by decide +kernel
theorem dX7_recordOut_7 : decode cX7_recordOut 7 = .ok (.getfield 29, 3) := by decide +kernel
theorem dX7_recordOut_10 : decode cX7_recordOut 10 = .ok (.iconst 1, 1) := by decide +kernel
theorem dX7_recordOut_11 : decode cX7_recordOut 11 = .ok (.iadd, 1) := by decide +kernel
theorem dX7_recordOut_12 : decode cX7_recordOut 12 = .ok (.putfield 29, 3) := by decide +kernel
theorem dX7_recordOut_15 : decode cX7_recordOut 15 = .ok (.aload_n 0, 1) := by decide +kernel
theorem dX7_recordOut_16 : decode cX7_recordOut 16 = .ok (.iload_n 1, 1) := by decide +kernel
theorem dX7_recordOut_17 : decode cX7_recordOut 17 = .ok (.putfield 33, 3) := by decide +kernel
theorem dX7_recordOut_20 : decode cX7_recordOut 20 = .ok (.return_, 1) := by decide +kernel
theorem dX8_init_0 : decode cX8_init 0 = .ok (.aload_n 0, 1) := by decide +kernel
theorem dX8_init_1 : decode cX8_init 1 = .ok (.invokespecial 3, 3) := by decide +kernel
theorem dX8_init_4 : decode cX8_init 4 = .ok (.aload_n 0, 1) := by decide +kernel
theorem dX8_init_5 : decode cX8_init 5 = .ok (.bipush 100, 2) := by decide +kernel
theorem dX8_init_7 : decode cX8_init 7 = .ok (.newarray .int, 2) := by decide +kernel
theorem dX8_init_9 : decode cX8_init 9 = .ok (.putfield 9, 3) := by decide +kernel
theorem dX8_init_12 : decode cX8_init 12 = .ok (.aload_n 0, 1) := by decide +kernel
theorem dX8_init_13 : decode cX8_init 13 = .ok (.iconst 0, 1) := by decide +kernel
theorem dX8_init_14 : decode cX8_init 14 = .ok (.putfield 15, 3) := by decide +kernel
theorem dX8_init_17 : decode cX8_init 17 = .ok (.return_, 1) := by decide +kernel
theorem dX8_length_0 : decode cX8_length 0 = .ok (.aload_n 0, 1) := by decide +kernel
theorem dX8_length_1 : decode cX8_length 1 = .ok (.getfield 15, 3) := by decide +kernel
theorem dX8_length_4 : decode cX8_length 4 = .ok (.ireturn, 1) := by decide +kernel
theorem dX8_keyIn_0 : decode cX8_keyIn 0 = .ok (.iload_n 1, 1) := by decide +kernel
theorem dX8_keyIn_1 : decode cX8_keyIn 1 = .ok (.ifCond .lt 20, 3) := by decide +kernel
theorem dX8_keyIn_4 : decode cX8_keyIn 4 = .ok (.iload_n 1, 1) := by decide +kernel
theorem dX8_keyIn_5 : decode cX8_keyIn 5 = .ok (.aload_n 0, 1) := by decide +kernel
theorem dX8_keyIn_6 : decode cX8_keyIn 6 = .ok (.getfield 15, 3) := by decide +kernel
theorem dX8_keyIn_9 : decode cX8_keyIn 9 = .ok (.if_icmp .ge 12, 3) := by decide +kernel
theorem dX8_keyIn_12 : decode cX8_keyIn 12 = .ok (.aload_n 0, 1) := by decide +kernel
theorem dX8_keyIn_13 : decode cX8_keyIn 13 = .ok (.getfield 9, 3) := by decide +kernel
theorem dX8_keyIn_16 : decode cX8_keyIn 16 = .ok (.iload_n 1, 1) := by decide +kernel
theorem dX8_keyIn_17 : decode cX8_keyIn 17 = .ok (.iaload, 1) := by decide +kernel
theorem dX8_keyIn_18 : decode cX8_keyIn 18 = .ok (.goto 4, 3) := by decide +kernel
theorem dX8_keyIn_21 : decode cX8_keyIn 21 = .ok (.iconst (-1), 1) := by decide +kernel
theorem dX8_keyIn_22 : decode cX8_keyIn 22 = .ok (.ireturn, 1) := by decide +kernel
theorem dX8_find_0 : decode cX8_find 0 = .ok (.iconst 0, 1) := by decide +kernel
theorem dX8_find_1 : decode cX8_find 1 = .ok (.istore_n 2, 1) := by decide +kernel
theorem dX8_find_2 : decode cX8_find 2 = .ok (.iload_n 2, 1) := by decide +kernel
theorem dX8_find_3 : decode cX8_find 3 = .ok (.aload_n 0, 1) := by decide +kernel
theorem dX8_find_4 : decode cX8_find 4 = .ok (.getfield 15, 3) := by decide +kernel
theorem dX8_find_7 : decode cX8_find 7 = .ok (.if_icmp .ge 21, 3) := by decide +kernel
theorem dX8_find_10 : decode cX8_find 10 = .ok (.aload_n 0, 1) := by decide +kernel
theorem dX8_find_11 : decode cX8_find 11 = .ok (.getfield 9, 3) := by decide +kernel
theorem dX8_find_14 : decode cX8_find 14 = .ok (.iload_n 2, 1) := by decide +kernel
theorem dX8_find_15 : decode cX8_find 15 = .ok (.iaload, 1) := by decide +kernel
theorem dX8_find_16 : decode cX8_find 16 = .ok (.iload_n 1, 1) := by decide +kernel
theorem dX8_find_17 : decode cX8_find 17 = .ok (.if_icmp .ne 5, 3) := by decide +kernel
theorem dX8_find_20 : decode cX8_find 20 = .ok (.iload_n 2, 1) := by decide +kernel
theorem dX8_find_21 : decode cX8_find 21 = .ok (.ireturn, 1) := by decide +kernel
theorem dX8_find_22 : decode cX8_find 22 = .ok (.iinc 2 1, 3) := by decide +kernel
theorem dX8_find_25 : decode cX8_find 25 = .ok (.goto (-23), 3) := by decide +kernel
theorem dX8_find_28 : decode cX8_find 28 = .ok (.iconst (-1), 1) := by decide +kernel
theorem dX8_find_29 : decode cX8_find 29 = .ok (.ireturn, 1) := by decide +kernel
theorem dX8_holds_0 : decode cX8_holds 0 = .ok (.aload_n 0, 1) := by decide +kernel
theorem dX8_holds_1 : decode cX8_holds 1 = .ok (.iload_n 1, 1) := by decide +kernel
theorem dX8_holds_2 : decode cX8_holds 2 = .ok (.invokevirtual 19, 3) := by decide +kernel
theorem dX8_holds_5 : decode cX8_holds 5 = .ok (.iconst (-1), 1) := by decide +kernel
theorem dX8_holds_6 : decode cX8_holds 6 = .ok (.if_icmp .eq 7, 3) := by decide +kernel
theorem dX8_holds_9 : decode cX8_holds 9 = .ok (.iconst 1, 1) := by decide +kernel
theorem dX8_holds_10 : decode cX8_holds 10 = .ok (.goto 4, 3) := by decide +kernel
theorem dX8_holds_13 : decode cX8_holds 13 = .ok (.iconst 0, 1) := by decide +kernel
theorem dX8_holds_14 : decode cX8_holds 14 = .ok (.ireturn, 1) := by decide +kernel
theorem dX8_use_0 : decode cX8_use 0 = .ok (.aload_n 0, 1) := by decide +kernel
theorem dX8_use_1 : decode cX8_use 1 = .ok (.iload_n 1, 1) := by decide +kernel
theorem dX8_use_2 : decode cX8_use 2 = .ok (.invokevirtual 19, 3) := by decide +kernel
theorem dX8_use_5 : decode cX8_use 5 = .ok (.istore_n 2, 1) := by decide +kernel
theorem dX8_use_6 : decode cX8_use 6 = .ok (.aload_n 0, 1) := by decide +kernel
theorem dX8_use_7 : decode cX8_use 7 = .ok (.iload_n 2, 1) := by decide +kernel
theorem dX8_use_8 : decode cX8_use 8 = .ok (.invokevirtual 23, 3) := by decide +kernel
theorem dX8_use_11 : decode cX8_use 11 = .ok (.aload_n 0, 1) := by decide +kernel
theorem dX8_use_12 : decode cX8_use 12 = .ok (.getfield 15, 3) := by decide +kernel
theorem dX8_use_15 : decode cX8_use 15 = .ok (.bipush 100, 2) := by decide +kernel
theorem dX8_use_17 : decode cX8_use 17 = .ok (.if_icmp .ge 23, 3) := by decide +kernel
theorem dX8_use_20 : decode cX8_use 20 = .ok (.aload_n 0, 1) := by decide +kernel
theorem dX8_use_21 : decode cX8_use 21 = .ok (.getfield 9, 3) := by decide +kernel
theorem dX8_use_24 : decode cX8_use 24 = .ok (.aload_n 0, 1) := by decide +kernel
theorem dX8_use_25 : decode cX8_use 25 = .ok (.getfield 15, 3) := by decide +kernel
theorem dX8_use_28 : decode cX8_use 28 = .ok (.iload_n 1, 1) := by decide +kernel
theorem dX8_use_29 : decode cX8_use 29 = .ok (.iastore, 1) := by decide +kernel
theorem dX8_use_30 : decode cX8_use 30 = .ok (.aload_n 0, 1) := by decide +kernel
theorem dX8_use_31 : decode cX8_use 31 = .ok (.dup, 1) := by decide +kernel
theorem dX8_use_32 : decode cX8_use 32 = .ok (.getfield 15, 3) := by decide +kernel
theorem dX8_use_35 : decode cX8_use 35 = .ok (.iconst 1, 1) := by decide +kernel
theorem dX8_use_36 : decode cX8_use 36 = .ok (.iadd, 1) := by decide +kernel
theorem dX8_use_37 : decode cX8_use 37 = .ok (.putfield 15, 3) := by decide +kernel
theorem dX8_use_40 : decode cX8_use 40 = .ok (.iload_n 2, 1) := by decide +kernel
theorem dX8_use_41 : decode cX8_use 41 = .ok (.iconst (-1), 1) := by decide +kernel
theorem dX8_use_42 : decode cX8_use 42 = .ok (.if_icmp .eq 7, 3) := by decide +kernel
theorem dX8_use_45 : decode cX8_use 45 = .ok (.iconst 1, 1) := by decide +kernel
theorem dX8_use_46 : decode cX8_use 46 = .ok (.goto 4, 3) := by decide +kernel
theorem dX8_use_49 : decode cX8_use 49 = .ok (.iconst 0, 1) := by decide +kernel
theorem dX8_use_50 : decode cX8_use 50 = .ok (.ireturn, 1) := by decide +kernel
theorem dX8_dropIn_0 : decode cX8_dropIn 0 = .ok (.iload_n 1, 1) := by decide +kernel
theorem dX8_dropIn_1 : decode cX8_dropIn 1 = .ok (.ifCond .lt 11, 3) := by decide +kernel
theorem dX8_dropIn_4 : decode cX8_dropIn 4 = .ok (.iload_n 1, 1) := by decide +kernel
theorem dX8_dropIn_5 : decode cX8_dropIn 5 = .ok (.aload_n 0, 1) := by decide +kernel
theorem dX8_dropIn_6 : decode cX8_dropIn 6 = .ok (.getfield 15, 3) := by decide +kernel
theorem dX8_dropIn_9 : decode cX8_dropIn 9 = .ok (.if_icmp .lt 4, 3) := by decide +kernel
theorem dX8_dropIn_12 : decode cX8_dropIn 12 = .ok (.return_, 1) := by decide +kernel
theorem dX8_dropIn_13 : decode cX8_dropIn 13 = .ok (.aload_n 0, 1) := by decide +kernel
theorem dX8_dropIn_14 : decode cX8_dropIn 14 = .ok (.dup, 1) := by decide +kernel
theorem dX8_dropIn_15 : decode cX8_dropIn 15 = .ok (.getfield 15, 3) := by decide +kernel
theorem dX8_dropIn_18 : decode cX8_dropIn 18 = .ok (.iconst 1, 1) := by decide +kernel
theorem dX8_dropIn_19 : decode cX8_dropIn 19 = .ok (.isub, 1) := by decide +kernel
theorem dX8_dropIn_20 : decode cX8_dropIn 20 = .ok (.putfield 15, 3) := by decide +kernel
theorem dX8_dropIn_23 : decode cX8_dropIn 23 = .ok (.iload_n 1, 1) := by decide +kernel
theorem dX8_dropIn_24 : decode cX8_dropIn 24 = .ok (.istore_n 2, 1) := by decide +kernel
theorem dX8_dropIn_25 : decode cX8_dropIn 25 = .ok (.iload_n 2, 1) := by decide +kernel
theorem dX8_dropIn_26 : decode cX8_dropIn 26 = .ok (.aload_n 0, 1) := by decide +kernel
theorem dX8_dropIn_27 : decode cX8_dropIn 27 = .ok (.getfield 15, 3) := by decide +kernel
theorem dX8_dropIn_30 : decode cX8_dropIn 30 = .ok (.if_icmp .ge 23, 3) := by decide +kernel
theorem dX8_dropIn_33 : decode cX8_dropIn 33 = .ok (.aload_n 0, 1) := by decide +kernel
theorem dX8_dropIn_34 : decode cX8_dropIn 34 = .ok (.getfield 9, 3) := by decide +kernel
theorem dX8_dropIn_37 : decode cX8_dropIn 37 = .ok (.iload_n 2, 1) := by decide +kernel
theorem dX8_dropIn_38 : decode cX8_dropIn 38 = .ok (.aload_n 0, 1) := by decide +kernel
theorem dX8_dropIn_39 : decode cX8_dropIn 39 = .ok (.getfield 9, 3) := by decide +kernel
theorem dX8_dropIn_42 : decode cX8_dropIn 42 = .ok (.iload_n 2, 1) := by decide +kernel
theorem dX8_dropIn_43 : decode cX8_dropIn 43 = .ok (.iconst 1, 1) := by decide +kernel
theorem dX8_dropIn_44 : decode cX8_dropIn 44 = .ok (.iadd, 1) := by decide +kernel
theorem dX8_dropIn_45 : decode cX8_dropIn 45 = .ok (.iaload, 1) := by decide +kernel
theorem dX8_dropIn_46 : decode cX8_dropIn 46 = .ok (.iastore, 1) := by decide +kernel
theorem dX8_dropIn_47 : decode cX8_dropIn 47 = .ok (.iinc 2 1, 3) := by decide +kernel
theorem dX8_dropIn_50 : decode cX8_dropIn 50 = .ok (.goto (-25), 3) := by decide +kernel
theorem dX8_dropIn_53 : decode cX8_dropIn 53 = .ok (.return_, 1) := by decide +kernel
theorem dX8_dropBeyond_0 : decode cX8_dropBeyond 0 = .ok (.aload_n 0, 1) := by decide +kernel
theorem dX8_dropBeyond_1 : decode cX8_dropBeyond 1 = .ok (.getfield 15, 3) := by decide +kernel
theorem dX8_dropBeyond_4 : decode cX8_dropBeyond 4 = .ok (.iload_n 1, 1) := by decide +kernel
theorem dX8_dropBeyond_5 : decode cX8_dropBeyond 5 = .ok (.if_icmp .gt 5, 3) := by decide +kernel
theorem dX8_dropBeyond_8 : decode cX8_dropBeyond 8 = .ok (.iconst (-1), 1) := by decide +kernel
theorem dX8_dropBeyond_9 : decode cX8_dropBeyond 9 = .ok (.ireturn, 1) := by decide +kernel
theorem dX8_dropBeyond_10 : decode cX8_dropBeyond 10 = .ok (.aload_n 0, 1) := by decide +kernel
theorem dX8_dropBeyond_11 : decode cX8_dropBeyond 11 = .ok (.iconst 0, 1) := by decide +kernel
theorem dX8_dropBeyond_12 : decode cX8_dropBeyond 12 = .ok (.invokevirtual 27, 3) := by decide +kernel
theorem dX8_dropBeyond_15 : decode cX8_dropBeyond 15 = .ok (.istore_n 2, 1) := by decide +kernel
theorem dX8_dropBeyond_16 : decode cX8_dropBeyond 16 = .ok (.aload_n 0, 1) := by decide +kernel
theorem dX8_dropBeyond_17 : decode cX8_dropBeyond 17 = .ok (.iconst 0, 1) := by decide +kernel
theorem dX8_dropBeyond_18 : decode cX8_dropBeyond 18 = .ok (.invokevirtual 23, 3) := by decide +kernel
theorem dX8_dropBeyond_21 : decode cX8_dropBeyond 21 = .ok (.iload_n 2, 1) := by decide +kernel
theorem dX8_dropBeyond_22 : decode cX8_dropBeyond 22 = .ok (.ireturn, 1) := by decide +kernel
theorem dX8_dropAll_0 : decode cX8_dropAll 0 = .ok (.aload_n 0, 1) := by decide +kernel
theorem dX8_dropAll_1 : decode cX8_dropAll 1 = .ok (.iconst 0, 1) := by decide +kernel
theorem dX8_dropAll_2 : decode cX8_dropAll 2 = .ok (.putfield 15, 3) := by decide +kernel
theorem dX8_dropAll_5 : decode cX8_dropAll 5 = .ok (.return_, 1) := by decide +kernel
theorem dX9_init_0 : decode cX9_init 0 = .ok (.aload_n 0, 1) := by decide +kernel
theorem dX9_init_1 : decode cX9_init 1 = .ok (.invokespecial 1, 3) := by decide +kernel
theorem dX9_init_4 : decode cX9_init 4 = .ok (.aload_n 0, 1) := by decide +kernel
theorem dX9_init_5 : decode cX9_init 5 = .ok (.new 7, 3) := by decide +kernel
theorem dX9_init_8 : decode cX9_init 8 = .ok (.dup, 1) := by decide +kernel
theorem dX9_init_9 : decode cX9_init 9 = .ok (.bipush 100, 2) := by decide +kernel
theorem dX9_init_11 : decode cX9_init 11 = .ok (.invokespecial 11, 3) := by decide +kernel
theorem dX9_init_14 : decode cX9_init 14 = .ok (.putfield 14, 3) := by decide +kernel
theorem dX9_init_17 : decode cX9_init 17 = .ok (.aload_n 0, 1) := by decide +kernel
theorem dX9_init_18 : decode cX9_init 18 = .ok (.new 7, 3) := by decide +kernel
theorem dX9_init_21 : decode cX9_init 21 = .ok (.dup, 1) := by decide +kernel
theorem dX9_init_22 : decode cX9_init 22 = .ok (.iconst 4, 1) := by decide +kernel
theorem dX9_init_23 : decode cX9_init 23 = .ok (.invokespecial 11, 3) := by decide +kernel
theorem dX9_init_26 : decode cX9_init 26 = .ok (.putfield 18, 3) := by decide +kernel
theorem dX9_init_29 : decode cX9_init 29 = .ok (.aload_n 0, 1) := by decide +kernel
theorem dX9_init_30 : decode cX9_init 30 = .ok (.bipush 8, 2) := by decide +kernel
theorem dX9_init_32 : decode cX9_init 32 = .ok (.anewarray 21, 3) := by decide +kernel
theorem dX9_init_35 : decode cX9_init 35 = .ok (.putfield 23, 3) := by decide +kernel
theorem dX9_init_38 : decode cX9_init 38 = .ok (.aload_n 0, 1) := by decide +kernel
theorem dX9_init_39 : decode cX9_init 39 = .ok (.new 27, 3) := by decide +kernel
theorem dX9_init_42 : decode cX9_init 42 = .ok (.dup, 1) := by decide +kernel
theorem dX9_init_43 : decode cX9_init 43 = .ok (.invokespecial 29, 3) := by decide +kernel
theorem dX9_init_46 : decode cX9_init 46 = .ok (.putfield 30, 3) := by decide +kernel
theorem dX9_init_49 : decode cX9_init 49 = .ok (.aload_n 0, 1) := by decide +kernel
theorem dX9_init_50 : decode cX9_init 50 = .ok (.new 34, 3) := by decide +kernel
theorem dX9_init_53 : decode cX9_init 53 = .ok (.dup, 1) := by decide +kernel
theorem dX9_init_54 : decode cX9_init 54 = .ok (.invokespecial 36, 3) := by decide +kernel
theorem dX9_init_57 : decode cX9_init 57 = .ok (.putfield 37, 3) := by decide +kernel
theorem dX9_init_60 : decode cX9_init 60 = .ok (.aload_n 0, 1) := by decide +kernel
theorem dX9_init_61 : decode cX9_init 61 = .ok (.new 41, 3) := by decide +kernel
theorem dX9_init_64 : decode cX9_init 64 = .ok (.dup, 1) := by decide +kernel
theorem dX9_init_65 : decode cX9_init 65 = .ok (.invokespecial 43, 3) := by decide +kernel
theorem dX9_init_68 : decode cX9_init 68 = .ok (.putfield 44, 3) := by decide +kernel
theorem dX9_init_71 : decode cX9_init 71 = .ok (.aload_n 0, 1) := by decide +kernel
theorem dX9_init_72 : decode cX9_init 72 = .ok (.iconst (-1), 1) := by decide +kernel
theorem dX9_init_73 : decode cX9_init 73 = .ok (.putfield 48, 3) := by decide +kernel
theorem dX9_init_76 : decode cX9_init 76 = .ok (.iconst 0, 1) := by decide +kernel
theorem dX9_init_77 : decode cX9_init 77 = .ok (.istore_n 1, 1) := by decide +kernel
theorem dX9_init_78 : decode cX9_init 78 = .ok (.iload_n 1, 1) := by decide +kernel
theorem dX9_init_79 : decode cX9_init 79 = .ok (.bipush 8, 2) := by decide +kernel
theorem dX9_init_81 : decode cX9_init 81 = .ok (.if_icmp .ge 25, 3) := by decide +kernel
theorem dX9_init_84 : decode cX9_init 84 = .ok (.aload_n 0, 1) := by decide +kernel
theorem dX9_init_85 : decode cX9_init 85 = .ok (.getfield 23, 3) := by decide +kernel
theorem dX9_init_88 : decode cX9_init 88 = .ok (.iload_n 1, 1) := by decide +kernel
theorem dX9_init_89 : decode cX9_init 89 = .ok (.new 21, 3) := by decide +kernel
theorem dX9_init_92 : decode cX9_init 92 = .ok (.dup, 1) := by decide +kernel
theorem dX9_init_93 : decode cX9_init 93 = .ok (.iload_n 1, 1) := by decide +kernel
theorem dX9_init_94 : decode cX9_init 94 = .ok (.iconst 1, 1) := by decide +kernel
theorem dX9_init_95 : decode cX9_init 95 = .ok (.iadd, 1) := by decide +kernel
theorem dX9_init_96 : decode cX9_init 96 = .ok (.invokespecial 52, 3) := by decide +kernel
theorem dX9_init_99 : decode cX9_init 99 = .ok (.aastore, 1) := by decide +kernel
theorem dX9_init_100 : decode cX9_init 100 = .ok (.iinc 1 1, 3) := by decide +kernel
theorem dX9_init_103 : decode cX9_init 103 = .ok (.goto (-25), 3) := by decide +kernel
theorem dX9_init_106 : decode cX9_init 106 = .ok (.return_, 1) := by decide +kernel
theorem dX9_put_0 : decode cX9_put 0 = .ok (.aload_n 0, 1) := by decide +kernel
theorem dX9_put_1 : decode cX9_put 1 = .ok (.iload_n 1, 1) := by decide +kernel
theorem dX9_put_2 : decode cX9_put 2 = .ok (.invokevirtual 53, 3) := by decide +kernel
theorem dX9_put_5 : decode cX9_put 5 = .ok (.astore 4, 2) := by decide +kernel
theorem dX9_put_7 : decode cX9_put 7 = .ok (.iload_n 2, 1) := by decide +kernel
theorem dX9_put_8 : decode cX9_put 8 = .ok (.invokestatic 57, 3) := by decide +kernel
theorem dX9_put_11 : decode cX9_put 11 = .ok (.iload_n 3, 1) := by decide +kernel
theorem dX9_put_12 : decode cX9_put 12 = .ok (.invokestatic 60, 3) := by decide +kernel
theorem dX9_put_15 : decode cX9_put 15 = .ok (.aload 4, 2) := by decide +kernel
theorem dX9_put_17 : decode cX9_put 17 = .ok (.iload_n 2, 1) := by decide +kernel
theorem dX9_put_18 : decode cX9_put 18 = .ok (.iload_n 3, 1) := by decide +kernel
theorem dX9_put_19 : decode cX9_put 19 = .ok (.invokevirtual 63, 3) := by decide +kernel
theorem dX9_put_22 : decode cX9_put 22 = .ok (.ireturn, 1) := by decide +kernel
theorem dX9_putIfAbsent_0 : decode cX9_putIfAbsent 0 = .ok (.aload_n 0, 1) := by decide +kernel
theorem dX9_putIfAbsent_1 : decode cX9_putIfAbsent 1 = .ok (.iload_n 1, 1) := by decide +kernel
theorem dX9_putIfAbsent_2 : decode cX9_putIfAbsent 2 = .ok (.invokevirtual 53, 3) := by decide +kernel
theorem dX9_putIfAbsent_5 : decode cX9_putIfAbsent 5 = .ok (.astore 4, 2) := by decide +kernel
theorem dX9_putIfAbsent_7 : decode cX9_putIfAbsent 7 = .ok (.iload_n 2, 1) := by decide +kernel
theorem dX9_putIfAbsent_8 : decode cX9_putIfAbsent 8 = .ok (.invokestatic 57, 3) := by decide +kernel
theorem dX9_putIfAbsent_11 : decode cX9_putIfAbsent 11 = .ok (.iload_n 3, 1) := by decide +kernel
theorem dX9_putIfAbsent_12 : decode cX9_putIfAbsent 12 = .ok (.invokestatic 60, 3) := by decide +kernel
theorem dX9_putIfAbsent_15 : decode cX9_putIfAbsent 15 = .ok (.aload 4, 2) := by decide +kernel
theorem dX9_putIfAbsent_17 : decode cX9_putIfAbsent 17 = .ok (.iload_n 2, 1) := by decide +kernel
theorem dX9_putIfAbsent_18 : decode cX9_putIfAbsent 18 = .ok (.iload_n 3, 1) := by decide +kernel
theorem dX9_putIfAbsent_19 : decode cX9_putIfAbsent 19 = .ok (.invokevirtual 67, 3) := by decide +kernel
theorem dX9_putIfAbsent_22 : decode cX9_putIfAbsent 22 = .ok (.ireturn, 1) := by decide +kernel
theorem dX9_get_0 : decode cX9_get 0 = .ok (.aload_n 0, 1) := by decide +kernel
theorem dX9_get_1 : decode cX9_get 1 = .ok (.iload_n 1, 1) := by decide +kernel
theorem dX9_get_2 : decode cX9_get 2 = .ok (.invokevirtual 53, 3) := by decide +kernel
theorem dX9_get_5 : decode cX9_get 5 = .ok (.astore_n 3, 1) := by decide +kernel
theorem dX9_get_6 : decode cX9_get 6 = .ok (.iload_n 2, 1) := by decide +kernel
theorem dX9_get_7 : decode cX9_get 7 = .ok (.invokestatic 57, 3) := by decide +kernel
theorem dX9_get_10 : decode cX9_get 10 = .ok (.aload_n 3, 1) := by decide +kernel
theorem dX9_get_11 : decode cX9_get 11 = .ok (.iload_n 2, 1) := by decide +kernel
theorem dX9_get_12 : decode cX9_get 12 = .ok (.invokevirtual 70, 3) := by decide +kernel
theorem dX9_get_15 : decode cX9_get 15 = .ok (.ireturn, 1) := by decide +kernel
theorem dX9_getOrDefault_0 : decode cX9_getOrDefault 0 = .ok (.aload_n 0, 1) := by decide +kernel
theorem dX9_getOrDefault_1 : decode cX9_getOrDefault 1 = .ok (.iload_n 1, 1) := by decide +kernel
theorem dX9_getOrDefault_2 : decode cX9_getOrDefault 2 = .ok (.invokevirtual 53, 3) := by decide +kernel
theorem dX9_getOrDefault_5 : decode cX9_getOrDefault 5 = .ok (.astore 4, 2) := by decide +kernel
theorem dX9_getOrDefault_7 : decode cX9_getOrDefault 7 = .ok (.iload_n 2, 1) := by decide +kernel
theorem dX9_getOrDefault_8 : decode cX9_getOrDefault 8 = .ok (.invokestatic 57, 3) := by decide +kernel
theorem dX9_getOrDefault_11 : decode cX9_getOrDefault 11 = .ok (.aload 4, 2) := by decide +kernel
theorem dX9_getOrDefault_13 : decode cX9_getOrDefault 13 = .ok (.iload_n 2, 1) := by decide +kernel
theorem dX9_getOrDefault_14 : decode cX9_getOrDefault 14 = .ok (.invokevirtual 70, 3) := by decide +kernel
theorem dX9_getOrDefault_17 : decode cX9_getOrDefault 17 = .ok (.istore 5, 2) := by decide +kernel
theorem dX9_getOrDefault_19 : decode cX9_getOrDefault 19 = .ok (.iload 5, 2) := by decide +kernel
theorem dX9_getOrDefault_21 : decode cX9_getOrDefault 21 = .ok (.iconst (-1), 1) := by decide +kernel
theorem dX9_getOrDefault_22 : decode cX9_getOrDefault 22 = .ok (.if_icmp .ne 7, 3) := by decide +kernel
theorem dX9_getOrDefault_25 : decode cX9_getOrDefault 25 = .ok (.iload_n 3, 1) := by decide +kernel
theorem dX9_getOrDefault_26 : decode cX9_getOrDefault 26 = .ok (.goto 5, 3) := by decide +kernel
theorem dX9_getOrDefault_29 : decode cX9_getOrDefault 29 = .ok (.iload 5, 2) := by decide +kernel
theorem dX9_getOrDefault_31 : decode cX9_getOrDefault 31 = .ok (.ireturn, 1) := by decide +kernel
theorem dX9_remove_0 : decode cX9_remove 0 = .ok (.aload_n 0, 1) := by decide +kernel
theorem dX9_remove_1 : decode cX9_remove 1 = .ok (.iload_n 1, 1) := by decide +kernel
theorem dX9_remove_2 : decode cX9_remove 2 = .ok (.invokevirtual 53, 3) := by decide +kernel
theorem dX9_remove_5 : decode cX9_remove 5 = .ok (.astore_n 3, 1) := by decide +kernel
theorem dX9_remove_6 : decode cX9_remove 6 = .ok (.iload_n 2, 1) := by decide +kernel
theorem dX9_remove_7 : decode cX9_remove 7 = .ok (.invokestatic 57, 3) := by decide +kernel
theorem dX9_remove_10 : decode cX9_remove 10 = .ok (.aload_n 3, 1) := by decide +kernel
theorem dX9_remove_11 : decode cX9_remove 11 = .ok (.iload_n 2, 1) := by decide +kernel
theorem dX9_remove_12 : decode cX9_remove 12 = .ok (.invokevirtual 74, 3) := by decide +kernel
theorem dX9_remove_15 : decode cX9_remove 15 = .ok (.ireturn, 1) := by decide +kernel
theorem dX9_clear_0 : decode cX9_clear 0 = .ok (.aload_n 0, 1) := by decide +kernel
theorem dX9_clear_1 : decode cX9_clear 1 = .ok (.iload_n 1, 1) := by decide +kernel
theorem dX9_clear_2 : decode cX9_clear 2 = .ok (.invokevirtual 53, 3) := by decide +kernel
theorem dX9_clear_5 : decode cX9_clear 5 = .ok (.invokevirtual 77, 3) := by decide +kernel
theorem dX9_clear_8 : decode cX9_clear 8 = .ok (.ireturn, 1) := by decide +kernel
theorem dX9_setBound_0 : decode cX9_setBound 0 = .ok (.iload_n 1, 1) := by decide +kernel
theorem dX9_setBound_1 : decode cX9_setBound 1 = .ok (.iconst 1, 1) := by decide +kernel
theorem dX9_setBound_2 : decode cX9_setBound 2 = .ok (.bipush 20, 2) := by decide +kernel
theorem dX9_setBound_4 : decode cX9_setBound 4 = .ok (.invokestatic 81, 3) := by decide +kernel
theorem dX9_setBound_7 : decode cX9_setBound 7 = .ok (.aload_n 0, 1) := by decide +kernel
theorem dX9_setBound_8 : decode cX9_setBound 8 = .ok (.getfield 18, 3) := by decide +kernel
theorem dX9_setBound_11 : decode cX9_setBound 11 = .ok (.iload_n 1, 1) := by decide +kernel
theorem dX9_setBound_12 : decode cX9_setBound 12 = .ok (.invokevirtual 85, 3) := by decide +kernel
theorem dX9_setBound_15 : decode cX9_setBound 15 = .ok (.ireturn, 1) := by decide +kernel
theorem dX9_hasKey_0 : decode cX9_hasKey 0 = .ok (.aload_n 0, 1) := by decide +kernel
theorem dX9_hasKey_1 : decode cX9_hasKey 1 = .ok (.iload_n 1, 1) := by decide +kernel
theorem dX9_hasKey_2 : decode cX9_hasKey 2 = .ok (.invokevirtual 53, 3) := by decide +kernel
theorem dX9_hasKey_5 : decode cX9_hasKey 5 = .ok (.astore_n 3, 1) := by decide +kernel
theorem dX9_hasKey_6 : decode cX9_hasKey 6 = .ok (.iload_n 2, 1) := by decide +kernel
theorem dX9_hasKey_7 : decode cX9_hasKey 7 = .ok (.invokestatic 57, 3) := by decide +kernel
theorem dX9_hasKey_10 : decode cX9_hasKey 10 = .ok (.aload_n 3, 1) := by decide +kernel
theorem dX9_hasKey_11 : decode cX9_hasKey 11 = .ok (.iload_n 2, 1) := by decide +kernel
theorem dX9_hasKey_12 : decode cX9_hasKey 12 = .ok (.invokevirtual 88, 3) := by decide +kernel
theorem dX9_hasKey_15 : decode cX9_hasKey 15 = .ok (.iconst (-1), 1) := by decide +kernel
theorem dX9_hasKey_16 : decode cX9_hasKey 16 = .ok (.if_icmp .eq 7, 3) := by decide +kernel
theorem dX9_hasKey_19 : decode cX9_hasKey 19 = .ok (.iconst 1, 1) := by decide +kernel
theorem dX9_hasKey_20 : decode cX9_hasKey 20 = .ok (.goto 4, 3) := by decide +kernel
theorem dX9_hasKey_23 : decode cX9_hasKey 23 = .ok (.iconst 0, 1) := by decide +kernel
theorem dX9_hasKey_24 : decode cX9_hasKey 24 = .ok (.ireturn, 1) := by decide +kernel
theorem dX9_hasValue_0 : decode cX9_hasValue 0 = .ok (.aload_n 0, 1) := by decide +kernel
theorem dX9_hasValue_1 : decode cX9_hasValue 1 = .ok (.iload_n 1, 1) := by decide +kernel
theorem dX9_hasValue_2 : decode cX9_hasValue 2 = .ok (.invokevirtual 53, 3) := by decide +kernel
theorem dX9_hasValue_5 : decode cX9_hasValue 5 = .ok (.astore_n 3, 1) := by decide +kernel
theorem dX9_hasValue_6 : decode cX9_hasValue 6 = .ok (.iload_n 2, 1) := by decide +kernel
theorem dX9_hasValue_7 : decode cX9_hasValue 7 = .ok (.invokestatic 60, 3) := by decide +kernel
theorem dX9_hasValue_10 : decode cX9_hasValue 10 = .ok (.aload_n 3, 1) := by decide +kernel
theorem dX9_hasValue_11 : decode cX9_hasValue 11 = .ok (.iload_n 2, 1) := by decide +kernel
theorem dX9_hasValue_12 : decode cX9_hasValue 12 = .ok (.invokevirtual 91, 3) := by decide +kernel
theorem dX9_hasValue_15 : decode cX9_hasValue 15 = .ok (.ireturn, 1) := by decide +kernel
theorem dX9_size_0 : decode cX9_size 0 = .ok (.aload_n 0, 1) := by decide +kernel
theorem dX9_size_1 : decode cX9_size 1 = .ok (.iload_n 1, 1) := by decide +kernel
theorem dX9_size_2 : decode cX9_size 2 = .ok (.invokevirtual 53, 3) := by decide +kernel
theorem dX9_size_5 : decode cX9_size 5 = .ok (.invokevirtual 95, 3) := by decide +kernel
theorem dX9_size_8 : decode cX9_size 8 = .ok (.invokevirtual 99, 3) := by decide +kernel
theorem dX9_size_11 : decode cX9_size 11 = .ok (.ireturn, 1) := by decide +kernel
theorem dX9_keyAt_0 : decode cX9_keyAt 0 = .ok (.aload_n 0, 1) := by decide +kernel
theorem dX9_keyAt_1 : decode cX9_keyAt 1 = .ok (.iload_n 1, 1) := by decide +kernel
theorem dX9_keyAt_2 : decode cX9_keyAt 2 = .ok (.invokevirtual 53, 3) := by decide +kernel
theorem dX9_keyAt_5 : decode cX9_keyAt 5 = .ok (.invokevirtual 95, 3) := by decide +kernel
theorem dX9_keyAt_8 : decode cX9_keyAt 8 = .ok (.astore_n 3, 1) := by decide +kernel
theorem dX9_keyAt_9 : decode cX9_keyAt 9 = .ok (.iload_n 2, 1) := by decide +kernel
theorem dX9_keyAt_10 : decode cX9_keyAt 10 = .ok (.aload_n 3, 1) := by decide +kernel
theorem dX9_keyAt_11 : decode cX9_keyAt 11 = .ok (.invokevirtual 99, 3) := by decide +kernel
theorem dX9_keyAt_14 : decode cX9_keyAt 14 = .ok (.invokestatic 104, 3) := by decide +kernel
theorem dX9_keyAt_17 : decode cX9_keyAt 17 = .ok (.aload_n 3, 1) := by decide +kernel
theorem dX9_keyAt_18 : decode cX9_keyAt 18 = .ok (.iload_n 2, 1) := by decide +kernel
theorem dX9_keyAt_19 : decode cX9_keyAt 19 = .ok (.invokevirtual 108, 3) := by decide +kernel
theorem dX9_keyAt_22 : decode cX9_keyAt 22 = .ok (.ireturn, 1) := by decide +kernel
theorem dX9_valueAt_0 : decode cX9_valueAt 0 = .ok (.aload_n 0, 1) := by decide +kernel
theorem dX9_valueAt_1 : decode cX9_valueAt 1 = .ok (.iload_n 1, 1) := by decide +kernel
theorem dX9_valueAt_2 : decode cX9_valueAt 2 = .ok (.invokevirtual 53, 3) := by decide +kernel
theorem dX9_valueAt_5 : decode cX9_valueAt 5 = .ok (.astore_n 3, 1) := by decide +kernel
theorem dX9_valueAt_6 : decode cX9_valueAt 6 = .ok (.iload_n 2, 1) := by decide +kernel
theorem dX9_valueAt_7 : decode cX9_valueAt 7 = .ok (.aload_n 3, 1) := by decide +kernel
theorem dX9_valueAt_8 : decode cX9_valueAt 8 = .ok (.invokevirtual 95, 3) := by decide +kernel
theorem dX9_valueAt_11 : decode cX9_valueAt 11 = .ok (.invokevirtual 99, 3) := by decide +kernel
theorem dX9_valueAt_14 : decode cX9_valueAt 14 = .ok (.invokestatic 104, 3) := by decide +kernel
theorem dX9_valueAt_17 : decode cX9_valueAt 17 = .ok (.aload_n 3, 1) := by decide +kernel
theorem dX9_valueAt_18 : decode cX9_valueAt 18 = .ok (.iload_n 2, 1) := by decide +kernel
theorem dX9_valueAt_19 : decode cX9_valueAt 19 = .ok (.invokevirtual 111, 3) := by decide +kernel
theorem dX9_valueAt_22 : decode cX9_valueAt 22 = .ok (.ireturn, 1) := by decide +kernel
theorem dX9_placeOf_0 : decode cX9_placeOf 0 = .ok (.aload_n 0, 1) := by decide +kernel
theorem dX9_placeOf_1 : decode cX9_placeOf 1 = .ok (.iload_n 1, 1) := by decide +kernel
theorem dX9_placeOf_2 : decode cX9_placeOf 2 = .ok (.invokevirtual 53, 3) := by decide +kernel
theorem dX9_placeOf_5 : decode cX9_placeOf 5 = .ok (.astore_n 3, 1) := by decide +kernel
theorem dX9_placeOf_6 : decode cX9_placeOf 6 = .ok (.iload_n 2, 1) := by decide +kernel
theorem dX9_placeOf_7 : decode cX9_placeOf 7 = .ok (.invokestatic 57, 3) := by decide +kernel
theorem dX9_placeOf_10 : decode cX9_placeOf 10 = .ok (.aload_n 3, 1) := by decide +kernel
theorem dX9_placeOf_11 : decode cX9_placeOf 11 = .ok (.invokevirtual 95, 3) := by decide +kernel
theorem dX9_placeOf_14 : decode cX9_placeOf 14 = .ok (.iload_n 2, 1) := by decide +kernel
theorem dX9_placeOf_15 : decode cX9_placeOf 15 = .ok (.invokevirtual 114, 3) := by decide +kernel
theorem dX9_placeOf_18 : decode cX9_placeOf 18 = .ok (.ireturn, 1) := by decide +kernel
theorem dX9_sum_0 : decode cX9_sum 0 = .ok (.aload_n 0, 1) := by decide +kernel
theorem dX9_sum_1 : decode cX9_sum 1 = .ok (.iload_n 1, 1) := by decide +kernel
theorem dX9_sum_2 : decode cX9_sum 2 = .ok (.invokevirtual 53, 3) := by decide +kernel
theorem dX9_sum_5 : decode cX9_sum 5 = .ok (.invokevirtual 117, 3) := by decide +kernel
theorem dX9_sum_8 : decode cX9_sum 8 = .ok (.ireturn, 1) := by decide +kernel
theorem dX9_putOut_0 : decode cX9_putOut 0 = .ok (.aload_n 0, 1) := by decide +kernel
theorem dX9_putOut_1 : decode cX9_putOut 1 = .ok (.getfield 18, 3) := by decide +kernel
theorem dX9_putOut_4 : decode cX9_putOut 4 = .ok (.invokevirtual 120, 3) := by decide +kernel
theorem dX9_putOut_7 : decode cX9_putOut 7 = .ok (.ireturn, 1) := by decide +kernel
theorem dX9_lastPutOut_0 : decode cX9_lastPutOut 0 = .ok (.aload_n 0, 1) := by decide +kernel
theorem dX9_lastPutOut_1 : decode cX9_lastPutOut 1 = .ok (.getfield 18, 3) := by decide +kernel
theorem dX9_lastPutOut_4 : decode cX9_lastPutOut 4 = .ok (.invokevirtual 123, 3) := by decide +kernel
theorem dX9_lastPutOut_7 : decode cX9_lastPutOut 7 = .ok (.ireturn, 1) := by decide +kernel
theorem dX9_beginCursor_0 : decode cX9_beginCursor 0 = .ok (.aload_n 0, 1) := by decide +kernel
theorem dX9_beginCursor_1 : decode cX9_beginCursor 1 = .ok (.iload_n 1, 1) := by decide +kernel
theorem dX9_beginCursor_2 : decode cX9_beginCursor 2 = .ok (.invokevirtual 53, 3) := by decide +kernel
theorem dX9_beginCursor_5 : decode cX9_beginCursor 5 = .ok (.astore_n 2, 1) := by decide +kernel
theorem dX9_beginCursor_6 : decode cX9_beginCursor 6 = .ok (.aload_n 2, 1) := by decide +kernel
theorem dX9_beginCursor_7 : decode cX9_beginCursor 7 = .ok (.invokevirtual 126, 3) := by decide +kernel
theorem dX9_beginCursor_10 : decode cX9_beginCursor 10 = .ok (.invokevirtual 130, 3) := by decide +kernel
theorem dX9_beginCursor_13 : decode cX9_beginCursor 13 = .ok (.aload_n 2, 1) := by decide +kernel
theorem dX9_beginCursor_14 : decode cX9_beginCursor 14 = .ok (.invokevirtual 95, 3) := by decide +kernel
theorem dX9_beginCursor_17 : decode cX9_beginCursor 17 = .ok (.invokevirtual 99, 3) := by decide +kernel
theorem dX9_beginCursor_20 : decode cX9_beginCursor 20 = .ok (.ireturn, 1) := by decide +kernel
theorem dX9_hasNext_0 : decode cX9_hasNext 0 = .ok (.aload_n 0, 1) := by decide +kernel
theorem dX9_hasNext_1 : decode cX9_hasNext 1 = .ok (.iload_n 1, 1) := by decide +kernel
theorem dX9_hasNext_2 : decode cX9_hasNext 2 = .ok (.invokevirtual 53, 3) := by decide +kernel
theorem dX9_hasNext_5 : decode cX9_hasNext 5 = .ok (.astore_n 2, 1) := by decide +kernel
theorem dX9_hasNext_6 : decode cX9_hasNext 6 = .ok (.aload_n 2, 1) := by decide +kernel
theorem dX9_hasNext_7 : decode cX9_hasNext 7 = .ok (.invokevirtual 126, 3) := by decide +kernel
theorem dX9_hasNext_10 : decode cX9_hasNext 10 = .ok (.aload_n 2, 1) := by decide +kernel
theorem dX9_hasNext_11 : decode cX9_hasNext 11 = .ok (.invokevirtual 95, 3) := by decide +kernel
theorem dX9_hasNext_14 : decode cX9_hasNext 14 = .ok (.invokevirtual 99, 3) := by decide +kernel
theorem dX9_hasNext_17 : decode cX9_hasNext 17 = .ok (.invokevirtual 135, 3) := by decide +kernel
theorem dX9_hasNext_20 : decode cX9_hasNext 20 = .ok (.ireturn, 1) := by decide +kernel
theorem dX9_next_0 : decode cX9_next 0 = .ok (.aload_n 0, 1) := by decide +kernel
theorem dX9_next_1 : decode cX9_next 1 = .ok (.iload_n 1, 1) := by decide +kernel
theorem dX9_next_2 : decode cX9_next 2 = .ok (.invokevirtual 53, 3) := by decide +kernel
theorem dX9_next_5 : decode cX9_next 5 = .ok (.astore_n 2, 1) := by decide +kernel
theorem dX9_next_6 : decode cX9_next 6 = .ok (.aload_n 2, 1) := by decide +kernel
theorem dX9_next_7 : decode cX9_next 7 = .ok (.invokevirtual 126, 3) := by decide +kernel
theorem dX9_next_10 : decode cX9_next 10 = .ok (.invokevirtual 138, 3) := by decide +kernel
theorem dX9_next_13 : decode cX9_next 13 = .ok (.ifCond .ne 13, 3) := by decide +kernel
theorem dX9_next_16 : decode cX9_next 16 = .ok (.new 142, 3) := by decide +kernel
theorem dX9_next_19 : decode cX9_next 19 = .ok (.dup, 1) := by decide +kernel
theorem dX9_next_20 : decode cX9_next 20 = .ok (.ldc 144, 2) := by decide +kernel
theorem dX9_next_22 : decode cX9_next 22 = .ok (.invokespecial 146, 3) := by decide +kernel
theorem dX9_next_25 : decode cX9_next 25 = .ok (.athrow, 1) := by decide +kernel
theorem dX9_next_26 : decode cX9_next 26 = .ok (.aload_n 2, 1) := by decide +kernel
theorem dX9_next_27 : decode cX9_next 27 = .ok (.invokevirtual 126, 3) := by decide +kernel
theorem dX9_next_30 : decode cX9_next 30 = .ok (.aload_n 2, 1) := by decide +kernel
theorem dX9_next_31 : decode cX9_next 31 = .ok (.invokevirtual 95, 3) := by decide +kernel
theorem dX9_next_34 : decode cX9_next 34 = .ok (.invokevirtual 99, 3) := by decide +kernel
theorem dX9_next_37 : decode cX9_next 37 = .ok (.invokevirtual 135, 3) := by decide +kernel
theorem dX9_next_40 : decode cX9_next 40 = .ok (.ifCond .ne 13, 3) := by decide +kernel
theorem dX9_next_43 : decode cX9_next 43 = .ok (.new 149, 3) := by decide +kernel
theorem dX9_next_46 : decode cX9_next 46 = .ok (.dup, 1) := by decide +kernel
theorem dX9_next_47 : decode cX9_next 47 = .ok (.ldc 151, 2) := by decide +kernel
theorem dX9_next_49 : decode cX9_next 49 = .ok (.invokespecial 153, 3) := by decide +kernel
theorem dX9_next_52 : decode cX9_next 52 = .ok (.athrow, 1) := by decide +kernel
theorem dX9_next_53 : decode cX9_next 53 = .ok (.aload_n 2, 1) := by decide +kernel
theorem dX9_next_54 : decode cX9_next 54 = .ok (.invokevirtual 126, 3) := by decide +kernel
theorem dX9_next_57 : decode cX9_next 57 = .ok (.invokevirtual 154, 3) := by decide +kernel
theorem dX9_next_60 : decode cX9_next 60 = .ok (.istore_n 3, 1) := by decide +kernel
theorem dX9_next_61 : decode cX9_next 61 = .ok (.sipush 1000, 3) := by decide +kernel
theorem dX9_next_64 : decode cX9_next 64 = .ok (.aload_n 2, 1) := by decide +kernel
theorem dX9_next_65 : decode cX9_next 65 = .ok (.invokevirtual 95, 3) := by decide +kernel
theorem dX9_next_68 : decode cX9_next 68 = .ok (.iload_n 3, 1) := by decide +kernel
theorem dX9_next_69 : decode cX9_next 69 = .ok (.invokevirtual 108, 3) := by decide +kernel
theorem dX9_next_72 : decode cX9_next 72 = .ok (.imul, 1) := by decide +kernel
theorem dX9_next_73 : decode cX9_next 73 = .ok (.aload_n 2, 1) := by decide +kernel
theorem dX9_next_74 : decode cX9_next 74 = .ok (.iload_n 3, 1) := by decide +kernel
theorem dX9_next_75 : decode cX9_next 75 = .ok (.invokevirtual 111, 3) := by decide +kernel
theorem dX9_next_78 : decode cX9_next 78 = .ok (.iadd, 1) := by decide +kernel
theorem dX9_next_79 : decode cX9_next 79 = .ok (.ireturn, 1) := by decide +kernel
theorem dX9_takeOut_0 : decode cX9_takeOut 0 = .ok (.aload_n 0, 1) := by decide +kernel
theorem dX9_takeOut_1 : decode cX9_takeOut 1 = .ok (.iload_n 1, 1) := by decide +kernel
theorem dX9_takeOut_2 : decode cX9_takeOut 2 = .ok (.invokevirtual 53, 3) := by decide +kernel
theorem dX9_takeOut_5 : decode cX9_takeOut 5 = .ok (.astore_n 2, 1) := by decide +kernel
theorem dX9_takeOut_6 : decode cX9_takeOut 6 = .ok (.aload_n 2, 1) := by decide +kernel
theorem dX9_takeOut_7 : decode cX9_takeOut 7 = .ok (.invokevirtual 126, 3) := by decide +kernel
theorem dX9_takeOut_10 : decode cX9_takeOut 10 = .ok (.invokevirtual 157, 3) := by decide +kernel
theorem dX9_takeOut_13 : decode cX9_takeOut 13 = .ok (.ifCond .ne 13, 3) := by decide +kernel
theorem dX9_takeOut_16 : decode cX9_takeOut 16 = .ok (.new 142, 3) := by decide +kernel
theorem dX9_takeOut_19 : decode cX9_takeOut 19 = .ok (.dup, 1) := by decide +kernel
theorem dX9_takeOut_20 : decode cX9_takeOut 20 = .ok (.ldc 160, 2) := by decide +kernel
theorem dX9_takeOut_22 : decode cX9_takeOut 22 = .ok (.invokespecial 146, 3) := by decide +kernel
theorem dX9_takeOut_25 : decode cX9_takeOut 25 = .ok (.athrow, 1) := by decide +kernel
theorem dX9_takeOut_26 : decode cX9_takeOut 26 = .ok (.aload_n 2, 1) := by decide +kernel
theorem dX9_takeOut_27 : decode cX9_takeOut 27 = .ok (.invokevirtual 95, 3) := by decide +kernel
theorem dX9_takeOut_30 : decode cX9_takeOut 30 = .ok (.aload_n 2, 1) := by decide +kernel
theorem dX9_takeOut_31 : decode cX9_takeOut 31 = .ok (.invokevirtual 126, 3) := by decide +kernel
theorem dX9_takeOut_34 : decode cX9_takeOut 34 = .ok (.invokevirtual 162, 3) := by decide +kernel
theorem dX9_takeOut_37 : decode cX9_takeOut 37 = .ok (.invokevirtual 165, 3) := by decide +kernel
theorem dX9_takeOut_40 : decode cX9_takeOut 40 = .ok (.aload_n 2, 1) := by decide +kernel
theorem dX9_takeOut_41 : decode cX9_takeOut 41 = .ok (.invokevirtual 95, 3) := by decide +kernel
theorem dX9_takeOut_44 : decode cX9_takeOut 44 = .ok (.invokevirtual 99, 3) := by decide +kernel
theorem dX9_takeOut_47 : decode cX9_takeOut 47 = .ok (.ireturn, 1) := by decide +kernel
theorem dX9_request_0 : decode cX9_request 0 = .ok (.iload_n 1, 1) := by decide +kernel
theorem dX9_request_1 : decode cX9_request 1 = .ok (.invokestatic 57, 3) := by decide +kernel
theorem dX9_request_4 : decode cX9_request 4 = .ok (.aload_n 0, 1) := by decide +kernel
theorem dX9_request_5 : decode cX9_request 5 = .ok (.getfield 30, 3) := by decide +kernel
theorem dX9_request_8 : decode cX9_request 8 = .ok (.invokevirtual 168, 3) := by decide +kernel
theorem dX9_request_11 : decode cX9_request 11 = .ok (.sipush 1000, 3) := by decide +kernel
theorem dX9_request_14 : decode cX9_request 14 = .ok (.if_icmp .lt 13, 3) := by decide +kernel
theorem dX9_request_17 : decode cX9_request 17 = .ok (.new 142, 3) := by decide +kernel
theorem dX9_request_20 : decode cX9_request 20 = .ok (.dup, 1) := by decide +kernel
theorem dX9_request_21 : decode cX9_request 21 = .ok (.ldc 169, 2) := by decide +kernel
theorem dX9_request_23 : decode cX9_request 23 = .ok (.invokespecial 146, 3) := by decide +kernel
theorem dX9_request_26 : decode cX9_request 26 = .ok (.athrow, 1) := by decide +kernel
theorem dX9_request_27 : decode cX9_request 27 = .ok (.aload_n 0, 1) := by decide +kernel
theorem dX9_request_28 : decode cX9_request 28 = .ok (.iload_n 1, 1) := by decide +kernel
theorem dX9_request_29 : decode cX9_request 29 = .ok (.invokevirtual 171, 3) := by decide +kernel
theorem dX9_request_32 : decode cX9_request 32 = .ok (.ireturn, 1) := by decide +kernel
theorem dX9_clearCaches_0 : decode cX9_clearCaches 0 = .ok (.aload_n 0, 1) := by decide +kernel
theorem dX9_clearCaches_1 : decode cX9_clearCaches 1 = .ok (.getfield 30, 3) := by decide +kernel
theorem dX9_clearCaches_4 : decode cX9_clearCaches 4 = .ok (.invokevirtual 168, 3) := by decide +kernel
theorem dX9_clearCaches_7 : decode cX9_clearCaches 7 = .ok (.istore_n 1, 1) := by decide +kernel
theorem dX9_clearCaches_8 : decode cX9_clearCaches 8 = .ok (.iconst 0, 1) := by decide +kernel
theorem dX9_clearCaches_9 : decode cX9_clearCaches 9 = .ok (.istore_n 2, 1) := by decide +kernel
theorem dX9_clearCaches_10 : decode cX9_clearCaches 10 = .ok (.iload_n 2, 1) := by decide +kernel
theorem dX9_clearCaches_11 : decode cX9_clearCaches 11 = .ok (.bipush 8, 2) := by decide +kernel
theorem dX9_clearCaches_13 : decode cX9_clearCaches 13 = .ok (.if_icmp .ge 18, 3) := by decide +kernel
theorem dX9_clearCaches_16 : decode cX9_clearCaches 16 = .ok (.aload_n 0, 1) := by decide +kernel
theorem dX9_clearCaches_17 : decode cX9_clearCaches 17 = .ok (.getfield 23, 3) := by decide +kernel
theorem dX9_clearCaches_20 : decode cX9_clearCaches 20 = .ok (.iload_n 2, 1) := by decide +kernel
theorem dX9_clearCaches_21 : decode cX9_clearCaches 21 = .ok (.aaload, 1) := by decide +kernel
theorem dX9_clearCaches_22 : decode cX9_clearCaches 22 = .ok (.invokevirtual 174, 3) := by decide +kernel
theorem dX9_clearCaches_25 : decode cX9_clearCaches 25 = .ok (.iinc 2 1, 3) := by decide +kernel
theorem dX9_clearCaches_28 : decode cX9_clearCaches 28 = .ok (.goto (-18), 3) := by decide +kernel
theorem dX9_clearCaches_31 : decode cX9_clearCaches 31 = .ok (.aload_n 0, 1) := by decide +kernel
theorem dX9_clearCaches_32 : decode cX9_clearCaches 32 = .ok (.getfield 30, 3) := by decide +kernel
theorem dX9_clearCaches_35 : decode cX9_clearCaches 35 = .ok (.invokevirtual 177, 3) := by decide +kernel
theorem dX9_clearCaches_38 : decode cX9_clearCaches 38 = .ok (.iload_n 1, 1) := by decide +kernel
theorem dX9_clearCaches_39 : decode cX9_clearCaches 39 = .ok (.ireturn, 1) := by decide +kernel
theorem dX9_hits_0 : decode cX9_hits 0 = .ok (.aload_n 0, 1) := by decide +kernel
theorem dX9_hits_1 : decode cX9_hits 1 = .ok (.iload_n 1, 1) := by decide +kernel
theorem dX9_hits_2 : decode cX9_hits 2 = .ok (.invokevirtual 178, 3) := by decide +kernel
theorem dX9_hits_5 : decode cX9_hits 5 = .ok (.invokevirtual 182, 3) := by decide +kernel
theorem dX9_hits_8 : decode cX9_hits 8 = .ok (.ireturn, 1) := by decide +kernel
theorem dX9_cached_0 : decode cX9_cached 0 = .ok (.aload_n 0, 1) := by decide +kernel
theorem dX9_cached_1 : decode cX9_cached 1 = .ok (.iload_n 1, 1) := by decide +kernel
theorem dX9_cached_2 : decode cX9_cached 2 = .ok (.invokevirtual 178, 3) := by decide +kernel
theorem dX9_cached_5 : decode cX9_cached 5 = .ok (.invokevirtual 185, 3) := by decide +kernel
theorem dX9_cached_8 : decode cX9_cached 8 = .ok (.invokevirtual 99, 3) := by decide +kernel
theorem dX9_cached_11 : decode cX9_cached 11 = .ok (.ireturn, 1) := by decide +kernel
theorem dX9_isCached_0 : decode cX9_isCached 0 = .ok (.aload_n 0, 1) := by decide +kernel
theorem dX9_isCached_1 : decode cX9_isCached 1 = .ok (.iload_n 1, 1) := by decide +kernel
theorem dX9_isCached_2 : decode cX9_isCached 2 = .ok (.invokevirtual 178, 3) := by decide +kernel
theorem dX9_isCached_5 : decode cX9_isCached 5 = .ok (.astore_n 3, 1) := by decide +kernel
theorem dX9_isCached_6 : decode cX9_isCached 6 = .ok (.iload_n 2, 1) := by decide +kernel
theorem dX9_isCached_7 : decode cX9_isCached 7 = .ok (.invokestatic 57, 3) := by decide +kernel
theorem dX9_isCached_10 : decode cX9_isCached 10 = .ok (.aload_n 3, 1) := by decide +kernel
theorem dX9_isCached_11 : decode cX9_isCached 11 = .ok (.invokevirtual 185, 3) := by decide +kernel
theorem dX9_isCached_14 : decode cX9_isCached 14 = .ok (.iload_n 2, 1) := by decide +kernel
theorem dX9_isCached_15 : decode cX9_isCached 15 = .ok (.invokevirtual 186, 3) := by decide +kernel
theorem dX9_isCached_18 : decode cX9_isCached 18 = .ok (.ireturn, 1) := by decide +kernel
theorem dX9_cachedAt_0 : decode cX9_cachedAt 0 = .ok (.aload_n 0, 1) := by decide +kernel
theorem dX9_cachedAt_1 : decode cX9_cachedAt 1 = .ok (.iload_n 1, 1) := by decide +kernel
theorem dX9_cachedAt_2 : decode cX9_cachedAt 2 = .ok (.invokevirtual 178, 3) := by decide +kernel
theorem dX9_cachedAt_5 : decode cX9_cachedAt 5 = .ok (.invokevirtual 185, 3) := by decide +kernel
theorem dX9_cachedAt_8 : decode cX9_cachedAt 8 = .ok (.astore_n 3, 1) := by decide +kernel
theorem dX9_cachedAt_9 : decode cX9_cachedAt 9 = .ok (.iload_n 2, 1) := by decide +kernel
theorem dX9_cachedAt_10 : decode cX9_cachedAt 10 = .ok (.aload_n 3, 1) := by decide +kernel
theorem dX9_cachedAt_11 : decode cX9_cachedAt 11 = .ok (.invokevirtual 99, 3) := by decide +kernel
theorem dX9_cachedAt_14 : decode cX9_cachedAt 14 = .ok (.invokestatic 104, 3) := by decide +kernel
theorem dX9_cachedAt_17 : decode cX9_cachedAt 17 = .ok (.aload_n 3, 1) := by decide +kernel
theorem dX9_cachedAt_18 : decode cX9_cachedAt 18 = .ok (.iload_n 2, 1) := by decide +kernel
theorem dX9_cachedAt_19 : decode cX9_cachedAt 19 = .ok (.invokevirtual 108, 3) := by decide +kernel
theorem dX9_cachedAt_22 : decode cX9_cachedAt 22 = .ok (.ireturn, 1) := by decide +kernel
theorem dX9_requests_0 : decode cX9_requests 0 = .ok (.aload_n 0, 1) := by decide +kernel
theorem dX9_requests_1 : decode cX9_requests 1 = .ok (.getfield 30, 3) := by decide +kernel
theorem dX9_requests_4 : decode cX9_requests 4 = .ok (.invokevirtual 168, 3) := by decide +kernel
theorem dX9_requests_7 : decode cX9_requests 7 = .ok (.ireturn, 1) := by decide +kernel
theorem dX9_requestAt_0 : decode cX9_requestAt 0 = .ok (.iload_n 1, 1) := by decide +kernel
theorem dX9_requestAt_1 : decode cX9_requestAt 1 = .ok (.aload_n 0, 1) := by decide +kernel
theorem dX9_requestAt_2 : decode cX9_requestAt 2 = .ok (.getfield 30, 3) := by decide +kernel
theorem dX9_requestAt_5 : decode cX9_requestAt 5 = .ok (.invokevirtual 168, 3) := by decide +kernel
theorem dX9_requestAt_8 : decode cX9_requestAt 8 = .ok (.invokestatic 104, 3) := by decide +kernel
theorem dX9_requestAt_11 : decode cX9_requestAt 11 = .ok (.aload_n 0, 1) := by decide +kernel
theorem dX9_requestAt_12 : decode cX9_requestAt 12 = .ok (.getfield 30, 3) := by decide +kernel
theorem dX9_requestAt_15 : decode cX9_requestAt 15 = .ok (.iload_n 1, 1) := by decide +kernel
theorem dX9_requestAt_16 : decode cX9_requestAt 16 = .ok (.invokevirtual 189, 3) := by decide +kernel
theorem dX9_requestAt_19 : decode cX9_requestAt 19 = .ok (.ireturn, 1) := by decide +kernel
theorem dX9_distanceOf_0 : decode cX9_distanceOf 0 = .ok (.iload_n 1, 1) := by decide +kernel
theorem dX9_distanceOf_1 : decode cX9_distanceOf 1 = .ok (.aload_n 0, 1) := by decide +kernel
theorem dX9_distanceOf_2 : decode cX9_distanceOf 2 = .ok (.getfield 30, 3) := by decide +kernel
theorem dX9_distanceOf_5 : decode cX9_distanceOf 5 = .ok (.invokevirtual 168, 3) := by decide +kernel
theorem dX9_distanceOf_8 : decode cX9_distanceOf 8 = .ok (.invokestatic 104, 3) := by decide +kernel
theorem dX9_distanceOf_11 : decode cX9_distanceOf 11 = .ok (.aload_n 0, 1) := by decide +kernel
theorem dX9_distanceOf_12 : decode cX9_distanceOf 12 = .ok (.getfield 30, 3) := by decide +kernel
theorem dX9_distanceOf_15 : decode cX9_distanceOf 15 = .ok (.iload_n 1, 1) := by decide +kernel
theorem dX9_distanceOf_16 : decode cX9_distanceOf 16 = .ok (.invokevirtual 190, 3) := by decide +kernel
theorem dX9_distanceOf_19 : decode cX9_distanceOf 19 = .ok (.ireturn, 1) := by decide +kernel
theorem dX9_nearer_0 : decode cX9_nearer 0 = .ok (.iload_n 1, 1) := by decide +kernel
theorem dX9_nearer_1 : decode cX9_nearer 1 = .ok (.iconst 0, 1) := by decide +kernel
theorem dX9_nearer_2 : decode cX9_nearer 2 = .ok (.bipush 100, 2) := by decide +kernel
theorem dX9_nearer_4 : decode cX9_nearer 4 = .ok (.invokestatic 81, 3) := by decide +kernel
theorem dX9_nearer_7 : decode cX9_nearer 7 = .ok (.aload_n 0, 1) := by decide +kernel
theorem dX9_nearer_8 : decode cX9_nearer 8 = .ok (.getfield 30, 3) := by decide +kernel
theorem dX9_nearer_11 : decode cX9_nearer 11 = .ok (.iload_n 1, 1) := by decide +kernel
theorem dX9_nearer_12 : decode cX9_nearer 12 = .ok (.invokevirtual 193, 3) := by decide +kernel
theorem dX9_nearer_15 : decode cX9_nearer 15 = .ok (.ireturn, 1) := by decide +kernel
theorem dX9_leastCache_0 : decode cX9_leastCache 0 = .ok (.iload_n 1, 1) := by decide +kernel
theorem dX9_leastCache_1 : decode cX9_leastCache 1 = .ok (.ifCond .ge 13, 3) := by decide +kernel
theorem dX9_leastCache_4 : decode cX9_leastCache 4 = .ok (.new 196, 3) := by decide +kernel
theorem dX9_leastCache_7 : decode cX9_leastCache 7 = .ok (.dup, 1) := by decide +kernel
theorem dX9_leastCache_8 : decode cX9_leastCache 8 = .ok (.ldc 198, 2) := by decide +kernel
theorem dX9_leastCache_10 : decode cX9_leastCache 10 = .ok (.invokespecial 200, 3) := by decide +kernel
theorem dX9_leastCache_13 : decode cX9_leastCache 13 = .ok (.athrow, 1) := by decide +kernel
theorem dX9_leastCache_14 : decode cX9_leastCache 14 = .ok (.iconst 0, 1) := by decide +kernel
theorem dX9_leastCache_15 : decode cX9_leastCache 15 = .ok (.istore_n 2, 1) := by decide +kernel
theorem dX9_leastCache_16 : decode cX9_leastCache 16 = .ok (.iload_n 2, 1) := by decide +kernel
theorem dX9_leastCache_17 : decode cX9_leastCache 17 = .ok (.bipush 8, 2) := by decide +kernel
theorem dX9_leastCache_19 : decode cX9_leastCache 19 = .ok (.if_icmp .ge 26, 3) := by decide +kernel
theorem dX9_leastCache_22 : decode cX9_leastCache 22 = .ok (.aload_n 0, 1) := by decide +kernel
theorem dX9_leastCache_23 : decode cX9_leastCache 23 = .ok (.getfield 23, 3) := by decide +kernel
theorem dX9_leastCache_26 : decode cX9_leastCache 26 = .ok (.iload_n 2, 1) := by decide +kernel
theorem dX9_leastCache_27 : decode cX9_leastCache 27 = .ok (.aaload, 1) := by decide +kernel
theorem dX9_leastCache_28 : decode cX9_leastCache 28 = .ok (.invokevirtual 182, 3) := by decide +kernel
theorem dX9_leastCache_31 : decode cX9_leastCache 31 = .ok (.iload_n 1, 1) := by decide +kernel
theorem dX9_leastCache_32 : decode cX9_leastCache 32 = .ok (.if_icmp .lt 7, 3) := by decide +kernel
theorem dX9_leastCache_35 : decode cX9_leastCache 35 = .ok (.iload_n 2, 1) := by decide +kernel
theorem dX9_leastCache_36 : decode cX9_leastCache 36 = .ok (.iconst 1, 1) := by decide +kernel
theorem dX9_leastCache_37 : decode cX9_leastCache 37 = .ok (.iadd, 1) := by decide +kernel
theorem dX9_leastCache_38 : decode cX9_leastCache 38 = .ok (.ireturn, 1) := by decide +kernel
theorem dX9_leastCache_39 : decode cX9_leastCache 39 = .ok (.iinc 2 1, 3) := by decide +kernel
theorem dX9_leastCache_42 : decode cX9_leastCache 42 = .ok (.goto (-26), 3) := by decide +kernel
theorem dX9_leastCache_45 : decode cX9_leastCache 45 = .ok (.iconst (-1), 1) := by decide +kernel
theorem dX9_leastCache_46 : decode cX9_leastCache 46 = .ok (.ireturn, 1) := by decide +kernel
theorem dX9_append_0 : decode cX9_append 0 = .ok (.aload_n 0, 1) := by decide +kernel
theorem dX9_append_1 : decode cX9_append 1 = .ok (.getfield 37, 3) := by decide +kernel
theorem dX9_append_4 : decode cX9_append 4 = .ok (.invokevirtual 201, 3) := by decide +kernel
theorem dX9_append_7 : decode cX9_append 7 = .ok (.astore 6, 2) := by decide +kernel
theorem dX9_append_9 : decode cX9_append 9 = .ok (.iload_n 1, 1) := by decide +kernel
theorem dX9_append_10 : decode cX9_append 10 = .ok (.invokestatic 205, 3) := by decide +kernel
theorem dX9_append_13 : decode cX9_append 13 = .ok (.iload_n 2, 1) := by decide +kernel
theorem dX9_append_14 : decode cX9_append 14 = .ok (.invokestatic 205, 3) := by decide +kernel
theorem dX9_append_17 : decode cX9_append 17 = .ok (.iadd, 1) := by decide +kernel
theorem dX9_append_18 : decode cX9_append 18 = .ok (.iload_n 3, 1) := by decide +kernel
theorem dX9_append_19 : decode cX9_append 19 = .ok (.invokestatic 205, 3) := by decide +kernel
theorem dX9_append_22 : decode cX9_append 22 = .ok (.iadd, 1) := by decide +kernel
theorem dX9_append_23 : decode cX9_append 23 = .ok (.iload 4, 2) := by decide +kernel
theorem dX9_append_25 : decode cX9_append 25 = .ok (.invokestatic 205, 3) := by decide +kernel
theorem dX9_append_28 : decode cX9_append 28 = .ok (.iadd, 1) := by decide +kernel
theorem dX9_append_29 : decode cX9_append 29 = .ok (.iload 5, 2) := by decide +kernel
theorem dX9_append_31 : decode cX9_append 31 = .ok (.invokestatic 205, 3) := by decide +kernel
theorem dX9_append_34 : decode cX9_append 34 = .ok (.iadd, 1) := by decide +kernel
theorem dX9_append_35 : decode cX9_append 35 = .ok (.istore 7, 2) := by decide +kernel
theorem dX9_append_37 : decode cX9_append 37 = .ok (.aload 6, 2) := by decide +kernel
theorem dX9_append_39 : decode cX9_append 39 = .ok (.invokevirtual 210, 3) := by decide +kernel
theorem dX9_append_42 : decode cX9_append 42 = .ok (.iload 7, 2) := by decide +kernel
theorem dX9_append_44 : decode cX9_append 44 = .ok (.iadd, 1) := by decide +kernel
theorem dX9_append_45 : decode cX9_append 45 = .ok (.sipush 300, 3) := by decide +kernel
theorem dX9_append_48 : decode cX9_append 48 = .ok (.if_icmp .le 13, 3) := by decide +kernel
theorem dX9_append_51 : decode cX9_append 51 = .ok (.new 142, 3) := by decide +kernel
theorem dX9_append_54 : decode cX9_append 54 = .ok (.dup, 1) := by decide +kernel
theorem dX9_append_55 : decode cX9_append 55 = .ok (.ldc 211, 2) := by decide +kernel
theorem dX9_append_57 : decode cX9_append 57 = .ok (.invokespecial 146, 3) := by decide +kernel
theorem dX9_append_60 : decode cX9_append 60 = .ok (.athrow, 1) := by decide +kernel
theorem dX9_append_61 : decode cX9_append 61 = .ok (.aload 6, 2) := by decide +kernel
theorem dX9_append_63 : decode cX9_append 63 = .ok (.iload_n 1, 1) := by decide +kernel
theorem dX9_append_64 : decode cX9_append 64 = .ok (.invokevirtual 213, 3) := by decide +kernel
theorem dX9_append_67 : decode cX9_append 67 = .ok (.aload 6, 2) := by decide +kernel
theorem dX9_append_69 : decode cX9_append 69 = .ok (.iload_n 2, 1) := by decide +kernel
theorem dX9_append_70 : decode cX9_append 70 = .ok (.invokevirtual 213, 3) := by decide +kernel
theorem dX9_append_73 : decode cX9_append 73 = .ok (.aload 6, 2) := by decide +kernel
theorem dX9_append_75 : decode cX9_append 75 = .ok (.iload_n 3, 1) := by decide +kernel
theorem dX9_append_76 : decode cX9_append 76 = .ok (.invokevirtual 213, 3) := by decide +kernel
theorem dX9_append_79 : decode cX9_append 79 = .ok (.aload 6, 2) := by decide +kernel
theorem dX9_append_81 : decode cX9_append 81 = .ok (.iload 4, 2) := by decide +kernel
theorem dX9_append_83 : decode cX9_append 83 = .ok (.invokevirtual 213, 3) := by decide +kernel
theorem dX9_append_86 : decode cX9_append 86 = .ok (.aload 6, 2) := by decide +kernel
theorem dX9_append_88 : decode cX9_append 88 = .ok (.iload 5, 2) := by decide +kernel
theorem dX9_append_90 : decode cX9_append 90 = .ok (.invokevirtual 213, 3) := by decide +kernel
theorem dX9_append_93 : decode cX9_append 93 = .ok (.aload 6, 2) := by decide +kernel
theorem dX9_append_95 : decode cX9_append 95 = .ok (.invokevirtual 210, 3) := by decide +kernel
theorem dX9_append_98 : decode cX9_append 98 = .ok (.ireturn, 1) := by decide +kernel
theorem dX9_clearTape_0 : decode cX9_clearTape 0 = .ok (.aload_n 0, 1) := by decide +kernel
theorem dX9_clearTape_1 : decode cX9_clearTape 1 = .ok (.getfield 37, 3) := by decide +kernel
theorem dX9_clearTape_4 : decode cX9_clearTape 4 = .ok (.invokevirtual 201, 3) := by decide +kernel
theorem dX9_clearTape_7 : decode cX9_clearTape 7 = .ok (.invokevirtual 216, 3) := by decide +kernel
theorem dX9_clearTape_10 : decode cX9_clearTape 10 = .ok (.ireturn, 1) := by decide +kernel
theorem dX9_run_0 : decode cX9_run 0 = .ok (.aload_n 0, 1) := by decide +kernel
theorem dX9_run_1 : decode cX9_run 1 = .ok (.getfield 30, 3) := by decide +kernel
theorem dX9_run_4 : decode cX9_run 4 = .ok (.invokevirtual 168, 3) := by decide +kernel
theorem dX9_run_7 : decode cX9_run 7 = .ok (.sipush 800, 3) := by decide +kernel
theorem dX9_run_10 : decode cX9_run 10 = .ok (.if_icmp .le 13, 3) := by decide +kernel
theorem dX9_run_13 : decode cX9_run 13 = .ok (.new 142, 3) := by decide +kernel
theorem dX9_run_16 : decode cX9_run 16 = .ok (.dup, 1) := by decide +kernel
theorem dX9_run_17 : decode cX9_run 17 = .ok (.ldc 219, 2) := by decide +kernel
theorem dX9_run_19 : decode cX9_run 19 = .ok (.invokespecial 146, 3) := by decide +kernel
theorem dX9_run_22 : decode cX9_run 22 = .ok (.athrow, 1) := by decide +kernel
theorem dX9_run_23 : decode cX9_run 23 = .ok (.aload_n 0, 1) := by decide +kernel
theorem dX9_run_24 : decode cX9_run 24 = .ok (.aload_n 0, 1) := by decide +kernel
theorem dX9_run_25 : decode cX9_run 25 = .ok (.getfield 37, 3) := by decide +kernel
theorem dX9_run_28 : decode cX9_run 28 = .ok (.invokevirtual 221, 3) := by decide +kernel
theorem dX9_run_31 : decode cX9_run 31 = .ok (.putfield 48, 3) := by decide +kernel
theorem dX9_run_34 : decode cX9_run 34 = .ok (.aload_n 0, 1) := by decide +kernel
theorem dX9_run_35 : decode cX9_run 35 = .ok (.getfield 37, 3) := by decide +kernel
theorem dX9_run_38 : decode cX9_run 38 = .ok (.invokevirtual 201, 3) := by decide +kernel
theorem dX9_run_41 : decode cX9_run 41 = .ok (.invokevirtual 216, 3) := by decide +kernel
theorem dX9_run_44 : decode cX9_run 44 = .ok (.pop, 1) := by decide +kernel
theorem dX9_run_45 : decode cX9_run 45 = .ok (.aload_n 0, 1) := by decide +kernel
theorem dX9_run_46 : decode cX9_run 46 = .ok (.getfield 48, 3) := by decide +kernel
theorem dX9_run_49 : decode cX9_run 49 = .ok (.iconst (-1), 1) := by decide +kernel
theorem dX9_run_50 : decode cX9_run 50 = .ok (.if_icmp .eq 13, 3) := by decide +kernel
theorem dX9_run_53 : decode cX9_run 53 = .ok (.new 196, 3) := by decide +kernel
theorem dX9_run_56 : decode cX9_run 56 = .ok (.dup, 1) := by decide +kernel
theorem dX9_run_57 : decode cX9_run 57 = .ok (.ldc 224, 2) := by decide +kernel
theorem dX9_run_59 : decode cX9_run 59 = .ok (.invokespecial 200, 3) := by decide +kernel
theorem dX9_run_62 : decode cX9_run 62 = .ok (.athrow, 1) := by decide +kernel
theorem dX9_run_63 : decode cX9_run 63 = .ok (.aload_n 0, 1) := by decide +kernel
theorem dX9_run_64 : decode cX9_run 64 = .ok (.getfield 37, 3) := by decide +kernel
theorem dX9_run_67 : decode cX9_run 67 = .ok (.invokevirtual 226, 3) := by decide +kernel
theorem dX9_run_70 : decode cX9_run 70 = .ok (.astore_n 1, 1) := by decide +kernel
theorem dX9_run_71 : decode cX9_run 71 = .ok (.iconst 0, 1) := by decide +kernel
theorem dX9_run_72 : decode cX9_run 72 = .ok (.istore_n 2, 1) := by decide +kernel
theorem dX9_run_73 : decode cX9_run 73 = .ok (.iload_n 2, 1) := by decide +kernel
theorem dX9_run_74 : decode cX9_run 74 = .ok (.aload_n 1, 1) := by decide +kernel
theorem dX9_run_75 : decode cX9_run 75 = .ok (.invokevirtual 230, 3) := by decide +kernel
theorem dX9_run_78 : decode cX9_run 78 = .ok (.if_icmp .ge 23, 3) := by decide +kernel
theorem dX9_run_81 : decode cX9_run 81 = .ok (.aload_n 0, 1) := by decide +kernel
theorem dX9_run_82 : decode cX9_run 82 = .ok (.aload_n 1, 1) := by decide +kernel
theorem dX9_run_83 : decode cX9_run 83 = .ok (.iload_n 2, 1) := by decide +kernel
theorem dX9_run_84 : decode cX9_run 84 = .ok (.invokevirtual 233, 3) := by decide +kernel
theorem dX9_run_87 : decode cX9_run 87 = .ok (.aload_n 1, 1) := by decide +kernel
theorem dX9_run_88 : decode cX9_run 88 = .ok (.iload_n 2, 1) := by decide +kernel
theorem dX9_run_89 : decode cX9_run 89 = .ok (.invokevirtual 236, 3) := by decide +kernel
theorem dX9_run_92 : decode cX9_run 92 = .ok (.invokevirtual 239, 3) := by decide +kernel
theorem dX9_run_95 : decode cX9_run 95 = .ok (.iinc 2 1, 3) := by decide +kernel
theorem dX9_run_98 : decode cX9_run 98 = .ok (.goto (-25), 3) := by decide +kernel
theorem dX9_run_101 : decode cX9_run 101 = .ok (.aload_n 1, 1) := by decide +kernel
theorem dX9_run_102 : decode cX9_run 102 = .ok (.invokevirtual 230, 3) := by decide +kernel
theorem dX9_run_105 : decode cX9_run 105 = .ok (.ireturn, 1) := by decide +kernel
theorem dX9_errorPosition_0 : decode cX9_errorPosition 0 = .ok (.aload_n 0, 1) := by decide +kernel
theorem dX9_errorPosition_1 : decode cX9_errorPosition 1 = .ok (.getfield 48, 3) := by decide +kernel
theorem dX9_errorPosition_4 : decode cX9_errorPosition 4 = .ok (.ireturn, 1) := by decide +kernel
theorem dX9_setFrames_0 : decode cX9_setFrames 0 = .ok (.iload_n 1, 1) := by decide +kernel
theorem dX9_setFrames_1 : decode cX9_setFrames 1 = .ok (.iconst 1, 1) := by decide +kernel
theorem dX9_setFrames_2 : decode cX9_setFrames 2 = .ok (.bipush 8, 2) := by decide +kernel
theorem dX9_setFrames_4 : decode cX9_setFrames 4 = .ok (.invokestatic 81, 3) := by decide +kernel
theorem dX9_setFrames_7 : decode cX9_setFrames 7 = .ok (.aload_n 0, 1) := by decide +kernel
theorem dX9_setFrames_8 : decode cX9_setFrames 8 = .ok (.getfield 44, 3) := by decide +kernel
theorem dX9_setFrames_11 : decode cX9_setFrames 11 = .ok (.iload_n 1, 1) := by decide +kernel
theorem dX9_setFrames_12 : decode cX9_setFrames 12 = .ok (.invokevirtual 242, 3) := by decide +kernel
theorem dX9_setFrames_15 : decode cX9_setFrames 15 = .ok (.ireturn, 1) := by decide +kernel
theorem dX9_flush_0 : decode cX9_flush 0 = .ok (.aload_n 0, 1) := by decide +kernel
theorem dX9_flush_1 : decode cX9_flush 1 = .ok (.getfield 44, 3) := by decide +kernel
theorem dX9_flush_4 : decode cX9_flush 4 = .ok (.invokevirtual 245, 3) := by decide +kernel
theorem dX9_flush_7 : decode cX9_flush 7 = .ok (.ireturn, 1) := by decide +kernel
theorem dX9_accumulator_0 : decode cX9_accumulator 0 = .ok (.aload_n 0, 1) := by decide +kernel
theorem dX9_accumulator_1 : decode cX9_accumulator 1 = .ok (.getfield 44, 3) := by decide +kernel
theorem dX9_accumulator_4 : decode cX9_accumulator 4 = .ok (.invokevirtual 248, 3) := by decide +kernel
theorem dX9_accumulator_7 : decode cX9_accumulator 7 = .ok (.ireturn, 1) := by decide +kernel
theorem dX9_wordAt_0 : decode cX9_wordAt 0 = .ok (.iload_n 1, 1) := by decide +kernel
theorem dX9_wordAt_1 : decode cX9_wordAt 1 = .ok (.iconst 0, 1) := by decide +kernel
theorem dX9_wordAt_2 : decode cX9_wordAt 2 = .ok (.bipush 63, 2) := by decide +kernel
theorem dX9_wordAt_4 : decode cX9_wordAt 4 = .ok (.invokestatic 81, 3) := by decide +kernel
theorem dX9_wordAt_7 : decode cX9_wordAt 7 = .ok (.aload_n 0, 1) := by decide +kernel
theorem dX9_wordAt_8 : decode cX9_wordAt 8 = .ok (.getfield 44, 3) := by decide +kernel
theorem dX9_wordAt_11 : decode cX9_wordAt 11 = .ok (.iload_n 1, 1) := by decide +kernel
theorem dX9_wordAt_12 : decode cX9_wordAt 12 = .ok (.invokevirtual 251, 3) := by decide +kernel
theorem dX9_wordAt_15 : decode cX9_wordAt 15 = .ok (.ireturn, 1) := by decide +kernel
theorem dX9_discAt_0 : decode cX9_discAt 0 = .ok (.iload_n 1, 1) := by decide +kernel
theorem dX9_discAt_1 : decode cX9_discAt 1 = .ok (.iconst 0, 1) := by decide +kernel
theorem dX9_discAt_2 : decode cX9_discAt 2 = .ok (.bipush 63, 2) := by decide +kernel
theorem dX9_discAt_4 : decode cX9_discAt 4 = .ok (.invokestatic 81, 3) := by decide +kernel
theorem dX9_discAt_7 : decode cX9_discAt 7 = .ok (.aload_n 0, 1) := by decide +kernel
theorem dX9_discAt_8 : decode cX9_discAt 8 = .ok (.getfield 44, 3) := by decide +kernel
theorem dX9_discAt_11 : decode cX9_discAt 11 = .ok (.iload_n 1, 1) := by decide +kernel
theorem dX9_discAt_12 : decode cX9_discAt 12 = .ok (.invokevirtual 254, 3) := by decide +kernel
theorem dX9_discAt_15 : decode cX9_discAt 15 = .ok (.ireturn, 1) := by decide +kernel
theorem dX9_resident_0 : decode cX9_resident 0 = .ok (.aload_n 0, 1) := by decide +kernel
theorem dX9_resident_1 : decode cX9_resident 1 = .ok (.getfield 44, 3) := by decide +kernel
theorem dX9_resident_4 : decode cX9_resident 4 = .ok (.invokevirtual 257, 3) := by decide +kernel
theorem dX9_resident_7 : decode cX9_resident 7 = .ok (.invokevirtual 99, 3) := by decide +kernel
theorem dX9_resident_10 : decode cX9_resident 10 = .ok (.ireturn, 1) := by decide +kernel
theorem dX9_residentAt_0 : decode cX9_residentAt 0 = .ok (.iload_n 1, 1) := by decide +kernel
theorem dX9_residentAt_1 : decode cX9_residentAt 1 = .ok (.aload_n 0, 1) := by decide +kernel
theorem dX9_residentAt_2 : decode cX9_residentAt 2 = .ok (.getfield 44, 3) := by decide +kernel
theorem dX9_residentAt_5 : decode cX9_residentAt 5 = .ok (.invokevirtual 257, 3) := by decide +kernel
theorem dX9_residentAt_8 : decode cX9_residentAt 8 = .ok (.invokevirtual 99, 3) := by decide +kernel
theorem dX9_residentAt_11 : decode cX9_residentAt 11 = .ok (.invokestatic 104, 3) := by decide +kernel
theorem dX9_residentAt_14 : decode cX9_residentAt 14 = .ok (.aload_n 0, 1) := by decide +kernel
theorem dX9_residentAt_15 : decode cX9_residentAt 15 = .ok (.getfield 44, 3) := by decide +kernel
theorem dX9_residentAt_18 : decode cX9_residentAt 18 = .ok (.invokevirtual 257, 3) := by decide +kernel
theorem dX9_residentAt_21 : decode cX9_residentAt 21 = .ok (.iload_n 1, 1) := by decide +kernel
theorem dX9_residentAt_22 : decode cX9_residentAt 22 = .ok (.invokevirtual 108, 3) := by decide +kernel
theorem dX9_residentAt_25 : decode cX9_residentAt 25 = .ok (.ireturn, 1) := by decide +kernel
theorem dX9_isDirty_0 : decode cX9_isDirty 0 = .ok (.iload_n 1, 1) := by decide +kernel
theorem dX9_isDirty_1 : decode cX9_isDirty 1 = .ok (.iconst 0, 1) := by decide +kernel
theorem dX9_isDirty_2 : decode cX9_isDirty 2 = .ok (.bipush 15, 2) := by decide +kernel
theorem dX9_isDirty_4 : decode cX9_isDirty 4 = .ok (.invokestatic 81, 3) := by decide +kernel
theorem dX9_isDirty_7 : decode cX9_isDirty 7 = .ok (.aload_n 0, 1) := by decide +kernel
theorem dX9_isDirty_8 : decode cX9_isDirty 8 = .ok (.getfield 44, 3) := by decide +kernel
theorem dX9_isDirty_11 : decode cX9_isDirty 11 = .ok (.iload_n 1, 1) := by decide +kernel
theorem dX9_isDirty_12 : decode cX9_isDirty 12 = .ok (.invokevirtual 260, 3) := by decide +kernel
theorem dX9_isDirty_15 : decode cX9_isDirty 15 = .ok (.ireturn, 1) := by decide +kernel
theorem dX9_faults_0 : decode cX9_faults 0 = .ok (.aload_n 0, 1) := by decide +kernel
theorem dX9_faults_1 : decode cX9_faults 1 = .ok (.getfield 44, 3) := by decide +kernel
theorem dX9_faults_4 : decode cX9_faults 4 = .ok (.invokevirtual 263, 3) := by decide +kernel
theorem dX9_faults_7 : decode cX9_faults 7 = .ok (.ireturn, 1) := by decide +kernel
theorem dX9_writes_0 : decode cX9_writes 0 = .ok (.aload_n 0, 1) := by decide +kernel
theorem dX9_writes_1 : decode cX9_writes 1 = .ok (.getfield 44, 3) := by decide +kernel
theorem dX9_writes_4 : decode cX9_writes 4 = .ok (.invokevirtual 266, 3) := by decide +kernel
theorem dX9_writes_7 : decode cX9_writes 7 = .ok (.ireturn, 1) := by decide +kernel
theorem dX9_hitShare_0 : decode cX9_hitShare 0 = .ok (.aload_n 0, 1) := by decide +kernel
theorem dX9_hitShare_1 : decode cX9_hitShare 1 = .ok (.iload_n 1, 1) := by decide +kernel
theorem dX9_hitShare_2 : decode cX9_hitShare 2 = .ok (.invokevirtual 178, 3) := by decide +kernel
theorem dX9_hitShare_5 : decode cX9_hitShare 5 = .ok (.astore_n 2, 1) := by decide +kernel
theorem dX9_hitShare_6 : decode cX9_hitShare 6 = .ok (.aload_n 0, 1) := by decide +kernel
theorem dX9_hitShare_7 : decode cX9_hitShare 7 = .ok (.getfield 30, 3) := by decide +kernel
theorem dX9_hitShare_10 : decode cX9_hitShare 10 = .ok (.invokevirtual 168, 3) := by decide +kernel
theorem dX9_hitShare_13 : decode cX9_hitShare 13 = .ok (.istore_n 3, 1) := by decide +kernel
theorem dX9_hitShare_14 : decode cX9_hitShare 14 = .ok (.iload_n 3, 1) := by decide +kernel
theorem dX9_hitShare_15 : decode cX9_hitShare 15 = .ok (.ifCond .ne 5, 3) := by decide +kernel
theorem dX9_hitShare_18 : decode cX9_hitShare 18 = .ok (.fconst 0, 1) := by decide +kernel
theorem dX9_hitShare_19 : decode cX9_hitShare 19 = .ok (.freturn, 1) := by decide +kernel
theorem dX9_hitShare_20 : decode cX9_hitShare 20 = .ok (.aload_n 2, 1) := by decide +kernel
theorem dX9_hitShare_21 : decode cX9_hitShare 21 = .ok (.invokevirtual 182, 3) := by decide +kernel
theorem dX9_hitShare_24 : decode cX9_hitShare 24 = .ok (.i2f, 1) := by decide +kernel
theorem dX9_hitShare_25 : decode cX9_hitShare 25 = .ok (.iload_n 3, 1) := by decide +kernel
theorem dX9_hitShare_26 : decode cX9_hitShare 26 = .ok (.i2f, 1) := by decide +kernel
theorem dX9_hitShare_27 : decode cX9_hitShare 27 = .ok (.fdiv, 1) := by decide +kernel
theorem dX9_hitShare_28 : decode cX9_hitShare 28 = .ok (.freturn, 1) := by decide +kernel
theorem dX9_meanDistance_0 : decode cX9_meanDistance 0 = .ok (.aload_n 0, 1) := by decide +kernel
theorem dX9_meanDistance_1 : decode cX9_meanDistance 1 = .ok (.getfield 30, 3) := by decide +kernel
theorem dX9_meanDistance_4 : decode cX9_meanDistance 4 = .ok (.bipush 100, 2) := by decide +kernel
theorem dX9_meanDistance_6 : decode cX9_meanDistance 6 = .ok (.invokevirtual 193, 3) := by decide +kernel
theorem dX9_meanDistance_9 : decode cX9_meanDistance 9 = .ok (.istore_n 1, 1) := by decide +kernel
theorem dX9_meanDistance_10 : decode cX9_meanDistance 10 = .ok (.iload_n 1, 1) := by decide +kernel
theorem dX9_meanDistance_11 : decode cX9_meanDistance 11 = .ok (.ifCond .ne 5, 3) := by decide +kernel
theorem dX9_meanDistance_14 : decode cX9_meanDistance 14 = .ok (.dconst 0, 1) := by decide +kernel
theorem dX9_meanDistance_15 : decode cX9_meanDistance 15 = .ok (.dreturn, 1) := by decide +kernel
theorem dX9_meanDistance_16 : decode cX9_meanDistance 16 = .ok (.aload_n 0, 1) := by decide +kernel
theorem dX9_meanDistance_17 : decode cX9_meanDistance 17 = .ok (.getfield 30, 3) := by decide +kernel
theorem dX9_meanDistance_20 : decode cX9_meanDistance 20 = .ok (.invokevirtual 269, 3) := by decide +kernel
theorem dX9_meanDistance_23 : decode cX9_meanDistance 23 = .ok (.i2d, 1) := by decide +kernel
theorem dX9_meanDistance_24 : decode cX9_meanDistance 24 = .ok (.iload_n 1, 1) := by decide +kernel
theorem dX9_meanDistance_25 : decode cX9_meanDistance 25 = .ok (.i2d, 1) := by decide +kernel
theorem dX9_meanDistance_26 : decode cX9_meanDistance 26 = .ok (.ddiv, 1) := by decide +kernel
theorem dX9_meanDistance_27 : decode cX9_meanDistance 27 = .ok (.dreturn, 1) := by decide +kernel
theorem dX9_errors_0 : decode cX9_errors 0 = .ok (.iconst 0, 1) := by decide +kernel
theorem dX9_errors_1 : decode cX9_errors 1 = .ok (.istore_n 1, 1) := by decide +kernel
theorem dX9_errors_2 : decode cX9_errors 2 = .ok (.iconst 0, 1) := by decide +kernel
theorem dX9_errors_3 : decode cX9_errors 3 = .ok (.istore_n 2, 1) := by decide +kernel
theorem dX9_errors_4 : decode cX9_errors 4 = .ok (.iload_n 2, 1) := by decide +kernel
theorem dX9_errors_5 : decode cX9_errors 5 = .ok (.bipush 8, 2) := by decide +kernel
theorem dX9_errors_7 : decode cX9_errors 7 = .ok (.if_icmp .ge 28, 3) := by decide +kernel
theorem dX9_errors_10 : decode cX9_errors 10 = .ok (.aload_n 0, 1) := by decide +kernel
theorem dX9_errors_11 : decode cX9_errors 11 = .ok (.iload_n 2, 1) := by decide +kernel
theorem dX9_errors_12 : decode cX9_errors 12 = .ok (.invokevirtual 272, 3) := by decide +kernel
theorem dX9_errors_15 : decode cX9_errors 15 = .ok (.ifCond .ne 11, 3) := by decide +kernel
theorem dX9_errors_18 : decode cX9_errors 18 = .ok (.aload_n 0, 1) := by decide +kernel
theorem dX9_errors_19 : decode cX9_errors 19 = .ok (.iload_n 2, 1) := by decide +kernel
theorem dX9_errors_20 : decode cX9_errors 20 = .ok (.invokevirtual 275, 3) := by decide +kernel
theorem dX9_errors_23 : decode cX9_errors 23 = .ok (.ifCond .eq 6, 3) := by decide +kernel
theorem dX9_errors_26 : decode cX9_errors 26 = .ok (.iinc 1 1, 3) := by decide +kernel
theorem dX9_errors_29 : decode cX9_errors 29 = .ok (.iinc 2 1, 3) := by decide +kernel
theorem dX9_errors_32 : decode cX9_errors 32 = .ok (.goto (-28), 3) := by decide +kernel
theorem dX9_errors_35 : decode cX9_errors 35 = .ok (.iload_n 1, 1) := by decide +kernel
theorem dX9_errors_36 : decode cX9_errors 36 = .ok (.ireturn, 1) := by decide +kernel
theorem dX9_requireRange_0 : decode cX9_requireRange 0 = .ok (.iload_n 0, 1) := by decide +kernel
theorem dX9_requireRange_1 : decode cX9_requireRange 1 = .ok (.iload_n 1, 1) := by decide +kernel
theorem dX9_requireRange_2 : decode cX9_requireRange 2 = .ok (.if_icmp .lt 8, 3) := by decide +kernel
theorem dX9_requireRange_5 : decode cX9_requireRange 5 = .ok (.iload_n 0, 1) := by decide +kernel
theorem dX9_requireRange_6 : decode cX9_requireRange 6 = .ok (.iload_n 2, 1) := by decide +kernel
theorem dX9_requireRange_7 : decode cX9_requireRange 7 = .ok (.if_icmp .le 13, 3) := by decide +kernel
theorem dX9_requireRange_10 : decode cX9_requireRange 10 = .ok (.new 196, 3) := by decide +kernel
theorem dX9_requireRange_13 : decode cX9_requireRange 13 = .ok (.dup, 1) := by decide +kernel
theorem dX9_requireRange_14 : decode cX9_requireRange 14 = .ok (.ldc 198, 2) := by decide +kernel
theorem dX9_requireRange_16 : decode cX9_requireRange 16 = .ok (.invokespecial 200, 3) := by decide +kernel
theorem dX9_requireRange_19 : decode cX9_requireRange 19 = .ok (.athrow, 1) := by decide +kernel
theorem dX9_requireRange_20 : decode cX9_requireRange 20 = .ok (.return_, 1) := by decide +kernel
theorem dX9_requireKey_0 : decode cX9_requireKey 0 = .ok (.iload_n 0, 1) := by decide +kernel
theorem dX9_requireKey_1 : decode cX9_requireKey 1 = .ok (.iconst 0, 1) := by decide +kernel
theorem dX9_requireKey_2 : decode cX9_requireKey 2 = .ok (.bipush 99, 2) := by decide +kernel
theorem dX9_requireKey_4 : decode cX9_requireKey 4 = .ok (.invokestatic 81, 3) := by decide +kernel
theorem dX9_requireKey_7 : decode cX9_requireKey 7 = .ok (.return_, 1) := by decide +kernel
theorem dX9_requireValue_0 : decode cX9_requireValue 0 = .ok (.iload_n 0, 1) := by decide +kernel
theorem dX9_requireValue_1 : decode cX9_requireValue 1 = .ok (.iconst 0, 1) := by decide +kernel
theorem dX9_requireValue_2 : decode cX9_requireValue 2 = .ok (.sipush 999, 3) := by decide +kernel
theorem dX9_requireValue_5 : decode cX9_requireValue 5 = .ok (.invokestatic 81, 3) := by decide +kernel
theorem dX9_requireValue_8 : decode cX9_requireValue 8 = .ok (.return_, 1) := by decide +kernel
theorem dX9_requirePlace_0 : decode cX9_requirePlace 0 = .ok (.iload_n 0, 1) := by decide +kernel
theorem dX9_requirePlace_1 : decode cX9_requirePlace 1 = .ok (.ifCond .lt 8, 3) := by decide +kernel
theorem dX9_requirePlace_4 : decode cX9_requirePlace 4 = .ok (.iload_n 0, 1) := by decide +kernel
theorem dX9_requirePlace_5 : decode cX9_requirePlace 5 = .ok (.iload_n 1, 1) := by decide +kernel
theorem dX9_requirePlace_6 : decode cX9_requirePlace 6 = .ok (.if_icmp .lt 14, 3) := by decide +kernel
theorem dX9_requirePlace_9 : decode cX9_requirePlace 9 = .ok (.new 278, 3) := by decide +kernel
theorem dX9_requirePlace_12 : decode cX9_requirePlace 12 = .ok (.dup, 1) := by decide +kernel
theorem dX9_requirePlace_13 : decode cX9_requirePlace 13 = .ok (.ldc_w 280, 3) := by decide +kernel
theorem dX9_requirePlace_16 : decode cX9_requirePlace 16 = .ok (.invokespecial 282, 3) := by decide +kernel
theorem dX9_requirePlace_19 : decode cX9_requirePlace 19 = .ok (.athrow, 1) := by decide +kernel
theorem dX9_requirePlace_20 : decode cX9_requirePlace 20 = .ok (.return_, 1) := by decide +kernel
theorem dX9_chosenMap_0 : decode cX9_chosenMap 0 = .ok (.iload_n 1, 1) := by decide +kernel
theorem dX9_chosenMap_1 : decode cX9_chosenMap 1 = .ok (.iconst 0, 1) := by decide +kernel
theorem dX9_chosenMap_2 : decode cX9_chosenMap 2 = .ok (.iconst 1, 1) := by decide +kernel
theorem dX9_chosenMap_3 : decode cX9_chosenMap 3 = .ok (.invokestatic 81, 3) := by decide +kernel
theorem dX9_chosenMap_6 : decode cX9_chosenMap 6 = .ok (.iload_n 1, 1) := by decide +kernel
theorem dX9_chosenMap_7 : decode cX9_chosenMap 7 = .ok (.ifCond .ne 10, 3) := by decide +kernel
theorem dX9_chosenMap_10 : decode cX9_chosenMap 10 = .ok (.aload_n 0, 1) := by decide +kernel
theorem dX9_chosenMap_11 : decode cX9_chosenMap 11 = .ok (.getfield 14, 3) := by decide +kernel
theorem dX9_chosenMap_14 : decode cX9_chosenMap 14 = .ok (.goto 7, 3) := by decide +kernel
theorem dX9_chosenMap_17 : decode cX9_chosenMap 17 = .ok (.aload_n 0, 1) := by decide +kernel
theorem dX9_chosenMap_18 : decode cX9_chosenMap 18 = .ok (.getfield 18, 3) := by decide +kernel
theorem dX9_chosenMap_21 : decode cX9_chosenMap 21 = .ok (.areturn, 1) := by decide +kernel
theorem dX9_chosenCache_0 : decode cX9_chosenCache 0 = .ok (.iload_n 1, 1) := by decide +kernel
theorem dX9_chosenCache_1 : decode cX9_chosenCache 1 = .ok (.iconst 1, 1) := by decide +kernel
theorem dX9_chosenCache_2 : decode cX9_chosenCache 2 = .ok (.bipush 8, 2) := by decide +kernel
theorem dX9_chosenCache_4 : decode cX9_chosenCache 4 = .ok (.invokestatic 81, 3) := by decide +kernel
theorem dX9_chosenCache_7 : decode cX9_chosenCache 7 = .ok (.aload_n 0, 1) := by decide +kernel
theorem dX9_chosenCache_8 : decode cX9_chosenCache 8 = .ok (.getfield 23, 3) := by decide +kernel
theorem dX9_chosenCache_11 : decode cX9_chosenCache 11 = .ok (.iload_n 1, 1) := by decide +kernel
theorem dX9_chosenCache_12 : decode cX9_chosenCache 12 = .ok (.iconst 1, 1) := by decide +kernel
theorem dX9_chosenCache_13 : decode cX9_chosenCache 13 = .ok (.isub, 1) := by decide +kernel
theorem dX9_chosenCache_14 : decode cX9_chosenCache 14 = .ok (.aaload, 1) := by decide +kernel
theorem dX9_chosenCache_15 : decode cX9_chosenCache 15 = .ok (.areturn, 1) := by decide +kernel
theorem dX9_askCaches_0 : decode cX9_askCaches 0 = .ok (.iconst 0, 1) := by decide +kernel
theorem dX9_askCaches_1 : decode cX9_askCaches 1 = .ok (.istore_n 2, 1) := by decide +kernel
theorem dX9_askCaches_2 : decode cX9_askCaches 2 = .ok (.iconst 0, 1) := by decide +kernel
theorem dX9_askCaches_3 : decode cX9_askCaches 3 = .ok (.istore_n 3, 1) := by decide +kernel
theorem dX9_askCaches_4 : decode cX9_askCaches 4 = .ok (.iload_n 3, 1) := by decide +kernel
theorem dX9_askCaches_5 : decode cX9_askCaches 5 = .ok (.bipush 8, 2) := by decide +kernel
theorem dX9_askCaches_7 : decode cX9_askCaches 7 = .ok (.if_icmp .ge 28, 3) := by decide +kernel
theorem dX9_askCaches_10 : decode cX9_askCaches 10 = .ok (.aload_n 0, 1) := by decide +kernel
theorem dX9_askCaches_11 : decode cX9_askCaches 11 = .ok (.getfield 23, 3) := by decide +kernel
theorem dX9_askCaches_14 : decode cX9_askCaches 14 = .ok (.iload_n 3, 1) := by decide +kernel
theorem dX9_askCaches_15 : decode cX9_askCaches 15 = .ok (.aaload, 1) := by decide +kernel
theorem dX9_askCaches_16 : decode cX9_askCaches 16 = .ok (.iload_n 1, 1) := by decide +kernel
theorem dX9_askCaches_17 : decode cX9_askCaches 17 = .ok (.invokevirtual 283, 3) := by decide +kernel
theorem dX9_askCaches_20 : decode cX9_askCaches 20 = .ok (.ifCond .eq 9, 3) := by decide +kernel
theorem dX9_askCaches_23 : decode cX9_askCaches 23 = .ok (.iload_n 2, 1) := by decide +kernel
theorem dX9_askCaches_24 : decode cX9_askCaches 24 = .ok (.iconst 1, 1) := by decide +kernel
theorem dX9_askCaches_25 : decode cX9_askCaches 25 = .ok (.iload_n 3, 1) := by decide +kernel
theorem dX9_askCaches_26 : decode cX9_askCaches 26 = .ok (.ishl, 1) := by decide +kernel
theorem dX9_askCaches_27 : decode cX9_askCaches 27 = .ok (.ior, 1) := by decide +kernel
theorem dX9_askCaches_28 : decode cX9_askCaches 28 = .ok (.istore_n 2, 1) := by decide +kernel
theorem dX9_askCaches_29 : decode cX9_askCaches 29 = .ok (.iinc 3 1, 3) := by decide +kernel
theorem dX9_askCaches_32 : decode cX9_askCaches 32 = .ok (.goto (-28), 3) := by decide +kernel
theorem dX9_askCaches_35 : decode cX9_askCaches 35 = .ok (.aload_n 0, 1) := by decide +kernel
theorem dX9_askCaches_36 : decode cX9_askCaches 36 = .ok (.getfield 30, 3) := by decide +kernel
theorem dX9_askCaches_39 : decode cX9_askCaches 39 = .ok (.iload_n 1, 1) := by decide +kernel
theorem dX9_askCaches_40 : decode cX9_askCaches 40 = .ok (.invokevirtual 286, 3) := by decide +kernel
theorem dX9_askCaches_43 : decode cX9_askCaches 43 = .ok (.iload_n 2, 1) := by decide +kernel
theorem dX9_askCaches_44 : decode cX9_askCaches 44 = .ok (.ireturn, 1) := by decide +kernel
theorem dX9_performStep_0 : decode cX9_performStep 0 = .ok (.iload_n 1, 1) := by decide +kernel
theorem dX9_performStep_1 : decode cX9_performStep 1 = .ok (.bipush 99, 2) := by decide +kernel
theorem dX9_performStep_3 : decode cX9_performStep 3 = .ok (.if_icmp .eq 11, 3) := by decide +kernel
theorem dX9_performStep_6 : decode cX9_performStep 6 = .ok (.aload_n 0, 1) := by decide +kernel
theorem dX9_performStep_7 : decode cX9_performStep 7 = .ok (.iload_n 2, 1) := by decide +kernel
theorem dX9_performStep_8 : decode cX9_performStep 8 = .ok (.iconst 4, 1) := by decide +kernel
theorem dX9_performStep_9 : decode cX9_performStep 9 = .ok (.idiv, 1) := by decide +kernel
theorem dX9_performStep_10 : decode cX9_performStep 10 = .ok (.invokevirtual 171, 3) := by decide +kernel
theorem dX9_performStep_13 : decode cX9_performStep 13 = .ok (.pop, 1) := by decide +kernel
theorem dX9_performStep_14 : decode cX9_performStep 14 = .ok (.aload_n 0, 1) := by decide +kernel
theorem dX9_performStep_15 : decode cX9_performStep 15 = .ok (.getfield 44, 3) := by decide +kernel
theorem dX9_performStep_18 : decode cX9_performStep 18 = .ok (.iload_n 1, 1) := by decide +kernel
theorem dX9_performStep_19 : decode cX9_performStep 19 = .ok (.iload_n 2, 1) := by decide +kernel
theorem dX9_performStep_20 : decode cX9_performStep 20 = .ok (.invokevirtual 289, 3) := by decide +kernel
theorem dX9_performStep_23 : decode cX9_performStep 23 = .ok (.return_, 1) := by decide +kernel
theorem dX9_hitsContradictLog_0 : decode cX9_hitsContradictLog 0 = .ok (.aload_n 0, 1) := by decide +kernel
theorem dX9_hitsContradictLog_1 : decode cX9_hitsContradictLog 1 = .ok (.getfield 23, 3) := by decide +kernel
theorem dX9_hitsContradictLog_4 : decode cX9_hitsContradictLog 4 = .ok (.iload_n 1, 1) := by decide +kernel
theorem dX9_hitsContradictLog_5 : decode cX9_hitsContradictLog 5 = .ok (.aaload, 1) := by decide +kernel
theorem dX9_hitsContradictLog_6 : decode cX9_hitsContradictLog 6 = .ok (.invokevirtual 182, 3) := by decide +kernel
theorem dX9_hitsContradictLog_9 : decode cX9_hitsContradictLog 9 = .ok (.aload_n 0, 1) := by decide +kernel
theorem dX9_hitsContradictLog_10 : decode cX9_hitsContradictLog 10 = .ok (.getfield 30, 3) := by decide +kernel
theorem dX9_hitsContradictLog_13 : decode cX9_hitsContradictLog 13 = .ok (.iload_n 1, 1) := by decide +kernel
theorem dX9_hitsContradictLog_14 : decode cX9_hitsContradictLog 14 = .ok (.iconst 1, 1) := by decide +kernel
theorem dX9_hitsContradictLog_15 : decode cX9_hitsContradictLog 15 = .ok (.iadd, 1) := by decide +kernel
theorem dX9_hitsContradictLog_16 : decode cX9_hitsContradictLog 16 = .ok (.invokevirtual 193, 3) := by decide +kernel
theorem dX9_hitsContradictLog_19 : decode cX9_hitsContradictLog 19 = .ok (.if_icmp .eq 7, 3) := by decide +kernel
theorem dX9_hitsContradictLog_22 : decode cX9_hitsContradictLog 22 = .ok (.iconst 1, 1) := by decide +kernel
theorem dX9_hitsContradictLog_23 : decode cX9_hitsContradictLog 23 = .ok (.goto 4, 3) := by decide +kernel
theorem dX9_hitsContradictLog_26 : decode cX9_hitsContradictLog 26 = .ok (.iconst 0, 1) := by decide +kernel
theorem dX9_hitsContradictLog_27 : decode cX9_hitsContradictLog 27 = .ok (.ireturn, 1) := by decide +kernel
theorem dX9_hasKeyThatNextLacks_0 : decode cX9_hasKeyThatNextLacks 0 = .ok (.iload_n 1, 1) := by decide +kernel
theorem dX9_hasKeyThatNextLacks_1 : decode cX9_hasKeyThatNextLacks 1 = .ok (.iconst 1, 1) := by decide +kernel
theorem dX9_hasKeyThatNextLacks_2 : decode cX9_hasKeyThatNextLacks 2 = .ok (.iadd, 1) := by decide +kernel
theorem dX9_hasKeyThatNextLacks_3 : decode cX9_hasKeyThatNextLacks 3 = .ok (.bipush 8, 2) := by decide +kernel
theorem dX9_hasKeyThatNextLacks_5 : decode cX9_hasKeyThatNextLacks 5 = .ok (.if_icmp .lt 5, 3) := by decide +kernel
theorem dX9_hasKeyThatNextLacks_8 : decode cX9_hasKeyThatNextLacks 8 = .ok (.iconst 0, 1) := by decide +kernel
theorem dX9_hasKeyThatNextLacks_9 : decode cX9_hasKeyThatNextLacks 9 = .ok (.ireturn, 1) := by decide +kernel
theorem dX9_hasKeyThatNextLacks_10 : decode cX9_hasKeyThatNextLacks 10 = .ok (.aload_n 0, 1) := by decide +kernel
theorem dX9_hasKeyThatNextLacks_11 : decode cX9_hasKeyThatNextLacks 11 = .ok (.getfield 23, 3) := by decide +kernel
theorem dX9_hasKeyThatNextLacks_14 : decode cX9_hasKeyThatNextLacks 14 = .ok (.iload_n 1, 1) := by decide +kernel
theorem dX9_hasKeyThatNextLacks_15 : decode cX9_hasKeyThatNextLacks 15 = .ok (.aaload, 1) := by decide +kernel
theorem dX9_hasKeyThatNextLacks_16 : decode cX9_hasKeyThatNextLacks 16 = .ok (.invokevirtual 185, 3) := by decide +kernel
theorem dX9_hasKeyThatNextLacks_19 : decode cX9_hasKeyThatNextLacks 19 = .ok (.astore_n 2, 1) := by decide +kernel
theorem dX9_hasKeyThatNextLacks_20 : decode cX9_hasKeyThatNextLacks 20 = .ok (.aload_n 0, 1) := by decide +kernel
theorem dX9_hasKeyThatNextLacks_21 : decode cX9_hasKeyThatNextLacks 21 = .ok (.getfield 23, 3) := by decide +kernel
theorem dX9_hasKeyThatNextLacks_24 : decode cX9_hasKeyThatNextLacks 24 = .ok (.iload_n 1, 1) := by decide +kernel
theorem dX9_hasKeyThatNextLacks_25 : decode cX9_hasKeyThatNextLacks 25 = .ok (.iconst 1, 1) := by decide +kernel
theorem dX9_hasKeyThatNextLacks_26 : decode cX9_hasKeyThatNextLacks 26 = .ok (.iadd, 1) := by decide +kernel
theorem dX9_hasKeyThatNextLacks_27 : decode cX9_hasKeyThatNextLacks 27 = .ok (.aaload, 1) := by decide +kernel
theorem dX9_hasKeyThatNextLacks_28 : decode cX9_hasKeyThatNextLacks 28 = .ok (.invokevirtual 185, 3) := by decide +kernel
theorem dX9_hasKeyThatNextLacks_31 : decode cX9_hasKeyThatNextLacks 31 = .ok (.astore_n 3, 1) := by decide +kernel
theorem dX9_hasKeyThatNextLacks_32 : decode cX9_hasKeyThatNextLacks 32 = .ok (.iconst 0, 1) := by decide +kernel
theorem dX9_hasKeyThatNextLacks_33 : decode cX9_hasKeyThatNextLacks 33 = .ok (.istore 4, 2) := by decide +kernel
theorem dX9_hasKeyThatNextLacks_35 : decode cX9_hasKeyThatNextLacks 35 = .ok (.iload 4, 2) := by decide +kernel
theorem dX9_hasKeyThatNextLacks_37 : decode cX9_hasKeyThatNextLacks 37 = .ok (.aload_n 2, 1) := by decide +kernel
theorem dX9_hasKeyThatNextLacks_38 : decode cX9_hasKeyThatNextLacks 38 = .ok (.invokevirtual 99, 3) := by decide +kernel
theorem dX9_hasKeyThatNextLacks_41 : decode cX9_hasKeyThatNextLacks 41 = .ok (.if_icmp .ge 24, 3) := by decide +kernel
theorem dX9_hasKeyThatNextLacks_44 : decode cX9_hasKeyThatNextLacks 44 = .ok (.aload_n 3, 1) := by decide +kernel
theorem dX9_hasKeyThatNextLacks_45 : decode cX9_hasKeyThatNextLacks 45 = .ok (.aload_n 2, 1) := by decide +kernel
theorem dX9_hasKeyThatNextLacks_46 : decode cX9_hasKeyThatNextLacks 46 = .ok (.iload 4, 2) := by decide +kernel
theorem dX9_hasKeyThatNextLacks_48 : decode cX9_hasKeyThatNextLacks 48 = .ok (.invokevirtual 108, 3) := by decide +kernel
theorem dX9_hasKeyThatNextLacks_51 : decode cX9_hasKeyThatNextLacks 51 = .ok (.invokevirtual 186, 3) := by decide +kernel
theorem dX9_hasKeyThatNextLacks_54 : decode cX9_hasKeyThatNextLacks 54 = .ok (.ifCond .ne 5, 3) := by decide +kernel
theorem dX9_hasKeyThatNextLacks_57 : decode cX9_hasKeyThatNextLacks 57 = .ok (.iconst 1, 1) := by decide +kernel
theorem dX9_hasKeyThatNextLacks_58 : decode cX9_hasKeyThatNextLacks 58 = .ok (.ireturn, 1) := by decide +kernel
theorem dX9_hasKeyThatNextLacks_59 : decode cX9_hasKeyThatNextLacks 59 = .ok (.iinc 4 1, 3) := by decide +kernel
theorem dX9_hasKeyThatNextLacks_62 : decode cX9_hasKeyThatNextLacks 62 = .ok (.goto (-27), 3) := by decide +kernel
theorem dX9_hasKeyThatNextLacks_65 : decode cX9_hasKeyThatNextLacks 65 = .ok (.iconst 0, 1) := by decide +kernel
theorem dX9_hasKeyThatNextLacks_66 : decode cX9_hasKeyThatNextLacks 66 = .ok (.ireturn, 1) := by decide +kernel
