theorem dX1_init_0 : decode cX1_init 0 = .ok (.aload_n 0, 1) := by decide +kernel
theorem dX1_init_1 : decode cX1_init 1 = .ok (.invokespecial 3, 3) := by decide +kernel
theorem dX1_init_4 : decode cX1_init 4 = .ok (.aload_n 0, 1) := by decide +kernel
theorem dX1_init_5 : decode cX1_init 5 = .ok (.bipush 8, 2) := by decide +kernel
theorem dX1_init_7 : decode cX1_init 7 = .ok (.anewarray 9, 3) := by decide +kernel
theorem dX1_init_10 : decode cX1_init 10 = .ok (.putfield 11, 3) := by decide +kernel
theorem dX1_init_13 : decode cX1_init 13 = .ok (.aload_n 0, 1) := by decide +kernel
theorem dX1_init_14 : decode cX1_init 14 = .ok (.bipush 6, 2) := by decide +kernel
theorem dX1_init_16 : decode cX1_init 16 = .ok (.anewarray 17, 3) := by decide +kernel
theorem dX1_init_19 : decode cX1_init 19 = .ok (.putfield 19, 3) := by decide +kernel
theorem dX1_init_22 : decode cX1_init 22 = .ok (.aload_n 0, 1) := by decide +kernel
theorem dX1_init_23 : decode cX1_init 23 = .ok (.iload_n 1, 1) := by decide +kernel
theorem dX1_init_24 : decode cX1_init 24 = .ok (.putfield 23, 3) := by decide +kernel
theorem dX1_init_27 : decode cX1_init 27 = .ok (.iconst 0, 1) := by decide +kernel
theorem dX1_init_28 : decode cX1_init 28 = .ok (.istore_n 2, 1) := by decide +kernel
theorem dX1_init_29 : decode cX1_init 29 = .ok (.iload_n 2, 1) := by decide +kernel
theorem dX1_init_30 : decode cX1_init 30 = .ok (.bipush 8, 2) := by decide +kernel
theorem dX1_init_32 : decode cX1_init 32 = .ok (.if_icmp .ge 22, 3) := by decide +kernel
theorem dX1_init_35 : decode cX1_init 35 = .ok (.aload_n 0, 1) := by decide +kernel
theorem dX1_init_36 : decode cX1_init 36 = .ok (.getfield 11, 3) := by decide +kernel
theorem dX1_init_39 : decode cX1_init 39 = .ok (.iload_n 2, 1) := by decide +kernel
theorem dX1_init_40 : decode cX1_init 40 = .ok (.new 9, 3) := by decide +kernel
theorem dX1_init_43 : decode cX1_init 43 = .ok (.dup, 1) := by decide +kernel
theorem dX1_init_44 : decode cX1_init 44 = .ok (.invokespecial 27, 3) := by decide +kernel
theorem dX1_init_47 : decode cX1_init 47 = .ok (.aastore, 1) := by decide +kernel
theorem dX1_init_48 : decode cX1_init 48 = .ok (.iinc 2 1, 3) := by decide +kernel
theorem dX1_init_51 : decode cX1_init 51 = .ok (.goto (-22), 3) := by decide +kernel
theorem dX1_init_54 : decode cX1_init 54 = .ok (.iconst 0, 1) := by decide +kernel
theorem dX1_init_55 : decode cX1_init 55 = .ok (.istore_n 2, 1) := by decide +kernel
theorem dX1_init_56 : decode cX1_init 56 = .ok (.iload_n 2, 1) := by decide +kernel
theorem dX1_init_57 : decode cX1_init 57 = .ok (.bipush 6, 2) := by decide +kernel
theorem dX1_init_59 : decode cX1_init 59 = .ok (.if_icmp .ge 22, 3) := by decide +kernel
theorem dX1_init_62 : decode cX1_init 62 = .ok (.aload_n 0, 1) := by decide +kernel
theorem dX1_init_63 : decode cX1_init 63 = .ok (.getfield 19, 3) := by decide +kernel
theorem dX1_init_66 : decode cX1_init 66 = .ok (.iload_n 2, 1) := by decide +kernel
theorem dX1_init_67 : decode cX1_init 67 = .ok (.new 17, 3) := by decide +kernel
theorem dX1_init_70 : decode cX1_init 70 = .ok (.dup, 1) := by decide +kernel
theorem dX1_init_71 : decode cX1_init 71 = .ok (.invokespecial 28, 3) := by decide +kernel
theorem dX1_init_74 : decode cX1_init 74 = .ok (.aastore, 1) := by decide +kernel
theorem dX1_init_75 : decode cX1_init 75 = .ok (.iinc 2 1, 3) := by decide +kernel
theorem dX1_init_78 : decode cX1_init 78 = .ok (.goto (-22), 3) := by decide +kernel
theorem dX1_init_81 : decode cX1_init 81 = .ok (.aload_n 0, 1) := by decide +kernel
theorem dX1_init_82 : decode cX1_init 82 = .ok (.invokevirtual 29, 3) := by decide +kernel
theorem dX1_init_85 : decode cX1_init 85 = .ok (.return_, 1) := by decide +kernel
theorem dX1_reset_0 : decode cX1_reset 0 = .ok (.iconst 0, 1) := by decide +kernel
theorem dX1_reset_1 : decode cX1_reset 1 = .ok (.istore_n 1, 1) := by decide +kernel
theorem dX1_reset_2 : decode cX1_reset 2 = .ok (.iload_n 1, 1) := by decide +kernel
theorem dX1_reset_3 : decode cX1_reset 3 = .ok (.bipush 8, 2) := by decide +kernel
theorem dX1_reset_5 : decode cX1_reset 5 = .ok (.if_icmp .ge 18, 3) := by decide +kernel
theorem dX1_reset_8 : decode cX1_reset 8 = .ok (.aload_n 0, 1) := by decide +kernel
theorem dX1_reset_9 : decode cX1_reset 9 = .ok (.getfield 11, 3) := by decide +kernel
theorem dX1_reset_12 : decode cX1_reset 12 = .ok (.iload_n 1, 1) := by decide +kernel
theorem dX1_reset_13 : decode cX1_reset 13 = .ok (.aaload, 1) := by decide +kernel
theorem dX1_reset_14 : decode cX1_reset 14 = .ok (.invokevirtual 32, 3) := by decide +kernel
theorem dX1_reset_17 : decode cX1_reset 17 = .ok (.iinc 1 1, 3) := by decide +kernel
theorem dX1_reset_20 : decode cX1_reset 20 = .ok (.goto (-18), 3) := by decide +kernel
theorem dX1_reset_23 : decode cX1_reset 23 = .ok (.iconst 0, 1) := by decide +kernel
theorem dX1_reset_24 : decode cX1_reset 24 = .ok (.istore_n 1, 1) := by decide +kernel
theorem dX1_reset_25 : decode cX1_reset 25 = .ok (.iload_n 1, 1) := by decide +kernel
theorem dX1_reset_26 : decode cX1_reset 26 = .ok (.bipush 6, 2) := by decide +kernel
theorem dX1_reset_28 : decode cX1_reset 28 = .ok (.if_icmp .ge 18, 3) := by decide +kernel
theorem dX1_reset_31 : decode cX1_reset 31 = .ok (.aload_n 0, 1) := by decide +kernel
theorem dX1_reset_32 : decode cX1_reset 32 = .ok (.getfield 19, 3) := by decide +kernel
theorem dX1_reset_35 : decode cX1_reset 35 = .ok (.iload_n 1, 1) := by decide +kernel
theorem dX1_reset_36 : decode cX1_reset 36 = .ok (.aaload, 1) := by decide +kernel
theorem dX1_reset_37 : decode cX1_reset 37 = .ok (.invokevirtual 33, 3) := by decide +kernel
theorem dX1_reset_40 : decode cX1_reset 40 = .ok (.iinc 1 1, 3) := by decide +kernel
theorem dX1_reset_43 : decode cX1_reset 43 = .ok (.goto (-18), 3) := by decide +kernel
theorem dX1_reset_46 : decode cX1_reset 46 = .ok (.aload_n 0, 1) := by decide +kernel
theorem dX1_reset_47 : decode cX1_reset 47 = .ok (.sipush 500, 3) := by decide +kernel
theorem dX1_reset_50 : decode cX1_reset 50 = .ok (.putfield 34, 3) := by decide +kernel
theorem dX1_reset_53 : decode cX1_reset 53 = .ok (.aload_n 0, 1) := by decide +kernel
theorem dX1_reset_54 : decode cX1_reset 54 = .ok (.iconst 2, 1) := by decide +kernel
theorem dX1_reset_55 : decode cX1_reset 55 = .ok (.bipush 20, 2) := by decide +kernel
theorem dX1_reset_57 : decode cX1_reset 57 = .ok (.iconst 4, 1) := by decide +kernel
theorem dX1_reset_58 : decode cX1_reset 58 = .ok (.invokevirtual 37, 3) := by decide +kernel
theorem dX1_reset_61 : decode cX1_reset 61 = .ok (.return_, 1) := by decide +kernel
theorem dX1_set_0 : decode cX1_set 0 = .ok (.aload_n 0, 1) := by decide +kernel
theorem dX1_set_1 : decode cX1_set 1 = .ok (.iload_n 1, 1) := by decide +kernel
theorem dX1_set_2 : decode cX1_set 2 = .ok (.putfield 41, 3) := by decide +kernel
theorem dX1_set_5 : decode cX1_set 5 = .ok (.aload_n 0, 1) := by decide +kernel
theorem dX1_set_6 : decode cX1_set 6 = .ok (.iload_n 2, 1) := by decide +kernel
theorem dX1_set_7 : decode cX1_set 7 = .ok (.putfield 44, 3) := by decide +kernel
theorem dX1_set_10 : decode cX1_set 10 = .ok (.aload_n 0, 1) := by decide +kernel
theorem dX1_set_11 : decode cX1_set 11 = .ok (.iload_n 3, 1) := by decide +kernel
theorem dX1_set_12 : decode cX1_set 12 = .ok (.putfield 47, 3) := by decide +kernel
theorem dX1_set_15 : decode cX1_set 15 = .ok (.aload_n 0, 1) := by decide +kernel
theorem dX1_set_16 : decode cX1_set 16 = .ok (.invokevirtual 50, 3) := by decide +kernel
theorem dX1_set_19 : decode cX1_set 19 = .ok (.ifCond .eq 8, 3) := by decide +kernel
theorem dX1_set_22 : decode cX1_set 22 = .ok (.aload_n 0, 1) := by decide +kernel
theorem dX1_set_23 : decode cX1_set 23 = .ok (.iload_n 2, 1) := by decide +kernel
theorem dX1_set_24 : decode cX1_set 24 = .ok (.putfield 54, 3) := by decide +kernel
theorem dX1_set_27 : decode cX1_set 27 = .ok (.return_, 1) := by decide +kernel
theorem dX1_grace_0 : decode cX1_grace 0 = .ok (.aload_n 0, 1) := by decide +kernel
theorem dX1_grace_1 : decode cX1_grace 1 = .ok (.getfield 41, 3) := by decide +kernel
theorem dX1_grace_4 : decode cX1_grace 4 = .ok (.aload_n 0, 1) := by decide +kernel
theorem dX1_grace_5 : decode cX1_grace 5 = .ok (.getfield 44, 3) := by decide +kernel
theorem dX1_grace_8 : decode cX1_grace 8 = .ok (.imul, 1) := by decide +kernel
theorem dX1_grace_9 : decode cX1_grace 9 = .ok (.aload_n 0, 1) := by decide +kernel
theorem dX1_grace_10 : decode cX1_grace 10 = .ok (.getfield 47, 3) := by decide +kernel
theorem dX1_grace_13 : decode cX1_grace 13 = .ok (.iadd, 1) := by decide +kernel
theorem dX1_grace_14 : decode cX1_grace 14 = .ok (.ireturn, 1) := by decide +kernel
theorem dX1_last_0 : decode cX1_last 0 = .ok (.aload_n 0, 1) := by decide +kernel
theorem dX1_last_1 : decode cX1_last 1 = .ok (.getfield 41, 3) := by decide +kernel
theorem dX1_last_4 : decode cX1_last 4 = .ok (.ireturn, 1) := by decide +kernel
theorem dX1_asks_0 : decode cX1_asks 0 = .ok (.aload_n 0, 1) := by decide +kernel
theorem dX1_asks_1 : decode cX1_asks 1 = .ok (.getfield 34, 3) := by decide +kernel
theorem dX1_asks_4 : decode cX1_asks 4 = .ok (.sipush 500, 3) := by decide +kernel
theorem dX1_asks_7 : decode cX1_asks 7 = .ok (.if_icmp .ne 7, 3) := by decide +kernel
theorem dX1_asks_10 : decode cX1_asks 10 = .ok (.iconst 1, 1) := by decide +kernel
theorem dX1_asks_11 : decode cX1_asks 11 = .ok (.goto 4, 3) := by decide +kernel
theorem dX1_asks_14 : decode cX1_asks 14 = .ok (.iconst 0, 1) := by decide +kernel
theorem dX1_asks_15 : decode cX1_asks 15 = .ok (.ireturn, 1) := by decide +kernel
theorem dX1_records_0 : decode cX1_records 0 = .ok (.iconst 0, 1) := by decide +kernel
theorem dX1_records_1 : decode cX1_records 1 = .ok (.istore_n 1, 1) := by decide +kernel
theorem dX1_records_2 : decode cX1_records 2 = .ok (.iconst 0, 1) := by decide +kernel
theorem dX1_records_3 : decode cX1_records 3 = .ok (.istore_n 2, 1) := by decide +kernel
theorem dX1_records_4 : decode cX1_records 4 = .ok (.iload_n 2, 1) := by decide +kernel
theorem dX1_records_5 : decode cX1_records 5 = .ok (.bipush 8, 2) := by decide +kernel
theorem dX1_records_7 : decode cX1_records 7 = .ok (.if_icmp .ge 25, 3) := by decide +kernel
theorem dX1_records_10 : decode cX1_records 10 = .ok (.aload_n 0, 1) := by decide +kernel
theorem dX1_records_11 : decode cX1_records 11 = .ok (.getfield 11, 3) := by decide +kernel
theorem dX1_records_14 : decode cX1_records 14 = .ok (.iload_n 2, 1) := by decide +kernel
theorem dX1_records_15 : decode cX1_records 15 = .ok (.aaload, 1) := by decide +kernel
theorem dX1_records_16 : decode cX1_records 16 = .ok (.invokevirtual 57, 3) := by decide +kernel
theorem dX1_records_19 : decode cX1_records 19 = .ok (.iconst (-1), 1) := by decide +kernel
theorem dX1_records_20 : decode cX1_records 20 = .ok (.if_icmp .eq 6, 3) := by decide +kernel
theorem dX1_records_23 : decode cX1_records 23 = .ok (.iinc 1 1, 3) := by decide +kernel
theorem dX1_records_26 : decode cX1_records 26 = .ok (.iinc 2 1, 3) := by decide +kernel
theorem dX1_records_29 : decode cX1_records 29 = .ok (.goto (-25), 3) := by decide +kernel
theorem dX1_records_32 : decode cX1_records 32 = .ok (.iload_n 1, 1) := by decide +kernel
theorem dX1_records_33 : decode cX1_records 33 = .ok (.ireturn, 1) := by decide +kernel
theorem dX1_yieldTo_0 : decode cX1_yieldTo 0 = .ok (.aload_n 0, 1) := by decide +kernel
theorem dX1_yieldTo_1 : decode cX1_yieldTo 1 = .ok (.aload_n 0, 1) := by decide +kernel
theorem dX1_yieldTo_2 : decode cX1_yieldTo 2 = .ok (.getfield 34, 3) := by decide +kernel
theorem dX1_yieldTo_5 : decode cX1_yieldTo 5 = .ok (.iload_n 1, 1) := by decide +kernel
theorem dX1_yieldTo_6 : decode cX1_yieldTo 6 = .ok (.invokestatic 61, 3) := by decide +kernel
theorem dX1_yieldTo_9 : decode cX1_yieldTo 9 = .ok (.putfield 34, 3) := by decide +kernel
theorem dX1_yieldTo_12 : decode cX1_yieldTo 12 = .ok (.aload_n 0, 1) := by decide +kernel
theorem dX1_yieldTo_13 : decode cX1_yieldTo 13 = .ok (.aload_n 0, 1) := by decide +kernel
theorem dX1_yieldTo_14 : decode cX1_yieldTo 14 = .ok (.getfield 41, 3) := by decide +kernel
theorem dX1_yieldTo_17 : decode cX1_yieldTo 17 = .ok (.aload_n 0, 1) := by decide +kernel
theorem dX1_yieldTo_18 : decode cX1_yieldTo 18 = .ok (.getfield 44, 3) := by decide +kernel
theorem dX1_yieldTo_21 : decode cX1_yieldTo 21 = .ok (.imul, 1) := by decide +kernel
theorem dX1_yieldTo_22 : decode cX1_yieldTo 22 = .ok (.aload_n 0, 1) := by decide +kernel
theorem dX1_yieldTo_23 : decode cX1_yieldTo 23 = .ok (.getfield 47, 3) := by decide +kernel
theorem dX1_yieldTo_26 : decode cX1_yieldTo 26 = .ok (.iconst 2, 1) := by decide +kernel
theorem dX1_yieldTo_27 : decode cX1_yieldTo 27 = .ok (.idiv, 1) := by decide +kernel
theorem dX1_yieldTo_28 : decode cX1_yieldTo 28 = .ok (.iadd, 1) := by decide +kernel
theorem dX1_yieldTo_29 : decode cX1_yieldTo 29 = .ok (.putfield 54, 3) := by decide +kernel
theorem dX1_yieldTo_32 : decode cX1_yieldTo 32 = .ok (.return_, 1) := by decide +kernel
theorem dX1_ageFilters_0 : decode cX1_ageFilters 0 = .ok (.iconst 0, 1) := by decide +kernel
theorem dX1_ageFilters_1 : decode cX1_ageFilters 1 = .ok (.istore_n 2, 1) := by decide +kernel
theorem dX1_ageFilters_2 : decode cX1_ageFilters 2 = .ok (.iload_n 2, 1) := by decide +kernel
theorem dX1_ageFilters_3 : decode cX1_ageFilters 3 = .ok (.bipush 8, 2) := by decide +kernel
theorem dX1_ageFilters_5 : decode cX1_ageFilters 5 = .ok (.if_icmp .ge 19, 3) := by decide +kernel
theorem dX1_ageFilters_8 : decode cX1_ageFilters 8 = .ok (.aload_n 0, 1) := by decide +kernel
theorem dX1_ageFilters_9 : decode cX1_ageFilters 9 = .ok (.getfield 11, 3) := by decide +kernel
theorem dX1_ageFilters_12 : decode cX1_ageFilters 12 = .ok (.iload_n 2, 1) := by decide +kernel
theorem dX1_ageFilters_13 : decode cX1_ageFilters 13 = .ok (.aaload, 1) := by decide +kernel
theorem dX1_ageFilters_14 : decode cX1_ageFilters 14 = .ok (.iload_n 1, 1) := by decide +kernel
theorem dX1_ageFilters_15 : decode cX1_ageFilters 15 = .ok (.invokevirtual 67, 3) := by decide +kernel
theorem dX1_ageFilters_18 : decode cX1_ageFilters 18 = .ok (.iinc 2 1, 3) := by decide +kernel
theorem dX1_ageFilters_21 : decode cX1_ageFilters 21 = .ok (.goto (-19), 3) := by decide +kernel
theorem dX1_ageFilters_24 : decode cX1_ageFilters 24 = .ok (.return_, 1) := by decide +kernel
theorem dX1_runClock_0 : decode cX1_runClock 0 = .ok (.aload_n 0, 1) := by decide +kernel
theorem dX1_runClock_1 : decode cX1_runClock 1 = .ok (.dup, 1) := by decide +kernel
theorem dX1_runClock_2 : decode cX1_runClock 2 = .ok (.getfield 54, 3) := by decide +kernel
theorem dX1_runClock_5 : decode cX1_runClock 5 = .ok (.iload_n 2, 1) := by decide +kernel
theorem dX1_runClock_6 : decode cX1_runClock 6 = .ok (.isub, 1) := by decide +kernel
theorem dX1_runClock_7 : decode cX1_runClock 7 = .ok (.putfield 54, 3) := by decide +kernel
theorem dX1_runClock_10 : decode cX1_runClock 10 = .ok (.aload_n 0, 1) := by decide +kernel
theorem dX1_runClock_11 : decode cX1_runClock 11 = .ok (.getfield 54, 3) := by decide +kernel
theorem dX1_runClock_14 : decode cX1_runClock 14 = .ok (.ifCond .le 4, 3) := by decide +kernel
theorem dX1_runClock_17 : decode cX1_runClock 17 = .ok (.return_, 1) := by decide +kernel
theorem dX1_runClock_18 : decode cX1_runClock 18 = .ok (.aload_n 0, 1) := by decide +kernel
theorem dX1_runClock_19 : decode cX1_runClock 19 = .ok (.invokevirtual 50, 3) := by decide +kernel
theorem dX1_runClock_22 : decode cX1_runClock 22 = .ok (.ifCond .eq 13, 3) := by decide +kernel
theorem dX1_runClock_25 : decode cX1_runClock 25 = .ok (.aload_n 1, 1) := by decide +kernel
theorem dX1_runClock_26 : decode cX1_runClock 26 = .ok (.aload_n 0, 1) := by decide +kernel
theorem dX1_runClock_27 : decode cX1_runClock 27 = .ok (.getfield 23, 3) := by decide +kernel
theorem dX1_runClock_30 : decode cX1_runClock 30 = .ok (.iconst (-1), 1) := by decide +kernel
theorem dX1_runClock_31 : decode cX1_runClock 31 = .ok (.iconst 0, 1) := by decide +kernel
theorem dX1_runClock_32 : decode cX1_runClock 32 = .ok (.invokevirtual 71, 3) := by decide +kernel
theorem dX1_runClock_35 : decode cX1_runClock 35 = .ok (.aload_n 0, 1) := by decide +kernel
theorem dX1_runClock_36 : decode cX1_runClock 36 = .ok (.sipush 500, 3) := by decide +kernel
theorem dX1_runClock_39 : decode cX1_runClock 39 = .ok (.putfield 34, 3) := by decide +kernel
theorem dX1_runClock_42 : decode cX1_runClock 42 = .ok (.aload_n 0, 1) := by decide +kernel
theorem dX1_runClock_43 : decode cX1_runClock 43 = .ok (.aload_n 0, 1) := by decide +kernel
theorem dX1_runClock_44 : decode cX1_runClock 44 = .ok (.getfield 44, 3) := by decide +kernel
theorem dX1_runClock_47 : decode cX1_runClock 47 = .ok (.putfield 54, 3) := by decide +kernel
theorem dX1_runClock_50 : decode cX1_runClock 50 = .ok (.return_, 1) := by decide +kernel
theorem dX1_hearReport_0 : decode cX1_hearReport 0 = .ok (.iload_n 3, 1) := by decide +kernel
theorem dX1_hearReport_1 : decode cX1_hearReport 1 = .ok (.tableswitch 90 1 5 #[35, 57, 68, 90, 79], 35) := by decide +kernel
theorem dX1_hearReport_36 : decode cX1_hearReport 36 = .ok (.aload_n 0, 1) := by decide +kernel
theorem dX1_hearReport_37 : decode cX1_hearReport 37 = .ok (.getfield 11, 3) := by decide +kernel
theorem dX1_hearReport_40 : decode cX1_hearReport 40 = .ok (.iload_n 2, 1) := by decide +kernel
theorem dX1_hearReport_41 : decode cX1_hearReport 41 = .ok (.aaload, 1) := by decide +kernel
theorem dX1_hearReport_42 : decode cX1_hearReport 42 = .ok (.iload 4, 2) := by decide +kernel
theorem dX1_hearReport_44 : decode cX1_hearReport 44 = .ok (.aload_n 0, 1) := by decide +kernel
theorem dX1_hearReport_45 : decode cX1_hearReport 45 = .ok (.invokevirtual 76, 3) := by decide +kernel
theorem dX1_hearReport_48 : decode cX1_hearReport 48 = .ok (.aload_n 0, 1) := by decide +kernel
theorem dX1_hearReport_49 : decode cX1_hearReport 49 = .ok (.invokevirtual 76, 3) := by decide +kernel
theorem dX1_hearReport_52 : decode cX1_hearReport 52 = .ok (.invokevirtual 79, 3) := by decide +kernel
theorem dX1_hearReport_55 : decode cX1_hearReport 55 = .ok (.goto 51, 3) := by decide +kernel
theorem dX1_hearReport_58 : decode cX1_hearReport 58 = .ok (.aload_n 0, 1) := by decide +kernel
theorem dX1_hearReport_59 : decode cX1_hearReport 59 = .ok (.aload_n 1, 1) := by decide +kernel
theorem dX1_hearReport_60 : decode cX1_hearReport 60 = .ok (.iload_n 2, 1) := by decide +kernel
theorem dX1_hearReport_61 : decode cX1_hearReport 61 = .ok (.iload 4, 2) := by decide +kernel
theorem dX1_hearReport_63 : decode cX1_hearReport 63 = .ok (.invokevirtual 82, 3) := by decide +kernel
theorem dX1_hearReport_66 : decode cX1_hearReport 66 = .ok (.goto 40, 3) := by decide +kernel
theorem dX1_hearReport_69 : decode cX1_hearReport 69 = .ok (.aload_n 0, 1) := by decide +kernel
theorem dX1_hearReport_70 : decode cX1_hearReport 70 = .ok (.aload_n 1, 1) := by decide +kernel
theorem dX1_hearReport_71 : decode cX1_hearReport 71 = .ok (.iload_n 2, 1) := by decide +kernel
theorem dX1_hearReport_72 : decode cX1_hearReport 72 = .ok (.iload 4, 2) := by decide +kernel
theorem dX1_hearReport_74 : decode cX1_hearReport 74 = .ok (.invokevirtual 86, 3) := by decide +kernel
theorem dX1_hearReport_77 : decode cX1_hearReport 77 = .ok (.goto 29, 3) := by decide +kernel
theorem dX1_hearReport_80 : decode cX1_hearReport 80 = .ok (.aload_n 0, 1) := by decide +kernel
theorem dX1_hearReport_81 : decode cX1_hearReport 81 = .ok (.aload_n 1, 1) := by decide +kernel
theorem dX1_hearReport_82 : decode cX1_hearReport 82 = .ok (.iload_n 2, 1) := by decide +kernel
theorem dX1_hearReport_83 : decode cX1_hearReport 83 = .ok (.iload 4, 2) := by decide +kernel
theorem dX1_hearReport_85 : decode cX1_hearReport 85 = .ok (.invokevirtual 89, 3) := by decide +kernel
theorem dX1_hearReport_88 : decode cX1_hearReport 88 = .ok (.goto 18, 3) := by decide +kernel
theorem dX1_hearReport_91 : decode cX1_hearReport 91 = .ok (.aload_n 0, 1) := by decide +kernel
theorem dX1_hearReport_92 : decode cX1_hearReport 92 = .ok (.getfield 11, 3) := by decide +kernel
theorem dX1_hearReport_95 : decode cX1_hearReport 95 = .ok (.iload_n 2, 1) := by decide +kernel
theorem dX1_hearReport_96 : decode cX1_hearReport 96 = .ok (.aaload, 1) := by decide +kernel
theorem dX1_hearReport_97 : decode cX1_hearReport 97 = .ok (.iload 4, 2) := by decide +kernel
theorem dX1_hearReport_99 : decode cX1_hearReport 99 = .ok (.aload_n 0, 1) := by decide +kernel
theorem dX1_hearReport_100 : decode cX1_hearReport 100 = .ok (.invokevirtual 76, 3) := by decide +kernel
theorem dX1_hearReport_103 : decode cX1_hearReport 103 = .ok (.invokevirtual 92, 3) := by decide +kernel
theorem dX1_hearReport_106 : decode cX1_hearReport 106 = .ok (.return_, 1) := by decide +kernel
theorem dX1_hearToIn_0 : decode cX1_hearToIn 0 = .ok (.aload_n 0, 1) := by decide +kernel
theorem dX1_hearToIn_1 : decode cX1_hearToIn 1 = .ok (.getfield 11, 3) := by decide +kernel
theorem dX1_hearToIn_4 : decode cX1_hearToIn 4 = .ok (.iload_n 2, 1) := by decide +kernel
theorem dX1_hearToIn_5 : decode cX1_hearToIn 5 = .ok (.aaload, 1) := by decide +kernel
theorem dX1_hearToIn_6 : decode cX1_hearToIn 6 = .ok (.astore 4, 2) := by decide +kernel
theorem dX1_hearToIn_8 : decode cX1_hearToIn 8 = .ok (.aload 4, 2) := by decide +kernel
theorem dX1_hearToIn_10 : decode cX1_hearToIn 10 = .ok (.getfield 96, 3) := by decide +kernel
theorem dX1_hearToIn_13 : decode cX1_hearToIn 13 = .ok (.iload_n 3, 1) := by decide +kernel
theorem dX1_hearToIn_14 : decode cX1_hearToIn 14 = .ok (.iconst (-1), 1) := by decide +kernel
theorem dX1_hearToIn_15 : decode cX1_hearToIn 15 = .ok (.ixor, 1) := by decide +kernel
theorem dX1_hearToIn_16 : decode cX1_hearToIn 16 = .ok (.iand, 1) := by decide +kernel
theorem dX1_hearToIn_17 : decode cX1_hearToIn 17 = .ok (.istore 5, 2) := by decide +kernel
theorem dX1_hearToIn_19 : decode cX1_hearToIn 19 = .ok (.aload 4, 2) := by decide +kernel
theorem dX1_hearToIn_21 : decode cX1_hearToIn 21 = .ok (.iload_n 3, 1) := by decide +kernel
theorem dX1_hearToIn_22 : decode cX1_hearToIn 22 = .ok (.aload_n 0, 1) := by decide +kernel
theorem dX1_hearToIn_23 : decode cX1_hearToIn 23 = .ok (.invokevirtual 76, 3) := by decide +kernel
theorem dX1_hearToIn_26 : decode cX1_hearToIn 26 = .ok (.invokevirtual 92, 3) := by decide +kernel
theorem dX1_hearToIn_29 : decode cX1_hearToIn 29 = .ok (.aload_n 0, 1) := by decide +kernel
theorem dX1_hearToIn_30 : decode cX1_hearToIn 30 = .ok (.aload_n 1, 1) := by decide +kernel
theorem dX1_hearToIn_31 : decode cX1_hearToIn 31 = .ok (.iload_n 2, 1) := by decide +kernel
theorem dX1_hearToIn_32 : decode cX1_hearToIn 32 = .ok (.iload 5, 2) := by decide +kernel
theorem dX1_hearToIn_34 : decode cX1_hearToIn 34 = .ok (.invokevirtual 99, 3) := by decide +kernel
theorem dX1_hearToIn_37 : decode cX1_hearToIn 37 = .ok (.aload 4, 2) := by decide +kernel
theorem dX1_hearToIn_39 : decode cX1_hearToIn 39 = .ok (.getfield 102, 3) := by decide +kernel
theorem dX1_hearToIn_42 : decode cX1_hearToIn 42 = .ok (.ifCond .eq 9, 3) := by decide +kernel
theorem dX1_hearToIn_45 : decode cX1_hearToIn 45 = .ok (.aload_n 0, 1) := by decide +kernel
theorem dX1_hearToIn_46 : decode cX1_hearToIn 46 = .ok (.aload_n 1, 1) := by decide +kernel
theorem dX1_hearToIn_47 : decode cX1_hearToIn 47 = .ok (.iload_n 2, 1) := by decide +kernel
theorem dX1_hearToIn_48 : decode cX1_hearToIn 48 = .ok (.invokevirtual 106, 3) := by decide +kernel
theorem dX1_hearToIn_51 : decode cX1_hearToIn 51 = .ok (.return_, 1) := by decide +kernel
theorem dX1_hearToEx_0 : decode cX1_hearToEx 0 = .ok (.aload_n 0, 1) := by decide +kernel
theorem dX1_hearToEx_1 : decode cX1_hearToEx 1 = .ok (.getfield 11, 3) := by decide +kernel
theorem dX1_hearToEx_4 : decode cX1_hearToEx 4 = .ok (.iload_n 2, 1) := by decide +kernel
theorem dX1_hearToEx_5 : decode cX1_hearToEx 5 = .ok (.aaload, 1) := by decide +kernel
theorem dX1_hearToEx_6 : decode cX1_hearToEx 6 = .ok (.astore 4, 2) := by decide +kernel
theorem dX1_hearToEx_8 : decode cX1_hearToEx 8 = .ok (.aload 4, 2) := by decide +kernel
theorem dX1_hearToEx_10 : decode cX1_hearToEx 10 = .ok (.iload_n 3, 1) := by decide +kernel
theorem dX1_hearToEx_11 : decode cX1_hearToEx 11 = .ok (.invokevirtual 110, 3) := by decide +kernel
theorem dX1_hearToEx_14 : decode cX1_hearToEx 14 = .ok (.istore 5, 2) := by decide +kernel
theorem dX1_hearToEx_16 : decode cX1_hearToEx 16 = .ok (.aload 4, 2) := by decide +kernel
theorem dX1_hearToEx_18 : decode cX1_hearToEx 18 = .ok (.iload_n 3, 1) := by decide +kernel
theorem dX1_hearToEx_19 : decode cX1_hearToEx 19 = .ok (.aload 4, 2) := by decide +kernel
theorem dX1_hearToEx_21 : decode cX1_hearToEx 21 = .ok (.getfield 114, 3) := by decide +kernel
theorem dX1_hearToEx_24 : decode cX1_hearToEx 24 = .ok (.aload_n 0, 1) := by decide +kernel
theorem dX1_hearToEx_25 : decode cX1_hearToEx 25 = .ok (.invokevirtual 76, 3) := by decide +kernel
theorem dX1_hearToEx_28 : decode cX1_hearToEx 28 = .ok (.invokevirtual 79, 3) := by decide +kernel
theorem dX1_hearToEx_31 : decode cX1_hearToEx 31 = .ok (.aload_n 0, 1) := by decide +kernel
theorem dX1_hearToEx_32 : decode cX1_hearToEx 32 = .ok (.aload_n 1, 1) := by decide +kernel
theorem dX1_hearToEx_33 : decode cX1_hearToEx 33 = .ok (.iload_n 2, 1) := by decide +kernel
theorem dX1_hearToEx_34 : decode cX1_hearToEx 34 = .ok (.iload 5, 2) := by decide +kernel
theorem dX1_hearToEx_36 : decode cX1_hearToEx 36 = .ok (.invokevirtual 99, 3) := by decide +kernel
theorem dX1_hearToEx_39 : decode cX1_hearToEx 39 = .ok (.return_, 1) := by decide +kernel
theorem dX1_hearBlock_0 : decode cX1_hearBlock 0 = .ok (.aload_n 0, 1) := by decide +kernel
theorem dX1_hearBlock_1 : decode cX1_hearBlock 1 = .ok (.getfield 11, 3) := by decide +kernel
theorem dX1_hearBlock_4 : decode cX1_hearBlock 4 = .ok (.iload_n 2, 1) := by decide +kernel
theorem dX1_hearBlock_5 : decode cX1_hearBlock 5 = .ok (.aaload, 1) := by decide +kernel
theorem dX1_hearBlock_6 : decode cX1_hearBlock 6 = .ok (.astore 4, 2) := by decide +kernel
theorem dX1_hearBlock_8 : decode cX1_hearBlock 8 = .ok (.aload 4, 2) := by decide +kernel
theorem dX1_hearBlock_10 : decode cX1_hearBlock 10 = .ok (.iload_n 3, 1) := by decide +kernel
theorem dX1_hearBlock_11 : decode cX1_hearBlock 11 = .ok (.invokevirtual 110, 3) := by decide +kernel
theorem dX1_hearBlock_14 : decode cX1_hearBlock 14 = .ok (.istore 5, 2) := by decide +kernel
theorem dX1_hearBlock_16 : decode cX1_hearBlock 16 = .ok (.aload 4, 2) := by decide +kernel
theorem dX1_hearBlock_18 : decode cX1_hearBlock 18 = .ok (.iload_n 3, 1) := by decide +kernel
theorem dX1_hearBlock_19 : decode cX1_hearBlock 19 = .ok (.invokevirtual 117, 3) := by decide +kernel
theorem dX1_hearBlock_22 : decode cX1_hearBlock 22 = .ok (.aload_n 0, 1) := by decide +kernel
theorem dX1_hearBlock_23 : decode cX1_hearBlock 23 = .ok (.aload_n 1, 1) := by decide +kernel
theorem dX1_hearBlock_24 : decode cX1_hearBlock 24 = .ok (.iload_n 2, 1) := by decide +kernel
theorem dX1_hearBlock_25 : decode cX1_hearBlock 25 = .ok (.iload 5, 2) := by decide +kernel
theorem dX1_hearBlock_27 : decode cX1_hearBlock 27 = .ok (.invokevirtual 99, 3) := by decide +kernel
theorem dX1_hearBlock_30 : decode cX1_hearBlock 30 = .ok (.return_, 1) := by decide +kernel
theorem dX1_askSources_0 : decode cX1_askSources 0 = .ok (.iload_n 3, 1) := by decide +kernel
theorem dX1_askSources_1 : decode cX1_askSources 1 = .ok (.ifCond .eq 34, 3) := by decide +kernel
theorem dX1_askSources_4 : decode cX1_askSources 4 = .ok (.aload_n 0, 1) := by decide +kernel
theorem dX1_askSources_5 : decode cX1_askSources 5 = .ok (.invokevirtual 50, 3) := by decide +kernel
theorem dX1_askSources_8 : decode cX1_askSources 8 = .ok (.ifCond .eq 27, 3) := by decide +kernel
theorem dX1_askSources_11 : decode cX1_askSources 11 = .ok (.aload_n 1, 1) := by decide +kernel
theorem dX1_askSources_12 : decode cX1_askSources 12 = .ok (.aload_n 0, 1) := by decide +kernel
theorem dX1_askSources_13 : decode cX1_askSources 13 = .ok (.getfield 23, 3) := by decide +kernel
theorem dX1_askSources_16 : decode cX1_askSources 16 = .ok (.iload_n 2, 1) := by decide +kernel
theorem dX1_askSources_17 : decode cX1_askSources 17 = .ok (.iload_n 3, 1) := by decide +kernel
theorem dX1_askSources_18 : decode cX1_askSources 18 = .ok (.invokevirtual 71, 3) := by decide +kernel
theorem dX1_askSources_21 : decode cX1_askSources 21 = .ok (.aload_n 0, 1) := by decide +kernel
theorem dX1_askSources_22 : decode cX1_askSources 22 = .ok (.getfield 11, 3) := by decide +kernel
theorem dX1_askSources_25 : decode cX1_askSources 25 = .ok (.iload_n 2, 1) := by decide +kernel
theorem dX1_askSources_26 : decode cX1_askSources 26 = .ok (.aaload, 1) := by decide +kernel
theorem dX1_askSources_27 : decode cX1_askSources 27 = .ok (.iload_n 3, 1) := by decide +kernel
theorem dX1_askSources_28 : decode cX1_askSources 28 = .ok (.aload_n 0, 1) := by decide +kernel
theorem dX1_askSources_29 : decode cX1_askSources 29 = .ok (.invokevirtual 120, 3) := by decide +kernel
theorem dX1_askSources_32 : decode cX1_askSources 32 = .ok (.invokevirtual 123, 3) := by decide +kernel
theorem dX1_askSources_35 : decode cX1_askSources 35 = .ok (.return_, 1) := by decide +kernel
theorem dX1_askGroup_0 : decode cX1_askGroup 0 = .ok (.aload_n 0, 1) := by decide +kernel
theorem dX1_askGroup_1 : decode cX1_askGroup 1 = .ok (.invokevirtual 50, 3) := by decide +kernel
theorem dX1_askGroup_4 : decode cX1_askGroup 4 = .ok (.ifCond .eq 26, 3) := by decide +kernel
theorem dX1_askGroup_7 : decode cX1_askGroup 7 = .ok (.aload_n 1, 1) := by decide +kernel
theorem dX1_askGroup_8 : decode cX1_askGroup 8 = .ok (.aload_n 0, 1) := by decide +kernel
theorem dX1_askGroup_9 : decode cX1_askGroup 9 = .ok (.getfield 23, 3) := by decide +kernel
theorem dX1_askGroup_12 : decode cX1_askGroup 12 = .ok (.iload_n 2, 1) := by decide +kernel
theorem dX1_askGroup_13 : decode cX1_askGroup 13 = .ok (.iconst 0, 1) := by decide +kernel
theorem dX1_askGroup_14 : decode cX1_askGroup 14 = .ok (.invokevirtual 71, 3) := by decide +kernel
theorem dX1_askGroup_17 : decode cX1_askGroup 17 = .ok (.aload_n 0, 1) := by decide +kernel
theorem dX1_askGroup_18 : decode cX1_askGroup 18 = .ok (.getfield 11, 3) := by decide +kernel
theorem dX1_askGroup_21 : decode cX1_askGroup 21 = .ok (.iload_n 2, 1) := by decide +kernel
theorem dX1_askGroup_22 : decode cX1_askGroup 22 = .ok (.aaload, 1) := by decide +kernel
theorem dX1_askGroup_23 : decode cX1_askGroup 23 = .ok (.aload_n 0, 1) := by decide +kernel
theorem dX1_askGroup_24 : decode cX1_askGroup 24 = .ok (.invokevirtual 120, 3) := by decide +kernel
theorem dX1_askGroup_27 : decode cX1_askGroup 27 = .ok (.invokevirtual 126, 3) := by decide +kernel
theorem dX1_askGroup_30 : decode cX1_askGroup 30 = .ok (.return_, 1) := by decide +kernel
theorem dX1_hearQuery_0 : decode cX1_hearQuery 0 = .ok (.iload_n 2, 1) := by decide +kernel
theorem dX1_hearQuery_1 : decode cX1_hearQuery 1 = .ok (.ifCond .ne 19, 3) := by decide +kernel
theorem dX1_hearQuery_4 : decode cX1_hearQuery 4 = .ok (.aload_n 0, 1) := by decide +kernel
theorem dX1_hearQuery_5 : decode cX1_hearQuery 5 = .ok (.getfield 11, 3) := by decide +kernel
theorem dX1_hearQuery_8 : decode cX1_hearQuery 8 = .ok (.iload_n 1, 1) := by decide +kernel
theorem dX1_hearQuery_9 : decode cX1_hearQuery 9 = .ok (.aaload, 1) := by decide +kernel
theorem dX1_hearQuery_10 : decode cX1_hearQuery 10 = .ok (.aload_n 0, 1) := by decide +kernel
theorem dX1_hearQuery_11 : decode cX1_hearQuery 11 = .ok (.invokevirtual 120, 3) := by decide +kernel
theorem dX1_hearQuery_14 : decode cX1_hearQuery 14 = .ok (.invokevirtual 126, 3) := by decide +kernel
theorem dX1_hearQuery_17 : decode cX1_hearQuery 17 = .ok (.goto 17, 3) := by decide +kernel
theorem dX1_hearQuery_20 : decode cX1_hearQuery 20 = .ok (.aload_n 0, 1) := by decide +kernel
theorem dX1_hearQuery_21 : decode cX1_hearQuery 21 = .ok (.getfield 11, 3) := by decide +kernel
theorem dX1_hearQuery_24 : decode cX1_hearQuery 24 = .ok (.iload_n 1, 1) := by decide +kernel
theorem dX1_hearQuery_25 : decode cX1_hearQuery 25 = .ok (.aaload, 1) := by decide +kernel
theorem dX1_hearQuery_26 : decode cX1_hearQuery 26 = .ok (.iload_n 2, 1) := by decide +kernel
theorem dX1_hearQuery_27 : decode cX1_hearQuery 27 = .ok (.aload_n 0, 1) := by decide +kernel
theorem dX1_hearQuery_28 : decode cX1_hearQuery 28 = .ok (.invokevirtual 120, 3) := by decide +kernel
theorem dX1_hearQuery_31 : decode cX1_hearQuery 31 = .ok (.invokevirtual 123, 3) := by decide +kernel
theorem dX1_hearQuery_34 : decode cX1_hearQuery 34 = .ok (.return_, 1) := by decide +kernel
theorem dX1_changeWish_0 : decode cX1_changeWish 0 = .ok (.aload_n 0, 1) := by decide +kernel
theorem dX1_changeWish_1 : decode cX1_changeWish 1 = .ok (.getfield 19, 3) := by decide +kernel
theorem dX1_changeWish_4 : decode cX1_changeWish 4 = .ok (.iload_n 2, 1) := by decide +kernel
theorem dX1_changeWish_5 : decode cX1_changeWish 5 = .ok (.aaload, 1) := by decide +kernel
theorem dX1_changeWish_6 : decode cX1_changeWish 6 = .ok (.astore 6, 2) := by decide +kernel
theorem dX1_changeWish_8 : decode cX1_changeWish 8 = .ok (.aload 6, 2) := by decide +kernel
theorem dX1_changeWish_10 : decode cX1_changeWish 10 = .ok (.getfield 129, 3) := by decide +kernel
theorem dX1_changeWish_13 : decode cX1_changeWish 13 = .ok (.iload_n 3, 1) := by decide +kernel
theorem dX1_changeWish_14 : decode cX1_changeWish 14 = .ok (.iaload, 1) := by decide +kernel
theorem dX1_changeWish_15 : decode cX1_changeWish 15 = .ok (.istore 7, 2) := by decide +kernel
theorem dX1_changeWish_17 : decode cX1_changeWish 17 = .ok (.aload 6, 2) := by decide +kernel
theorem dX1_changeWish_19 : decode cX1_changeWish 19 = .ok (.getfield 133, 3) := by decide +kernel
theorem dX1_changeWish_22 : decode cX1_changeWish 22 = .ok (.iload_n 3, 1) := by decide +kernel
theorem dX1_changeWish_23 : decode cX1_changeWish 23 = .ok (.baload, 1) := by decide +kernel
theorem dX1_changeWish_24 : decode cX1_changeWish 24 = .ok (.istore 8, 2) := by decide +kernel
theorem dX1_changeWish_26 : decode cX1_changeWish 26 = .ok (.aload 6, 2) := by decide +kernel
theorem dX1_changeWish_28 : decode cX1_changeWish 28 = .ok (.getfield 129, 3) := by decide +kernel
theorem dX1_changeWish_31 : decode cX1_changeWish 31 = .ok (.iload_n 3, 1) := by decide +kernel
theorem dX1_changeWish_32 : decode cX1_changeWish 32 = .ok (.iload 5, 2) := by decide +kernel
theorem dX1_changeWish_34 : decode cX1_changeWish 34 = .ok (.iastore, 1) := by decide +kernel
theorem dX1_changeWish_35 : decode cX1_changeWish 35 = .ok (.aload 6, 2) := by decide +kernel
theorem dX1_changeWish_37 : decode cX1_changeWish 37 = .ok (.getfield 133, 3) := by decide +kernel
theorem dX1_changeWish_40 : decode cX1_changeWish 40 = .ok (.iload_n 3, 1) := by decide +kernel
theorem dX1_changeWish_41 : decode cX1_changeWish 41 = .ok (.iload 4, 2) := by decide +kernel
theorem dX1_changeWish_43 : decode cX1_changeWish 43 = .ok (.bastore, 1) := by decide +kernel
theorem dX1_changeWish_44 : decode cX1_changeWish 44 = .ok (.iload 4, 2) := by decide +kernel
theorem dX1_changeWish_46 : decode cX1_changeWish 46 = .ok (.iload 8, 2) := by decide +kernel
theorem dX1_changeWish_48 : decode cX1_changeWish 48 = .ok (.if_icmp .eq 22, 3) := by decide +kernel
theorem dX1_changeWish_51 : decode cX1_changeWish 51 = .ok (.aload_n 0, 1) := by decide +kernel
theorem dX1_changeWish_52 : decode cX1_changeWish 52 = .ok (.aload_n 1, 1) := by decide +kernel
theorem dX1_changeWish_53 : decode cX1_changeWish 53 = .ok (.iload_n 3, 1) := by decide +kernel
theorem dX1_changeWish_54 : decode cX1_changeWish 54 = .ok (.iload 4, 2) := by decide +kernel
theorem dX1_changeWish_56 : decode cX1_changeWish 56 = .ok (.ifCond .eq 7, 3) := by decide +kernel
theorem dX1_changeWish_59 : decode cX1_changeWish 59 = .ok (.iconst 3, 1) := by decide +kernel
theorem dX1_changeWish_60 : decode cX1_changeWish 60 = .ok (.goto 4, 3) := by decide +kernel
theorem dX1_changeWish_63 : decode cX1_changeWish 63 = .ok (.iconst 2, 1) := by decide +kernel
theorem dX1_changeWish_64 : decode cX1_changeWish 64 = .ok (.iload 5, 2) := by decide +kernel
theorem dX1_changeWish_66 : decode cX1_changeWish 66 = .ok (.invokevirtual 136, 3) := by decide +kernel
theorem dX1_changeWish_69 : decode cX1_changeWish 69 = .ok (.return_, 1) := by decide +kernel
theorem dX1_changeWish_70 : decode cX1_changeWish 70 = .ok (.iload 5, 2) := by decide +kernel
theorem dX1_changeWish_72 : decode cX1_changeWish 72 = .ok (.iload 7, 2) := by decide +kernel
theorem dX1_changeWish_74 : decode cX1_changeWish 74 = .ok (.iconst (-1), 1) := by decide +kernel
theorem dX1_changeWish_75 : decode cX1_changeWish 75 = .ok (.ixor, 1) := by decide +kernel
theorem dX1_changeWish_76 : decode cX1_changeWish 76 = .ok (.iand, 1) := by decide +kernel
theorem dX1_changeWish_77 : decode cX1_changeWish 77 = .ok (.istore 9, 2) := by decide +kernel
theorem dX1_changeWish_79 : decode cX1_changeWish 79 = .ok (.iload 7, 2) := by decide +kernel
theorem dX1_changeWish_81 : decode cX1_changeWish 81 = .ok (.iload 5, 2) := by decide +kernel
theorem dX1_changeWish_83 : decode cX1_changeWish 83 = .ok (.iconst (-1), 1) := by decide +kernel
theorem dX1_changeWish_84 : decode cX1_changeWish 84 = .ok (.ixor, 1) := by decide +kernel
theorem dX1_changeWish_85 : decode cX1_changeWish 85 = .ok (.iand, 1) := by decide +kernel
theorem dX1_changeWish_86 : decode cX1_changeWish 86 = .ok (.istore 10, 2) := by decide +kernel
theorem dX1_changeWish_88 : decode cX1_changeWish 88 = .ok (.iload 4, 2) := by decide +kernel
theorem dX1_changeWish_90 : decode cX1_changeWish 90 = .ok (.ifCond .eq 8, 3) := by decide +kernel
theorem dX1_changeWish_93 : decode cX1_changeWish 93 = .ok (.iload 10, 2) := by decide +kernel
theorem dX1_changeWish_95 : decode cX1_changeWish 95 = .ok (.goto 5, 3) := by decide +kernel
theorem dX1_changeWish_98 : decode cX1_changeWish 98 = .ok (.iload 9, 2) := by decide +kernel
theorem dX1_changeWish_100 : decode cX1_changeWish 100 = .ok (.istore 11, 2) := by decide +kernel
theorem dX1_changeWish_102 : decode cX1_changeWish 102 = .ok (.iload 4, 2) := by decide +kernel
theorem dX1_changeWish_104 : decode cX1_changeWish 104 = .ok (.ifCond .eq 8, 3) := by decide +kernel
theorem dX1_changeWish_107 : decode cX1_changeWish 107 = .ok (.iload 9, 2) := by decide +kernel
theorem dX1_changeWish_109 : decode cX1_changeWish 109 = .ok (.goto 5, 3) := by decide +kernel
theorem dX1_changeWish_112 : decode cX1_changeWish 112 = .ok (.iload 10, 2) := by decide +kernel
theorem dX1_changeWish_114 : decode cX1_changeWish 114 = .ok (.istore 12, 2) := by decide +kernel
theorem dX1_changeWish_116 : decode cX1_changeWish 116 = .ok (.iload 11, 2) := by decide +kernel
theorem dX1_changeWish_118 : decode cX1_changeWish 118 = .ok (.ifCond .eq 12, 3) := by decide +kernel
theorem dX1_changeWish_121 : decode cX1_changeWish 121 = .ok (.aload_n 0, 1) := by decide +kernel
theorem dX1_changeWish_122 : decode cX1_changeWish 122 = .ok (.aload_n 1, 1) := by decide +kernel
theorem dX1_changeWish_123 : decode cX1_changeWish 123 = .ok (.iload_n 3, 1) := by decide +kernel
theorem dX1_changeWish_124 : decode cX1_changeWish 124 = .ok (.iconst 4, 1) := by decide +kernel
theorem dX1_changeWish_125 : decode cX1_changeWish 125 = .ok (.iload 11, 2) := by decide +kernel
theorem dX1_changeWish_127 : decode cX1_changeWish 127 = .ok (.invokevirtual 136, 3) := by decide +kernel
theorem dX1_changeWish_130 : decode cX1_changeWish 130 = .ok (.iload 12, 2) := by decide +kernel
theorem dX1_changeWish_132 : decode cX1_changeWish 132 = .ok (.ifCond .eq 12, 3) := by decide +kernel
theorem dX1_changeWish_135 : decode cX1_changeWish 135 = .ok (.aload_n 0, 1) := by decide +kernel
theorem dX1_changeWish_136 : decode cX1_changeWish 136 = .ok (.aload_n 1, 1) := by decide +kernel
theorem dX1_changeWish_137 : decode cX1_changeWish 137 = .ok (.iload_n 3, 1) := by decide +kernel
theorem dX1_changeWish_138 : decode cX1_changeWish 138 = .ok (.iconst 5, 1) := by decide +kernel
theorem dX1_changeWish_139 : decode cX1_changeWish 139 = .ok (.iload 12, 2) := by decide +kernel
theorem dX1_changeWish_141 : decode cX1_changeWish 141 = .ok (.invokevirtual 136, 3) := by decide +kernel
theorem dX1_changeWish_144 : decode cX1_changeWish 144 = .ok (.return_, 1) := by decide +kernel
theorem dX1_letAnswer_0 : decode cX1_letAnswer 0 = .ok (.aload_n 0, 1) := by decide +kernel
theorem dX1_letAnswer_1 : decode cX1_letAnswer 1 = .ok (.getfield 19, 3) := by decide +kernel
theorem dX1_letAnswer_4 : decode cX1_letAnswer 4 = .ok (.iload_n 2, 1) := by decide +kernel
theorem dX1_letAnswer_5 : decode cX1_letAnswer 5 = .ok (.aaload, 1) := by decide +kernel
theorem dX1_letAnswer_6 : decode cX1_letAnswer 6 = .ok (.astore_n 3, 1) := by decide +kernel
theorem dX1_letAnswer_7 : decode cX1_letAnswer 7 = .ok (.iconst 0, 1) := by decide +kernel
theorem dX1_letAnswer_8 : decode cX1_letAnswer 8 = .ok (.istore 4, 2) := by decide +kernel
theorem dX1_letAnswer_10 : decode cX1_letAnswer 10 = .ok (.iconst 0, 1) := by decide +kernel
theorem dX1_letAnswer_11 : decode cX1_letAnswer 11 = .ok (.istore 5, 2) := by decide +kernel
theorem dX1_letAnswer_13 : decode cX1_letAnswer 13 = .ok (.iload 5, 2) := by decide +kernel
theorem dX1_letAnswer_15 : decode cX1_letAnswer 15 = .ok (.bipush 8, 2) := by decide +kernel
theorem dX1_letAnswer_17 : decode cX1_letAnswer 17 = .ok (.if_icmp .ge 61, 3) := by decide +kernel
theorem dX1_letAnswer_20 : decode cX1_letAnswer 20 = .ok (.aload_n 3, 1) := by decide +kernel
theorem dX1_letAnswer_21 : decode cX1_letAnswer 21 = .ok (.getfield 133, 3) := by decide +kernel
theorem dX1_letAnswer_24 : decode cX1_letAnswer 24 = .ok (.iload 5, 2) := by decide +kernel
theorem dX1_letAnswer_26 : decode cX1_letAnswer 26 = .ok (.baload, 1) := by decide +kernel
theorem dX1_letAnswer_27 : decode cX1_letAnswer 27 = .ok (.ifCond .ne 13, 3) := by decide +kernel
theorem dX1_letAnswer_30 : decode cX1_letAnswer 30 = .ok (.aload_n 3, 1) := by decide +kernel
theorem dX1_letAnswer_31 : decode cX1_letAnswer 31 = .ok (.getfield 129, 3) := by decide +kernel
theorem dX1_letAnswer_34 : decode cX1_letAnswer 34 = .ok (.iload 5, 2) := by decide +kernel
theorem dX1_letAnswer_36 : decode cX1_letAnswer 36 = .ok (.iaload, 1) := by decide +kernel
theorem dX1_letAnswer_37 : decode cX1_letAnswer 37 = .ok (.ifCond .eq 35, 3) := by decide +kernel
theorem dX1_letAnswer_40 : decode cX1_letAnswer 40 = .ok (.aload_n 0, 1) := by decide +kernel
theorem dX1_letAnswer_41 : decode cX1_letAnswer 41 = .ok (.aload_n 1, 1) := by decide +kernel
theorem dX1_letAnswer_42 : decode cX1_letAnswer 42 = .ok (.iload 5, 2) := by decide +kernel
theorem dX1_letAnswer_44 : decode cX1_letAnswer 44 = .ok (.aload_n 3, 1) := by decide +kernel
theorem dX1_letAnswer_45 : decode cX1_letAnswer 45 = .ok (.getfield 133, 3) := by decide +kernel
theorem dX1_letAnswer_48 : decode cX1_letAnswer 48 = .ok (.iload 5, 2) := by decide +kernel
theorem dX1_letAnswer_50 : decode cX1_letAnswer 50 = .ok (.baload, 1) := by decide +kernel
theorem dX1_letAnswer_51 : decode cX1_letAnswer 51 = .ok (.ifCond .eq 7, 3) := by decide +kernel
theorem dX1_letAnswer_54 : decode cX1_letAnswer 54 = .ok (.iconst 1, 1) := by decide +kernel
theorem dX1_letAnswer_55 : decode cX1_letAnswer 55 = .ok (.goto 4, 3) := by decide +kernel
theorem dX1_letAnswer_58 : decode cX1_letAnswer 58 = .ok (.iconst 0, 1) := by decide +kernel
theorem dX1_letAnswer_59 : decode cX1_letAnswer 59 = .ok (.aload_n 3, 1) := by decide +kernel
theorem dX1_letAnswer_60 : decode cX1_letAnswer 60 = .ok (.getfield 129, 3) := by decide +kernel
theorem dX1_letAnswer_63 : decode cX1_letAnswer 63 = .ok (.iload 5, 2) := by decide +kernel
theorem dX1_letAnswer_65 : decode cX1_letAnswer 65 = .ok (.iaload, 1) := by decide +kernel
theorem dX1_letAnswer_66 : decode cX1_letAnswer 66 = .ok (.invokevirtual 136, 3) := by decide +kernel
theorem dX1_letAnswer_69 : decode cX1_letAnswer 69 = .ok (.iinc 4 1, 3) := by decide +kernel
theorem dX1_letAnswer_72 : decode cX1_letAnswer 72 = .ok (.iinc 5 1, 3) := by decide +kernel
theorem dX1_letAnswer_75 : decode cX1_letAnswer 75 = .ok (.goto (-62), 3) := by decide +kernel
theorem dX1_letAnswer_78 : decode cX1_letAnswer 78 = .ok (.iload 4, 2) := by decide +kernel
theorem dX1_letAnswer_80 : decode cX1_letAnswer 80 = .ok (.ireturn, 1) := by decide +kernel
theorem dX1_hasMemberFor_0 : decode cX1_hasMemberFor 0 = .ok (.iconst 0, 1) := by decide +kernel
theorem dX1_hasMemberFor_1 : decode cX1_hasMemberFor 1 = .ok (.istore_n 3, 1) := by decide +kernel
theorem dX1_hasMemberFor_2 : decode cX1_hasMemberFor 2 = .ok (.iload_n 3, 1) := by decide +kernel
theorem dX1_hasMemberFor_3 : decode cX1_hasMemberFor 3 = .ok (.bipush 6, 2) := by decide +kernel
theorem dX1_hasMemberFor_5 : decode cX1_hasMemberFor 5 = .ok (.if_icmp .ge 25, 3) := by decide +kernel
theorem dX1_hasMemberFor_8 : decode cX1_hasMemberFor 8 = .ok (.aload_n 0, 1) := by decide +kernel
theorem dX1_hasMemberFor_9 : decode cX1_hasMemberFor 9 = .ok (.getfield 19, 3) := by decide +kernel
theorem dX1_hasMemberFor_12 : decode cX1_hasMemberFor 12 = .ok (.iload_n 3, 1) := by decide +kernel
theorem dX1_hasMemberFor_13 : decode cX1_hasMemberFor 13 = .ok (.aaload, 1) := by decide +kernel
theorem dX1_hasMemberFor_14 : decode cX1_hasMemberFor 14 = .ok (.iload_n 1, 1) := by decide +kernel
theorem dX1_hasMemberFor_15 : decode cX1_hasMemberFor 15 = .ok (.iload_n 2, 1) := by decide +kernel
theorem dX1_hasMemberFor_16 : decode cX1_hasMemberFor 16 = .ok (.invokevirtual 140, 3) := by decide +kernel
theorem dX1_hasMemberFor_19 : decode cX1_hasMemberFor 19 = .ok (.ifCond .eq 5, 3) := by decide +kernel
theorem dX1_hasMemberFor_22 : decode cX1_hasMemberFor 22 = .ok (.iconst 1, 1) := by decide +kernel
theorem dX1_hasMemberFor_23 : decode cX1_hasMemberFor 23 = .ok (.ireturn, 1) := by decide +kernel
theorem dX1_hasMemberFor_24 : decode cX1_hasMemberFor 24 = .ok (.iinc 3 1, 3) := by decide +kernel
theorem dX1_hasMemberFor_27 : decode cX1_hasMemberFor 27 = .ok (.goto (-25), 3) := by decide +kernel
theorem dX1_hasMemberFor_30 : decode cX1_hasMemberFor 30 = .ok (.iconst 0, 1) := by decide +kernel
theorem dX1_hasMemberFor_31 : decode cX1_hasMemberFor 31 = .ok (.ireturn, 1) := by decide +kernel
