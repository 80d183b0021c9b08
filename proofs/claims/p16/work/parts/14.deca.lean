theorem dX0_init_0 : decode cX0_init 0 = .ok (.aload_n 0, 1) := by decide +kernel
theorem dX0_init_1 : decode cX0_init 1 = .ok (.invokespecial 3, 3) := by decide +kernel
theorem dX0_init_4 : decode cX0_init 4 = .ok (.aload_n 0, 1) := by decide +kernel
theorem dX0_init_5 : decode cX0_init 5 = .ok (.bipush 16, 2) := by decide +kernel
theorem dX0_init_7 : decode cX0_init 7 = .ok (.newarray .int, 2) := by decide +kernel
theorem dX0_init_9 : decode cX0_init 9 = .ok (.putfield 9, 3) := by decide +kernel
theorem dX0_init_12 : decode cX0_init 12 = .ok (.return_, 1) := by decide +kernel
theorem dX0_reset_0 : decode cX0_reset 0 = .ok (.aload_n 0, 1) := by decide +kernel
theorem dX0_reset_1 : decode cX0_reset 1 = .ok (.ldc 15, 2) := by decide +kernel
theorem dX0_reset_3 : decode cX0_reset 3 = .ok (.iconst 0, 1) := by decide +kernel
theorem dX0_reset_4 : decode cX0_reset 4 = .ok (.invokevirtual 16, 3) := by decide +kernel
theorem dX0_reset_7 : decode cX0_reset 7 = .ok (.aload_n 0, 1) := by decide +kernel
theorem dX0_reset_8 : decode cX0_reset 8 = .ok (.iconst 0, 1) := by decide +kernel
theorem dX0_reset_9 : decode cX0_reset 9 = .ok (.putfield 20, 3) := by decide +kernel
theorem dX0_reset_12 : decode cX0_reset 12 = .ok (.aload_n 0, 1) := by decide +kernel
theorem dX0_reset_13 : decode cX0_reset 13 = .ok (.invokevirtual 24, 3) := by decide +kernel
theorem dX0_reset_16 : decode cX0_reset 16 = .ok (.return_, 1) := by decide +kernel
theorem dX0_state_0 : decode cX0_state 0 = .ok (.aload_n 0, 1) := by decide +kernel
theorem dX0_state_1 : decode cX0_state 1 = .ok (.getfield 27, 3) := by decide +kernel
theorem dX0_state_4 : decode cX0_state 4 = .ok (.ifCond .eq 5, 3) := by decide +kernel
theorem dX0_state_7 : decode cX0_state 7 = .ok (.iconst 1, 1) := by decide +kernel
theorem dX0_state_8 : decode cX0_state 8 = .ok (.ireturn, 1) := by decide +kernel
theorem dX0_state_9 : decode cX0_state 9 = .ok (.aload_n 0, 1) := by decide +kernel
theorem dX0_state_10 : decode cX0_state 10 = .ok (.getfield 20, 3) := by decide +kernel
theorem dX0_state_13 : decode cX0_state 13 = .ok (.ifCond .ne 7, 3) := by decide +kernel
theorem dX0_state_16 : decode cX0_state 16 = .ok (.iconst (-1), 1) := by decide +kernel
theorem dX0_state_17 : decode cX0_state 17 = .ok (.goto 4, 3) := by decide +kernel
theorem dX0_state_20 : decode cX0_state 20 = .ok (.iconst 0, 1) := by decide +kernel
theorem dX0_state_21 : decode cX0_state 21 = .ok (.ireturn, 1) := by decide +kernel
theorem dX0_lets_0 : decode cX0_lets 0 = .ok (.aload_n 0, 1) := by decide +kernel
theorem dX0_lets_1 : decode cX0_lets 1 = .ok (.getfield 27, 3) := by decide +kernel
theorem dX0_lets_4 : decode cX0_lets 4 = .ok (.ifCond .eq 22, 3) := by decide +kernel
theorem dX0_lets_7 : decode cX0_lets 7 = .ok (.aload_n 0, 1) := by decide +kernel
theorem dX0_lets_8 : decode cX0_lets 8 = .ok (.getfield 31, 3) := by decide +kernel
theorem dX0_lets_11 : decode cX0_lets 11 = .ok (.iload_n 1, 1) := by decide +kernel
theorem dX0_lets_12 : decode cX0_lets 12 = .ok (.invokestatic 34, 3) := by decide +kernel
theorem dX0_lets_15 : decode cX0_lets 15 = .ok (.ifCond .ne 7, 3) := by decide +kernel
theorem dX0_lets_18 : decode cX0_lets 18 = .ok (.iconst 1, 1) := by decide +kernel
theorem dX0_lets_19 : decode cX0_lets 19 = .ok (.goto 15, 3) := by decide +kernel
theorem dX0_lets_22 : decode cX0_lets 22 = .ok (.iconst 0, 1) := by decide +kernel
theorem dX0_lets_23 : decode cX0_lets 23 = .ok (.goto 11, 3) := by decide +kernel
theorem dX0_lets_26 : decode cX0_lets 26 = .ok (.aload_n 0, 1) := by decide +kernel
theorem dX0_lets_27 : decode cX0_lets 27 = .ok (.getfield 20, 3) := by decide +kernel
theorem dX0_lets_30 : decode cX0_lets 30 = .ok (.iload_n 1, 1) := by decide +kernel
theorem dX0_lets_31 : decode cX0_lets 31 = .ok (.invokestatic 34, 3) := by decide +kernel
theorem dX0_lets_34 : decode cX0_lets 34 = .ok (.ireturn, 1) := by decide +kernel
theorem dX0_doubted_0 : decode cX0_doubted 0 = .ok (.aload_n 0, 1) := by decide +kernel
theorem dX0_doubted_1 : decode cX0_doubted 1 = .ok (.getfield 27, 3) := by decide +kernel
theorem dX0_doubted_4 : decode cX0_doubted 4 = .ok (.ifCond .eq 14, 3) := by decide +kernel
theorem dX0_doubted_7 : decode cX0_doubted 7 = .ok (.iload_n 1, 1) := by decide +kernel
theorem dX0_doubted_8 : decode cX0_doubted 8 = .ok (.aload_n 0, 1) := by decide +kernel
theorem dX0_doubted_9 : decode cX0_doubted 9 = .ok (.getfield 31, 3) := by decide +kernel
theorem dX0_doubted_12 : decode cX0_doubted 12 = .ok (.iconst (-1), 1) := by decide +kernel
theorem dX0_doubted_13 : decode cX0_doubted 13 = .ok (.ixor, 1) := by decide +kernel
theorem dX0_doubted_14 : decode cX0_doubted 14 = .ok (.iand, 1) := by decide +kernel
theorem dX0_doubted_15 : decode cX0_doubted 15 = .ok (.goto 9, 3) := by decide +kernel
theorem dX0_doubted_18 : decode cX0_doubted 18 = .ok (.iload_n 1, 1) := by decide +kernel
theorem dX0_doubted_19 : decode cX0_doubted 19 = .ok (.aload_n 0, 1) := by decide +kernel
theorem dX0_doubted_20 : decode cX0_doubted 20 = .ok (.getfield 20, 3) := by decide +kernel
theorem dX0_doubted_23 : decode cX0_doubted 23 = .ok (.iand, 1) := by decide +kernel
theorem dX0_doubted_24 : decode cX0_doubted 24 = .ok (.ireturn, 1) := by decide +kernel
theorem dX0_allow_0 : decode cX0_allow 0 = .ok (.aload_n 0, 1) := by decide +kernel
theorem dX0_allow_1 : decode cX0_allow 1 = .ok (.dup, 1) := by decide +kernel
theorem dX0_allow_2 : decode cX0_allow 2 = .ok (.getfield 20, 3) := by decide +kernel
theorem dX0_allow_5 : decode cX0_allow 5 = .ok (.iload_n 1, 1) := by decide +kernel
theorem dX0_allow_6 : decode cX0_allow 6 = .ok (.ior, 1) := by decide +kernel
theorem dX0_allow_7 : decode cX0_allow 7 = .ok (.putfield 20, 3) := by decide +kernel
theorem dX0_allow_10 : decode cX0_allow 10 = .ok (.aload_n 0, 1) := by decide +kernel
theorem dX0_allow_11 : decode cX0_allow 11 = .ok (.dup, 1) := by decide +kernel
theorem dX0_allow_12 : decode cX0_allow 12 = .ok (.getfield 31, 3) := by decide +kernel
theorem dX0_allow_15 : decode cX0_allow 15 = .ok (.iload_n 1, 1) := by decide +kernel
theorem dX0_allow_16 : decode cX0_allow 16 = .ok (.iconst (-1), 1) := by decide +kernel
theorem dX0_allow_17 : decode cX0_allow 17 = .ok (.ixor, 1) := by decide +kernel
theorem dX0_allow_18 : decode cX0_allow 18 = .ok (.iand, 1) := by decide +kernel
theorem dX0_allow_19 : decode cX0_allow 19 = .ok (.putfield 31, 3) := by decide +kernel
theorem dX0_allow_22 : decode cX0_allow 22 = .ok (.aload_n 0, 1) := by decide +kernel
theorem dX0_allow_23 : decode cX0_allow 23 = .ok (.iload_n 1, 1) := by decide +kernel
theorem dX0_allow_24 : decode cX0_allow 24 = .ok (.iload_n 2, 1) := by decide +kernel
theorem dX0_allow_25 : decode cX0_allow 25 = .ok (.invokevirtual 16, 3) := by decide +kernel
theorem dX0_allow_28 : decode cX0_allow 28 = .ok (.return_, 1) := by decide +kernel
theorem dX0_exclude_0 : decode cX0_exclude 0 = .ok (.aload_n 0, 1) := by decide +kernel
theorem dX0_exclude_1 : decode cX0_exclude 1 = .ok (.getfield 27, 3) := by decide +kernel
theorem dX0_exclude_4 : decode cX0_exclude 4 = .ok (.ifCond .eq 21, 3) := by decide +kernel
theorem dX0_exclude_7 : decode cX0_exclude 7 = .ok (.iload_n 1, 1) := by decide +kernel
theorem dX0_exclude_8 : decode cX0_exclude 8 = .ok (.aload_n 0, 1) := by decide +kernel
theorem dX0_exclude_9 : decode cX0_exclude 9 = .ok (.getfield 20, 3) := by decide +kernel
theorem dX0_exclude_12 : decode cX0_exclude 12 = .ok (.iconst (-1), 1) := by decide +kernel
theorem dX0_exclude_13 : decode cX0_exclude 13 = .ok (.ixor, 1) := by decide +kernel
theorem dX0_exclude_14 : decode cX0_exclude 14 = .ok (.iand, 1) := by decide +kernel
theorem dX0_exclude_15 : decode cX0_exclude 15 = .ok (.aload_n 0, 1) := by decide +kernel
theorem dX0_exclude_16 : decode cX0_exclude 16 = .ok (.getfield 31, 3) := by decide +kernel
theorem dX0_exclude_19 : decode cX0_exclude 19 = .ok (.iconst (-1), 1) := by decide +kernel
theorem dX0_exclude_20 : decode cX0_exclude 20 = .ok (.ixor, 1) := by decide +kernel
theorem dX0_exclude_21 : decode cX0_exclude 21 = .ok (.iand, 1) := by decide +kernel
theorem dX0_exclude_22 : decode cX0_exclude 22 = .ok (.goto 4, 3) := by decide +kernel
theorem dX0_exclude_25 : decode cX0_exclude 25 = .ok (.iconst 0, 1) := by decide +kernel
theorem dX0_exclude_26 : decode cX0_exclude 26 = .ok (.istore 4, 2) := by decide +kernel
theorem dX0_exclude_28 : decode cX0_exclude 28 = .ok (.aload_n 0, 1) := by decide +kernel
theorem dX0_exclude_29 : decode cX0_exclude 29 = .ok (.getfield 20, 3) := by decide +kernel
theorem dX0_exclude_32 : decode cX0_exclude 32 = .ok (.iload_n 1, 1) := by decide +kernel
theorem dX0_exclude_33 : decode cX0_exclude 33 = .ok (.iand, 1) := by decide +kernel
theorem dX0_exclude_34 : decode cX0_exclude 34 = .ok (.istore 5, 2) := by decide +kernel
theorem dX0_exclude_36 : decode cX0_exclude 36 = .ok (.aload_n 0, 1) := by decide +kernel
theorem dX0_exclude_37 : decode cX0_exclude 37 = .ok (.aload_n 0, 1) := by decide +kernel
theorem dX0_exclude_38 : decode cX0_exclude 38 = .ok (.getfield 20, 3) := by decide +kernel
theorem dX0_exclude_41 : decode cX0_exclude 41 = .ok (.iload_n 1, 1) := by decide +kernel
theorem dX0_exclude_42 : decode cX0_exclude 42 = .ok (.iconst (-1), 1) := by decide +kernel
theorem dX0_exclude_43 : decode cX0_exclude 43 = .ok (.ixor, 1) := by decide +kernel
theorem dX0_exclude_44 : decode cX0_exclude 44 = .ok (.iand, 1) := by decide +kernel
theorem dX0_exclude_45 : decode cX0_exclude 45 = .ok (.iconst 0, 1) := by decide +kernel
theorem dX0_exclude_46 : decode cX0_exclude 46 = .ok (.invokevirtual 16, 3) := by decide +kernel
theorem dX0_exclude_49 : decode cX0_exclude 49 = .ok (.aload_n 0, 1) := by decide +kernel
theorem dX0_exclude_50 : decode cX0_exclude 50 = .ok (.iload 4, 2) := by decide +kernel
theorem dX0_exclude_52 : decode cX0_exclude 52 = .ok (.iload_n 2, 1) := by decide +kernel
theorem dX0_exclude_53 : decode cX0_exclude 53 = .ok (.invokevirtual 16, 3) := by decide +kernel
theorem dX0_exclude_56 : decode cX0_exclude 56 = .ok (.aload_n 0, 1) := by decide +kernel
theorem dX0_exclude_57 : decode cX0_exclude 57 = .ok (.iload 5, 2) := by decide +kernel
theorem dX0_exclude_59 : decode cX0_exclude 59 = .ok (.iload 4, 2) := by decide +kernel
theorem dX0_exclude_61 : decode cX0_exclude 61 = .ok (.ior, 1) := by decide +kernel
theorem dX0_exclude_62 : decode cX0_exclude 62 = .ok (.putfield 20, 3) := by decide +kernel
theorem dX0_exclude_65 : decode cX0_exclude 65 = .ok (.aload_n 0, 1) := by decide +kernel
theorem dX0_exclude_66 : decode cX0_exclude 66 = .ok (.iload_n 1, 1) := by decide +kernel
theorem dX0_exclude_67 : decode cX0_exclude 67 = .ok (.aload_n 0, 1) := by decide +kernel
theorem dX0_exclude_68 : decode cX0_exclude 68 = .ok (.getfield 20, 3) := by decide +kernel
theorem dX0_exclude_71 : decode cX0_exclude 71 = .ok (.iconst (-1), 1) := by decide +kernel
theorem dX0_exclude_72 : decode cX0_exclude 72 = .ok (.ixor, 1) := by decide +kernel
theorem dX0_exclude_73 : decode cX0_exclude 73 = .ok (.iand, 1) := by decide +kernel
theorem dX0_exclude_74 : decode cX0_exclude 74 = .ok (.putfield 31, 3) := by decide +kernel
theorem dX0_exclude_77 : decode cX0_exclude 77 = .ok (.aload_n 0, 1) := by decide +kernel
theorem dX0_exclude_78 : decode cX0_exclude 78 = .ok (.iconst 1, 1) := by decide +kernel
theorem dX0_exclude_79 : decode cX0_exclude 79 = .ok (.putfield 27, 3) := by decide +kernel
theorem dX0_exclude_82 : decode cX0_exclude 82 = .ok (.aload_n 0, 1) := by decide +kernel
theorem dX0_exclude_83 : decode cX0_exclude 83 = .ok (.iload_n 3, 1) := by decide +kernel
theorem dX0_exclude_84 : decode cX0_exclude 84 = .ok (.putfield 38, 3) := by decide +kernel
theorem dX0_exclude_87 : decode cX0_exclude 87 = .ok (.return_, 1) := by decide +kernel
theorem dX0_block_0 : decode cX0_block 0 = .ok (.aload_n 0, 1) := by decide +kernel
theorem dX0_block_1 : decode cX0_block 1 = .ok (.getfield 27, 3) := by decide +kernel
theorem dX0_block_4 : decode cX0_block 4 = .ok (.ifCond .eq 38, 3) := by decide +kernel
theorem dX0_block_7 : decode cX0_block 7 = .ok (.iload_n 1, 1) := by decide +kernel
theorem dX0_block_8 : decode cX0_block 8 = .ok (.aload_n 0, 1) := by decide +kernel
theorem dX0_block_9 : decode cX0_block 9 = .ok (.getfield 20, 3) := by decide +kernel
theorem dX0_block_12 : decode cX0_block 12 = .ok (.iconst (-1), 1) := by decide +kernel
theorem dX0_block_13 : decode cX0_block 13 = .ok (.ixor, 1) := by decide +kernel
theorem dX0_block_14 : decode cX0_block 14 = .ok (.iand, 1) := by decide +kernel
theorem dX0_block_15 : decode cX0_block 15 = .ok (.aload_n 0, 1) := by decide +kernel
theorem dX0_block_16 : decode cX0_block 16 = .ok (.getfield 31, 3) := by decide +kernel
theorem dX0_block_19 : decode cX0_block 19 = .ok (.iconst (-1), 1) := by decide +kernel
theorem dX0_block_20 : decode cX0_block 20 = .ok (.ixor, 1) := by decide +kernel
theorem dX0_block_21 : decode cX0_block 21 = .ok (.iand, 1) := by decide +kernel
theorem dX0_block_22 : decode cX0_block 22 = .ok (.istore_n 2, 1) := by decide +kernel
theorem dX0_block_23 : decode cX0_block 23 = .ok (.aload_n 0, 1) := by decide +kernel
theorem dX0_block_24 : decode cX0_block 24 = .ok (.dup, 1) := by decide +kernel
theorem dX0_block_25 : decode cX0_block 25 = .ok (.getfield 20, 3) := by decide +kernel
theorem dX0_block_28 : decode cX0_block 28 = .ok (.iload_n 2, 1) := by decide +kernel
theorem dX0_block_29 : decode cX0_block 29 = .ok (.ior, 1) := by decide +kernel
theorem dX0_block_30 : decode cX0_block 30 = .ok (.putfield 20, 3) := by decide +kernel
theorem dX0_block_33 : decode cX0_block 33 = .ok (.aload_n 0, 1) := by decide +kernel
theorem dX0_block_34 : decode cX0_block 34 = .ok (.iload_n 2, 1) := by decide +kernel
theorem dX0_block_35 : decode cX0_block 35 = .ok (.aload_n 0, 1) := by decide +kernel
theorem dX0_block_36 : decode cX0_block 36 = .ok (.getfield 38, 3) := by decide +kernel
theorem dX0_block_39 : decode cX0_block 39 = .ok (.invokevirtual 16, 3) := by decide +kernel
theorem dX0_block_42 : decode cX0_block 42 = .ok (.return_, 1) := by decide +kernel
theorem dX0_age_0 : decode cX0_age 0 = .ok (.aload_n 0, 1) := by decide +kernel
theorem dX0_age_1 : decode cX0_age 1 = .ok (.iload_n 1, 1) := by decide +kernel
theorem dX0_age_2 : decode cX0_age 2 = .ok (.invokevirtual 41, 3) := by decide +kernel
theorem dX0_age_5 : decode cX0_age 5 = .ok (.istore_n 2, 1) := by decide +kernel
theorem dX0_age_6 : decode cX0_age 6 = .ok (.aload_n 0, 1) := by decide +kernel
theorem dX0_age_7 : decode cX0_age 7 = .ok (.getfield 27, 3) := by decide +kernel
theorem dX0_age_10 : decode cX0_age 10 = .ok (.ifCond .ne 4, 3) := by decide +kernel
theorem dX0_age_13 : decode cX0_age 13 = .ok (.return_, 1) := by decide +kernel
theorem dX0_age_14 : decode cX0_age 14 = .ok (.aload_n 0, 1) := by decide +kernel
theorem dX0_age_15 : decode cX0_age 15 = .ok (.getfield 38, 3) := by decide +kernel
theorem dX0_age_18 : decode cX0_age 18 = .ok (.iload_n 1, 1) := by decide +kernel
theorem dX0_age_19 : decode cX0_age 19 = .ok (.if_icmp .gt 10, 3) := by decide +kernel
theorem dX0_age_22 : decode cX0_age 22 = .ok (.aload_n 0, 1) := by decide +kernel
theorem dX0_age_23 : decode cX0_age 23 = .ok (.invokevirtual 24, 3) := by decide +kernel
theorem dX0_age_26 : decode cX0_age 26 = .ok (.goto 23, 3) := by decide +kernel
theorem dX0_age_29 : decode cX0_age 29 = .ok (.aload_n 0, 1) := by decide +kernel
theorem dX0_age_30 : decode cX0_age 30 = .ok (.dup, 1) := by decide +kernel
theorem dX0_age_31 : decode cX0_age 31 = .ok (.getfield 38, 3) := by decide +kernel
theorem dX0_age_34 : decode cX0_age 34 = .ok (.iload_n 1, 1) := by decide +kernel
theorem dX0_age_35 : decode cX0_age 35 = .ok (.isub, 1) := by decide +kernel
theorem dX0_age_36 : decode cX0_age 36 = .ok (.putfield 38, 3) := by decide +kernel
theorem dX0_age_39 : decode cX0_age 39 = .ok (.aload_n 0, 1) := by decide +kernel
theorem dX0_age_40 : decode cX0_age 40 = .ok (.dup, 1) := by decide +kernel
theorem dX0_age_41 : decode cX0_age 41 = .ok (.getfield 31, 3) := by decide +kernel
theorem dX0_age_44 : decode cX0_age 44 = .ok (.iload_n 2, 1) := by decide +kernel
theorem dX0_age_45 : decode cX0_age 45 = .ok (.ior, 1) := by decide +kernel
theorem dX0_age_46 : decode cX0_age 46 = .ok (.putfield 31, 3) := by decide +kernel
theorem dX0_age_49 : decode cX0_age 49 = .ok (.return_, 1) := by decide +kernel
theorem dX0_ageTimers_0 : decode cX0_ageTimers 0 = .ok (.iconst 0, 1) := by decide +kernel
theorem dX0_ageTimers_1 : decode cX0_ageTimers 1 = .ok (.istore_n 2, 1) := by decide +kernel
theorem dX0_ageTimers_2 : decode cX0_ageTimers 2 = .ok (.iconst 0, 1) := by decide +kernel
theorem dX0_ageTimers_3 : decode cX0_ageTimers 3 = .ok (.istore_n 3, 1) := by decide +kernel
theorem dX0_ageTimers_4 : decode cX0_ageTimers 4 = .ok (.iload_n 3, 1) := by decide +kernel
theorem dX0_ageTimers_5 : decode cX0_ageTimers 5 = .ok (.bipush 16, 2) := by decide +kernel
theorem dX0_ageTimers_7 : decode cX0_ageTimers 7 = .ok (.if_icmp .ge 54, 3) := by decide +kernel
theorem dX0_ageTimers_10 : decode cX0_ageTimers 10 = .ok (.aload_n 0, 1) := by decide +kernel
theorem dX0_ageTimers_11 : decode cX0_ageTimers 11 = .ok (.getfield 9, 3) := by decide +kernel
theorem dX0_ageTimers_14 : decode cX0_ageTimers 14 = .ok (.iload_n 3, 1) := by decide +kernel
theorem dX0_ageTimers_15 : decode cX0_ageTimers 15 = .ok (.iaload, 1) := by decide +kernel
theorem dX0_ageTimers_16 : decode cX0_ageTimers 16 = .ok (.iload_n 1, 1) := by decide +kernel
theorem dX0_ageTimers_17 : decode cX0_ageTimers 17 = .ok (.if_icmp .le 16, 3) := by decide +kernel
theorem dX0_ageTimers_20 : decode cX0_ageTimers 20 = .ok (.aload_n 0, 1) := by decide +kernel
theorem dX0_ageTimers_21 : decode cX0_ageTimers 21 = .ok (.getfield 9, 3) := by decide +kernel
theorem dX0_ageTimers_24 : decode cX0_ageTimers 24 = .ok (.iload_n 3, 1) := by decide +kernel
theorem dX0_ageTimers_25 : decode cX0_ageTimers 25 = .ok (.dup2, 1) := by decide +kernel
theorem dX0_ageTimers_26 : decode cX0_ageTimers 26 = .ok (.iaload, 1) := by decide +kernel
theorem dX0_ageTimers_27 : decode cX0_ageTimers 27 = .ok (.iload_n 1, 1) := by decide +kernel
theorem dX0_ageTimers_28 : decode cX0_ageTimers 28 = .ok (.isub, 1) := by decide +kernel
theorem dX0_ageTimers_29 : decode cX0_ageTimers 29 = .ok (.iastore, 1) := by decide +kernel
theorem dX0_ageTimers_30 : decode cX0_ageTimers 30 = .ok (.goto 25, 3) := by decide +kernel
theorem dX0_ageTimers_33 : decode cX0_ageTimers 33 = .ok (.aload_n 0, 1) := by decide +kernel
theorem dX0_ageTimers_34 : decode cX0_ageTimers 34 = .ok (.getfield 9, 3) := by decide +kernel
theorem dX0_ageTimers_37 : decode cX0_ageTimers 37 = .ok (.iload_n 3, 1) := by decide +kernel
theorem dX0_ageTimers_38 : decode cX0_ageTimers 38 = .ok (.iaload, 1) := by decide +kernel
theorem dX0_ageTimers_39 : decode cX0_ageTimers 39 = .ok (.ifCond .le 16, 3) := by decide +kernel
theorem dX0_ageTimers_42 : decode cX0_ageTimers 42 = .ok (.aload_n 0, 1) := by decide +kernel
theorem dX0_ageTimers_43 : decode cX0_ageTimers 43 = .ok (.getfield 9, 3) := by decide +kernel
theorem dX0_ageTimers_46 : decode cX0_ageTimers 46 = .ok (.iload_n 3, 1) := by decide +kernel
theorem dX0_ageTimers_47 : decode cX0_ageTimers 47 = .ok (.iconst 0, 1) := by decide +kernel
theorem dX0_ageTimers_48 : decode cX0_ageTimers 48 = .ok (.iastore, 1) := by decide +kernel
theorem dX0_ageTimers_49 : decode cX0_ageTimers 49 = .ok (.iload_n 2, 1) := by decide +kernel
theorem dX0_ageTimers_50 : decode cX0_ageTimers 50 = .ok (.iconst 1, 1) := by decide +kernel
theorem dX0_ageTimers_51 : decode cX0_ageTimers 51 = .ok (.iload_n 3, 1) := by decide +kernel
theorem dX0_ageTimers_52 : decode cX0_ageTimers 52 = .ok (.ishl, 1) := by decide +kernel
theorem dX0_ageTimers_53 : decode cX0_ageTimers 53 = .ok (.ior, 1) := by decide +kernel
theorem dX0_ageTimers_54 : decode cX0_ageTimers 54 = .ok (.istore_n 2, 1) := by decide +kernel
theorem dX0_ageTimers_55 : decode cX0_ageTimers 55 = .ok (.iinc 3 1, 3) := by decide +kernel
theorem dX0_ageTimers_58 : decode cX0_ageTimers 58 = .ok (.goto (-54), 3) := by decide +kernel
theorem dX0_ageTimers_61 : decode cX0_ageTimers 61 = .ok (.aload_n 0, 1) := by decide +kernel
theorem dX0_ageTimers_62 : decode cX0_ageTimers 62 = .ok (.dup, 1) := by decide +kernel
theorem dX0_ageTimers_63 : decode cX0_ageTimers 63 = .ok (.getfield 20, 3) := by decide +kernel
theorem dX0_ageTimers_66 : decode cX0_ageTimers 66 = .ok (.iload_n 2, 1) := by decide +kernel
theorem dX0_ageTimers_67 : decode cX0_ageTimers 67 = .ok (.iconst (-1), 1) := by decide +kernel
theorem dX0_ageTimers_68 : decode cX0_ageTimers 68 = .ok (.ixor, 1) := by decide +kernel
theorem dX0_ageTimers_69 : decode cX0_ageTimers 69 = .ok (.iand, 1) := by decide +kernel
theorem dX0_ageTimers_70 : decode cX0_ageTimers 70 = .ok (.putfield 20, 3) := by decide +kernel
theorem dX0_ageTimers_73 : decode cX0_ageTimers 73 = .ok (.iload_n 2, 1) := by decide +kernel
theorem dX0_ageTimers_74 : decode cX0_ageTimers 74 = .ok (.ireturn, 1) := by decide +kernel
theorem dX0_include_0 : decode cX0_include 0 = .ok (.aload_n 0, 1) := by decide +kernel
theorem dX0_include_1 : decode cX0_include 1 = .ok (.iconst 0, 1) := by decide +kernel
theorem dX0_include_2 : decode cX0_include 2 = .ok (.putfield 27, 3) := by decide +kernel
theorem dX0_include_5 : decode cX0_include 5 = .ok (.aload_n 0, 1) := by decide +kernel
theorem dX0_include_6 : decode cX0_include 6 = .ok (.iconst 0, 1) := by decide +kernel
theorem dX0_include_7 : decode cX0_include 7 = .ok (.putfield 31, 3) := by decide +kernel
theorem dX0_include_10 : decode cX0_include 10 = .ok (.aload_n 0, 1) := by decide +kernel
theorem dX0_include_11 : decode cX0_include 11 = .ok (.iconst 0, 1) := by decide +kernel
theorem dX0_include_12 : decode cX0_include 12 = .ok (.putfield 38, 3) := by decide +kernel
theorem dX0_include_15 : decode cX0_include 15 = .ok (.return_, 1) := by decide +kernel
theorem dX0_setTimers_0 : decode cX0_setTimers 0 = .ok (.iconst 0, 1) := by decide +kernel
theorem dX0_setTimers_1 : decode cX0_setTimers 1 = .ok (.istore_n 3, 1) := by decide +kernel
theorem dX0_setTimers_2 : decode cX0_setTimers 2 = .ok (.iload_n 3, 1) := by decide +kernel
theorem dX0_setTimers_3 : decode cX0_setTimers 3 = .ok (.bipush 16, 2) := by decide +kernel
theorem dX0_setTimers_5 : decode cX0_setTimers 5 = .ok (.if_icmp .ge 24, 3) := by decide +kernel
theorem dX0_setTimers_8 : decode cX0_setTimers 8 = .ok (.iload_n 1, 1) := by decide +kernel
theorem dX0_setTimers_9 : decode cX0_setTimers 9 = .ok (.iload_n 3, 1) := by decide +kernel
theorem dX0_setTimers_10 : decode cX0_setTimers 10 = .ok (.invokestatic 34, 3) := by decide +kernel
theorem dX0_setTimers_13 : decode cX0_setTimers 13 = .ok (.ifCond .eq 10, 3) := by decide +kernel
theorem dX0_setTimers_16 : decode cX0_setTimers 16 = .ok (.aload_n 0, 1) := by decide +kernel
theorem dX0_setTimers_17 : decode cX0_setTimers 17 = .ok (.getfield 9, 3) := by decide +kernel
theorem dX0_setTimers_20 : decode cX0_setTimers 20 = .ok (.iload_n 3, 1) := by decide +kernel
theorem dX0_setTimers_21 : decode cX0_setTimers 21 = .ok (.iload_n 2, 1) := by decide +kernel
theorem dX0_setTimers_22 : decode cX0_setTimers 22 = .ok (.iastore, 1) := by decide +kernel
theorem dX0_setTimers_23 : decode cX0_setTimers 23 = .ok (.iinc 3 1, 3) := by decide +kernel
theorem dX0_setTimers_26 : decode cX0_setTimers 26 = .ok (.goto (-24), 3) := by decide +kernel
theorem dX0_setTimers_29 : decode cX0_setTimers 29 = .ok (.return_, 1) := by decide +kernel
theorem dX0_lowerTimers_0 : decode cX0_lowerTimers 0 = .ok (.iconst 0, 1) := by decide +kernel
theorem dX0_lowerTimers_1 : decode cX0_lowerTimers 1 = .ok (.istore_n 3, 1) := by decide +kernel
theorem dX0_lowerTimers_2 : decode cX0_lowerTimers 2 = .ok (.iload_n 3, 1) := by decide +kernel
theorem dX0_lowerTimers_3 : decode cX0_lowerTimers 3 = .ok (.bipush 16, 2) := by decide +kernel
theorem dX0_lowerTimers_5 : decode cX0_lowerTimers 5 = .ok (.if_icmp .ge 33, 3) := by decide +kernel
theorem dX0_lowerTimers_8 : decode cX0_lowerTimers 8 = .ok (.iload_n 1, 1) := by decide +kernel
theorem dX0_lowerTimers_9 : decode cX0_lowerTimers 9 = .ok (.iload_n 3, 1) := by decide +kernel
theorem dX0_lowerTimers_10 : decode cX0_lowerTimers 10 = .ok (.invokestatic 34, 3) := by decide +kernel
theorem dX0_lowerTimers_13 : decode cX0_lowerTimers 13 = .ok (.ifCond .eq 19, 3) := by decide +kernel
theorem dX0_lowerTimers_16 : decode cX0_lowerTimers 16 = .ok (.aload_n 0, 1) := by decide +kernel
theorem dX0_lowerTimers_17 : decode cX0_lowerTimers 17 = .ok (.getfield 9, 3) := by decide +kernel
theorem dX0_lowerTimers_20 : decode cX0_lowerTimers 20 = .ok (.iload_n 3, 1) := by decide +kernel
theorem dX0_lowerTimers_21 : decode cX0_lowerTimers 21 = .ok (.aload_n 0, 1) := by decide +kernel
theorem dX0_lowerTimers_22 : decode cX0_lowerTimers 22 = .ok (.getfield 9, 3) := by decide +kernel
theorem dX0_lowerTimers_25 : decode cX0_lowerTimers 25 = .ok (.iload_n 3, 1) := by decide +kernel
theorem dX0_lowerTimers_26 : decode cX0_lowerTimers 26 = .ok (.iaload, 1) := by decide +kernel
theorem dX0_lowerTimers_27 : decode cX0_lowerTimers 27 = .ok (.iload_n 2, 1) := by decide +kernel
theorem dX0_lowerTimers_28 : decode cX0_lowerTimers 28 = .ok (.invokestatic 45, 3) := by decide +kernel
theorem dX0_lowerTimers_31 : decode cX0_lowerTimers 31 = .ok (.iastore, 1) := by decide +kernel
theorem dX0_lowerTimers_32 : decode cX0_lowerTimers 32 = .ok (.iinc 3 1, 3) := by decide +kernel
theorem dX0_lowerTimers_35 : decode cX0_lowerTimers 35 = .ok (.goto (-33), 3) := by decide +kernel
theorem dX0_lowerTimers_38 : decode cX0_lowerTimers 38 = .ok (.return_, 1) := by decide +kernel
theorem dX0_lowerOwnTimer_0 : decode cX0_lowerOwnTimer 0 = .ok (.aload_n 0, 1) := by decide +kernel
theorem dX0_lowerOwnTimer_1 : decode cX0_lowerOwnTimer 1 = .ok (.aload_n 0, 1) := by decide +kernel
theorem dX0_lowerOwnTimer_2 : decode cX0_lowerOwnTimer 2 = .ok (.getfield 38, 3) := by decide +kernel
theorem dX0_lowerOwnTimer_5 : decode cX0_lowerOwnTimer 5 = .ok (.iload_n 1, 1) := by decide +kernel
theorem dX0_lowerOwnTimer_6 : decode cX0_lowerOwnTimer 6 = .ok (.invokestatic 45, 3) := by decide +kernel
theorem dX0_lowerOwnTimer_9 : decode cX0_lowerOwnTimer 9 = .ok (.putfield 38, 3) := by decide +kernel
theorem dX0_lowerOwnTimer_12 : decode cX0_lowerOwnTimer 12 = .ok (.return_, 1) := by decide +kernel
theorem dX2_init_0 : decode cX2_init 0 = .ok (.aload_n 0, 1) := by decide +kernel
theorem dX2_init_1 : decode cX2_init 1 = .ok (.invokespecial 3, 3) := by decide +kernel
theorem dX2_init_4 : decode cX2_init 4 = .ok (.aload_n 0, 1) := by decide +kernel
theorem dX2_init_5 : decode cX2_init 5 = .ok (.bipush 8, 2) := by decide +kernel
theorem dX2_init_7 : decode cX2_init 7 = .ok (.newarray .int, 2) := by decide +kernel
theorem dX2_init_9 : decode cX2_init 9 = .ok (.putfield 9, 3) := by decide +kernel
theorem dX2_init_12 : decode cX2_init 12 = .ok (.aload_n 0, 1) := by decide +kernel
theorem dX2_init_13 : decode cX2_init 13 = .ok (.bipush 8, 2) := by decide +kernel
theorem dX2_init_15 : decode cX2_init 15 = .ok (.newarray .boolean, 2) := by decide +kernel
theorem dX2_init_17 : decode cX2_init 17 = .ok (.putfield 15, 3) := by decide +kernel
theorem dX2_init_20 : decode cX2_init 20 = .ok (.return_, 1) := by decide +kernel
theorem dX2_reset_0 : decode cX2_reset 0 = .ok (.iconst 0, 1) := by decide +kernel
theorem dX2_reset_1 : decode cX2_reset 1 = .ok (.istore_n 1, 1) := by decide +kernel
theorem dX2_reset_2 : decode cX2_reset 2 = .ok (.iload_n 1, 1) := by decide +kernel
theorem dX2_reset_3 : decode cX2_reset 3 = .ok (.bipush 8, 2) := by decide +kernel
theorem dX2_reset_5 : decode cX2_reset 5 = .ok (.if_icmp .ge 23, 3) := by decide +kernel
theorem dX2_reset_8 : decode cX2_reset 8 = .ok (.aload_n 0, 1) := by decide +kernel
theorem dX2_reset_9 : decode cX2_reset 9 = .ok (.getfield 9, 3) := by decide +kernel
theorem dX2_reset_12 : decode cX2_reset 12 = .ok (.iload_n 1, 1) := by decide +kernel
theorem dX2_reset_13 : decode cX2_reset 13 = .ok (.iconst 0, 1) := by decide +kernel
theorem dX2_reset_14 : decode cX2_reset 14 = .ok (.iastore, 1) := by decide +kernel
theorem dX2_reset_15 : decode cX2_reset 15 = .ok (.aload_n 0, 1) := by decide +kernel
theorem dX2_reset_16 : decode cX2_reset 16 = .ok (.getfield 15, 3) := by decide +kernel
theorem dX2_reset_19 : decode cX2_reset 19 = .ok (.iload_n 1, 1) := by decide +kernel
theorem dX2_reset_20 : decode cX2_reset 20 = .ok (.iconst 0, 1) := by decide +kernel
theorem dX2_reset_21 : decode cX2_reset 21 = .ok (.bastore, 1) := by decide +kernel
theorem dX2_reset_22 : decode cX2_reset 22 = .ok (.iinc 1 1, 3) := by decide +kernel
theorem dX2_reset_25 : decode cX2_reset 25 = .ok (.goto (-23), 3) := by decide +kernel
theorem dX2_reset_28 : decode cX2_reset 28 = .ok (.return_, 1) := by decide +kernel
theorem dX2_wants_0 : decode cX2_wants 0 = .ok (.aload_n 0, 1) := by decide +kernel
theorem dX2_wants_1 : decode cX2_wants 1 = .ok (.getfield 9, 3) := by decide +kernel
theorem dX2_wants_4 : decode cX2_wants 4 = .ok (.iload_n 1, 1) := by decide +kernel
theorem dX2_wants_5 : decode cX2_wants 5 = .ok (.iaload, 1) := by decide +kernel
theorem dX2_wants_6 : decode cX2_wants 6 = .ok (.iload_n 2, 1) := by decide +kernel
theorem dX2_wants_7 : decode cX2_wants 7 = .ok (.invokestatic 19, 3) := by decide +kernel
theorem dX2_wants_10 : decode cX2_wants 10 = .ok (.aload_n 0, 1) := by decide +kernel
theorem dX2_wants_11 : decode cX2_wants 11 = .ok (.getfield 15, 3) := by decide +kernel
theorem dX2_wants_14 : decode cX2_wants 14 = .ok (.iload_n 1, 1) := by decide +kernel
theorem dX2_wants_15 : decode cX2_wants 15 = .ok (.baload, 1) := by decide +kernel
theorem dX2_wants_16 : decode cX2_wants 16 = .ok (.if_icmp .eq 7, 3) := by decide +kernel
theorem dX2_wants_19 : decode cX2_wants 19 = .ok (.iconst 1, 1) := by decide +kernel
theorem dX2_wants_20 : decode cX2_wants 20 = .ok (.goto 4, 3) := by decide +kernel
theorem dX2_wants_23 : decode cX2_wants 23 = .ok (.iconst 0, 1) := by decide +kernel
theorem dX2_wants_24 : decode cX2_wants 24 = .ok (.ireturn, 1) := by decide +kernel
theorem dX3_init_0 : decode cX3_init 0 = .ok (.aload_n 0, 1) := by decide +kernel
theorem dX3_init_1 : decode cX3_init 1 = .ok (.invokespecial 3, 3) := by decide +kernel
theorem dX3_init_4 : decode cX3_init 4 = .ok (.aload_n 0, 1) := by decide +kernel
theorem dX3_init_5 : decode cX3_init 5 = .ok (.bipush 40, 2) := by decide +kernel
theorem dX3_init_7 : decode cX3_init 7 = .ok (.newarray .int, 2) := by decide +kernel
theorem dX3_init_9 : decode cX3_init 9 = .ok (.putfield 9, 3) := by decide +kernel
theorem dX3_init_12 : decode cX3_init 12 = .ok (.aload_n 0, 1) := by decide +kernel
theorem dX3_init_13 : decode cX3_init 13 = .ok (.bipush 40, 2) := by decide +kernel
theorem dX3_init_15 : decode cX3_init 15 = .ok (.newarray .int, 2) := by decide +kernel
theorem dX3_init_17 : decode cX3_init 17 = .ok (.putfield 15, 3) := by decide +kernel
theorem dX3_init_20 : decode cX3_init 20 = .ok (.aload_n 0, 1) := by decide +kernel
theorem dX3_init_21 : decode cX3_init 21 = .ok (.bipush 40, 2) := by decide +kernel
theorem dX3_init_23 : decode cX3_init 23 = .ok (.newarray .int, 2) := by decide +kernel
theorem dX3_init_25 : decode cX3_init 25 = .ok (.putfield 18, 3) := by decide +kernel
theorem dX3_init_28 : decode cX3_init 28 = .ok (.aload_n 0, 1) := by decide +kernel
theorem dX3_init_29 : decode cX3_init 29 = .ok (.bipush 40, 2) := by decide +kernel
theorem dX3_init_31 : decode cX3_init 31 = .ok (.newarray .int, 2) := by decide +kernel
theorem dX3_init_33 : decode cX3_init 33 = .ok (.putfield 21, 3) := by decide +kernel
theorem dX3_init_36 : decode cX3_init 36 = .ok (.return_, 1) := by decide +kernel
theorem dX3_reset_0 : decode cX3_reset 0 = .ok (.aload_n 0, 1) := by decide +kernel
theorem dX3_reset_1 : decode cX3_reset 1 = .ok (.iconst 0, 1) := by decide +kernel
theorem dX3_reset_2 : decode cX3_reset 2 = .ok (.putfield 24, 3) := by decide +kernel
theorem dX3_reset_5 : decode cX3_reset 5 = .ok (.aload_n 0, 1) := by decide +kernel
theorem dX3_reset_6 : decode cX3_reset 6 = .ok (.iconst 0, 1) := by decide +kernel
theorem dX3_reset_7 : decode cX3_reset 7 = .ok (.putfield 28, 3) := by decide +kernel
theorem dX3_reset_10 : decode cX3_reset 10 = .ok (.return_, 1) := by decide +kernel
theorem dX3_add_0 : decode cX3_add 0 = .ok (.aload_n 0, 1) := by decide +kernel
theorem dX3_add_1 : decode cX3_add 1 = .ok (.getfield 24, 3) := by decide +kernel
theorem dX3_add_4 : decode cX3_add 4 = .ok (.bipush 40, 2) := by decide +kernel
theorem dX3_add_6 : decode cX3_add 6 = .ok (.invokestatic 31, 3) := by decide +kernel
theorem dX3_add_9 : decode cX3_add 9 = .ok (.istore 4, 2) := by decide +kernel
theorem dX3_add_11 : decode cX3_add 11 = .ok (.aload_n 0, 1) := by decide +kernel
theorem dX3_add_12 : decode cX3_add 12 = .ok (.getfield 9, 3) := by decide +kernel
theorem dX3_add_15 : decode cX3_add 15 = .ok (.iload 4, 2) := by decide +kernel
theorem dX3_add_17 : decode cX3_add 17 = .ok (.iload_n 1, 1) := by decide +kernel
theorem dX3_add_18 : decode cX3_add 18 = .ok (.iastore, 1) := by decide +kernel
theorem dX3_add_19 : decode cX3_add 19 = .ok (.aload_n 0, 1) := by decide +kernel
theorem dX3_add_20 : decode cX3_add 20 = .ok (.getfield 15, 3) := by decide +kernel
theorem dX3_add_23 : decode cX3_add 23 = .ok (.iload 4, 2) := by decide +kernel
theorem dX3_add_25 : decode cX3_add 25 = .ok (.iload_n 2, 1) := by decide +kernel
theorem dX3_add_26 : decode cX3_add 26 = .ok (.iastore, 1) := by decide +kernel
theorem dX3_add_27 : decode cX3_add 27 = .ok (.aload_n 0, 1) := by decide +kernel
theorem dX3_add_28 : decode cX3_add 28 = .ok (.getfield 18, 3) := by decide +kernel
theorem dX3_add_31 : decode cX3_add 31 = .ok (.iload 4, 2) := by decide +kernel
theorem dX3_add_33 : decode cX3_add 33 = .ok (.iload_n 3, 1) := by decide +kernel
theorem dX3_add_34 : decode cX3_add 34 = .ok (.iastore, 1) := by decide +kernel
theorem dX3_add_35 : decode cX3_add 35 = .ok (.aload_n 0, 1) := by decide +kernel
theorem dX3_add_36 : decode cX3_add 36 = .ok (.getfield 21, 3) := by decide +kernel
theorem dX3_add_39 : decode cX3_add 39 = .ok (.iload 4, 2) := by decide +kernel
theorem dX3_add_41 : decode cX3_add 41 = .ok (.aload_n 0, 1) := by decide +kernel
theorem dX3_add_42 : decode cX3_add 42 = .ok (.getfield 28, 3) := by decide +kernel
theorem dX3_add_45 : decode cX3_add 45 = .ok (.iastore, 1) := by decide +kernel
theorem dX3_add_46 : decode cX3_add 46 = .ok (.aload_n 0, 1) := by decide +kernel
theorem dX3_add_47 : decode cX3_add 47 = .ok (.dup, 1) := by decide +kernel
theorem dX3_add_48 : decode cX3_add 48 = .ok (.getfield 24, 3) := by decide +kernel
theorem dX3_add_51 : decode cX3_add 51 = .ok (.iconst 1, 1) := by decide +kernel
theorem dX3_add_52 : decode cX3_add 52 = .ok (.iadd, 1) := by decide +kernel
theorem dX3_add_53 : decode cX3_add 53 = .ok (.putfield 24, 3) := by decide +kernel
theorem dX3_add_56 : decode cX3_add 56 = .ok (.return_, 1) := by decide +kernel
theorem dX3_look_0 : decode cX3_look 0 = .ok (.aload_n 0, 1) := by decide +kernel
theorem dX3_look_1 : decode cX3_look 1 = .ok (.getfield 24, 3) := by decide +kernel
theorem dX3_look_4 : decode cX3_look 4 = .ok (.iconst 1, 1) := by decide +kernel
theorem dX3_look_5 : decode cX3_look 5 = .ok (.isub, 1) := by decide +kernel
theorem dX3_look_6 : decode cX3_look 6 = .ok (.iload_n 1, 1) := by decide +kernel
theorem dX3_look_7 : decode cX3_look 7 = .ok (.isub, 1) := by decide +kernel
theorem dX3_look_8 : decode cX3_look 8 = .ok (.bipush 40, 2) := by decide +kernel
theorem dX3_look_10 : decode cX3_look 10 = .ok (.invokestatic 31, 3) := by decide +kernel
theorem dX3_look_13 : decode cX3_look 13 = .ok (.istore_n 3, 1) := by decide +kernel
theorem dX3_look_14 : decode cX3_look 14 = .ok (.iload_n 2, 1) := by decide +kernel
theorem dX3_look_15 : decode cX3_look 15 = .ok (.tableswitch 46 0 2 #[25, 32, 39], 25) := by decide +kernel
theorem dX3_look_40 : decode cX3_look 40 = .ok (.aload_n 0, 1) := by decide +kernel
theorem dX3_look_41 : decode cX3_look 41 = .ok (.getfield 9, 3) := by decide +kernel
theorem dX3_look_44 : decode cX3_look 44 = .ok (.iload_n 3, 1) := by decide +kernel
theorem dX3_look_45 : decode cX3_look 45 = .ok (.iaload, 1) := by decide +kernel
theorem dX3_look_46 : decode cX3_look 46 = .ok (.ireturn, 1) := by decide +kernel
theorem dX3_look_47 : decode cX3_look 47 = .ok (.aload_n 0, 1) := by decide +kernel
theorem dX3_look_48 : decode cX3_look 48 = .ok (.getfield 15, 3) := by decide +kernel
theorem dX3_look_51 : decode cX3_look 51 = .ok (.iload_n 3, 1) := by decide +kernel
theorem dX3_look_52 : decode cX3_look 52 = .ok (.iaload, 1) := by decide +kernel
theorem dX3_look_53 : decode cX3_look 53 = .ok (.ireturn, 1) := by decide +kernel
theorem dX3_look_54 : decode cX3_look 54 = .ok (.aload_n 0, 1) := by decide +kernel
theorem dX3_look_55 : decode cX3_look 55 = .ok (.getfield 18, 3) := by decide +kernel
theorem dX3_look_58 : decode cX3_look 58 = .ok (.iload_n 3, 1) := by decide +kernel
theorem dX3_look_59 : decode cX3_look 59 = .ok (.iaload, 1) := by decide +kernel
theorem dX3_look_60 : decode cX3_look 60 = .ok (.ireturn, 1) := by decide +kernel
theorem dX3_look_61 : decode cX3_look 61 = .ok (.aload_n 0, 1) := by decide +kernel
theorem dX3_look_62 : decode cX3_look 62 = .ok (.getfield 21, 3) := by decide +kernel
theorem dX3_look_65 : decode cX3_look 65 = .ok (.iload_n 3, 1) := by decide +kernel
theorem dX3_look_66 : decode cX3_look 66 = .ok (.iaload, 1) := by decide +kernel
theorem dX3_look_67 : decode cX3_look 67 = .ok (.ireturn, 1) := by decide +kernel
theorem dJ9_floorMod_7cf53_0 : decode cJ9_floorMod_7cf53 0 = .ok (.iload_n 0, 1) := by decide +kernel
theorem dJ9_floorMod_7cf53_1 : decode cJ9_floorMod_7cf53 1 = .ok (.iload_n 1, 1) := by decide +kernel
theorem dJ9_floorMod_7cf53_2 : decode cJ9_floorMod_7cf53 2 = .ok (.irem, 1) := by decide +kernel
theorem dJ9_floorMod_7cf53_3 : decode cJ9_floorMod_7cf53 3 = .ok (.istore_n 2, 1) := by decide +kernel
theorem dJ9_floorMod_7cf53_4 : decode cJ9_floorMod_7cf53 4 = .ok (.iload_n 0, 1) := by decide +kernel
theorem dJ9_floorMod_7cf53_5 : decode cJ9_floorMod_7cf53 5 = .ok (.iload_n 1, 1) := by decide +kernel
theorem dJ9_floorMod_7cf53_6 : decode cJ9_floorMod_7cf53 6 = .ok (.ixor, 1) := by decide +kernel
theorem dJ9_floorMod_7cf53_7 : decode cJ9_floorMod_7cf53 7 = .ok (.ifCond .ge 11, 3) := by decide +kernel
theorem dJ9_floorMod_7cf53_10 : decode cJ9_floorMod_7cf53 10 = .ok (.iload_n 2, 1) := by decide +kernel
theorem dJ9_floorMod_7cf53_11 : decode cJ9_floorMod_7cf53 11 = .ok (.ifCond .eq 7, 3) := by decide +kernel
theorem dJ9_floorMod_7cf53_14 : decode cJ9_floorMod_7cf53 14 = .ok (.iload_n 2, 1) := by decide +kernel
theorem dJ9_floorMod_7cf53_15 : decode cJ9_floorMod_7cf53 15 = .ok (.iload_n 1, 1) := by decide +kernel
theorem dJ9_floorMod_7cf53_16 : decode cJ9_floorMod_7cf53 16 = .ok (.iadd, 1) := by decide +kernel
theorem dJ9_floorMod_7cf53_17 : decode cJ9_floorMod_7cf53 17 = .ok (.ireturn, 1) := by decide +kernel
theorem dJ9_floorMod_7cf53_18 : decode cJ9_floorMod_7cf53 18 = .ok (.iload_n 2, 1) := by decide +kernel
theorem dJ9_floorMod_7cf53_19 : decode cJ9_floorMod_7cf53 19 = .ok (.ireturn, 1) := by decide +kernel
theorem dJ9_max_7cf53_0 : decode cJ9_max_7cf53 0 = .ok (.iload_n 0, 1) := by decide +kernel
theorem dJ9_max_7cf53_1 : decode cJ9_max_7cf53 1 = .ok (.iload_n 1, 1) := by decide +kernel
theorem dJ9_max_7cf53_2 : decode cJ9_max_7cf53 2 = .ok (.if_icmp .lt 7, 3) := by decide +kernel
theorem dJ9_max_7cf53_5 : decode cJ9_max_7cf53 5 = .ok (.iload_n 0, 1) := by decide +kernel
theorem dJ9_max_7cf53_6 : decode cJ9_max_7cf53 6 = .ok (.goto 4, 3) := by decide +kernel
theorem dJ9_max_7cf53_9 : decode cJ9_max_7cf53 9 = .ok (.iload_n 1, 1) := by decide +kernel
theorem dJ9_max_7cf53_10 : decode cJ9_max_7cf53 10 = .ok (.ireturn, 1) := by decide +kernel
theorem dJ9_min_7cf53_0 : decode cJ9_min_7cf53 0 = .ok (.iload_n 0, 1) := by decide +kernel
theorem dJ9_min_7cf53_1 : decode cJ9_min_7cf53 1 = .ok (.iload_n 1, 1) := by decide +kernel
theorem dJ9_min_7cf53_2 : decode cJ9_min_7cf53 2 = .ok (.if_icmp .gt 7, 3) := by decide +kernel
theorem dJ9_min_7cf53_5 : decode cJ9_min_7cf53 5 = .ok (.iload_n 0, 1) := by decide +kernel
theorem dJ9_min_7cf53_6 : decode cJ9_min_7cf53 6 = .ok (.goto 4, 3) := by decide +kernel
theorem dJ9_min_7cf53_9 : decode cJ9_min_7cf53 9 = .ok (.iload_n 1, 1) := by decide +kernel
theorem dJ9_min_7cf53_10 : decode cJ9_min_7cf53 10 = .ok (.ireturn, 1) := by decide +kernel
