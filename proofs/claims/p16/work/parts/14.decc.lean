theorem dX4_init_0 : decode cX4_init 0 = .ok (.aload_n 0, 1) := by decide +kernel
theorem dX4_init_1 : decode cX4_init 1 = .ok (.invokespecial 1, 3) := by decide +kernel
theorem dX4_init_4 : decode cX4_init 4 = .ok (.iconst 1, 1) := by decide +kernel
theorem dX4_init_5 : decode cX4_init 5 = .ok (.iload_n 1, 1) := by decide +kernel
theorem dX4_init_6 : decode cX4_init 6 = .ok (.iconst 4, 1) := by decide +kernel
theorem dX4_init_7 : decode cX4_init 7 = .ok (.invokestatic 9, 3) := by decide +kernel
theorem dX4_init_10 : decode cX4_init 10 = .ok (.invokestatic 15, 3) := by decide +kernel
theorem dX4_init_13 : decode cX4_init 13 = .ok (.istore_n 2, 1) := by decide +kernel
theorem dX4_init_14 : decode cX4_init 14 = .ok (.aload_n 0, 1) := by decide +kernel
theorem dX4_init_15 : decode cX4_init 15 = .ok (.iload_n 2, 1) := by decide +kernel
theorem dX4_init_16 : decode cX4_init 16 = .ok (.anewarray 18, 3) := by decide +kernel
theorem dX4_init_19 : decode cX4_init 19 = .ok (.putfield 20, 3) := by decide +kernel
theorem dX4_init_22 : decode cX4_init 22 = .ok (.iconst 0, 1) := by decide +kernel
theorem dX4_init_23 : decode cX4_init 23 = .ok (.istore_n 3, 1) := by decide +kernel
theorem dX4_init_24 : decode cX4_init 24 = .ok (.iload_n 3, 1) := by decide +kernel
theorem dX4_init_25 : decode cX4_init 25 = .ok (.iload_n 2, 1) := by decide +kernel
theorem dX4_init_26 : decode cX4_init 26 = .ok (.if_icmp .ge 23, 3) := by decide +kernel
theorem dX4_init_29 : decode cX4_init 29 = .ok (.aload_n 0, 1) := by decide +kernel
theorem dX4_init_30 : decode cX4_init 30 = .ok (.getfield 20, 3) := by decide +kernel
theorem dX4_init_33 : decode cX4_init 33 = .ok (.iload_n 3, 1) := by decide +kernel
theorem dX4_init_34 : decode cX4_init 34 = .ok (.new 18, 3) := by decide +kernel
theorem dX4_init_37 : decode cX4_init 37 = .ok (.dup, 1) := by decide +kernel
theorem dX4_init_38 : decode cX4_init 38 = .ok (.iload_n 3, 1) := by decide +kernel
theorem dX4_init_39 : decode cX4_init 39 = .ok (.invokespecial 24, 3) := by decide +kernel
theorem dX4_init_42 : decode cX4_init 42 = .ok (.aastore, 1) := by decide +kernel
theorem dX4_init_43 : decode cX4_init 43 = .ok (.iinc 3 1, 3) := by decide +kernel
theorem dX4_init_46 : decode cX4_init 46 = .ok (.goto (-22), 3) := by decide +kernel
theorem dX4_init_49 : decode cX4_init 49 = .ok (.aload_n 0, 1) := by decide +kernel
theorem dX4_init_50 : decode cX4_init 50 = .ok (.new 27, 3) := by decide +kernel
theorem dX4_init_53 : decode cX4_init 53 = .ok (.dup, 1) := by decide +kernel
theorem dX4_init_54 : decode cX4_init 54 = .ok (.invokespecial 29, 3) := by decide +kernel
theorem dX4_init_57 : decode cX4_init 57 = .ok (.putfield 30, 3) := by decide +kernel
theorem dX4_init_60 : decode cX4_init 60 = .ok (.return_, 1) := by decide +kernel
theorem dX4_settings_0 : decode cX4_settings 0 = .ok (.iload_n 1, 1) := by decide +kernel
theorem dX4_settings_1 : decode cX4_settings 1 = .ok (.aload_n 0, 1) := by decide +kernel
theorem dX4_settings_2 : decode cX4_settings 2 = .ok (.getfield 20, 3) := by decide +kernel
theorem dX4_settings_5 : decode cX4_settings 5 = .ok (.arraylength, 1) := by decide +kernel
theorem dX4_settings_6 : decode cX4_settings 6 = .ok (.invokestatic 34, 3) := by decide +kernel
theorem dX4_settings_9 : decode cX4_settings 9 = .ok (.iload_n 2, 1) := by decide +kernel
theorem dX4_settings_10 : decode cX4_settings 10 = .ok (.iconst 1, 1) := by decide +kernel
theorem dX4_settings_11 : decode cX4_settings 11 = .ok (.bipush 7, 2) := by decide +kernel
theorem dX4_settings_13 : decode cX4_settings 13 = .ok (.invokestatic 38, 3) := by decide +kernel
theorem dX4_settings_16 : decode cX4_settings 16 = .ok (.iload_n 3, 1) := by decide +kernel
theorem dX4_settings_17 : decode cX4_settings 17 = .ok (.iconst 1, 1) := by decide +kernel
theorem dX4_settings_18 : decode cX4_settings 18 = .ok (.sipush 200, 3) := by decide +kernel
theorem dX4_settings_21 : decode cX4_settings 21 = .ok (.invokestatic 38, 3) := by decide +kernel
theorem dX4_settings_24 : decode cX4_settings 24 = .ok (.iload 4, 2) := by decide +kernel
theorem dX4_settings_26 : decode cX4_settings 26 = .ok (.iconst 1, 1) := by decide +kernel
theorem dX4_settings_27 : decode cX4_settings 27 = .ok (.iload_n 3, 1) := by decide +kernel
theorem dX4_settings_28 : decode cX4_settings 28 = .ok (.invokestatic 38, 3) := by decide +kernel
theorem dX4_settings_31 : decode cX4_settings 31 = .ok (.aload_n 0, 1) := by decide +kernel
theorem dX4_settings_32 : decode cX4_settings 32 = .ok (.getfield 20, 3) := by decide +kernel
theorem dX4_settings_35 : decode cX4_settings 35 = .ok (.iload_n 1, 1) := by decide +kernel
theorem dX4_settings_36 : decode cX4_settings 36 = .ok (.aaload, 1) := by decide +kernel
theorem dX4_settings_37 : decode cX4_settings 37 = .ok (.iload_n 2, 1) := by decide +kernel
theorem dX4_settings_38 : decode cX4_settings 38 = .ok (.iload_n 3, 1) := by decide +kernel
theorem dX4_settings_39 : decode cX4_settings 39 = .ok (.iload 4, 2) := by decide +kernel
theorem dX4_settings_41 : decode cX4_settings 41 = .ok (.invokevirtual 42, 3) := by decide +kernel
theorem dX4_settings_44 : decode cX4_settings 44 = .ok (.aload_n 0, 1) := by decide +kernel
theorem dX4_settings_45 : decode cX4_settings 45 = .ok (.getfield 20, 3) := by decide +kernel
theorem dX4_settings_48 : decode cX4_settings 48 = .ok (.iload_n 1, 1) := by decide +kernel
theorem dX4_settings_49 : decode cX4_settings 49 = .ok (.aaload, 1) := by decide +kernel
theorem dX4_settings_50 : decode cX4_settings 50 = .ok (.invokevirtual 45, 3) := by decide +kernel
theorem dX4_settings_53 : decode cX4_settings 53 = .ok (.ireturn, 1) := by decide +kernel
theorem dX4_report_0 : decode cX4_report 0 = .ok (.iload_n 1, 1) := by decide +kernel
theorem dX4_report_1 : decode cX4_report 1 = .ok (.aload_n 0, 1) := by decide +kernel
theorem dX4_report_2 : decode cX4_report 2 = .ok (.getfield 20, 3) := by decide +kernel
theorem dX4_report_5 : decode cX4_report 5 = .ok (.arraylength, 1) := by decide +kernel
theorem dX4_report_6 : decode cX4_report 6 = .ok (.invokestatic 34, 3) := by decide +kernel
theorem dX4_report_9 : decode cX4_report 9 = .ok (.iload_n 2, 1) := by decide +kernel
theorem dX4_report_10 : decode cX4_report 10 = .ok (.bipush 8, 2) := by decide +kernel
theorem dX4_report_12 : decode cX4_report 12 = .ok (.invokestatic 34, 3) := by decide +kernel
theorem dX4_report_15 : decode cX4_report 15 = .ok (.iload_n 3, 1) := by decide +kernel
theorem dX4_report_16 : decode cX4_report 16 = .ok (.iconst 0, 1) := by decide +kernel
theorem dX4_report_17 : decode cX4_report 17 = .ok (.iconst 5, 1) := by decide +kernel
theorem dX4_report_18 : decode cX4_report 18 = .ok (.invokestatic 38, 3) := by decide +kernel
theorem dX4_report_21 : decode cX4_report 21 = .ok (.iload 4, 2) := by decide +kernel
theorem dX4_report_23 : decode cX4_report 23 = .ok (.iconst 0, 1) := by decide +kernel
theorem dX4_report_24 : decode cX4_report 24 = .ok (.ldc 49, 2) := by decide +kernel
theorem dX4_report_26 : decode cX4_report 26 = .ok (.invokestatic 38, 3) := by decide +kernel
theorem dX4_report_29 : decode cX4_report 29 = .ok (.aload_n 0, 1) := by decide +kernel
theorem dX4_report_30 : decode cX4_report 30 = .ok (.getfield 30, 3) := by decide +kernel
theorem dX4_report_33 : decode cX4_report 33 = .ok (.getfield 50, 3) := by decide +kernel
theorem dX4_report_36 : decode cX4_report 36 = .ok (.istore 5, 2) := by decide +kernel
theorem dX4_report_38 : decode cX4_report 38 = .ok (.aload_n 0, 1) := by decide +kernel
theorem dX4_report_39 : decode cX4_report 39 = .ok (.getfield 20, 3) := by decide +kernel
theorem dX4_report_42 : decode cX4_report 42 = .ok (.iload_n 1, 1) := by decide +kernel
theorem dX4_report_43 : decode cX4_report 43 = .ok (.aaload, 1) := by decide +kernel
theorem dX4_report_44 : decode cX4_report 44 = .ok (.aload_n 0, 1) := by decide +kernel
theorem dX4_report_45 : decode cX4_report 45 = .ok (.getfield 30, 3) := by decide +kernel
theorem dX4_report_48 : decode cX4_report 48 = .ok (.iload_n 2, 1) := by decide +kernel
theorem dX4_report_49 : decode cX4_report 49 = .ok (.iload_n 3, 1) := by decide +kernel
theorem dX4_report_50 : decode cX4_report 50 = .ok (.iload 4, 2) := by decide +kernel
theorem dX4_report_52 : decode cX4_report 52 = .ok (.invokevirtual 54, 3) := by decide +kernel
theorem dX4_report_55 : decode cX4_report 55 = .ok (.aload_n 0, 1) := by decide +kernel
theorem dX4_report_56 : decode cX4_report 56 = .ok (.getfield 30, 3) := by decide +kernel
theorem dX4_report_59 : decode cX4_report 59 = .ok (.getfield 50, 3) := by decide +kernel
theorem dX4_report_62 : decode cX4_report 62 = .ok (.iload 5, 2) := by decide +kernel
theorem dX4_report_64 : decode cX4_report 64 = .ok (.isub, 1) := by decide +kernel
theorem dX4_report_65 : decode cX4_report 65 = .ok (.ireturn, 1) := by decide +kernel
theorem dX4_query_0 : decode cX4_query 0 = .ok (.iload_n 1, 1) := by decide +kernel
theorem dX4_query_1 : decode cX4_query 1 = .ok (.aload_n 0, 1) := by decide +kernel
theorem dX4_query_2 : decode cX4_query 2 = .ok (.getfield 20, 3) := by decide +kernel
theorem dX4_query_5 : decode cX4_query 5 = .ok (.arraylength, 1) := by decide +kernel
theorem dX4_query_6 : decode cX4_query 6 = .ok (.invokestatic 34, 3) := by decide +kernel
theorem dX4_query_9 : decode cX4_query 9 = .ok (.iload_n 2, 1) := by decide +kernel
theorem dX4_query_10 : decode cX4_query 10 = .ok (.iconst 0, 1) := by decide +kernel
theorem dX4_query_11 : decode cX4_query 11 = .ok (.sipush 999, 3) := by decide +kernel
theorem dX4_query_14 : decode cX4_query 14 = .ok (.invokestatic 38, 3) := by decide +kernel
theorem dX4_query_17 : decode cX4_query 17 = .ok (.iload_n 3, 1) := by decide +kernel
theorem dX4_query_18 : decode cX4_query 18 = .ok (.iconst (-1), 1) := by decide +kernel
theorem dX4_query_19 : decode cX4_query 19 = .ok (.if_icmp .eq 9, 3) := by decide +kernel
theorem dX4_query_22 : decode cX4_query 22 = .ok (.iload_n 3, 1) := by decide +kernel
theorem dX4_query_23 : decode cX4_query 23 = .ok (.bipush 8, 2) := by decide +kernel
theorem dX4_query_25 : decode cX4_query 25 = .ok (.invokestatic 34, 3) := by decide +kernel
theorem dX4_query_28 : decode cX4_query 28 = .ok (.iload 4, 2) := by decide +kernel
theorem dX4_query_30 : decode cX4_query 30 = .ok (.iconst 0, 1) := by decide +kernel
theorem dX4_query_31 : decode cX4_query 31 = .ok (.ldc 49, 2) := by decide +kernel
theorem dX4_query_33 : decode cX4_query 33 = .ok (.invokestatic 38, 3) := by decide +kernel
theorem dX4_query_36 : decode cX4_query 36 = .ok (.iload_n 2, 1) := by decide +kernel
theorem dX4_query_37 : decode cX4_query 37 = .ok (.sipush 500, 3) := by decide +kernel
theorem dX4_query_40 : decode cX4_query 40 = .ok (.if_icmp .ge 35, 3) := by decide +kernel
theorem dX4_query_43 : decode cX4_query 43 = .ok (.aload_n 0, 1) := by decide +kernel
theorem dX4_query_44 : decode cX4_query 44 = .ok (.getfield 20, 3) := by decide +kernel
theorem dX4_query_47 : decode cX4_query 47 = .ok (.iload_n 1, 1) := by decide +kernel
theorem dX4_query_48 : decode cX4_query 48 = .ok (.aaload, 1) := by decide +kernel
theorem dX4_query_49 : decode cX4_query 49 = .ok (.iload_n 2, 1) := by decide +kernel
theorem dX4_query_50 : decode cX4_query 50 = .ok (.invokevirtual 58, 3) := by decide +kernel
theorem dX4_query_53 : decode cX4_query 53 = .ok (.iload_n 3, 1) := by decide +kernel
theorem dX4_query_54 : decode cX4_query 54 = .ok (.iconst (-1), 1) := by decide +kernel
theorem dX4_query_55 : decode cX4_query 55 = .ok (.if_icmp .eq 20, 3) := by decide +kernel
theorem dX4_query_58 : decode cX4_query 58 = .ok (.iload 5, 2) := by decide +kernel
theorem dX4_query_60 : decode cX4_query 60 = .ok (.ifCond .ne 15, 3) := by decide +kernel
theorem dX4_query_63 : decode cX4_query 63 = .ok (.aload_n 0, 1) := by decide +kernel
theorem dX4_query_64 : decode cX4_query 64 = .ok (.getfield 20, 3) := by decide +kernel
theorem dX4_query_67 : decode cX4_query 67 = .ok (.iload_n 1, 1) := by decide +kernel
theorem dX4_query_68 : decode cX4_query 68 = .ok (.aaload, 1) := by decide +kernel
theorem dX4_query_69 : decode cX4_query 69 = .ok (.iload_n 3, 1) := by decide +kernel
theorem dX4_query_70 : decode cX4_query 70 = .ok (.iload 4, 2) := by decide +kernel
theorem dX4_query_72 : decode cX4_query 72 = .ok (.invokevirtual 61, 3) := by decide +kernel
theorem dX4_query_75 : decode cX4_query 75 = .ok (.aload_n 0, 1) := by decide +kernel
theorem dX4_query_76 : decode cX4_query 76 = .ok (.getfield 20, 3) := by decide +kernel
theorem dX4_query_79 : decode cX4_query 79 = .ok (.iload_n 1, 1) := by decide +kernel
theorem dX4_query_80 : decode cX4_query 80 = .ok (.aaload, 1) := by decide +kernel
theorem dX4_query_81 : decode cX4_query 81 = .ok (.invokevirtual 64, 3) := by decide +kernel
theorem dX4_query_84 : decode cX4_query 84 = .ok (.ireturn, 1) := by decide +kernel
theorem dX4_tick_0 : decode cX4_tick 0 = .ok (.iload_n 1, 1) := by decide +kernel
theorem dX4_tick_1 : decode cX4_tick 1 = .ok (.iconst 0, 1) := by decide +kernel
theorem dX4_tick_2 : decode cX4_tick 2 = .ok (.sipush 2000, 3) := by decide +kernel
theorem dX4_tick_5 : decode cX4_tick 5 = .ok (.invokestatic 38, 3) := by decide +kernel
theorem dX4_tick_8 : decode cX4_tick 8 = .ok (.aload_n 0, 1) := by decide +kernel
theorem dX4_tick_9 : decode cX4_tick 9 = .ok (.getfield 30, 3) := by decide +kernel
theorem dX4_tick_12 : decode cX4_tick 12 = .ok (.getfield 50, 3) := by decide +kernel
theorem dX4_tick_15 : decode cX4_tick 15 = .ok (.istore_n 2, 1) := by decide +kernel
theorem dX4_tick_16 : decode cX4_tick 16 = .ok (.iconst 0, 1) := by decide +kernel
theorem dX4_tick_17 : decode cX4_tick 17 = .ok (.istore_n 3, 1) := by decide +kernel
theorem dX4_tick_18 : decode cX4_tick 18 = .ok (.iload_n 3, 1) := by decide +kernel
theorem dX4_tick_19 : decode cX4_tick 19 = .ok (.aload_n 0, 1) := by decide +kernel
theorem dX4_tick_20 : decode cX4_tick 20 = .ok (.getfield 20, 3) := by decide +kernel
theorem dX4_tick_23 : decode cX4_tick 23 = .ok (.arraylength, 1) := by decide +kernel
theorem dX4_tick_24 : decode cX4_tick 24 = .ok (.if_icmp .ge 19, 3) := by decide +kernel
theorem dX4_tick_27 : decode cX4_tick 27 = .ok (.aload_n 0, 1) := by decide +kernel
theorem dX4_tick_28 : decode cX4_tick 28 = .ok (.getfield 20, 3) := by decide +kernel
theorem dX4_tick_31 : decode cX4_tick 31 = .ok (.iload_n 3, 1) := by decide +kernel
theorem dX4_tick_32 : decode cX4_tick 32 = .ok (.aaload, 1) := by decide +kernel
theorem dX4_tick_33 : decode cX4_tick 33 = .ok (.iload_n 1, 1) := by decide +kernel
theorem dX4_tick_34 : decode cX4_tick 34 = .ok (.invokevirtual 68, 3) := by decide +kernel
theorem dX4_tick_37 : decode cX4_tick 37 = .ok (.iinc 3 1, 3) := by decide +kernel
theorem dX4_tick_40 : decode cX4_tick 40 = .ok (.goto (-22), 3) := by decide +kernel
theorem dX4_tick_43 : decode cX4_tick 43 = .ok (.aload_n 0, 1) := by decide +kernel
theorem dX4_tick_44 : decode cX4_tick 44 = .ok (.iload_n 1, 1) := by decide +kernel
theorem dX4_tick_45 : decode cX4_tick 45 = .ok (.invokevirtual 71, 3) := by decide +kernel
theorem dX4_tick_48 : decode cX4_tick 48 = .ok (.aload_n 0, 1) := by decide +kernel
theorem dX4_tick_49 : decode cX4_tick 49 = .ok (.getfield 30, 3) := by decide +kernel
theorem dX4_tick_52 : decode cX4_tick 52 = .ok (.getfield 50, 3) := by decide +kernel
theorem dX4_tick_55 : decode cX4_tick 55 = .ok (.iload_n 2, 1) := by decide +kernel
theorem dX4_tick_56 : decode cX4_tick 56 = .ok (.isub, 1) := by decide +kernel
theorem dX4_tick_57 : decode cX4_tick 57 = .ok (.ireturn, 1) := by decide +kernel
theorem dX4_member_0 : decode cX4_member 0 = .ok (.iload_n 1, 1) := by decide +kernel
theorem dX4_member_1 : decode cX4_member 1 = .ok (.aload_n 0, 1) := by decide +kernel
theorem dX4_member_2 : decode cX4_member 2 = .ok (.getfield 20, 3) := by decide +kernel
theorem dX4_member_5 : decode cX4_member 5 = .ok (.arraylength, 1) := by decide +kernel
theorem dX4_member_6 : decode cX4_member 6 = .ok (.invokestatic 34, 3) := by decide +kernel
theorem dX4_member_9 : decode cX4_member 9 = .ok (.iload_n 2, 1) := by decide +kernel
theorem dX4_member_10 : decode cX4_member 10 = .ok (.bipush 6, 2) := by decide +kernel
theorem dX4_member_12 : decode cX4_member 12 = .ok (.invokestatic 34, 3) := by decide +kernel
theorem dX4_member_15 : decode cX4_member 15 = .ok (.iload_n 3, 1) := by decide +kernel
theorem dX4_member_16 : decode cX4_member 16 = .ok (.bipush 8, 2) := by decide +kernel
theorem dX4_member_18 : decode cX4_member 18 = .ok (.invokestatic 34, 3) := by decide +kernel
theorem dX4_member_21 : decode cX4_member 21 = .ok (.iload 5, 2) := by decide +kernel
theorem dX4_member_23 : decode cX4_member 23 = .ok (.iconst 0, 1) := by decide +kernel
theorem dX4_member_24 : decode cX4_member 24 = .ok (.ldc 49, 2) := by decide +kernel
theorem dX4_member_26 : decode cX4_member 26 = .ok (.invokestatic 38, 3) := by decide +kernel
theorem dX4_member_29 : decode cX4_member 29 = .ok (.aload_n 0, 1) := by decide +kernel
theorem dX4_member_30 : decode cX4_member 30 = .ok (.getfield 30, 3) := by decide +kernel
theorem dX4_member_33 : decode cX4_member 33 = .ok (.getfield 50, 3) := by decide +kernel
theorem dX4_member_36 : decode cX4_member 36 = .ok (.istore 6, 2) := by decide +kernel
theorem dX4_member_38 : decode cX4_member 38 = .ok (.aload_n 0, 1) := by decide +kernel
theorem dX4_member_39 : decode cX4_member 39 = .ok (.getfield 20, 3) := by decide +kernel
theorem dX4_member_42 : decode cX4_member 42 = .ok (.iload_n 1, 1) := by decide +kernel
theorem dX4_member_43 : decode cX4_member 43 = .ok (.aaload, 1) := by decide +kernel
theorem dX4_member_44 : decode cX4_member 44 = .ok (.aload_n 0, 1) := by decide +kernel
theorem dX4_member_45 : decode cX4_member 45 = .ok (.getfield 30, 3) := by decide +kernel
theorem dX4_member_48 : decode cX4_member 48 = .ok (.iload_n 2, 1) := by decide +kernel
theorem dX4_member_49 : decode cX4_member 49 = .ok (.iload_n 3, 1) := by decide +kernel
theorem dX4_member_50 : decode cX4_member 50 = .ok (.iload 4, 2) := by decide +kernel
theorem dX4_member_52 : decode cX4_member 52 = .ok (.iload 5, 2) := by decide +kernel
theorem dX4_member_54 : decode cX4_member 54 = .ok (.invokevirtual 74, 3) := by decide +kernel
theorem dX4_member_57 : decode cX4_member 57 = .ok (.aload_n 0, 1) := by decide +kernel
theorem dX4_member_58 : decode cX4_member 58 = .ok (.getfield 30, 3) := by decide +kernel
theorem dX4_member_61 : decode cX4_member 61 = .ok (.getfield 50, 3) := by decide +kernel
theorem dX4_member_64 : decode cX4_member 64 = .ok (.iload 6, 2) := by decide +kernel
theorem dX4_member_66 : decode cX4_member 66 = .ok (.isub, 1) := by decide +kernel
theorem dX4_member_67 : decode cX4_member 67 = .ok (.ireturn, 1) := by decide +kernel
theorem dX4_answer_0 : decode cX4_answer 0 = .ok (.iload_n 1, 1) := by decide +kernel
theorem dX4_answer_1 : decode cX4_answer 1 = .ok (.aload_n 0, 1) := by decide +kernel
theorem dX4_answer_2 : decode cX4_answer 2 = .ok (.getfield 20, 3) := by decide +kernel
theorem dX4_answer_5 : decode cX4_answer 5 = .ok (.arraylength, 1) := by decide +kernel
theorem dX4_answer_6 : decode cX4_answer 6 = .ok (.invokestatic 34, 3) := by decide +kernel
theorem dX4_answer_9 : decode cX4_answer 9 = .ok (.iload_n 2, 1) := by decide +kernel
theorem dX4_answer_10 : decode cX4_answer 10 = .ok (.bipush 6, 2) := by decide +kernel
theorem dX4_answer_12 : decode cX4_answer 12 = .ok (.invokestatic 34, 3) := by decide +kernel
theorem dX4_answer_15 : decode cX4_answer 15 = .ok (.aload_n 0, 1) := by decide +kernel
theorem dX4_answer_16 : decode cX4_answer 16 = .ok (.getfield 20, 3) := by decide +kernel
theorem dX4_answer_19 : decode cX4_answer 19 = .ok (.iload_n 1, 1) := by decide +kernel
theorem dX4_answer_20 : decode cX4_answer 20 = .ok (.aaload, 1) := by decide +kernel
theorem dX4_answer_21 : decode cX4_answer 21 = .ok (.aload_n 0, 1) := by decide +kernel
theorem dX4_answer_22 : decode cX4_answer 22 = .ok (.getfield 30, 3) := by decide +kernel
theorem dX4_answer_25 : decode cX4_answer 25 = .ok (.iload_n 2, 1) := by decide +kernel
theorem dX4_answer_26 : decode cX4_answer 26 = .ok (.invokevirtual 78, 3) := by decide +kernel
theorem dX4_answer_29 : decode cX4_answer 29 = .ok (.ireturn, 1) := by decide +kernel
theorem dX4_wanted_0 : decode cX4_wanted 0 = .ok (.aload_n 0, 1) := by decide +kernel
theorem dX4_wanted_1 : decode cX4_wanted 1 = .ok (.iload_n 1, 1) := by decide +kernel
theorem dX4_wanted_2 : decode cX4_wanted 2 = .ok (.iload_n 2, 1) := by decide +kernel
theorem dX4_wanted_3 : decode cX4_wanted 3 = .ok (.iload_n 3, 1) := by decide +kernel
theorem dX4_wanted_4 : decode cX4_wanted 4 = .ok (.invokevirtual 82, 3) := by decide +kernel
theorem dX4_wanted_7 : decode cX4_wanted 7 = .ok (.aload_n 0, 1) := by decide +kernel
theorem dX4_wanted_8 : decode cX4_wanted 8 = .ok (.getfield 20, 3) := by decide +kernel
theorem dX4_wanted_11 : decode cX4_wanted 11 = .ok (.iload_n 1, 1) := by decide +kernel
theorem dX4_wanted_12 : decode cX4_wanted 12 = .ok (.aaload, 1) := by decide +kernel
theorem dX4_wanted_13 : decode cX4_wanted 13 = .ok (.iload_n 2, 1) := by decide +kernel
theorem dX4_wanted_14 : decode cX4_wanted 14 = .ok (.iload_n 3, 1) := by decide +kernel
theorem dX4_wanted_15 : decode cX4_wanted 15 = .ok (.invokevirtual 85, 3) := by decide +kernel
theorem dX4_wanted_18 : decode cX4_wanted 18 = .ok (.ireturn, 1) := by decide +kernel
theorem dX4_passed_0 : decode cX4_passed 0 = .ok (.aload_n 0, 1) := by decide +kernel
theorem dX4_passed_1 : decode cX4_passed 1 = .ok (.iload_n 1, 1) := by decide +kernel
theorem dX4_passed_2 : decode cX4_passed 2 = .ok (.iload_n 2, 1) := by decide +kernel
theorem dX4_passed_3 : decode cX4_passed 3 = .ok (.iload_n 3, 1) := by decide +kernel
theorem dX4_passed_4 : decode cX4_passed 4 = .ok (.invokevirtual 82, 3) := by decide +kernel
theorem dX4_passed_7 : decode cX4_passed 7 = .ok (.iconst 0, 1) := by decide +kernel
theorem dX4_passed_8 : decode cX4_passed 8 = .ok (.istore 4, 2) := by decide +kernel
theorem dX4_passed_10 : decode cX4_passed 10 = .ok (.iconst 0, 1) := by decide +kernel
theorem dX4_passed_11 : decode cX4_passed 11 = .ok (.istore 5, 2) := by decide +kernel
theorem dX4_passed_13 : decode cX4_passed 13 = .ok (.iload 5, 2) := by decide +kernel
theorem dX4_passed_15 : decode cX4_passed 15 = .ok (.aload_n 0, 1) := by decide +kernel
theorem dX4_passed_16 : decode cX4_passed 16 = .ok (.getfield 20, 3) := by decide +kernel
theorem dX4_passed_19 : decode cX4_passed 19 = .ok (.arraylength, 1) := by decide +kernel
theorem dX4_passed_20 : decode cX4_passed 20 = .ok (.if_icmp .ge 43, 3) := by decide +kernel
theorem dX4_passed_23 : decode cX4_passed 23 = .ok (.iload 5, 2) := by decide +kernel
theorem dX4_passed_25 : decode cX4_passed 25 = .ok (.iload_n 1, 1) := by decide +kernel
theorem dX4_passed_26 : decode cX4_passed 26 = .ok (.if_icmp .eq 31, 3) := by decide +kernel
theorem dX4_passed_29 : decode cX4_passed 29 = .ok (.aload_n 0, 1) := by decide +kernel
theorem dX4_passed_30 : decode cX4_passed 30 = .ok (.getfield 20, 3) := by decide +kernel
theorem dX4_passed_33 : decode cX4_passed 33 = .ok (.iload 5, 2) := by decide +kernel
theorem dX4_passed_35 : decode cX4_passed 35 = .ok (.aaload, 1) := by decide +kernel
theorem dX4_passed_36 : decode cX4_passed 36 = .ok (.getfield 89, 3) := by decide +kernel
theorem dX4_passed_39 : decode cX4_passed 39 = .ok (.iload_n 2, 1) := by decide +kernel
theorem dX4_passed_40 : decode cX4_passed 40 = .ok (.aaload, 1) := by decide +kernel
theorem dX4_passed_41 : decode cX4_passed 41 = .ok (.iload_n 3, 1) := by decide +kernel
theorem dX4_passed_42 : decode cX4_passed 42 = .ok (.invokevirtual 93, 3) := by decide +kernel
theorem dX4_passed_45 : decode cX4_passed 45 = .ok (.ifCond .eq 12, 3) := by decide +kernel
theorem dX4_passed_48 : decode cX4_passed 48 = .ok (.iload 4, 2) := by decide +kernel
theorem dX4_passed_50 : decode cX4_passed 50 = .ok (.iconst 1, 1) := by decide +kernel
theorem dX4_passed_51 : decode cX4_passed 51 = .ok (.iload 5, 2) := by decide +kernel
theorem dX4_passed_53 : decode cX4_passed 53 = .ok (.ishl, 1) := by decide +kernel
theorem dX4_passed_54 : decode cX4_passed 54 = .ok (.ior, 1) := by decide +kernel
theorem dX4_passed_55 : decode cX4_passed 55 = .ok (.istore 4, 2) := by decide +kernel
theorem dX4_passed_57 : decode cX4_passed 57 = .ok (.iinc 5 1, 3) := by decide +kernel
theorem dX4_passed_60 : decode cX4_passed 60 = .ok (.goto (-47), 3) := by decide +kernel
theorem dX4_passed_63 : decode cX4_passed 63 = .ok (.iload 4, 2) := by decide +kernel
theorem dX4_passed_65 : decode cX4_passed 65 = .ok (.ireturn, 1) := by decide +kernel
theorem dX4_mode_0 : decode cX4_mode 0 = .ok (.aload_n 0, 1) := by decide +kernel
theorem dX4_mode_1 : decode cX4_mode 1 = .ok (.iload_n 1, 1) := by decide +kernel
theorem dX4_mode_2 : decode cX4_mode 2 = .ok (.iload_n 2, 1) := by decide +kernel
theorem dX4_mode_3 : decode cX4_mode 3 = .ok (.invokevirtual 99, 3) := by decide +kernel
theorem dX4_mode_6 : decode cX4_mode 6 = .ok (.invokevirtual 103, 3) := by decide +kernel
theorem dX4_mode_9 : decode cX4_mode 9 = .ok (.ireturn, 1) := by decide +kernel
theorem dX4_sources_0 : decode cX4_sources 0 = .ok (.aload_n 0, 1) := by decide +kernel
theorem dX4_sources_1 : decode cX4_sources 1 = .ok (.iload_n 1, 1) := by decide +kernel
theorem dX4_sources_2 : decode cX4_sources 2 = .ok (.iload_n 2, 1) := by decide +kernel
theorem dX4_sources_3 : decode cX4_sources 3 = .ok (.invokevirtual 99, 3) := by decide +kernel
theorem dX4_sources_6 : decode cX4_sources 6 = .ok (.astore 4, 2) := by decide +kernel
theorem dX4_sources_8 : decode cX4_sources 8 = .ok (.iload_n 3, 1) := by decide +kernel
theorem dX4_sources_9 : decode cX4_sources 9 = .ok (.ifCond .eq 11, 3) := by decide +kernel
theorem dX4_sources_12 : decode cX4_sources 12 = .ok (.aload 4, 2) := by decide +kernel
theorem dX4_sources_14 : decode cX4_sources 14 = .ok (.getfield 106, 3) := by decide +kernel
theorem dX4_sources_17 : decode cX4_sources 17 = .ok (.goto 8, 3) := by decide +kernel
theorem dX4_sources_20 : decode cX4_sources 20 = .ok (.aload 4, 2) := by decide +kernel
theorem dX4_sources_22 : decode cX4_sources 22 = .ok (.getfield 109, 3) := by decide +kernel
theorem dX4_sources_25 : decode cX4_sources 25 = .ok (.ireturn, 1) := by decide +kernel
theorem dX4_timer_0 : decode cX4_timer 0 = .ok (.aload_n 0, 1) := by decide +kernel
theorem dX4_timer_1 : decode cX4_timer 1 = .ok (.iload_n 1, 1) := by decide +kernel
theorem dX4_timer_2 : decode cX4_timer 2 = .ok (.iload_n 2, 1) := by decide +kernel
theorem dX4_timer_3 : decode cX4_timer 3 = .ok (.iload_n 3, 1) := by decide +kernel
theorem dX4_timer_4 : decode cX4_timer 4 = .ok (.invokevirtual 82, 3) := by decide +kernel
theorem dX4_timer_7 : decode cX4_timer 7 = .ok (.aload_n 0, 1) := by decide +kernel
theorem dX4_timer_8 : decode cX4_timer 8 = .ok (.getfield 20, 3) := by decide +kernel
theorem dX4_timer_11 : decode cX4_timer 11 = .ok (.iload_n 1, 1) := by decide +kernel
theorem dX4_timer_12 : decode cX4_timer 12 = .ok (.aaload, 1) := by decide +kernel
theorem dX4_timer_13 : decode cX4_timer 13 = .ok (.getfield 89, 3) := by decide +kernel
theorem dX4_timer_16 : decode cX4_timer 16 = .ok (.iload_n 2, 1) := by decide +kernel
theorem dX4_timer_17 : decode cX4_timer 17 = .ok (.aaload, 1) := by decide +kernel
theorem dX4_timer_18 : decode cX4_timer 18 = .ok (.getfield 112, 3) := by decide +kernel
theorem dX4_timer_21 : decode cX4_timer 21 = .ok (.iload_n 3, 1) := by decide +kernel
theorem dX4_timer_22 : decode cX4_timer 22 = .ok (.iaload, 1) := by decide +kernel
theorem dX4_timer_23 : decode cX4_timer 23 = .ok (.ireturn, 1) := by decide +kernel
theorem dX4_groupTimer_0 : decode cX4_groupTimer 0 = .ok (.aload_n 0, 1) := by decide +kernel
theorem dX4_groupTimer_1 : decode cX4_groupTimer 1 = .ok (.iload_n 1, 1) := by decide +kernel
theorem dX4_groupTimer_2 : decode cX4_groupTimer 2 = .ok (.iload_n 2, 1) := by decide +kernel
theorem dX4_groupTimer_3 : decode cX4_groupTimer 3 = .ok (.invokevirtual 99, 3) := by decide +kernel
theorem dX4_groupTimer_6 : decode cX4_groupTimer 6 = .ok (.getfield 116, 3) := by decide +kernel
theorem dX4_groupTimer_9 : decode cX4_groupTimer 9 = .ok (.ireturn, 1) := by decide +kernel
theorem dX4_sent_0 : decode cX4_sent 0 = .ok (.aload_n 0, 1) := by decide +kernel
theorem dX4_sent_1 : decode cX4_sent 1 = .ok (.getfield 30, 3) := by decide +kernel
theorem dX4_sent_4 : decode cX4_sent 4 = .ok (.getfield 50, 3) := by decide +kernel
theorem dX4_sent_7 : decode cX4_sent 7 = .ok (.ireturn, 1) := by decide +kernel
theorem dX4_asked_0 : decode cX4_asked 0 = .ok (.iload_n 1, 1) := by decide +kernel
theorem dX4_asked_1 : decode cX4_asked 1 = .ok (.aload_n 0, 1) := by decide +kernel
theorem dX4_asked_2 : decode cX4_asked 2 = .ok (.getfield 30, 3) := by decide +kernel
theorem dX4_asked_5 : decode cX4_asked 5 = .ok (.getfield 50, 3) := by decide +kernel
theorem dX4_asked_8 : decode cX4_asked 8 = .ok (.bipush 40, 2) := by decide +kernel
theorem dX4_asked_10 : decode cX4_asked 10 = .ok (.invokestatic 9, 3) := by decide +kernel
theorem dX4_asked_13 : decode cX4_asked 13 = .ok (.invokestatic 34, 3) := by decide +kernel
theorem dX4_asked_16 : decode cX4_asked 16 = .ok (.iload_n 2, 1) := by decide +kernel
theorem dX4_asked_17 : decode cX4_asked 17 = .ok (.iconst 0, 1) := by decide +kernel
theorem dX4_asked_18 : decode cX4_asked 18 = .ok (.iconst 3, 1) := by decide +kernel
theorem dX4_asked_19 : decode cX4_asked 19 = .ok (.invokestatic 38, 3) := by decide +kernel
theorem dX4_asked_22 : decode cX4_asked 22 = .ok (.aload_n 0, 1) := by decide +kernel
theorem dX4_asked_23 : decode cX4_asked 23 = .ok (.getfield 30, 3) := by decide +kernel
theorem dX4_asked_26 : decode cX4_asked 26 = .ok (.iload_n 1, 1) := by decide +kernel
theorem dX4_asked_27 : decode cX4_asked 27 = .ok (.iload_n 2, 1) := by decide +kernel
theorem dX4_asked_28 : decode cX4_asked 28 = .ok (.invokevirtual 119, 3) := by decide +kernel
theorem dX4_asked_31 : decode cX4_asked 31 = .ok (.ireturn, 1) := by decide +kernel
theorem dX4_told_0 : decode cX4_told 0 = .ok (.iload_n 1, 1) := by decide +kernel
theorem dX4_told_1 : decode cX4_told 1 = .ok (.aload_n 0, 1) := by decide +kernel
theorem dX4_told_2 : decode cX4_told 2 = .ok (.getfield 20, 3) := by decide +kernel
theorem dX4_told_5 : decode cX4_told 5 = .ok (.arraylength, 1) := by decide +kernel
theorem dX4_told_6 : decode cX4_told 6 = .ok (.invokestatic 34, 3) := by decide +kernel
theorem dX4_told_9 : decode cX4_told 9 = .ok (.iload_n 2, 1) := by decide +kernel
theorem dX4_told_10 : decode cX4_told 10 = .ok (.iconst 0, 1) := by decide +kernel
theorem dX4_told_11 : decode cX4_told 11 = .ok (.iconst 5, 1) := by decide +kernel
theorem dX4_told_12 : decode cX4_told 12 = .ok (.invokestatic 38, 3) := by decide +kernel
theorem dX4_told_15 : decode cX4_told 15 = .ok (.aload_n 0, 1) := by decide +kernel
theorem dX4_told_16 : decode cX4_told 16 = .ok (.getfield 20, 3) := by decide +kernel
theorem dX4_told_19 : decode cX4_told 19 = .ok (.iload_n 1, 1) := by decide +kernel
theorem dX4_told_20 : decode cX4_told 20 = .ok (.aaload, 1) := by decide +kernel
theorem dX4_told_21 : decode cX4_told 21 = .ok (.astore_n 3, 1) := by decide +kernel
theorem dX4_told_22 : decode cX4_told 22 = .ok (.iload_n 2, 1) := by decide +kernel
theorem dX4_told_23 : decode cX4_told 23 = .ok (.tableswitch 69 0 4 #[33, 38, 43, 48, 64], 33) := by decide +kernel
theorem dX4_told_56 : decode cX4_told 56 = .ok (.aload_n 3, 1) := by decide +kernel
theorem dX4_told_57 : decode cX4_told 57 = .ok (.invokevirtual 45, 3) := by decide +kernel
theorem dX4_told_60 : decode cX4_told 60 = .ok (.ireturn, 1) := by decide +kernel
theorem dX4_told_61 : decode cX4_told 61 = .ok (.aload_n 3, 1) := by decide +kernel
theorem dX4_told_62 : decode cX4_told 62 = .ok (.invokevirtual 122, 3) := by decide +kernel
theorem dX4_told_65 : decode cX4_told 65 = .ok (.ireturn, 1) := by decide +kernel
theorem dX4_told_66 : decode cX4_told 66 = .ok (.aload_n 3, 1) := by decide +kernel
theorem dX4_told_67 : decode cX4_told 67 = .ok (.getfield 125, 3) := by decide +kernel
theorem dX4_told_70 : decode cX4_told 70 = .ok (.ireturn, 1) := by decide +kernel
theorem dX4_told_71 : decode cX4_told 71 = .ok (.aload_n 3, 1) := by decide +kernel
theorem dX4_told_72 : decode cX4_told 72 = .ok (.invokevirtual 64, 3) := by decide +kernel
theorem dX4_told_75 : decode cX4_told 75 = .ok (.ifCond .eq 7, 3) := by decide +kernel
theorem dX4_told_78 : decode cX4_told 78 = .ok (.iconst 0, 1) := by decide +kernel
theorem dX4_told_79 : decode cX4_told 79 = .ok (.goto 7, 3) := by decide +kernel
theorem dX4_told_82 : decode cX4_told 82 = .ok (.aload_n 3, 1) := by decide +kernel
theorem dX4_told_83 : decode cX4_told 83 = .ok (.getfield 128, 3) := by decide +kernel
theorem dX4_told_86 : decode cX4_told 86 = .ok (.ireturn, 1) := by decide +kernel
theorem dX4_told_87 : decode cX4_told 87 = .ok (.aload_n 3, 1) := by decide +kernel
theorem dX4_told_88 : decode cX4_told 88 = .ok (.invokevirtual 131, 3) := by decide +kernel
theorem dX4_told_91 : decode cX4_told 91 = .ok (.ireturn, 1) := by decide +kernel
theorem dX4_told_92 : decode cX4_told 92 = .ok (.aload_n 3, 1) := by decide +kernel
theorem dX4_told_93 : decode cX4_told 93 = .ok (.invokevirtual 64, 3) := by decide +kernel
theorem dX4_told_96 : decode cX4_told 96 = .ok (.ifCond .eq 10, 3) := by decide +kernel
theorem dX4_told_99 : decode cX4_told 99 = .ok (.aload_n 3, 1) := by decide +kernel
theorem dX4_told_100 : decode cX4_told 100 = .ok (.getfield 128, 3) := by decide +kernel
theorem dX4_told_103 : decode cX4_told 103 = .ok (.goto 4, 3) := by decide +kernel
theorem dX4_told_106 : decode cX4_told 106 = .ok (.iconst 0, 1) := by decide +kernel
theorem dX4_told_107 : decode cX4_told 107 = .ok (.ireturn, 1) := by decide +kernel
theorem dX4_clear_0 : decode cX4_clear 0 = .ok (.iconst 0, 1) := by decide +kernel
theorem dX4_clear_1 : decode cX4_clear 1 = .ok (.istore_n 1, 1) := by decide +kernel
theorem dX4_clear_2 : decode cX4_clear 2 = .ok (.iload_n 1, 1) := by decide +kernel
theorem dX4_clear_3 : decode cX4_clear 3 = .ok (.aload_n 0, 1) := by decide +kernel
theorem dX4_clear_4 : decode cX4_clear 4 = .ok (.getfield 20, 3) := by decide +kernel
theorem dX4_clear_7 : decode cX4_clear 7 = .ok (.arraylength, 1) := by decide +kernel
theorem dX4_clear_8 : decode cX4_clear 8 = .ok (.if_icmp .ge 18, 3) := by decide +kernel
theorem dX4_clear_11 : decode cX4_clear 11 = .ok (.aload_n 0, 1) := by decide +kernel
theorem dX4_clear_12 : decode cX4_clear 12 = .ok (.getfield 20, 3) := by decide +kernel
theorem dX4_clear_15 : decode cX4_clear 15 = .ok (.iload_n 1, 1) := by decide +kernel
theorem dX4_clear_16 : decode cX4_clear 16 = .ok (.aaload, 1) := by decide +kernel
theorem dX4_clear_17 : decode cX4_clear 17 = .ok (.invokevirtual 134, 3) := by decide +kernel
theorem dX4_clear_20 : decode cX4_clear 20 = .ok (.iinc 1 1, 3) := by decide +kernel
theorem dX4_clear_23 : decode cX4_clear 23 = .ok (.goto (-21), 3) := by decide +kernel
theorem dX4_clear_26 : decode cX4_clear 26 = .ok (.aload_n 0, 1) := by decide +kernel
theorem dX4_clear_27 : decode cX4_clear 27 = .ok (.getfield 30, 3) := by decide +kernel
theorem dX4_clear_30 : decode cX4_clear 30 = .ok (.invokevirtual 137, 3) := by decide +kernel
theorem dX4_clear_33 : decode cX4_clear 33 = .ok (.return_, 1) := by decide +kernel
theorem dX4_runClocks_0 : decode cX4_runClocks 0 = .ok (.iload_n 1, 1) := by decide +kernel
theorem dX4_runClocks_1 : decode cX4_runClocks 1 = .ok (.istore_n 2, 1) := by decide +kernel
theorem dX4_runClocks_2 : decode cX4_runClocks 2 = .ok (.iconst 0, 1) := by decide +kernel
theorem dX4_runClocks_3 : decode cX4_runClocks 3 = .ok (.istore_n 3, 1) := by decide +kernel
theorem dX4_runClocks_4 : decode cX4_runClocks 4 = .ok (.iload_n 3, 1) := by decide +kernel
theorem dX4_runClocks_5 : decode cX4_runClocks 5 = .ok (.iload_n 1, 1) := by decide +kernel
theorem dX4_runClocks_6 : decode cX4_runClocks 6 = .ok (.if_icmp .ge 106, 3) := by decide +kernel
theorem dX4_runClocks_9 : decode cX4_runClocks 9 = .ok (.iload_n 2, 1) := by decide +kernel
theorem dX4_runClocks_10 : decode cX4_runClocks 10 = .ok (.ifCond .le 102, 3) := by decide +kernel
theorem dX4_runClocks_13 : decode cX4_runClocks 13 = .ok (.iload_n 2, 1) := by decide +kernel
theorem dX4_runClocks_14 : decode cX4_runClocks 14 = .ok (.istore 4, 2) := by decide +kernel
theorem dX4_runClocks_16 : decode cX4_runClocks 16 = .ok (.iconst 0, 1) := by decide +kernel
theorem dX4_runClocks_17 : decode cX4_runClocks 17 = .ok (.istore 5, 2) := by decide +kernel
theorem dX4_runClocks_19 : decode cX4_runClocks 19 = .ok (.iload 5, 2) := by decide +kernel
theorem dX4_runClocks_21 : decode cX4_runClocks 21 = .ok (.aload_n 0, 1) := by decide +kernel
theorem dX4_runClocks_22 : decode cX4_runClocks 22 = .ok (.getfield 20, 3) := by decide +kernel
theorem dX4_runClocks_25 : decode cX4_runClocks 25 = .ok (.arraylength, 1) := by decide +kernel
theorem dX4_runClocks_26 : decode cX4_runClocks 26 = .ok (.if_icmp .ge 26, 3) := by decide +kernel
theorem dX4_runClocks_29 : decode cX4_runClocks 29 = .ok (.iload 4, 2) := by decide +kernel
theorem dX4_runClocks_31 : decode cX4_runClocks 31 = .ok (.aload_n 0, 1) := by decide +kernel
theorem dX4_runClocks_32 : decode cX4_runClocks 32 = .ok (.getfield 20, 3) := by decide +kernel
theorem dX4_runClocks_35 : decode cX4_runClocks 35 = .ok (.iload 5, 2) := by decide +kernel
theorem dX4_runClocks_37 : decode cX4_runClocks 37 = .ok (.aaload, 1) := by decide +kernel
theorem dX4_runClocks_38 : decode cX4_runClocks 38 = .ok (.getfield 128, 3) := by decide +kernel
theorem dX4_runClocks_41 : decode cX4_runClocks 41 = .ok (.invokestatic 9, 3) := by decide +kernel
theorem dX4_runClocks_44 : decode cX4_runClocks 44 = .ok (.istore 4, 2) := by decide +kernel
theorem dX4_runClocks_46 : decode cX4_runClocks 46 = .ok (.iinc 5 1, 3) := by decide +kernel
theorem dX4_runClocks_49 : decode cX4_runClocks 49 = .ok (.goto (-30), 3) := by decide +kernel
theorem dX4_runClocks_52 : decode cX4_runClocks 52 = .ok (.aload_n 0, 1) := by decide +kernel
theorem dX4_runClocks_53 : decode cX4_runClocks 53 = .ok (.getfield 30, 3) := by decide +kernel
theorem dX4_runClocks_56 : decode cX4_runClocks 56 = .ok (.dup, 1) := by decide +kernel
theorem dX4_runClocks_57 : decode cX4_runClocks 57 = .ok (.getfield 138, 3) := by decide +kernel
theorem dX4_runClocks_60 : decode cX4_runClocks 60 = .ok (.iload 4, 2) := by decide +kernel
theorem dX4_runClocks_62 : decode cX4_runClocks 62 = .ok (.iadd, 1) := by decide +kernel
theorem dX4_runClocks_63 : decode cX4_runClocks 63 = .ok (.putfield 138, 3) := by decide +kernel
theorem dX4_runClocks_66 : decode cX4_runClocks 66 = .ok (.iconst 0, 1) := by decide +kernel
theorem dX4_runClocks_67 : decode cX4_runClocks 67 = .ok (.istore 5, 2) := by decide +kernel
theorem dX4_runClocks_69 : decode cX4_runClocks 69 = .ok (.iload 5, 2) := by decide +kernel
theorem dX4_runClocks_71 : decode cX4_runClocks 71 = .ok (.aload_n 0, 1) := by decide +kernel
theorem dX4_runClocks_72 : decode cX4_runClocks 72 = .ok (.getfield 20, 3) := by decide +kernel
theorem dX4_runClocks_75 : decode cX4_runClocks 75 = .ok (.arraylength, 1) := by decide +kernel
theorem dX4_runClocks_76 : decode cX4_runClocks 76 = .ok (.if_icmp .ge 25, 3) := by decide +kernel
theorem dX4_runClocks_79 : decode cX4_runClocks 79 = .ok (.aload_n 0, 1) := by decide +kernel
theorem dX4_runClocks_80 : decode cX4_runClocks 80 = .ok (.getfield 20, 3) := by decide +kernel
theorem dX4_runClocks_83 : decode cX4_runClocks 83 = .ok (.iload 5, 2) := by decide +kernel
theorem dX4_runClocks_85 : decode cX4_runClocks 85 = .ok (.aaload, 1) := by decide +kernel
theorem dX4_runClocks_86 : decode cX4_runClocks 86 = .ok (.aload_n 0, 1) := by decide +kernel
theorem dX4_runClocks_87 : decode cX4_runClocks 87 = .ok (.getfield 30, 3) := by decide +kernel
theorem dX4_runClocks_90 : decode cX4_runClocks 90 = .ok (.iload 4, 2) := by decide +kernel
theorem dX4_runClocks_92 : decode cX4_runClocks 92 = .ok (.invokevirtual 141, 3) := by decide +kernel
theorem dX4_runClocks_95 : decode cX4_runClocks 95 = .ok (.iinc 5 1, 3) := by decide +kernel
theorem dX4_runClocks_98 : decode cX4_runClocks 98 = .ok (.goto (-29), 3) := by decide +kernel
theorem dX4_runClocks_101 : decode cX4_runClocks 101 = .ok (.iload_n 2, 1) := by decide +kernel
theorem dX4_runClocks_102 : decode cX4_runClocks 102 = .ok (.iload 4, 2) := by decide +kernel
theorem dX4_runClocks_104 : decode cX4_runClocks 104 = .ok (.isub, 1) := by decide +kernel
theorem dX4_runClocks_105 : decode cX4_runClocks 105 = .ok (.istore_n 2, 1) := by decide +kernel
theorem dX4_runClocks_106 : decode cX4_runClocks 106 = .ok (.iinc 3 1, 3) := by decide +kernel
theorem dX4_runClocks_109 : decode cX4_runClocks 109 = .ok (.goto (-105), 3) := by decide +kernel
theorem dX4_runClocks_112 : decode cX4_runClocks 112 = .ok (.return_, 1) := by decide +kernel
theorem dX4_filterAt_0 : decode cX4_filterAt 0 = .ok (.iload_n 1, 1) := by decide +kernel
theorem dX4_filterAt_1 : decode cX4_filterAt 1 = .ok (.aload_n 0, 1) := by decide +kernel
theorem dX4_filterAt_2 : decode cX4_filterAt 2 = .ok (.getfield 20, 3) := by decide +kernel
theorem dX4_filterAt_5 : decode cX4_filterAt 5 = .ok (.arraylength, 1) := by decide +kernel
theorem dX4_filterAt_6 : decode cX4_filterAt 6 = .ok (.invokestatic 34, 3) := by decide +kernel
theorem dX4_filterAt_9 : decode cX4_filterAt 9 = .ok (.iload_n 2, 1) := by decide +kernel
theorem dX4_filterAt_10 : decode cX4_filterAt 10 = .ok (.bipush 8, 2) := by decide +kernel
theorem dX4_filterAt_12 : decode cX4_filterAt 12 = .ok (.invokestatic 34, 3) := by decide +kernel
theorem dX4_filterAt_15 : decode cX4_filterAt 15 = .ok (.aload_n 0, 1) := by decide +kernel
theorem dX4_filterAt_16 : decode cX4_filterAt 16 = .ok (.getfield 20, 3) := by decide +kernel
theorem dX4_filterAt_19 : decode cX4_filterAt 19 = .ok (.iload_n 1, 1) := by decide +kernel
theorem dX4_filterAt_20 : decode cX4_filterAt 20 = .ok (.aaload, 1) := by decide +kernel
theorem dX4_filterAt_21 : decode cX4_filterAt 21 = .ok (.getfield 89, 3) := by decide +kernel
theorem dX4_filterAt_24 : decode cX4_filterAt 24 = .ok (.iload_n 2, 1) := by decide +kernel
theorem dX4_filterAt_25 : decode cX4_filterAt 25 = .ok (.aaload, 1) := by decide +kernel
theorem dX4_filterAt_26 : decode cX4_filterAt 26 = .ok (.areturn, 1) := by decide +kernel
theorem dX4_checkPlace_0 : decode cX4_checkPlace 0 = .ok (.iload_n 1, 1) := by decide +kernel
theorem dX4_checkPlace_1 : decode cX4_checkPlace 1 = .ok (.aload_n 0, 1) := by decide +kernel
theorem dX4_checkPlace_2 : decode cX4_checkPlace 2 = .ok (.getfield 20, 3) := by decide +kernel
theorem dX4_checkPlace_5 : decode cX4_checkPlace 5 = .ok (.arraylength, 1) := by decide +kernel
theorem dX4_checkPlace_6 : decode cX4_checkPlace 6 = .ok (.invokestatic 34, 3) := by decide +kernel
theorem dX4_checkPlace_9 : decode cX4_checkPlace 9 = .ok (.iload_n 2, 1) := by decide +kernel
theorem dX4_checkPlace_10 : decode cX4_checkPlace 10 = .ok (.bipush 8, 2) := by decide +kernel
theorem dX4_checkPlace_12 : decode cX4_checkPlace 12 = .ok (.invokestatic 34, 3) := by decide +kernel
theorem dX4_checkPlace_15 : decode cX4_checkPlace 15 = .ok (.iload_n 3, 1) := by decide +kernel
theorem dX4_checkPlace_16 : decode cX4_checkPlace 16 = .ok (.bipush 16, 2) := by decide +kernel
theorem dX4_checkPlace_18 : decode cX4_checkPlace 18 = .ok (.invokestatic 34, 3) := by decide +kernel
theorem dX4_checkPlace_21 : decode cX4_checkPlace 21 = .ok (.return_, 1) := by decide +kernel
theorem dX4_checkIndex_0 : decode cX4_checkIndex 0 = .ok (.iload_n 0, 1) := by decide +kernel
theorem dX4_checkIndex_1 : decode cX4_checkIndex 1 = .ok (.ifCond .lt 8, 3) := by decide +kernel
theorem dX4_checkIndex_4 : decode cX4_checkIndex 4 = .ok (.iload_n 0, 1) := by decide +kernel
theorem dX4_checkIndex_5 : decode cX4_checkIndex 5 = .ok (.iload_n 1, 1) := by decide +kernel
theorem dX4_checkIndex_6 : decode cX4_checkIndex 6 = .ok (.if_icmp .lt 13, 3) := by decide +kernel
theorem dX4_checkIndex_9 : decode cX4_checkIndex 9 = .ok (.new 145, 3) := by decide +kernel
theorem dX4_checkIndex_12 : decode cX4_checkIndex 12 = .ok (.dup, 1) := by decide +kernel
theorem dX4_checkIndex_13 : decode cX4_checkIndex 13 = .ok (.ldc 147, 2) := by decide +kernel
theorem dX4_checkIndex_15 : decode cX4_checkIndex 15 = .ok (.invokespecial 149, 3) := by decide +kernel
theorem dX4_checkIndex_18 : decode cX4_checkIndex 18 = .ok (.athrow, 1) := by decide +kernel
theorem dX4_checkIndex_19 : decode cX4_checkIndex 19 = .ok (.return_, 1) := by decide +kernel
theorem dX4_checkNumber_0 : decode cX4_checkNumber 0 = .ok (.iload_n 0, 1) := by decide +kernel
theorem dX4_checkNumber_1 : decode cX4_checkNumber 1 = .ok (.iload_n 1, 1) := by decide +kernel
theorem dX4_checkNumber_2 : decode cX4_checkNumber 2 = .ok (.if_icmp .lt 8, 3) := by decide +kernel
theorem dX4_checkNumber_5 : decode cX4_checkNumber 5 = .ok (.iload_n 0, 1) := by decide +kernel
theorem dX4_checkNumber_6 : decode cX4_checkNumber 6 = .ok (.iload_n 2, 1) := by decide +kernel
theorem dX4_checkNumber_7 : decode cX4_checkNumber 7 = .ok (.if_icmp .le 13, 3) := by decide +kernel
theorem dX4_checkNumber_10 : decode cX4_checkNumber 10 = .ok (.new 152, 3) := by decide +kernel
theorem dX4_checkNumber_13 : decode cX4_checkNumber 13 = .ok (.dup, 1) := by decide +kernel
theorem dX4_checkNumber_14 : decode cX4_checkNumber 14 = .ok (.ldc 154, 2) := by decide +kernel
theorem dX4_checkNumber_16 : decode cX4_checkNumber 16 = .ok (.invokespecial 156, 3) := by decide +kernel
theorem dX4_checkNumber_19 : decode cX4_checkNumber 19 = .ok (.athrow, 1) := by decide +kernel
theorem dX4_checkNumber_20 : decode cX4_checkNumber 20 = .ok (.return_, 1) := by decide +kernel
theorem dX4_holds_0 : decode cX4_holds 0 = .ok (.iload_n 0, 1) := by decide +kernel
theorem dX4_holds_1 : decode cX4_holds 1 = .ok (.iload_n 1, 1) := by decide +kernel
theorem dX4_holds_2 : decode cX4_holds 2 = .ok (.ishr, 1) := by decide +kernel
theorem dX4_holds_3 : decode cX4_holds 3 = .ok (.iconst 1, 1) := by decide +kernel
theorem dX4_holds_4 : decode cX4_holds 4 = .ok (.iand, 1) := by decide +kernel
theorem dX4_holds_5 : decode cX4_holds 5 = .ok (.ifCond .eq 7, 3) := by decide +kernel
theorem dX4_holds_8 : decode cX4_holds 8 = .ok (.iconst 1, 1) := by decide +kernel
theorem dX4_holds_9 : decode cX4_holds 9 = .ok (.goto 4, 3) := by decide +kernel
theorem dX4_holds_12 : decode cX4_holds 12 = .ok (.iconst 0, 1) := by decide +kernel
theorem dX4_holds_13 : decode cX4_holds 13 = .ok (.ireturn, 1) := by decide +kernel
