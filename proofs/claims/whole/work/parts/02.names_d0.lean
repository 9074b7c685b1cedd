theorem dX0_init_0 : decode cX0_init 0 = .ok (.aload_n 0, 1) := by decide +kernel
theorem dX0_init_1 : decode cX0_init 1 = .ok (.invokespecial 3, 3) := by decide +kernel
theorem dX0_init_4 : decode cX0_init 4 = .ok (.aload_n 0, 1) := by decide +kernel
theorem dX0_init_5 : decode cX0_init 5 = .ok (.iconst 0, 1) := by decide +kernel
theorem dX0_init_6 : decode cX0_init 6 = .ok (.putfield 9, 3) := by decide +kernel
theorem dX0_init_9 : decode cX0_init 9 = .ok (.aload_n 0, 1) := by decide +kernel
theorem dX0_init_10 : decode cX0_init 10 = .ok (.iconst 0, 1) := by decide +kernel
theorem dX0_init_11 : decode cX0_init 11 = .ok (.putfield 15, 3) := by decide +kernel
theorem dX0_init_14 : decode cX0_init 14 = .ok (.aload_n 0, 1) := by decide +kernel
theorem dX0_init_15 : decode cX0_init 15 = .ok (.iload_n 1, 1) := by decide +kernel
theorem dX0_init_16 : decode cX0_init 16 = .ok (.putfield 18, 3) := by decide +kernel
theorem dX0_init_19 : decode cX0_init 19 = .ok (.return_, 1) := by decide +kernel
theorem dX0_become_0 : decode cX0_become 0 = .ok (.aload_n 0, 1) := by decide +kernel
theorem dX0_become_1 : decode cX0_become 1 = .ok (.iload_n 1, 1) := by decide +kernel
theorem dX0_become_2 : decode cX0_become 2 = .ok (.putfield 18, 3) := by decide +kernel
theorem dX0_become_5 : decode cX0_become 5 = .ok (.aload_n 0, 1) := by decide +kernel
theorem dX0_become_6 : decode cX0_become 6 = .ok (.iconst 0, 1) := by decide +kernel
theorem dX0_become_7 : decode cX0_become 7 = .ok (.putfield 15, 3) := by decide +kernel
theorem dX0_become_10 : decode cX0_become 10 = .ok (.return_, 1) := by decide +kernel
theorem dX0_goOn_0 : decode cX0_goOn 0 = .ok (.aload_n 0, 1) := by decide +kernel
theorem dX0_goOn_1 : decode cX0_goOn 1 = .ok (.getfield 18, 3) := by decide +kernel
theorem dX0_goOn_4 : decode cX0_goOn 4 = .ok (.iconst 2, 1) := by decide +kernel
theorem dX0_goOn_5 : decode cX0_goOn 5 = .ok (.if_icmp .eq 13, 3) := by decide +kernel
theorem dX0_goOn_8 : decode cX0_goOn 8 = .ok (.aload_n 0, 1) := by decide +kernel
theorem dX0_goOn_9 : decode cX0_goOn 9 = .ok (.getfield 18, 3) := by decide +kernel
theorem dX0_goOn_12 : decode cX0_goOn 12 = .ok (.iconst 3, 1) := by decide +kernel
theorem dX0_goOn_13 : decode cX0_goOn 13 = .ok (.if_icmp .eq 5, 3) := by decide +kernel
theorem dX0_goOn_16 : decode cX0_goOn 16 = .ok (.iconst 0, 1) := by decide +kernel
theorem dX0_goOn_17 : decode cX0_goOn 17 = .ok (.ireturn, 1) := by decide +kernel
theorem dX0_goOn_18 : decode cX0_goOn 18 = .ok (.aload_n 0, 1) := by decide +kernel
theorem dX0_goOn_19 : decode cX0_goOn 19 = .ok (.dup, 1) := by decide +kernel
theorem dX0_goOn_20 : decode cX0_goOn 20 = .ok (.getfield 15, 3) := by decide +kernel
theorem dX0_goOn_23 : decode cX0_goOn 23 = .ok (.iconst 1, 1) := by decide +kernel
theorem dX0_goOn_24 : decode cX0_goOn 24 = .ok (.iadd, 1) := by decide +kernel
theorem dX0_goOn_25 : decode cX0_goOn 25 = .ok (.putfield 15, 3) := by decide +kernel
theorem dX0_goOn_28 : decode cX0_goOn 28 = .ok (.aload_n 0, 1) := by decide +kernel
theorem dX0_goOn_29 : decode cX0_goOn 29 = .ok (.getfield 15, 3) := by decide +kernel
theorem dX0_goOn_32 : decode cX0_goOn 32 = .ok (.iload_n 1, 1) := by decide +kernel
theorem dX0_goOn_33 : decode cX0_goOn 33 = .ok (.if_icmp .ge 5, 3) := by decide +kernel
theorem dX0_goOn_36 : decode cX0_goOn 36 = .ok (.iconst 0, 1) := by decide +kernel
theorem dX0_goOn_37 : decode cX0_goOn 37 = .ok (.ireturn, 1) := by decide +kernel
theorem dX0_goOn_38 : decode cX0_goOn 38 = .ok (.aload_n 0, 1) := by decide +kernel
theorem dX0_goOn_39 : decode cX0_goOn 39 = .ok (.getfield 18, 3) := by decide +kernel
theorem dX0_goOn_42 : decode cX0_goOn 42 = .ok (.iconst 2, 1) := by decide +kernel
theorem dX0_goOn_43 : decode cX0_goOn 43 = .ok (.if_icmp .ne 10, 3) := by decide +kernel
theorem dX0_goOn_46 : decode cX0_goOn 46 = .ok (.aload_n 0, 1) := by decide +kernel
theorem dX0_goOn_47 : decode cX0_goOn 47 = .ok (.iconst 3, 1) := by decide +kernel
theorem dX0_goOn_48 : decode cX0_goOn 48 = .ok (.invokevirtual 21, 3) := by decide +kernel
theorem dX0_goOn_51 : decode cX0_goOn 51 = .ok (.iconst 0, 1) := by decide +kernel
theorem dX0_goOn_52 : decode cX0_goOn 52 = .ok (.ireturn, 1) := by decide +kernel
theorem dX0_goOn_53 : decode cX0_goOn 53 = .ok (.aload_n 0, 1) := by decide +kernel
theorem dX0_goOn_54 : decode cX0_goOn 54 = .ok (.iconst 0, 1) := by decide +kernel
theorem dX0_goOn_55 : decode cX0_goOn 55 = .ok (.invokevirtual 21, 3) := by decide +kernel
theorem dX0_goOn_58 : decode cX0_goOn 58 = .ok (.aload_n 0, 1) := by decide +kernel
theorem dX0_goOn_59 : decode cX0_goOn 59 = .ok (.iconst 0, 1) := by decide +kernel
theorem dX0_goOn_60 : decode cX0_goOn 60 = .ok (.putfield 9, 3) := by decide +kernel
theorem dX0_goOn_63 : decode cX0_goOn 63 = .ok (.iconst 1, 1) := by decide +kernel
theorem dX0_goOn_64 : decode cX0_goOn 64 = .ok (.ireturn, 1) := by decide +kernel
theorem dX0_fact_0 : decode cX0_fact 0 = .ok (.iload_n 1, 1) := by decide +kernel
theorem dX0_fact_1 : decode cX0_fact 1 = .ok (.tableswitch 42 0 2 #[27, 32, 37], 27) := by decide +kernel
theorem dX0_fact_28 : decode cX0_fact 28 = .ok (.aload_n 0, 1) := by decide +kernel
theorem dX0_fact_29 : decode cX0_fact 29 = .ok (.getfield 18, 3) := by decide +kernel
theorem dX0_fact_32 : decode cX0_fact 32 = .ok (.ireturn, 1) := by decide +kernel
theorem dX0_fact_33 : decode cX0_fact 33 = .ok (.aload_n 0, 1) := by decide +kernel
theorem dX0_fact_34 : decode cX0_fact 34 = .ok (.getfield 9, 3) := by decide +kernel
theorem dX0_fact_37 : decode cX0_fact 37 = .ok (.ireturn, 1) := by decide +kernel
theorem dX0_fact_38 : decode cX0_fact 38 = .ok (.aload_n 0, 1) := by decide +kernel
theorem dX0_fact_39 : decode cX0_fact 39 = .ok (.getfield 15, 3) := by decide +kernel
theorem dX0_fact_42 : decode cX0_fact 42 = .ok (.ireturn, 1) := by decide +kernel
theorem dX0_fact_43 : decode cX0_fact 43 = .ok (.iconst (-1), 1) := by decide +kernel
theorem dX0_fact_44 : decode cX0_fact 44 = .ok (.ireturn, 1) := by decide +kernel
theorem dX1_init_0 : decode cX1_init 0 = .ok (.aload_n 0, 1) := by decide +kernel
theorem dX1_init_1 : decode cX1_init 1 = .ok (.invokespecial 3, 3) := by decide +kernel
theorem dX1_init_4 : decode cX1_init 4 = .ok (.aload_n 0, 1) := by decide +kernel
theorem dX1_init_5 : decode cX1_init 5 = .ok (.new 9, 3) := by decide +kernel
theorem dX1_init_8 : decode cX1_init 8 = .ok (.dup, 1) := by decide +kernel
theorem dX1_init_9 : decode cX1_init 9 = .ok (.iconst 1, 1) := by decide +kernel
theorem dX1_init_10 : decode cX1_init 10 = .ok (.invokespecial 11, 3) := by decide +kernel
theorem dX1_init_13 : decode cX1_init 13 = .ok (.putfield 14, 3) := by decide +kernel
theorem dX1_init_16 : decode cX1_init 16 = .ok (.aload_n 0, 1) := by decide +kernel
theorem dX1_init_17 : decode cX1_init 17 = .ok (.new 9, 3) := by decide +kernel
theorem dX1_init_20 : decode cX1_init 20 = .ok (.dup, 1) := by decide +kernel
theorem dX1_init_21 : decode cX1_init 21 = .ok (.iconst 0, 1) := by decide +kernel
theorem dX1_init_22 : decode cX1_init 22 = .ok (.invokespecial 11, 3) := by decide +kernel
theorem dX1_init_25 : decode cX1_init 25 = .ok (.putfield 20, 3) := by decide +kernel
theorem dX1_init_28 : decode cX1_init 28 = .ok (.aload_n 0, 1) := by decide +kernel
theorem dX1_init_29 : decode cX1_init 29 = .ok (.bipush 20, 2) := by decide +kernel
theorem dX1_init_31 : decode cX1_init 31 = .ok (.putfield 23, 3) := by decide +kernel
theorem dX1_init_34 : decode cX1_init 34 = .ok (.aload_n 0, 1) := by decide +kernel
theorem dX1_init_35 : decode cX1_init 35 = .ok (.bipush 6, 2) := by decide +kernel
theorem dX1_init_37 : decode cX1_init 37 = .ok (.putfield 27, 3) := by decide +kernel
theorem dX1_init_40 : decode cX1_init 40 = .ok (.return_, 1) := by decide +kernel
theorem dX1_anyOn_0 : decode cX1_anyOn 0 = .ok (.aload_n 0, 1) := by decide +kernel
theorem dX1_anyOn_1 : decode cX1_anyOn 1 = .ok (.getfield 14, 3) := by decide +kernel
theorem dX1_anyOn_4 : decode cX1_anyOn 4 = .ok (.getfield 30, 3) := by decide +kernel
theorem dX1_anyOn_7 : decode cX1_anyOn 7 = .ok (.iconst 1, 1) := by decide +kernel
theorem dX1_anyOn_8 : decode cX1_anyOn 8 = .ok (.if_icmp .eq 14, 3) := by decide +kernel
theorem dX1_anyOn_11 : decode cX1_anyOn 11 = .ok (.aload_n 0, 1) := by decide +kernel
theorem dX1_anyOn_12 : decode cX1_anyOn 12 = .ok (.getfield 20, 3) := by decide +kernel
theorem dX1_anyOn_15 : decode cX1_anyOn 15 = .ok (.getfield 30, 3) := by decide +kernel
theorem dX1_anyOn_18 : decode cX1_anyOn 18 = .ok (.iconst 1, 1) := by decide +kernel
theorem dX1_anyOn_19 : decode cX1_anyOn 19 = .ok (.if_icmp .ne 7, 3) := by decide +kernel
theorem dX1_anyOn_22 : decode cX1_anyOn 22 = .ok (.iconst 1, 1) := by decide +kernel
theorem dX1_anyOn_23 : decode cX1_anyOn 23 = .ok (.goto 4, 3) := by decide +kernel
theorem dX1_anyOn_26 : decode cX1_anyOn 26 = .ok (.iconst 0, 1) := by decide +kernel
theorem dX1_anyOn_27 : decode cX1_anyOn 27 = .ok (.ireturn, 1) := by decide +kernel
theorem dX1_regenerate_0 : decode cX1_regenerate 0 = .ok (.aload_n 0, 1) := by decide +kernel
theorem dX1_regenerate_1 : decode cX1_regenerate 1 = .ok (.aload_n 0, 1) := by decide +kernel
theorem dX1_regenerate_2 : decode cX1_regenerate 2 = .ok (.getfield 14, 3) := by decide +kernel
theorem dX1_regenerate_5 : decode cX1_regenerate 5 = .ok (.invokevirtual 33, 3) := by decide +kernel
theorem dX1_regenerate_8 : decode cX1_regenerate 8 = .ok (.aload_n 0, 1) := by decide +kernel
theorem dX1_regenerate_9 : decode cX1_regenerate 9 = .ok (.aload_n 0, 1) := by decide +kernel
theorem dX1_regenerate_10 : decode cX1_regenerate 10 = .ok (.getfield 20, 3) := by decide +kernel
theorem dX1_regenerate_13 : decode cX1_regenerate 13 = .ok (.invokevirtual 33, 3) := by decide +kernel
theorem dX1_regenerate_16 : decode cX1_regenerate 16 = .ok (.return_, 1) := by decide +kernel
theorem dX1_step_0 : decode cX1_step 0 = .ok (.aload_n 1, 1) := by decide +kernel
theorem dX1_step_1 : decode cX1_step 1 = .ok (.aload_n 0, 1) := by decide +kernel
theorem dX1_step_2 : decode cX1_step 2 = .ok (.getfield 27, 3) := by decide +kernel
theorem dX1_step_5 : decode cX1_step 5 = .ok (.invokevirtual 37, 3) := by decide +kernel
theorem dX1_step_8 : decode cX1_step 8 = .ok (.ifCond .eq 15, 3) := by decide +kernel
theorem dX1_step_11 : decode cX1_step 11 = .ok (.aload_n 0, 1) := by decide +kernel
theorem dX1_step_12 : decode cX1_step 12 = .ok (.invokevirtual 41, 3) := by decide +kernel
theorem dX1_step_15 : decode cX1_step 15 = .ok (.ifCond .ne 8, 3) := by decide +kernel
theorem dX1_step_18 : decode cX1_step 18 = .ok (.aload_n 1, 1) := by decide +kernel
theorem dX1_step_19 : decode cX1_step 19 = .ok (.iconst 1, 1) := by decide +kernel
theorem dX1_step_20 : decode cX1_step 20 = .ok (.invokevirtual 45, 3) := by decide +kernel
theorem dX1_step_23 : decode cX1_step 23 = .ok (.return_, 1) := by decide +kernel
theorem dX1_load_0 : decode cX1_load 0 = .ok (.aload_n 0, 1) := by decide +kernel
theorem dX1_load_1 : decode cX1_load 1 = .ok (.getfield 14, 3) := by decide +kernel
theorem dX1_load_4 : decode cX1_load 4 = .ok (.getfield 30, 3) := by decide +kernel
theorem dX1_load_7 : decode cX1_load 7 = .ok (.iconst 1, 1) := by decide +kernel
theorem dX1_load_8 : decode cX1_load 8 = .ok (.if_icmp .ne 18, 3) := by decide +kernel
theorem dX1_load_11 : decode cX1_load 11 = .ok (.aload_n 0, 1) := by decide +kernel
theorem dX1_load_12 : decode cX1_load 12 = .ok (.aload_n 0, 1) := by decide +kernel
theorem dX1_load_13 : decode cX1_load 13 = .ok (.getfield 14, 3) := by decide +kernel
theorem dX1_load_16 : decode cX1_load 16 = .ok (.aload_n 0, 1) := by decide +kernel
theorem dX1_load_17 : decode cX1_load 17 = .ok (.getfield 20, 3) := by decide +kernel
theorem dX1_load_20 : decode cX1_load 20 = .ok (.invokevirtual 48, 3) := by decide +kernel
theorem dX1_load_23 : decode cX1_load 23 = .ok (.goto 15, 3) := by decide +kernel
theorem dX1_load_26 : decode cX1_load 26 = .ok (.aload_n 0, 1) := by decide +kernel
theorem dX1_load_27 : decode cX1_load 27 = .ok (.aload_n 0, 1) := by decide +kernel
theorem dX1_load_28 : decode cX1_load 28 = .ok (.getfield 20, 3) := by decide +kernel
theorem dX1_load_31 : decode cX1_load 31 = .ok (.aload_n 0, 1) := by decide +kernel
theorem dX1_load_32 : decode cX1_load 32 = .ok (.getfield 14, 3) := by decide +kernel
theorem dX1_load_35 : decode cX1_load 35 = .ok (.invokevirtual 48, 3) := by decide +kernel
theorem dX1_load_38 : decode cX1_load 38 = .ok (.ireturn, 1) := by decide +kernel
theorem dX1_loadOne_0 : decode cX1_loadOne 0 = .ok (.aload_n 1, 1) := by decide +kernel
theorem dX1_loadOne_1 : decode cX1_loadOne 1 = .ok (.getfield 30, 3) := by decide +kernel
theorem dX1_loadOne_4 : decode cX1_loadOne 4 = .ok (.iconst 1, 1) := by decide +kernel
theorem dX1_loadOne_5 : decode cX1_loadOne 5 = .ok (.if_icmp .eq 5, 3) := by decide +kernel
theorem dX1_loadOne_8 : decode cX1_loadOne 8 = .ok (.iconst 0, 1) := by decide +kernel
theorem dX1_loadOne_9 : decode cX1_loadOne 9 = .ok (.ireturn, 1) := by decide +kernel
theorem dX1_loadOne_10 : decode cX1_loadOne 10 = .ok (.aload_n 1, 1) := by decide +kernel
theorem dX1_loadOne_11 : decode cX1_loadOne 11 = .ok (.dup, 1) := by decide +kernel
theorem dX1_loadOne_12 : decode cX1_loadOne 12 = .ok (.getfield 52, 3) := by decide +kernel
theorem dX1_loadOne_15 : decode cX1_loadOne 15 = .ok (.iconst 1, 1) := by decide +kernel
theorem dX1_loadOne_16 : decode cX1_loadOne 16 = .ok (.iadd, 1) := by decide +kernel
theorem dX1_loadOne_17 : decode cX1_loadOne 17 = .ok (.putfield 52, 3) := by decide +kernel
theorem dX1_loadOne_20 : decode cX1_loadOne 20 = .ok (.aload_n 1, 1) := by decide +kernel
theorem dX1_loadOne_21 : decode cX1_loadOne 21 = .ok (.getfield 52, 3) := by decide +kernel
theorem dX1_loadOne_24 : decode cX1_loadOne 24 = .ok (.aload_n 0, 1) := by decide +kernel
theorem dX1_loadOne_25 : decode cX1_loadOne 25 = .ok (.getfield 23, 3) := by decide +kernel
theorem dX1_loadOne_28 : decode cX1_loadOne 28 = .ok (.if_icmp .ge 5, 3) := by decide +kernel
theorem dX1_loadOne_31 : decode cX1_loadOne 31 = .ok (.iconst 1, 1) := by decide +kernel
theorem dX1_loadOne_32 : decode cX1_loadOne 32 = .ok (.ireturn, 1) := by decide +kernel
theorem dX1_loadOne_33 : decode cX1_loadOne 33 = .ok (.aload_n 1, 1) := by decide +kernel
theorem dX1_loadOne_34 : decode cX1_loadOne 34 = .ok (.iconst 2, 1) := by decide +kernel
theorem dX1_loadOne_35 : decode cX1_loadOne 35 = .ok (.invokevirtual 45, 3) := by decide +kernel
theorem dX1_loadOne_38 : decode cX1_loadOne 38 = .ok (.aload_n 2, 1) := by decide +kernel
theorem dX1_loadOne_39 : decode cX1_loadOne 39 = .ok (.getfield 30, 3) := by decide +kernel
theorem dX1_loadOne_42 : decode cX1_loadOne 42 = .ok (.ifCond .eq 5, 3) := by decide +kernel
theorem dX1_loadOne_45 : decode cX1_loadOne 45 = .ok (.iconst 0, 1) := by decide +kernel
theorem dX1_loadOne_46 : decode cX1_loadOne 46 = .ok (.ireturn, 1) := by decide +kernel
theorem dX1_loadOne_47 : decode cX1_loadOne 47 = .ok (.aload_n 2, 1) := by decide +kernel
theorem dX1_loadOne_48 : decode cX1_loadOne 48 = .ok (.iconst 1, 1) := by decide +kernel
theorem dX1_loadOne_49 : decode cX1_loadOne 49 = .ok (.invokevirtual 45, 3) := by decide +kernel
theorem dX1_loadOne_52 : decode cX1_loadOne 52 = .ok (.iconst 1, 1) := by decide +kernel
theorem dX1_loadOne_53 : decode cX1_loadOne 53 = .ok (.ireturn, 1) := by decide +kernel
theorem dX1_tell_0 : decode cX1_tell 0 = .ok (.iload_n 1, 1) := by decide +kernel
theorem dX1_tell_1 : decode cX1_tell 1 = .ok (.lookupswitch 45 #[(0, 27), (1, 36)], 27) := by decide +kernel
theorem dX1_tell_28 : decode cX1_tell 28 = .ok (.aload_n 0, 1) := by decide +kernel
theorem dX1_tell_29 : decode cX1_tell 29 = .ok (.getfield 14, 3) := by decide +kernel
theorem dX1_tell_32 : decode cX1_tell 32 = .ok (.iload_n 2, 1) := by decide +kernel
theorem dX1_tell_33 : decode cX1_tell 33 = .ok (.invokevirtual 55, 3) := by decide +kernel
theorem dX1_tell_36 : decode cX1_tell 36 = .ok (.ireturn, 1) := by decide +kernel
theorem dX1_tell_37 : decode cX1_tell 37 = .ok (.aload_n 0, 1) := by decide +kernel
theorem dX1_tell_38 : decode cX1_tell 38 = .ok (.getfield 20, 3) := by decide +kernel
theorem dX1_tell_41 : decode cX1_tell 41 = .ok (.iload_n 2, 1) := by decide +kernel
theorem dX1_tell_42 : decode cX1_tell 42 = .ok (.invokevirtual 55, 3) := by decide +kernel
theorem dX1_tell_45 : decode cX1_tell 45 = .ok (.ireturn, 1) := by decide +kernel
theorem dX1_tell_46 : decode cX1_tell 46 = .ok (.iconst (-1), 1) := by decide +kernel
theorem dX1_tell_47 : decode cX1_tell 47 = .ok (.ireturn, 1) := by decide +kernel
theorem dX2_init_0 : decode cX2_init 0 = .ok (.aload_n 0, 1) := by decide +kernel
theorem dX2_init_1 : decode cX2_init 1 = .ok (.aload_n 1, 1) := by decide +kernel
theorem dX2_init_2 : decode cX2_init 2 = .ok (.invokespecial 1, 3) := by decide +kernel
theorem dX2_init_5 : decode cX2_init 5 = .ok (.aload_n 0, 1) := by decide +kernel
theorem dX2_init_6 : decode cX2_init 6 = .ok (.iload_n 2, 1) := by decide +kernel
theorem dX2_init_7 : decode cX2_init 7 = .ok (.putfield 7, 3) := by decide +kernel
theorem dX2_init_10 : decode cX2_init 10 = .ok (.return_, 1) := by decide +kernel
theorem dX2_coldAt_0 : decode cX2_coldAt 0 = .ok (.aload_n 0, 1) := by decide +kernel
theorem dX2_coldAt_1 : decode cX2_coldAt 1 = .ok (.iload_n 1, 1) := by decide +kernel
theorem dX2_coldAt_2 : decode cX2_coldAt 2 = .ok (.invokespecial 13, 3) := by decide +kernel
theorem dX2_coldAt_5 : decode cX2_coldAt 5 = .ok (.aload_n 0, 1) := by decide +kernel
theorem dX2_coldAt_6 : decode cX2_coldAt 6 = .ok (.getfield 7, 3) := by decide +kernel
theorem dX2_coldAt_9 : decode cX2_coldAt 9 = .ok (.invokestatic 17, 3) := by decide +kernel
theorem dX2_coldAt_12 : decode cX2_coldAt 12 = .ok (.ireturn, 1) := by decide +kernel
theorem dX2_traceWeight_0 : decode cX2_traceWeight 0 = .ok (.aload_n 0, 1) := by decide +kernel
theorem dX2_traceWeight_1 : decode cX2_traceWeight 1 = .ok (.invokespecial 23, 3) := by decide +kernel
theorem dX2_traceWeight_4 : decode cX2_traceWeight 4 = .ok (.bipush 100, 2) := by decide +kernel
theorem dX2_traceWeight_6 : decode cX2_traceWeight 6 = .ok (.iadd, 1) := by decide +kernel
theorem dX2_traceWeight_7 : decode cX2_traceWeight 7 = .ok (.ireturn, 1) := by decide +kernel
theorem dX3_init_0 : decode cX3_init 0 = .ok (.aload_n 0, 1) := by decide +kernel
theorem dX3_init_1 : decode cX3_init 1 = .ok (.invokespecial 3, 3) := by decide +kernel
theorem dX3_init_4 : decode cX3_init 4 = .ok (.aload_n 0, 1) := by decide +kernel
theorem dX3_init_5 : decode cX3_init 5 = .ok (.iconst 0, 1) := by decide +kernel
theorem dX3_init_6 : decode cX3_init 6 = .ok (.putfield 9, 3) := by decide +kernel
theorem dX3_init_9 : decode cX3_init 9 = .ok (.aload_n 0, 1) := by decide +kernel
theorem dX3_init_10 : decode cX3_init 10 = .ok (.iconst 0, 1) := by decide +kernel
theorem dX3_init_11 : decode cX3_init 11 = .ok (.putfield 15, 3) := by decide +kernel
theorem dX3_init_14 : decode cX3_init 14 = .ok (.aload_n 0, 1) := by decide +kernel
theorem dX3_init_15 : decode cX3_init 15 = .ok (.iconst 0, 1) := by decide +kernel
theorem dX3_init_16 : decode cX3_init 16 = .ok (.putfield 18, 3) := by decide +kernel
theorem dX3_init_19 : decode cX3_init 19 = .ok (.aload_n 0, 1) := by decide +kernel
theorem dX3_init_20 : decode cX3_init 20 = .ok (.iconst 0, 1) := by decide +kernel
theorem dX3_init_21 : decode cX3_init 21 = .ok (.putfield 21, 3) := by decide +kernel
theorem dX3_init_24 : decode cX3_init 24 = .ok (.aload_n 0, 1) := by decide +kernel
theorem dX3_init_25 : decode cX3_init 25 = .ok (.iconst 0, 1) := by decide +kernel
theorem dX3_init_26 : decode cX3_init 26 = .ok (.putfield 25, 3) := by decide +kernel
theorem dX3_init_29 : decode cX3_init 29 = .ok (.aload_n 0, 1) := by decide +kernel
theorem dX3_init_30 : decode cX3_init 30 = .ok (.iconst 0, 1) := by decide +kernel
theorem dX3_init_31 : decode cX3_init 31 = .ok (.putfield 28, 3) := by decide +kernel
theorem dX3_init_34 : decode cX3_init 34 = .ok (.return_, 1) := by decide +kernel
theorem dX3_enter_0 : decode cX3_enter 0 = .ok (.aload_n 0, 1) := by decide +kernel
theorem dX3_enter_1 : decode cX3_enter 1 = .ok (.iload_n 1, 1) := by decide +kernel
theorem dX3_enter_2 : decode cX3_enter 2 = .ok (.putfield 9, 3) := by decide +kernel
theorem dX3_enter_5 : decode cX3_enter 5 = .ok (.aload_n 0, 1) := by decide +kernel
theorem dX3_enter_6 : decode cX3_enter 6 = .ok (.iconst 0, 1) := by decide +kernel
theorem dX3_enter_7 : decode cX3_enter 7 = .ok (.putfield 15, 3) := by decide +kernel
theorem dX3_enter_10 : decode cX3_enter 10 = .ok (.iload_n 1, 1) := by decide +kernel
theorem dX3_enter_11 : decode cX3_enter 11 = .ok (.ireturn, 1) := by decide +kernel
theorem dX3_begin_0 : decode cX3_begin 0 = .ok (.aload_n 0, 1) := by decide +kernel
theorem dX3_begin_1 : decode cX3_begin 1 = .ok (.iconst 1, 1) := by decide +kernel
theorem dX3_begin_2 : decode cX3_begin 2 = .ok (.putfield 21, 3) := by decide +kernel
theorem dX3_begin_5 : decode cX3_begin 5 = .ok (.aload_n 0, 1) := by decide +kernel
theorem dX3_begin_6 : decode cX3_begin 6 = .ok (.iconst 1, 1) := by decide +kernel
theorem dX3_begin_7 : decode cX3_begin 7 = .ok (.putfield 25, 3) := by decide +kernel
theorem dX3_begin_10 : decode cX3_begin 10 = .ok (.aload_n 0, 1) := by decide +kernel
theorem dX3_begin_11 : decode cX3_begin 11 = .ok (.iconst 1, 1) := by decide +kernel
theorem dX3_begin_12 : decode cX3_begin 12 = .ok (.invokevirtual 31, 3) := by decide +kernel
theorem dX3_begin_15 : decode cX3_begin 15 = .ok (.ireturn, 1) := by decide +kernel
theorem dX3_shutDown_0 : decode cX3_shutDown 0 = .ok (.aload_n 0, 1) := by decide +kernel
theorem dX3_shutDown_1 : decode cX3_shutDown 1 = .ok (.dup, 1) := by decide +kernel
theorem dX3_shutDown_2 : decode cX3_shutDown 2 = .ok (.getfield 18, 3) := by decide +kernel
theorem dX3_shutDown_5 : decode cX3_shutDown 5 = .ok (.iconst 1, 1) := by decide +kernel
theorem dX3_shutDown_6 : decode cX3_shutDown 6 = .ok (.iadd, 1) := by decide +kernel
theorem dX3_shutDown_7 : decode cX3_shutDown 7 = .ok (.putfield 18, 3) := by decide +kernel
theorem dX3_shutDown_10 : decode cX3_shutDown 10 = .ok (.aload_n 0, 1) := by decide +kernel
theorem dX3_shutDown_11 : decode cX3_shutDown 11 = .ok (.iconst 4, 1) := by decide +kernel
theorem dX3_shutDown_12 : decode cX3_shutDown 12 = .ok (.invokevirtual 31, 3) := by decide +kernel
theorem dX3_shutDown_15 : decode cX3_shutDown 15 = .ok (.ireturn, 1) := by decide +kernel
theorem dX3_settle_0 : decode cX3_settle 0 = .ok (.aload_n 0, 1) := by decide +kernel
theorem dX3_settle_1 : decode cX3_settle 1 = .ok (.iconst 0, 1) := by decide +kernel
theorem dX3_settle_2 : decode cX3_settle 2 = .ok (.putfield 28, 3) := by decide +kernel
theorem dX3_settle_5 : decode cX3_settle 5 = .ok (.aload_n 0, 1) := by decide +kernel
theorem dX3_settle_6 : decode cX3_settle 6 = .ok (.iconst 0, 1) := by decide +kernel
theorem dX3_settle_7 : decode cX3_settle 7 = .ok (.invokevirtual 31, 3) := by decide +kernel
theorem dX3_settle_10 : decode cX3_settle 10 = .ok (.ireturn, 1) := by decide +kernel
theorem dX3_passTick_0 : decode cX3_passTick 0 = .ok (.aload_n 0, 1) := by decide +kernel
theorem dX3_passTick_1 : decode cX3_passTick 1 = .ok (.dup, 1) := by decide +kernel
theorem dX3_passTick_2 : decode cX3_passTick 2 = .ok (.getfield 15, 3) := by decide +kernel
theorem dX3_passTick_5 : decode cX3_passTick 5 = .ok (.iconst 1, 1) := by decide +kernel
theorem dX3_passTick_6 : decode cX3_passTick 6 = .ok (.iadd, 1) := by decide +kernel
theorem dX3_passTick_7 : decode cX3_passTick 7 = .ok (.putfield 15, 3) := by decide +kernel
theorem dX3_passTick_10 : decode cX3_passTick 10 = .ok (.aload_n 0, 1) := by decide +kernel
theorem dX3_passTick_11 : decode cX3_passTick 11 = .ok (.getfield 9, 3) := by decide +kernel
theorem dX3_passTick_14 : decode cX3_passTick 14 = .ok (.tableswitch 54 1 4 #[30, 30, 32, 48], 30) := by decide +kernel
theorem dX3_passTick_44 : decode cX3_passTick 44 = .ok (.iconst 1, 1) := by decide +kernel
theorem dX3_passTick_45 : decode cX3_passTick 45 = .ok (.ireturn, 1) := by decide +kernel
theorem dX3_passTick_46 : decode cX3_passTick 46 = .ok (.aload_n 0, 1) := by decide +kernel
theorem dX3_passTick_47 : decode cX3_passTick 47 = .ok (.getfield 15, 3) := by decide +kernel
theorem dX3_passTick_50 : decode cX3_passTick 50 = .ok (.iconst 2, 1) := by decide +kernel
theorem dX3_passTick_51 : decode cX3_passTick 51 = .ok (.irem, 1) := by decide +kernel
theorem dX3_passTick_52 : decode cX3_passTick 52 = .ok (.iconst 1, 1) := by decide +kernel
theorem dX3_passTick_53 : decode cX3_passTick 53 = .ok (.if_icmp .ne 7, 3) := by decide +kernel
theorem dX3_passTick_56 : decode cX3_passTick 56 = .ok (.iconst 1, 1) := by decide +kernel
theorem dX3_passTick_57 : decode cX3_passTick 57 = .ok (.goto 4, 3) := by decide +kernel
theorem dX3_passTick_60 : decode cX3_passTick 60 = .ok (.iconst 0, 1) := by decide +kernel
theorem dX3_passTick_61 : decode cX3_passTick 61 = .ok (.ireturn, 1) := by decide +kernel
theorem dX3_passTick_62 : decode cX3_passTick 62 = .ok (.aload_n 0, 1) := by decide +kernel
theorem dX3_passTick_63 : decode cX3_passTick 63 = .ok (.invokevirtual 35, 3) := by decide +kernel
theorem dX3_passTick_66 : decode cX3_passTick 66 = .ok (.iconst 0, 1) := by decide +kernel
theorem dX3_passTick_67 : decode cX3_passTick 67 = .ok (.ireturn, 1) := by decide +kernel
theorem dX3_passTick_68 : decode cX3_passTick 68 = .ok (.iconst 0, 1) := by decide +kernel
theorem dX3_passTick_69 : decode cX3_passTick 69 = .ok (.ireturn, 1) := by decide +kernel
theorem dX3_moveValve_0 : decode cX3_moveValve 0 = .ok (.aload_n 0, 1) := by decide +kernel
theorem dX3_moveValve_1 : decode cX3_moveValve 1 = .ok (.getfield 15, 3) := by decide +kernel
theorem dX3_moveValve_4 : decode cX3_moveValve 4 = .ok (.tableswitch 52 1 3 #[28, 36, 44], 28) := by decide +kernel
theorem dX3_moveValve_32 : decode cX3_moveValve 32 = .ok (.aload_n 0, 1) := by decide +kernel
theorem dX3_moveValve_33 : decode cX3_moveValve 33 = .ok (.iconst 0, 1) := by decide +kernel
theorem dX3_moveValve_34 : decode cX3_moveValve 34 = .ok (.putfield 21, 3) := by decide +kernel
theorem dX3_moveValve_37 : decode cX3_moveValve 37 = .ok (.goto 19, 3) := by decide +kernel
theorem dX3_moveValve_40 : decode cX3_moveValve 40 = .ok (.aload_n 0, 1) := by decide +kernel
theorem dX3_moveValve_41 : decode cX3_moveValve 41 = .ok (.iconst 0, 1) := by decide +kernel
theorem dX3_moveValve_42 : decode cX3_moveValve 42 = .ok (.putfield 25, 3) := by decide +kernel
theorem dX3_moveValve_45 : decode cX3_moveValve 45 = .ok (.goto 11, 3) := by decide +kernel
theorem dX3_moveValve_48 : decode cX3_moveValve 48 = .ok (.aload_n 0, 1) := by decide +kernel
theorem dX3_moveValve_49 : decode cX3_moveValve 49 = .ok (.iconst 1, 1) := by decide +kernel
theorem dX3_moveValve_50 : decode cX3_moveValve 50 = .ok (.putfield 28, 3) := by decide +kernel
theorem dX3_moveValve_53 : decode cX3_moveValve 53 = .ok (.goto 3, 3) := by decide +kernel
theorem dX3_moveValve_56 : decode cX3_moveValve 56 = .ok (.return_, 1) := by decide +kernel
theorem dX4_init_0 : decode cX4_init 0 = .ok (.aload_n 0, 1) := by decide +kernel
theorem dX4_init_1 : decode cX4_init 1 = .ok (.invokespecial 3, 3) := by decide +kernel
theorem dX4_init_4 : decode cX4_init 4 = .ok (.aload_n 0, 1) := by decide +kernel
theorem dX4_init_5 : decode cX4_init 5 = .ok (.bipush 8, 2) := by decide +kernel
theorem dX4_init_7 : decode cX4_init 7 = .ok (.newarray .int, 2) := by decide +kernel
theorem dX4_init_9 : decode cX4_init 9 = .ok (.putfield 9, 3) := by decide +kernel
theorem dX4_init_12 : decode cX4_init 12 = .ok (.aload_n 0, 1) := by decide +kernel
theorem dX4_init_13 : decode cX4_init 13 = .ok (.bipush 8, 2) := by decide +kernel
theorem dX4_init_15 : decode cX4_init 15 = .ok (.newarray .int, 2) := by decide +kernel
theorem dX4_init_17 : decode cX4_init 17 = .ok (.putfield 15, 3) := by decide +kernel
theorem dX4_init_20 : decode cX4_init 20 = .ok (.aload_n 0, 1) := by decide +kernel
theorem dX4_init_21 : decode cX4_init 21 = .ok (.iconst 4, 1) := by decide +kernel
theorem dX4_init_22 : decode cX4_init 22 = .ok (.bipush 20, 2) := by decide +kernel
theorem dX4_init_24 : decode cX4_init 24 = .ok (.invokevirtual 18, 3) := by decide +kernel
theorem dX4_init_27 : decode cX4_init 27 = .ok (.return_, 1) := by decide +kernel
theorem dX4_rebuild_0 : decode cX4_rebuild 0 = .ok (.aload_n 0, 1) := by decide +kernel
theorem dX4_rebuild_1 : decode cX4_rebuild 1 = .ok (.iload_n 1, 1) := by decide +kernel
theorem dX4_rebuild_2 : decode cX4_rebuild 2 = .ok (.putfield 22, 3) := by decide +kernel
theorem dX4_rebuild_5 : decode cX4_rebuild 5 = .ok (.aload_n 0, 1) := by decide +kernel
theorem dX4_rebuild_6 : decode cX4_rebuild 6 = .ok (.iload_n 2, 1) := by decide +kernel
theorem dX4_rebuild_7 : decode cX4_rebuild 7 = .ok (.putfield 26, 3) := by decide +kernel
theorem dX4_rebuild_10 : decode cX4_rebuild 10 = .ok (.aload_n 0, 1) := by decide +kernel
theorem dX4_rebuild_11 : decode cX4_rebuild 11 = .ok (.getfield 9, 3) := by decide +kernel
theorem dX4_rebuild_14 : decode cX4_rebuild 14 = .ok (.sipush 300, 3) := by decide +kernel
theorem dX4_rebuild_17 : decode cX4_rebuild 17 = .ok (.invokestatic 29, 3) := by decide +kernel
theorem dX4_rebuild_20 : decode cX4_rebuild 20 = .ok (.aload_n 0, 1) := by decide +kernel
theorem dX4_rebuild_21 : decode cX4_rebuild 21 = .ok (.getfield 15, 3) := by decide +kernel
theorem dX4_rebuild_24 : decode cX4_rebuild 24 = .ok (.sipush 300, 3) := by decide +kernel
theorem dX4_rebuild_27 : decode cX4_rebuild 27 = .ok (.invokestatic 29, 3) := by decide +kernel
theorem dX4_rebuild_30 : decode cX4_rebuild 30 = .ok (.aload_n 0, 1) := by decide +kernel
theorem dX4_rebuild_31 : decode cX4_rebuild 31 = .ok (.lconst 0, 1) := by decide +kernel
theorem dX4_rebuild_32 : decode cX4_rebuild 32 = .ok (.putfield 35, 3) := by decide +kernel
theorem dX4_rebuild_35 : decode cX4_rebuild 35 = .ok (.aload_n 0, 1) := by decide +kernel
theorem dX4_rebuild_36 : decode cX4_rebuild 36 = .ok (.lconst 0, 1) := by decide +kernel
theorem dX4_rebuild_37 : decode cX4_rebuild 37 = .ok (.putfield 39, 3) := by decide +kernel
theorem dX4_rebuild_40 : decode cX4_rebuild 40 = .ok (.aload_n 0, 1) := by decide +kernel
theorem dX4_rebuild_41 : decode cX4_rebuild 41 = .ok (.lconst 0, 1) := by decide +kernel
theorem dX4_rebuild_42 : decode cX4_rebuild 42 = .ok (.putfield 42, 3) := by decide +kernel
theorem dX4_rebuild_45 : decode cX4_rebuild 45 = .ok (.aload_n 0, 1) := by decide +kernel
theorem dX4_rebuild_46 : decode cX4_rebuild 46 = .ok (.lconst 0, 1) := by decide +kernel
theorem dX4_rebuild_47 : decode cX4_rebuild 47 = .ok (.putfield 45, 3) := by decide +kernel
theorem dX4_rebuild_50 : decode cX4_rebuild 50 = .ok (.return_, 1) := by decide +kernel
theorem dX4_pass_0 : decode cX4_pass 0 = .ok (.aload_n 0, 1) := by decide +kernel
theorem dX4_pass_1 : decode cX4_pass 1 = .ok (.invokevirtual 48, 3) := by decide +kernel
theorem dX4_pass_4 : decode cX4_pass 4 = .ok (.aload_n 0, 1) := by decide +kernel
theorem dX4_pass_5 : decode cX4_pass 5 = .ok (.getfield 9, 3) := by decide +kernel
theorem dX4_pass_8 : decode cX4_pass 8 = .ok (.aload_n 0, 1) := by decide +kernel
theorem dX4_pass_9 : decode cX4_pass 9 = .ok (.getfield 22, 3) := by decide +kernel
theorem dX4_pass_12 : decode cX4_pass 12 = .ok (.iconst 1, 1) := by decide +kernel
theorem dX4_pass_13 : decode cX4_pass 13 = .ok (.isub, 1) := by decide +kernel
theorem dX4_pass_14 : decode cX4_pass 14 = .ok (.iaload, 1) := by decide +kernel
theorem dX4_pass_15 : decode cX4_pass 15 = .ok (.istore_n 3, 1) := by decide +kernel
theorem dX4_pass_16 : decode cX4_pass 16 = .ok (.iload_n 3, 1) := by decide +kernel
theorem dX4_pass_17 : decode cX4_pass 17 = .ok (.iload_n 2, 1) := by decide +kernel
theorem dX4_pass_18 : decode cX4_pass 18 = .ok (.isub, 1) := by decide +kernel
theorem dX4_pass_19 : decode cX4_pass 19 = .ok (.istore 4, 2) := by decide +kernel
theorem dX4_pass_21 : decode cX4_pass 21 = .ok (.iload 4, 2) := by decide +kernel
theorem dX4_pass_23 : decode cX4_pass 23 = .ok (.bipush 80, 2) := by decide +kernel
theorem dX4_pass_25 : decode cX4_pass 25 = .ok (.invokestatic 51, 3) := by decide +kernel
theorem dX4_pass_28 : decode cX4_pass 28 = .ok (.istore 5, 2) := by decide +kernel
theorem dX4_pass_30 : decode cX4_pass 30 = .ok (.aload_n 0, 1) := by decide +kernel
theorem dX4_pass_31 : decode cX4_pass 31 = .ok (.dup, 1) := by decide +kernel
theorem dX4_pass_32 : decode cX4_pass 32 = .ok (.getfield 35, 3) := by decide +kernel
theorem dX4_pass_35 : decode cX4_pass 35 = .ok (.iload_n 1, 1) := by decide +kernel
theorem dX4_pass_36 : decode cX4_pass 36 = .ok (.i2l, 1) := by decide +kernel
theorem dX4_pass_37 : decode cX4_pass 37 = .ok (.ladd, 1) := by decide +kernel
theorem dX4_pass_38 : decode cX4_pass 38 = .ok (.putfield 35, 3) := by decide +kernel
theorem dX4_pass_41 : decode cX4_pass 41 = .ok (.aload_n 0, 1) := by decide +kernel
theorem dX4_pass_42 : decode cX4_pass 42 = .ok (.dup, 1) := by decide +kernel
theorem dX4_pass_43 : decode cX4_pass 43 = .ok (.getfield 39, 3) := by decide +kernel
theorem dX4_pass_46 : decode cX4_pass 46 = .ok (.aload_n 0, 1) := by decide +kernel
theorem dX4_pass_47 : decode cX4_pass 47 = .ok (.getfield 15, 3) := by decide +kernel
theorem dX4_pass_50 : decode cX4_pass 50 = .ok (.iconst 0, 1) := by decide +kernel
theorem dX4_pass_51 : decode cX4_pass 51 = .ok (.iaload, 1) := by decide +kernel
theorem dX4_pass_52 : decode cX4_pass 52 = .ok (.i2l, 1) := by decide +kernel
theorem dX4_pass_53 : decode cX4_pass 53 = .ok (.ladd, 1) := by decide +kernel
theorem dX4_pass_54 : decode cX4_pass 54 = .ok (.putfield 39, 3) := by decide +kernel
theorem dX4_pass_57 : decode cX4_pass 57 = .ok (.aload_n 0, 1) := by decide +kernel
theorem dX4_pass_58 : decode cX4_pass 58 = .ok (.dup, 1) := by decide +kernel
theorem dX4_pass_59 : decode cX4_pass 59 = .ok (.getfield 42, 3) := by decide +kernel
theorem dX4_pass_62 : decode cX4_pass 62 = .ok (.iload_n 3, 1) := by decide +kernel
theorem dX4_pass_63 : decode cX4_pass 63 = .ok (.iload 5, 2) := by decide +kernel
theorem dX4_pass_65 : decode cX4_pass 65 = .ok (.isub, 1) := by decide +kernel
theorem dX4_pass_66 : decode cX4_pass 66 = .ok (.i2l, 1) := by decide +kernel
theorem dX4_pass_67 : decode cX4_pass 67 = .ok (.ladd, 1) := by decide +kernel
theorem dX4_pass_68 : decode cX4_pass 68 = .ok (.putfield 42, 3) := by decide +kernel
theorem dX4_pass_71 : decode cX4_pass 71 = .ok (.aload_n 0, 1) := by decide +kernel
theorem dX4_pass_72 : decode cX4_pass 72 = .ok (.dup, 1) := by decide +kernel
theorem dX4_pass_73 : decode cX4_pass 73 = .ok (.getfield 45, 3) := by decide +kernel
theorem dX4_pass_76 : decode cX4_pass 76 = .ok (.lconst 1, 1) := by decide +kernel
theorem dX4_pass_77 : decode cX4_pass 77 = .ok (.ladd, 1) := by decide +kernel
theorem dX4_pass_78 : decode cX4_pass 78 = .ok (.putfield 45, 3) := by decide +kernel
theorem dX4_pass_81 : decode cX4_pass 81 = .ok (.aload_n 0, 1) := by decide +kernel
theorem dX4_pass_82 : decode cX4_pass 82 = .ok (.iload_n 1, 1) := by decide +kernel
theorem dX4_pass_83 : decode cX4_pass 83 = .ok (.iload 5, 2) := by decide +kernel
theorem dX4_pass_85 : decode cX4_pass 85 = .ok (.invokevirtual 57, 3) := by decide +kernel
theorem dX4_pass_88 : decode cX4_pass 88 = .ok (.iload 5, 2) := by decide +kernel
theorem dX4_pass_90 : decode cX4_pass 90 = .ok (.iload 4, 2) := by decide +kernel
theorem dX4_pass_92 : decode cX4_pass 92 = .ok (.isub, 1) := by decide +kernel
theorem dX4_pass_93 : decode cX4_pass 93 = .ok (.iconst 5, 1) := by decide +kernel
theorem dX4_pass_94 : decode cX4_pass 94 = .ok (.idiv, 1) := by decide +kernel
theorem dX4_pass_95 : decode cX4_pass 95 = .ok (.bipush 20, 2) := by decide +kernel
theorem dX4_pass_97 : decode cX4_pass 97 = .ok (.invokestatic 60, 3) := by decide +kernel
theorem dX4_pass_100 : decode cX4_pass 100 = .ok (.ireturn, 1) := by decide +kernel
theorem dX4_exchange_0 : decode cX4_exchange 0 = .ok (.iconst 0, 1) := by decide +kernel
theorem dX4_exchange_1 : decode cX4_exchange 1 = .ok (.istore_n 1, 1) := by decide +kernel
theorem dX4_exchange_2 : decode cX4_exchange 2 = .ok (.iload_n 1, 1) := by decide +kernel
theorem dX4_exchange_3 : decode cX4_exchange 3 = .ok (.aload_n 0, 1) := by decide +kernel
theorem dX4_exchange_4 : decode cX4_exchange 4 = .ok (.getfield 22, 3) := by decide +kernel
theorem dX4_exchange_7 : decode cX4_exchange 7 = .ok (.if_icmp .ge 51, 3) := by decide +kernel
theorem dX4_exchange_10 : decode cX4_exchange 10 = .ok (.aload_n 0, 1) := by decide +kernel
theorem dX4_exchange_11 : decode cX4_exchange 11 = .ok (.getfield 9, 3) := by decide +kernel
theorem dX4_exchange_14 : decode cX4_exchange 14 = .ok (.iload_n 1, 1) := by decide +kernel
theorem dX4_exchange_15 : decode cX4_exchange 15 = .ok (.iaload, 1) := by decide +kernel
theorem dX4_exchange_16 : decode cX4_exchange 16 = .ok (.aload_n 0, 1) := by decide +kernel
theorem dX4_exchange_17 : decode cX4_exchange 17 = .ok (.getfield 15, 3) := by decide +kernel
theorem dX4_exchange_20 : decode cX4_exchange 20 = .ok (.iload_n 1, 1) := by decide +kernel
theorem dX4_exchange_21 : decode cX4_exchange 21 = .ok (.iaload, 1) := by decide +kernel
theorem dX4_exchange_22 : decode cX4_exchange 22 = .ok (.isub, 1) := by decide +kernel
theorem dX4_exchange_23 : decode cX4_exchange 23 = .ok (.aload_n 0, 1) := by decide +kernel
theorem dX4_exchange_24 : decode cX4_exchange 24 = .ok (.getfield 26, 3) := by decide +kernel
theorem dX4_exchange_27 : decode cX4_exchange 27 = .ok (.imul, 1) := by decide +kernel
theorem dX4_exchange_28 : decode cX4_exchange 28 = .ok (.bipush 100, 2) := by decide +kernel
theorem dX4_exchange_30 : decode cX4_exchange 30 = .ok (.idiv, 1) := by decide +kernel
theorem dX4_exchange_31 : decode cX4_exchange 31 = .ok (.istore_n 2, 1) := by decide +kernel
theorem dX4_exchange_32 : decode cX4_exchange 32 = .ok (.aload_n 0, 1) := by decide +kernel
theorem dX4_exchange_33 : decode cX4_exchange 33 = .ok (.getfield 9, 3) := by decide +kernel
theorem dX4_exchange_36 : decode cX4_exchange 36 = .ok (.iload_n 1, 1) := by decide +kernel
theorem dX4_exchange_37 : decode cX4_exchange 37 = .ok (.dup2, 1) := by decide +kernel
theorem dX4_exchange_38 : decode cX4_exchange 38 = .ok (.iaload, 1) := by decide +kernel
theorem dX4_exchange_39 : decode cX4_exchange 39 = .ok (.iload_n 2, 1) := by decide +kernel
theorem dX4_exchange_40 : decode cX4_exchange 40 = .ok (.isub, 1) := by decide +kernel
theorem dX4_exchange_41 : decode cX4_exchange 41 = .ok (.iastore, 1) := by decide +kernel
theorem dX4_exchange_42 : decode cX4_exchange 42 = .ok (.aload_n 0, 1) := by decide +kernel
theorem dX4_exchange_43 : decode cX4_exchange 43 = .ok (.getfield 15, 3) := by decide +kernel
theorem dX4_exchange_46 : decode cX4_exchange 46 = .ok (.iload_n 1, 1) := by decide +kernel
theorem dX4_exchange_47 : decode cX4_exchange 47 = .ok (.dup2, 1) := by decide +kernel
theorem dX4_exchange_48 : decode cX4_exchange 48 = .ok (.iaload, 1) := by decide +kernel
theorem dX4_exchange_49 : decode cX4_exchange 49 = .ok (.iload_n 2, 1) := by decide +kernel
theorem dX4_exchange_50 : decode cX4_exchange 50 = .ok (.iadd, 1) := by decide +kernel
theorem dX4_exchange_51 : decode cX4_exchange 51 = .ok (.iastore, 1) := by decide +kernel
theorem dX4_exchange_52 : decode cX4_exchange 52 = .ok (.iinc 1 1, 3) := by decide +kernel
theorem dX4_exchange_55 : decode cX4_exchange 55 = .ok (.goto (-53), 3) := by decide +kernel
theorem dX4_exchange_58 : decode cX4_exchange 58 = .ok (.return_, 1) := by decide +kernel
theorem dX4_moveOn_0 : decode cX4_moveOn 0 = .ok (.aload_n 0, 1) := by decide +kernel
theorem dX4_moveOn_1 : decode cX4_moveOn 1 = .ok (.getfield 9, 3) := by decide +kernel
theorem dX4_moveOn_4 : decode cX4_moveOn 4 = .ok (.iconst 0, 1) := by decide +kernel
theorem dX4_moveOn_5 : decode cX4_moveOn 5 = .ok (.aload_n 0, 1) := by decide +kernel
theorem dX4_moveOn_6 : decode cX4_moveOn 6 = .ok (.getfield 9, 3) := by decide +kernel
theorem dX4_moveOn_9 : decode cX4_moveOn 9 = .ok (.iconst 1, 1) := by decide +kernel
theorem dX4_moveOn_10 : decode cX4_moveOn 10 = .ok (.aload_n 0, 1) := by decide +kernel
theorem dX4_moveOn_11 : decode cX4_moveOn 11 = .ok (.getfield 22, 3) := by decide +kernel
theorem dX4_moveOn_14 : decode cX4_moveOn 14 = .ok (.iconst 1, 1) := by decide +kernel
theorem dX4_moveOn_15 : decode cX4_moveOn 15 = .ok (.isub, 1) := by decide +kernel
theorem dX4_moveOn_16 : decode cX4_moveOn 16 = .ok (.invokestatic 63, 3) := by decide +kernel
theorem dX4_moveOn_19 : decode cX4_moveOn 19 = .ok (.aload_n 0, 1) := by decide +kernel
theorem dX4_moveOn_20 : decode cX4_moveOn 20 = .ok (.getfield 9, 3) := by decide +kernel
theorem dX4_moveOn_23 : decode cX4_moveOn 23 = .ok (.iconst 0, 1) := by decide +kernel
theorem dX4_moveOn_24 : decode cX4_moveOn 24 = .ok (.iload_n 1, 1) := by decide +kernel
theorem dX4_moveOn_25 : decode cX4_moveOn 25 = .ok (.iastore, 1) := by decide +kernel
theorem dX4_moveOn_26 : decode cX4_moveOn 26 = .ok (.aload_n 0, 1) := by decide +kernel
theorem dX4_moveOn_27 : decode cX4_moveOn 27 = .ok (.getfield 15, 3) := by decide +kernel
theorem dX4_moveOn_30 : decode cX4_moveOn 30 = .ok (.iconst 1, 1) := by decide +kernel
theorem dX4_moveOn_31 : decode cX4_moveOn 31 = .ok (.aload_n 0, 1) := by decide +kernel
theorem dX4_moveOn_32 : decode cX4_moveOn 32 = .ok (.getfield 15, 3) := by decide +kernel
theorem dX4_moveOn_35 : decode cX4_moveOn 35 = .ok (.iconst 0, 1) := by decide +kernel
theorem dX4_moveOn_36 : decode cX4_moveOn 36 = .ok (.aload_n 0, 1) := by decide +kernel
theorem dX4_moveOn_37 : decode cX4_moveOn 37 = .ok (.getfield 22, 3) := by decide +kernel
theorem dX4_moveOn_40 : decode cX4_moveOn 40 = .ok (.iconst 1, 1) := by decide +kernel
theorem dX4_moveOn_41 : decode cX4_moveOn 41 = .ok (.isub, 1) := by decide +kernel
theorem dX4_moveOn_42 : decode cX4_moveOn 42 = .ok (.invokestatic 63, 3) := by decide +kernel
theorem dX4_moveOn_45 : decode cX4_moveOn 45 = .ok (.aload_n 0, 1) := by decide +kernel
theorem dX4_moveOn_46 : decode cX4_moveOn 46 = .ok (.getfield 15, 3) := by decide +kernel
theorem dX4_moveOn_49 : decode cX4_moveOn 49 = .ok (.aload_n 0, 1) := by decide +kernel
theorem dX4_moveOn_50 : decode cX4_moveOn 50 = .ok (.getfield 22, 3) := by decide +kernel
theorem dX4_moveOn_53 : decode cX4_moveOn 53 = .ok (.iconst 1, 1) := by decide +kernel
theorem dX4_moveOn_54 : decode cX4_moveOn 54 = .ok (.isub, 1) := by decide +kernel
theorem dX4_moveOn_55 : decode cX4_moveOn 55 = .ok (.iload_n 2, 1) := by decide +kernel
theorem dX4_moveOn_56 : decode cX4_moveOn 56 = .ok (.iastore, 1) := by decide +kernel
theorem dX4_moveOn_57 : decode cX4_moveOn 57 = .ok (.return_, 1) := by decide +kernel
theorem dX5_init_0 : decode cX5_init 0 = .ok (.aload_n 0, 1) := by decide +kernel
theorem dX5_init_1 : decode cX5_init 1 = .ok (.invokespecial 3, 3) := by decide +kernel
theorem dX5_init_4 : decode cX5_init 4 = .ok (.aload_n 0, 1) := by decide +kernel
theorem dX5_init_5 : decode cX5_init 5 = .ok (.bipush 8, 2) := by decide +kernel
theorem dX5_init_7 : decode cX5_init 7 = .ok (.newarray .int, 2) := by decide +kernel
theorem dX5_init_9 : decode cX5_init 9 = .ok (.putfield 11, 3) := by decide +kernel
theorem dX5_init_12 : decode cX5_init 12 = .ok (.aload_n 0, 1) := by decide +kernel
theorem dX5_init_13 : decode cX5_init 13 = .ok (.bipush 8, 2) := by decide +kernel
theorem dX5_init_15 : decode cX5_init 15 = .ok (.newarray .int, 2) := by decide +kernel
theorem dX5_init_17 : decode cX5_init 17 = .ok (.putfield 15, 3) := by decide +kernel
theorem dX5_init_20 : decode cX5_init 20 = .ok (.aload_n 0, 1) := by decide +kernel
theorem dX5_init_21 : decode cX5_init 21 = .ok (.bipush 8, 2) := by decide +kernel
theorem dX5_init_23 : decode cX5_init 23 = .ok (.newarray .int, 2) := by decide +kernel
theorem dX5_init_25 : decode cX5_init 25 = .ok (.putfield 18, 3) := by decide +kernel
theorem dX5_init_28 : decode cX5_init 28 = .ok (.aload_n 0, 1) := by decide +kernel
theorem dX5_init_29 : decode cX5_init 29 = .ok (.iconst 0, 1) := by decide +kernel
theorem dX5_init_30 : decode cX5_init 30 = .ok (.putfield 21, 3) := by decide +kernel
theorem dX5_init_33 : decode cX5_init 33 = .ok (.aload_n 0, 1) := by decide +kernel
theorem dX5_init_34 : decode cX5_init 34 = .ok (.iconst 0, 1) := by decide +kernel
theorem dX5_init_35 : decode cX5_init 35 = .ok (.putfield 25, 3) := by decide +kernel
theorem dX5_init_38 : decode cX5_init 38 = .ok (.aload_n 0, 1) := by decide +kernel
theorem dX5_init_39 : decode cX5_init 39 = .ok (.iconst 0, 1) := by decide +kernel
theorem dX5_init_40 : decode cX5_init 40 = .ok (.putfield 28, 3) := by decide +kernel
theorem dX5_init_43 : decode cX5_init 43 = .ok (.return_, 1) := by decide +kernel
theorem dX5_accept_0 : decode cX5_accept 0 = .ok (.aload_n 0, 1) := by decide +kernel
theorem dX5_accept_1 : decode cX5_accept 1 = .ok (.getfield 21, 3) := by decide +kernel
theorem dX5_accept_4 : decode cX5_accept 4 = .ok (.bipush 8, 2) := by decide +kernel
theorem dX5_accept_6 : decode cX5_accept 6 = .ok (.if_icmp .lt 6, 3) := by decide +kernel
theorem dX5_accept_9 : decode cX5_accept 9 = .ok (.bipush (-3), 2) := by decide +kernel
theorem dX5_accept_11 : decode cX5_accept 11 = .ok (.ireturn, 1) := by decide +kernel
theorem dX5_accept_12 : decode cX5_accept 12 = .ok (.aload_n 0, 1) := by decide +kernel
theorem dX5_accept_13 : decode cX5_accept 13 = .ok (.getfield 11, 3) := by decide +kernel
theorem dX5_accept_16 : decode cX5_accept 16 = .ok (.aload_n 0, 1) := by decide +kernel
theorem dX5_accept_17 : decode cX5_accept 17 = .ok (.getfield 21, 3) := by decide +kernel
theorem dX5_accept_20 : decode cX5_accept 20 = .ok (.iload_n 1, 1) := by decide +kernel
theorem dX5_accept_21 : decode cX5_accept 21 = .ok (.iastore, 1) := by decide +kernel
theorem dX5_accept_22 : decode cX5_accept 22 = .ok (.aload_n 0, 1) := by decide +kernel
theorem dX5_accept_23 : decode cX5_accept 23 = .ok (.getfield 15, 3) := by decide +kernel
theorem dX5_accept_26 : decode cX5_accept 26 = .ok (.aload_n 0, 1) := by decide +kernel
theorem dX5_accept_27 : decode cX5_accept 27 = .ok (.getfield 21, 3) := by decide +kernel
theorem dX5_accept_30 : decode cX5_accept 30 = .ok (.iload_n 2, 1) := by decide +kernel
theorem dX5_accept_31 : decode cX5_accept 31 = .ok (.iastore, 1) := by decide +kernel
theorem dX5_accept_32 : decode cX5_accept 32 = .ok (.aload_n 0, 1) := by decide +kernel
theorem dX5_accept_33 : decode cX5_accept 33 = .ok (.getfield 18, 3) := by decide +kernel
theorem dX5_accept_36 : decode cX5_accept 36 = .ok (.aload_n 0, 1) := by decide +kernel
theorem dX5_accept_37 : decode cX5_accept 37 = .ok (.getfield 21, 3) := by decide +kernel
theorem dX5_accept_40 : decode cX5_accept 40 = .ok (.iconst 0, 1) := by decide +kernel
theorem dX5_accept_41 : decode cX5_accept 41 = .ok (.iastore, 1) := by decide +kernel
theorem dX5_accept_42 : decode cX5_accept 42 = .ok (.aload_n 0, 1) := by decide +kernel
theorem dX5_accept_43 : decode cX5_accept 43 = .ok (.dup, 1) := by decide +kernel
theorem dX5_accept_44 : decode cX5_accept 44 = .ok (.getfield 21, 3) := by decide +kernel
theorem dX5_accept_47 : decode cX5_accept 47 = .ok (.iconst 1, 1) := by decide +kernel
theorem dX5_accept_48 : decode cX5_accept 48 = .ok (.iadd, 1) := by decide +kernel
theorem dX5_accept_49 : decode cX5_accept 49 = .ok (.putfield 21, 3) := by decide +kernel
theorem dX5_accept_52 : decode cX5_accept 52 = .ok (.aload_n 0, 1) := by decide +kernel
theorem dX5_accept_53 : decode cX5_accept 53 = .ok (.getfield 21, 3) := by decide +kernel
theorem dX5_accept_56 : decode cX5_accept 56 = .ok (.iconst 1, 1) := by decide +kernel
theorem dX5_accept_57 : decode cX5_accept 57 = .ok (.isub, 1) := by decide +kernel
theorem dX5_accept_58 : decode cX5_accept 58 = .ok (.ireturn, 1) := by decide +kernel
theorem dX5_endDay_0 : decode cX5_endDay 0 = .ok (.iconst 0, 1) := by decide +kernel
theorem dX5_endDay_1 : decode cX5_endDay 1 = .ok (.istore_n 2, 1) := by decide +kernel
theorem dX5_endDay_2 : decode cX5_endDay 2 = .ok (.iconst 0, 1) := by decide +kernel
theorem dX5_endDay_3 : decode cX5_endDay 3 = .ok (.istore_n 3, 1) := by decide +kernel
theorem dX5_endDay_4 : decode cX5_endDay 4 = .ok (.iload_n 3, 1) := by decide +kernel
theorem dX5_endDay_5 : decode cX5_endDay 5 = .ok (.aload_n 0, 1) := by decide +kernel
theorem dX5_endDay_6 : decode cX5_endDay 6 = .ok (.getfield 21, 3) := by decide +kernel
theorem dX5_endDay_9 : decode cX5_endDay 9 = .ok (.if_icmp .ge 31, 3) := by decide +kernel
theorem dX5_endDay_12 : decode cX5_endDay 12 = .ok (.aload_n 0, 1) := by decide +kernel
theorem dX5_endDay_13 : decode cX5_endDay 13 = .ok (.getfield 15, 3) := by decide +kernel
theorem dX5_endDay_16 : decode cX5_endDay 16 = .ok (.iload_n 3, 1) := by decide +kernel
theorem dX5_endDay_17 : decode cX5_endDay 17 = .ok (.iaload, 1) := by decide +kernel
theorem dX5_endDay_18 : decode cX5_endDay 18 = .ok (.aload_n 0, 1) := by decide +kernel
theorem dX5_endDay_19 : decode cX5_endDay 19 = .ok (.getfield 25, 3) := by decide +kernel
theorem dX5_endDay_22 : decode cX5_endDay 22 = .ok (.if_icmp .ne 12, 3) := by decide +kernel
theorem dX5_endDay_25 : decode cX5_endDay 25 = .ok (.iload_n 2, 1) := by decide +kernel
theorem dX5_endDay_26 : decode cX5_endDay 26 = .ok (.aload_n 0, 1) := by decide +kernel
theorem dX5_endDay_27 : decode cX5_endDay 27 = .ok (.iload_n 3, 1) := by decide +kernel
theorem dX5_endDay_28 : decode cX5_endDay 28 = .ok (.aload_n 1, 1) := by decide +kernel
theorem dX5_endDay_29 : decode cX5_endDay 29 = .ok (.invokevirtual 31, 3) := by decide +kernel
theorem dX5_endDay_32 : decode cX5_endDay 32 = .ok (.iadd, 1) := by decide +kernel
theorem dX5_endDay_33 : decode cX5_endDay 33 = .ok (.istore_n 2, 1) := by decide +kernel
theorem dX5_endDay_34 : decode cX5_endDay 34 = .ok (.iinc 3 1, 3) := by decide +kernel
theorem dX5_endDay_37 : decode cX5_endDay 37 = .ok (.goto (-33), 3) := by decide +kernel
theorem dX5_endDay_40 : decode cX5_endDay 40 = .ok (.aload_n 0, 1) := by decide +kernel
theorem dX5_endDay_41 : decode cX5_endDay 41 = .ok (.dup, 1) := by decide +kernel
theorem dX5_endDay_42 : decode cX5_endDay 42 = .ok (.getfield 25, 3) := by decide +kernel
theorem dX5_endDay_45 : decode cX5_endDay 45 = .ok (.iconst 1, 1) := by decide +kernel
theorem dX5_endDay_46 : decode cX5_endDay 46 = .ok (.iadd, 1) := by decide +kernel
theorem dX5_endDay_47 : decode cX5_endDay 47 = .ok (.putfield 25, 3) := by decide +kernel
theorem dX5_endDay_50 : decode cX5_endDay 50 = .ok (.iload_n 2, 1) := by decide +kernel
theorem dX5_endDay_51 : decode cX5_endDay 51 = .ok (.ireturn, 1) := by decide +kernel
theorem dX5_settle_0 : decode cX5_settle 0 = .ok (.aload_n 2, 1) := by decide +kernel
theorem dX5_settle_1 : decode cX5_settle 1 = .ok (.aload_n 0, 1) := by decide +kernel
theorem dX5_settle_2 : decode cX5_settle 2 = .ok (.getfield 11, 3) := by decide +kernel
theorem dX5_settle_5 : decode cX5_settle 5 = .ok (.iload_n 1, 1) := by decide +kernel
theorem dX5_settle_6 : decode cX5_settle 6 = .ok (.iaload, 1) := by decide +kernel
theorem dX5_settle_7 : decode cX5_settle 7 = .ok (.invokevirtual 35, 3) := by decide +kernel
theorem dX5_settle_10 : decode cX5_settle 10 = .ok (.ifCond .eq 12, 3) := by decide +kernel
theorem dX5_settle_13 : decode cX5_settle 13 = .ok (.aload_n 0, 1) := by decide +kernel
theorem dX5_settle_14 : decode cX5_settle 14 = .ok (.getfield 18, 3) := by decide +kernel
theorem dX5_settle_17 : decode cX5_settle 17 = .ok (.iload_n 1, 1) := by decide +kernel
theorem dX5_settle_18 : decode cX5_settle 18 = .ok (.iconst 1, 1) := by decide +kernel
theorem dX5_settle_19 : decode cX5_settle 19 = .ok (.iastore, 1) := by decide +kernel
theorem dX5_settle_20 : decode cX5_settle 20 = .ok (.iconst 1, 1) := by decide +kernel
theorem dX5_settle_21 : decode cX5_settle 21 = .ok (.ireturn, 1) := by decide +kernel
theorem dX5_settle_22 : decode cX5_settle 22 = .ok (.aload_n 0, 1) := by decide +kernel
theorem dX5_settle_23 : decode cX5_settle 23 = .ok (.getfield 18, 3) := by decide +kernel
theorem dX5_settle_26 : decode cX5_settle 26 = .ok (.iload_n 1, 1) := by decide +kernel
theorem dX5_settle_27 : decode cX5_settle 27 = .ok (.iconst 2, 1) := by decide +kernel
theorem dX5_settle_28 : decode cX5_settle 28 = .ok (.iastore, 1) := by decide +kernel
theorem dX5_settle_29 : decode cX5_settle 29 = .ok (.aload_n 0, 1) := by decide +kernel
theorem dX5_settle_30 : decode cX5_settle 30 = .ok (.dup, 1) := by decide +kernel
theorem dX5_settle_31 : decode cX5_settle 31 = .ok (.getfield 28, 3) := by decide +kernel
theorem dX5_settle_34 : decode cX5_settle 34 = .ok (.iconst 1, 1) := by decide +kernel
theorem dX5_settle_35 : decode cX5_settle 35 = .ok (.iadd, 1) := by decide +kernel
theorem dX5_settle_36 : decode cX5_settle 36 = .ok (.putfield 28, 3) := by decide +kernel
theorem dX5_settle_39 : decode cX5_settle 39 = .ok (.iconst 0, 1) := by decide +kernel
theorem dX5_settle_40 : decode cX5_settle 40 = .ok (.ireturn, 1) := by decide +kernel
theorem dX5_tell_0 : decode cX5_tell 0 = .ok (.iload_n 1, 1) := by decide +kernel
theorem dX5_tell_1 : decode cX5_tell 1 = .ok (.ifCond .lt 11, 3) := by decide +kernel
theorem dX5_tell_4 : decode cX5_tell 4 = .ok (.iload_n 1, 1) := by decide +kernel
theorem dX5_tell_5 : decode cX5_tell 5 = .ok (.aload_n 0, 1) := by decide +kernel
theorem dX5_tell_6 : decode cX5_tell 6 = .ok (.getfield 21, 3) := by decide +kernel
theorem dX5_tell_9 : decode cX5_tell 9 = .ok (.if_icmp .lt 5, 3) := by decide +kernel
theorem dX5_tell_12 : decode cX5_tell 12 = .ok (.iconst (-1), 1) := by decide +kernel
theorem dX5_tell_13 : decode cX5_tell 13 = .ok (.ireturn, 1) := by decide +kernel
theorem dX5_tell_14 : decode cX5_tell 14 = .ok (.iload_n 2, 1) := by decide +kernel
theorem dX5_tell_15 : decode cX5_tell 15 = .ok (.tableswitch 46 0 2 #[25, 32, 39], 25) := by decide +kernel
theorem dX5_tell_40 : decode cX5_tell 40 = .ok (.aload_n 0, 1) := by decide +kernel
theorem dX5_tell_41 : decode cX5_tell 41 = .ok (.getfield 11, 3) := by decide +kernel
theorem dX5_tell_44 : decode cX5_tell 44 = .ok (.iload_n 1, 1) := by decide +kernel
theorem dX5_tell_45 : decode cX5_tell 45 = .ok (.iaload, 1) := by decide +kernel
theorem dX5_tell_46 : decode cX5_tell 46 = .ok (.ireturn, 1) := by decide +kernel
theorem dX5_tell_47 : decode cX5_tell 47 = .ok (.aload_n 0, 1) := by decide +kernel
theorem dX5_tell_48 : decode cX5_tell 48 = .ok (.getfield 15, 3) := by decide +kernel
theorem dX5_tell_51 : decode cX5_tell 51 = .ok (.iload_n 1, 1) := by decide +kernel
theorem dX5_tell_52 : decode cX5_tell 52 = .ok (.iaload, 1) := by decide +kernel
theorem dX5_tell_53 : decode cX5_tell 53 = .ok (.ireturn, 1) := by decide +kernel
theorem dX5_tell_54 : decode cX5_tell 54 = .ok (.aload_n 0, 1) := by decide +kernel
theorem dX5_tell_55 : decode cX5_tell 55 = .ok (.getfield 18, 3) := by decide +kernel
theorem dX5_tell_58 : decode cX5_tell 58 = .ok (.iload_n 1, 1) := by decide +kernel
theorem dX5_tell_59 : decode cX5_tell 59 = .ok (.iaload, 1) := by decide +kernel
theorem dX5_tell_60 : decode cX5_tell 60 = .ok (.ireturn, 1) := by decide +kernel
theorem dX5_tell_61 : decode cX5_tell 61 = .ok (.iconst (-1), 1) := by decide +kernel
theorem dX5_tell_62 : decode cX5_tell 62 = .ok (.ireturn, 1) := by decide +kernel
theorem dX6_init_0 : decode cX6_init 0 = .ok (.aload_n 0, 1) := by decide +kernel
theorem dX6_init_1 : decode cX6_init 1 = .ok (.invokespecial 3, 3) := by decide +kernel
theorem dX6_init_4 : decode cX6_init 4 = .ok (.aload_n 0, 1) := by decide +kernel
theorem dX6_init_5 : decode cX6_init 5 = .ok (.sipush 500, 3) := by decide +kernel
theorem dX6_init_8 : decode cX6_init 8 = .ok (.putfield 9, 3) := by decide +kernel
theorem dX6_init_11 : decode cX6_init 11 = .ok (.aload_n 0, 1) := by decide +kernel
theorem dX6_init_12 : decode cX6_init 12 = .ok (.iconst 0, 1) := by decide +kernel
theorem dX6_init_13 : decode cX6_init 13 = .ok (.putfield 15, 3) := by decide +kernel
theorem dX6_init_16 : decode cX6_init 16 = .ok (.aload_n 0, 1) := by decide +kernel
theorem dX6_init_17 : decode cX6_init 17 = .ok (.iconst 0, 1) := by decide +kernel
theorem dX6_init_18 : decode cX6_init 18 = .ok (.putfield 18, 3) := by decide +kernel
theorem dX6_init_21 : decode cX6_init 21 = .ok (.aload_n 0, 1) := by decide +kernel
theorem dX6_init_22 : decode cX6_init 22 = .ok (.lconst 0, 1) := by decide +kernel
theorem dX6_init_23 : decode cX6_init 23 = .ok (.putfield 21, 3) := by decide +kernel
theorem dX6_init_26 : decode cX6_init 26 = .ok (.aload_n 0, 1) := by decide +kernel
theorem dX6_init_27 : decode cX6_init 27 = .ok (.lconst 0, 1) := by decide +kernel
theorem dX6_init_28 : decode cX6_init 28 = .ok (.putfield 25, 3) := by decide +kernel
theorem dX6_init_31 : decode cX6_init 31 = .ok (.aload_n 0, 1) := by decide +kernel
theorem dX6_init_32 : decode cX6_init 32 = .ok (.lconst 0, 1) := by decide +kernel
theorem dX6_init_33 : decode cX6_init 33 = .ok (.putfield 28, 3) := by decide +kernel
theorem dX6_init_36 : decode cX6_init 36 = .ok (.return_, 1) := by decide +kernel
theorem dX6_isFull_0 : decode cX6_isFull 0 = .ok (.aload_n 0, 1) := by decide +kernel
theorem dX6_isFull_1 : decode cX6_isFull 1 = .ok (.getfield 15, 3) := by decide +kernel
theorem dX6_isFull_4 : decode cX6_isFull 4 = .ok (.aload_n 0, 1) := by decide +kernel
theorem dX6_isFull_5 : decode cX6_isFull 5 = .ok (.getfield 9, 3) := by decide +kernel
theorem dX6_isFull_8 : decode cX6_isFull 8 = .ok (.if_icmp .lt 7, 3) := by decide +kernel
theorem dX6_isFull_11 : decode cX6_isFull 11 = .ok (.iconst 1, 1) := by decide +kernel
theorem dX6_isFull_12 : decode cX6_isFull 12 = .ok (.goto 4, 3) := by decide +kernel
theorem dX6_isFull_15 : decode cX6_isFull 15 = .ok (.iconst 0, 1) := by decide +kernel
theorem dX6_isFull_16 : decode cX6_isFull 16 = .ok (.ireturn, 1) := by decide +kernel
theorem dX6_takeIn_0 : decode cX6_takeIn 0 = .ok (.aload_n 0, 1) := by decide +kernel
theorem dX6_takeIn_1 : decode cX6_takeIn 1 = .ok (.dup, 1) := by decide +kernel
theorem dX6_takeIn_2 : decode cX6_takeIn 2 = .ok (.getfield 21, 3) := by decide +kernel
theorem dX6_takeIn_5 : decode cX6_takeIn 5 = .ok (.iload_n 1, 1) := by decide +kernel
theorem dX6_takeIn_6 : decode cX6_takeIn 6 = .ok (.i2l, 1) := by decide +kernel
theorem dX6_takeIn_7 : decode cX6_takeIn 7 = .ok (.ladd, 1) := by decide +kernel
theorem dX6_takeIn_8 : decode cX6_takeIn 8 = .ok (.putfield 21, 3) := by decide +kernel
theorem dX6_takeIn_11 : decode cX6_takeIn 11 = .ok (.iload_n 1, 1) := by decide +kernel
theorem dX6_takeIn_12 : decode cX6_takeIn 12 = .ok (.aload_n 0, 1) := by decide +kernel
theorem dX6_takeIn_13 : decode cX6_takeIn 13 = .ok (.getfield 9, 3) := by decide +kernel
theorem dX6_takeIn_16 : decode cX6_takeIn 16 = .ok (.aload_n 0, 1) := by decide +kernel
theorem dX6_takeIn_17 : decode cX6_takeIn 17 = .ok (.getfield 15, 3) := by decide +kernel
theorem dX6_takeIn_20 : decode cX6_takeIn 20 = .ok (.isub, 1) := by decide +kernel
theorem dX6_takeIn_21 : decode cX6_takeIn 21 = .ok (.invokestatic 31, 3) := by decide +kernel
theorem dX6_takeIn_24 : decode cX6_takeIn 24 = .ok (.istore_n 2, 1) := by decide +kernel
theorem dX6_takeIn_25 : decode cX6_takeIn 25 = .ok (.iload_n 1, 1) := by decide +kernel
theorem dX6_takeIn_26 : decode cX6_takeIn 26 = .ok (.iload_n 2, 1) := by decide +kernel
theorem dX6_takeIn_27 : decode cX6_takeIn 27 = .ok (.isub, 1) := by decide +kernel
theorem dX6_takeIn_28 : decode cX6_takeIn 28 = .ok (.sipush 300, 3) := by decide +kernel
theorem dX6_takeIn_31 : decode cX6_takeIn 31 = .ok (.aload_n 0, 1) := by decide +kernel
theorem dX6_takeIn_32 : decode cX6_takeIn 32 = .ok (.getfield 18, 3) := by decide +kernel
theorem dX6_takeIn_35 : decode cX6_takeIn 35 = .ok (.isub, 1) := by decide +kernel
theorem dX6_takeIn_36 : decode cX6_takeIn 36 = .ok (.invokestatic 31, 3) := by decide +kernel
theorem dX6_takeIn_39 : decode cX6_takeIn 39 = .ok (.istore_n 3, 1) := by decide +kernel
theorem dX6_takeIn_40 : decode cX6_takeIn 40 = .ok (.aload_n 0, 1) := by decide +kernel
theorem dX6_takeIn_41 : decode cX6_takeIn 41 = .ok (.dup, 1) := by decide +kernel
theorem dX6_takeIn_42 : decode cX6_takeIn 42 = .ok (.getfield 15, 3) := by decide +kernel
theorem dX6_takeIn_45 : decode cX6_takeIn 45 = .ok (.iload_n 2, 1) := by decide +kernel
theorem dX6_takeIn_46 : decode cX6_takeIn 46 = .ok (.iadd, 1) := by decide +kernel
theorem dX6_takeIn_47 : decode cX6_takeIn 47 = .ok (.putfield 15, 3) := by decide +kernel
theorem dX6_takeIn_50 : decode cX6_takeIn 50 = .ok (.aload_n 0, 1) := by decide +kernel
theorem dX6_takeIn_51 : decode cX6_takeIn 51 = .ok (.dup, 1) := by decide +kernel
theorem dX6_takeIn_52 : decode cX6_takeIn 52 = .ok (.getfield 18, 3) := by decide +kernel
theorem dX6_takeIn_55 : decode cX6_takeIn 55 = .ok (.iload_n 3, 1) := by decide +kernel
theorem dX6_takeIn_56 : decode cX6_takeIn 56 = .ok (.iadd, 1) := by decide +kernel
theorem dX6_takeIn_57 : decode cX6_takeIn 57 = .ok (.putfield 18, 3) := by decide +kernel
theorem dX6_takeIn_60 : decode cX6_takeIn 60 = .ok (.aload_n 0, 1) := by decide +kernel
theorem dX6_takeIn_61 : decode cX6_takeIn 61 = .ok (.dup, 1) := by decide +kernel
theorem dX6_takeIn_62 : decode cX6_takeIn 62 = .ok (.getfield 28, 3) := by decide +kernel
theorem dX6_takeIn_65 : decode cX6_takeIn 65 = .ok (.iload_n 1, 1) := by decide +kernel
theorem dX6_takeIn_66 : decode cX6_takeIn 66 = .ok (.iload_n 2, 1) := by decide +kernel
theorem dX6_takeIn_67 : decode cX6_takeIn 67 = .ok (.isub, 1) := by decide +kernel
theorem dX6_takeIn_68 : decode cX6_takeIn 68 = .ok (.iload_n 3, 1) := by decide +kernel
theorem dX6_takeIn_69 : decode cX6_takeIn 69 = .ok (.isub, 1) := by decide +kernel
theorem dX6_takeIn_70 : decode cX6_takeIn 70 = .ok (.i2l, 1) := by decide +kernel
theorem dX6_takeIn_71 : decode cX6_takeIn 71 = .ok (.ladd, 1) := by decide +kernel
theorem dX6_takeIn_72 : decode cX6_takeIn 72 = .ok (.putfield 28, 3) := by decide +kernel
theorem dX6_takeIn_75 : decode cX6_takeIn 75 = .ok (.return_, 1) := by decide +kernel
theorem dX6_handOver_0 : decode cX6_handOver 0 = .ok (.iload_n 1, 1) := by decide +kernel
theorem dX6_handOver_1 : decode cX6_handOver 1 = .ok (.aload_n 0, 1) := by decide +kernel
theorem dX6_handOver_2 : decode cX6_handOver 2 = .ok (.getfield 15, 3) := by decide +kernel
theorem dX6_handOver_5 : decode cX6_handOver 5 = .ok (.if_icmp .le 5, 3) := by decide +kernel
theorem dX6_handOver_8 : decode cX6_handOver 8 = .ok (.iconst 0, 1) := by decide +kernel
theorem dX6_handOver_9 : decode cX6_handOver 9 = .ok (.ireturn, 1) := by decide +kernel
theorem dX6_handOver_10 : decode cX6_handOver 10 = .ok (.aload_n 0, 1) := by decide +kernel
theorem dX6_handOver_11 : decode cX6_handOver 11 = .ok (.dup, 1) := by decide +kernel
theorem dX6_handOver_12 : decode cX6_handOver 12 = .ok (.getfield 15, 3) := by decide +kernel
theorem dX6_handOver_15 : decode cX6_handOver 15 = .ok (.iload_n 1, 1) := by decide +kernel
theorem dX6_handOver_16 : decode cX6_handOver 16 = .ok (.isub, 1) := by decide +kernel
theorem dX6_handOver_17 : decode cX6_handOver 17 = .ok (.putfield 15, 3) := by decide +kernel
theorem dX6_handOver_20 : decode cX6_handOver 20 = .ok (.aload_n 0, 1) := by decide +kernel
theorem dX6_handOver_21 : decode cX6_handOver 21 = .ok (.dup, 1) := by decide +kernel
theorem dX6_handOver_22 : decode cX6_handOver 22 = .ok (.getfield 25, 3) := by decide +kernel
theorem dX6_handOver_25 : decode cX6_handOver 25 = .ok (.iload_n 1, 1) := by decide +kernel
theorem dX6_handOver_26 : decode cX6_handOver 26 = .ok (.i2l, 1) := by decide +kernel
theorem dX6_handOver_27 : decode cX6_handOver 27 = .ok (.ladd, 1) := by decide +kernel
theorem dX6_handOver_28 : decode cX6_handOver 28 = .ok (.putfield 25, 3) := by decide +kernel
theorem dX6_handOver_31 : decode cX6_handOver 31 = .ok (.iconst 1, 1) := by decide +kernel
theorem dX6_handOver_32 : decode cX6_handOver 32 = .ok (.ireturn, 1) := by decide +kernel
theorem dX6_reading_0 : decode cX6_reading 0 = .ok (.iload_n 1, 1) := by decide +kernel
theorem dX6_reading_1 : decode cX6_reading 1 = .ok (.tableswitch 42 0 2 #[27, 32, 37], 27) := by decide +kernel
theorem dX6_reading_28 : decode cX6_reading 28 = .ok (.aload_n 0, 1) := by decide +kernel
theorem dX6_reading_29 : decode cX6_reading 29 = .ok (.getfield 21, 3) := by decide +kernel
theorem dX6_reading_32 : decode cX6_reading 32 = .ok (.lreturn, 1) := by decide +kernel
theorem dX6_reading_33 : decode cX6_reading 33 = .ok (.aload_n 0, 1) := by decide +kernel
theorem dX6_reading_34 : decode cX6_reading 34 = .ok (.getfield 25, 3) := by decide +kernel
theorem dX6_reading_37 : decode cX6_reading 37 = .ok (.lreturn, 1) := by decide +kernel
theorem dX6_reading_38 : decode cX6_reading 38 = .ok (.aload_n 0, 1) := by decide +kernel
theorem dX6_reading_39 : decode cX6_reading 39 = .ok (.getfield 28, 3) := by decide +kernel
theorem dX6_reading_42 : decode cX6_reading 42 = .ok (.lreturn, 1) := by decide +kernel
theorem dX6_reading_43 : decode cX6_reading 43 = .ok (.aload_n 0, 1) := by decide +kernel
theorem dX6_reading_44 : decode cX6_reading 44 = .ok (.getfield 15, 3) := by decide +kernel
theorem dX6_reading_47 : decode cX6_reading 47 = .ok (.aload_n 0, 1) := by decide +kernel
theorem dX6_reading_48 : decode cX6_reading 48 = .ok (.getfield 18, 3) := by decide +kernel
theorem dX6_reading_51 : decode cX6_reading 51 = .ok (.iadd, 1) := by decide +kernel
theorem dX6_reading_52 : decode cX6_reading 52 = .ok (.i2l, 1) := by decide +kernel
theorem dX6_reading_53 : decode cX6_reading 53 = .ok (.lreturn, 1) := by decide +kernel
theorem dX7_init_0 : decode cX7_init 0 = .ok (.aload_n 0, 1) := by decide +kernel
theorem dX7_init_1 : decode cX7_init 1 = .ok (.invokespecial 1, 3) := by decide +kernel
theorem dX7_init_4 : decode cX7_init 4 = .ok (.return_, 1) := by decide +kernel
theorem dX7_coldAt_0 : decode cX7_coldAt 0 = .ok (.iload_n 1, 1) := by decide +kernel
theorem dX7_coldAt_1 : decode cX7_coldAt 1 = .ok (.iconst 4, 1) := by decide +kernel
theorem dX7_coldAt_2 : decode cX7_coldAt 2 = .ok (.idiv, 1) := by decide +kernel
theorem dX7_coldAt_3 : decode cX7_coldAt 3 = .ok (.ireturn, 1) := by decide +kernel
theorem dX7_traceWeight_0 : decode cX7_traceWeight 0 = .ok (.iconst 1, 1) := by decide +kernel
theorem dX7_traceWeight_1 : decode cX7_traceWeight 1 = .ok (.ireturn, 1) := by decide +kernel
theorem dX8_init_0 : decode cX8_init 0 = .ok (.aload_n 0, 1) := by decide +kernel
theorem dX8_init_1 : decode cX8_init 1 = .ok (.invokespecial 1, 3) := by decide +kernel
theorem dX8_init_4 : decode cX8_init 4 = .ok (.aload_n 0, 1) := by decide +kernel
theorem dX8_init_5 : decode cX8_init 5 = .ok (.aload_n 1, 1) := by decide +kernel
theorem dX8_init_6 : decode cX8_init 6 = .ok (.putfield 7, 3) := by decide +kernel
theorem dX8_init_9 : decode cX8_init 9 = .ok (.return_, 1) := by decide +kernel
theorem dX8_coldAt_0 : decode cX8_coldAt 0 = .ok (.iload_n 1, 1) := by decide +kernel
theorem dX8_coldAt_1 : decode cX8_coldAt 1 = .ok (.bipush 10, 2) := by decide +kernel
theorem dX8_coldAt_3 : decode cX8_coldAt 3 = .ok (.idiv, 1) := by decide +kernel
theorem dX8_coldAt_4 : decode cX8_coldAt 4 = .ok (.istore_n 2, 1) := by decide +kernel
theorem dX8_coldAt_5 : decode cX8_coldAt 5 = .ok (.iload_n 1, 1) := by decide +kernel
theorem dX8_coldAt_6 : decode cX8_coldAt 6 = .ok (.bipush 10, 2) := by decide +kernel
theorem dX8_coldAt_8 : decode cX8_coldAt 8 = .ok (.irem, 1) := by decide +kernel
theorem dX8_coldAt_9 : decode cX8_coldAt 9 = .ok (.istore_n 3, 1) := by decide +kernel
theorem dX8_coldAt_10 : decode cX8_coldAt 10 = .ok (.aload_n 0, 1) := by decide +kernel
theorem dX8_coldAt_11 : decode cX8_coldAt 11 = .ok (.iload_n 1, 1) := by decide +kernel
theorem dX8_coldAt_12 : decode cX8_coldAt 12 = .ok (.invokespecial 13, 3) := by decide +kernel
theorem dX8_coldAt_15 : decode cX8_coldAt 15 = .ok (.bipush 10, 2) := by decide +kernel
theorem dX8_coldAt_17 : decode cX8_coldAt 17 = .ok (.iload_n 3, 1) := by decide +kernel
theorem dX8_coldAt_18 : decode cX8_coldAt 18 = .ok (.isub, 1) := by decide +kernel
theorem dX8_coldAt_19 : decode cX8_coldAt 19 = .ok (.aload_n 0, 1) := by decide +kernel
theorem dX8_coldAt_20 : decode cX8_coldAt 20 = .ok (.iload_n 2, 1) := by decide +kernel
theorem dX8_coldAt_21 : decode cX8_coldAt 21 = .ok (.invokevirtual 17, 3) := by decide +kernel
theorem dX8_coldAt_24 : decode cX8_coldAt 24 = .ok (.imul, 1) := by decide +kernel
theorem dX8_coldAt_25 : decode cX8_coldAt 25 = .ok (.iload_n 3, 1) := by decide +kernel
theorem dX8_coldAt_26 : decode cX8_coldAt 26 = .ok (.aload_n 0, 1) := by decide +kernel
theorem dX8_coldAt_27 : decode cX8_coldAt 27 = .ok (.iload_n 2, 1) := by decide +kernel
theorem dX8_coldAt_28 : decode cX8_coldAt 28 = .ok (.iconst 1, 1) := by decide +kernel
theorem dX8_coldAt_29 : decode cX8_coldAt 29 = .ok (.iadd, 1) := by decide +kernel
theorem dX8_coldAt_30 : decode cX8_coldAt 30 = .ok (.invokevirtual 17, 3) := by decide +kernel
theorem dX8_coldAt_33 : decode cX8_coldAt 33 = .ok (.imul, 1) := by decide +kernel
theorem dX8_coldAt_34 : decode cX8_coldAt 34 = .ok (.iadd, 1) := by decide +kernel
theorem dX8_coldAt_35 : decode cX8_coldAt 35 = .ok (.bipush 10, 2) := by decide +kernel
theorem dX8_coldAt_37 : decode cX8_coldAt 37 = .ok (.idiv, 1) := by decide +kernel
theorem dX8_coldAt_38 : decode cX8_coldAt 38 = .ok (.iadd, 1) := by decide +kernel
theorem dX8_coldAt_39 : decode cX8_coldAt 39 = .ok (.ireturn, 1) := by decide +kernel
theorem dX8_traceWeight_0 : decode cX8_traceWeight 0 = .ok (.aload_n 0, 1) := by decide +kernel
theorem dX8_traceWeight_1 : decode cX8_traceWeight 1 = .ok (.invokespecial 20, 3) := by decide +kernel
theorem dX8_traceWeight_4 : decode cX8_traceWeight 4 = .ok (.bipush 10, 2) := by decide +kernel
theorem dX8_traceWeight_6 : decode cX8_traceWeight 6 = .ok (.iadd, 1) := by decide +kernel
theorem dX8_traceWeight_7 : decode cX8_traceWeight 7 = .ok (.ireturn, 1) := by decide +kernel
theorem dX8_corner_0 : decode cX8_corner 0 = .ok (.iload_n 1, 1) := by decide +kernel
theorem dX8_corner_1 : decode cX8_corner 1 = .ok (.ifCond .lt 21, 3) := by decide +kernel
theorem dX8_corner_4 : decode cX8_corner 4 = .ok (.iload_n 1, 1) := by decide +kernel
theorem dX8_corner_5 : decode cX8_corner 5 = .ok (.aload_n 0, 1) := by decide +kernel
theorem dX8_corner_6 : decode cX8_corner 6 = .ok (.getfield 7, 3) := by decide +kernel
theorem dX8_corner_9 : decode cX8_corner 9 = .ok (.arraylength, 1) := by decide +kernel
theorem dX8_corner_10 : decode cX8_corner 10 = .ok (.if_icmp .ge 12, 3) := by decide +kernel
theorem dX8_corner_13 : decode cX8_corner 13 = .ok (.aload_n 0, 1) := by decide +kernel
theorem dX8_corner_14 : decode cX8_corner 14 = .ok (.getfield 7, 3) := by decide +kernel
theorem dX8_corner_17 : decode cX8_corner 17 = .ok (.iload_n 1, 1) := by decide +kernel
theorem dX8_corner_18 : decode cX8_corner 18 = .ok (.iaload, 1) := by decide +kernel
theorem dX8_corner_19 : decode cX8_corner 19 = .ok (.goto 4, 3) := by decide +kernel
theorem dX8_corner_22 : decode cX8_corner 22 = .ok (.iconst 0, 1) := by decide +kernel
theorem dX8_corner_23 : decode cX8_corner 23 = .ok (.ireturn, 1) := by decide +kernel
theorem dX9_init_0 : decode cX9_init 0 = .ok (.aload_n 0, 1) := by decide +kernel
theorem dX9_init_1 : decode cX9_init 1 = .ok (.invokespecial 1, 3) := by decide +kernel
theorem dX9_init_4 : decode cX9_init 4 = .ok (.aload_n 0, 1) := by decide +kernel
theorem dX9_init_5 : decode cX9_init 5 = .ok (.bipush 6, 2) := by decide +kernel
theorem dX9_init_7 : decode cX9_init 7 = .ok (.anewarray 9, 3) := by decide +kernel
theorem dX9_init_10 : decode cX9_init 10 = .ok (.putfield 11, 3) := by decide +kernel
theorem dX9_init_13 : decode cX9_init 13 = .ok (.aload_n 0, 1) := by decide +kernel
theorem dX9_init_14 : decode cX9_init 14 = .ok (.new 15, 3) := by decide +kernel
theorem dX9_init_17 : decode cX9_init 17 = .ok (.dup, 1) := by decide +kernel
theorem dX9_init_18 : decode cX9_init 18 = .ok (.invokespecial 17, 3) := by decide +kernel
theorem dX9_init_21 : decode cX9_init 21 = .ok (.putfield 18, 3) := by decide +kernel
theorem dX9_init_24 : decode cX9_init 24 = .ok (.aload_n 0, 1) := by decide +kernel
theorem dX9_init_25 : decode cX9_init 25 = .ok (.new 22, 3) := by decide +kernel
theorem dX9_init_28 : decode cX9_init 28 = .ok (.dup, 1) := by decide +kernel
theorem dX9_init_29 : decode cX9_init 29 = .ok (.invokespecial 24, 3) := by decide +kernel
theorem dX9_init_32 : decode cX9_init 32 = .ok (.putfield 25, 3) := by decide +kernel
theorem dX9_init_35 : decode cX9_init 35 = .ok (.aload_n 0, 1) := by decide +kernel
theorem dX9_init_36 : decode cX9_init 36 = .ok (.new 29, 3) := by decide +kernel
theorem dX9_init_39 : decode cX9_init 39 = .ok (.dup, 1) := by decide +kernel
theorem dX9_init_40 : decode cX9_init 40 = .ok (.invokespecial 31, 3) := by decide +kernel
theorem dX9_init_43 : decode cX9_init 43 = .ok (.putfield 32, 3) := by decide +kernel
theorem dX9_init_46 : decode cX9_init 46 = .ok (.aload_n 0, 1) := by decide +kernel
theorem dX9_init_47 : decode cX9_init 47 = .ok (.new 36, 3) := by decide +kernel
theorem dX9_init_50 : decode cX9_init 50 = .ok (.dup, 1) := by decide +kernel
theorem dX9_init_51 : decode cX9_init 51 = .ok (.invokespecial 38, 3) := by decide +kernel
theorem dX9_init_54 : decode cX9_init 54 = .ok (.putfield 39, 3) := by decide +kernel
theorem dX9_init_57 : decode cX9_init 57 = .ok (.aload_n 0, 1) := by decide +kernel
theorem dX9_init_58 : decode cX9_init 58 = .ok (.new 43, 3) := by decide +kernel
theorem dX9_init_61 : decode cX9_init 61 = .ok (.dup, 1) := by decide +kernel
theorem dX9_init_62 : decode cX9_init 62 = .ok (.invokespecial 45, 3) := by decide +kernel
theorem dX9_init_65 : decode cX9_init 65 = .ok (.putfield 46, 3) := by decide +kernel
theorem dX9_init_68 : decode cX9_init 68 = .ok (.aload_n 0, 1) := by decide +kernel
theorem dX9_init_69 : decode cX9_init 69 = .ok (.iconst 4, 1) := by decide +kernel
theorem dX9_init_70 : decode cX9_init 70 = .ok (.newarray .boolean, 2) := by decide +kernel
theorem dX9_init_72 : decode cX9_init 72 = .ok (.putfield 50, 3) := by decide +kernel
theorem dX9_init_75 : decode cX9_init 75 = .ok (.aload_n 0, 1) := by decide +kernel
theorem dX9_init_76 : decode cX9_init 76 = .ok (.iconst 0, 1) := by decide +kernel
theorem dX9_init_77 : decode cX9_init 77 = .ok (.putfield 54, 3) := by decide +kernel
theorem dX9_init_80 : decode cX9_init 80 = .ok (.aload_n 0, 1) := by decide +kernel
theorem dX9_init_81 : decode cX9_init 81 = .ok (.bipush (-9), 2) := by decide +kernel
theorem dX9_init_83 : decode cX9_init 83 = .ok (.putfield 58, 3) := by decide +kernel
theorem dX9_init_86 : decode cX9_init 86 = .ok (.aload_n 0, 1) := by decide +kernel
theorem dX9_init_87 : decode cX9_init 87 = .ok (.iconst 0, 1) := by decide +kernel
theorem dX9_init_88 : decode cX9_init 88 = .ok (.putfield 61, 3) := by decide +kernel
theorem dX9_init_91 : decode cX9_init 91 = .ok (.aload_n 0, 1) := by decide +kernel
theorem dX9_init_92 : decode cX9_init 92 = .ok (.sipush 300, 3) := by decide +kernel
theorem dX9_init_95 : decode cX9_init 95 = .ok (.putfield 64, 3) := by decide +kernel
theorem dX9_init_98 : decode cX9_init 98 = .ok (.aload_n 0, 1) := by decide +kernel
theorem dX9_init_99 : decode cX9_init 99 = .ok (.iconst 0, 1) := by decide +kernel
theorem dX9_init_100 : decode cX9_init 100 = .ok (.putfield 67, 3) := by decide +kernel
theorem dX9_init_103 : decode cX9_init 103 = .ok (.aload_n 0, 1) := by decide +kernel
theorem dX9_init_104 : decode cX9_init 104 = .ok (.lconst 0, 1) := by decide +kernel
theorem dX9_init_105 : decode cX9_init 105 = .ok (.putfield 70, 3) := by decide +kernel
theorem dX9_init_108 : decode cX9_init 108 = .ok (.return_, 1) := by decide +kernel
theorem dX9_cooler_0 : decode cX9_cooler 0 = .ok (.iload_n 1, 1) := by decide +kernel
theorem dX9_cooler_1 : decode cX9_cooler 1 = .ok (.iconst 0, 1) := by decide +kernel
theorem dX9_cooler_2 : decode cX9_cooler 2 = .ok (.iconst 2, 1) := by decide +kernel
theorem dX9_cooler_3 : decode cX9_cooler 3 = .ok (.invokestatic 74, 3) := by decide +kernel
theorem dX9_cooler_6 : decode cX9_cooler 6 = .ok (.ifCond .ne 5, 3) := by decide +kernel
theorem dX9_cooler_9 : decode cX9_cooler 9 = .ok (.iconst (-1), 1) := by decide +kernel
theorem dX9_cooler_10 : decode cX9_cooler 10 = .ok (.ireturn, 1) := by decide +kernel
theorem dX9_cooler_11 : decode cX9_cooler 11 = .ok (.iload_n 1, 1) := by decide +kernel
theorem dX9_cooler_12 : decode cX9_cooler 12 = .ok (.ifCond .eq 19, 3) := by decide +kernel
theorem dX9_cooler_15 : decode cX9_cooler 15 = .ok (.iload_n 2, 1) := by decide +kernel
theorem dX9_cooler_16 : decode cX9_cooler 16 = .ok (.iload_n 3, 1) := by decide +kernel
theorem dX9_cooler_17 : decode cX9_cooler 17 = .ok (.iload 4, 2) := by decide +kernel
theorem dX9_cooler_19 : decode cX9_cooler 19 = .ok (.iload 5, 2) := by decide +kernel
theorem dX9_cooler_21 : decode cX9_cooler 21 = .ok (.iload 6, 2) := by decide +kernel
theorem dX9_cooler_23 : decode cX9_cooler 23 = .ok (.invokestatic 78, 3) := by decide +kernel
theorem dX9_cooler_26 : decode cX9_cooler 26 = .ok (.ifCond .ne 5, 3) := by decide +kernel
theorem dX9_cooler_29 : decode cX9_cooler 29 = .ok (.iconst (-1), 1) := by decide +kernel
theorem dX9_cooler_30 : decode cX9_cooler 30 = .ok (.ireturn, 1) := by decide +kernel
theorem dX9_cooler_31 : decode cX9_cooler 31 = .ok (.iload_n 1, 1) := by decide +kernel
theorem dX9_cooler_32 : decode cX9_cooler 32 = .ok (.iconst 2, 1) := by decide +kernel
theorem dX9_cooler_33 : decode cX9_cooler 33 = .ok (.if_icmp .ne 16, 3) := by decide +kernel
theorem dX9_cooler_36 : decode cX9_cooler 36 = .ok (.iload 7, 2) := by decide +kernel
theorem dX9_cooler_38 : decode cX9_cooler 38 = .ok (.iconst 0, 1) := by decide +kernel
theorem dX9_cooler_39 : decode cX9_cooler 39 = .ok (.bipush 60, 2) := by decide +kernel
theorem dX9_cooler_41 : decode cX9_cooler 41 = .ok (.invokestatic 74, 3) := by decide +kernel
theorem dX9_cooler_44 : decode cX9_cooler 44 = .ok (.ifCond .ne 5, 3) := by decide +kernel
theorem dX9_cooler_47 : decode cX9_cooler 47 = .ok (.iconst (-1), 1) := by decide +kernel
theorem dX9_cooler_48 : decode cX9_cooler 48 = .ok (.ireturn, 1) := by decide +kernel
theorem dX9_cooler_49 : decode cX9_cooler 49 = .ok (.aload_n 0, 1) := by decide +kernel
theorem dX9_cooler_50 : decode cX9_cooler 50 = .ok (.getfield 54, 3) := by decide +kernel
theorem dX9_cooler_53 : decode cX9_cooler 53 = .ok (.bipush 6, 2) := by decide +kernel
theorem dX9_cooler_55 : decode cX9_cooler 55 = .ok (.if_icmp .lt 6, 3) := by decide +kernel
theorem dX9_cooler_58 : decode cX9_cooler 58 = .ok (.bipush (-3), 2) := by decide +kernel
theorem dX9_cooler_60 : decode cX9_cooler 60 = .ok (.ireturn, 1) := by decide +kernel
theorem dX9_cooler_61 : decode cX9_cooler 61 = .ok (.aload_n 0, 1) := by decide +kernel
theorem dX9_cooler_62 : decode cX9_cooler 62 = .ok (.getfield 11, 3) := by decide +kernel
theorem dX9_cooler_65 : decode cX9_cooler 65 = .ok (.aload_n 0, 1) := by decide +kernel
theorem dX9_cooler_66 : decode cX9_cooler 66 = .ok (.getfield 54, 3) := by decide +kernel
theorem dX9_cooler_69 : decode cX9_cooler 69 = .ok (.iload_n 1, 1) := by decide +kernel
theorem dX9_cooler_70 : decode cX9_cooler 70 = .ok (.iload_n 2, 1) := by decide +kernel
theorem dX9_cooler_71 : decode cX9_cooler 71 = .ok (.iload_n 3, 1) := by decide +kernel
theorem dX9_cooler_72 : decode cX9_cooler 72 = .ok (.iload 4, 2) := by decide +kernel
theorem dX9_cooler_74 : decode cX9_cooler 74 = .ok (.iload 5, 2) := by decide +kernel
theorem dX9_cooler_76 : decode cX9_cooler 76 = .ok (.iload 6, 2) := by decide +kernel
theorem dX9_cooler_78 : decode cX9_cooler 78 = .ok (.iload 7, 2) := by decide +kernel
theorem dX9_cooler_80 : decode cX9_cooler 80 = .ok (.invokestatic 82, 3) := by decide +kernel
theorem dX9_cooler_83 : decode cX9_cooler 83 = .ok (.aastore, 1) := by decide +kernel
theorem dX9_cooler_84 : decode cX9_cooler 84 = .ok (.aload_n 0, 1) := by decide +kernel
theorem dX9_cooler_85 : decode cX9_cooler 85 = .ok (.dup, 1) := by decide +kernel
theorem dX9_cooler_86 : decode cX9_cooler 86 = .ok (.getfield 54, 3) := by decide +kernel
theorem dX9_cooler_89 : decode cX9_cooler 89 = .ok (.iconst 1, 1) := by decide +kernel
theorem dX9_cooler_90 : decode cX9_cooler 90 = .ok (.iadd, 1) := by decide +kernel
theorem dX9_cooler_91 : decode cX9_cooler 91 = .ok (.putfield 54, 3) := by decide +kernel
theorem dX9_cooler_94 : decode cX9_cooler 94 = .ok (.aload_n 0, 1) := by decide +kernel
theorem dX9_cooler_95 : decode cX9_cooler 95 = .ok (.getfield 54, 3) := by decide +kernel
theorem dX9_cooler_98 : decode cX9_cooler 98 = .ok (.iconst 1, 1) := by decide +kernel
theorem dX9_cooler_99 : decode cX9_cooler 99 = .ok (.isub, 1) := by decide +kernel
theorem dX9_cooler_100 : decode cX9_cooler 100 = .ok (.ireturn, 1) := by decide +kernel
theorem dX9_cold_0 : decode cX9_cold 0 = .ok (.aload_n 0, 1) := by decide +kernel
theorem dX9_cold_1 : decode cX9_cold 1 = .ok (.iload_n 1, 1) := by decide +kernel
theorem dX9_cold_2 : decode cX9_cold 2 = .ok (.invokevirtual 86, 3) := by decide +kernel
theorem dX9_cold_5 : decode cX9_cold 5 = .ok (.ifCond .eq 13, 3) := by decide +kernel
theorem dX9_cold_8 : decode cX9_cold 8 = .ok (.iload_n 2, 1) := by decide +kernel
theorem dX9_cold_9 : decode cX9_cold 9 = .ok (.iconst 0, 1) := by decide +kernel
theorem dX9_cold_10 : decode cX9_cold 10 = .ok (.bipush 40, 2) := by decide +kernel
theorem dX9_cold_12 : decode cX9_cold 12 = .ok (.invokestatic 74, 3) := by decide +kernel
theorem dX9_cold_15 : decode cX9_cold 15 = .ok (.ifCond .ne 5, 3) := by decide +kernel
theorem dX9_cold_18 : decode cX9_cold 18 = .ok (.iconst (-1), 1) := by decide +kernel
theorem dX9_cold_19 : decode cX9_cold 19 = .ok (.ireturn, 1) := by decide +kernel
theorem dX9_cold_20 : decode cX9_cold 20 = .ok (.aload_n 0, 1) := by decide +kernel
theorem dX9_cold_21 : decode cX9_cold 21 = .ok (.dup, 1) := by decide +kernel
theorem dX9_cold_22 : decode cX9_cold 22 = .ok (.getfield 70, 3) := by decide +kernel
theorem dX9_cold_25 : decode cX9_cold 25 = .ok (.aload_n 0, 1) := by decide +kernel
theorem dX9_cold_26 : decode cX9_cold 26 = .ok (.iload_n 1, 1) := by decide +kernel
theorem dX9_cold_27 : decode cX9_cold 27 = .ok (.invokevirtual 90, 3) := by decide +kernel
theorem dX9_cold_30 : decode cX9_cold 30 = .ok (.i2l, 1) := by decide +kernel
theorem dX9_cold_31 : decode cX9_cold 31 = .ok (.ladd, 1) := by decide +kernel
theorem dX9_cold_32 : decode cX9_cold 32 = .ok (.putfield 70, 3) := by decide +kernel
theorem dX9_cold_35 : decode cX9_cold 35 = .ok (.aload_n 0, 1) := by decide +kernel
theorem dX9_cold_36 : decode cX9_cold 36 = .ok (.iload_n 1, 1) := by decide +kernel
theorem dX9_cold_37 : decode cX9_cold 37 = .ok (.iload_n 2, 1) := by decide +kernel
theorem dX9_cold_38 : decode cX9_cold 38 = .ok (.invokevirtual 94, 3) := by decide +kernel
theorem dX9_cold_41 : decode cX9_cold 41 = .ok (.ireturn, 1) := by decide +kernel
theorem dX9_cells_0 : decode cX9_cells 0 = .ok (.iload_n 1, 1) := by decide +kernel
theorem dX9_cells_1 : decode cX9_cells 1 = .ok (.iconst 1, 1) := by decide +kernel
theorem dX9_cells_2 : decode cX9_cells 2 = .ok (.bipush 8, 2) := by decide +kernel
theorem dX9_cells_4 : decode cX9_cells 4 = .ok (.invokestatic 74, 3) := by decide +kernel
theorem dX9_cells_7 : decode cX9_cells 7 = .ok (.ifCond .eq 13, 3) := by decide +kernel
theorem dX9_cells_10 : decode cX9_cells 10 = .ok (.iload_n 2, 1) := by decide +kernel
theorem dX9_cells_11 : decode cX9_cells 11 = .ok (.iconst 1, 1) := by decide +kernel
theorem dX9_cells_12 : decode cX9_cells 12 = .ok (.bipush 50, 2) := by decide +kernel
theorem dX9_cells_14 : decode cX9_cells 14 = .ok (.invokestatic 74, 3) := by decide +kernel
theorem dX9_cells_17 : decode cX9_cells 17 = .ok (.ifCond .ne 5, 3) := by decide +kernel
theorem dX9_cells_20 : decode cX9_cells 20 = .ok (.iconst (-1), 1) := by decide +kernel
theorem dX9_cells_21 : decode cX9_cells 21 = .ok (.ireturn, 1) := by decide +kernel
theorem dX9_cells_22 : decode cX9_cells 22 = .ok (.aload_n 0, 1) := by decide +kernel
theorem dX9_cells_23 : decode cX9_cells 23 = .ok (.getfield 25, 3) := by decide +kernel
theorem dX9_cells_26 : decode cX9_cells 26 = .ok (.getfield 98, 3) := by decide +kernel
theorem dX9_cells_29 : decode cX9_cells 29 = .ok (.ifCond .eq 6, 3) := by decide +kernel
theorem dX9_cells_32 : decode cX9_cells 32 = .ok (.bipush (-2), 2) := by decide +kernel
theorem dX9_cells_34 : decode cX9_cells 34 = .ok (.ireturn, 1) := by decide +kernel
theorem dX9_cells_35 : decode cX9_cells 35 = .ok (.aload_n 0, 1) := by decide +kernel
theorem dX9_cells_36 : decode cX9_cells 36 = .ok (.getfield 18, 3) := by decide +kernel
theorem dX9_cells_39 : decode cX9_cells 39 = .ok (.iload_n 1, 1) := by decide +kernel
theorem dX9_cells_40 : decode cX9_cells 40 = .ok (.iload_n 2, 1) := by decide +kernel
theorem dX9_cells_41 : decode cX9_cells 41 = .ok (.invokevirtual 101, 3) := by decide +kernel
theorem dX9_cells_44 : decode cX9_cells 44 = .ok (.iconst 1, 1) := by decide +kernel
theorem dX9_cells_45 : decode cX9_cells 45 = .ok (.ireturn, 1) := by decide +kernel
theorem dX9_set_0 : decode cX9_set 0 = .ok (.aload_n 0, 1) := by decide +kernel
theorem dX9_set_1 : decode cX9_set 1 = .ok (.iload_n 1, 1) := by decide +kernel
theorem dX9_set_2 : decode cX9_set 2 = .ok (.iload_n 2, 1) := by decide +kernel
theorem dX9_set_3 : decode cX9_set 3 = .ok (.invokevirtual 105, 3) := by decide +kernel
theorem dX9_set_6 : decode cX9_set 6 = .ok (.ifCond .ne 5, 3) := by decide +kernel
theorem dX9_set_9 : decode cX9_set 9 = .ok (.iconst (-1), 1) := by decide +kernel
theorem dX9_set_10 : decode cX9_set 10 = .ok (.ireturn, 1) := by decide +kernel
theorem dX9_set_11 : decode cX9_set 11 = .ok (.aload_n 0, 1) := by decide +kernel
theorem dX9_set_12 : decode cX9_set 12 = .ok (.iload_n 1, 1) := by decide +kernel
theorem dX9_set_13 : decode cX9_set 13 = .ok (.invokevirtual 109, 3) := by decide +kernel
theorem dX9_set_16 : decode cX9_set 16 = .ok (.istore_n 3, 1) := by decide +kernel
theorem dX9_set_17 : decode cX9_set 17 = .ok (.aload_n 0, 1) := by decide +kernel
theorem dX9_set_18 : decode cX9_set 18 = .ok (.iload_n 1, 1) := by decide +kernel
theorem dX9_set_19 : decode cX9_set 19 = .ok (.iload_n 2, 1) := by decide +kernel
theorem dX9_set_20 : decode cX9_set 20 = .ok (.invokevirtual 112, 3) := by decide +kernel
theorem dX9_set_23 : decode cX9_set 23 = .ok (.iload_n 3, 1) := by decide +kernel
theorem dX9_set_24 : decode cX9_set 24 = .ok (.ireturn, 1) := by decide +kernel
theorem dX9_side_0 : decode cX9_side 0 = .ok (.iload_n 1, 1) := by decide +kernel
theorem dX9_side_1 : decode cX9_side 1 = .ok (.iconst 0, 1) := by decide +kernel
theorem dX9_side_2 : decode cX9_side 2 = .ok (.iconst 1, 1) := by decide +kernel
theorem dX9_side_3 : decode cX9_side 3 = .ok (.invokestatic 74, 3) := by decide +kernel
theorem dX9_side_6 : decode cX9_side 6 = .ok (.ifCond .eq 20, 3) := by decide +kernel
theorem dX9_side_9 : decode cX9_side 9 = .ok (.iload_n 2, 1) := by decide +kernel
theorem dX9_side_10 : decode cX9_side 10 = .ok (.iconst 0, 1) := by decide +kernel
theorem dX9_side_11 : decode cX9_side 11 = .ok (.aload_n 0, 1) := by decide +kernel
theorem dX9_side_12 : decode cX9_side 12 = .ok (.getfield 18, 3) := by decide +kernel
theorem dX9_side_15 : decode cX9_side 15 = .ok (.getfield 115, 3) := by decide +kernel
theorem dX9_side_18 : decode cX9_side 18 = .ok (.iconst 1, 1) := by decide +kernel
theorem dX9_side_19 : decode cX9_side 19 = .ok (.isub, 1) := by decide +kernel
theorem dX9_side_20 : decode cX9_side 20 = .ok (.invokestatic 74, 3) := by decide +kernel
theorem dX9_side_23 : decode cX9_side 23 = .ok (.ifCond .ne 5, 3) := by decide +kernel
theorem dX9_side_26 : decode cX9_side 26 = .ok (.iconst (-1), 1) := by decide +kernel
theorem dX9_side_27 : decode cX9_side 27 = .ok (.ireturn, 1) := by decide +kernel
theorem dX9_side_28 : decode cX9_side 28 = .ok (.iload_n 1, 1) := by decide +kernel
theorem dX9_side_29 : decode cX9_side 29 = .ok (.ifCond .ne 15, 3) := by decide +kernel
theorem dX9_side_32 : decode cX9_side 32 = .ok (.aload_n 0, 1) := by decide +kernel
theorem dX9_side_33 : decode cX9_side 33 = .ok (.getfield 18, 3) := by decide +kernel
theorem dX9_side_36 : decode cX9_side 36 = .ok (.getfield 118, 3) := by decide +kernel
theorem dX9_side_39 : decode cX9_side 39 = .ok (.iload_n 2, 1) := by decide +kernel
theorem dX9_side_40 : decode cX9_side 40 = .ok (.iaload, 1) := by decide +kernel
theorem dX9_side_41 : decode cX9_side 41 = .ok (.goto 12, 3) := by decide +kernel
theorem dX9_side_44 : decode cX9_side 44 = .ok (.aload_n 0, 1) := by decide +kernel
theorem dX9_side_45 : decode cX9_side 45 = .ok (.getfield 18, 3) := by decide +kernel
theorem dX9_side_48 : decode cX9_side 48 = .ok (.getfield 122, 3) := by decide +kernel
theorem dX9_side_51 : decode cX9_side 51 = .ok (.iload_n 2, 1) := by decide +kernel
theorem dX9_side_52 : decode cX9_side 52 = .ok (.iaload, 1) := by decide +kernel
theorem dX9_side_53 : decode cX9_side 53 = .ok (.ireturn, 1) := by decide +kernel
theorem dX9_heat_0 : decode cX9_heat 0 = .ok (.iload_n 1, 1) := by decide +kernel
theorem dX9_heat_1 : decode cX9_heat 1 = .ok (.tableswitch 63 0 3 #[31, 39, 47, 55], 31) := by decide +kernel
theorem dX9_heat_32 : decode cX9_heat 32 = .ok (.aload_n 0, 1) := by decide +kernel
theorem dX9_heat_33 : decode cX9_heat 33 = .ok (.getfield 18, 3) := by decide +kernel
theorem dX9_heat_36 : decode cX9_heat 36 = .ok (.getfield 125, 3) := by decide +kernel
theorem dX9_heat_39 : decode cX9_heat 39 = .ok (.lreturn, 1) := by decide +kernel
theorem dX9_heat_40 : decode cX9_heat 40 = .ok (.aload_n 0, 1) := by decide +kernel
theorem dX9_heat_41 : decode cX9_heat 41 = .ok (.getfield 18, 3) := by decide +kernel
theorem dX9_heat_44 : decode cX9_heat 44 = .ok (.getfield 128, 3) := by decide +kernel
theorem dX9_heat_47 : decode cX9_heat 47 = .ok (.lreturn, 1) := by decide +kernel
theorem dX9_heat_48 : decode cX9_heat 48 = .ok (.aload_n 0, 1) := by decide +kernel
theorem dX9_heat_49 : decode cX9_heat 49 = .ok (.getfield 18, 3) := by decide +kernel
theorem dX9_heat_52 : decode cX9_heat 52 = .ok (.getfield 131, 3) := by decide +kernel
theorem dX9_heat_55 : decode cX9_heat 55 = .ok (.lreturn, 1) := by decide +kernel
theorem dX9_heat_56 : decode cX9_heat 56 = .ok (.aload_n 0, 1) := by decide +kernel
theorem dX9_heat_57 : decode cX9_heat 57 = .ok (.getfield 18, 3) := by decide +kernel
theorem dX9_heat_60 : decode cX9_heat 60 = .ok (.getfield 134, 3) := by decide +kernel
theorem dX9_heat_63 : decode cX9_heat 63 = .ok (.lreturn, 1) := by decide +kernel
theorem dX9_heat_64 : decode cX9_heat 64 = .ok (.ldc2_w 137, 3) := by decide +kernel
theorem dX9_heat_67 : decode cX9_heat 67 = .ok (.lreturn, 1) := by decide +kernel
theorem dX9_start_0 : decode cX9_start 0 = .ok (.aload_n 0, 1) := by decide +kernel
theorem dX9_start_1 : decode cX9_start 1 = .ok (.getfield 25, 3) := by decide +kernel
theorem dX9_start_4 : decode cX9_start 4 = .ok (.getfield 98, 3) := by decide +kernel
theorem dX9_start_7 : decode cX9_start 7 = .ok (.ifCond .ne 23, 3) := by decide +kernel
theorem dX9_start_10 : decode cX9_start 10 = .ok (.aload_n 0, 1) := by decide +kernel
theorem dX9_start_11 : decode cX9_start 11 = .ok (.getfield 32, 3) := by decide +kernel
theorem dX9_start_14 : decode cX9_start 14 = .ok (.invokevirtual 139, 3) := by decide +kernel
theorem dX9_start_17 : decode cX9_start 17 = .ok (.ifCond .eq 13, 3) := by decide +kernel
theorem dX9_start_20 : decode cX9_start 20 = .ok (.aload_n 0, 1) := by decide +kernel
theorem dX9_start_21 : decode cX9_start 21 = .ok (.getfield 39, 3) := by decide +kernel
theorem dX9_start_24 : decode cX9_start 24 = .ok (.invokevirtual 143, 3) := by decide +kernel
theorem dX9_start_27 : decode cX9_start 27 = .ok (.ifCond .eq 6, 3) := by decide +kernel
theorem dX9_start_30 : decode cX9_start 30 = .ok (.bipush (-2), 2) := by decide +kernel
theorem dX9_start_32 : decode cX9_start 32 = .ok (.ireturn, 1) := by decide +kernel
theorem dX9_start_33 : decode cX9_start 33 = .ok (.aload_n 0, 1) := by decide +kernel
theorem dX9_start_34 : decode cX9_start 34 = .ok (.getfield 25, 3) := by decide +kernel
theorem dX9_start_37 : decode cX9_start 37 = .ok (.invokevirtual 146, 3) := by decide +kernel
theorem dX9_start_40 : decode cX9_start 40 = .ok (.ireturn, 1) := by decide +kernel
theorem dX9_low_0 : decode cX9_low 0 = .ok (.aload_n 0, 1) := by decide +kernel
theorem dX9_low_1 : decode cX9_low 1 = .ok (.getfield 25, 3) := by decide +kernel
theorem dX9_low_4 : decode cX9_low 4 = .ok (.getfield 98, 3) := by decide +kernel
theorem dX9_low_7 : decode cX9_low 7 = .ok (.iconst 2, 1) := by decide +kernel
theorem dX9_low_8 : decode cX9_low 8 = .ok (.if_icmp .ne 14, 3) := by decide +kernel
theorem dX9_low_11 : decode cX9_low 11 = .ok (.aload_n 0, 1) := by decide +kernel
theorem dX9_low_12 : decode cX9_low 12 = .ok (.getfield 25, 3) := by decide +kernel
theorem dX9_low_15 : decode cX9_low 15 = .ok (.iconst 3, 1) := by decide +kernel
theorem dX9_low_16 : decode cX9_low 16 = .ok (.invokevirtual 150, 3) := by decide +kernel
theorem dX9_low_19 : decode cX9_low 19 = .ok (.goto 5, 3) := by decide +kernel
theorem dX9_low_22 : decode cX9_low 22 = .ok (.bipush (-2), 2) := by decide +kernel
theorem dX9_low_24 : decode cX9_low 24 = .ok (.ireturn, 1) := by decide +kernel
theorem dX9_high_0 : decode cX9_high 0 = .ok (.aload_n 0, 1) := by decide +kernel
theorem dX9_high_1 : decode cX9_high 1 = .ok (.getfield 25, 3) := by decide +kernel
theorem dX9_high_4 : decode cX9_high 4 = .ok (.getfield 98, 3) := by decide +kernel
theorem dX9_high_7 : decode cX9_high 7 = .ok (.iconst 3, 1) := by decide +kernel
theorem dX9_high_8 : decode cX9_high 8 = .ok (.if_icmp .ne 14, 3) := by decide +kernel
theorem dX9_high_11 : decode cX9_high 11 = .ok (.aload_n 0, 1) := by decide +kernel
theorem dX9_high_12 : decode cX9_high 12 = .ok (.getfield 25, 3) := by decide +kernel
theorem dX9_high_15 : decode cX9_high 15 = .ok (.iconst 2, 1) := by decide +kernel
theorem dX9_high_16 : decode cX9_high 16 = .ok (.invokevirtual 150, 3) := by decide +kernel
theorem dX9_high_19 : decode cX9_high 19 = .ok (.goto 5, 3) := by decide +kernel
theorem dX9_high_22 : decode cX9_high 22 = .ok (.bipush (-2), 2) := by decide +kernel
theorem dX9_high_24 : decode cX9_high 24 = .ok (.ireturn, 1) := by decide +kernel
theorem dX9_trip_0 : decode cX9_trip 0 = .ok (.aload_n 0, 1) := by decide +kernel
theorem dX9_trip_1 : decode cX9_trip 1 = .ok (.getfield 25, 3) := by decide +kernel
theorem dX9_trip_4 : decode cX9_trip 4 = .ok (.getfield 98, 3) := by decide +kernel
theorem dX9_trip_7 : decode cX9_trip 7 = .ok (.ifCond .eq 14, 3) := by decide +kernel
theorem dX9_trip_10 : decode cX9_trip 10 = .ok (.aload_n 0, 1) := by decide +kernel
theorem dX9_trip_11 : decode cX9_trip 11 = .ok (.getfield 25, 3) := by decide +kernel
theorem dX9_trip_14 : decode cX9_trip 14 = .ok (.getfield 98, 3) := by decide +kernel
theorem dX9_trip_17 : decode cX9_trip 17 = .ok (.iconst 4, 1) := by decide +kernel
theorem dX9_trip_18 : decode cX9_trip 18 = .ok (.if_icmp .ne 6, 3) := by decide +kernel
theorem dX9_trip_21 : decode cX9_trip 21 = .ok (.bipush (-2), 2) := by decide +kernel
theorem dX9_trip_23 : decode cX9_trip 23 = .ok (.ireturn, 1) := by decide +kernel
theorem dX9_trip_24 : decode cX9_trip 24 = .ok (.aload_n 0, 1) := by decide +kernel
theorem dX9_trip_25 : decode cX9_trip 25 = .ok (.getfield 25, 3) := by decide +kernel
