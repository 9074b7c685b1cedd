theorem dX9_trip_28 : decode cX9_trip 28 = .ok (.invokevirtual 153, 3) := by decide +kernel
theorem dX9_trip_31 : decode cX9_trip 31 = .ok (.ireturn, 1) := by decide +kernel
theorem dX9_reset_0 : decode cX9_reset 0 = .ok (.aload_n 0, 1) := by decide +kernel
theorem dX9_reset_1 : decode cX9_reset 1 = .ok (.getfield 25, 3) := by decide +kernel
theorem dX9_reset_4 : decode cX9_reset 4 = .ok (.getfield 98, 3) := by decide +kernel
theorem dX9_reset_7 : decode cX9_reset 7 = .ok (.iconst 4, 1) := by decide +kernel
theorem dX9_reset_8 : decode cX9_reset 8 = .ok (.if_icmp .ne 13, 3) := by decide +kernel
theorem dX9_reset_11 : decode cX9_reset 11 = .ok (.aload_n 0, 1) := by decide +kernel
theorem dX9_reset_12 : decode cX9_reset 12 = .ok (.getfield 25, 3) := by decide +kernel
theorem dX9_reset_15 : decode cX9_reset 15 = .ok (.getfield 156, 3) := by decide +kernel
theorem dX9_reset_18 : decode cX9_reset 18 = .ok (.ifCond .ne 6, 3) := by decide +kernel
theorem dX9_reset_21 : decode cX9_reset 21 = .ok (.bipush (-2), 2) := by decide +kernel
theorem dX9_reset_23 : decode cX9_reset 23 = .ok (.ireturn, 1) := by decide +kernel
theorem dX9_reset_24 : decode cX9_reset 24 = .ok (.aload_n 0, 1) := by decide +kernel
theorem dX9_reset_25 : decode cX9_reset 25 = .ok (.getfield 25, 3) := by decide +kernel
theorem dX9_reset_28 : decode cX9_reset 28 = .ok (.invokevirtual 160, 3) := by decide +kernel
theorem dX9_reset_31 : decode cX9_reset 31 = .ok (.ireturn, 1) := by decide +kernel
theorem dX9_tick_0 : decode cX9_tick 0 = .ok (.iload_n 1, 1) := by decide +kernel
theorem dX9_tick_1 : decode cX9_tick 1 = .ok (.iconst 1, 1) := by decide +kernel
theorem dX9_tick_2 : decode cX9_tick 2 = .ok (.bipush 60, 2) := by decide +kernel
theorem dX9_tick_4 : decode cX9_tick 4 = .ok (.invokestatic 74, 3) := by decide +kernel
theorem dX9_tick_7 : decode cX9_tick 7 = .ok (.ifCond .ne 5, 3) := by decide +kernel
theorem dX9_tick_10 : decode cX9_tick 10 = .ok (.iconst (-1), 1) := by decide +kernel
theorem dX9_tick_11 : decode cX9_tick 11 = .ok (.ireturn, 1) := by decide +kernel
theorem dX9_tick_12 : decode cX9_tick 12 = .ok (.iconst 0, 1) := by decide +kernel
theorem dX9_tick_13 : decode cX9_tick 13 = .ok (.istore_n 2, 1) := by decide +kernel
theorem dX9_tick_14 : decode cX9_tick 14 = .ok (.iconst 0, 1) := by decide +kernel
theorem dX9_tick_15 : decode cX9_tick 15 = .ok (.istore_n 3, 1) := by decide +kernel
theorem dX9_tick_16 : decode cX9_tick 16 = .ok (.iload_n 3, 1) := by decide +kernel
theorem dX9_tick_17 : decode cX9_tick 17 = .ok (.iload_n 1, 1) := by decide +kernel
theorem dX9_tick_18 : decode cX9_tick 18 = .ok (.if_icmp .ge 16, 3) := by decide +kernel
theorem dX9_tick_21 : decode cX9_tick 21 = .ok (.iload_n 2, 1) := by decide +kernel
theorem dX9_tick_22 : decode cX9_tick 22 = .ok (.aload_n 0, 1) := by decide +kernel
theorem dX9_tick_23 : decode cX9_tick 23 = .ok (.invokevirtual 163, 3) := by decide +kernel
theorem dX9_tick_26 : decode cX9_tick 26 = .ok (.iadd, 1) := by decide +kernel
theorem dX9_tick_27 : decode cX9_tick 27 = .ok (.istore_n 2, 1) := by decide +kernel
theorem dX9_tick_28 : decode cX9_tick 28 = .ok (.iinc 3 1, 3) := by decide +kernel
theorem dX9_tick_31 : decode cX9_tick 31 = .ok (.goto (-15), 3) := by decide +kernel
theorem dX9_tick_34 : decode cX9_tick 34 = .ok (.iload_n 2, 1) := by decide +kernel
theorem dX9_tick_35 : decode cX9_tick 35 = .ok (.ireturn, 1) := by decide +kernel
theorem dX9_adsorber_0 : decode cX9_adsorber 0 = .ok (.aload_n 0, 1) := by decide +kernel
theorem dX9_adsorber_1 : decode cX9_adsorber 1 = .ok (.getfield 32, 3) := by decide +kernel
theorem dX9_adsorber_4 : decode cX9_adsorber 4 = .ok (.iload_n 1, 1) := by decide +kernel
theorem dX9_adsorber_5 : decode cX9_adsorber 5 = .ok (.iload_n 2, 1) := by decide +kernel
theorem dX9_adsorber_6 : decode cX9_adsorber 6 = .ok (.invokevirtual 166, 3) := by decide +kernel
theorem dX9_adsorber_9 : decode cX9_adsorber 9 = .ok (.ireturn, 1) := by decide +kernel
theorem dX9_valve_0 : decode cX9_valve 0 = .ok (.iload_n 1, 1) := by decide +kernel
theorem dX9_valve_1 : decode cX9_valve 1 = .ok (.tableswitch 60 0 2 #[27, 38, 49], 27) := by decide +kernel
theorem dX9_valve_28 : decode cX9_valve 28 = .ok (.aload_n 0, 1) := by decide +kernel
theorem dX9_valve_29 : decode cX9_valve 29 = .ok (.getfield 25, 3) := by decide +kernel
theorem dX9_valve_32 : decode cX9_valve 32 = .ok (.getfield 169, 3) := by decide +kernel
theorem dX9_valve_35 : decode cX9_valve 35 = .ok (.invokestatic 172, 3) := by decide +kernel
theorem dX9_valve_38 : decode cX9_valve 38 = .ok (.ireturn, 1) := by decide +kernel
theorem dX9_valve_39 : decode cX9_valve 39 = .ok (.aload_n 0, 1) := by decide +kernel
theorem dX9_valve_40 : decode cX9_valve 40 = .ok (.getfield 25, 3) := by decide +kernel
theorem dX9_valve_43 : decode cX9_valve 43 = .ok (.getfield 176, 3) := by decide +kernel
theorem dX9_valve_46 : decode cX9_valve 46 = .ok (.invokestatic 172, 3) := by decide +kernel
theorem dX9_valve_49 : decode cX9_valve 49 = .ok (.ireturn, 1) := by decide +kernel
theorem dX9_valve_50 : decode cX9_valve 50 = .ok (.aload_n 0, 1) := by decide +kernel
theorem dX9_valve_51 : decode cX9_valve 51 = .ok (.getfield 25, 3) := by decide +kernel
theorem dX9_valve_54 : decode cX9_valve 54 = .ok (.getfield 156, 3) := by decide +kernel
theorem dX9_valve_57 : decode cX9_valve 57 = .ok (.invokestatic 172, 3) := by decide +kernel
theorem dX9_valve_60 : decode cX9_valve 60 = .ok (.ireturn, 1) := by decide +kernel
theorem dX9_valve_61 : decode cX9_valve 61 = .ok (.iconst (-1), 1) := by decide +kernel
theorem dX9_valve_62 : decode cX9_valve 62 = .ok (.ireturn, 1) := by decide +kernel
theorem dX9_order_0 : decode cX9_order 0 = .ok (.iload_n 1, 1) := by decide +kernel
theorem dX9_order_1 : decode cX9_order 1 = .ok (.iconst 1, 1) := by decide +kernel
theorem dX9_order_2 : decode cX9_order 2 = .ok (.sipush 500, 3) := by decide +kernel
theorem dX9_order_5 : decode cX9_order 5 = .ok (.invokestatic 74, 3) := by decide +kernel
theorem dX9_order_8 : decode cX9_order 8 = .ok (.ifCond .eq 13, 3) := by decide +kernel
theorem dX9_order_11 : decode cX9_order 11 = .ok (.iload_n 2, 1) := by decide +kernel
theorem dX9_order_12 : decode cX9_order 12 = .ok (.iconst 0, 1) := by decide +kernel
theorem dX9_order_13 : decode cX9_order 13 = .ok (.bipush 9, 2) := by decide +kernel
theorem dX9_order_15 : decode cX9_order 15 = .ok (.invokestatic 74, 3) := by decide +kernel
theorem dX9_order_18 : decode cX9_order 18 = .ok (.ifCond .ne 5, 3) := by decide +kernel
theorem dX9_order_21 : decode cX9_order 21 = .ok (.iconst (-1), 1) := by decide +kernel
theorem dX9_order_22 : decode cX9_order 22 = .ok (.ireturn, 1) := by decide +kernel
theorem dX9_order_23 : decode cX9_order 23 = .ok (.aload_n 0, 1) := by decide +kernel
theorem dX9_order_24 : decode cX9_order 24 = .ok (.getfield 46, 3) := by decide +kernel
theorem dX9_order_27 : decode cX9_order 27 = .ok (.iload_n 1, 1) := by decide +kernel
theorem dX9_order_28 : decode cX9_order 28 = .ok (.iload_n 2, 1) := by decide +kernel
theorem dX9_order_29 : decode cX9_order 29 = .ok (.invokevirtual 179, 3) := by decide +kernel
theorem dX9_order_32 : decode cX9_order 32 = .ok (.ireturn, 1) := by decide +kernel
theorem dX9_deliver_0 : decode cX9_deliver 0 = .ok (.aload_n 0, 1) := by decide +kernel
theorem dX9_deliver_1 : decode cX9_deliver 1 = .ok (.getfield 46, 3) := by decide +kernel
theorem dX9_deliver_4 : decode cX9_deliver 4 = .ok (.getfield 182, 3) := by decide +kernel
theorem dX9_deliver_7 : decode cX9_deliver 7 = .ok (.bipush 10, 2) := by decide +kernel
theorem dX9_deliver_9 : decode cX9_deliver 9 = .ok (.if_icmp .lt 8, 3) := by decide +kernel
theorem dX9_deliver_12 : decode cX9_deliver 12 = .ok (.bipush (-2), 2) := by decide +kernel
theorem dX9_deliver_14 : decode cX9_deliver 14 = .ok (.goto 14, 3) := by decide +kernel
theorem dX9_deliver_17 : decode cX9_deliver 17 = .ok (.aload_n 0, 1) := by decide +kernel
theorem dX9_deliver_18 : decode cX9_deliver 18 = .ok (.getfield 46, 3) := by decide +kernel
theorem dX9_deliver_21 : decode cX9_deliver 21 = .ok (.aload_n 0, 1) := by decide +kernel
theorem dX9_deliver_22 : decode cX9_deliver 22 = .ok (.getfield 39, 3) := by decide +kernel
theorem dX9_deliver_25 : decode cX9_deliver 25 = .ok (.invokevirtual 185, 3) := by decide +kernel
theorem dX9_deliver_28 : decode cX9_deliver 28 = .ok (.ireturn, 1) := by decide +kernel
theorem dX9_about_0 : decode cX9_about 0 = .ok (.aload_n 0, 1) := by decide +kernel
theorem dX9_about_1 : decode cX9_about 1 = .ok (.getfield 46, 3) := by decide +kernel
theorem dX9_about_4 : decode cX9_about 4 = .ok (.iload_n 1, 1) := by decide +kernel
theorem dX9_about_5 : decode cX9_about 5 = .ok (.iload_n 2, 1) := by decide +kernel
theorem dX9_about_6 : decode cX9_about 6 = .ok (.invokevirtual 189, 3) := by decide +kernel
theorem dX9_about_9 : decode cX9_about 9 = .ok (.ireturn, 1) := by decide +kernel
theorem dX9_back_0 : decode cX9_back 0 = .ok (.iload_n 1, 1) := by decide +kernel
theorem dX9_back_1 : decode cX9_back 1 = .ok (.iconst 1, 1) := by decide +kernel
theorem dX9_back_2 : decode cX9_back 2 = .ok (.if_icmp .ge 5, 3) := by decide +kernel
theorem dX9_back_5 : decode cX9_back 5 = .ok (.iconst (-1), 1) := by decide +kernel
theorem dX9_back_6 : decode cX9_back 6 = .ok (.ireturn, 1) := by decide +kernel
theorem dX9_back_7 : decode cX9_back 7 = .ok (.iload_n 1, 1) := by decide +kernel
theorem dX9_back_8 : decode cX9_back 8 = .ok (.aload_n 0, 1) := by decide +kernel
theorem dX9_back_9 : decode cX9_back 9 = .ok (.getfield 39, 3) := by decide +kernel
theorem dX9_back_12 : decode cX9_back 12 = .ok (.getfield 190, 3) := by decide +kernel
theorem dX9_back_15 : decode cX9_back 15 = .ok (.if_icmp .gt 22, 3) := by decide +kernel
theorem dX9_back_18 : decode cX9_back 18 = .ok (.iload_n 1, 1) := by decide +kernel
theorem dX9_back_19 : decode cX9_back 19 = .ok (.aload_n 0, 1) := by decide +kernel
theorem dX9_back_20 : decode cX9_back 20 = .ok (.getfield 39, 3) := by decide +kernel
theorem dX9_back_23 : decode cX9_back 23 = .ok (.getfield 193, 3) := by decide +kernel
theorem dX9_back_26 : decode cX9_back 26 = .ok (.aload_n 0, 1) := by decide +kernel
theorem dX9_back_27 : decode cX9_back 27 = .ok (.getfield 39, 3) := by decide +kernel
theorem dX9_back_30 : decode cX9_back 30 = .ok (.getfield 196, 3) := by decide +kernel
theorem dX9_back_33 : decode cX9_back 33 = .ok (.isub, 1) := by decide +kernel
theorem dX9_back_34 : decode cX9_back 34 = .ok (.if_icmp .le 6, 3) := by decide +kernel
theorem dX9_back_37 : decode cX9_back 37 = .ok (.bipush (-2), 2) := by decide +kernel
theorem dX9_back_39 : decode cX9_back 39 = .ok (.ireturn, 1) := by decide +kernel
theorem dX9_back_40 : decode cX9_back 40 = .ok (.aload_n 0, 1) := by decide +kernel
theorem dX9_back_41 : decode cX9_back 41 = .ok (.getfield 39, 3) := by decide +kernel
theorem dX9_back_44 : decode cX9_back 44 = .ok (.dup, 1) := by decide +kernel
theorem dX9_back_45 : decode cX9_back 45 = .ok (.getfield 190, 3) := by decide +kernel
theorem dX9_back_48 : decode cX9_back 48 = .ok (.iload_n 1, 1) := by decide +kernel
theorem dX9_back_49 : decode cX9_back 49 = .ok (.isub, 1) := by decide +kernel
theorem dX9_back_50 : decode cX9_back 50 = .ok (.putfield 190, 3) := by decide +kernel
theorem dX9_back_53 : decode cX9_back 53 = .ok (.aload_n 0, 1) := by decide +kernel
theorem dX9_back_54 : decode cX9_back 54 = .ok (.getfield 39, 3) := by decide +kernel
theorem dX9_back_57 : decode cX9_back 57 = .ok (.dup, 1) := by decide +kernel
theorem dX9_back_58 : decode cX9_back 58 = .ok (.getfield 196, 3) := by decide +kernel
theorem dX9_back_61 : decode cX9_back 61 = .ok (.iload_n 1, 1) := by decide +kernel
theorem dX9_back_62 : decode cX9_back 62 = .ok (.iadd, 1) := by decide +kernel
theorem dX9_back_63 : decode cX9_back 63 = .ok (.putfield 196, 3) := by decide +kernel
theorem dX9_back_66 : decode cX9_back 66 = .ok (.aload_n 0, 1) := by decide +kernel
theorem dX9_back_67 : decode cX9_back 67 = .ok (.getfield 39, 3) := by decide +kernel
theorem dX9_back_70 : decode cX9_back 70 = .ok (.getfield 196, 3) := by decide +kernel
theorem dX9_back_73 : decode cX9_back 73 = .ok (.ireturn, 1) := by decide +kernel
theorem dX9_lose_0 : decode cX9_lose 0 = .ok (.iload_n 1, 1) := by decide +kernel
theorem dX9_lose_1 : decode cX9_lose 1 = .ok (.invokestatic 199, 3) := by decide +kernel
theorem dX9_lose_4 : decode cX9_lose 4 = .ok (.ifCond .ne 5, 3) := by decide +kernel
theorem dX9_lose_7 : decode cX9_lose 7 = .ok (.iconst (-1), 1) := by decide +kernel
theorem dX9_lose_8 : decode cX9_lose 8 = .ok (.ireturn, 1) := by decide +kernel
theorem dX9_lose_9 : decode cX9_lose 9 = .ok (.aload_n 0, 1) := by decide +kernel
theorem dX9_lose_10 : decode cX9_lose 10 = .ok (.getfield 50, 3) := by decide +kernel
theorem dX9_lose_13 : decode cX9_lose 13 = .ok (.iload_n 1, 1) := by decide +kernel
theorem dX9_lose_14 : decode cX9_lose 14 = .ok (.baload, 1) := by decide +kernel
theorem dX9_lose_15 : decode cX9_lose 15 = .ok (.istore_n 3, 1) := by decide +kernel
theorem dX9_lose_16 : decode cX9_lose 16 = .ok (.aload_n 0, 1) := by decide +kernel
theorem dX9_lose_17 : decode cX9_lose 17 = .ok (.getfield 50, 3) := by decide +kernel
theorem dX9_lose_20 : decode cX9_lose 20 = .ok (.iload_n 1, 1) := by decide +kernel
theorem dX9_lose_21 : decode cX9_lose 21 = .ok (.iload_n 2, 1) := by decide +kernel
theorem dX9_lose_22 : decode cX9_lose 22 = .ok (.bastore, 1) := by decide +kernel
theorem dX9_lose_23 : decode cX9_lose 23 = .ok (.iload_n 3, 1) := by decide +kernel
theorem dX9_lose_24 : decode cX9_lose 24 = .ok (.invokestatic 172, 3) := by decide +kernel
theorem dX9_lose_27 : decode cX9_lose 27 = .ok (.ireturn, 1) := by decide +kernel
theorem dX9_meter_0 : decode cX9_meter 0 = .ok (.iload_n 1, 1) := by decide +kernel
theorem dX9_meter_1 : decode cX9_meter 1 = .ok (.invokestatic 199, 3) := by decide +kernel
theorem dX9_meter_4 : decode cX9_meter 4 = .ok (.ifCond .ne 7, 3) := by decide +kernel
theorem dX9_meter_7 : decode cX9_meter 7 = .ok (.ldc2_w 137, 3) := by decide +kernel
theorem dX9_meter_10 : decode cX9_meter 10 = .ok (.lreturn, 1) := by decide +kernel
theorem dX9_meter_11 : decode cX9_meter 11 = .ok (.aload_n 0, 1) := by decide +kernel
theorem dX9_meter_12 : decode cX9_meter 12 = .ok (.getfield 50, 3) := by decide +kernel
theorem dX9_meter_15 : decode cX9_meter 15 = .ok (.iload_n 1, 1) := by decide +kernel
theorem dX9_meter_16 : decode cX9_meter 16 = .ok (.baload, 1) := by decide +kernel
theorem dX9_meter_17 : decode cX9_meter 17 = .ok (.ifCond .eq 9, 3) := by decide +kernel
theorem dX9_meter_20 : decode cX9_meter 20 = .ok (.ldc2_w 202, 3) := by decide +kernel
theorem dX9_meter_23 : decode cX9_meter 23 = .ok (.goto 11, 3) := by decide +kernel
theorem dX9_meter_26 : decode cX9_meter 26 = .ok (.aload_n 0, 1) := by decide +kernel
theorem dX9_meter_27 : decode cX9_meter 27 = .ok (.getfield 39, 3) := by decide +kernel
theorem dX9_meter_30 : decode cX9_meter 30 = .ok (.iload_n 1, 1) := by decide +kernel
theorem dX9_meter_31 : decode cX9_meter 31 = .ok (.invokevirtual 204, 3) := by decide +kernel
theorem dX9_meter_34 : decode cX9_meter 34 = .ok (.lreturn, 1) := by decide +kernel
theorem dX9_balance_0 : decode cX9_balance 0 = .ok (.iload_n 1, 1) := by decide +kernel
theorem dX9_balance_1 : decode cX9_balance 1 = .ok (.invokestatic 199, 3) := by decide +kernel
theorem dX9_balance_4 : decode cX9_balance 4 = .ok (.ifCond .ne 7, 3) := by decide +kernel
theorem dX9_balance_7 : decode cX9_balance 7 = .ok (.ldc2_w 137, 3) := by decide +kernel
theorem dX9_balance_10 : decode cX9_balance 10 = .ok (.lreturn, 1) := by decide +kernel
theorem dX9_balance_11 : decode cX9_balance 11 = .ok (.aload_n 0, 1) := by decide +kernel
theorem dX9_balance_12 : decode cX9_balance 12 = .ok (.getfield 50, 3) := by decide +kernel
theorem dX9_balance_15 : decode cX9_balance 15 = .ok (.iload_n 1, 1) := by decide +kernel
theorem dX9_balance_16 : decode cX9_balance 16 = .ok (.baload, 1) := by decide +kernel
theorem dX9_balance_17 : decode cX9_balance 17 = .ok (.ifCond .ne 12, 3) := by decide +kernel
theorem dX9_balance_20 : decode cX9_balance 20 = .ok (.aload_n 0, 1) := by decide +kernel
theorem dX9_balance_21 : decode cX9_balance 21 = .ok (.getfield 39, 3) := by decide +kernel
theorem dX9_balance_24 : decode cX9_balance 24 = .ok (.iload_n 1, 1) := by decide +kernel
theorem dX9_balance_25 : decode cX9_balance 25 = .ok (.invokevirtual 204, 3) := by decide +kernel
theorem dX9_balance_28 : decode cX9_balance 28 = .ok (.lreturn, 1) := by decide +kernel
theorem dX9_balance_29 : decode cX9_balance 29 = .ok (.aload_n 0, 1) := by decide +kernel
theorem dX9_balance_30 : decode cX9_balance 30 = .ok (.invokevirtual 208, 3) := by decide +kernel
theorem dX9_balance_33 : decode cX9_balance 33 = .ok (.iconst 1, 1) := by decide +kernel
theorem dX9_balance_34 : decode cX9_balance 34 = .ok (.if_icmp .ne 11, 3) := by decide +kernel
theorem dX9_balance_37 : decode cX9_balance 37 = .ok (.aload_n 0, 1) := by decide +kernel
theorem dX9_balance_38 : decode cX9_balance 38 = .ok (.iload_n 1, 1) := by decide +kernel
theorem dX9_balance_39 : decode cX9_balance 39 = .ok (.invokevirtual 211, 3) := by decide +kernel
theorem dX9_balance_42 : decode cX9_balance 42 = .ok (.goto 6, 3) := by decide +kernel
theorem dX9_balance_45 : decode cX9_balance 45 = .ok (.ldc2_w 202, 3) := by decide +kernel
theorem dX9_balance_48 : decode cX9_balance 48 = .ok (.lreturn, 1) := by decide +kernel
theorem dX9_split_0 : decode cX9_split 0 = .ok (.aload_n 0, 1) := by decide +kernel
theorem dX9_split_1 : decode cX9_split 1 = .ok (.iload_n 1, 1) := by decide +kernel
theorem dX9_split_2 : decode cX9_split 2 = .ok (.invokevirtual 86, 3) := by decide +kernel
theorem dX9_split_5 : decode cX9_split 5 = .ok (.ifCond .eq 11, 3) := by decide +kernel
theorem dX9_split_8 : decode cX9_split 8 = .ok (.aload_n 0, 1) := by decide +kernel
theorem dX9_split_9 : decode cX9_split 9 = .ok (.iload_n 2, 1) := by decide +kernel
theorem dX9_split_10 : decode cX9_split 10 = .ok (.invokevirtual 86, 3) := by decide +kernel
theorem dX9_split_13 : decode cX9_split 13 = .ok (.ifCond .ne 5, 3) := by decide +kernel
theorem dX9_split_16 : decode cX9_split 16 = .ok (.iconst (-1), 1) := by decide +kernel
theorem dX9_split_17 : decode cX9_split 17 = .ok (.ireturn, 1) := by decide +kernel
theorem dX9_split_18 : decode cX9_split 18 = .ok (.iload_n 3, 1) := by decide +kernel
theorem dX9_split_19 : decode cX9_split 19 = .ok (.iconst 0, 1) := by decide +kernel
theorem dX9_split_20 : decode cX9_split 20 = .ok (.bipush 40, 2) := by decide +kernel
theorem dX9_split_22 : decode cX9_split 22 = .ok (.invokestatic 74, 3) := by decide +kernel
theorem dX9_split_25 : decode cX9_split 25 = .ok (.ifCond .eq 14, 3) := by decide +kernel
theorem dX9_split_28 : decode cX9_split 28 = .ok (.iload 4, 2) := by decide +kernel
theorem dX9_split_30 : decode cX9_split 30 = .ok (.iconst 0, 1) := by decide +kernel
theorem dX9_split_31 : decode cX9_split 31 = .ok (.bipush 20, 2) := by decide +kernel
theorem dX9_split_33 : decode cX9_split 33 = .ok (.invokestatic 74, 3) := by decide +kernel
theorem dX9_split_36 : decode cX9_split 36 = .ok (.ifCond .ne 5, 3) := by decide +kernel
theorem dX9_split_39 : decode cX9_split 39 = .ok (.iconst (-1), 1) := by decide +kernel
theorem dX9_split_40 : decode cX9_split 40 = .ok (.ireturn, 1) := by decide +kernel
theorem dX9_split_41 : decode cX9_split 41 = .ok (.aload_n 0, 1) := by decide +kernel
theorem dX9_split_42 : decode cX9_split 42 = .ok (.iload_n 1, 1) := by decide +kernel
theorem dX9_split_43 : decode cX9_split 43 = .ok (.iload_n 3, 1) := by decide +kernel
theorem dX9_split_44 : decode cX9_split 44 = .ok (.invokevirtual 94, 3) := by decide +kernel
theorem dX9_split_47 : decode cX9_split 47 = .ok (.aload_n 0, 1) := by decide +kernel
theorem dX9_split_48 : decode cX9_split 48 = .ok (.iload_n 2, 1) := by decide +kernel
theorem dX9_split_49 : decode cX9_split 49 = .ok (.iload_n 3, 1) := by decide +kernel
theorem dX9_split_50 : decode cX9_split 50 = .ok (.invokevirtual 94, 3) := by decide +kernel
theorem dX9_split_53 : decode cX9_split 53 = .ok (.iload 4, 2) := by decide +kernel
theorem dX9_split_55 : decode cX9_split 55 = .ok (.invokestatic 214, 3) := by decide +kernel
theorem dX9_split_58 : decode cX9_split 58 = .ok (.ireturn, 1) := by decide +kernel
theorem dX9_count_0 : decode cX9_count 0 = .ok (.iload_n 1, 1) := by decide +kernel
theorem dX9_count_1 : decode cX9_count 1 = .ok (.tableswitch 129 0 9 #[55, 63, 71, 79, 84, 92, 100, 108, 113, 121], 55) := by decide +kernel
theorem dX9_count_56 : decode cX9_count 56 = .ok (.aload_n 0, 1) := by decide +kernel
theorem dX9_count_57 : decode cX9_count 57 = .ok (.getfield 25, 3) := by decide +kernel
theorem dX9_count_60 : decode cX9_count 60 = .ok (.getfield 98, 3) := by decide +kernel
theorem dX9_count_63 : decode cX9_count 63 = .ok (.ireturn, 1) := by decide +kernel
theorem dX9_count_64 : decode cX9_count 64 = .ok (.aload_n 0, 1) := by decide +kernel
theorem dX9_count_65 : decode cX9_count 65 = .ok (.getfield 39, 3) := by decide +kernel
theorem dX9_count_68 : decode cX9_count 68 = .ok (.getfield 196, 3) := by decide +kernel
theorem dX9_count_71 : decode cX9_count 71 = .ok (.ireturn, 1) := by decide +kernel
theorem dX9_count_72 : decode cX9_count 72 = .ok (.aload_n 0, 1) := by decide +kernel
theorem dX9_count_73 : decode cX9_count 73 = .ok (.getfield 39, 3) := by decide +kernel
theorem dX9_count_76 : decode cX9_count 76 = .ok (.getfield 190, 3) := by decide +kernel
theorem dX9_count_79 : decode cX9_count 79 = .ok (.ireturn, 1) := by decide +kernel
theorem dX9_count_80 : decode cX9_count 80 = .ok (.aload_n 0, 1) := by decide +kernel
theorem dX9_count_81 : decode cX9_count 81 = .ok (.getfield 54, 3) := by decide +kernel
theorem dX9_count_84 : decode cX9_count 84 = .ok (.ireturn, 1) := by decide +kernel
theorem dX9_count_85 : decode cX9_count 85 = .ok (.aload_n 0, 1) := by decide +kernel
theorem dX9_count_86 : decode cX9_count 86 = .ok (.getfield 18, 3) := by decide +kernel
theorem dX9_count_89 : decode cX9_count 89 = .ok (.getfield 115, 3) := by decide +kernel
theorem dX9_count_92 : decode cX9_count 92 = .ok (.ireturn, 1) := by decide +kernel
theorem dX9_count_93 : decode cX9_count 93 = .ok (.aload_n 0, 1) := by decide +kernel
theorem dX9_count_94 : decode cX9_count 94 = .ok (.getfield 46, 3) := by decide +kernel
theorem dX9_count_97 : decode cX9_count 97 = .ok (.getfield 218, 3) := by decide +kernel
theorem dX9_count_100 : decode cX9_count 100 = .ok (.ireturn, 1) := by decide +kernel
theorem dX9_count_101 : decode cX9_count 101 = .ok (.aload_n 0, 1) := by decide +kernel
theorem dX9_count_102 : decode cX9_count 102 = .ok (.getfield 46, 3) := by decide +kernel
theorem dX9_count_105 : decode cX9_count 105 = .ok (.getfield 182, 3) := by decide +kernel
theorem dX9_count_108 : decode cX9_count 108 = .ok (.ireturn, 1) := by decide +kernel
theorem dX9_count_109 : decode cX9_count 109 = .ok (.aload_n 0, 1) := by decide +kernel
theorem dX9_count_110 : decode cX9_count 110 = .ok (.getfield 67, 3) := by decide +kernel
theorem dX9_count_113 : decode cX9_count 113 = .ok (.ireturn, 1) := by decide +kernel
theorem dX9_count_114 : decode cX9_count 114 = .ok (.aload_n 0, 1) := by decide +kernel
theorem dX9_count_115 : decode cX9_count 115 = .ok (.getfield 25, 3) := by decide +kernel
theorem dX9_count_118 : decode cX9_count 118 = .ok (.getfield 221, 3) := by decide +kernel
theorem dX9_count_121 : decode cX9_count 121 = .ok (.ireturn, 1) := by decide +kernel
theorem dX9_count_122 : decode cX9_count 122 = .ok (.aload_n 0, 1) := by decide +kernel
theorem dX9_count_123 : decode cX9_count 123 = .ok (.getfield 46, 3) := by decide +kernel
theorem dX9_count_126 : decode cX9_count 126 = .ok (.getfield 224, 3) := by decide +kernel
theorem dX9_count_129 : decode cX9_count 129 = .ok (.ireturn, 1) := by decide +kernel
theorem dX9_count_130 : decode cX9_count 130 = .ok (.iconst (-1), 1) := by decide +kernel
theorem dX9_count_131 : decode cX9_count 131 = .ok (.ireturn, 1) := by decide +kernel
theorem dX9_trace_0 : decode cX9_trace 0 = .ok (.aload_n 0, 1) := by decide +kernel
theorem dX9_trace_1 : decode cX9_trace 1 = .ok (.getfield 70, 3) := by decide +kernel
theorem dX9_trace_4 : decode cX9_trace 4 = .ok (.lreturn, 1) := by decide +kernel
theorem dX9_within_0 : decode cX9_within 0 = .ok (.iload_n 0, 1) := by decide +kernel
theorem dX9_within_1 : decode cX9_within 1 = .ok (.iload_n 1, 1) := by decide +kernel
theorem dX9_within_2 : decode cX9_within 2 = .ok (.if_icmp .lt 12, 3) := by decide +kernel
theorem dX9_within_5 : decode cX9_within 5 = .ok (.iload_n 0, 1) := by decide +kernel
theorem dX9_within_6 : decode cX9_within 6 = .ok (.iload_n 2, 1) := by decide +kernel
theorem dX9_within_7 : decode cX9_within 7 = .ok (.if_icmp .gt 7, 3) := by decide +kernel
theorem dX9_within_10 : decode cX9_within 10 = .ok (.iconst 1, 1) := by decide +kernel
theorem dX9_within_11 : decode cX9_within 11 = .ok (.goto 4, 3) := by decide +kernel
theorem dX9_within_14 : decode cX9_within 14 = .ok (.iconst 0, 1) := by decide +kernel
theorem dX9_within_15 : decode cX9_within 15 = .ok (.ireturn, 1) := by decide +kernel
theorem dX9_asNumber_0 : decode cX9_asNumber 0 = .ok (.iload_n 0, 1) := by decide +kernel
theorem dX9_asNumber_1 : decode cX9_asNumber 1 = .ok (.ifCond .eq 7, 3) := by decide +kernel
theorem dX9_asNumber_4 : decode cX9_asNumber 4 = .ok (.iconst 1, 1) := by decide +kernel
theorem dX9_asNumber_5 : decode cX9_asNumber 5 = .ok (.goto 4, 3) := by decide +kernel
theorem dX9_asNumber_8 : decode cX9_asNumber 8 = .ok (.iconst 0, 1) := by decide +kernel
theorem dX9_asNumber_9 : decode cX9_asNumber 9 = .ok (.ireturn, 1) := by decide +kernel
theorem dX9_isMeter_0 : decode cX9_isMeter 0 = .ok (.iload_n 0, 1) := by decide +kernel
theorem dX9_isMeter_1 : decode cX9_isMeter 1 = .ok (.iconst 0, 1) := by decide +kernel
theorem dX9_isMeter_2 : decode cX9_isMeter 2 = .ok (.iconst 3, 1) := by decide +kernel
theorem dX9_isMeter_3 : decode cX9_isMeter 3 = .ok (.invokestatic 74, 3) := by decide +kernel
theorem dX9_isMeter_6 : decode cX9_isMeter 6 = .ok (.ireturn, 1) := by decide +kernel
theorem dX9_areCorners_0 : decode cX9_areCorners 0 = .ok (.iload_n 0, 1) := by decide +kernel
theorem dX9_areCorners_1 : decode cX9_areCorners 1 = .ok (.ifCond .lt 35, 3) := by decide +kernel
theorem dX9_areCorners_4 : decode cX9_areCorners 4 = .ok (.iload_n 1, 1) := by decide +kernel
theorem dX9_areCorners_5 : decode cX9_areCorners 5 = .ok (.iload_n 0, 1) := by decide +kernel
theorem dX9_areCorners_6 : decode cX9_areCorners 6 = .ok (.if_icmp .lt 30, 3) := by decide +kernel
theorem dX9_areCorners_9 : decode cX9_areCorners 9 = .ok (.iload_n 2, 1) := by decide +kernel
theorem dX9_areCorners_10 : decode cX9_areCorners 10 = .ok (.iload_n 1, 1) := by decide +kernel
theorem dX9_areCorners_11 : decode cX9_areCorners 11 = .ok (.if_icmp .lt 25, 3) := by decide +kernel
theorem dX9_areCorners_14 : decode cX9_areCorners 14 = .ok (.iload_n 3, 1) := by decide +kernel
theorem dX9_areCorners_15 : decode cX9_areCorners 15 = .ok (.iload_n 2, 1) := by decide +kernel
theorem dX9_areCorners_16 : decode cX9_areCorners 16 = .ok (.if_icmp .lt 20, 3) := by decide +kernel
theorem dX9_areCorners_19 : decode cX9_areCorners 19 = .ok (.iload 4, 2) := by decide +kernel
theorem dX9_areCorners_21 : decode cX9_areCorners 21 = .ok (.iload_n 3, 1) := by decide +kernel
theorem dX9_areCorners_22 : decode cX9_areCorners 22 = .ok (.if_icmp .lt 14, 3) := by decide +kernel
theorem dX9_areCorners_25 : decode cX9_areCorners 25 = .ok (.iload 4, 2) := by decide +kernel
theorem dX9_areCorners_27 : decode cX9_areCorners 27 = .ok (.bipush 50, 2) := by decide +kernel
theorem dX9_areCorners_29 : decode cX9_areCorners 29 = .ok (.if_icmp .gt 7, 3) := by decide +kernel
theorem dX9_areCorners_32 : decode cX9_areCorners 32 = .ok (.iconst 1, 1) := by decide +kernel
theorem dX9_areCorners_33 : decode cX9_areCorners 33 = .ok (.goto 4, 3) := by decide +kernel
theorem dX9_areCorners_36 : decode cX9_areCorners 36 = .ok (.iconst 0, 1) := by decide +kernel
theorem dX9_areCorners_37 : decode cX9_areCorners 37 = .ok (.ireturn, 1) := by decide +kernel
theorem dX9_build_0 : decode cX9_build 0 = .ok (.iload_n 0, 1) := by decide +kernel
theorem dX9_build_1 : decode cX9_build 1 = .ok (.ifCond .ne 11, 3) := by decide +kernel
theorem dX9_build_4 : decode cX9_build 4 = .ok (.new 9, 3) := by decide +kernel
theorem dX9_build_7 : decode cX9_build 7 = .ok (.dup, 1) := by decide +kernel
theorem dX9_build_8 : decode cX9_build 8 = .ok (.invokespecial 227, 3) := by decide +kernel
theorem dX9_build_11 : decode cX9_build 11 = .ok (.areturn, 1) := by decide +kernel
theorem dX9_build_12 : decode cX9_build 12 = .ok (.iconst 5, 1) := by decide +kernel
theorem dX9_build_13 : decode cX9_build 13 = .ok (.newarray .int, 2) := by decide +kernel
theorem dX9_build_15 : decode cX9_build 15 = .ok (.dup, 1) := by decide +kernel
theorem dX9_build_16 : decode cX9_build 16 = .ok (.iconst 0, 1) := by decide +kernel
theorem dX9_build_17 : decode cX9_build 17 = .ok (.iload_n 1, 1) := by decide +kernel
theorem dX9_build_18 : decode cX9_build 18 = .ok (.iastore, 1) := by decide +kernel
theorem dX9_build_19 : decode cX9_build 19 = .ok (.dup, 1) := by decide +kernel
theorem dX9_build_20 : decode cX9_build 20 = .ok (.iconst 1, 1) := by decide +kernel
theorem dX9_build_21 : decode cX9_build 21 = .ok (.iload_n 2, 1) := by decide +kernel
theorem dX9_build_22 : decode cX9_build 22 = .ok (.iastore, 1) := by decide +kernel
theorem dX9_build_23 : decode cX9_build 23 = .ok (.dup, 1) := by decide +kernel
theorem dX9_build_24 : decode cX9_build 24 = .ok (.iconst 2, 1) := by decide +kernel
theorem dX9_build_25 : decode cX9_build 25 = .ok (.iload_n 3, 1) := by decide +kernel
theorem dX9_build_26 : decode cX9_build 26 = .ok (.iastore, 1) := by decide +kernel
theorem dX9_build_27 : decode cX9_build 27 = .ok (.dup, 1) := by decide +kernel
theorem dX9_build_28 : decode cX9_build 28 = .ok (.iconst 3, 1) := by decide +kernel
theorem dX9_build_29 : decode cX9_build 29 = .ok (.iload 4, 2) := by decide +kernel
theorem dX9_build_31 : decode cX9_build 31 = .ok (.iastore, 1) := by decide +kernel
theorem dX9_build_32 : decode cX9_build 32 = .ok (.dup, 1) := by decide +kernel
theorem dX9_build_33 : decode cX9_build 33 = .ok (.iconst 4, 1) := by decide +kernel
theorem dX9_build_34 : decode cX9_build 34 = .ok (.iload 5, 2) := by decide +kernel
theorem dX9_build_36 : decode cX9_build 36 = .ok (.iastore, 1) := by decide +kernel
theorem dX9_build_37 : decode cX9_build 37 = .ok (.astore 7, 2) := by decide +kernel
theorem dX9_build_39 : decode cX9_build 39 = .ok (.iload_n 0, 1) := by decide +kernel
theorem dX9_build_40 : decode cX9_build 40 = .ok (.iconst 1, 1) := by decide +kernel
theorem dX9_build_41 : decode cX9_build 41 = .ok (.if_icmp .ne 15, 3) := by decide +kernel
theorem dX9_build_44 : decode cX9_build 44 = .ok (.new 228, 3) := by decide +kernel
theorem dX9_build_47 : decode cX9_build 47 = .ok (.dup, 1) := by decide +kernel
theorem dX9_build_48 : decode cX9_build 48 = .ok (.aload 7, 2) := by decide +kernel
theorem dX9_build_50 : decode cX9_build 50 = .ok (.invokespecial 230, 3) := by decide +kernel
theorem dX9_build_53 : decode cX9_build 53 = .ok (.goto 14, 3) := by decide +kernel
theorem dX9_build_56 : decode cX9_build 56 = .ok (.new 233, 3) := by decide +kernel
theorem dX9_build_59 : decode cX9_build 59 = .ok (.dup, 1) := by decide +kernel
theorem dX9_build_60 : decode cX9_build 60 = .ok (.aload 7, 2) := by decide +kernel
theorem dX9_build_62 : decode cX9_build 62 = .ok (.iload 6, 2) := by decide +kernel
theorem dX9_build_64 : decode cX9_build 64 = .ok (.invokespecial 235, 3) := by decide +kernel
theorem dX9_build_67 : decode cX9_build 67 = .ok (.areturn, 1) := by decide +kernel
theorem dX9_isCooler_0 : decode cX9_isCooler 0 = .ok (.iload_n 1, 1) := by decide +kernel
theorem dX9_isCooler_1 : decode cX9_isCooler 1 = .ok (.iconst 0, 1) := by decide +kernel
theorem dX9_isCooler_2 : decode cX9_isCooler 2 = .ok (.aload_n 0, 1) := by decide +kernel
theorem dX9_isCooler_3 : decode cX9_isCooler 3 = .ok (.getfield 54, 3) := by decide +kernel
theorem dX9_isCooler_6 : decode cX9_isCooler 6 = .ok (.iconst 1, 1) := by decide +kernel
theorem dX9_isCooler_7 : decode cX9_isCooler 7 = .ok (.isub, 1) := by decide +kernel
theorem dX9_isCooler_8 : decode cX9_isCooler 8 = .ok (.invokestatic 74, 3) := by decide +kernel
theorem dX9_isCooler_11 : decode cX9_isCooler 11 = .ok (.ireturn, 1) := by decide +kernel
theorem dX9_find_0 : decode cX9_find 0 = .ok (.aload_n 0, 1) := by decide +kernel
theorem dX9_find_1 : decode cX9_find 1 = .ok (.iload_n 1, 1) := by decide +kernel
theorem dX9_find_2 : decode cX9_find 2 = .ok (.invokevirtual 86, 3) := by decide +kernel
theorem dX9_find_5 : decode cX9_find 5 = .ok (.ifCond .eq 12, 3) := by decide +kernel
theorem dX9_find_8 : decode cX9_find 8 = .ok (.aload_n 0, 1) := by decide +kernel
theorem dX9_find_9 : decode cX9_find 9 = .ok (.getfield 11, 3) := by decide +kernel
theorem dX9_find_12 : decode cX9_find 12 = .ok (.iload_n 1, 1) := by decide +kernel
theorem dX9_find_13 : decode cX9_find 13 = .ok (.aaload, 1) := by decide +kernel
theorem dX9_find_14 : decode cX9_find 14 = .ok (.goto 4, 3) := by decide +kernel
theorem dX9_find_17 : decode cX9_find 17 = .ok (.aconst_null, 1) := by decide +kernel
theorem dX9_find_18 : decode cX9_find 18 = .ok (.areturn, 1) := by decide +kernel
theorem dX9_coldOf_0 : decode cX9_coldOf 0 = .ok (.aload_n 0, 1) := by decide +kernel
theorem dX9_coldOf_1 : decode cX9_coldOf 1 = .ok (.iload_n 1, 1) := by decide +kernel
theorem dX9_coldOf_2 : decode cX9_coldOf 2 = .ok (.invokevirtual 238, 3) := by decide +kernel
theorem dX9_coldOf_5 : decode cX9_coldOf 5 = .ok (.astore_n 3, 1) := by decide +kernel
theorem dX9_coldOf_6 : decode cX9_coldOf 6 = .ok (.aload_n 3, 1) := by decide +kernel
theorem dX9_coldOf_7 : decode cX9_coldOf 7 = .ok (.ifnonnull 7, 3) := by decide +kernel
theorem dX9_coldOf_10 : decode cX9_coldOf 10 = .ok (.iconst 0, 1) := by decide +kernel
theorem dX9_coldOf_11 : decode cX9_coldOf 11 = .ok (.goto 8, 3) := by decide +kernel
theorem dX9_coldOf_14 : decode cX9_coldOf 14 = .ok (.aload_n 3, 1) := by decide +kernel
theorem dX9_coldOf_15 : decode cX9_coldOf 15 = .ok (.iload_n 2, 1) := by decide +kernel
theorem dX9_coldOf_16 : decode cX9_coldOf 16 = .ok (.invokevirtual 242, 3) := by decide +kernel
theorem dX9_coldOf_19 : decode cX9_coldOf 19 = .ok (.ireturn, 1) := by decide +kernel
theorem dX9_weightOf_0 : decode cX9_weightOf 0 = .ok (.aload_n 0, 1) := by decide +kernel
theorem dX9_weightOf_1 : decode cX9_weightOf 1 = .ok (.iload_n 1, 1) := by decide +kernel
theorem dX9_weightOf_2 : decode cX9_weightOf 2 = .ok (.invokevirtual 238, 3) := by decide +kernel
theorem dX9_weightOf_5 : decode cX9_weightOf 5 = .ok (.astore_n 2, 1) := by decide +kernel
theorem dX9_weightOf_6 : decode cX9_weightOf 6 = .ok (.aload_n 2, 1) := by decide +kernel
theorem dX9_weightOf_7 : decode cX9_weightOf 7 = .ok (.ifnonnull 7, 3) := by decide +kernel
theorem dX9_weightOf_10 : decode cX9_weightOf 10 = .ok (.iconst 0, 1) := by decide +kernel
theorem dX9_weightOf_11 : decode cX9_weightOf 11 = .ok (.goto 7, 3) := by decide +kernel
theorem dX9_weightOf_14 : decode cX9_weightOf 14 = .ok (.aload_n 2, 1) := by decide +kernel
theorem dX9_weightOf_15 : decode cX9_weightOf 15 = .ok (.invokevirtual 245, 3) := by decide +kernel
theorem dX9_weightOf_18 : decode cX9_weightOf 18 = .ok (.ireturn, 1) := by decide +kernel
theorem dX9_bestShare_0 : decode cX9_bestShare 0 = .ok (.iconst 0, 1) := by decide +kernel
theorem dX9_bestShare_1 : decode cX9_bestShare 1 = .ok (.istore_n 3, 1) := by decide +kernel
theorem dX9_bestShare_2 : decode cX9_bestShare 2 = .ok (.bipush 10, 2) := by decide +kernel
theorem dX9_bestShare_4 : decode cX9_bestShare 4 = .ok (.iload_n 0, 1) := by decide +kernel
theorem dX9_bestShare_5 : decode cX9_bestShare 5 = .ok (.imul, 1) := by decide +kernel
theorem dX9_bestShare_6 : decode cX9_bestShare 6 = .ok (.istore 4, 2) := by decide +kernel
theorem dX9_bestShare_8 : decode cX9_bestShare 8 = .ok (.iconst 1, 1) := by decide +kernel
theorem dX9_bestShare_9 : decode cX9_bestShare 9 = .ok (.istore 5, 2) := by decide +kernel
theorem dX9_bestShare_11 : decode cX9_bestShare 11 = .ok (.iload 5, 2) := by decide +kernel
theorem dX9_bestShare_13 : decode cX9_bestShare 13 = .ok (.bipush 10, 2) := by decide +kernel
theorem dX9_bestShare_15 : decode cX9_bestShare 15 = .ok (.if_icmp .gt 42, 3) := by decide +kernel
theorem dX9_bestShare_18 : decode cX9_bestShare 18 = .ok (.bipush 10, 2) := by decide +kernel
theorem dX9_bestShare_20 : decode cX9_bestShare 20 = .ok (.iload 5, 2) := by decide +kernel
theorem dX9_bestShare_22 : decode cX9_bestShare 22 = .ok (.isub, 1) := by decide +kernel
theorem dX9_bestShare_23 : decode cX9_bestShare 23 = .ok (.iload_n 0, 1) := by decide +kernel
theorem dX9_bestShare_24 : decode cX9_bestShare 24 = .ok (.imul, 1) := by decide +kernel
theorem dX9_bestShare_25 : decode cX9_bestShare 25 = .ok (.iload 5, 2) := by decide +kernel
theorem dX9_bestShare_27 : decode cX9_bestShare 27 = .ok (.iload_n 1, 1) := by decide +kernel
theorem dX9_bestShare_28 : decode cX9_bestShare 28 = .ok (.imul, 1) := by decide +kernel
theorem dX9_bestShare_29 : decode cX9_bestShare 29 = .ok (.iadd, 1) := by decide +kernel
theorem dX9_bestShare_30 : decode cX9_bestShare 30 = .ok (.iload 5, 2) := by decide +kernel
theorem dX9_bestShare_32 : decode cX9_bestShare 32 = .ok (.iload_n 2, 1) := by decide +kernel
theorem dX9_bestShare_33 : decode cX9_bestShare 33 = .ok (.imul, 1) := by decide +kernel
theorem dX9_bestShare_34 : decode cX9_bestShare 34 = .ok (.isub, 1) := by decide +kernel
theorem dX9_bestShare_35 : decode cX9_bestShare 35 = .ok (.istore 6, 2) := by decide +kernel
theorem dX9_bestShare_37 : decode cX9_bestShare 37 = .ok (.iload 6, 2) := by decide +kernel
theorem dX9_bestShare_39 : decode cX9_bestShare 39 = .ok (.iload 4, 2) := by decide +kernel
theorem dX9_bestShare_41 : decode cX9_bestShare 41 = .ok (.if_icmp .le 10, 3) := by decide +kernel
theorem dX9_bestShare_44 : decode cX9_bestShare 44 = .ok (.iload 5, 2) := by decide +kernel
theorem dX9_bestShare_46 : decode cX9_bestShare 46 = .ok (.istore_n 3, 1) := by decide +kernel
theorem dX9_bestShare_47 : decode cX9_bestShare 47 = .ok (.iload 6, 2) := by decide +kernel
theorem dX9_bestShare_49 : decode cX9_bestShare 49 = .ok (.istore 4, 2) := by decide +kernel
theorem dX9_bestShare_51 : decode cX9_bestShare 51 = .ok (.iinc 5 1, 3) := by decide +kernel
theorem dX9_bestShare_54 : decode cX9_bestShare 54 = .ok (.goto (-43), 3) := by decide +kernel
theorem dX9_bestShare_57 : decode cX9_bestShare 57 = .ok (.iload_n 3, 1) := by decide +kernel
theorem dX9_bestShare_58 : decode cX9_bestShare 58 = .ok (.ireturn, 1) := by decide +kernel
theorem dX9_maySet_0 : decode cX9_maySet 0 = .ok (.iload_n 1, 1) := by decide +kernel
theorem dX9_maySet_1 : decode cX9_maySet 1 = .ok (.tableswitch 121 0 5 #[39, 59, 67, 76, 105, 113], 39) := by decide +kernel
theorem dX9_maySet_40 : decode cX9_maySet 40 = .ok (.iload_n 2, 1) := by decide +kernel
theorem dX9_maySet_41 : decode cX9_maySet 41 = .ok (.bipush (-9), 2) := by decide +kernel
theorem dX9_maySet_43 : decode cX9_maySet 43 = .ok (.if_icmp .eq 11, 3) := by decide +kernel
theorem dX9_maySet_46 : decode cX9_maySet 46 = .ok (.aload_n 0, 1) := by decide +kernel
theorem dX9_maySet_47 : decode cX9_maySet 47 = .ok (.iload_n 2, 1) := by decide +kernel
theorem dX9_maySet_48 : decode cX9_maySet 48 = .ok (.invokevirtual 86, 3) := by decide +kernel
theorem dX9_maySet_51 : decode cX9_maySet 51 = .ok (.ifCond .eq 7, 3) := by decide +kernel
theorem dX9_maySet_54 : decode cX9_maySet 54 = .ok (.iconst 1, 1) := by decide +kernel
theorem dX9_maySet_55 : decode cX9_maySet 55 = .ok (.goto 4, 3) := by decide +kernel
theorem dX9_maySet_58 : decode cX9_maySet 58 = .ok (.iconst 0, 1) := by decide +kernel
theorem dX9_maySet_59 : decode cX9_maySet 59 = .ok (.ireturn, 1) := by decide +kernel
theorem dX9_maySet_60 : decode cX9_maySet 60 = .ok (.iload_n 2, 1) := by decide +kernel
theorem dX9_maySet_61 : decode cX9_maySet 61 = .ok (.iconst 0, 1) := by decide +kernel
theorem dX9_maySet_62 : decode cX9_maySet 62 = .ok (.bipush 40, 2) := by decide +kernel
theorem dX9_maySet_64 : decode cX9_maySet 64 = .ok (.invokestatic 74, 3) := by decide +kernel
theorem dX9_maySet_67 : decode cX9_maySet 67 = .ok (.ireturn, 1) := by decide +kernel
theorem dX9_maySet_68 : decode cX9_maySet 68 = .ok (.iload_n 2, 1) := by decide +kernel
theorem dX9_maySet_69 : decode cX9_maySet 69 = .ok (.iconst 0, 1) := by decide +kernel
theorem dX9_maySet_70 : decode cX9_maySet 70 = .ok (.sipush 400, 3) := by decide +kernel
theorem dX9_maySet_73 : decode cX9_maySet 73 = .ok (.invokestatic 74, 3) := by decide +kernel
theorem dX9_maySet_76 : decode cX9_maySet 76 = .ok (.ireturn, 1) := by decide +kernel
theorem dX9_maySet_77 : decode cX9_maySet 77 = .ok (.iload_n 2, 1) := by decide +kernel
theorem dX9_maySet_78 : decode cX9_maySet 78 = .ok (.bipush 10, 2) := by decide +kernel
theorem dX9_maySet_80 : decode cX9_maySet 80 = .ok (.sipush 5000, 3) := by decide +kernel
theorem dX9_maySet_83 : decode cX9_maySet 83 = .ok (.invokestatic 74, 3) := by decide +kernel
theorem dX9_maySet_86 : decode cX9_maySet 86 = .ok (.ifCond .eq 18, 3) := by decide +kernel
theorem dX9_maySet_89 : decode cX9_maySet 89 = .ok (.iload_n 2, 1) := by decide +kernel
theorem dX9_maySet_90 : decode cX9_maySet 90 = .ok (.aload_n 0, 1) := by decide +kernel
theorem dX9_maySet_91 : decode cX9_maySet 91 = .ok (.getfield 39, 3) := by decide +kernel
theorem dX9_maySet_94 : decode cX9_maySet 94 = .ok (.getfield 196, 3) := by decide +kernel
theorem dX9_maySet_97 : decode cX9_maySet 97 = .ok (.if_icmp .lt 7, 3) := by decide +kernel
theorem dX9_maySet_100 : decode cX9_maySet 100 = .ok (.iconst 1, 1) := by decide +kernel
theorem dX9_maySet_101 : decode cX9_maySet 101 = .ok (.goto 4, 3) := by decide +kernel
theorem dX9_maySet_104 : decode cX9_maySet 104 = .ok (.iconst 0, 1) := by decide +kernel
theorem dX9_maySet_105 : decode cX9_maySet 105 = .ok (.ireturn, 1) := by decide +kernel
theorem dX9_maySet_106 : decode cX9_maySet 106 = .ok (.iload_n 2, 1) := by decide +kernel
theorem dX9_maySet_107 : decode cX9_maySet 107 = .ok (.iconst 5, 1) := by decide +kernel
theorem dX9_maySet_108 : decode cX9_maySet 108 = .ok (.bipush 60, 2) := by decide +kernel
theorem dX9_maySet_110 : decode cX9_maySet 110 = .ok (.invokestatic 74, 3) := by decide +kernel
theorem dX9_maySet_113 : decode cX9_maySet 113 = .ok (.ireturn, 1) := by decide +kernel
theorem dX9_maySet_114 : decode cX9_maySet 114 = .ok (.iload_n 2, 1) := by decide +kernel
theorem dX9_maySet_115 : decode cX9_maySet 115 = .ok (.iconst 1, 1) := by decide +kernel
theorem dX9_maySet_116 : decode cX9_maySet 116 = .ok (.bipush 30, 2) := by decide +kernel
theorem dX9_maySet_118 : decode cX9_maySet 118 = .ok (.invokestatic 74, 3) := by decide +kernel
theorem dX9_maySet_121 : decode cX9_maySet 121 = .ok (.ireturn, 1) := by decide +kernel
theorem dX9_maySet_122 : decode cX9_maySet 122 = .ok (.iconst 0, 1) := by decide +kernel
theorem dX9_maySet_123 : decode cX9_maySet 123 = .ok (.ireturn, 1) := by decide +kernel
theorem dX9_setting_0 : decode cX9_setting 0 = .ok (.iload_n 1, 1) := by decide +kernel
theorem dX9_setting_1 : decode cX9_setting 1 = .ok (.tableswitch 66 0 4 #[35, 40, 45, 50, 58], 35) := by decide +kernel
theorem dX9_setting_36 : decode cX9_setting 36 = .ok (.aload_n 0, 1) := by decide +kernel
theorem dX9_setting_37 : decode cX9_setting 37 = .ok (.getfield 58, 3) := by decide +kernel
theorem dX9_setting_40 : decode cX9_setting 40 = .ok (.ireturn, 1) := by decide +kernel
theorem dX9_setting_41 : decode cX9_setting 41 = .ok (.aload_n 0, 1) := by decide +kernel
theorem dX9_setting_42 : decode cX9_setting 42 = .ok (.getfield 61, 3) := by decide +kernel
theorem dX9_setting_45 : decode cX9_setting 45 = .ok (.ireturn, 1) := by decide +kernel
theorem dX9_setting_46 : decode cX9_setting 46 = .ok (.aload_n 0, 1) := by decide +kernel
theorem dX9_setting_47 : decode cX9_setting 47 = .ok (.getfield 64, 3) := by decide +kernel
theorem dX9_setting_50 : decode cX9_setting 50 = .ok (.ireturn, 1) := by decide +kernel
theorem dX9_setting_51 : decode cX9_setting 51 = .ok (.aload_n 0, 1) := by decide +kernel
theorem dX9_setting_52 : decode cX9_setting 52 = .ok (.getfield 39, 3) := by decide +kernel
theorem dX9_setting_55 : decode cX9_setting 55 = .ok (.getfield 193, 3) := by decide +kernel
theorem dX9_setting_58 : decode cX9_setting 58 = .ok (.ireturn, 1) := by decide +kernel
theorem dX9_setting_59 : decode cX9_setting 59 = .ok (.aload_n 0, 1) := by decide +kernel
theorem dX9_setting_60 : decode cX9_setting 60 = .ok (.getfield 32, 3) := by decide +kernel
theorem dX9_setting_63 : decode cX9_setting 63 = .ok (.getfield 248, 3) := by decide +kernel
theorem dX9_setting_66 : decode cX9_setting 66 = .ok (.ireturn, 1) := by decide +kernel
theorem dX9_setting_67 : decode cX9_setting 67 = .ok (.aload_n 0, 1) := by decide +kernel
theorem dX9_setting_68 : decode cX9_setting 68 = .ok (.getfield 32, 3) := by decide +kernel
theorem dX9_setting_71 : decode cX9_setting 71 = .ok (.getfield 251, 3) := by decide +kernel
theorem dX9_setting_74 : decode cX9_setting 74 = .ok (.ireturn, 1) := by decide +kernel
theorem dX9_change_0 : decode cX9_change 0 = .ok (.iload_n 1, 1) := by decide +kernel
theorem dX9_change_1 : decode cX9_change 1 = .ok (.tableswitch 81 0 4 #[35, 43, 51, 59, 70], 35) := by decide +kernel
theorem dX9_change_36 : decode cX9_change 36 = .ok (.aload_n 0, 1) := by decide +kernel
theorem dX9_change_37 : decode cX9_change 37 = .ok (.iload_n 2, 1) := by decide +kernel
theorem dX9_change_38 : decode cX9_change 38 = .ok (.putfield 58, 3) := by decide +kernel
theorem dX9_change_41 : decode cX9_change 41 = .ok (.goto 49, 3) := by decide +kernel
theorem dX9_change_44 : decode cX9_change 44 = .ok (.aload_n 0, 1) := by decide +kernel
theorem dX9_change_45 : decode cX9_change 45 = .ok (.iload_n 2, 1) := by decide +kernel
theorem dX9_change_46 : decode cX9_change 46 = .ok (.putfield 61, 3) := by decide +kernel
theorem dX9_change_49 : decode cX9_change 49 = .ok (.goto 41, 3) := by decide +kernel
theorem dX9_change_52 : decode cX9_change 52 = .ok (.aload_n 0, 1) := by decide +kernel
theorem dX9_change_53 : decode cX9_change 53 = .ok (.iload_n 2, 1) := by decide +kernel
theorem dX9_change_54 : decode cX9_change 54 = .ok (.putfield 64, 3) := by decide +kernel
theorem dX9_change_57 : decode cX9_change 57 = .ok (.goto 33, 3) := by decide +kernel
theorem dX9_change_60 : decode cX9_change 60 = .ok (.aload_n 0, 1) := by decide +kernel
theorem dX9_change_61 : decode cX9_change 61 = .ok (.getfield 39, 3) := by decide +kernel
theorem dX9_change_64 : decode cX9_change 64 = .ok (.iload_n 2, 1) := by decide +kernel
theorem dX9_change_65 : decode cX9_change 65 = .ok (.putfield 193, 3) := by decide +kernel
theorem dX9_change_68 : decode cX9_change 68 = .ok (.goto 22, 3) := by decide +kernel
theorem dX9_change_71 : decode cX9_change 71 = .ok (.aload_n 0, 1) := by decide +kernel
theorem dX9_change_72 : decode cX9_change 72 = .ok (.getfield 32, 3) := by decide +kernel
theorem dX9_change_75 : decode cX9_change 75 = .ok (.iload_n 2, 1) := by decide +kernel
theorem dX9_change_76 : decode cX9_change 76 = .ok (.putfield 248, 3) := by decide +kernel
theorem dX9_change_79 : decode cX9_change 79 = .ok (.goto 11, 3) := by decide +kernel
theorem dX9_change_82 : decode cX9_change 82 = .ok (.aload_n 0, 1) := by decide +kernel
theorem dX9_change_83 : decode cX9_change 83 = .ok (.getfield 32, 3) := by decide +kernel
theorem dX9_change_86 : decode cX9_change 86 = .ok (.iload_n 2, 1) := by decide +kernel
theorem dX9_change_87 : decode cX9_change 87 = .ok (.putfield 251, 3) := by decide +kernel
theorem dX9_change_90 : decode cX9_change 90 = .ok (.return_, 1) := by decide +kernel
theorem dX9_oneTick_0 : decode cX9_oneTick 0 = .ok (.aload_n 0, 1) := by decide +kernel
theorem dX9_oneTick_1 : decode cX9_oneTick 1 = .ok (.dup, 1) := by decide +kernel
theorem dX9_oneTick_2 : decode cX9_oneTick 2 = .ok (.getfield 67, 3) := by decide +kernel
theorem dX9_oneTick_5 : decode cX9_oneTick 5 = .ok (.iconst 1, 1) := by decide +kernel
theorem dX9_oneTick_6 : decode cX9_oneTick 6 = .ok (.iadd, 1) := by decide +kernel
theorem dX9_oneTick_7 : decode cX9_oneTick 7 = .ok (.putfield 67, 3) := by decide +kernel
theorem dX9_oneTick_10 : decode cX9_oneTick 10 = .ok (.aload_n 0, 1) := by decide +kernel
theorem dX9_oneTick_11 : decode cX9_oneTick 11 = .ok (.getfield 32, 3) := by decide +kernel
theorem dX9_oneTick_14 : decode cX9_oneTick 14 = .ok (.invokevirtual 254, 3) := by decide +kernel
theorem dX9_oneTick_17 : decode cX9_oneTick 17 = .ok (.aload_n 0, 1) := by decide +kernel
theorem dX9_oneTick_18 : decode cX9_oneTick 18 = .ok (.getfield 25, 3) := by decide +kernel
theorem dX9_oneTick_21 : decode cX9_oneTick 21 = .ok (.invokevirtual 257, 3) := by decide +kernel
theorem dX9_oneTick_24 : decode cX9_oneTick 24 = .ok (.ifCond .eq 10, 3) := by decide +kernel
theorem dX9_oneTick_27 : decode cX9_oneTick 27 = .ok (.aload_n 0, 1) := by decide +kernel
theorem dX9_oneTick_28 : decode cX9_oneTick 28 = .ok (.invokevirtual 260, 3) := by decide +kernel
theorem dX9_oneTick_31 : decode cX9_oneTick 31 = .ok (.goto 4, 3) := by decide +kernel
theorem dX9_oneTick_34 : decode cX9_oneTick 34 = .ok (.iconst 0, 1) := by decide +kernel
theorem dX9_oneTick_35 : decode cX9_oneTick 35 = .ok (.ireturn, 1) := by decide +kernel
theorem dX9_flow_0 : decode cX9_flow 0 = .ok (.aload_n 0, 1) := by decide +kernel
theorem dX9_flow_1 : decode cX9_flow 1 = .ok (.getfield 18, 3) := by decide +kernel
theorem dX9_flow_4 : decode cX9_flow 4 = .ok (.aload_n 0, 1) := by decide +kernel
theorem dX9_flow_5 : decode cX9_flow 5 = .ok (.getfield 64, 3) := by decide +kernel
theorem dX9_flow_8 : decode cX9_flow 8 = .ok (.aload_n 0, 1) := by decide +kernel
theorem dX9_flow_9 : decode cX9_flow 9 = .ok (.aload_n 0, 1) := by decide +kernel
theorem dX9_flow_10 : decode cX9_flow 10 = .ok (.getfield 58, 3) := by decide +kernel
theorem dX9_flow_13 : decode cX9_flow 13 = .ok (.aload_n 0, 1) := by decide +kernel
theorem dX9_flow_14 : decode cX9_flow 14 = .ok (.getfield 61, 3) := by decide +kernel
theorem dX9_flow_17 : decode cX9_flow 17 = .ok (.invokevirtual 94, 3) := by decide +kernel
theorem dX9_flow_20 : decode cX9_flow 20 = .ok (.invokevirtual 263, 3) := by decide +kernel
theorem dX9_flow_23 : decode cX9_flow 23 = .ok (.istore_n 1, 1) := by decide +kernel
theorem dX9_flow_24 : decode cX9_flow 24 = .ok (.aload_n 0, 1) := by decide +kernel
theorem dX9_flow_25 : decode cX9_flow 25 = .ok (.getfield 39, 3) := by decide +kernel
theorem dX9_flow_28 : decode cX9_flow 28 = .ok (.iload_n 1, 1) := by decide +kernel
theorem dX9_flow_29 : decode cX9_flow 29 = .ok (.invokevirtual 266, 3) := by decide +kernel
theorem dX9_flow_32 : decode cX9_flow 32 = .ok (.iload_n 1, 1) := by decide +kernel
theorem dX9_flow_33 : decode cX9_flow 33 = .ok (.ifCond .le 23, 3) := by decide +kernel
theorem dX9_flow_36 : decode cX9_flow 36 = .ok (.aload_n 0, 1) := by decide +kernel
theorem dX9_flow_37 : decode cX9_flow 37 = .ok (.getfield 25, 3) := by decide +kernel
theorem dX9_flow_40 : decode cX9_flow 40 = .ok (.getfield 98, 3) := by decide +kernel
theorem dX9_flow_43 : decode cX9_flow 43 = .ok (.iconst 1, 1) := by decide +kernel
theorem dX9_flow_44 : decode cX9_flow 44 = .ok (.if_icmp .ne 12, 3) := by decide +kernel
theorem dX9_flow_47 : decode cX9_flow 47 = .ok (.aload_n 0, 1) := by decide +kernel
theorem dX9_flow_48 : decode cX9_flow 48 = .ok (.getfield 25, 3) := by decide +kernel
theorem dX9_flow_51 : decode cX9_flow 51 = .ok (.iconst 2, 1) := by decide +kernel
theorem dX9_flow_52 : decode cX9_flow 52 = .ok (.invokevirtual 150, 3) := by decide +kernel
theorem dX9_flow_55 : decode cX9_flow 55 = .ok (.pop, 1) := by decide +kernel
theorem dX9_flow_56 : decode cX9_flow 56 = .ok (.aload_n 0, 1) := by decide +kernel
theorem dX9_flow_57 : decode cX9_flow 57 = .ok (.getfield 32, 3) := by decide +kernel
theorem dX9_flow_60 : decode cX9_flow 60 = .ok (.invokevirtual 270, 3) := by decide +kernel
theorem dX9_flow_63 : decode cX9_flow 63 = .ok (.istore_n 2, 1) := by decide +kernel
theorem dX9_flow_64 : decode cX9_flow 64 = .ok (.iload_n 2, 1) := by decide +kernel
theorem dX9_flow_65 : decode cX9_flow 65 = .ok (.ifCond .eq 13, 3) := by decide +kernel
theorem dX9_flow_68 : decode cX9_flow 68 = .ok (.aload_n 0, 1) := by decide +kernel
theorem dX9_flow_69 : decode cX9_flow 69 = .ok (.getfield 39, 3) := by decide +kernel
theorem dX9_flow_72 : decode cX9_flow 72 = .ok (.invokevirtual 143, 3) := by decide +kernel
theorem dX9_flow_75 : decode cX9_flow 75 = .ok (.ifCond .eq 11, 3) := by decide +kernel
theorem dX9_flow_78 : decode cX9_flow 78 = .ok (.aload_n 0, 1) := by decide +kernel
theorem dX9_flow_79 : decode cX9_flow 79 = .ok (.getfield 25, 3) := by decide +kernel
theorem dX9_flow_82 : decode cX9_flow 82 = .ok (.invokevirtual 153, 3) := by decide +kernel
theorem dX9_flow_85 : decode cX9_flow 85 = .ok (.pop, 1) := by decide +kernel
theorem dX9_flow_86 : decode cX9_flow 86 = .ok (.iload_n 1, 1) := by decide +kernel
theorem dX9_flow_87 : decode cX9_flow 87 = .ok (.ireturn, 1) := by decide +kernel
theorem dX9_lostMeters_0 : decode cX9_lostMeters 0 = .ok (.iconst 0, 1) := by decide +kernel
theorem dX9_lostMeters_1 : decode cX9_lostMeters 1 = .ok (.istore_n 1, 1) := by decide +kernel
theorem dX9_lostMeters_2 : decode cX9_lostMeters 2 = .ok (.iconst 0, 1) := by decide +kernel
theorem dX9_lostMeters_3 : decode cX9_lostMeters 3 = .ok (.istore_n 2, 1) := by decide +kernel
theorem dX9_lostMeters_4 : decode cX9_lostMeters 4 = .ok (.iload_n 2, 1) := by decide +kernel
theorem dX9_lostMeters_5 : decode cX9_lostMeters 5 = .ok (.iconst 4, 1) := by decide +kernel
theorem dX9_lostMeters_6 : decode cX9_lostMeters 6 = .ok (.if_icmp .ge 21, 3) := by decide +kernel
theorem dX9_lostMeters_9 : decode cX9_lostMeters 9 = .ok (.iload_n 1, 1) := by decide +kernel
theorem dX9_lostMeters_10 : decode cX9_lostMeters 10 = .ok (.aload_n 0, 1) := by decide +kernel
theorem dX9_lostMeters_11 : decode cX9_lostMeters 11 = .ok (.getfield 50, 3) := by decide +kernel
theorem dX9_lostMeters_14 : decode cX9_lostMeters 14 = .ok (.iload_n 2, 1) := by decide +kernel
theorem dX9_lostMeters_15 : decode cX9_lostMeters 15 = .ok (.baload, 1) := by decide +kernel
theorem dX9_lostMeters_16 : decode cX9_lostMeters 16 = .ok (.invokestatic 172, 3) := by decide +kernel
theorem dX9_lostMeters_19 : decode cX9_lostMeters 19 = .ok (.iadd, 1) := by decide +kernel
theorem dX9_lostMeters_20 : decode cX9_lostMeters 20 = .ok (.istore_n 1, 1) := by decide +kernel
theorem dX9_lostMeters_21 : decode cX9_lostMeters 21 = .ok (.iinc 2 1, 3) := by decide +kernel
theorem dX9_lostMeters_24 : decode cX9_lostMeters 24 = .ok (.goto (-20), 3) := by decide +kernel
theorem dX9_lostMeters_27 : decode cX9_lostMeters 27 = .ok (.iload_n 1, 1) := by decide +kernel
theorem dX9_lostMeters_28 : decode cX9_lostMeters 28 = .ok (.ireturn, 1) := by decide +kernel
theorem dX9_toldByOthers_0 : decode cX9_toldByOthers 0 = .ok (.lconst 0, 1) := by decide +kernel
theorem dX9_toldByOthers_1 : decode cX9_toldByOthers 1 = .ok (.lstore_n 2, 1) := by decide +kernel
theorem dX9_toldByOthers_2 : decode cX9_toldByOthers 2 = .ok (.iconst 1, 1) := by decide +kernel
theorem dX9_toldByOthers_3 : decode cX9_toldByOthers 3 = .ok (.istore 4, 2) := by decide +kernel
theorem dX9_toldByOthers_5 : decode cX9_toldByOthers 5 = .ok (.iload 4, 2) := by decide +kernel
theorem dX9_toldByOthers_7 : decode cX9_toldByOthers 7 = .ok (.iconst 4, 1) := by decide +kernel
theorem dX9_toldByOthers_8 : decode cX9_toldByOthers 8 = .ok (.if_icmp .ge 27, 3) := by decide +kernel
theorem dX9_toldByOthers_11 : decode cX9_toldByOthers 11 = .ok (.iload 4, 2) := by decide +kernel
theorem dX9_toldByOthers_13 : decode cX9_toldByOthers 13 = .ok (.iload_n 1, 1) := by decide +kernel
theorem dX9_toldByOthers_14 : decode cX9_toldByOthers 14 = .ok (.if_icmp .eq 15, 3) := by decide +kernel
theorem dX9_toldByOthers_17 : decode cX9_toldByOthers 17 = .ok (.lload_n 2, 1) := by decide +kernel
theorem dX9_toldByOthers_18 : decode cX9_toldByOthers 18 = .ok (.aload_n 0, 1) := by decide +kernel
theorem dX9_toldByOthers_19 : decode cX9_toldByOthers 19 = .ok (.getfield 39, 3) := by decide +kernel
theorem dX9_toldByOthers_22 : decode cX9_toldByOthers 22 = .ok (.iload 4, 2) := by decide +kernel
theorem dX9_toldByOthers_24 : decode cX9_toldByOthers 24 = .ok (.invokevirtual 204, 3) := by decide +kernel
theorem dX9_toldByOthers_27 : decode cX9_toldByOthers 27 = .ok (.ladd, 1) := by decide +kernel
theorem dX9_toldByOthers_28 : decode cX9_toldByOthers 28 = .ok (.lstore_n 2, 1) := by decide +kernel
theorem dX9_toldByOthers_29 : decode cX9_toldByOthers 29 = .ok (.iinc 4 1, 3) := by decide +kernel
theorem dX9_toldByOthers_32 : decode cX9_toldByOthers 32 = .ok (.goto (-27), 3) := by decide +kernel
theorem dX9_toldByOthers_35 : decode cX9_toldByOthers 35 = .ok (.iload_n 1, 1) := by decide +kernel
theorem dX9_toldByOthers_36 : decode cX9_toldByOthers 36 = .ok (.ifCond .ne 7, 3) := by decide +kernel
theorem dX9_toldByOthers_39 : decode cX9_toldByOthers 39 = .ok (.lload_n 2, 1) := by decide +kernel
theorem dX9_toldByOthers_40 : decode cX9_toldByOthers 40 = .ok (.goto 13, 3) := by decide +kernel
theorem dX9_toldByOthers_43 : decode cX9_toldByOthers 43 = .ok (.aload_n 0, 1) := by decide +kernel
theorem dX9_toldByOthers_44 : decode cX9_toldByOthers 44 = .ok (.getfield 39, 3) := by decide +kernel
theorem dX9_toldByOthers_47 : decode cX9_toldByOthers 47 = .ok (.iconst 0, 1) := by decide +kernel
theorem dX9_toldByOthers_48 : decode cX9_toldByOthers 48 = .ok (.invokevirtual 204, 3) := by decide +kernel
theorem dX9_toldByOthers_51 : decode cX9_toldByOthers 51 = .ok (.lload_n 2, 1) := by decide +kernel
theorem dX9_toldByOthers_52 : decode cX9_toldByOthers 52 = .ok (.lsub, 1) := by decide +kernel
theorem dX9_toldByOthers_53 : decode cX9_toldByOthers 53 = .ok (.lreturn, 1) := by decide +kernel
theorem dX10_init_0 : decode cX10_init 0 = .ok (.aload_n 0, 1) := by decide +kernel
theorem dX10_init_1 : decode cX10_init 1 = .ok (.invokespecial 1, 3) := by decide +kernel
theorem dX10_init_4 : decode cX10_init 4 = .ok (.aload_n 0, 1) := by decide +kernel
theorem dX10_init_5 : decode cX10_init 5 = .ok (.bipush 6, 2) := by decide +kernel
theorem dX10_init_7 : decode cX10_init 7 = .ok (.newarray .int, 2) := by decide +kernel
theorem dX10_init_9 : decode cX10_init 9 = .ok (.putfield 7, 3) := by decide +kernel
theorem dX10_init_12 : decode cX10_init 12 = .ok (.aload_n 0, 1) := by decide +kernel
theorem dX10_init_13 : decode cX10_init 13 = .ok (.bipush 30, 2) := by decide +kernel
theorem dX10_init_15 : decode cX10_init 15 = .ok (.newarray .int, 2) := by decide +kernel
theorem dX10_init_17 : decode cX10_init 17 = .ok (.putfield 13, 3) := by decide +kernel
theorem dX10_init_20 : decode cX10_init 20 = .ok (.aload_n 0, 1) := by decide +kernel
theorem dX10_init_21 : decode cX10_init 21 = .ok (.bipush 6, 2) := by decide +kernel
theorem dX10_init_23 : decode cX10_init 23 = .ok (.newarray .int, 2) := by decide +kernel
theorem dX10_init_25 : decode cX10_init 25 = .ok (.putfield 16, 3) := by decide +kernel
theorem dX10_init_28 : decode cX10_init 28 = .ok (.aload_n 0, 1) := by decide +kernel
theorem dX10_init_29 : decode cX10_init 29 = .ok (.iconst 4, 1) := by decide +kernel
theorem dX10_init_30 : decode cX10_init 30 = .ok (.putfield 19, 3) := by decide +kernel
theorem dX10_init_33 : decode cX10_init 33 = .ok (.aload_n 0, 1) := by decide +kernel
theorem dX10_init_34 : decode cX10_init 34 = .ok (.bipush 8, 2) := by decide +kernel
theorem dX10_init_36 : decode cX10_init 36 = .ok (.newarray .int, 2) := by decide +kernel
theorem dX10_init_38 : decode cX10_init 38 = .ok (.putfield 23, 3) := by decide +kernel
theorem dX10_init_41 : decode cX10_init 41 = .ok (.aload_n 0, 1) := by decide +kernel
theorem dX10_init_42 : decode cX10_init 42 = .ok (.bipush 8, 2) := by decide +kernel
theorem dX10_init_44 : decode cX10_init 44 = .ok (.newarray .int, 2) := by decide +kernel
theorem dX10_init_46 : decode cX10_init 46 = .ok (.putfield 26, 3) := by decide +kernel
theorem dX10_init_49 : decode cX10_init 49 = .ok (.aload_n 0, 1) := by decide +kernel
theorem dX10_init_50 : decode cX10_init 50 = .ok (.bipush 20, 2) := by decide +kernel
theorem dX10_init_52 : decode cX10_init 52 = .ok (.putfield 29, 3) := by decide +kernel
theorem dX10_init_55 : decode cX10_init 55 = .ok (.aload_n 0, 1) := by decide +kernel
theorem dX10_init_56 : decode cX10_init 56 = .ok (.bipush 6, 2) := by decide +kernel
theorem dX10_init_58 : decode cX10_init 58 = .ok (.newarray .int, 2) := by decide +kernel
theorem dX10_init_60 : decode cX10_init 60 = .ok (.putfield 32, 3) := by decide +kernel
theorem dX10_init_63 : decode cX10_init 63 = .ok (.aload_n 0, 1) := by decide +kernel
theorem dX10_init_64 : decode cX10_init 64 = .ok (.iconst 4, 1) := by decide +kernel
theorem dX10_init_65 : decode cX10_init 65 = .ok (.newarray .long, 2) := by decide +kernel
theorem dX10_init_67 : decode cX10_init 67 = .ok (.putfield 35, 3) := by decide +kernel
theorem dX10_init_70 : decode cX10_init 70 = .ok (.aload_n 0, 1) := by decide +kernel
theorem dX10_init_71 : decode cX10_init 71 = .ok (.iconst 2, 1) := by decide +kernel
theorem dX10_init_72 : decode cX10_init 72 = .ok (.newarray .int, 2) := by decide +kernel
theorem dX10_init_74 : decode cX10_init 74 = .ok (.putfield 39, 3) := by decide +kernel
theorem dX10_init_77 : decode cX10_init 77 = .ok (.aload_n 0, 1) := by decide +kernel
theorem dX10_init_78 : decode cX10_init 78 = .ok (.iconst 2, 1) := by decide +kernel
theorem dX10_init_79 : decode cX10_init 79 = .ok (.newarray .int, 2) := by decide +kernel
theorem dX10_init_81 : decode cX10_init 81 = .ok (.putfield 42, 3) := by decide +kernel
theorem dX10_init_84 : decode cX10_init 84 = .ok (.aload_n 0, 1) := by decide +kernel
theorem dX10_init_85 : decode cX10_init 85 = .ok (.iconst 2, 1) := by decide +kernel
theorem dX10_init_86 : decode cX10_init 86 = .ok (.newarray .int, 2) := by decide +kernel
theorem dX10_init_88 : decode cX10_init 88 = .ok (.putfield 45, 3) := by decide +kernel
theorem dX10_init_91 : decode cX10_init 91 = .ok (.aload_n 0, 1) := by decide +kernel
theorem dX10_init_92 : decode cX10_init 92 = .ok (.bipush 8, 2) := by decide +kernel
theorem dX10_init_94 : decode cX10_init 94 = .ok (.newarray .int, 2) := by decide +kernel
theorem dX10_init_96 : decode cX10_init 96 = .ok (.putfield 48, 3) := by decide +kernel
theorem dX10_init_99 : decode cX10_init 99 = .ok (.aload_n 0, 1) := by decide +kernel
theorem dX10_init_100 : decode cX10_init 100 = .ok (.bipush 8, 2) := by decide +kernel
theorem dX10_init_102 : decode cX10_init 102 = .ok (.newarray .int, 2) := by decide +kernel
theorem dX10_init_104 : decode cX10_init 104 = .ok (.putfield 51, 3) := by decide +kernel
theorem dX10_init_107 : decode cX10_init 107 = .ok (.aload_n 0, 1) := by decide +kernel
theorem dX10_init_108 : decode cX10_init 108 = .ok (.bipush 8, 2) := by decide +kernel
theorem dX10_init_110 : decode cX10_init 110 = .ok (.newarray .int, 2) := by decide +kernel
theorem dX10_init_112 : decode cX10_init 112 = .ok (.putfield 54, 3) := by decide +kernel
theorem dX10_init_115 : decode cX10_init 115 = .ok (.aload_n 0, 1) := by decide +kernel
theorem dX10_init_116 : decode cX10_init 116 = .ok (.iconst 4, 1) := by decide +kernel
theorem dX10_init_117 : decode cX10_init 117 = .ok (.newarray .boolean, 2) := by decide +kernel
theorem dX10_init_119 : decode cX10_init 119 = .ok (.putfield 57, 3) := by decide +kernel
theorem dX10_init_122 : decode cX10_init 122 = .ok (.aload_n 0, 1) := by decide +kernel
theorem dX10_init_123 : decode cX10_init 123 = .ok (.getfield 32, 3) := by decide +kernel
theorem dX10_init_126 : decode cX10_init 126 = .ok (.iconst 0, 1) := by decide +kernel
theorem dX10_init_127 : decode cX10_init 127 = .ok (.bipush (-9), 2) := by decide +kernel
theorem dX10_init_129 : decode cX10_init 129 = .ok (.iastore, 1) := by decide +kernel
theorem dX10_init_130 : decode cX10_init 130 = .ok (.aload_n 0, 1) := by decide +kernel
theorem dX10_init_131 : decode cX10_init 131 = .ok (.getfield 32, 3) := by decide +kernel
theorem dX10_init_134 : decode cX10_init 134 = .ok (.iconst 2, 1) := by decide +kernel
theorem dX10_init_135 : decode cX10_init 135 = .ok (.sipush 300, 3) := by decide +kernel
theorem dX10_init_138 : decode cX10_init 138 = .ok (.iastore, 1) := by decide +kernel
theorem dX10_init_139 : decode cX10_init 139 = .ok (.aload_n 0, 1) := by decide +kernel
theorem dX10_init_140 : decode cX10_init 140 = .ok (.getfield 32, 3) := by decide +kernel
theorem dX10_init_143 : decode cX10_init 143 = .ok (.iconst 3, 1) := by decide +kernel
theorem dX10_init_144 : decode cX10_init 144 = .ok (.sipush 500, 3) := by decide +kernel
theorem dX10_init_147 : decode cX10_init 147 = .ok (.iastore, 1) := by decide +kernel
theorem dX10_init_148 : decode cX10_init 148 = .ok (.aload_n 0, 1) := by decide +kernel
theorem dX10_init_149 : decode cX10_init 149 = .ok (.getfield 32, 3) := by decide +kernel
theorem dX10_init_152 : decode cX10_init 152 = .ok (.iconst 4, 1) := by decide +kernel
theorem dX10_init_153 : decode cX10_init 153 = .ok (.bipush 20, 2) := by decide +kernel
theorem dX10_init_155 : decode cX10_init 155 = .ok (.iastore, 1) := by decide +kernel
theorem dX10_init_156 : decode cX10_init 156 = .ok (.aload_n 0, 1) := by decide +kernel
theorem dX10_init_157 : decode cX10_init 157 = .ok (.getfield 32, 3) := by decide +kernel
theorem dX10_init_160 : decode cX10_init 160 = .ok (.iconst 5, 1) := by decide +kernel
theorem dX10_init_161 : decode cX10_init 161 = .ok (.bipush 6, 2) := by decide +kernel
theorem dX10_init_163 : decode cX10_init 163 = .ok (.iastore, 1) := by decide +kernel
theorem dX10_init_164 : decode cX10_init 164 = .ok (.aload_n 0, 1) := by decide +kernel
theorem dX10_init_165 : decode cX10_init 165 = .ok (.getfield 39, 3) := by decide +kernel
theorem dX10_init_168 : decode cX10_init 168 = .ok (.iconst 0, 1) := by decide +kernel
theorem dX10_init_169 : decode cX10_init 169 = .ok (.iconst 1, 1) := by decide +kernel
theorem dX10_init_170 : decode cX10_init 170 = .ok (.iastore, 1) := by decide +kernel
theorem dX10_init_171 : decode cX10_init 171 = .ok (.aload_n 0, 1) := by decide +kernel
theorem dX10_init_172 : decode cX10_init 172 = .ok (.invokevirtual 61, 3) := by decide +kernel
theorem dX10_init_175 : decode cX10_init 175 = .ok (.return_, 1) := by decide +kernel
theorem dX10_in_0 : decode cX10_in 0 = .ok (.iload_n 0, 1) := by decide +kernel
theorem dX10_in_1 : decode cX10_in 1 = .ok (.iload_n 1, 1) := by decide +kernel
theorem dX10_in_2 : decode cX10_in 2 = .ok (.if_icmp .lt 12, 3) := by decide +kernel
theorem dX10_in_5 : decode cX10_in 5 = .ok (.iload_n 0, 1) := by decide +kernel
theorem dX10_in_6 : decode cX10_in 6 = .ok (.iload_n 2, 1) := by decide +kernel
theorem dX10_in_7 : decode cX10_in 7 = .ok (.if_icmp .gt 7, 3) := by decide +kernel
theorem dX10_in_10 : decode cX10_in 10 = .ok (.iconst 1, 1) := by decide +kernel
theorem dX10_in_11 : decode cX10_in 11 = .ok (.goto 4, 3) := by decide +kernel
theorem dX10_in_14 : decode cX10_in 14 = .ok (.iconst 0, 1) := by decide +kernel
theorem dX10_in_15 : decode cX10_in 15 = .ok (.ireturn, 1) := by decide +kernel
theorem dX10_fresh_0 : decode cX10_fresh 0 = .ok (.iconst 0, 1) := by decide +kernel
theorem dX10_fresh_1 : decode cX10_fresh 1 = .ok (.istore_n 1, 1) := by decide +kernel
theorem dX10_fresh_2 : decode cX10_fresh 2 = .ok (.iload_n 1, 1) := by decide +kernel
theorem dX10_fresh_3 : decode cX10_fresh 3 = .ok (.bipush 8, 2) := by decide +kernel
theorem dX10_fresh_5 : decode cX10_fresh 5 = .ok (.if_icmp .ge 27, 3) := by decide +kernel
theorem dX10_fresh_8 : decode cX10_fresh 8 = .ok (.aload_n 0, 1) := by decide +kernel
theorem dX10_fresh_9 : decode cX10_fresh 9 = .ok (.getfield 23, 3) := by decide +kernel
theorem dX10_fresh_12 : decode cX10_fresh 12 = .ok (.iload_n 1, 1) := by decide +kernel
theorem dX10_fresh_13 : decode cX10_fresh 13 = .ok (.sipush 300, 3) := by decide +kernel
theorem dX10_fresh_16 : decode cX10_fresh 16 = .ok (.iastore, 1) := by decide +kernel
theorem dX10_fresh_17 : decode cX10_fresh 17 = .ok (.aload_n 0, 1) := by decide +kernel
theorem dX10_fresh_18 : decode cX10_fresh 18 = .ok (.getfield 26, 3) := by decide +kernel
theorem dX10_fresh_21 : decode cX10_fresh 21 = .ok (.iload_n 1, 1) := by decide +kernel
theorem dX10_fresh_22 : decode cX10_fresh 22 = .ok (.sipush 300, 3) := by decide +kernel
theorem dX10_fresh_25 : decode cX10_fresh 25 = .ok (.iastore, 1) := by decide +kernel
theorem dX10_fresh_26 : decode cX10_fresh 26 = .ok (.iinc 1 1, 3) := by decide +kernel
theorem dX10_fresh_29 : decode cX10_fresh 29 = .ok (.goto (-27), 3) := by decide +kernel
theorem dX10_fresh_32 : decode cX10_fresh 32 = .ok (.iconst 0, 1) := by decide +kernel
theorem dX10_fresh_33 : decode cX10_fresh 33 = .ok (.istore_n 1, 1) := by decide +kernel
theorem dX10_fresh_34 : decode cX10_fresh 34 = .ok (.iload_n 1, 1) := by decide +kernel
theorem dX10_fresh_35 : decode cX10_fresh 35 = .ok (.iconst 4, 1) := by decide +kernel
theorem dX10_fresh_36 : decode cX10_fresh 36 = .ok (.if_icmp .ge 16, 3) := by decide +kernel
theorem dX10_fresh_39 : decode cX10_fresh 39 = .ok (.aload_n 0, 1) := by decide +kernel
theorem dX10_fresh_40 : decode cX10_fresh 40 = .ok (.getfield 35, 3) := by decide +kernel
theorem dX10_fresh_43 : decode cX10_fresh 43 = .ok (.iload_n 1, 1) := by decide +kernel
theorem dX10_fresh_44 : decode cX10_fresh 44 = .ok (.lconst 0, 1) := by decide +kernel
theorem dX10_fresh_45 : decode cX10_fresh 45 = .ok (.lastore, 1) := by decide +kernel
theorem dX10_fresh_46 : decode cX10_fresh 46 = .ok (.iinc 1 1, 3) := by decide +kernel
theorem dX10_fresh_49 : decode cX10_fresh 49 = .ok (.goto (-15), 3) := by decide +kernel
theorem dX10_fresh_52 : decode cX10_fresh 52 = .ok (.return_, 1) := by decide +kernel
theorem dX10_isCooler_0 : decode cX10_isCooler 0 = .ok (.iload_n 1, 1) := by decide +kernel
theorem dX10_isCooler_1 : decode cX10_isCooler 1 = .ok (.iconst 0, 1) := by decide +kernel
theorem dX10_isCooler_2 : decode cX10_isCooler 2 = .ok (.aload_n 0, 1) := by decide +kernel
theorem dX10_isCooler_3 : decode cX10_isCooler 3 = .ok (.getfield 67, 3) := by decide +kernel
theorem dX10_isCooler_6 : decode cX10_isCooler 6 = .ok (.iconst 1, 1) := by decide +kernel
theorem dX10_isCooler_7 : decode cX10_isCooler 7 = .ok (.isub, 1) := by decide +kernel
theorem dX10_isCooler_8 : decode cX10_isCooler 8 = .ok (.invokestatic 70, 3) := by decide +kernel
theorem dX10_isCooler_11 : decode cX10_isCooler 11 = .ok (.ireturn, 1) := by decide +kernel
theorem dX10_cooler_0 : decode cX10_cooler 0 = .ok (.aload_n 0, 1) := by decide +kernel
theorem dX10_cooler_1 : decode cX10_cooler 1 = .ok (.iconst 0, 1) := by decide +kernel
theorem dX10_cooler_2 : decode cX10_cooler 2 = .ok (.putfield 64, 3) := by decide +kernel
theorem dX10_cooler_5 : decode cX10_cooler 5 = .ok (.iload_n 1, 1) := by decide +kernel
theorem dX10_cooler_6 : decode cX10_cooler 6 = .ok (.iconst 0, 1) := by decide +kernel
theorem dX10_cooler_7 : decode cX10_cooler 7 = .ok (.iconst 2, 1) := by decide +kernel
theorem dX10_cooler_8 : decode cX10_cooler 8 = .ok (.invokestatic 70, 3) := by decide +kernel
theorem dX10_cooler_11 : decode cX10_cooler 11 = .ok (.ifCond .eq 78, 3) := by decide +kernel
theorem dX10_cooler_14 : decode cX10_cooler 14 = .ok (.iload_n 1, 1) := by decide +kernel
theorem dX10_cooler_15 : decode cX10_cooler 15 = .ok (.ifCond .le 58, 3) := by decide +kernel
theorem dX10_cooler_18 : decode cX10_cooler 18 = .ok (.iload_n 2, 1) := by decide +kernel
theorem dX10_cooler_19 : decode cX10_cooler 19 = .ok (.iconst 0, 1) := by decide +kernel
theorem dX10_cooler_20 : decode cX10_cooler 20 = .ok (.bipush 50, 2) := by decide +kernel
theorem dX10_cooler_22 : decode cX10_cooler 22 = .ok (.invokestatic 70, 3) := by decide +kernel
theorem dX10_cooler_25 : decode cX10_cooler 25 = .ok (.ifCond .eq 64, 3) := by decide +kernel
theorem dX10_cooler_28 : decode cX10_cooler 28 = .ok (.iload_n 3, 1) := by decide +kernel
theorem dX10_cooler_29 : decode cX10_cooler 29 = .ok (.iload_n 2, 1) := by decide +kernel
theorem dX10_cooler_30 : decode cX10_cooler 30 = .ok (.bipush 50, 2) := by decide +kernel
theorem dX10_cooler_32 : decode cX10_cooler 32 = .ok (.invokestatic 70, 3) := by decide +kernel
theorem dX10_cooler_35 : decode cX10_cooler 35 = .ok (.ifCond .eq 54, 3) := by decide +kernel
theorem dX10_cooler_38 : decode cX10_cooler 38 = .ok (.iload 4, 2) := by decide +kernel
theorem dX10_cooler_40 : decode cX10_cooler 40 = .ok (.iload_n 3, 1) := by decide +kernel
theorem dX10_cooler_41 : decode cX10_cooler 41 = .ok (.bipush 50, 2) := by decide +kernel
theorem dX10_cooler_43 : decode cX10_cooler 43 = .ok (.invokestatic 70, 3) := by decide +kernel
theorem dX10_cooler_46 : decode cX10_cooler 46 = .ok (.ifCond .eq 43, 3) := by decide +kernel
theorem dX10_cooler_49 : decode cX10_cooler 49 = .ok (.iload 5, 2) := by decide +kernel
theorem dX10_cooler_51 : decode cX10_cooler 51 = .ok (.iload 4, 2) := by decide +kernel
theorem dX10_cooler_53 : decode cX10_cooler 53 = .ok (.bipush 50, 2) := by decide +kernel
theorem dX10_cooler_55 : decode cX10_cooler 55 = .ok (.invokestatic 70, 3) := by decide +kernel
theorem dX10_cooler_58 : decode cX10_cooler 58 = .ok (.ifCond .eq 31, 3) := by decide +kernel
theorem dX10_cooler_61 : decode cX10_cooler 61 = .ok (.iload 6, 2) := by decide +kernel
theorem dX10_cooler_63 : decode cX10_cooler 63 = .ok (.iload 5, 2) := by decide +kernel
theorem dX10_cooler_65 : decode cX10_cooler 65 = .ok (.bipush 50, 2) := by decide +kernel
theorem dX10_cooler_67 : decode cX10_cooler 67 = .ok (.invokestatic 70, 3) := by decide +kernel
theorem dX10_cooler_70 : decode cX10_cooler 70 = .ok (.ifCond .eq 19, 3) := by decide +kernel
theorem dX10_cooler_73 : decode cX10_cooler 73 = .ok (.iload_n 1, 1) := by decide +kernel
theorem dX10_cooler_74 : decode cX10_cooler 74 = .ok (.iconst 2, 1) := by decide +kernel
theorem dX10_cooler_75 : decode cX10_cooler 75 = .ok (.if_icmp .ne 16, 3) := by decide +kernel
theorem dX10_cooler_78 : decode cX10_cooler 78 = .ok (.iload 7, 2) := by decide +kernel
theorem dX10_cooler_80 : decode cX10_cooler 80 = .ok (.iconst 0, 1) := by decide +kernel
theorem dX10_cooler_81 : decode cX10_cooler 81 = .ok (.bipush 60, 2) := by decide +kernel
theorem dX10_cooler_83 : decode cX10_cooler 83 = .ok (.invokestatic 70, 3) := by decide +kernel
theorem dX10_cooler_86 : decode cX10_cooler 86 = .ok (.ifCond .ne 5, 3) := by decide +kernel
theorem dX10_cooler_89 : decode cX10_cooler 89 = .ok (.iconst (-1), 1) := by decide +kernel
theorem dX10_cooler_90 : decode cX10_cooler 90 = .ok (.ireturn, 1) := by decide +kernel
theorem dX10_cooler_91 : decode cX10_cooler 91 = .ok (.aload_n 0, 1) := by decide +kernel
theorem dX10_cooler_92 : decode cX10_cooler 92 = .ok (.getfield 67, 3) := by decide +kernel
theorem dX10_cooler_95 : decode cX10_cooler 95 = .ok (.bipush 6, 2) := by decide +kernel
theorem dX10_cooler_97 : decode cX10_cooler 97 = .ok (.if_icmp .ne 6, 3) := by decide +kernel
theorem dX10_cooler_100 : decode cX10_cooler 100 = .ok (.bipush (-3), 2) := by decide +kernel
theorem dX10_cooler_102 : decode cX10_cooler 102 = .ok (.ireturn, 1) := by decide +kernel
theorem dX10_cooler_103 : decode cX10_cooler 103 = .ok (.iconst 5, 1) := by decide +kernel
theorem dX10_cooler_104 : decode cX10_cooler 104 = .ok (.aload_n 0, 1) := by decide +kernel
theorem dX10_cooler_105 : decode cX10_cooler 105 = .ok (.getfield 67, 3) := by decide +kernel
theorem dX10_cooler_108 : decode cX10_cooler 108 = .ok (.imul, 1) := by decide +kernel
theorem dX10_cooler_109 : decode cX10_cooler 109 = .ok (.istore 8, 2) := by decide +kernel
theorem dX10_cooler_111 : decode cX10_cooler 111 = .ok (.aload_n 0, 1) := by decide +kernel
theorem dX10_cooler_112 : decode cX10_cooler 112 = .ok (.getfield 7, 3) := by decide +kernel
theorem dX10_cooler_115 : decode cX10_cooler 115 = .ok (.aload_n 0, 1) := by decide +kernel
theorem dX10_cooler_116 : decode cX10_cooler 116 = .ok (.getfield 67, 3) := by decide +kernel
theorem dX10_cooler_119 : decode cX10_cooler 119 = .ok (.iload_n 1, 1) := by decide +kernel
theorem dX10_cooler_120 : decode cX10_cooler 120 = .ok (.iastore, 1) := by decide +kernel
theorem dX10_cooler_121 : decode cX10_cooler 121 = .ok (.aload_n 0, 1) := by decide +kernel
theorem dX10_cooler_122 : decode cX10_cooler 122 = .ok (.getfield 13, 3) := by decide +kernel
theorem dX10_cooler_125 : decode cX10_cooler 125 = .ok (.iload 8, 2) := by decide +kernel
theorem dX10_cooler_127 : decode cX10_cooler 127 = .ok (.iload_n 2, 1) := by decide +kernel
theorem dX10_cooler_128 : decode cX10_cooler 128 = .ok (.iastore, 1) := by decide +kernel
theorem dX10_cooler_129 : decode cX10_cooler 129 = .ok (.aload_n 0, 1) := by decide +kernel
theorem dX10_cooler_130 : decode cX10_cooler 130 = .ok (.getfield 13, 3) := by decide +kernel
theorem dX10_cooler_133 : decode cX10_cooler 133 = .ok (.iload 8, 2) := by decide +kernel
theorem dX10_cooler_135 : decode cX10_cooler 135 = .ok (.iconst 1, 1) := by decide +kernel
theorem dX10_cooler_136 : decode cX10_cooler 136 = .ok (.iadd, 1) := by decide +kernel
theorem dX10_cooler_137 : decode cX10_cooler 137 = .ok (.iload_n 3, 1) := by decide +kernel
theorem dX10_cooler_138 : decode cX10_cooler 138 = .ok (.iastore, 1) := by decide +kernel
theorem dX10_cooler_139 : decode cX10_cooler 139 = .ok (.aload_n 0, 1) := by decide +kernel
theorem dX10_cooler_140 : decode cX10_cooler 140 = .ok (.getfield 13, 3) := by decide +kernel
theorem dX10_cooler_143 : decode cX10_cooler 143 = .ok (.iload 8, 2) := by decide +kernel
theorem dX10_cooler_145 : decode cX10_cooler 145 = .ok (.iconst 2, 1) := by decide +kernel
theorem dX10_cooler_146 : decode cX10_cooler 146 = .ok (.iadd, 1) := by decide +kernel
theorem dX10_cooler_147 : decode cX10_cooler 147 = .ok (.iload 4, 2) := by decide +kernel
theorem dX10_cooler_149 : decode cX10_cooler 149 = .ok (.iastore, 1) := by decide +kernel
theorem dX10_cooler_150 : decode cX10_cooler 150 = .ok (.aload_n 0, 1) := by decide +kernel
theorem dX10_cooler_151 : decode cX10_cooler 151 = .ok (.getfield 13, 3) := by decide +kernel
theorem dX10_cooler_154 : decode cX10_cooler 154 = .ok (.iload 8, 2) := by decide +kernel
theorem dX10_cooler_156 : decode cX10_cooler 156 = .ok (.iconst 3, 1) := by decide +kernel
theorem dX10_cooler_157 : decode cX10_cooler 157 = .ok (.iadd, 1) := by decide +kernel
theorem dX10_cooler_158 : decode cX10_cooler 158 = .ok (.iload 5, 2) := by decide +kernel
theorem dX10_cooler_160 : decode cX10_cooler 160 = .ok (.iastore, 1) := by decide +kernel
theorem dX10_cooler_161 : decode cX10_cooler 161 = .ok (.aload_n 0, 1) := by decide +kernel
theorem dX10_cooler_162 : decode cX10_cooler 162 = .ok (.getfield 13, 3) := by decide +kernel
theorem dX10_cooler_165 : decode cX10_cooler 165 = .ok (.iload 8, 2) := by decide +kernel
theorem dX10_cooler_167 : decode cX10_cooler 167 = .ok (.iconst 4, 1) := by decide +kernel
theorem dX10_cooler_168 : decode cX10_cooler 168 = .ok (.iadd, 1) := by decide +kernel
theorem dX10_cooler_169 : decode cX10_cooler 169 = .ok (.iload 6, 2) := by decide +kernel
theorem dX10_cooler_171 : decode cX10_cooler 171 = .ok (.iastore, 1) := by decide +kernel
theorem dX10_cooler_172 : decode cX10_cooler 172 = .ok (.aload_n 0, 1) := by decide +kernel
theorem dX10_cooler_173 : decode cX10_cooler 173 = .ok (.getfield 16, 3) := by decide +kernel
theorem dX10_cooler_176 : decode cX10_cooler 176 = .ok (.aload_n 0, 1) := by decide +kernel
theorem dX10_cooler_177 : decode cX10_cooler 177 = .ok (.getfield 67, 3) := by decide +kernel
theorem dX10_cooler_180 : decode cX10_cooler 180 = .ok (.iload 7, 2) := by decide +kernel
theorem dX10_cooler_182 : decode cX10_cooler 182 = .ok (.iastore, 1) := by decide +kernel
theorem dX10_cooler_183 : decode cX10_cooler 183 = .ok (.aload_n 0, 1) := by decide +kernel
theorem dX10_cooler_184 : decode cX10_cooler 184 = .ok (.dup, 1) := by decide +kernel
theorem dX10_cooler_185 : decode cX10_cooler 185 = .ok (.getfield 67, 3) := by decide +kernel
theorem dX10_cooler_188 : decode cX10_cooler 188 = .ok (.iconst 1, 1) := by decide +kernel
theorem dX10_cooler_189 : decode cX10_cooler 189 = .ok (.iadd, 1) := by decide +kernel
theorem dX10_cooler_190 : decode cX10_cooler 190 = .ok (.putfield 67, 3) := by decide +kernel
theorem dX10_cooler_193 : decode cX10_cooler 193 = .ok (.aload_n 0, 1) := by decide +kernel
theorem dX10_cooler_194 : decode cX10_cooler 194 = .ok (.getfield 67, 3) := by decide +kernel
theorem dX10_cooler_197 : decode cX10_cooler 197 = .ok (.iconst 1, 1) := by decide +kernel
theorem dX10_cooler_198 : decode cX10_cooler 198 = .ok (.isub, 1) := by decide +kernel
theorem dX10_cooler_199 : decode cX10_cooler 199 = .ok (.ireturn, 1) := by decide +kernel
theorem dX10_coldOf_0 : decode cX10_coldOf 0 = .ok (.iload_n 2, 1) := by decide +kernel
theorem dX10_coldOf_1 : decode cX10_coldOf 1 = .ok (.iconst 4, 1) := by decide +kernel
theorem dX10_coldOf_2 : decode cX10_coldOf 2 = .ok (.idiv, 1) := by decide +kernel
theorem dX10_coldOf_3 : decode cX10_coldOf 3 = .ok (.istore_n 3, 1) := by decide +kernel
theorem dX10_coldOf_4 : decode cX10_coldOf 4 = .ok (.aload_n 0, 1) := by decide +kernel
theorem dX10_coldOf_5 : decode cX10_coldOf 5 = .ok (.getfield 7, 3) := by decide +kernel
theorem dX10_coldOf_8 : decode cX10_coldOf 8 = .ok (.iload_n 1, 1) := by decide +kernel
theorem dX10_coldOf_9 : decode cX10_coldOf 9 = .ok (.iaload, 1) := by decide +kernel
theorem dX10_coldOf_10 : decode cX10_coldOf 10 = .ok (.ifCond .le 72, 3) := by decide +kernel
theorem dX10_coldOf_13 : decode cX10_coldOf 13 = .ok (.iload_n 2, 1) := by decide +kernel
theorem dX10_coldOf_14 : decode cX10_coldOf 14 = .ok (.bipush 10, 2) := by decide +kernel
theorem dX10_coldOf_16 : decode cX10_coldOf 16 = .ok (.idiv, 1) := by decide +kernel
theorem dX10_coldOf_17 : decode cX10_coldOf 17 = .ok (.istore 4, 2) := by decide +kernel
theorem dX10_coldOf_19 : decode cX10_coldOf 19 = .ok (.iload_n 2, 1) := by decide +kernel
theorem dX10_coldOf_20 : decode cX10_coldOf 20 = .ok (.bipush 10, 2) := by decide +kernel
theorem dX10_coldOf_22 : decode cX10_coldOf 22 = .ok (.irem, 1) := by decide +kernel
theorem dX10_coldOf_23 : decode cX10_coldOf 23 = .ok (.istore 5, 2) := by decide +kernel
theorem dX10_coldOf_25 : decode cX10_coldOf 25 = .ok (.bipush 10, 2) := by decide +kernel
theorem dX10_coldOf_27 : decode cX10_coldOf 27 = .ok (.iload 5, 2) := by decide +kernel
theorem dX10_coldOf_29 : decode cX10_coldOf 29 = .ok (.isub, 1) := by decide +kernel
theorem dX10_coldOf_30 : decode cX10_coldOf 30 = .ok (.aload_n 0, 1) := by decide +kernel
theorem dX10_coldOf_31 : decode cX10_coldOf 31 = .ok (.getfield 13, 3) := by decide +kernel
theorem dX10_coldOf_34 : decode cX10_coldOf 34 = .ok (.iconst 5, 1) := by decide +kernel
theorem dX10_coldOf_35 : decode cX10_coldOf 35 = .ok (.iload_n 1, 1) := by decide +kernel
theorem dX10_coldOf_36 : decode cX10_coldOf 36 = .ok (.imul, 1) := by decide +kernel
theorem dX10_coldOf_37 : decode cX10_coldOf 37 = .ok (.iload 4, 2) := by decide +kernel
theorem dX10_coldOf_39 : decode cX10_coldOf 39 = .ok (.iadd, 1) := by decide +kernel
theorem dX10_coldOf_40 : decode cX10_coldOf 40 = .ok (.iaload, 1) := by decide +kernel
theorem dX10_coldOf_41 : decode cX10_coldOf 41 = .ok (.imul, 1) := by decide +kernel
theorem dX10_coldOf_42 : decode cX10_coldOf 42 = .ok (.istore 6, 2) := by decide +kernel
theorem dX10_coldOf_44 : decode cX10_coldOf 44 = .ok (.iload 6, 2) := by decide +kernel
theorem dX10_coldOf_46 : decode cX10_coldOf 46 = .ok (.iload 5, 2) := by decide +kernel
theorem dX10_coldOf_48 : decode cX10_coldOf 48 = .ok (.ifCond .le 22, 3) := by decide +kernel
theorem dX10_coldOf_51 : decode cX10_coldOf 51 = .ok (.iload 5, 2) := by decide +kernel
theorem dX10_coldOf_53 : decode cX10_coldOf 53 = .ok (.aload_n 0, 1) := by decide +kernel
theorem dX10_coldOf_54 : decode cX10_coldOf 54 = .ok (.getfield 13, 3) := by decide +kernel
theorem dX10_coldOf_57 : decode cX10_coldOf 57 = .ok (.iconst 5, 1) := by decide +kernel
theorem dX10_coldOf_58 : decode cX10_coldOf 58 = .ok (.iload_n 1, 1) := by decide +kernel
theorem dX10_coldOf_59 : decode cX10_coldOf 59 = .ok (.imul, 1) := by decide +kernel
theorem dX10_coldOf_60 : decode cX10_coldOf 60 = .ok (.iload 4, 2) := by decide +kernel
theorem dX10_coldOf_62 : decode cX10_coldOf 62 = .ok (.iadd, 1) := by decide +kernel
theorem dX10_coldOf_63 : decode cX10_coldOf 63 = .ok (.iconst 1, 1) := by decide +kernel
theorem dX10_coldOf_64 : decode cX10_coldOf 64 = .ok (.iadd, 1) := by decide +kernel
theorem dX10_coldOf_65 : decode cX10_coldOf 65 = .ok (.iaload, 1) := by decide +kernel
theorem dX10_coldOf_66 : decode cX10_coldOf 66 = .ok (.imul, 1) := by decide +kernel
theorem dX10_coldOf_67 : decode cX10_coldOf 67 = .ok (.goto 4, 3) := by decide +kernel
theorem dX10_coldOf_70 : decode cX10_coldOf 70 = .ok (.iconst 0, 1) := by decide +kernel
theorem dX10_coldOf_71 : decode cX10_coldOf 71 = .ok (.iadd, 1) := by decide +kernel
theorem dX10_coldOf_72 : decode cX10_coldOf 72 = .ok (.istore 6, 2) := by decide +kernel
theorem dX10_coldOf_74 : decode cX10_coldOf 74 = .ok (.iload_n 3, 1) := by decide +kernel
theorem dX10_coldOf_75 : decode cX10_coldOf 75 = .ok (.iload 6, 2) := by decide +kernel
theorem dX10_coldOf_77 : decode cX10_coldOf 77 = .ok (.bipush 10, 2) := by decide +kernel
theorem dX10_coldOf_79 : decode cX10_coldOf 79 = .ok (.idiv, 1) := by decide +kernel
theorem dX10_coldOf_80 : decode cX10_coldOf 80 = .ok (.iadd, 1) := by decide +kernel
theorem dX10_coldOf_81 : decode cX10_coldOf 81 = .ok (.istore_n 3, 1) := by decide +kernel
theorem dX10_coldOf_82 : decode cX10_coldOf 82 = .ok (.aload_n 0, 1) := by decide +kernel
theorem dX10_coldOf_83 : decode cX10_coldOf 83 = .ok (.getfield 7, 3) := by decide +kernel
theorem dX10_coldOf_86 : decode cX10_coldOf 86 = .ok (.iload_n 1, 1) := by decide +kernel
theorem dX10_coldOf_87 : decode cX10_coldOf 87 = .ok (.iaload, 1) := by decide +kernel
theorem dX10_coldOf_88 : decode cX10_coldOf 88 = .ok (.iconst 2, 1) := by decide +kernel
theorem dX10_coldOf_89 : decode cX10_coldOf 89 = .ok (.if_icmp .ne 22, 3) := by decide +kernel
theorem dX10_coldOf_92 : decode cX10_coldOf 92 = .ok (.iload_n 3, 1) := by decide +kernel
theorem dX10_coldOf_93 : decode cX10_coldOf 93 = .ok (.aload_n 0, 1) := by decide +kernel
theorem dX10_coldOf_94 : decode cX10_coldOf 94 = .ok (.getfield 16, 3) := by decide +kernel
theorem dX10_coldOf_97 : decode cX10_coldOf 97 = .ok (.iload_n 1, 1) := by decide +kernel
theorem dX10_coldOf_98 : decode cX10_coldOf 98 = .ok (.iaload, 1) := by decide +kernel
theorem dX10_coldOf_99 : decode cX10_coldOf 99 = .ok (.if_icmp .le 12, 3) := by decide +kernel
theorem dX10_coldOf_102 : decode cX10_coldOf 102 = .ok (.aload_n 0, 1) := by decide +kernel
theorem dX10_coldOf_103 : decode cX10_coldOf 103 = .ok (.getfield 16, 3) := by decide +kernel
theorem dX10_coldOf_106 : decode cX10_coldOf 106 = .ok (.iload_n 1, 1) := by decide +kernel
theorem dX10_coldOf_107 : decode cX10_coldOf 107 = .ok (.iaload, 1) := by decide +kernel
theorem dX10_coldOf_108 : decode cX10_coldOf 108 = .ok (.goto 4, 3) := by decide +kernel
theorem dX10_coldOf_111 : decode cX10_coldOf 111 = .ok (.iload_n 3, 1) := by decide +kernel
theorem dX10_coldOf_112 : decode cX10_coldOf 112 = .ok (.ireturn, 1) := by decide +kernel
theorem dX10_cold_0 : decode cX10_cold 0 = .ok (.aload_n 0, 1) := by decide +kernel
theorem dX10_cold_1 : decode cX10_cold 1 = .ok (.iconst 0, 1) := by decide +kernel
theorem dX10_cold_2 : decode cX10_cold 2 = .ok (.putfield 64, 3) := by decide +kernel
theorem dX10_cold_5 : decode cX10_cold 5 = .ok (.aload_n 0, 1) := by decide +kernel
theorem dX10_cold_6 : decode cX10_cold 6 = .ok (.iload_n 1, 1) := by decide +kernel
theorem dX10_cold_7 : decode cX10_cold 7 = .ok (.invokevirtual 74, 3) := by decide +kernel
theorem dX10_cold_10 : decode cX10_cold 10 = .ok (.ifCond .eq 13, 3) := by decide +kernel
theorem dX10_cold_13 : decode cX10_cold 13 = .ok (.iload_n 2, 1) := by decide +kernel
theorem dX10_cold_14 : decode cX10_cold 14 = .ok (.iconst 0, 1) := by decide +kernel
theorem dX10_cold_15 : decode cX10_cold 15 = .ok (.bipush 40, 2) := by decide +kernel
theorem dX10_cold_17 : decode cX10_cold 17 = .ok (.invokestatic 70, 3) := by decide +kernel
theorem dX10_cold_20 : decode cX10_cold 20 = .ok (.ifCond .ne 5, 3) := by decide +kernel
theorem dX10_cold_23 : decode cX10_cold 23 = .ok (.iconst (-1), 1) := by decide +kernel
theorem dX10_cold_24 : decode cX10_cold 24 = .ok (.ireturn, 1) := by decide +kernel
theorem dX10_cold_25 : decode cX10_cold 25 = .ok (.aload_n 0, 1) := by decide +kernel
theorem dX10_cold_26 : decode cX10_cold 26 = .ok (.dup, 1) := by decide +kernel
theorem dX10_cold_27 : decode cX10_cold 27 = .ok (.getfield 78, 3) := by decide +kernel
theorem dX10_cold_30 : decode cX10_cold 30 = .ok (.aload_n 0, 1) := by decide +kernel
theorem dX10_cold_31 : decode cX10_cold 31 = .ok (.getfield 7, 3) := by decide +kernel
theorem dX10_cold_34 : decode cX10_cold 34 = .ok (.iload_n 1, 1) := by decide +kernel
theorem dX10_cold_35 : decode cX10_cold 35 = .ok (.iaload, 1) := by decide +kernel
theorem dX10_cold_36 : decode cX10_cold 36 = .ok (.ifCond .ne 7, 3) := by decide +kernel
theorem dX10_cold_39 : decode cX10_cold 39 = .ok (.lconst 1, 1) := by decide +kernel
theorem dX10_cold_40 : decode cX10_cold 40 = .ok (.goto 22, 3) := by decide +kernel
theorem dX10_cold_43 : decode cX10_cold 43 = .ok (.aload_n 0, 1) := by decide +kernel
theorem dX10_cold_44 : decode cX10_cold 44 = .ok (.getfield 7, 3) := by decide +kernel
theorem dX10_cold_47 : decode cX10_cold 47 = .ok (.iload_n 1, 1) := by decide +kernel
theorem dX10_cold_48 : decode cX10_cold 48 = .ok (.iaload, 1) := by decide +kernel
theorem dX10_cold_49 : decode cX10_cold 49 = .ok (.iconst 1, 1) := by decide +kernel
theorem dX10_cold_50 : decode cX10_cold 50 = .ok (.if_icmp .ne 9, 3) := by decide +kernel
theorem dX10_cold_53 : decode cX10_cold 53 = .ok (.ldc2_w 82, 3) := by decide +kernel
theorem dX10_cold_56 : decode cX10_cold 56 = .ok (.goto 6, 3) := by decide +kernel
theorem dX10_cold_59 : decode cX10_cold 59 = .ok (.ldc2_w 84, 3) := by decide +kernel
theorem dX10_cold_62 : decode cX10_cold 62 = .ok (.ladd, 1) := by decide +kernel
theorem dX10_cold_63 : decode cX10_cold 63 = .ok (.putfield 78, 3) := by decide +kernel
theorem dX10_cold_66 : decode cX10_cold 66 = .ok (.aload_n 0, 1) := by decide +kernel
theorem dX10_cold_67 : decode cX10_cold 67 = .ok (.iload_n 1, 1) := by decide +kernel
theorem dX10_cold_68 : decode cX10_cold 68 = .ok (.iload_n 2, 1) := by decide +kernel
theorem dX10_cold_69 : decode cX10_cold 69 = .ok (.invokevirtual 86, 3) := by decide +kernel
theorem dX10_cold_72 : decode cX10_cold 72 = .ok (.ireturn, 1) := by decide +kernel
theorem dX10_cells_0 : decode cX10_cells 0 = .ok (.aload_n 0, 1) := by decide +kernel
theorem dX10_cells_1 : decode cX10_cells 1 = .ok (.iconst 0, 1) := by decide +kernel
theorem dX10_cells_2 : decode cX10_cells 2 = .ok (.putfield 64, 3) := by decide +kernel
theorem dX10_cells_5 : decode cX10_cells 5 = .ok (.iload_n 1, 1) := by decide +kernel
theorem dX10_cells_6 : decode cX10_cells 6 = .ok (.iconst 1, 1) := by decide +kernel
theorem dX10_cells_7 : decode cX10_cells 7 = .ok (.bipush 8, 2) := by decide +kernel
theorem dX10_cells_9 : decode cX10_cells 9 = .ok (.invokestatic 70, 3) := by decide +kernel
theorem dX10_cells_12 : decode cX10_cells 12 = .ok (.ifCond .eq 13, 3) := by decide +kernel
theorem dX10_cells_15 : decode cX10_cells 15 = .ok (.iload_n 2, 1) := by decide +kernel
theorem dX10_cells_16 : decode cX10_cells 16 = .ok (.iconst 1, 1) := by decide +kernel
theorem dX10_cells_17 : decode cX10_cells 17 = .ok (.bipush 50, 2) := by decide +kernel
theorem dX10_cells_19 : decode cX10_cells 19 = .ok (.invokestatic 70, 3) := by decide +kernel
theorem dX10_cells_22 : decode cX10_cells 22 = .ok (.ifCond .ne 5, 3) := by decide +kernel
theorem dX10_cells_25 : decode cX10_cells 25 = .ok (.iconst (-1), 1) := by decide +kernel
theorem dX10_cells_26 : decode cX10_cells 26 = .ok (.ireturn, 1) := by decide +kernel
theorem dX10_cells_27 : decode cX10_cells 27 = .ok (.aload_n 0, 1) := by decide +kernel
theorem dX10_cells_28 : decode cX10_cells 28 = .ok (.getfield 90, 3) := by decide +kernel
theorem dX10_cells_31 : decode cX10_cells 31 = .ok (.ifCond .eq 6, 3) := by decide +kernel
theorem dX10_cells_34 : decode cX10_cells 34 = .ok (.bipush (-2), 2) := by decide +kernel
theorem dX10_cells_36 : decode cX10_cells 36 = .ok (.ireturn, 1) := by decide +kernel
theorem dX10_cells_37 : decode cX10_cells 37 = .ok (.aload_n 0, 1) := by decide +kernel
theorem dX10_cells_38 : decode cX10_cells 38 = .ok (.iload_n 1, 1) := by decide +kernel
theorem dX10_cells_39 : decode cX10_cells 39 = .ok (.putfield 19, 3) := by decide +kernel
theorem dX10_cells_42 : decode cX10_cells 42 = .ok (.aload_n 0, 1) := by decide +kernel
theorem dX10_cells_43 : decode cX10_cells 43 = .ok (.iload_n 2, 1) := by decide +kernel
theorem dX10_cells_44 : decode cX10_cells 44 = .ok (.putfield 29, 3) := by decide +kernel
theorem dX10_cells_47 : decode cX10_cells 47 = .ok (.aload_n 0, 1) := by decide +kernel
theorem dX10_cells_48 : decode cX10_cells 48 = .ok (.invokevirtual 61, 3) := by decide +kernel
theorem dX10_cells_51 : decode cX10_cells 51 = .ok (.iconst 1, 1) := by decide +kernel
theorem dX10_cells_52 : decode cX10_cells 52 = .ok (.ireturn, 1) := by decide +kernel
theorem dX10_set_0 : decode cX10_set 0 = .ok (.aload_n 0, 1) := by decide +kernel
theorem dX10_set_1 : decode cX10_set 1 = .ok (.iconst 0, 1) := by decide +kernel
theorem dX10_set_2 : decode cX10_set 2 = .ok (.putfield 64, 3) := by decide +kernel
theorem dX10_set_5 : decode cX10_set 5 = .ok (.iload_n 1, 1) := by decide +kernel
theorem dX10_set_6 : decode cX10_set 6 = .ok (.ifCond .ne 25, 3) := by decide +kernel
theorem dX10_set_9 : decode cX10_set 9 = .ok (.iload_n 2, 1) := by decide +kernel
theorem dX10_set_10 : decode cX10_set 10 = .ok (.bipush (-9), 2) := by decide +kernel
theorem dX10_set_12 : decode cX10_set 12 = .ok (.if_icmp .eq 11, 3) := by decide +kernel
theorem dX10_set_15 : decode cX10_set 15 = .ok (.aload_n 0, 1) := by decide +kernel
theorem dX10_set_16 : decode cX10_set 16 = .ok (.iload_n 2, 1) := by decide +kernel
theorem dX10_set_17 : decode cX10_set 17 = .ok (.invokevirtual 74, 3) := by decide +kernel
theorem dX10_set_20 : decode cX10_set 20 = .ok (.ifCond .eq 7, 3) := by decide +kernel
theorem dX10_set_23 : decode cX10_set 23 = .ok (.iconst 1, 1) := by decide +kernel
theorem dX10_set_24 : decode cX10_set 24 = .ok (.goto 106, 3) := by decide +kernel
theorem dX10_set_27 : decode cX10_set 27 = .ok (.iconst 0, 1) := by decide +kernel
theorem dX10_set_28 : decode cX10_set 28 = .ok (.goto 102, 3) := by decide +kernel
theorem dX10_set_31 : decode cX10_set 31 = .ok (.iload_n 1, 1) := by decide +kernel
theorem dX10_set_32 : decode cX10_set 32 = .ok (.iconst 1, 1) := by decide +kernel
theorem dX10_set_33 : decode cX10_set 33 = .ok (.if_icmp .ne 13, 3) := by decide +kernel
theorem dX10_set_36 : decode cX10_set 36 = .ok (.iload_n 2, 1) := by decide +kernel
theorem dX10_set_37 : decode cX10_set 37 = .ok (.iconst 0, 1) := by decide +kernel
theorem dX10_set_38 : decode cX10_set 38 = .ok (.bipush 40, 2) := by decide +kernel
theorem dX10_set_40 : decode cX10_set 40 = .ok (.invokestatic 70, 3) := by decide +kernel
theorem dX10_set_43 : decode cX10_set 43 = .ok (.goto 87, 3) := by decide +kernel
theorem dX10_set_46 : decode cX10_set 46 = .ok (.iload_n 1, 1) := by decide +kernel
theorem dX10_set_47 : decode cX10_set 47 = .ok (.iconst 2, 1) := by decide +kernel
theorem dX10_set_48 : decode cX10_set 48 = .ok (.if_icmp .ne 14, 3) := by decide +kernel
theorem dX10_set_51 : decode cX10_set 51 = .ok (.iload_n 2, 1) := by decide +kernel
theorem dX10_set_52 : decode cX10_set 52 = .ok (.iconst 0, 1) := by decide +kernel
theorem dX10_set_53 : decode cX10_set 53 = .ok (.sipush 400, 3) := by decide +kernel
theorem dX10_set_56 : decode cX10_set 56 = .ok (.invokestatic 70, 3) := by decide +kernel
theorem dX10_set_59 : decode cX10_set 59 = .ok (.goto 71, 3) := by decide +kernel
theorem dX10_set_62 : decode cX10_set 62 = .ok (.iload_n 1, 1) := by decide +kernel
theorem dX10_set_63 : decode cX10_set 63 = .ok (.iconst 3, 1) := by decide +kernel
theorem dX10_set_64 : decode cX10_set 64 = .ok (.if_icmp .ne 31, 3) := by decide +kernel
theorem dX10_set_67 : decode cX10_set 67 = .ok (.iload_n 2, 1) := by decide +kernel
theorem dX10_set_68 : decode cX10_set 68 = .ok (.bipush 10, 2) := by decide +kernel
theorem dX10_set_70 : decode cX10_set 70 = .ok (.sipush 5000, 3) := by decide +kernel
theorem dX10_set_73 : decode cX10_set 73 = .ok (.invokestatic 70, 3) := by decide +kernel
theorem dX10_set_76 : decode cX10_set 76 = .ok (.ifCond .eq 15, 3) := by decide +kernel
theorem dX10_set_79 : decode cX10_set 79 = .ok (.iload_n 2, 1) := by decide +kernel
theorem dX10_set_80 : decode cX10_set 80 = .ok (.aload_n 0, 1) := by decide +kernel
theorem dX10_set_81 : decode cX10_set 81 = .ok (.getfield 93, 3) := by decide +kernel
theorem dX10_set_84 : decode cX10_set 84 = .ok (.if_icmp .lt 7, 3) := by decide +kernel
theorem dX10_set_87 : decode cX10_set 87 = .ok (.iconst 1, 1) := by decide +kernel
