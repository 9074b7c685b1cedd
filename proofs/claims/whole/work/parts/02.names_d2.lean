theorem dX10_set_88 : decode cX10_set 88 = .ok (.goto 42, 3) := by decide +kernel
theorem dX10_set_91 : decode cX10_set 91 = .ok (.iconst 0, 1) := by decide +kernel
theorem dX10_set_92 : decode cX10_set 92 = .ok (.goto 38, 3) := by decide +kernel
theorem dX10_set_95 : decode cX10_set 95 = .ok (.iload_n 1, 1) := by decide +kernel
theorem dX10_set_96 : decode cX10_set 96 = .ok (.iconst 4, 1) := by decide +kernel
theorem dX10_set_97 : decode cX10_set 97 = .ok (.if_icmp .ne 13, 3) := by decide +kernel
theorem dX10_set_100 : decode cX10_set 100 = .ok (.iload_n 2, 1) := by decide +kernel
theorem dX10_set_101 : decode cX10_set 101 = .ok (.iconst 5, 1) := by decide +kernel
theorem dX10_set_102 : decode cX10_set 102 = .ok (.bipush 60, 2) := by decide +kernel
theorem dX10_set_104 : decode cX10_set 104 = .ok (.invokestatic 70, 3) := by decide +kernel
theorem dX10_set_107 : decode cX10_set 107 = .ok (.goto 23, 3) := by decide +kernel
theorem dX10_set_110 : decode cX10_set 110 = .ok (.iload_n 1, 1) := by decide +kernel
theorem dX10_set_111 : decode cX10_set 111 = .ok (.iconst 5, 1) := by decide +kernel
theorem dX10_set_112 : decode cX10_set 112 = .ok (.if_icmp .ne 17, 3) := by decide +kernel
theorem dX10_set_115 : decode cX10_set 115 = .ok (.iload_n 2, 1) := by decide +kernel
theorem dX10_set_116 : decode cX10_set 116 = .ok (.iconst 1, 1) := by decide +kernel
theorem dX10_set_117 : decode cX10_set 117 = .ok (.bipush 30, 2) := by decide +kernel
theorem dX10_set_119 : decode cX10_set 119 = .ok (.invokestatic 70, 3) := by decide +kernel
theorem dX10_set_122 : decode cX10_set 122 = .ok (.ifCond .eq 7, 3) := by decide +kernel
theorem dX10_set_125 : decode cX10_set 125 = .ok (.iconst 1, 1) := by decide +kernel
theorem dX10_set_126 : decode cX10_set 126 = .ok (.goto 4, 3) := by decide +kernel
theorem dX10_set_129 : decode cX10_set 129 = .ok (.iconst 0, 1) := by decide +kernel
theorem dX10_set_130 : decode cX10_set 130 = .ok (.istore_n 3, 1) := by decide +kernel
theorem dX10_set_131 : decode cX10_set 131 = .ok (.iload_n 3, 1) := by decide +kernel
theorem dX10_set_132 : decode cX10_set 132 = .ok (.ifCond .ne 5, 3) := by decide +kernel
theorem dX10_set_135 : decode cX10_set 135 = .ok (.iconst (-1), 1) := by decide +kernel
theorem dX10_set_136 : decode cX10_set 136 = .ok (.ireturn, 1) := by decide +kernel
theorem dX10_set_137 : decode cX10_set 137 = .ok (.aload_n 0, 1) := by decide +kernel
theorem dX10_set_138 : decode cX10_set 138 = .ok (.getfield 32, 3) := by decide +kernel
theorem dX10_set_141 : decode cX10_set 141 = .ok (.iload_n 1, 1) := by decide +kernel
theorem dX10_set_142 : decode cX10_set 142 = .ok (.iaload, 1) := by decide +kernel
theorem dX10_set_143 : decode cX10_set 143 = .ok (.istore 4, 2) := by decide +kernel
theorem dX10_set_145 : decode cX10_set 145 = .ok (.aload_n 0, 1) := by decide +kernel
theorem dX10_set_146 : decode cX10_set 146 = .ok (.getfield 32, 3) := by decide +kernel
theorem dX10_set_149 : decode cX10_set 149 = .ok (.iload_n 1, 1) := by decide +kernel
theorem dX10_set_150 : decode cX10_set 150 = .ok (.iload_n 2, 1) := by decide +kernel
theorem dX10_set_151 : decode cX10_set 151 = .ok (.iastore, 1) := by decide +kernel
theorem dX10_set_152 : decode cX10_set 152 = .ok (.iload 4, 2) := by decide +kernel
theorem dX10_set_154 : decode cX10_set 154 = .ok (.ireturn, 1) := by decide +kernel
theorem dX10_side_0 : decode cX10_side 0 = .ok (.aload_n 0, 1) := by decide +kernel
theorem dX10_side_1 : decode cX10_side 1 = .ok (.iconst 0, 1) := by decide +kernel
theorem dX10_side_2 : decode cX10_side 2 = .ok (.putfield 64, 3) := by decide +kernel
theorem dX10_side_5 : decode cX10_side 5 = .ok (.iload_n 1, 1) := by decide +kernel
theorem dX10_side_6 : decode cX10_side 6 = .ok (.iconst 0, 1) := by decide +kernel
theorem dX10_side_7 : decode cX10_side 7 = .ok (.iconst 1, 1) := by decide +kernel
theorem dX10_side_8 : decode cX10_side 8 = .ok (.invokestatic 70, 3) := by decide +kernel
theorem dX10_side_11 : decode cX10_side 11 = .ok (.ifCond .eq 17, 3) := by decide +kernel
theorem dX10_side_14 : decode cX10_side 14 = .ok (.iload_n 2, 1) := by decide +kernel
theorem dX10_side_15 : decode cX10_side 15 = .ok (.iconst 0, 1) := by decide +kernel
theorem dX10_side_16 : decode cX10_side 16 = .ok (.aload_n 0, 1) := by decide +kernel
theorem dX10_side_17 : decode cX10_side 17 = .ok (.getfield 19, 3) := by decide +kernel
theorem dX10_side_20 : decode cX10_side 20 = .ok (.iconst 1, 1) := by decide +kernel
theorem dX10_side_21 : decode cX10_side 21 = .ok (.isub, 1) := by decide +kernel
theorem dX10_side_22 : decode cX10_side 22 = .ok (.invokestatic 70, 3) := by decide +kernel
theorem dX10_side_25 : decode cX10_side 25 = .ok (.ifCond .ne 5, 3) := by decide +kernel
theorem dX10_side_28 : decode cX10_side 28 = .ok (.iconst (-1), 1) := by decide +kernel
theorem dX10_side_29 : decode cX10_side 29 = .ok (.ireturn, 1) := by decide +kernel
theorem dX10_side_30 : decode cX10_side 30 = .ok (.iload_n 1, 1) := by decide +kernel
theorem dX10_side_31 : decode cX10_side 31 = .ok (.ifCond .ne 12, 3) := by decide +kernel
theorem dX10_side_34 : decode cX10_side 34 = .ok (.aload_n 0, 1) := by decide +kernel
theorem dX10_side_35 : decode cX10_side 35 = .ok (.getfield 23, 3) := by decide +kernel
theorem dX10_side_38 : decode cX10_side 38 = .ok (.iload_n 2, 1) := by decide +kernel
theorem dX10_side_39 : decode cX10_side 39 = .ok (.iaload, 1) := by decide +kernel
theorem dX10_side_40 : decode cX10_side 40 = .ok (.goto 9, 3) := by decide +kernel
theorem dX10_side_43 : decode cX10_side 43 = .ok (.aload_n 0, 1) := by decide +kernel
theorem dX10_side_44 : decode cX10_side 44 = .ok (.getfield 26, 3) := by decide +kernel
theorem dX10_side_47 : decode cX10_side 47 = .ok (.iload_n 2, 1) := by decide +kernel
theorem dX10_side_48 : decode cX10_side 48 = .ok (.iaload, 1) := by decide +kernel
theorem dX10_side_49 : decode cX10_side 49 = .ok (.ireturn, 1) := by decide +kernel
theorem dX10_heat_0 : decode cX10_heat 0 = .ok (.aload_n 0, 1) := by decide +kernel
theorem dX10_heat_1 : decode cX10_heat 1 = .ok (.iconst 0, 1) := by decide +kernel
theorem dX10_heat_2 : decode cX10_heat 2 = .ok (.putfield 64, 3) := by decide +kernel
theorem dX10_heat_5 : decode cX10_heat 5 = .ok (.iload_n 1, 1) := by decide +kernel
theorem dX10_heat_6 : decode cX10_heat 6 = .ok (.iconst 0, 1) := by decide +kernel
theorem dX10_heat_7 : decode cX10_heat 7 = .ok (.iconst 3, 1) := by decide +kernel
theorem dX10_heat_8 : decode cX10_heat 8 = .ok (.invokestatic 70, 3) := by decide +kernel
theorem dX10_heat_11 : decode cX10_heat 11 = .ok (.ifCond .eq 12, 3) := by decide +kernel
theorem dX10_heat_14 : decode cX10_heat 14 = .ok (.aload_n 0, 1) := by decide +kernel
theorem dX10_heat_15 : decode cX10_heat 15 = .ok (.getfield 35, 3) := by decide +kernel
theorem dX10_heat_18 : decode cX10_heat 18 = .ok (.iload_n 1, 1) := by decide +kernel
theorem dX10_heat_19 : decode cX10_heat 19 = .ok (.laload, 1) := by decide +kernel
theorem dX10_heat_20 : decode cX10_heat 20 = .ok (.goto 6, 3) := by decide +kernel
theorem dX10_heat_23 : decode cX10_heat 23 = .ok (.ldc2_w 96, 3) := by decide +kernel
theorem dX10_heat_26 : decode cX10_heat 26 = .ok (.lreturn, 1) := by decide +kernel
theorem dX10_trips_0 : decode cX10_trips 0 = .ok (.aload_n 0, 1) := by decide +kernel
theorem dX10_trips_1 : decode cX10_trips 1 = .ok (.getfield 90, 3) := by decide +kernel
theorem dX10_trips_4 : decode cX10_trips 4 = .ok (.iconst 4, 1) := by decide +kernel
theorem dX10_trips_5 : decode cX10_trips 5 = .ok (.if_icmp .eq 23, 3) := by decide +kernel
theorem dX10_trips_8 : decode cX10_trips 8 = .ok (.aload_n 0, 1) := by decide +kernel
theorem dX10_trips_9 : decode cX10_trips 9 = .ok (.iconst 4, 1) := by decide +kernel
theorem dX10_trips_10 : decode cX10_trips 10 = .ok (.putfield 90, 3) := by decide +kernel
theorem dX10_trips_13 : decode cX10_trips 13 = .ok (.aload_n 0, 1) := by decide +kernel
theorem dX10_trips_14 : decode cX10_trips 14 = .ok (.iconst 0, 1) := by decide +kernel
theorem dX10_trips_15 : decode cX10_trips 15 = .ok (.putfield 98, 3) := by decide +kernel
theorem dX10_trips_18 : decode cX10_trips 18 = .ok (.aload_n 0, 1) := by decide +kernel
theorem dX10_trips_19 : decode cX10_trips 19 = .ok (.dup, 1) := by decide +kernel
theorem dX10_trips_20 : decode cX10_trips 20 = .ok (.getfield 101, 3) := by decide +kernel
theorem dX10_trips_23 : decode cX10_trips 23 = .ok (.iconst 1, 1) := by decide +kernel
theorem dX10_trips_24 : decode cX10_trips 24 = .ok (.iadd, 1) := by decide +kernel
theorem dX10_trips_25 : decode cX10_trips 25 = .ok (.putfield 101, 3) := by decide +kernel
theorem dX10_trips_28 : decode cX10_trips 28 = .ok (.return_, 1) := by decide +kernel
theorem dX10_start_0 : decode cX10_start 0 = .ok (.aload_n 0, 1) := by decide +kernel
theorem dX10_start_1 : decode cX10_start 1 = .ok (.iconst 0, 1) := by decide +kernel
theorem dX10_start_2 : decode cX10_start 2 = .ok (.putfield 64, 3) := by decide +kernel
theorem dX10_start_5 : decode cX10_start 5 = .ok (.aload_n 0, 1) := by decide +kernel
theorem dX10_start_6 : decode cX10_start 6 = .ok (.getfield 90, 3) := by decide +kernel
theorem dX10_start_9 : decode cX10_start 9 = .ok (.ifCond .ne 36, 3) := by decide +kernel
theorem dX10_start_12 : decode cX10_start 12 = .ok (.aload_n 0, 1) := by decide +kernel
theorem dX10_start_13 : decode cX10_start 13 = .ok (.getfield 39, 3) := by decide +kernel
theorem dX10_start_16 : decode cX10_start 16 = .ok (.iconst 0, 1) := by decide +kernel
theorem dX10_start_17 : decode cX10_start 17 = .ok (.iaload, 1) := by decide +kernel
theorem dX10_start_18 : decode cX10_start 18 = .ok (.iconst 1, 1) := by decide +kernel
theorem dX10_start_19 : decode cX10_start 19 = .ok (.if_icmp .eq 13, 3) := by decide +kernel
theorem dX10_start_22 : decode cX10_start 22 = .ok (.aload_n 0, 1) := by decide +kernel
theorem dX10_start_23 : decode cX10_start 23 = .ok (.getfield 39, 3) := by decide +kernel
theorem dX10_start_26 : decode cX10_start 26 = .ok (.iconst 1, 1) := by decide +kernel
theorem dX10_start_27 : decode cX10_start 27 = .ok (.iaload, 1) := by decide +kernel
theorem dX10_start_28 : decode cX10_start 28 = .ok (.iconst 1, 1) := by decide +kernel
theorem dX10_start_29 : decode cX10_start 29 = .ok (.if_icmp .ne 16, 3) := by decide +kernel
theorem dX10_start_32 : decode cX10_start 32 = .ok (.aload_n 0, 1) := by decide +kernel
theorem dX10_start_33 : decode cX10_start 33 = .ok (.getfield 93, 3) := by decide +kernel
theorem dX10_start_36 : decode cX10_start 36 = .ok (.aload_n 0, 1) := by decide +kernel
theorem dX10_start_37 : decode cX10_start 37 = .ok (.getfield 32, 3) := by decide +kernel
theorem dX10_start_40 : decode cX10_start 40 = .ok (.iconst 3, 1) := by decide +kernel
theorem dX10_start_41 : decode cX10_start 41 = .ok (.iaload, 1) := by decide +kernel
theorem dX10_start_42 : decode cX10_start 42 = .ok (.if_icmp .lt 6, 3) := by decide +kernel
theorem dX10_start_45 : decode cX10_start 45 = .ok (.bipush (-2), 2) := by decide +kernel
theorem dX10_start_47 : decode cX10_start 47 = .ok (.ireturn, 1) := by decide +kernel
theorem dX10_start_48 : decode cX10_start 48 = .ok (.aload_n 0, 1) := by decide +kernel
theorem dX10_start_49 : decode cX10_start 49 = .ok (.iconst 1, 1) := by decide +kernel
theorem dX10_start_50 : decode cX10_start 50 = .ok (.putfield 90, 3) := by decide +kernel
theorem dX10_start_53 : decode cX10_start 53 = .ok (.aload_n 0, 1) := by decide +kernel
theorem dX10_start_54 : decode cX10_start 54 = .ok (.iconst 1, 1) := by decide +kernel
theorem dX10_start_55 : decode cX10_start 55 = .ok (.putfield 104, 3) := by decide +kernel
theorem dX10_start_58 : decode cX10_start 58 = .ok (.aload_n 0, 1) := by decide +kernel
theorem dX10_start_59 : decode cX10_start 59 = .ok (.iconst 1, 1) := by decide +kernel
theorem dX10_start_60 : decode cX10_start 60 = .ok (.putfield 108, 3) := by decide +kernel
theorem dX10_start_63 : decode cX10_start 63 = .ok (.aload_n 0, 1) := by decide +kernel
theorem dX10_start_64 : decode cX10_start 64 = .ok (.getfield 90, 3) := by decide +kernel
theorem dX10_start_67 : decode cX10_start 67 = .ok (.ireturn, 1) := by decide +kernel
theorem dX10_low_0 : decode cX10_low 0 = .ok (.aload_n 0, 1) := by decide +kernel
theorem dX10_low_1 : decode cX10_low 1 = .ok (.iconst 0, 1) := by decide +kernel
theorem dX10_low_2 : decode cX10_low 2 = .ok (.putfield 64, 3) := by decide +kernel
theorem dX10_low_5 : decode cX10_low 5 = .ok (.aload_n 0, 1) := by decide +kernel
theorem dX10_low_6 : decode cX10_low 6 = .ok (.getfield 90, 3) := by decide +kernel
theorem dX10_low_9 : decode cX10_low 9 = .ok (.iconst 2, 1) := by decide +kernel
theorem dX10_low_10 : decode cX10_low 10 = .ok (.if_icmp .eq 6, 3) := by decide +kernel
theorem dX10_low_13 : decode cX10_low 13 = .ok (.bipush (-2), 2) := by decide +kernel
theorem dX10_low_15 : decode cX10_low 15 = .ok (.ireturn, 1) := by decide +kernel
theorem dX10_low_16 : decode cX10_low 16 = .ok (.aload_n 0, 1) := by decide +kernel
theorem dX10_low_17 : decode cX10_low 17 = .ok (.iconst 3, 1) := by decide +kernel
theorem dX10_low_18 : decode cX10_low 18 = .ok (.putfield 90, 3) := by decide +kernel
theorem dX10_low_21 : decode cX10_low 21 = .ok (.aload_n 0, 1) := by decide +kernel
theorem dX10_low_22 : decode cX10_low 22 = .ok (.iconst 0, 1) := by decide +kernel
theorem dX10_low_23 : decode cX10_low 23 = .ok (.putfield 98, 3) := by decide +kernel
theorem dX10_low_26 : decode cX10_low 26 = .ok (.aload_n 0, 1) := by decide +kernel
theorem dX10_low_27 : decode cX10_low 27 = .ok (.getfield 90, 3) := by decide +kernel
theorem dX10_low_30 : decode cX10_low 30 = .ok (.ireturn, 1) := by decide +kernel
theorem dX10_high_0 : decode cX10_high 0 = .ok (.aload_n 0, 1) := by decide +kernel
theorem dX10_high_1 : decode cX10_high 1 = .ok (.iconst 0, 1) := by decide +kernel
theorem dX10_high_2 : decode cX10_high 2 = .ok (.putfield 64, 3) := by decide +kernel
theorem dX10_high_5 : decode cX10_high 5 = .ok (.aload_n 0, 1) := by decide +kernel
theorem dX10_high_6 : decode cX10_high 6 = .ok (.getfield 90, 3) := by decide +kernel
theorem dX10_high_9 : decode cX10_high 9 = .ok (.iconst 3, 1) := by decide +kernel
theorem dX10_high_10 : decode cX10_high 10 = .ok (.if_icmp .eq 6, 3) := by decide +kernel
theorem dX10_high_13 : decode cX10_high 13 = .ok (.bipush (-2), 2) := by decide +kernel
theorem dX10_high_15 : decode cX10_high 15 = .ok (.ireturn, 1) := by decide +kernel
theorem dX10_high_16 : decode cX10_high 16 = .ok (.aload_n 0, 1) := by decide +kernel
theorem dX10_high_17 : decode cX10_high 17 = .ok (.iconst 2, 1) := by decide +kernel
theorem dX10_high_18 : decode cX10_high 18 = .ok (.putfield 90, 3) := by decide +kernel
theorem dX10_high_21 : decode cX10_high 21 = .ok (.aload_n 0, 1) := by decide +kernel
theorem dX10_high_22 : decode cX10_high 22 = .ok (.getfield 90, 3) := by decide +kernel
theorem dX10_high_25 : decode cX10_high 25 = .ok (.ireturn, 1) := by decide +kernel
theorem dX10_trip_0 : decode cX10_trip 0 = .ok (.aload_n 0, 1) := by decide +kernel
theorem dX10_trip_1 : decode cX10_trip 1 = .ok (.iconst 0, 1) := by decide +kernel
theorem dX10_trip_2 : decode cX10_trip 2 = .ok (.putfield 64, 3) := by decide +kernel
theorem dX10_trip_5 : decode cX10_trip 5 = .ok (.aload_n 0, 1) := by decide +kernel
theorem dX10_trip_6 : decode cX10_trip 6 = .ok (.getfield 90, 3) := by decide +kernel
theorem dX10_trip_9 : decode cX10_trip 9 = .ok (.ifCond .eq 11, 3) := by decide +kernel
theorem dX10_trip_12 : decode cX10_trip 12 = .ok (.aload_n 0, 1) := by decide +kernel
theorem dX10_trip_13 : decode cX10_trip 13 = .ok (.getfield 90, 3) := by decide +kernel
theorem dX10_trip_16 : decode cX10_trip 16 = .ok (.iconst 4, 1) := by decide +kernel
theorem dX10_trip_17 : decode cX10_trip 17 = .ok (.if_icmp .ne 6, 3) := by decide +kernel
theorem dX10_trip_20 : decode cX10_trip 20 = .ok (.bipush (-2), 2) := by decide +kernel
theorem dX10_trip_22 : decode cX10_trip 22 = .ok (.ireturn, 1) := by decide +kernel
theorem dX10_trip_23 : decode cX10_trip 23 = .ok (.aload_n 0, 1) := by decide +kernel
theorem dX10_trip_24 : decode cX10_trip 24 = .ok (.invokevirtual 111, 3) := by decide +kernel
theorem dX10_trip_27 : decode cX10_trip 27 = .ok (.aload_n 0, 1) := by decide +kernel
theorem dX10_trip_28 : decode cX10_trip 28 = .ok (.getfield 90, 3) := by decide +kernel
theorem dX10_trip_31 : decode cX10_trip 31 = .ok (.ireturn, 1) := by decide +kernel
theorem dX10_reset_0 : decode cX10_reset 0 = .ok (.aload_n 0, 1) := by decide +kernel
theorem dX10_reset_1 : decode cX10_reset 1 = .ok (.iconst 0, 1) := by decide +kernel
theorem dX10_reset_2 : decode cX10_reset 2 = .ok (.putfield 64, 3) := by decide +kernel
theorem dX10_reset_5 : decode cX10_reset 5 = .ok (.aload_n 0, 1) := by decide +kernel
theorem dX10_reset_6 : decode cX10_reset 6 = .ok (.getfield 90, 3) := by decide +kernel
theorem dX10_reset_9 : decode cX10_reset 9 = .ok (.iconst 4, 1) := by decide +kernel
theorem dX10_reset_10 : decode cX10_reset 10 = .ok (.if_icmp .ne 10, 3) := by decide +kernel
theorem dX10_reset_13 : decode cX10_reset 13 = .ok (.aload_n 0, 1) := by decide +kernel
theorem dX10_reset_14 : decode cX10_reset 14 = .ok (.getfield 113, 3) := by decide +kernel
theorem dX10_reset_17 : decode cX10_reset 17 = .ok (.ifCond .ne 6, 3) := by decide +kernel
theorem dX10_reset_20 : decode cX10_reset 20 = .ok (.bipush (-2), 2) := by decide +kernel
theorem dX10_reset_22 : decode cX10_reset 22 = .ok (.ireturn, 1) := by decide +kernel
theorem dX10_reset_23 : decode cX10_reset 23 = .ok (.aload_n 0, 1) := by decide +kernel
theorem dX10_reset_24 : decode cX10_reset 24 = .ok (.iconst 0, 1) := by decide +kernel
theorem dX10_reset_25 : decode cX10_reset 25 = .ok (.putfield 90, 3) := by decide +kernel
theorem dX10_reset_28 : decode cX10_reset 28 = .ok (.aload_n 0, 1) := by decide +kernel
theorem dX10_reset_29 : decode cX10_reset 29 = .ok (.iconst 0, 1) := by decide +kernel
theorem dX10_reset_30 : decode cX10_reset 30 = .ok (.putfield 113, 3) := by decide +kernel
theorem dX10_reset_33 : decode cX10_reset 33 = .ok (.aload_n 0, 1) := by decide +kernel
theorem dX10_reset_34 : decode cX10_reset 34 = .ok (.getfield 90, 3) := by decide +kernel
theorem dX10_reset_37 : decode cX10_reset 37 = .ok (.ireturn, 1) := by decide +kernel
theorem dX10_goesOn_0 : decode cX10_goesOn 0 = .ok (.aload_n 0, 1) := by decide +kernel
theorem dX10_goesOn_1 : decode cX10_goesOn 1 = .ok (.getfield 39, 3) := by decide +kernel
theorem dX10_goesOn_4 : decode cX10_goesOn 4 = .ok (.iload_n 1, 1) := by decide +kernel
theorem dX10_goesOn_5 : decode cX10_goesOn 5 = .ok (.iaload, 1) := by decide +kernel
theorem dX10_goesOn_6 : decode cX10_goesOn 6 = .ok (.iconst 2, 1) := by decide +kernel
theorem dX10_goesOn_7 : decode cX10_goesOn 7 = .ok (.if_icmp .ge 4, 3) := by decide +kernel
theorem dX10_goesOn_10 : decode cX10_goesOn 10 = .ok (.return_, 1) := by decide +kernel
theorem dX10_goesOn_11 : decode cX10_goesOn 11 = .ok (.aload_n 0, 1) := by decide +kernel
theorem dX10_goesOn_12 : decode cX10_goesOn 12 = .ok (.getfield 45, 3) := by decide +kernel
theorem dX10_goesOn_15 : decode cX10_goesOn 15 = .ok (.iload_n 1, 1) := by decide +kernel
theorem dX10_goesOn_16 : decode cX10_goesOn 16 = .ok (.dup2, 1) := by decide +kernel
theorem dX10_goesOn_17 : decode cX10_goesOn 17 = .ok (.iaload, 1) := by decide +kernel
theorem dX10_goesOn_18 : decode cX10_goesOn 18 = .ok (.iconst 1, 1) := by decide +kernel
theorem dX10_goesOn_19 : decode cX10_goesOn 19 = .ok (.iadd, 1) := by decide +kernel
theorem dX10_goesOn_20 : decode cX10_goesOn 20 = .ok (.iastore, 1) := by decide +kernel
theorem dX10_goesOn_21 : decode cX10_goesOn 21 = .ok (.aload_n 0, 1) := by decide +kernel
theorem dX10_goesOn_22 : decode cX10_goesOn 22 = .ok (.getfield 45, 3) := by decide +kernel
theorem dX10_goesOn_25 : decode cX10_goesOn 25 = .ok (.iload_n 1, 1) := by decide +kernel
theorem dX10_goesOn_26 : decode cX10_goesOn 26 = .ok (.iaload, 1) := by decide +kernel
theorem dX10_goesOn_27 : decode cX10_goesOn 27 = .ok (.aload_n 0, 1) := by decide +kernel
theorem dX10_goesOn_28 : decode cX10_goesOn 28 = .ok (.getfield 32, 3) := by decide +kernel
theorem dX10_goesOn_31 : decode cX10_goesOn 31 = .ok (.iconst 5, 1) := by decide +kernel
theorem dX10_goesOn_32 : decode cX10_goesOn 32 = .ok (.iaload, 1) := by decide +kernel
theorem dX10_goesOn_33 : decode cX10_goesOn 33 = .ok (.if_icmp .ge 4, 3) := by decide +kernel
theorem dX10_goesOn_36 : decode cX10_goesOn 36 = .ok (.return_, 1) := by decide +kernel
theorem dX10_goesOn_37 : decode cX10_goesOn 37 = .ok (.aload_n 0, 1) := by decide +kernel
theorem dX10_goesOn_38 : decode cX10_goesOn 38 = .ok (.getfield 45, 3) := by decide +kernel
theorem dX10_goesOn_41 : decode cX10_goesOn 41 = .ok (.iload_n 1, 1) := by decide +kernel
theorem dX10_goesOn_42 : decode cX10_goesOn 42 = .ok (.iconst 0, 1) := by decide +kernel
theorem dX10_goesOn_43 : decode cX10_goesOn 43 = .ok (.iastore, 1) := by decide +kernel
theorem dX10_goesOn_44 : decode cX10_goesOn 44 = .ok (.aload_n 0, 1) := by decide +kernel
theorem dX10_goesOn_45 : decode cX10_goesOn 45 = .ok (.getfield 39, 3) := by decide +kernel
theorem dX10_goesOn_48 : decode cX10_goesOn 48 = .ok (.iload_n 1, 1) := by decide +kernel
theorem dX10_goesOn_49 : decode cX10_goesOn 49 = .ok (.iaload, 1) := by decide +kernel
theorem dX10_goesOn_50 : decode cX10_goesOn 50 = .ok (.iconst 2, 1) := by decide +kernel
theorem dX10_goesOn_51 : decode cX10_goesOn 51 = .ok (.if_icmp .ne 13, 3) := by decide +kernel
theorem dX10_goesOn_54 : decode cX10_goesOn 54 = .ok (.aload_n 0, 1) := by decide +kernel
theorem dX10_goesOn_55 : decode cX10_goesOn 55 = .ok (.getfield 39, 3) := by decide +kernel
theorem dX10_goesOn_58 : decode cX10_goesOn 58 = .ok (.iload_n 1, 1) := by decide +kernel
theorem dX10_goesOn_59 : decode cX10_goesOn 59 = .ok (.iconst 3, 1) := by decide +kernel
theorem dX10_goesOn_60 : decode cX10_goesOn 60 = .ok (.iastore, 1) := by decide +kernel
theorem dX10_goesOn_61 : decode cX10_goesOn 61 = .ok (.goto 33, 3) := by decide +kernel
theorem dX10_goesOn_64 : decode cX10_goesOn 64 = .ok (.aload_n 0, 1) := by decide +kernel
theorem dX10_goesOn_65 : decode cX10_goesOn 65 = .ok (.getfield 42, 3) := by decide +kernel
theorem dX10_goesOn_68 : decode cX10_goesOn 68 = .ok (.iload_n 1, 1) := by decide +kernel
theorem dX10_goesOn_69 : decode cX10_goesOn 69 = .ok (.iconst 0, 1) := by decide +kernel
theorem dX10_goesOn_70 : decode cX10_goesOn 70 = .ok (.iastore, 1) := by decide +kernel
theorem dX10_goesOn_71 : decode cX10_goesOn 71 = .ok (.aload_n 0, 1) := by decide +kernel
theorem dX10_goesOn_72 : decode cX10_goesOn 72 = .ok (.getfield 39, 3) := by decide +kernel
theorem dX10_goesOn_75 : decode cX10_goesOn 75 = .ok (.iload_n 1, 1) := by decide +kernel
theorem dX10_goesOn_76 : decode cX10_goesOn 76 = .ok (.aload_n 0, 1) := by decide +kernel
theorem dX10_goesOn_77 : decode cX10_goesOn 77 = .ok (.getfield 39, 3) := by decide +kernel
theorem dX10_goesOn_80 : decode cX10_goesOn 80 = .ok (.iconst 1, 1) := by decide +kernel
theorem dX10_goesOn_81 : decode cX10_goesOn 81 = .ok (.iload_n 1, 1) := by decide +kernel
theorem dX10_goesOn_82 : decode cX10_goesOn 82 = .ok (.isub, 1) := by decide +kernel
theorem dX10_goesOn_83 : decode cX10_goesOn 83 = .ok (.iaload, 1) := by decide +kernel
theorem dX10_goesOn_84 : decode cX10_goesOn 84 = .ok (.iconst 1, 1) := by decide +kernel
theorem dX10_goesOn_85 : decode cX10_goesOn 85 = .ok (.if_icmp .ne 7, 3) := by decide +kernel
theorem dX10_goesOn_88 : decode cX10_goesOn 88 = .ok (.iconst 0, 1) := by decide +kernel
theorem dX10_goesOn_89 : decode cX10_goesOn 89 = .ok (.goto 4, 3) := by decide +kernel
theorem dX10_goesOn_92 : decode cX10_goesOn 92 = .ok (.iconst 1, 1) := by decide +kernel
theorem dX10_goesOn_93 : decode cX10_goesOn 93 = .ok (.iastore, 1) := by decide +kernel
theorem dX10_goesOn_94 : decode cX10_goesOn 94 = .ok (.return_, 1) := by decide +kernel
theorem dX10_loads_0 : decode cX10_loads 0 = .ok (.aload_n 0, 1) := by decide +kernel
theorem dX10_loads_1 : decode cX10_loads 1 = .ok (.getfield 39, 3) := by decide +kernel
theorem dX10_loads_4 : decode cX10_loads 4 = .ok (.iconst 0, 1) := by decide +kernel
theorem dX10_loads_5 : decode cX10_loads 5 = .ok (.iaload, 1) := by decide +kernel
theorem dX10_loads_6 : decode cX10_loads 6 = .ok (.iconst 1, 1) := by decide +kernel
theorem dX10_loads_7 : decode cX10_loads 7 = .ok (.if_icmp .ne 7, 3) := by decide +kernel
theorem dX10_loads_10 : decode cX10_loads 10 = .ok (.iconst 0, 1) := by decide +kernel
theorem dX10_loads_11 : decode cX10_loads 11 = .ok (.goto 4, 3) := by decide +kernel
theorem dX10_loads_14 : decode cX10_loads 14 = .ok (.iconst 1, 1) := by decide +kernel
theorem dX10_loads_15 : decode cX10_loads 15 = .ok (.istore_n 1, 1) := by decide +kernel
theorem dX10_loads_16 : decode cX10_loads 16 = .ok (.aload_n 0, 1) := by decide +kernel
theorem dX10_loads_17 : decode cX10_loads 17 = .ok (.getfield 42, 3) := by decide +kernel
theorem dX10_loads_20 : decode cX10_loads 20 = .ok (.iload_n 1, 1) := by decide +kernel
theorem dX10_loads_21 : decode cX10_loads 21 = .ok (.dup2, 1) := by decide +kernel
theorem dX10_loads_22 : decode cX10_loads 22 = .ok (.iaload, 1) := by decide +kernel
theorem dX10_loads_23 : decode cX10_loads 23 = .ok (.iconst 1, 1) := by decide +kernel
theorem dX10_loads_24 : decode cX10_loads 24 = .ok (.iadd, 1) := by decide +kernel
theorem dX10_loads_25 : decode cX10_loads 25 = .ok (.iastore, 1) := by decide +kernel
theorem dX10_loads_26 : decode cX10_loads 26 = .ok (.aload_n 0, 1) := by decide +kernel
theorem dX10_loads_27 : decode cX10_loads 27 = .ok (.getfield 42, 3) := by decide +kernel
theorem dX10_loads_30 : decode cX10_loads 30 = .ok (.iload_n 1, 1) := by decide +kernel
theorem dX10_loads_31 : decode cX10_loads 31 = .ok (.iaload, 1) := by decide +kernel
theorem dX10_loads_32 : decode cX10_loads 32 = .ok (.aload_n 0, 1) := by decide +kernel
theorem dX10_loads_33 : decode cX10_loads 33 = .ok (.getfield 32, 3) := by decide +kernel
theorem dX10_loads_36 : decode cX10_loads 36 = .ok (.iconst 4, 1) := by decide +kernel
theorem dX10_loads_37 : decode cX10_loads 37 = .ok (.iaload, 1) := by decide +kernel
theorem dX10_loads_38 : decode cX10_loads 38 = .ok (.if_icmp .ge 4, 3) := by decide +kernel
theorem dX10_loads_41 : decode cX10_loads 41 = .ok (.return_, 1) := by decide +kernel
theorem dX10_loads_42 : decode cX10_loads 42 = .ok (.aload_n 0, 1) := by decide +kernel
theorem dX10_loads_43 : decode cX10_loads 43 = .ok (.getfield 39, 3) := by decide +kernel
theorem dX10_loads_46 : decode cX10_loads 46 = .ok (.iload_n 1, 1) := by decide +kernel
theorem dX10_loads_47 : decode cX10_loads 47 = .ok (.iconst 2, 1) := by decide +kernel
theorem dX10_loads_48 : decode cX10_loads 48 = .ok (.iastore, 1) := by decide +kernel
theorem dX10_loads_49 : decode cX10_loads 49 = .ok (.aload_n 0, 1) := by decide +kernel
theorem dX10_loads_50 : decode cX10_loads 50 = .ok (.getfield 45, 3) := by decide +kernel
theorem dX10_loads_53 : decode cX10_loads 53 = .ok (.iload_n 1, 1) := by decide +kernel
theorem dX10_loads_54 : decode cX10_loads 54 = .ok (.iconst 0, 1) := by decide +kernel
theorem dX10_loads_55 : decode cX10_loads 55 = .ok (.iastore, 1) := by decide +kernel
theorem dX10_loads_56 : decode cX10_loads 56 = .ok (.aload_n 0, 1) := by decide +kernel
theorem dX10_loads_57 : decode cX10_loads 57 = .ok (.getfield 39, 3) := by decide +kernel
theorem dX10_loads_60 : decode cX10_loads 60 = .ok (.iconst 1, 1) := by decide +kernel
theorem dX10_loads_61 : decode cX10_loads 61 = .ok (.iload_n 1, 1) := by decide +kernel
theorem dX10_loads_62 : decode cX10_loads 62 = .ok (.isub, 1) := by decide +kernel
theorem dX10_loads_63 : decode cX10_loads 63 = .ok (.iaload, 1) := by decide +kernel
theorem dX10_loads_64 : decode cX10_loads 64 = .ok (.ifCond .ne 15, 3) := by decide +kernel
theorem dX10_loads_67 : decode cX10_loads 67 = .ok (.aload_n 0, 1) := by decide +kernel
theorem dX10_loads_68 : decode cX10_loads 68 = .ok (.getfield 39, 3) := by decide +kernel
theorem dX10_loads_71 : decode cX10_loads 71 = .ok (.iconst 1, 1) := by decide +kernel
theorem dX10_loads_72 : decode cX10_loads 72 = .ok (.iload_n 1, 1) := by decide +kernel
theorem dX10_loads_73 : decode cX10_loads 73 = .ok (.isub, 1) := by decide +kernel
theorem dX10_loads_74 : decode cX10_loads 74 = .ok (.iconst 1, 1) := by decide +kernel
theorem dX10_loads_75 : decode cX10_loads 75 = .ok (.iastore, 1) := by decide +kernel
theorem dX10_loads_76 : decode cX10_loads 76 = .ok (.goto 7, 3) := by decide +kernel
theorem dX10_loads_79 : decode cX10_loads 79 = .ok (.aload_n 0, 1) := by decide +kernel
theorem dX10_loads_80 : decode cX10_loads 80 = .ok (.invokevirtual 111, 3) := by decide +kernel
theorem dX10_loads_83 : decode cX10_loads 83 = .ok (.return_, 1) := by decide +kernel
theorem dX10_flows_0 : decode cX10_flows 0 = .ok (.iconst 0, 1) := by decide +kernel
theorem dX10_flows_1 : decode cX10_flows 1 = .ok (.istore_n 1, 1) := by decide +kernel
theorem dX10_flows_2 : decode cX10_flows 2 = .ok (.iload_n 1, 1) := by decide +kernel
theorem dX10_flows_3 : decode cX10_flows 3 = .ok (.aload_n 0, 1) := by decide +kernel
theorem dX10_flows_4 : decode cX10_flows 4 = .ok (.getfield 19, 3) := by decide +kernel
theorem dX10_flows_7 : decode cX10_flows 7 = .ok (.if_icmp .ge 51, 3) := by decide +kernel
theorem dX10_flows_10 : decode cX10_flows 10 = .ok (.aload_n 0, 1) := by decide +kernel
theorem dX10_flows_11 : decode cX10_flows 11 = .ok (.getfield 23, 3) := by decide +kernel
theorem dX10_flows_14 : decode cX10_flows 14 = .ok (.iload_n 1, 1) := by decide +kernel
theorem dX10_flows_15 : decode cX10_flows 15 = .ok (.iaload, 1) := by decide +kernel
theorem dX10_flows_16 : decode cX10_flows 16 = .ok (.aload_n 0, 1) := by decide +kernel
theorem dX10_flows_17 : decode cX10_flows 17 = .ok (.getfield 26, 3) := by decide +kernel
theorem dX10_flows_20 : decode cX10_flows 20 = .ok (.iload_n 1, 1) := by decide +kernel
theorem dX10_flows_21 : decode cX10_flows 21 = .ok (.iaload, 1) := by decide +kernel
theorem dX10_flows_22 : decode cX10_flows 22 = .ok (.isub, 1) := by decide +kernel
theorem dX10_flows_23 : decode cX10_flows 23 = .ok (.aload_n 0, 1) := by decide +kernel
theorem dX10_flows_24 : decode cX10_flows 24 = .ok (.getfield 29, 3) := by decide +kernel
theorem dX10_flows_27 : decode cX10_flows 27 = .ok (.imul, 1) := by decide +kernel
theorem dX10_flows_28 : decode cX10_flows 28 = .ok (.bipush 100, 2) := by decide +kernel
theorem dX10_flows_30 : decode cX10_flows 30 = .ok (.idiv, 1) := by decide +kernel
theorem dX10_flows_31 : decode cX10_flows 31 = .ok (.istore_n 2, 1) := by decide +kernel
theorem dX10_flows_32 : decode cX10_flows 32 = .ok (.aload_n 0, 1) := by decide +kernel
theorem dX10_flows_33 : decode cX10_flows 33 = .ok (.getfield 23, 3) := by decide +kernel
theorem dX10_flows_36 : decode cX10_flows 36 = .ok (.iload_n 1, 1) := by decide +kernel
theorem dX10_flows_37 : decode cX10_flows 37 = .ok (.dup2, 1) := by decide +kernel
theorem dX10_flows_38 : decode cX10_flows 38 = .ok (.iaload, 1) := by decide +kernel
theorem dX10_flows_39 : decode cX10_flows 39 = .ok (.iload_n 2, 1) := by decide +kernel
theorem dX10_flows_40 : decode cX10_flows 40 = .ok (.isub, 1) := by decide +kernel
theorem dX10_flows_41 : decode cX10_flows 41 = .ok (.iastore, 1) := by decide +kernel
theorem dX10_flows_42 : decode cX10_flows 42 = .ok (.aload_n 0, 1) := by decide +kernel
theorem dX10_flows_43 : decode cX10_flows 43 = .ok (.getfield 26, 3) := by decide +kernel
theorem dX10_flows_46 : decode cX10_flows 46 = .ok (.iload_n 1, 1) := by decide +kernel
theorem dX10_flows_47 : decode cX10_flows 47 = .ok (.dup2, 1) := by decide +kernel
theorem dX10_flows_48 : decode cX10_flows 48 = .ok (.iaload, 1) := by decide +kernel
theorem dX10_flows_49 : decode cX10_flows 49 = .ok (.iload_n 2, 1) := by decide +kernel
theorem dX10_flows_50 : decode cX10_flows 50 = .ok (.iadd, 1) := by decide +kernel
theorem dX10_flows_51 : decode cX10_flows 51 = .ok (.iastore, 1) := by decide +kernel
theorem dX10_flows_52 : decode cX10_flows 52 = .ok (.iinc 1 1, 3) := by decide +kernel
theorem dX10_flows_55 : decode cX10_flows 55 = .ok (.goto (-53), 3) := by decide +kernel
theorem dX10_flows_58 : decode cX10_flows 58 = .ok (.aload_n 0, 1) := by decide +kernel
theorem dX10_flows_59 : decode cX10_flows 59 = .ok (.getfield 23, 3) := by decide +kernel
theorem dX10_flows_62 : decode cX10_flows 62 = .ok (.aload_n 0, 1) := by decide +kernel
theorem dX10_flows_63 : decode cX10_flows 63 = .ok (.getfield 19, 3) := by decide +kernel
theorem dX10_flows_66 : decode cX10_flows 66 = .ok (.iconst 1, 1) := by decide +kernel
theorem dX10_flows_67 : decode cX10_flows 67 = .ok (.isub, 1) := by decide +kernel
theorem dX10_flows_68 : decode cX10_flows 68 = .ok (.iaload, 1) := by decide +kernel
theorem dX10_flows_69 : decode cX10_flows 69 = .ok (.istore_n 1, 1) := by decide +kernel
theorem dX10_flows_70 : decode cX10_flows 70 = .ok (.iload_n 1, 1) := by decide +kernel
theorem dX10_flows_71 : decode cX10_flows 71 = .ok (.aload_n 0, 1) := by decide +kernel
theorem dX10_flows_72 : decode cX10_flows 72 = .ok (.getfield 32, 3) := by decide +kernel
theorem dX10_flows_75 : decode cX10_flows 75 = .ok (.iconst 0, 1) := by decide +kernel
theorem dX10_flows_76 : decode cX10_flows 76 = .ok (.iaload, 1) := by decide +kernel
theorem dX10_flows_77 : decode cX10_flows 77 = .ok (.bipush (-9), 2) := by decide +kernel
theorem dX10_flows_79 : decode cX10_flows 79 = .ok (.if_icmp .ne 7, 3) := by decide +kernel
theorem dX10_flows_82 : decode cX10_flows 82 = .ok (.iconst 0, 1) := by decide +kernel
theorem dX10_flows_83 : decode cX10_flows 83 = .ok (.goto 19, 3) := by decide +kernel
theorem dX10_flows_86 : decode cX10_flows 86 = .ok (.aload_n 0, 1) := by decide +kernel
theorem dX10_flows_87 : decode cX10_flows 87 = .ok (.aload_n 0, 1) := by decide +kernel
theorem dX10_flows_88 : decode cX10_flows 88 = .ok (.getfield 32, 3) := by decide +kernel
theorem dX10_flows_91 : decode cX10_flows 91 = .ok (.iconst 0, 1) := by decide +kernel
theorem dX10_flows_92 : decode cX10_flows 92 = .ok (.iaload, 1) := by decide +kernel
theorem dX10_flows_93 : decode cX10_flows 93 = .ok (.aload_n 0, 1) := by decide +kernel
theorem dX10_flows_94 : decode cX10_flows 94 = .ok (.getfield 32, 3) := by decide +kernel
theorem dX10_flows_97 : decode cX10_flows 97 = .ok (.iconst 1, 1) := by decide +kernel
theorem dX10_flows_98 : decode cX10_flows 98 = .ok (.iaload, 1) := by decide +kernel
theorem dX10_flows_99 : decode cX10_flows 99 = .ok (.invokevirtual 86, 3) := by decide +kernel
theorem dX10_flows_102 : decode cX10_flows 102 = .ok (.isub, 1) := by decide +kernel
theorem dX10_flows_103 : decode cX10_flows 103 = .ok (.istore_n 2, 1) := by decide +kernel
theorem dX10_flows_104 : decode cX10_flows 104 = .ok (.iload_n 2, 1) := by decide +kernel
theorem dX10_flows_105 : decode cX10_flows 105 = .ok (.bipush 80, 2) := by decide +kernel
theorem dX10_flows_107 : decode cX10_flows 107 = .ok (.if_icmp .ge 12, 3) := by decide +kernel
theorem dX10_flows_110 : decode cX10_flows 110 = .ok (.bipush 80, 2) := by decide +kernel
theorem dX10_flows_112 : decode cX10_flows 112 = .ok (.iload_n 2, 1) := by decide +kernel
theorem dX10_flows_113 : decode cX10_flows 113 = .ok (.isub, 1) := by decide +kernel
theorem dX10_flows_114 : decode cX10_flows 114 = .ok (.iconst 5, 1) := by decide +kernel
theorem dX10_flows_115 : decode cX10_flows 115 = .ok (.idiv, 1) := by decide +kernel
theorem dX10_flows_116 : decode cX10_flows 116 = .ok (.goto 4, 3) := by decide +kernel
theorem dX10_flows_119 : decode cX10_flows 119 = .ok (.iconst 0, 1) := by decide +kernel
theorem dX10_flows_120 : decode cX10_flows 120 = .ok (.istore_n 3, 1) := by decide +kernel
theorem dX10_flows_121 : decode cX10_flows 121 = .ok (.iload_n 3, 1) := by decide +kernel
theorem dX10_flows_122 : decode cX10_flows 122 = .ok (.bipush 20, 2) := by decide +kernel
theorem dX10_flows_124 : decode cX10_flows 124 = .ok (.if_icmp .le 8, 3) := by decide +kernel
theorem dX10_flows_127 : decode cX10_flows 127 = .ok (.bipush 20, 2) := by decide +kernel
theorem dX10_flows_129 : decode cX10_flows 129 = .ok (.goto 4, 3) := by decide +kernel
theorem dX10_flows_132 : decode cX10_flows 132 = .ok (.iload_n 3, 1) := by decide +kernel
theorem dX10_flows_133 : decode cX10_flows 133 = .ok (.istore_n 3, 1) := by decide +kernel
theorem dX10_flows_134 : decode cX10_flows 134 = .ok (.iload_n 2, 1) := by decide +kernel
theorem dX10_flows_135 : decode cX10_flows 135 = .ok (.bipush 80, 2) := by decide +kernel
theorem dX10_flows_137 : decode cX10_flows 137 = .ok (.if_icmp .ge 8, 3) := by decide +kernel
theorem dX10_flows_140 : decode cX10_flows 140 = .ok (.bipush 80, 2) := by decide +kernel
theorem dX10_flows_142 : decode cX10_flows 142 = .ok (.goto 4, 3) := by decide +kernel
theorem dX10_flows_145 : decode cX10_flows 145 = .ok (.iload_n 2, 1) := by decide +kernel
theorem dX10_flows_146 : decode cX10_flows 146 = .ok (.istore 4, 2) := by decide +kernel
theorem dX10_flows_148 : decode cX10_flows 148 = .ok (.aload_n 0, 1) := by decide +kernel
theorem dX10_flows_149 : decode cX10_flows 149 = .ok (.getfield 35, 3) := by decide +kernel
theorem dX10_flows_152 : decode cX10_flows 152 = .ok (.iconst 0, 1) := by decide +kernel
theorem dX10_flows_153 : decode cX10_flows 153 = .ok (.dup2, 1) := by decide +kernel
theorem dX10_flows_154 : decode cX10_flows 154 = .ok (.laload, 1) := by decide +kernel
theorem dX10_flows_155 : decode cX10_flows 155 = .ok (.aload_n 0, 1) := by decide +kernel
theorem dX10_flows_156 : decode cX10_flows 156 = .ok (.getfield 32, 3) := by decide +kernel
theorem dX10_flows_159 : decode cX10_flows 159 = .ok (.iconst 2, 1) := by decide +kernel
theorem dX10_flows_160 : decode cX10_flows 160 = .ok (.iaload, 1) := by decide +kernel
theorem dX10_flows_161 : decode cX10_flows 161 = .ok (.i2l, 1) := by decide +kernel
theorem dX10_flows_162 : decode cX10_flows 162 = .ok (.ladd, 1) := by decide +kernel
theorem dX10_flows_163 : decode cX10_flows 163 = .ok (.lastore, 1) := by decide +kernel
theorem dX10_flows_164 : decode cX10_flows 164 = .ok (.aload_n 0, 1) := by decide +kernel
theorem dX10_flows_165 : decode cX10_flows 165 = .ok (.getfield 35, 3) := by decide +kernel
theorem dX10_flows_168 : decode cX10_flows 168 = .ok (.iconst 1, 1) := by decide +kernel
theorem dX10_flows_169 : decode cX10_flows 169 = .ok (.dup2, 1) := by decide +kernel
theorem dX10_flows_170 : decode cX10_flows 170 = .ok (.laload, 1) := by decide +kernel
theorem dX10_flows_171 : decode cX10_flows 171 = .ok (.aload_n 0, 1) := by decide +kernel
theorem dX10_flows_172 : decode cX10_flows 172 = .ok (.getfield 26, 3) := by decide +kernel
theorem dX10_flows_175 : decode cX10_flows 175 = .ok (.iconst 0, 1) := by decide +kernel
theorem dX10_flows_176 : decode cX10_flows 176 = .ok (.iaload, 1) := by decide +kernel
theorem dX10_flows_177 : decode cX10_flows 177 = .ok (.i2l, 1) := by decide +kernel
theorem dX10_flows_178 : decode cX10_flows 178 = .ok (.ladd, 1) := by decide +kernel
theorem dX10_flows_179 : decode cX10_flows 179 = .ok (.lastore, 1) := by decide +kernel
theorem dX10_flows_180 : decode cX10_flows 180 = .ok (.aload_n 0, 1) := by decide +kernel
theorem dX10_flows_181 : decode cX10_flows 181 = .ok (.getfield 35, 3) := by decide +kernel
theorem dX10_flows_184 : decode cX10_flows 184 = .ok (.iconst 2, 1) := by decide +kernel
theorem dX10_flows_185 : decode cX10_flows 185 = .ok (.dup2, 1) := by decide +kernel
theorem dX10_flows_186 : decode cX10_flows 186 = .ok (.laload, 1) := by decide +kernel
theorem dX10_flows_187 : decode cX10_flows 187 = .ok (.iload_n 1, 1) := by decide +kernel
theorem dX10_flows_188 : decode cX10_flows 188 = .ok (.iload 4, 2) := by decide +kernel
theorem dX10_flows_190 : decode cX10_flows 190 = .ok (.isub, 1) := by decide +kernel
theorem dX10_flows_191 : decode cX10_flows 191 = .ok (.i2l, 1) := by decide +kernel
theorem dX10_flows_192 : decode cX10_flows 192 = .ok (.ladd, 1) := by decide +kernel
theorem dX10_flows_193 : decode cX10_flows 193 = .ok (.lastore, 1) := by decide +kernel
theorem dX10_flows_194 : decode cX10_flows 194 = .ok (.aload_n 0, 1) := by decide +kernel
theorem dX10_flows_195 : decode cX10_flows 195 = .ok (.getfield 35, 3) := by decide +kernel
theorem dX10_flows_198 : decode cX10_flows 198 = .ok (.iconst 3, 1) := by decide +kernel
theorem dX10_flows_199 : decode cX10_flows 199 = .ok (.dup2, 1) := by decide +kernel
theorem dX10_flows_200 : decode cX10_flows 200 = .ok (.laload, 1) := by decide +kernel
theorem dX10_flows_201 : decode cX10_flows 201 = .ok (.lconst 1, 1) := by decide +kernel
theorem dX10_flows_202 : decode cX10_flows 202 = .ok (.ladd, 1) := by decide +kernel
theorem dX10_flows_203 : decode cX10_flows 203 = .ok (.lastore, 1) := by decide +kernel
theorem dX10_flows_204 : decode cX10_flows 204 = .ok (.aload_n 0, 1) := by decide +kernel
theorem dX10_flows_205 : decode cX10_flows 205 = .ok (.getfield 19, 3) := by decide +kernel
theorem dX10_flows_208 : decode cX10_flows 208 = .ok (.iconst 1, 1) := by decide +kernel
theorem dX10_flows_209 : decode cX10_flows 209 = .ok (.isub, 1) := by decide +kernel
theorem dX10_flows_210 : decode cX10_flows 210 = .ok (.istore 5, 2) := by decide +kernel
theorem dX10_flows_212 : decode cX10_flows 212 = .ok (.iload 5, 2) := by decide +kernel
theorem dX10_flows_214 : decode cX10_flows 214 = .ok (.ifCond .le 25, 3) := by decide +kernel
theorem dX10_flows_217 : decode cX10_flows 217 = .ok (.aload_n 0, 1) := by decide +kernel
theorem dX10_flows_218 : decode cX10_flows 218 = .ok (.getfield 23, 3) := by decide +kernel
theorem dX10_flows_221 : decode cX10_flows 221 = .ok (.iload 5, 2) := by decide +kernel
theorem dX10_flows_223 : decode cX10_flows 223 = .ok (.aload_n 0, 1) := by decide +kernel
theorem dX10_flows_224 : decode cX10_flows 224 = .ok (.getfield 23, 3) := by decide +kernel
theorem dX10_flows_227 : decode cX10_flows 227 = .ok (.iload 5, 2) := by decide +kernel
theorem dX10_flows_229 : decode cX10_flows 229 = .ok (.iconst 1, 1) := by decide +kernel
theorem dX10_flows_230 : decode cX10_flows 230 = .ok (.isub, 1) := by decide +kernel
theorem dX10_flows_231 : decode cX10_flows 231 = .ok (.iaload, 1) := by decide +kernel
theorem dX10_flows_232 : decode cX10_flows 232 = .ok (.iastore, 1) := by decide +kernel
theorem dX10_flows_233 : decode cX10_flows 233 = .ok (.iinc 5 (-1), 3) := by decide +kernel
theorem dX10_flows_236 : decode cX10_flows 236 = .ok (.goto (-24), 3) := by decide +kernel
theorem dX10_flows_239 : decode cX10_flows 239 = .ok (.aload_n 0, 1) := by decide +kernel
theorem dX10_flows_240 : decode cX10_flows 240 = .ok (.getfield 23, 3) := by decide +kernel
theorem dX10_flows_243 : decode cX10_flows 243 = .ok (.iconst 0, 1) := by decide +kernel
theorem dX10_flows_244 : decode cX10_flows 244 = .ok (.aload_n 0, 1) := by decide +kernel
theorem dX10_flows_245 : decode cX10_flows 245 = .ok (.getfield 32, 3) := by decide +kernel
theorem dX10_flows_248 : decode cX10_flows 248 = .ok (.iconst 2, 1) := by decide +kernel
theorem dX10_flows_249 : decode cX10_flows 249 = .ok (.iaload, 1) := by decide +kernel
theorem dX10_flows_250 : decode cX10_flows 250 = .ok (.iastore, 1) := by decide +kernel
theorem dX10_flows_251 : decode cX10_flows 251 = .ok (.iconst 0, 1) := by decide +kernel
theorem dX10_flows_252 : decode cX10_flows 252 = .ok (.istore 5, 2) := by decide +kernel
theorem dX10_flows_254 : decode cX10_flows 254 = .ok (.iload 5, 2) := by decide +kernel
theorem dX10_flows_256 : decode cX10_flows 256 = .ok (.aload_n 0, 1) := by decide +kernel
theorem dX10_flows_257 : decode cX10_flows 257 = .ok (.getfield 19, 3) := by decide +kernel
theorem dX10_flows_260 : decode cX10_flows 260 = .ok (.iconst 1, 1) := by decide +kernel
theorem dX10_flows_261 : decode cX10_flows 261 = .ok (.isub, 1) := by decide +kernel
theorem dX10_flows_262 : decode cX10_flows 262 = .ok (.if_icmp .ge 25, 3) := by decide +kernel
theorem dX10_flows_265 : decode cX10_flows 265 = .ok (.aload_n 0, 1) := by decide +kernel
theorem dX10_flows_266 : decode cX10_flows 266 = .ok (.getfield 26, 3) := by decide +kernel
theorem dX10_flows_269 : decode cX10_flows 269 = .ok (.iload 5, 2) := by decide +kernel
theorem dX10_flows_271 : decode cX10_flows 271 = .ok (.aload_n 0, 1) := by decide +kernel
theorem dX10_flows_272 : decode cX10_flows 272 = .ok (.getfield 26, 3) := by decide +kernel
theorem dX10_flows_275 : decode cX10_flows 275 = .ok (.iload 5, 2) := by decide +kernel
theorem dX10_flows_277 : decode cX10_flows 277 = .ok (.iconst 1, 1) := by decide +kernel
theorem dX10_flows_278 : decode cX10_flows 278 = .ok (.iadd, 1) := by decide +kernel
theorem dX10_flows_279 : decode cX10_flows 279 = .ok (.iaload, 1) := by decide +kernel
theorem dX10_flows_280 : decode cX10_flows 280 = .ok (.iastore, 1) := by decide +kernel
theorem dX10_flows_281 : decode cX10_flows 281 = .ok (.iinc 5 1, 3) := by decide +kernel
theorem dX10_flows_284 : decode cX10_flows 284 = .ok (.goto (-30), 3) := by decide +kernel
theorem dX10_flows_287 : decode cX10_flows 287 = .ok (.aload_n 0, 1) := by decide +kernel
theorem dX10_flows_288 : decode cX10_flows 288 = .ok (.getfield 26, 3) := by decide +kernel
theorem dX10_flows_291 : decode cX10_flows 291 = .ok (.aload_n 0, 1) := by decide +kernel
theorem dX10_flows_292 : decode cX10_flows 292 = .ok (.getfield 19, 3) := by decide +kernel
theorem dX10_flows_295 : decode cX10_flows 295 = .ok (.iconst 1, 1) := by decide +kernel
theorem dX10_flows_296 : decode cX10_flows 296 = .ok (.isub, 1) := by decide +kernel
theorem dX10_flows_297 : decode cX10_flows 297 = .ok (.iload 4, 2) := by decide +kernel
theorem dX10_flows_299 : decode cX10_flows 299 = .ok (.iastore, 1) := by decide +kernel
theorem dX10_flows_300 : decode cX10_flows 300 = .ok (.iload_n 3, 1) := by decide +kernel
theorem dX10_flows_301 : decode cX10_flows 301 = .ok (.ireturn, 1) := by decide +kernel
theorem dX10_stores_0 : decode cX10_stores 0 = .ok (.aload_n 0, 1) := by decide +kernel
theorem dX10_stores_1 : decode cX10_stores 1 = .ok (.dup, 1) := by decide +kernel
theorem dX10_stores_2 : decode cX10_stores 2 = .ok (.getfield 116, 3) := by decide +kernel
theorem dX10_stores_5 : decode cX10_stores 5 = .ok (.iload_n 1, 1) := by decide +kernel
theorem dX10_stores_6 : decode cX10_stores 6 = .ok (.i2l, 1) := by decide +kernel
theorem dX10_stores_7 : decode cX10_stores 7 = .ok (.ladd, 1) := by decide +kernel
theorem dX10_stores_8 : decode cX10_stores 8 = .ok (.putfield 116, 3) := by decide +kernel
theorem dX10_stores_11 : decode cX10_stores 11 = .ok (.aload_n 0, 1) := by decide +kernel
theorem dX10_stores_12 : decode cX10_stores 12 = .ok (.getfield 32, 3) := by decide +kernel
theorem dX10_stores_15 : decode cX10_stores 15 = .ok (.iconst 3, 1) := by decide +kernel
theorem dX10_stores_16 : decode cX10_stores 16 = .ok (.iaload, 1) := by decide +kernel
theorem dX10_stores_17 : decode cX10_stores 17 = .ok (.aload_n 0, 1) := by decide +kernel
theorem dX10_stores_18 : decode cX10_stores 18 = .ok (.getfield 93, 3) := by decide +kernel
theorem dX10_stores_21 : decode cX10_stores 21 = .ok (.isub, 1) := by decide +kernel
theorem dX10_stores_22 : decode cX10_stores 22 = .ok (.iload_n 1, 1) := by decide +kernel
theorem dX10_stores_23 : decode cX10_stores 23 = .ok (.if_icmp .ge 17, 3) := by decide +kernel
theorem dX10_stores_26 : decode cX10_stores 26 = .ok (.aload_n 0, 1) := by decide +kernel
theorem dX10_stores_27 : decode cX10_stores 27 = .ok (.getfield 32, 3) := by decide +kernel
theorem dX10_stores_30 : decode cX10_stores 30 = .ok (.iconst 3, 1) := by decide +kernel
theorem dX10_stores_31 : decode cX10_stores 31 = .ok (.iaload, 1) := by decide +kernel
theorem dX10_stores_32 : decode cX10_stores 32 = .ok (.aload_n 0, 1) := by decide +kernel
theorem dX10_stores_33 : decode cX10_stores 33 = .ok (.getfield 93, 3) := by decide +kernel
theorem dX10_stores_36 : decode cX10_stores 36 = .ok (.isub, 1) := by decide +kernel
theorem dX10_stores_37 : decode cX10_stores 37 = .ok (.goto 4, 3) := by decide +kernel
theorem dX10_stores_40 : decode cX10_stores 40 = .ok (.iload_n 1, 1) := by decide +kernel
theorem dX10_stores_41 : decode cX10_stores 41 = .ok (.istore_n 2, 1) := by decide +kernel
theorem dX10_stores_42 : decode cX10_stores 42 = .ok (.iload_n 1, 1) := by decide +kernel
theorem dX10_stores_43 : decode cX10_stores 43 = .ok (.iload_n 2, 1) := by decide +kernel
theorem dX10_stores_44 : decode cX10_stores 44 = .ok (.isub, 1) := by decide +kernel
theorem dX10_stores_45 : decode cX10_stores 45 = .ok (.istore_n 3, 1) := by decide +kernel
theorem dX10_stores_46 : decode cX10_stores 46 = .ok (.aload_n 0, 1) := by decide +kernel
theorem dX10_stores_47 : decode cX10_stores 47 = .ok (.dup, 1) := by decide +kernel
theorem dX10_stores_48 : decode cX10_stores 48 = .ok (.getfield 93, 3) := by decide +kernel
theorem dX10_stores_51 : decode cX10_stores 51 = .ok (.iload_n 2, 1) := by decide +kernel
theorem dX10_stores_52 : decode cX10_stores 52 = .ok (.iadd, 1) := by decide +kernel
theorem dX10_stores_53 : decode cX10_stores 53 = .ok (.putfield 93, 3) := by decide +kernel
theorem dX10_stores_56 : decode cX10_stores 56 = .ok (.sipush 300, 3) := by decide +kernel
theorem dX10_stores_59 : decode cX10_stores 59 = .ok (.aload_n 0, 1) := by decide +kernel
theorem dX10_stores_60 : decode cX10_stores 60 = .ok (.getfield 119, 3) := by decide +kernel
theorem dX10_stores_63 : decode cX10_stores 63 = .ok (.isub, 1) := by decide +kernel
theorem dX10_stores_64 : decode cX10_stores 64 = .ok (.iload_n 3, 1) := by decide +kernel
theorem dX10_stores_65 : decode cX10_stores 65 = .ok (.if_icmp .ge 14, 3) := by decide +kernel
theorem dX10_stores_68 : decode cX10_stores 68 = .ok (.sipush 300, 3) := by decide +kernel
theorem dX10_stores_71 : decode cX10_stores 71 = .ok (.aload_n 0, 1) := by decide +kernel
theorem dX10_stores_72 : decode cX10_stores 72 = .ok (.getfield 119, 3) := by decide +kernel
theorem dX10_stores_75 : decode cX10_stores 75 = .ok (.isub, 1) := by decide +kernel
theorem dX10_stores_76 : decode cX10_stores 76 = .ok (.goto 4, 3) := by decide +kernel
theorem dX10_stores_79 : decode cX10_stores 79 = .ok (.iload_n 3, 1) := by decide +kernel
theorem dX10_stores_80 : decode cX10_stores 80 = .ok (.istore 4, 2) := by decide +kernel
theorem dX10_stores_82 : decode cX10_stores 82 = .ok (.aload_n 0, 1) := by decide +kernel
theorem dX10_stores_83 : decode cX10_stores 83 = .ok (.dup, 1) := by decide +kernel
theorem dX10_stores_84 : decode cX10_stores 84 = .ok (.getfield 119, 3) := by decide +kernel
theorem dX10_stores_87 : decode cX10_stores 87 = .ok (.iload 4, 2) := by decide +kernel
theorem dX10_stores_89 : decode cX10_stores 89 = .ok (.iadd, 1) := by decide +kernel
theorem dX10_stores_90 : decode cX10_stores 90 = .ok (.putfield 119, 3) := by decide +kernel
theorem dX10_stores_93 : decode cX10_stores 93 = .ok (.aload_n 0, 1) := by decide +kernel
theorem dX10_stores_94 : decode cX10_stores 94 = .ok (.dup, 1) := by decide +kernel
theorem dX10_stores_95 : decode cX10_stores 95 = .ok (.getfield 122, 3) := by decide +kernel
theorem dX10_stores_98 : decode cX10_stores 98 = .ok (.iload_n 3, 1) := by decide +kernel
theorem dX10_stores_99 : decode cX10_stores 99 = .ok (.iload 4, 2) := by decide +kernel
theorem dX10_stores_101 : decode cX10_stores 101 = .ok (.isub, 1) := by decide +kernel
theorem dX10_stores_102 : decode cX10_stores 102 = .ok (.i2l, 1) := by decide +kernel
theorem dX10_stores_103 : decode cX10_stores 103 = .ok (.ladd, 1) := by decide +kernel
theorem dX10_stores_104 : decode cX10_stores 104 = .ok (.putfield 122, 3) := by decide +kernel
theorem dX10_stores_107 : decode cX10_stores 107 = .ok (.return_, 1) := by decide +kernel
theorem dX10_goes_0 : decode cX10_goes 0 = .ok (.aload_n 0, 1) := by decide +kernel
theorem dX10_goes_1 : decode cX10_goes 1 = .ok (.dup, 1) := by decide +kernel
theorem dX10_goes_2 : decode cX10_goes 2 = .ok (.getfield 125, 3) := by decide +kernel
theorem dX10_goes_5 : decode cX10_goes 5 = .ok (.iconst 1, 1) := by decide +kernel
theorem dX10_goes_6 : decode cX10_goes 6 = .ok (.iadd, 1) := by decide +kernel
theorem dX10_goes_7 : decode cX10_goes 7 = .ok (.putfield 125, 3) := by decide +kernel
theorem dX10_goes_10 : decode cX10_goes 10 = .ok (.aload_n 0, 1) := by decide +kernel
theorem dX10_goes_11 : decode cX10_goes 11 = .ok (.iconst 0, 1) := by decide +kernel
theorem dX10_goes_12 : decode cX10_goes 12 = .ok (.invokevirtual 128, 3) := by decide +kernel
theorem dX10_goes_15 : decode cX10_goes 15 = .ok (.aload_n 0, 1) := by decide +kernel
theorem dX10_goes_16 : decode cX10_goes 16 = .ok (.iconst 1, 1) := by decide +kernel
theorem dX10_goes_17 : decode cX10_goes 17 = .ok (.invokevirtual 128, 3) := by decide +kernel
theorem dX10_goes_20 : decode cX10_goes 20 = .ok (.aload_n 0, 1) := by decide +kernel
theorem dX10_goes_21 : decode cX10_goes 21 = .ok (.getfield 90, 3) := by decide +kernel
theorem dX10_goes_24 : decode cX10_goes 24 = .ok (.iconst 4, 1) := by decide +kernel
theorem dX10_goes_25 : decode cX10_goes 25 = .ok (.if_icmp .ne 81, 3) := by decide +kernel
theorem dX10_goes_28 : decode cX10_goes 28 = .ok (.aload_n 0, 1) := by decide +kernel
theorem dX10_goes_29 : decode cX10_goes 29 = .ok (.dup, 1) := by decide +kernel
theorem dX10_goes_30 : decode cX10_goes 30 = .ok (.getfield 98, 3) := by decide +kernel
theorem dX10_goes_33 : decode cX10_goes 33 = .ok (.iconst 1, 1) := by decide +kernel
theorem dX10_goes_34 : decode cX10_goes 34 = .ok (.iadd, 1) := by decide +kernel
theorem dX10_goes_35 : decode cX10_goes 35 = .ok (.putfield 98, 3) := by decide +kernel
theorem dX10_goes_38 : decode cX10_goes 38 = .ok (.aload_n 0, 1) := by decide +kernel
theorem dX10_goes_39 : decode cX10_goes 39 = .ok (.dup, 1) := by decide +kernel
theorem dX10_goes_40 : decode cX10_goes 40 = .ok (.getfield 104, 3) := by decide +kernel
theorem dX10_goes_43 : decode cX10_goes 43 = .ok (.aload_n 0, 1) := by decide +kernel
theorem dX10_goes_44 : decode cX10_goes 44 = .ok (.getfield 98, 3) := by decide +kernel
theorem dX10_goes_47 : decode cX10_goes 47 = .ok (.iconst 1, 1) := by decide +kernel
theorem dX10_goes_48 : decode cX10_goes 48 = .ok (.if_icmp .ge 7, 3) := by decide +kernel
theorem dX10_goes_51 : decode cX10_goes 51 = .ok (.iconst 1, 1) := by decide +kernel
theorem dX10_goes_52 : decode cX10_goes 52 = .ok (.goto 4, 3) := by decide +kernel
theorem dX10_goes_55 : decode cX10_goes 55 = .ok (.iconst 0, 1) := by decide +kernel
theorem dX10_goes_56 : decode cX10_goes 56 = .ok (.iand, 1) := by decide +kernel
theorem dX10_goes_57 : decode cX10_goes 57 = .ok (.putfield 104, 3) := by decide +kernel
theorem dX10_goes_60 : decode cX10_goes 60 = .ok (.aload_n 0, 1) := by decide +kernel
theorem dX10_goes_61 : decode cX10_goes 61 = .ok (.dup, 1) := by decide +kernel
theorem dX10_goes_62 : decode cX10_goes 62 = .ok (.getfield 108, 3) := by decide +kernel
theorem dX10_goes_65 : decode cX10_goes 65 = .ok (.aload_n 0, 1) := by decide +kernel
theorem dX10_goes_66 : decode cX10_goes 66 = .ok (.getfield 98, 3) := by decide +kernel
theorem dX10_goes_69 : decode cX10_goes 69 = .ok (.iconst 2, 1) := by decide +kernel
theorem dX10_goes_70 : decode cX10_goes 70 = .ok (.if_icmp .ge 7, 3) := by decide +kernel
theorem dX10_goes_73 : decode cX10_goes 73 = .ok (.iconst 1, 1) := by decide +kernel
theorem dX10_goes_74 : decode cX10_goes 74 = .ok (.goto 4, 3) := by decide +kernel
theorem dX10_goes_77 : decode cX10_goes 77 = .ok (.iconst 0, 1) := by decide +kernel
theorem dX10_goes_78 : decode cX10_goes 78 = .ok (.iand, 1) := by decide +kernel
theorem dX10_goes_79 : decode cX10_goes 79 = .ok (.putfield 108, 3) := by decide +kernel
theorem dX10_goes_82 : decode cX10_goes 82 = .ok (.aload_n 0, 1) := by decide +kernel
theorem dX10_goes_83 : decode cX10_goes 83 = .ok (.dup, 1) := by decide +kernel
theorem dX10_goes_84 : decode cX10_goes 84 = .ok (.getfield 113, 3) := by decide +kernel
theorem dX10_goes_87 : decode cX10_goes 87 = .ok (.aload_n 0, 1) := by decide +kernel
theorem dX10_goes_88 : decode cX10_goes 88 = .ok (.getfield 98, 3) := by decide +kernel
theorem dX10_goes_91 : decode cX10_goes 91 = .ok (.iconst 2, 1) := by decide +kernel
theorem dX10_goes_92 : decode cX10_goes 92 = .ok (.if_icmp .le 7, 3) := by decide +kernel
theorem dX10_goes_95 : decode cX10_goes 95 = .ok (.iconst 1, 1) := by decide +kernel
theorem dX10_goes_96 : decode cX10_goes 96 = .ok (.goto 4, 3) := by decide +kernel
theorem dX10_goes_99 : decode cX10_goes 99 = .ok (.iconst 0, 1) := by decide +kernel
theorem dX10_goes_100 : decode cX10_goes 100 = .ok (.ior, 1) := by decide +kernel
theorem dX10_goes_101 : decode cX10_goes 101 = .ok (.putfield 113, 3) := by decide +kernel
theorem dX10_goes_104 : decode cX10_goes 104 = .ok (.iconst 0, 1) := by decide +kernel
theorem dX10_goes_105 : decode cX10_goes 105 = .ok (.ireturn, 1) := by decide +kernel
theorem dX10_goes_106 : decode cX10_goes 106 = .ok (.aload_n 0, 1) := by decide +kernel
theorem dX10_goes_107 : decode cX10_goes 107 = .ok (.getfield 90, 3) := by decide +kernel
theorem dX10_goes_110 : decode cX10_goes 110 = .ok (.ifCond .ne 5, 3) := by decide +kernel
theorem dX10_goes_113 : decode cX10_goes 113 = .ok (.iconst 0, 1) := by decide +kernel
theorem dX10_goes_114 : decode cX10_goes 114 = .ok (.ireturn, 1) := by decide +kernel
theorem dX10_goes_115 : decode cX10_goes 115 = .ok (.aload_n 0, 1) := by decide +kernel
theorem dX10_goes_116 : decode cX10_goes 116 = .ok (.getfield 90, 3) := by decide +kernel
theorem dX10_goes_119 : decode cX10_goes 119 = .ok (.iconst 3, 1) := by decide +kernel
theorem dX10_goes_120 : decode cX10_goes 120 = .ok (.if_icmp .ne 24, 3) := by decide +kernel
theorem dX10_goes_123 : decode cX10_goes 123 = .ok (.aload_n 0, 1) := by decide +kernel
theorem dX10_goes_124 : decode cX10_goes 124 = .ok (.dup, 1) := by decide +kernel
theorem dX10_goes_125 : decode cX10_goes 125 = .ok (.getfield 98, 3) := by decide +kernel
theorem dX10_goes_128 : decode cX10_goes 128 = .ok (.iconst 1, 1) := by decide +kernel
theorem dX10_goes_129 : decode cX10_goes 129 = .ok (.iadd, 1) := by decide +kernel
theorem dX10_goes_130 : decode cX10_goes 130 = .ok (.putfield 98, 3) := by decide +kernel
theorem dX10_goes_133 : decode cX10_goes 133 = .ok (.aload_n 0, 1) := by decide +kernel
theorem dX10_goes_134 : decode cX10_goes 134 = .ok (.getfield 98, 3) := by decide +kernel
theorem dX10_goes_137 : decode cX10_goes 137 = .ok (.iconst 2, 1) := by decide +kernel
theorem dX10_goes_138 : decode cX10_goes 138 = .ok (.irem, 1) := by decide +kernel
theorem dX10_goes_139 : decode cX10_goes 139 = .ok (.ifCond .ne 5, 3) := by decide +kernel
theorem dX10_goes_142 : decode cX10_goes 142 = .ok (.iconst 0, 1) := by decide +kernel
theorem dX10_goes_143 : decode cX10_goes 143 = .ok (.ireturn, 1) := by decide +kernel
theorem dX10_goes_144 : decode cX10_goes 144 = .ok (.aload_n 0, 1) := by decide +kernel
theorem dX10_goes_145 : decode cX10_goes 145 = .ok (.invokevirtual 132, 3) := by decide +kernel
theorem dX10_goes_148 : decode cX10_goes 148 = .ok (.istore_n 1, 1) := by decide +kernel
theorem dX10_goes_149 : decode cX10_goes 149 = .ok (.aload_n 0, 1) := by decide +kernel
theorem dX10_goes_150 : decode cX10_goes 150 = .ok (.iload_n 1, 1) := by decide +kernel
theorem dX10_goes_151 : decode cX10_goes 151 = .ok (.invokevirtual 136, 3) := by decide +kernel
theorem dX10_goes_154 : decode cX10_goes 154 = .ok (.aload_n 0, 1) := by decide +kernel
theorem dX10_goes_155 : decode cX10_goes 155 = .ok (.aload_n 0, 1) := by decide +kernel
theorem dX10_goes_156 : decode cX10_goes 156 = .ok (.getfield 90, 3) := by decide +kernel
theorem dX10_goes_159 : decode cX10_goes 159 = .ok (.iconst 1, 1) := by decide +kernel
theorem dX10_goes_160 : decode cX10_goes 160 = .ok (.if_icmp .ne 11, 3) := by decide +kernel
theorem dX10_goes_163 : decode cX10_goes 163 = .ok (.iload_n 1, 1) := by decide +kernel
theorem dX10_goes_164 : decode cX10_goes 164 = .ok (.ifCond .le 7, 3) := by decide +kernel
theorem dX10_goes_167 : decode cX10_goes 167 = .ok (.iconst 2, 1) := by decide +kernel
theorem dX10_goes_168 : decode cX10_goes 168 = .ok (.goto 7, 3) := by decide +kernel
theorem dX10_goes_171 : decode cX10_goes 171 = .ok (.aload_n 0, 1) := by decide +kernel
theorem dX10_goes_172 : decode cX10_goes 172 = .ok (.getfield 90, 3) := by decide +kernel
theorem dX10_goes_175 : decode cX10_goes 175 = .ok (.putfield 90, 3) := by decide +kernel
theorem dX10_goes_178 : decode cX10_goes 178 = .ok (.aload_n 0, 1) := by decide +kernel
theorem dX10_goes_179 : decode cX10_goes 179 = .ok (.invokevirtual 139, 3) := by decide +kernel
theorem dX10_goes_182 : decode cX10_goes 182 = .ok (.aload_n 0, 1) := by decide +kernel
theorem dX10_goes_183 : decode cX10_goes 183 = .ok (.getfield 93, 3) := by decide +kernel
theorem dX10_goes_186 : decode cX10_goes 186 = .ok (.aload_n 0, 1) := by decide +kernel
theorem dX10_goes_187 : decode cX10_goes 187 = .ok (.getfield 32, 3) := by decide +kernel
theorem dX10_goes_190 : decode cX10_goes 190 = .ok (.iconst 3, 1) := by decide +kernel
theorem dX10_goes_191 : decode cX10_goes 191 = .ok (.iaload, 1) := by decide +kernel
theorem dX10_goes_192 : decode cX10_goes 192 = .ok (.if_icmp .lt 7, 3) := by decide +kernel
theorem dX10_goes_195 : decode cX10_goes 195 = .ok (.aload_n 0, 1) := by decide +kernel
theorem dX10_goes_196 : decode cX10_goes 196 = .ok (.invokevirtual 111, 3) := by decide +kernel
theorem dX10_goes_199 : decode cX10_goes 199 = .ok (.iload_n 1, 1) := by decide +kernel
theorem dX10_goes_200 : decode cX10_goes 200 = .ok (.ireturn, 1) := by decide +kernel
theorem dX10_tick_0 : decode cX10_tick 0 = .ok (.aload_n 0, 1) := by decide +kernel
theorem dX10_tick_1 : decode cX10_tick 1 = .ok (.iconst 0, 1) := by decide +kernel
theorem dX10_tick_2 : decode cX10_tick 2 = .ok (.putfield 64, 3) := by decide +kernel
theorem dX10_tick_5 : decode cX10_tick 5 = .ok (.iload_n 1, 1) := by decide +kernel
theorem dX10_tick_6 : decode cX10_tick 6 = .ok (.iconst 1, 1) := by decide +kernel
theorem dX10_tick_7 : decode cX10_tick 7 = .ok (.bipush 60, 2) := by decide +kernel
theorem dX10_tick_9 : decode cX10_tick 9 = .ok (.invokestatic 70, 3) := by decide +kernel
theorem dX10_tick_12 : decode cX10_tick 12 = .ok (.ifCond .ne 5, 3) := by decide +kernel
theorem dX10_tick_15 : decode cX10_tick 15 = .ok (.iconst (-1), 1) := by decide +kernel
theorem dX10_tick_16 : decode cX10_tick 16 = .ok (.ireturn, 1) := by decide +kernel
theorem dX10_tick_17 : decode cX10_tick 17 = .ok (.iconst 0, 1) := by decide +kernel
theorem dX10_tick_18 : decode cX10_tick 18 = .ok (.istore_n 2, 1) := by decide +kernel
theorem dX10_tick_19 : decode cX10_tick 19 = .ok (.iconst 0, 1) := by decide +kernel
theorem dX10_tick_20 : decode cX10_tick 20 = .ok (.istore_n 3, 1) := by decide +kernel
theorem dX10_tick_21 : decode cX10_tick 21 = .ok (.iload_n 3, 1) := by decide +kernel
theorem dX10_tick_22 : decode cX10_tick 22 = .ok (.iload_n 1, 1) := by decide +kernel
theorem dX10_tick_23 : decode cX10_tick 23 = .ok (.if_icmp .ge 16, 3) := by decide +kernel
theorem dX10_tick_26 : decode cX10_tick 26 = .ok (.iload_n 2, 1) := by decide +kernel
theorem dX10_tick_27 : decode cX10_tick 27 = .ok (.aload_n 0, 1) := by decide +kernel
theorem dX10_tick_28 : decode cX10_tick 28 = .ok (.invokevirtual 142, 3) := by decide +kernel
theorem dX10_tick_31 : decode cX10_tick 31 = .ok (.iadd, 1) := by decide +kernel
theorem dX10_tick_32 : decode cX10_tick 32 = .ok (.istore_n 2, 1) := by decide +kernel
theorem dX10_tick_33 : decode cX10_tick 33 = .ok (.iinc 3 1, 3) := by decide +kernel
theorem dX10_tick_36 : decode cX10_tick 36 = .ok (.goto (-15), 3) := by decide +kernel
theorem dX10_tick_39 : decode cX10_tick 39 = .ok (.iload_n 2, 1) := by decide +kernel
theorem dX10_tick_40 : decode cX10_tick 40 = .ok (.ireturn, 1) := by decide +kernel
theorem dX10_adsorber_0 : decode cX10_adsorber 0 = .ok (.aload_n 0, 1) := by decide +kernel
theorem dX10_adsorber_1 : decode cX10_adsorber 1 = .ok (.iconst 0, 1) := by decide +kernel
theorem dX10_adsorber_2 : decode cX10_adsorber 2 = .ok (.putfield 64, 3) := by decide +kernel
theorem dX10_adsorber_5 : decode cX10_adsorber 5 = .ok (.iload_n 1, 1) := by decide +kernel
theorem dX10_adsorber_6 : decode cX10_adsorber 6 = .ok (.iconst 0, 1) := by decide +kernel
theorem dX10_adsorber_7 : decode cX10_adsorber 7 = .ok (.iconst 1, 1) := by decide +kernel
theorem dX10_adsorber_8 : decode cX10_adsorber 8 = .ok (.invokestatic 70, 3) := by decide +kernel
theorem dX10_adsorber_11 : decode cX10_adsorber 11 = .ok (.ifCond .eq 12, 3) := by decide +kernel
theorem dX10_adsorber_14 : decode cX10_adsorber 14 = .ok (.iload_n 2, 1) := by decide +kernel
theorem dX10_adsorber_15 : decode cX10_adsorber 15 = .ok (.iconst 0, 1) := by decide +kernel
theorem dX10_adsorber_16 : decode cX10_adsorber 16 = .ok (.iconst 2, 1) := by decide +kernel
theorem dX10_adsorber_17 : decode cX10_adsorber 17 = .ok (.invokestatic 70, 3) := by decide +kernel
theorem dX10_adsorber_20 : decode cX10_adsorber 20 = .ok (.ifCond .ne 5, 3) := by decide +kernel
theorem dX10_adsorber_23 : decode cX10_adsorber 23 = .ok (.iconst (-1), 1) := by decide +kernel
theorem dX10_adsorber_24 : decode cX10_adsorber 24 = .ok (.ireturn, 1) := by decide +kernel
theorem dX10_adsorber_25 : decode cX10_adsorber 25 = .ok (.iload_n 2, 1) := by decide +kernel
theorem dX10_adsorber_26 : decode cX10_adsorber 26 = .ok (.ifCond .ne 12, 3) := by decide +kernel
theorem dX10_adsorber_29 : decode cX10_adsorber 29 = .ok (.aload_n 0, 1) := by decide +kernel
theorem dX10_adsorber_30 : decode cX10_adsorber 30 = .ok (.getfield 39, 3) := by decide +kernel
theorem dX10_adsorber_33 : decode cX10_adsorber 33 = .ok (.iload_n 1, 1) := by decide +kernel
theorem dX10_adsorber_34 : decode cX10_adsorber 34 = .ok (.iaload, 1) := by decide +kernel
theorem dX10_adsorber_35 : decode cX10_adsorber 35 = .ok (.goto 23, 3) := by decide +kernel
theorem dX10_adsorber_38 : decode cX10_adsorber 38 = .ok (.iload_n 2, 1) := by decide +kernel
theorem dX10_adsorber_39 : decode cX10_adsorber 39 = .ok (.iconst 1, 1) := by decide +kernel
theorem dX10_adsorber_40 : decode cX10_adsorber 40 = .ok (.if_icmp .ne 12, 3) := by decide +kernel
theorem dX10_adsorber_43 : decode cX10_adsorber 43 = .ok (.aload_n 0, 1) := by decide +kernel
theorem dX10_adsorber_44 : decode cX10_adsorber 44 = .ok (.getfield 42, 3) := by decide +kernel
theorem dX10_adsorber_47 : decode cX10_adsorber 47 = .ok (.iload_n 1, 1) := by decide +kernel
theorem dX10_adsorber_48 : decode cX10_adsorber 48 = .ok (.iaload, 1) := by decide +kernel
theorem dX10_adsorber_49 : decode cX10_adsorber 49 = .ok (.goto 9, 3) := by decide +kernel
theorem dX10_adsorber_52 : decode cX10_adsorber 52 = .ok (.aload_n 0, 1) := by decide +kernel
theorem dX10_adsorber_53 : decode cX10_adsorber 53 = .ok (.getfield 45, 3) := by decide +kernel
theorem dX10_adsorber_56 : decode cX10_adsorber 56 = .ok (.iload_n 1, 1) := by decide +kernel
theorem dX10_adsorber_57 : decode cX10_adsorber 57 = .ok (.iaload, 1) := by decide +kernel
theorem dX10_adsorber_58 : decode cX10_adsorber 58 = .ok (.ireturn, 1) := by decide +kernel
theorem dX10_valve_0 : decode cX10_valve 0 = .ok (.aload_n 0, 1) := by decide +kernel
theorem dX10_valve_1 : decode cX10_valve 1 = .ok (.iconst 0, 1) := by decide +kernel
theorem dX10_valve_2 : decode cX10_valve 2 = .ok (.putfield 64, 3) := by decide +kernel
theorem dX10_valve_5 : decode cX10_valve 5 = .ok (.iload_n 1, 1) := by decide +kernel
theorem dX10_valve_6 : decode cX10_valve 6 = .ok (.ifCond .ne 18, 3) := by decide +kernel
theorem dX10_valve_9 : decode cX10_valve 9 = .ok (.aload_n 0, 1) := by decide +kernel
theorem dX10_valve_10 : decode cX10_valve 10 = .ok (.getfield 104, 3) := by decide +kernel
theorem dX10_valve_13 : decode cX10_valve 13 = .ok (.ifCond .eq 7, 3) := by decide +kernel
theorem dX10_valve_16 : decode cX10_valve 16 = .ok (.iconst 1, 1) := by decide +kernel
theorem dX10_valve_17 : decode cX10_valve 17 = .ok (.goto 48, 3) := by decide +kernel
theorem dX10_valve_20 : decode cX10_valve 20 = .ok (.iconst 0, 1) := by decide +kernel
theorem dX10_valve_21 : decode cX10_valve 21 = .ok (.goto 44, 3) := by decide +kernel
theorem dX10_valve_24 : decode cX10_valve 24 = .ok (.iload_n 1, 1) := by decide +kernel
theorem dX10_valve_25 : decode cX10_valve 25 = .ok (.iconst 1, 1) := by decide +kernel
theorem dX10_valve_26 : decode cX10_valve 26 = .ok (.if_icmp .ne 18, 3) := by decide +kernel
theorem dX10_valve_29 : decode cX10_valve 29 = .ok (.aload_n 0, 1) := by decide +kernel
theorem dX10_valve_30 : decode cX10_valve 30 = .ok (.getfield 108, 3) := by decide +kernel
theorem dX10_valve_33 : decode cX10_valve 33 = .ok (.ifCond .eq 7, 3) := by decide +kernel
theorem dX10_valve_36 : decode cX10_valve 36 = .ok (.iconst 1, 1) := by decide +kernel
theorem dX10_valve_37 : decode cX10_valve 37 = .ok (.goto 28, 3) := by decide +kernel
theorem dX10_valve_40 : decode cX10_valve 40 = .ok (.iconst 0, 1) := by decide +kernel
theorem dX10_valve_41 : decode cX10_valve 41 = .ok (.goto 24, 3) := by decide +kernel
theorem dX10_valve_44 : decode cX10_valve 44 = .ok (.iload_n 1, 1) := by decide +kernel
theorem dX10_valve_45 : decode cX10_valve 45 = .ok (.iconst 2, 1) := by decide +kernel
theorem dX10_valve_46 : decode cX10_valve 46 = .ok (.if_icmp .ne 18, 3) := by decide +kernel
theorem dX10_valve_49 : decode cX10_valve 49 = .ok (.aload_n 0, 1) := by decide +kernel
theorem dX10_valve_50 : decode cX10_valve 50 = .ok (.getfield 113, 3) := by decide +kernel
theorem dX10_valve_53 : decode cX10_valve 53 = .ok (.ifCond .eq 7, 3) := by decide +kernel
theorem dX10_valve_56 : decode cX10_valve 56 = .ok (.iconst 1, 1) := by decide +kernel
theorem dX10_valve_57 : decode cX10_valve 57 = .ok (.goto 8, 3) := by decide +kernel
theorem dX10_valve_60 : decode cX10_valve 60 = .ok (.iconst 0, 1) := by decide +kernel
theorem dX10_valve_61 : decode cX10_valve 61 = .ok (.goto 4, 3) := by decide +kernel
theorem dX10_valve_64 : decode cX10_valve 64 = .ok (.iconst (-1), 1) := by decide +kernel
theorem dX10_valve_65 : decode cX10_valve 65 = .ok (.ireturn, 1) := by decide +kernel
theorem dX10_order_0 : decode cX10_order 0 = .ok (.aload_n 0, 1) := by decide +kernel
theorem dX10_order_1 : decode cX10_order 1 = .ok (.iconst 0, 1) := by decide +kernel
theorem dX10_order_2 : decode cX10_order 2 = .ok (.putfield 64, 3) := by decide +kernel
theorem dX10_order_5 : decode cX10_order 5 = .ok (.iload_n 1, 1) := by decide +kernel
theorem dX10_order_6 : decode cX10_order 6 = .ok (.iconst 1, 1) := by decide +kernel
theorem dX10_order_7 : decode cX10_order 7 = .ok (.sipush 500, 3) := by decide +kernel
theorem dX10_order_10 : decode cX10_order 10 = .ok (.invokestatic 70, 3) := by decide +kernel
theorem dX10_order_13 : decode cX10_order 13 = .ok (.ifCond .eq 13, 3) := by decide +kernel
theorem dX10_order_16 : decode cX10_order 16 = .ok (.iload_n 2, 1) := by decide +kernel
theorem dX10_order_17 : decode cX10_order 17 = .ok (.iconst 0, 1) := by decide +kernel
theorem dX10_order_18 : decode cX10_order 18 = .ok (.bipush 9, 2) := by decide +kernel
theorem dX10_order_20 : decode cX10_order 20 = .ok (.invokestatic 70, 3) := by decide +kernel
theorem dX10_order_23 : decode cX10_order 23 = .ok (.ifCond .ne 5, 3) := by decide +kernel
theorem dX10_order_26 : decode cX10_order 26 = .ok (.iconst (-1), 1) := by decide +kernel
theorem dX10_order_27 : decode cX10_order 27 = .ok (.ireturn, 1) := by decide +kernel
theorem dX10_order_28 : decode cX10_order 28 = .ok (.aload_n 0, 1) := by decide +kernel
theorem dX10_order_29 : decode cX10_order 29 = .ok (.getfield 145, 3) := by decide +kernel
theorem dX10_order_32 : decode cX10_order 32 = .ok (.bipush 8, 2) := by decide +kernel
theorem dX10_order_34 : decode cX10_order 34 = .ok (.if_icmp .ne 6, 3) := by decide +kernel
theorem dX10_order_37 : decode cX10_order 37 = .ok (.bipush (-3), 2) := by decide +kernel
theorem dX10_order_39 : decode cX10_order 39 = .ok (.ireturn, 1) := by decide +kernel
theorem dX10_order_40 : decode cX10_order 40 = .ok (.aload_n 0, 1) := by decide +kernel
theorem dX10_order_41 : decode cX10_order 41 = .ok (.getfield 48, 3) := by decide +kernel
theorem dX10_order_44 : decode cX10_order 44 = .ok (.aload_n 0, 1) := by decide +kernel
theorem dX10_order_45 : decode cX10_order 45 = .ok (.getfield 145, 3) := by decide +kernel
theorem dX10_order_48 : decode cX10_order 48 = .ok (.iload_n 1, 1) := by decide +kernel
theorem dX10_order_49 : decode cX10_order 49 = .ok (.iastore, 1) := by decide +kernel
theorem dX10_order_50 : decode cX10_order 50 = .ok (.aload_n 0, 1) := by decide +kernel
theorem dX10_order_51 : decode cX10_order 51 = .ok (.getfield 51, 3) := by decide +kernel
theorem dX10_order_54 : decode cX10_order 54 = .ok (.aload_n 0, 1) := by decide +kernel
theorem dX10_order_55 : decode cX10_order 55 = .ok (.getfield 145, 3) := by decide +kernel
theorem dX10_order_58 : decode cX10_order 58 = .ok (.iload_n 2, 1) := by decide +kernel
theorem dX10_order_59 : decode cX10_order 59 = .ok (.iastore, 1) := by decide +kernel
theorem dX10_order_60 : decode cX10_order 60 = .ok (.aload_n 0, 1) := by decide +kernel
theorem dX10_order_61 : decode cX10_order 61 = .ok (.getfield 54, 3) := by decide +kernel
theorem dX10_order_64 : decode cX10_order 64 = .ok (.aload_n 0, 1) := by decide +kernel
theorem dX10_order_65 : decode cX10_order 65 = .ok (.getfield 145, 3) := by decide +kernel
theorem dX10_order_68 : decode cX10_order 68 = .ok (.iconst 0, 1) := by decide +kernel
theorem dX10_order_69 : decode cX10_order 69 = .ok (.iastore, 1) := by decide +kernel
theorem dX10_order_70 : decode cX10_order 70 = .ok (.aload_n 0, 1) := by decide +kernel
theorem dX10_order_71 : decode cX10_order 71 = .ok (.dup, 1) := by decide +kernel
theorem dX10_order_72 : decode cX10_order 72 = .ok (.getfield 145, 3) := by decide +kernel
theorem dX10_order_75 : decode cX10_order 75 = .ok (.iconst 1, 1) := by decide +kernel
theorem dX10_order_76 : decode cX10_order 76 = .ok (.iadd, 1) := by decide +kernel
theorem dX10_order_77 : decode cX10_order 77 = .ok (.putfield 145, 3) := by decide +kernel
theorem dX10_order_80 : decode cX10_order 80 = .ok (.aload_n 0, 1) := by decide +kernel
theorem dX10_order_81 : decode cX10_order 81 = .ok (.getfield 145, 3) := by decide +kernel
theorem dX10_order_84 : decode cX10_order 84 = .ok (.iconst 1, 1) := by decide +kernel
theorem dX10_order_85 : decode cX10_order 85 = .ok (.isub, 1) := by decide +kernel
theorem dX10_order_86 : decode cX10_order 86 = .ok (.ireturn, 1) := by decide +kernel
theorem dX10_deliver_0 : decode cX10_deliver 0 = .ok (.aload_n 0, 1) := by decide +kernel
theorem dX10_deliver_1 : decode cX10_deliver 1 = .ok (.iconst 0, 1) := by decide +kernel
theorem dX10_deliver_2 : decode cX10_deliver 2 = .ok (.putfield 64, 3) := by decide +kernel
theorem dX10_deliver_5 : decode cX10_deliver 5 = .ok (.aload_n 0, 1) := by decide +kernel
theorem dX10_deliver_6 : decode cX10_deliver 6 = .ok (.getfield 148, 3) := by decide +kernel
theorem dX10_deliver_9 : decode cX10_deliver 9 = .ok (.bipush 10, 2) := by decide +kernel
theorem dX10_deliver_11 : decode cX10_deliver 11 = .ok (.if_icmp .ne 6, 3) := by decide +kernel
theorem dX10_deliver_14 : decode cX10_deliver 14 = .ok (.bipush (-2), 2) := by decide +kernel
theorem dX10_deliver_16 : decode cX10_deliver 16 = .ok (.ireturn, 1) := by decide +kernel
theorem dX10_deliver_17 : decode cX10_deliver 17 = .ok (.iconst 0, 1) := by decide +kernel
theorem dX10_deliver_18 : decode cX10_deliver 18 = .ok (.istore_n 1, 1) := by decide +kernel
theorem dX10_deliver_19 : decode cX10_deliver 19 = .ok (.iconst 0, 1) := by decide +kernel
theorem dX10_deliver_20 : decode cX10_deliver 20 = .ok (.istore_n 2, 1) := by decide +kernel
theorem dX10_deliver_21 : decode cX10_deliver 21 = .ok (.iload_n 2, 1) := by decide +kernel
theorem dX10_deliver_22 : decode cX10_deliver 22 = .ok (.aload_n 0, 1) := by decide +kernel
theorem dX10_deliver_23 : decode cX10_deliver 23 = .ok (.getfield 145, 3) := by decide +kernel
theorem dX10_deliver_26 : decode cX10_deliver 26 = .ok (.if_icmp .ge 105, 3) := by decide +kernel
theorem dX10_deliver_29 : decode cX10_deliver 29 = .ok (.aload_n 0, 1) := by decide +kernel
theorem dX10_deliver_30 : decode cX10_deliver 30 = .ok (.getfield 51, 3) := by decide +kernel
theorem dX10_deliver_33 : decode cX10_deliver 33 = .ok (.iload_n 2, 1) := by decide +kernel
theorem dX10_deliver_34 : decode cX10_deliver 34 = .ok (.iaload, 1) := by decide +kernel
theorem dX10_deliver_35 : decode cX10_deliver 35 = .ok (.aload_n 0, 1) := by decide +kernel
theorem dX10_deliver_36 : decode cX10_deliver 36 = .ok (.getfield 148, 3) := by decide +kernel
theorem dX10_deliver_39 : decode cX10_deliver 39 = .ok (.if_icmp .ne 86, 3) := by decide +kernel
theorem dX10_deliver_42 : decode cX10_deliver 42 = .ok (.aload_n 0, 1) := by decide +kernel
theorem dX10_deliver_43 : decode cX10_deliver 43 = .ok (.getfield 54, 3) := by decide +kernel
theorem dX10_deliver_46 : decode cX10_deliver 46 = .ok (.iload_n 2, 1) := by decide +kernel
theorem dX10_deliver_47 : decode cX10_deliver 47 = .ok (.iaload, 1) := by decide +kernel
theorem dX10_deliver_48 : decode cX10_deliver 48 = .ok (.ifCond .ne 77, 3) := by decide +kernel
theorem dX10_deliver_51 : decode cX10_deliver 51 = .ok (.aload_n 0, 1) := by decide +kernel
theorem dX10_deliver_52 : decode cX10_deliver 52 = .ok (.getfield 93, 3) := by decide +kernel
theorem dX10_deliver_55 : decode cX10_deliver 55 = .ok (.aload_n 0, 1) := by decide +kernel
theorem dX10_deliver_56 : decode cX10_deliver 56 = .ok (.getfield 48, 3) := by decide +kernel
theorem dX10_deliver_59 : decode cX10_deliver 59 = .ok (.iload_n 2, 1) := by decide +kernel
theorem dX10_deliver_60 : decode cX10_deliver 60 = .ok (.iaload, 1) := by decide +kernel
theorem dX10_deliver_61 : decode cX10_deliver 61 = .ok (.if_icmp .lt 47, 3) := by decide +kernel
theorem dX10_deliver_64 : decode cX10_deliver 64 = .ok (.aload_n 0, 1) := by decide +kernel
theorem dX10_deliver_65 : decode cX10_deliver 65 = .ok (.dup, 1) := by decide +kernel
theorem dX10_deliver_66 : decode cX10_deliver 66 = .ok (.getfield 93, 3) := by decide +kernel
theorem dX10_deliver_69 : decode cX10_deliver 69 = .ok (.aload_n 0, 1) := by decide +kernel
theorem dX10_deliver_70 : decode cX10_deliver 70 = .ok (.getfield 48, 3) := by decide +kernel
theorem dX10_deliver_73 : decode cX10_deliver 73 = .ok (.iload_n 2, 1) := by decide +kernel
theorem dX10_deliver_74 : decode cX10_deliver 74 = .ok (.iaload, 1) := by decide +kernel
theorem dX10_deliver_75 : decode cX10_deliver 75 = .ok (.isub, 1) := by decide +kernel
theorem dX10_deliver_76 : decode cX10_deliver 76 = .ok (.putfield 93, 3) := by decide +kernel
theorem dX10_deliver_79 : decode cX10_deliver 79 = .ok (.aload_n 0, 1) := by decide +kernel
theorem dX10_deliver_80 : decode cX10_deliver 80 = .ok (.dup, 1) := by decide +kernel
theorem dX10_deliver_81 : decode cX10_deliver 81 = .ok (.getfield 151, 3) := by decide +kernel
theorem dX10_deliver_84 : decode cX10_deliver 84 = .ok (.aload_n 0, 1) := by decide +kernel
theorem dX10_deliver_85 : decode cX10_deliver 85 = .ok (.getfield 48, 3) := by decide +kernel
theorem dX10_deliver_88 : decode cX10_deliver 88 = .ok (.iload_n 2, 1) := by decide +kernel
theorem dX10_deliver_89 : decode cX10_deliver 89 = .ok (.iaload, 1) := by decide +kernel
theorem dX10_deliver_90 : decode cX10_deliver 90 = .ok (.i2l, 1) := by decide +kernel
theorem dX10_deliver_91 : decode cX10_deliver 91 = .ok (.ladd, 1) := by decide +kernel
theorem dX10_deliver_92 : decode cX10_deliver 92 = .ok (.putfield 151, 3) := by decide +kernel
theorem dX10_deliver_95 : decode cX10_deliver 95 = .ok (.aload_n 0, 1) := by decide +kernel
theorem dX10_deliver_96 : decode cX10_deliver 96 = .ok (.getfield 54, 3) := by decide +kernel
theorem dX10_deliver_99 : decode cX10_deliver 99 = .ok (.iload_n 2, 1) := by decide +kernel
theorem dX10_deliver_100 : decode cX10_deliver 100 = .ok (.iconst 1, 1) := by decide +kernel
theorem dX10_deliver_101 : decode cX10_deliver 101 = .ok (.iastore, 1) := by decide +kernel
theorem dX10_deliver_102 : decode cX10_deliver 102 = .ok (.iinc 1 1, 3) := by decide +kernel
theorem dX10_deliver_105 : decode cX10_deliver 105 = .ok (.goto 20, 3) := by decide +kernel
theorem dX10_deliver_108 : decode cX10_deliver 108 = .ok (.aload_n 0, 1) := by decide +kernel
theorem dX10_deliver_109 : decode cX10_deliver 109 = .ok (.getfield 54, 3) := by decide +kernel
theorem dX10_deliver_112 : decode cX10_deliver 112 = .ok (.iload_n 2, 1) := by decide +kernel
theorem dX10_deliver_113 : decode cX10_deliver 113 = .ok (.iconst 2, 1) := by decide +kernel
theorem dX10_deliver_114 : decode cX10_deliver 114 = .ok (.iastore, 1) := by decide +kernel
theorem dX10_deliver_115 : decode cX10_deliver 115 = .ok (.aload_n 0, 1) := by decide +kernel
theorem dX10_deliver_116 : decode cX10_deliver 116 = .ok (.dup, 1) := by decide +kernel
theorem dX10_deliver_117 : decode cX10_deliver 117 = .ok (.getfield 154, 3) := by decide +kernel
theorem dX10_deliver_120 : decode cX10_deliver 120 = .ok (.iconst 1, 1) := by decide +kernel
theorem dX10_deliver_121 : decode cX10_deliver 121 = .ok (.iadd, 1) := by decide +kernel
theorem dX10_deliver_122 : decode cX10_deliver 122 = .ok (.putfield 154, 3) := by decide +kernel
theorem dX10_deliver_125 : decode cX10_deliver 125 = .ok (.iinc 2 1, 3) := by decide +kernel
theorem dX10_deliver_128 : decode cX10_deliver 128 = .ok (.goto (-107), 3) := by decide +kernel
theorem dX10_deliver_131 : decode cX10_deliver 131 = .ok (.aload_n 0, 1) := by decide +kernel
theorem dX10_deliver_132 : decode cX10_deliver 132 = .ok (.dup, 1) := by decide +kernel
theorem dX10_deliver_133 : decode cX10_deliver 133 = .ok (.getfield 148, 3) := by decide +kernel
theorem dX10_deliver_136 : decode cX10_deliver 136 = .ok (.iconst 1, 1) := by decide +kernel
theorem dX10_deliver_137 : decode cX10_deliver 137 = .ok (.iadd, 1) := by decide +kernel
theorem dX10_deliver_138 : decode cX10_deliver 138 = .ok (.putfield 148, 3) := by decide +kernel
theorem dX10_deliver_141 : decode cX10_deliver 141 = .ok (.iload_n 1, 1) := by decide +kernel
theorem dX10_deliver_142 : decode cX10_deliver 142 = .ok (.ireturn, 1) := by decide +kernel
theorem dX10_about_0 : decode cX10_about 0 = .ok (.aload_n 0, 1) := by decide +kernel
theorem dX10_about_1 : decode cX10_about 1 = .ok (.iconst 0, 1) := by decide +kernel
theorem dX10_about_2 : decode cX10_about 2 = .ok (.putfield 64, 3) := by decide +kernel
theorem dX10_about_5 : decode cX10_about 5 = .ok (.iload_n 1, 1) := by decide +kernel
theorem dX10_about_6 : decode cX10_about 6 = .ok (.iconst 0, 1) := by decide +kernel
theorem dX10_about_7 : decode cX10_about 7 = .ok (.aload_n 0, 1) := by decide +kernel
theorem dX10_about_8 : decode cX10_about 8 = .ok (.getfield 145, 3) := by decide +kernel
theorem dX10_about_11 : decode cX10_about 11 = .ok (.iconst 1, 1) := by decide +kernel
theorem dX10_about_12 : decode cX10_about 12 = .ok (.isub, 1) := by decide +kernel
theorem dX10_about_13 : decode cX10_about 13 = .ok (.invokestatic 70, 3) := by decide +kernel
theorem dX10_about_16 : decode cX10_about 16 = .ok (.ifCond .eq 12, 3) := by decide +kernel
theorem dX10_about_19 : decode cX10_about 19 = .ok (.iload_n 2, 1) := by decide +kernel
theorem dX10_about_20 : decode cX10_about 20 = .ok (.iconst 0, 1) := by decide +kernel
theorem dX10_about_21 : decode cX10_about 21 = .ok (.iconst 2, 1) := by decide +kernel
theorem dX10_about_22 : decode cX10_about 22 = .ok (.invokestatic 70, 3) := by decide +kernel
theorem dX10_about_25 : decode cX10_about 25 = .ok (.ifCond .ne 5, 3) := by decide +kernel
theorem dX10_about_28 : decode cX10_about 28 = .ok (.iconst (-1), 1) := by decide +kernel
theorem dX10_about_29 : decode cX10_about 29 = .ok (.ireturn, 1) := by decide +kernel
theorem dX10_about_30 : decode cX10_about 30 = .ok (.iload_n 2, 1) := by decide +kernel
theorem dX10_about_31 : decode cX10_about 31 = .ok (.ifCond .ne 12, 3) := by decide +kernel
theorem dX10_about_34 : decode cX10_about 34 = .ok (.aload_n 0, 1) := by decide +kernel
theorem dX10_about_35 : decode cX10_about 35 = .ok (.getfield 48, 3) := by decide +kernel
theorem dX10_about_38 : decode cX10_about 38 = .ok (.iload_n 1, 1) := by decide +kernel
theorem dX10_about_39 : decode cX10_about 39 = .ok (.iaload, 1) := by decide +kernel
theorem dX10_about_40 : decode cX10_about 40 = .ok (.goto 23, 3) := by decide +kernel
theorem dX10_about_43 : decode cX10_about 43 = .ok (.iload_n 2, 1) := by decide +kernel
theorem dX10_about_44 : decode cX10_about 44 = .ok (.iconst 1, 1) := by decide +kernel
theorem dX10_about_45 : decode cX10_about 45 = .ok (.if_icmp .ne 12, 3) := by decide +kernel
theorem dX10_about_48 : decode cX10_about 48 = .ok (.aload_n 0, 1) := by decide +kernel
theorem dX10_about_49 : decode cX10_about 49 = .ok (.getfield 51, 3) := by decide +kernel
theorem dX10_about_52 : decode cX10_about 52 = .ok (.iload_n 1, 1) := by decide +kernel
theorem dX10_about_53 : decode cX10_about 53 = .ok (.iaload, 1) := by decide +kernel
theorem dX10_about_54 : decode cX10_about 54 = .ok (.goto 9, 3) := by decide +kernel
theorem dX10_about_57 : decode cX10_about 57 = .ok (.aload_n 0, 1) := by decide +kernel
theorem dX10_about_58 : decode cX10_about 58 = .ok (.getfield 54, 3) := by decide +kernel
theorem dX10_about_61 : decode cX10_about 61 = .ok (.iload_n 1, 1) := by decide +kernel
theorem dX10_about_62 : decode cX10_about 62 = .ok (.iaload, 1) := by decide +kernel
theorem dX10_about_63 : decode cX10_about 63 = .ok (.ireturn, 1) := by decide +kernel
theorem dX10_back_0 : decode cX10_back 0 = .ok (.aload_n 0, 1) := by decide +kernel
theorem dX10_back_1 : decode cX10_back 1 = .ok (.iconst 0, 1) := by decide +kernel
theorem dX10_back_2 : decode cX10_back 2 = .ok (.putfield 64, 3) := by decide +kernel
theorem dX10_back_5 : decode cX10_back 5 = .ok (.iload_n 1, 1) := by decide +kernel
theorem dX10_back_6 : decode cX10_back 6 = .ok (.iconst 1, 1) := by decide +kernel
theorem dX10_back_7 : decode cX10_back 7 = .ok (.if_icmp .ge 5, 3) := by decide +kernel
theorem dX10_back_10 : decode cX10_back 10 = .ok (.iconst (-1), 1) := by decide +kernel
theorem dX10_back_11 : decode cX10_back 11 = .ok (.ireturn, 1) := by decide +kernel
theorem dX10_back_12 : decode cX10_back 12 = .ok (.iload_n 1, 1) := by decide +kernel
theorem dX10_back_13 : decode cX10_back 13 = .ok (.aload_n 0, 1) := by decide +kernel
theorem dX10_back_14 : decode cX10_back 14 = .ok (.getfield 119, 3) := by decide +kernel
theorem dX10_back_17 : decode cX10_back 17 = .ok (.if_icmp .gt 18, 3) := by decide +kernel
theorem dX10_back_20 : decode cX10_back 20 = .ok (.iload_n 1, 1) := by decide +kernel
theorem dX10_back_21 : decode cX10_back 21 = .ok (.aload_n 0, 1) := by decide +kernel
theorem dX10_back_22 : decode cX10_back 22 = .ok (.getfield 32, 3) := by decide +kernel
theorem dX10_back_25 : decode cX10_back 25 = .ok (.iconst 3, 1) := by decide +kernel
theorem dX10_back_26 : decode cX10_back 26 = .ok (.iaload, 1) := by decide +kernel
theorem dX10_back_27 : decode cX10_back 27 = .ok (.aload_n 0, 1) := by decide +kernel
theorem dX10_back_28 : decode cX10_back 28 = .ok (.getfield 93, 3) := by decide +kernel
theorem dX10_back_31 : decode cX10_back 31 = .ok (.isub, 1) := by decide +kernel
theorem dX10_back_32 : decode cX10_back 32 = .ok (.if_icmp .le 6, 3) := by decide +kernel
theorem dX10_back_35 : decode cX10_back 35 = .ok (.bipush (-2), 2) := by decide +kernel
theorem dX10_back_37 : decode cX10_back 37 = .ok (.ireturn, 1) := by decide +kernel
theorem dX10_back_38 : decode cX10_back 38 = .ok (.aload_n 0, 1) := by decide +kernel
theorem dX10_back_39 : decode cX10_back 39 = .ok (.dup, 1) := by decide +kernel
theorem dX10_back_40 : decode cX10_back 40 = .ok (.getfield 119, 3) := by decide +kernel
theorem dX10_back_43 : decode cX10_back 43 = .ok (.iload_n 1, 1) := by decide +kernel
theorem dX10_back_44 : decode cX10_back 44 = .ok (.isub, 1) := by decide +kernel
theorem dX10_back_45 : decode cX10_back 45 = .ok (.putfield 119, 3) := by decide +kernel
theorem dX10_back_48 : decode cX10_back 48 = .ok (.aload_n 0, 1) := by decide +kernel
theorem dX10_back_49 : decode cX10_back 49 = .ok (.dup, 1) := by decide +kernel
theorem dX10_back_50 : decode cX10_back 50 = .ok (.getfield 93, 3) := by decide +kernel
theorem dX10_back_53 : decode cX10_back 53 = .ok (.iload_n 1, 1) := by decide +kernel
theorem dX10_back_54 : decode cX10_back 54 = .ok (.iadd, 1) := by decide +kernel
theorem dX10_back_55 : decode cX10_back 55 = .ok (.putfield 93, 3) := by decide +kernel
theorem dX10_back_58 : decode cX10_back 58 = .ok (.aload_n 0, 1) := by decide +kernel
theorem dX10_back_59 : decode cX10_back 59 = .ok (.getfield 93, 3) := by decide +kernel
theorem dX10_back_62 : decode cX10_back 62 = .ok (.ireturn, 1) := by decide +kernel
theorem dX10_lose_0 : decode cX10_lose 0 = .ok (.aload_n 0, 1) := by decide +kernel
theorem dX10_lose_1 : decode cX10_lose 1 = .ok (.iconst 0, 1) := by decide +kernel
theorem dX10_lose_2 : decode cX10_lose 2 = .ok (.putfield 64, 3) := by decide +kernel
theorem dX10_lose_5 : decode cX10_lose 5 = .ok (.iload_n 1, 1) := by decide +kernel
theorem dX10_lose_6 : decode cX10_lose 6 = .ok (.iconst 0, 1) := by decide +kernel
theorem dX10_lose_7 : decode cX10_lose 7 = .ok (.iconst 3, 1) := by decide +kernel
theorem dX10_lose_8 : decode cX10_lose 8 = .ok (.invokestatic 70, 3) := by decide +kernel
theorem dX10_lose_11 : decode cX10_lose 11 = .ok (.ifCond .ne 5, 3) := by decide +kernel
theorem dX10_lose_14 : decode cX10_lose 14 = .ok (.iconst (-1), 1) := by decide +kernel
theorem dX10_lose_15 : decode cX10_lose 15 = .ok (.ireturn, 1) := by decide +kernel
theorem dX10_lose_16 : decode cX10_lose 16 = .ok (.aload_n 0, 1) := by decide +kernel
theorem dX10_lose_17 : decode cX10_lose 17 = .ok (.getfield 57, 3) := by decide +kernel
theorem dX10_lose_20 : decode cX10_lose 20 = .ok (.iload_n 1, 1) := by decide +kernel
theorem dX10_lose_21 : decode cX10_lose 21 = .ok (.baload, 1) := by decide +kernel
theorem dX10_lose_22 : decode cX10_lose 22 = .ok (.ifCond .eq 7, 3) := by decide +kernel
theorem dX10_lose_25 : decode cX10_lose 25 = .ok (.iconst 1, 1) := by decide +kernel
theorem dX10_lose_26 : decode cX10_lose 26 = .ok (.goto 4, 3) := by decide +kernel
theorem dX10_lose_29 : decode cX10_lose 29 = .ok (.iconst 0, 1) := by decide +kernel
theorem dX10_lose_30 : decode cX10_lose 30 = .ok (.istore_n 3, 1) := by decide +kernel
theorem dX10_lose_31 : decode cX10_lose 31 = .ok (.aload_n 0, 1) := by decide +kernel
theorem dX10_lose_32 : decode cX10_lose 32 = .ok (.getfield 57, 3) := by decide +kernel
theorem dX10_lose_35 : decode cX10_lose 35 = .ok (.iload_n 1, 1) := by decide +kernel
theorem dX10_lose_36 : decode cX10_lose 36 = .ok (.iload_n 2, 1) := by decide +kernel
theorem dX10_lose_37 : decode cX10_lose 37 = .ok (.bastore, 1) := by decide +kernel
theorem dX10_lose_38 : decode cX10_lose 38 = .ok (.iload_n 3, 1) := by decide +kernel
theorem dX10_lose_39 : decode cX10_lose 39 = .ok (.ireturn, 1) := by decide +kernel
theorem dX10_reads_0 : decode cX10_reads 0 = .ok (.iload_n 1, 1) := by decide +kernel
theorem dX10_reads_1 : decode cX10_reads 1 = .ok (.ifCond .ne 10, 3) := by decide +kernel
theorem dX10_reads_4 : decode cX10_reads 4 = .ok (.aload_n 0, 1) := by decide +kernel
theorem dX10_reads_5 : decode cX10_reads 5 = .ok (.getfield 116, 3) := by decide +kernel
theorem dX10_reads_8 : decode cX10_reads 8 = .ok (.goto 38, 3) := by decide +kernel
theorem dX10_reads_11 : decode cX10_reads 11 = .ok (.iload_n 1, 1) := by decide +kernel
theorem dX10_reads_12 : decode cX10_reads 12 = .ok (.iconst 1, 1) := by decide +kernel
theorem dX10_reads_13 : decode cX10_reads 13 = .ok (.if_icmp .ne 10, 3) := by decide +kernel
theorem dX10_reads_16 : decode cX10_reads 16 = .ok (.aload_n 0, 1) := by decide +kernel
theorem dX10_reads_17 : decode cX10_reads 17 = .ok (.getfield 151, 3) := by decide +kernel
theorem dX10_reads_20 : decode cX10_reads 20 = .ok (.goto 26, 3) := by decide +kernel
theorem dX10_reads_23 : decode cX10_reads 23 = .ok (.iload_n 1, 1) := by decide +kernel
theorem dX10_reads_24 : decode cX10_reads 24 = .ok (.iconst 2, 1) := by decide +kernel
theorem dX10_reads_25 : decode cX10_reads 25 = .ok (.if_icmp .ne 10, 3) := by decide +kernel
theorem dX10_reads_28 : decode cX10_reads 28 = .ok (.aload_n 0, 1) := by decide +kernel
theorem dX10_reads_29 : decode cX10_reads 29 = .ok (.getfield 122, 3) := by decide +kernel
theorem dX10_reads_32 : decode cX10_reads 32 = .ok (.goto 14, 3) := by decide +kernel
theorem dX10_reads_35 : decode cX10_reads 35 = .ok (.aload_n 0, 1) := by decide +kernel
theorem dX10_reads_36 : decode cX10_reads 36 = .ok (.getfield 93, 3) := by decide +kernel
theorem dX10_reads_39 : decode cX10_reads 39 = .ok (.i2l, 1) := by decide +kernel
theorem dX10_reads_40 : decode cX10_reads 40 = .ok (.aload_n 0, 1) := by decide +kernel
theorem dX10_reads_41 : decode cX10_reads 41 = .ok (.getfield 119, 3) := by decide +kernel
theorem dX10_reads_44 : decode cX10_reads 44 = .ok (.i2l, 1) := by decide +kernel
theorem dX10_reads_45 : decode cX10_reads 45 = .ok (.ladd, 1) := by decide +kernel
theorem dX10_reads_46 : decode cX10_reads 46 = .ok (.lreturn, 1) := by decide +kernel
theorem dX10_meter_0 : decode cX10_meter 0 = .ok (.aload_n 0, 1) := by decide +kernel
theorem dX10_meter_1 : decode cX10_meter 1 = .ok (.iconst 0, 1) := by decide +kernel
theorem dX10_meter_2 : decode cX10_meter 2 = .ok (.putfield 64, 3) := by decide +kernel
theorem dX10_meter_5 : decode cX10_meter 5 = .ok (.iload_n 1, 1) := by decide +kernel
theorem dX10_meter_6 : decode cX10_meter 6 = .ok (.iconst 0, 1) := by decide +kernel
theorem dX10_meter_7 : decode cX10_meter 7 = .ok (.iconst 3, 1) := by decide +kernel
theorem dX10_meter_8 : decode cX10_meter 8 = .ok (.invokestatic 70, 3) := by decide +kernel
theorem dX10_meter_11 : decode cX10_meter 11 = .ok (.ifCond .ne 9, 3) := by decide +kernel
theorem dX10_meter_14 : decode cX10_meter 14 = .ok (.ldc2_w 96, 3) := by decide +kernel
theorem dX10_meter_17 : decode cX10_meter 17 = .ok (.goto 23, 3) := by decide +kernel
theorem dX10_meter_20 : decode cX10_meter 20 = .ok (.aload_n 0, 1) := by decide +kernel
theorem dX10_meter_21 : decode cX10_meter 21 = .ok (.getfield 57, 3) := by decide +kernel
theorem dX10_meter_24 : decode cX10_meter 24 = .ok (.iload_n 1, 1) := by decide +kernel
theorem dX10_meter_25 : decode cX10_meter 25 = .ok (.baload, 1) := by decide +kernel
theorem dX10_meter_26 : decode cX10_meter 26 = .ok (.ifCond .eq 9, 3) := by decide +kernel
theorem dX10_meter_29 : decode cX10_meter 29 = .ok (.ldc2_w 157, 3) := by decide +kernel
theorem dX10_meter_32 : decode cX10_meter 32 = .ok (.goto 8, 3) := by decide +kernel
theorem dX10_meter_35 : decode cX10_meter 35 = .ok (.aload_n 0, 1) := by decide +kernel
theorem dX10_meter_36 : decode cX10_meter 36 = .ok (.iload_n 1, 1) := by decide +kernel
theorem dX10_meter_37 : decode cX10_meter 37 = .ok (.invokevirtual 159, 3) := by decide +kernel
theorem dX10_meter_40 : decode cX10_meter 40 = .ok (.lreturn, 1) := by decide +kernel
theorem dX10_balance_0 : decode cX10_balance 0 = .ok (.aload_n 0, 1) := by decide +kernel
theorem dX10_balance_1 : decode cX10_balance 1 = .ok (.iconst 0, 1) := by decide +kernel
theorem dX10_balance_2 : decode cX10_balance 2 = .ok (.putfield 64, 3) := by decide +kernel
theorem dX10_balance_5 : decode cX10_balance 5 = .ok (.iload_n 1, 1) := by decide +kernel
theorem dX10_balance_6 : decode cX10_balance 6 = .ok (.iconst 0, 1) := by decide +kernel
theorem dX10_balance_7 : decode cX10_balance 7 = .ok (.iconst 3, 1) := by decide +kernel
theorem dX10_balance_8 : decode cX10_balance 8 = .ok (.invokestatic 70, 3) := by decide +kernel
theorem dX10_balance_11 : decode cX10_balance 11 = .ok (.ifCond .ne 7, 3) := by decide +kernel
theorem dX10_balance_14 : decode cX10_balance 14 = .ok (.ldc2_w 96, 3) := by decide +kernel
theorem dX10_balance_17 : decode cX10_balance 17 = .ok (.lreturn, 1) := by decide +kernel
theorem dX10_balance_18 : decode cX10_balance 18 = .ok (.iconst 0, 1) := by decide +kernel
theorem dX10_balance_19 : decode cX10_balance 19 = .ok (.istore_n 2, 1) := by decide +kernel
theorem dX10_balance_20 : decode cX10_balance 20 = .ok (.iconst 0, 1) := by decide +kernel
theorem dX10_balance_21 : decode cX10_balance 21 = .ok (.istore_n 3, 1) := by decide +kernel
theorem dX10_balance_22 : decode cX10_balance 22 = .ok (.iload_n 3, 1) := by decide +kernel
theorem dX10_balance_23 : decode cX10_balance 23 = .ok (.iconst 4, 1) := by decide +kernel
theorem dX10_balance_24 : decode cX10_balance 24 = .ok (.if_icmp .ge 31, 3) := by decide +kernel
theorem dX10_balance_27 : decode cX10_balance 27 = .ok (.iload_n 2, 1) := by decide +kernel
theorem dX10_balance_28 : decode cX10_balance 28 = .ok (.iload_n 3, 1) := by decide +kernel
theorem dX10_balance_29 : decode cX10_balance 29 = .ok (.iload_n 1, 1) := by decide +kernel
theorem dX10_balance_30 : decode cX10_balance 30 = .ok (.if_icmp .eq 16, 3) := by decide +kernel
theorem dX10_balance_33 : decode cX10_balance 33 = .ok (.aload_n 0, 1) := by decide +kernel
theorem dX10_balance_34 : decode cX10_balance 34 = .ok (.getfield 57, 3) := by decide +kernel
