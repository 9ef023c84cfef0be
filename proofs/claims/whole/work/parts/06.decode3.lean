theorem d_In_bitCount_7 : decode b_In_bitCount 7 = .ok (.iand, 1) := by decide +kernel
theorem d_In_bitCount_8 : decode b_In_bitCount 8 = .ok (.isub, 1) := by decide +kernel
theorem d_In_bitCount_9 : decode b_In_bitCount 9 = .ok (.istore_n 0, 1) := by decide +kernel
theorem d_In_bitCount_10 : decode b_In_bitCount 10 = .ok (.iload_n 0, 1) := by decide +kernel
theorem d_In_bitCount_11 : decode b_In_bitCount 11 = .ok (.ldc_w 266, 3) := by decide +kernel
theorem d_In_bitCount_14 : decode b_In_bitCount 14 = .ok (.iand, 1) := by decide +kernel
theorem d_In_bitCount_15 : decode b_In_bitCount 15 = .ok (.iload_n 0, 1) := by decide +kernel
theorem d_In_bitCount_16 : decode b_In_bitCount 16 = .ok (.iconst 2, 1) := by decide +kernel
theorem d_In_bitCount_17 : decode b_In_bitCount 17 = .ok (.iushr, 1) := by decide +kernel
theorem d_In_bitCount_18 : decode b_In_bitCount 18 = .ok (.ldc_w 266, 3) := by decide +kernel
theorem d_In_bitCount_21 : decode b_In_bitCount 21 = .ok (.iand, 1) := by decide +kernel
theorem d_In_bitCount_22 : decode b_In_bitCount 22 = .ok (.iadd, 1) := by decide +kernel
theorem d_In_bitCount_23 : decode b_In_bitCount 23 = .ok (.istore_n 0, 1) := by decide +kernel
theorem d_In_bitCount_24 : decode b_In_bitCount 24 = .ok (.iload_n 0, 1) := by decide +kernel
theorem d_In_bitCount_25 : decode b_In_bitCount 25 = .ok (.iload_n 0, 1) := by decide +kernel
theorem d_In_bitCount_26 : decode b_In_bitCount 26 = .ok (.iconst 4, 1) := by decide +kernel
theorem d_In_bitCount_27 : decode b_In_bitCount 27 = .ok (.iushr, 1) := by decide +kernel
theorem d_In_bitCount_28 : decode b_In_bitCount 28 = .ok (.iadd, 1) := by decide +kernel
theorem d_In_bitCount_29 : decode b_In_bitCount 29 = .ok (.ldc_w 267, 3) := by decide +kernel
theorem d_In_bitCount_32 : decode b_In_bitCount 32 = .ok (.iand, 1) := by decide +kernel
theorem d_In_bitCount_33 : decode b_In_bitCount 33 = .ok (.istore_n 0, 1) := by decide +kernel
theorem d_In_bitCount_34 : decode b_In_bitCount 34 = .ok (.iload_n 0, 1) := by decide +kernel
theorem d_In_bitCount_35 : decode b_In_bitCount 35 = .ok (.iload_n 0, 1) := by decide +kernel
theorem d_In_bitCount_36 : decode b_In_bitCount 36 = .ok (.bipush 8, 2) := by decide +kernel
theorem d_In_bitCount_38 : decode b_In_bitCount 38 = .ok (.iushr, 1) := by decide +kernel
theorem d_In_bitCount_39 : decode b_In_bitCount 39 = .ok (.iadd, 1) := by decide +kernel
theorem d_In_bitCount_40 : decode b_In_bitCount 40 = .ok (.istore_n 0, 1) := by decide +kernel
theorem d_In_bitCount_41 : decode b_In_bitCount 41 = .ok (.iload_n 0, 1) := by decide +kernel
theorem d_In_bitCount_42 : decode b_In_bitCount 42 = .ok (.iload_n 0, 1) := by decide +kernel
theorem d_In_bitCount_43 : decode b_In_bitCount 43 = .ok (.bipush 16, 2) := by decide +kernel
theorem d_In_bitCount_45 : decode b_In_bitCount 45 = .ok (.iushr, 1) := by decide +kernel
theorem d_In_bitCount_46 : decode b_In_bitCount 46 = .ok (.iadd, 1) := by decide +kernel
theorem d_In_bitCount_47 : decode b_In_bitCount 47 = .ok (.istore_n 0, 1) := by decide +kernel
theorem d_In_bitCount_48 : decode b_In_bitCount 48 = .ok (.iload_n 0, 1) := by decide +kernel
theorem d_In_bitCount_49 : decode b_In_bitCount 49 = .ok (.bipush 63, 2) := by decide +kernel
theorem d_In_bitCount_51 : decode b_In_bitCount 51 = .ok (.iand, 1) := by decide +kernel
theorem d_In_bitCount_52 : decode b_In_bitCount 52 = .ok (.ireturn, 1) := by decide +kernel
theorem d_DS_vehicleOf_0 : decode b_DS_vehicleOf 0 = .ok (.aload_n 0, 1) := by decide +kernel
theorem d_DS_vehicleOf_1 : decode b_DS_vehicleOf 1 = .ok (.getfield 18, 3) := by decide +kernel
theorem d_DS_vehicleOf_4 : decode b_DS_vehicleOf 4 = .ok (.iload_n 1, 1) := by decide +kernel
theorem d_DS_vehicleOf_5 : decode b_DS_vehicleOf 5 = .ok (.invokevirtual 66, 3) := by decide +kernel
theorem d_DS_vehicleOf_8 : decode b_DS_vehicleOf 8 = .ok (.ifCond .eq 12, 3) := by decide +kernel
theorem d_DS_vehicleOf_11 : decode b_DS_vehicleOf 11 = .ok (.aload_n 0, 1) := by decide +kernel
theorem d_DS_vehicleOf_12 : decode b_DS_vehicleOf 12 = .ok (.getfield 41, 3) := by decide +kernel
theorem d_DS_vehicleOf_15 : decode b_DS_vehicleOf 15 = .ok (.iload_n 1, 1) := by decide +kernel
theorem d_DS_vehicleOf_16 : decode b_DS_vehicleOf 16 = .ok (.iaload, 1) := by decide +kernel
theorem d_DS_vehicleOf_17 : decode b_DS_vehicleOf 17 = .ok (.goto 4, 3) := by decide +kernel
theorem d_DS_vehicleOf_20 : decode b_DS_vehicleOf 20 = .ok (.iconst (-1), 1) := by decide +kernel
theorem d_DS_vehicleOf_21 : decode b_DS_vehicleOf 21 = .ok (.ireturn, 1) := by decide +kernel
theorem d_DS_place_0 : decode b_DS_place 0 = .ok (.aload_n 0, 1) := by decide +kernel
theorem d_DS_place_1 : decode b_DS_place 1 = .ok (.getfield 18, 3) := by decide +kernel
theorem d_DS_place_4 : decode b_DS_place 4 = .ok (.iload_n 1, 1) := by decide +kernel
theorem d_DS_place_5 : decode b_DS_place 5 = .ok (.invokevirtual 66, 3) := by decide +kernel
theorem d_DS_place_8 : decode b_DS_place 8 = .ok (.ifCond .eq 19, 3) := by decide +kernel
theorem d_DS_place_11 : decode b_DS_place 11 = .ok (.aload_n 0, 1) := by decide +kernel
theorem d_DS_place_12 : decode b_DS_place 12 = .ok (.getfield 18, 3) := by decide +kernel
theorem d_DS_place_15 : decode b_DS_place 15 = .ok (.aload_n 0, 1) := by decide +kernel
theorem d_DS_place_16 : decode b_DS_place 16 = .ok (.getfield 41, 3) := by decide +kernel
theorem d_DS_place_19 : decode b_DS_place 19 = .ok (.iload_n 1, 1) := by decide +kernel
theorem d_DS_place_20 : decode b_DS_place 20 = .ok (.iaload, 1) := by decide +kernel
theorem d_DS_place_21 : decode b_DS_place 21 = .ok (.invokevirtual 55, 3) := by decide +kernel
theorem d_DS_place_24 : decode b_DS_place 24 = .ok (.ifCond .ne 5, 3) := by decide +kernel
theorem d_DS_place_27 : decode b_DS_place 27 = .ok (.iconst (-1), 1) := by decide +kernel
theorem d_DS_place_28 : decode b_DS_place 28 = .ok (.ireturn, 1) := by decide +kernel
theorem d_DS_place_29 : decode b_DS_place 29 = .ok (.aload_n 0, 1) := by decide +kernel
theorem d_DS_place_30 : decode b_DS_place 30 = .ok (.getfield 18, 3) := by decide +kernel
theorem d_DS_place_33 : decode b_DS_place 33 = .ok (.iload_n 1, 1) := by decide +kernel
theorem d_DS_place_34 : decode b_DS_place 34 = .ok (.aload_n 0, 1) := by decide +kernel
theorem d_DS_place_35 : decode b_DS_place 35 = .ok (.getfield 41, 3) := by decide +kernel
theorem d_DS_place_38 : decode b_DS_place 38 = .ok (.iload_n 1, 1) := by decide +kernel
theorem d_DS_place_39 : decode b_DS_place 39 = .ok (.iaload, 1) := by decide +kernel
theorem d_DS_place_40 : decode b_DS_place 40 = .ok (.aload_n 0, 1) := by decide +kernel
theorem d_DS_place_41 : decode b_DS_place 41 = .ok (.aload_n 0, 1) := by decide +kernel
theorem d_DS_place_42 : decode b_DS_place 42 = .ok (.getfield 41, 3) := by decide +kernel
theorem d_DS_place_45 : decode b_DS_place 45 = .ok (.iload_n 1, 1) := by decide +kernel
theorem d_DS_place_46 : decode b_DS_place 46 = .ok (.iaload, 1) := by decide +kernel
theorem d_DS_place_47 : decode b_DS_place 47 = .ok (.invokevirtual 117, 3) := by decide +kernel
theorem d_DS_place_50 : decode b_DS_place 50 = .ok (.invokevirtual 120, 3) := by decide +kernel
theorem d_DS_place_53 : decode b_DS_place 53 = .ok (.ireturn, 1) := by decide +kernel
theorem d_DS_setOf_0 : decode b_DS_setOf 0 = .ok (.iconst 0, 1) := by decide +kernel
theorem d_DS_setOf_1 : decode b_DS_setOf 1 = .ok (.istore_n 2, 1) := by decide +kernel
theorem d_DS_setOf_2 : decode b_DS_setOf 2 = .ok (.iconst 0, 1) := by decide +kernel
theorem d_DS_setOf_3 : decode b_DS_setOf 3 = .ok (.istore_n 3, 1) := by decide +kernel
theorem d_DS_setOf_4 : decode b_DS_setOf 4 = .ok (.iload_n 3, 1) := by decide +kernel
theorem d_DS_setOf_5 : decode b_DS_setOf 5 = .ok (.aload_n 0, 1) := by decide +kernel
theorem d_DS_setOf_6 : decode b_DS_setOf 6 = .ok (.getfield 18, 3) := by decide +kernel
theorem d_DS_setOf_9 : decode b_DS_setOf 9 = .ok (.getfield 51, 3) := by decide +kernel
theorem d_DS_setOf_12 : decode b_DS_setOf 12 = .ok (.if_icmp .ge 25, 3) := by decide +kernel
theorem d_DS_setOf_15 : decode b_DS_setOf 15 = .ok (.aload_n 0, 1) := by decide +kernel
theorem d_DS_setOf_16 : decode b_DS_setOf 16 = .ok (.getfield 41, 3) := by decide +kernel
theorem d_DS_setOf_19 : decode b_DS_setOf 19 = .ok (.iload_n 3, 1) := by decide +kernel
theorem d_DS_setOf_20 : decode b_DS_setOf 20 = .ok (.iaload, 1) := by decide +kernel
theorem d_DS_setOf_21 : decode b_DS_setOf 21 = .ok (.iload_n 1, 1) := by decide +kernel
theorem d_DS_setOf_22 : decode b_DS_setOf 22 = .ok (.if_icmp .ne 9, 3) := by decide +kernel
theorem d_DS_setOf_25 : decode b_DS_setOf 25 = .ok (.iload_n 2, 1) := by decide +kernel
theorem d_DS_setOf_26 : decode b_DS_setOf 26 = .ok (.iconst 1, 1) := by decide +kernel
theorem d_DS_setOf_27 : decode b_DS_setOf 27 = .ok (.iload_n 3, 1) := by decide +kernel
theorem d_DS_setOf_28 : decode b_DS_setOf 28 = .ok (.ishl, 1) := by decide +kernel
theorem d_DS_setOf_29 : decode b_DS_setOf 29 = .ok (.ior, 1) := by decide +kernel
theorem d_DS_setOf_30 : decode b_DS_setOf 30 = .ok (.istore_n 2, 1) := by decide +kernel
theorem d_DS_setOf_31 : decode b_DS_setOf 31 = .ok (.iinc 3 1, 3) := by decide +kernel
theorem d_DS_setOf_34 : decode b_DS_setOf 34 = .ok (.goto (-30), 3) := by decide +kernel
theorem d_DS_setOf_37 : decode b_DS_setOf 37 = .ok (.iload_n 2, 1) := by decide +kernel
theorem d_DS_setOf_38 : decode b_DS_setOf 38 = .ok (.ireturn, 1) := by decide +kernel
theorem d_Day_placeInRound_0 : decode b_Day_placeInRound 0 = .ok (.aload_n 0, 1) := by decide +kernel
theorem d_Day_placeInRound_1 : decode b_Day_placeInRound 1 = .ok (.iload_n 2, 1) := by decide +kernel
theorem d_Day_placeInRound_2 : decode b_Day_placeInRound 2 = .ok (.iload_n 3, 1) := by decide +kernel
theorem d_Day_placeInRound_3 : decode b_Day_placeInRound 3 = .ok (.aload_n 0, 1) := by decide +kernel
theorem d_Day_placeInRound_4 : decode b_Day_placeInRound 4 = .ok (.getfield 54, 3) := by decide +kernel
theorem d_Day_placeInRound_7 : decode b_Day_placeInRound 7 = .ok (.iconst 0, 1) := by decide +kernel
theorem d_Day_placeInRound_8 : decode b_Day_placeInRound 8 = .ok (.invokevirtual 85, 3) := by decide +kernel
theorem d_Day_placeInRound_11 : decode b_Day_placeInRound 11 = .ok (.istore 4, 2) := by decide +kernel
theorem d_Day_placeInRound_13 : decode b_Day_placeInRound 13 = .ok (.iconst 0, 1) := by decide +kernel
theorem d_Day_placeInRound_14 : decode b_Day_placeInRound 14 = .ok (.istore 5, 2) := by decide +kernel
theorem d_Day_placeInRound_16 : decode b_Day_placeInRound 16 = .ok (.iload 5, 2) := by decide +kernel
theorem d_Day_placeInRound_18 : decode b_Day_placeInRound 18 = .ok (.iload 4, 2) := by decide +kernel
theorem d_Day_placeInRound_20 : decode b_Day_placeInRound 20 = .ok (.if_icmp .ge 23, 3) := by decide +kernel
theorem d_Day_placeInRound_23 : decode b_Day_placeInRound 23 = .ok (.aload_n 0, 1) := by decide +kernel
theorem d_Day_placeInRound_24 : decode b_Day_placeInRound 24 = .ok (.getfield 54, 3) := by decide +kernel
theorem d_Day_placeInRound_27 : decode b_Day_placeInRound 27 = .ok (.iload 5, 2) := by decide +kernel
theorem d_Day_placeInRound_29 : decode b_Day_placeInRound 29 = .ok (.iaload, 1) := by decide +kernel
theorem d_Day_placeInRound_30 : decode b_Day_placeInRound 30 = .ok (.iload_n 1, 1) := by decide +kernel
theorem d_Day_placeInRound_31 : decode b_Day_placeInRound 31 = .ok (.if_icmp .ne 6, 3) := by decide +kernel
theorem d_Day_placeInRound_34 : decode b_Day_placeInRound 34 = .ok (.iload 5, 2) := by decide +kernel
theorem d_Day_placeInRound_36 : decode b_Day_placeInRound 36 = .ok (.ireturn, 1) := by decide +kernel
theorem d_Day_placeInRound_37 : decode b_Day_placeInRound 37 = .ok (.iinc 5 1, 3) := by decide +kernel
theorem d_Day_placeInRound_40 : decode b_Day_placeInRound 40 = .ok (.goto (-24), 3) := by decide +kernel
theorem d_Day_placeInRound_43 : decode b_Day_placeInRound 43 = .ok (.iconst (-1), 1) := by decide +kernel
theorem d_Day_placeInRound_44 : decode b_Day_placeInRound 44 = .ok (.ireturn, 1) := by decide +kernel
theorem d_DS_moved_0 : decode b_DS_moved 0 = .ok (.aload_n 0, 1) := by decide +kernel
theorem d_DS_moved_1 : decode b_DS_moved 1 = .ok (.invokevirtual 108, 3) := by decide +kernel
theorem d_DS_moved_4 : decode b_DS_moved 4 = .ok (.iload_n 1, 1) := by decide +kernel
theorem d_DS_moved_5 : decode b_DS_moved 5 = .ok (.invokestatic 123, 3) := by decide +kernel
theorem d_DS_moved_8 : decode b_DS_moved 8 = .ok (.ireturn, 1) := by decide +kernel
theorem d_DS_stopAt_0 : decode b_DS_stopAt 0 = .ok (.iconst 0, 1) := by decide +kernel
theorem d_DS_stopAt_1 : decode b_DS_stopAt 1 = .ok (.istore_n 2, 1) := by decide +kernel
theorem d_DS_stopAt_2 : decode b_DS_stopAt 2 = .ok (.iconst 0, 1) := by decide +kernel
theorem d_DS_stopAt_3 : decode b_DS_stopAt 3 = .ok (.istore_n 3, 1) := by decide +kernel
theorem d_DS_stopAt_4 : decode b_DS_stopAt 4 = .ok (.iload_n 3, 1) := by decide +kernel
theorem d_DS_stopAt_5 : decode b_DS_stopAt 5 = .ok (.bipush 8, 2) := by decide +kernel
theorem d_DS_stopAt_7 : decode b_DS_stopAt 7 = .ok (.if_icmp .ge 27, 3) := by decide +kernel
theorem d_DS_stopAt_10 : decode b_DS_stopAt 10 = .ok (.iload_n 0, 1) := by decide +kernel
theorem d_DS_stopAt_11 : decode b_DS_stopAt 11 = .ok (.iload_n 3, 1) := by decide +kernel
theorem d_DS_stopAt_12 : decode b_DS_stopAt 12 = .ok (.invokestatic 159, 3) := by decide +kernel
theorem d_DS_stopAt_15 : decode b_DS_stopAt 15 = .ok (.ifCond .eq 13, 3) := by decide +kernel
theorem d_DS_stopAt_18 : decode b_DS_stopAt 18 = .ok (.iload_n 2, 1) := by decide +kernel
theorem d_DS_stopAt_19 : decode b_DS_stopAt 19 = .ok (.iload_n 1, 1) := by decide +kernel
theorem d_DS_stopAt_20 : decode b_DS_stopAt 20 = .ok (.if_icmp .ne 5, 3) := by decide +kernel
theorem d_DS_stopAt_23 : decode b_DS_stopAt 23 = .ok (.iload_n 3, 1) := by decide +kernel
theorem d_DS_stopAt_24 : decode b_DS_stopAt 24 = .ok (.ireturn, 1) := by decide +kernel
theorem d_DS_stopAt_25 : decode b_DS_stopAt 25 = .ok (.iinc 2 1, 3) := by decide +kernel
theorem d_DS_stopAt_28 : decode b_DS_stopAt 28 = .ok (.iinc 3 1, 3) := by decide +kernel
theorem d_DS_stopAt_31 : decode b_DS_stopAt 31 = .ok (.goto (-27), 3) := by decide +kernel
theorem d_DS_stopAt_34 : decode b_DS_stopAt 34 = .ok (.iconst (-1), 1) := by decide +kernel
theorem d_DS_stopAt_35 : decode b_DS_stopAt 35 = .ok (.ireturn, 1) := by decide +kernel
theorem d_DS_carried_0 : decode b_DS_carried 0 = .ok (.aload_n 0, 1) := by decide +kernel
theorem d_DS_carried_1 : decode b_DS_carried 1 = .ok (.aload_n 0, 1) := by decide +kernel
theorem d_DS_carried_2 : decode b_DS_carried 2 = .ok (.getfield 18, 3) := by decide +kernel
theorem d_DS_carried_5 : decode b_DS_carried 5 = .ok (.getfield 127, 3) := by decide +kernel
theorem d_DS_carried_8 : decode b_DS_carried 8 = .ok (.invokevirtual 117, 3) := by decide +kernel
theorem d_DS_carried_11 : decode b_DS_carried 11 = .ok (.iload_n 1, 1) := by decide +kernel
theorem d_DS_carried_12 : decode b_DS_carried 12 = .ok (.invokestatic 123, 3) := by decide +kernel
theorem d_DS_carried_15 : decode b_DS_carried 15 = .ok (.ireturn, 1) := by decide +kernel
theorem d_DS_send_0 : decode b_DS_send 0 = .ok (.iconst 0, 1) := by decide +kernel
theorem d_DS_send_1 : decode b_DS_send 1 = .ok (.istore_n 1, 1) := by decide +kernel
theorem d_DS_send_2 : decode b_DS_send 2 = .ok (.iconst 0, 1) := by decide +kernel
theorem d_DS_send_3 : decode b_DS_send 3 = .ok (.istore_n 2, 1) := by decide +kernel
theorem d_DS_send_4 : decode b_DS_send 4 = .ok (.iload_n 2, 1) := by decide +kernel
theorem d_DS_send_5 : decode b_DS_send 5 = .ok (.aload_n 0, 1) := by decide +kernel
theorem d_DS_send_6 : decode b_DS_send 6 = .ok (.getfield 18, 3) := by decide +kernel
theorem d_DS_send_9 : decode b_DS_send 9 = .ok (.getfield 51, 3) := by decide +kernel
theorem d_DS_send_12 : decode b_DS_send 12 = .ok (.if_icmp .ge 49, 3) := by decide +kernel
theorem d_DS_send_15 : decode b_DS_send 15 = .ok (.aload_n 0, 1) := by decide +kernel
theorem d_DS_send_16 : decode b_DS_send 16 = .ok (.getfield 41, 3) := by decide +kernel
theorem d_DS_send_19 : decode b_DS_send 19 = .ok (.iload_n 2, 1) := by decide +kernel
theorem d_DS_send_20 : decode b_DS_send 20 = .ok (.iaload, 1) := by decide +kernel
theorem d_DS_send_21 : decode b_DS_send 21 = .ok (.aload_n 0, 1) := by decide +kernel
theorem d_DS_send_22 : decode b_DS_send 22 = .ok (.getfield 45, 3) := by decide +kernel
theorem d_DS_send_25 : decode b_DS_send 25 = .ok (.iload_n 2, 1) := by decide +kernel
theorem d_DS_send_26 : decode b_DS_send 26 = .ok (.iaload, 1) := by decide +kernel
theorem d_DS_send_27 : decode b_DS_send 27 = .ok (.if_icmp .eq 28, 3) := by decide +kernel
theorem d_DS_send_30 : decode b_DS_send 30 = .ok (.aload_n 0, 1) := by decide +kernel
theorem d_DS_send_31 : decode b_DS_send 31 = .ok (.getfield 45, 3) := by decide +kernel
theorem d_DS_send_34 : decode b_DS_send 34 = .ok (.iload_n 2, 1) := by decide +kernel
theorem d_DS_send_35 : decode b_DS_send 35 = .ok (.aload_n 0, 1) := by decide +kernel
theorem d_DS_send_36 : decode b_DS_send 36 = .ok (.getfield 41, 3) := by decide +kernel
theorem d_DS_send_39 : decode b_DS_send 39 = .ok (.iload_n 2, 1) := by decide +kernel
theorem d_DS_send_40 : decode b_DS_send 40 = .ok (.iaload, 1) := by decide +kernel
theorem d_DS_send_41 : decode b_DS_send 41 = .ok (.iastore, 1) := by decide +kernel
theorem d_DS_send_42 : decode b_DS_send 42 = .ok (.aload_n 0, 1) := by decide +kernel
theorem d_DS_send_43 : decode b_DS_send 43 = .ok (.getfield 48, 3) := by decide +kernel
theorem d_DS_send_46 : decode b_DS_send 46 = .ok (.iload_n 2, 1) := by decide +kernel
theorem d_DS_send_47 : decode b_DS_send 47 = .ok (.dup2, 1) := by decide +kernel
theorem d_DS_send_48 : decode b_DS_send 48 = .ok (.iaload, 1) := by decide +kernel
theorem d_DS_send_49 : decode b_DS_send 49 = .ok (.iconst 1, 1) := by decide +kernel
theorem d_DS_send_50 : decode b_DS_send 50 = .ok (.iadd, 1) := by decide +kernel
theorem d_DS_send_51 : decode b_DS_send 51 = .ok (.iastore, 1) := by decide +kernel
theorem d_DS_send_52 : decode b_DS_send 52 = .ok (.iinc 1 1, 3) := by decide +kernel
theorem d_DS_send_55 : decode b_DS_send 55 = .ok (.iinc 2 1, 3) := by decide +kernel
theorem d_DS_send_58 : decode b_DS_send 58 = .ok (.goto (-54), 3) := by decide +kernel
theorem d_DS_send_61 : decode b_DS_send 61 = .ok (.iload_n 1, 1) := by decide +kernel
theorem d_DS_send_62 : decode b_DS_send 62 = .ok (.ireturn, 1) := by decide +kernel
theorem d_DS_sent_0 : decode b_DS_sent 0 = .ok (.aload_n 0, 1) := by decide +kernel
theorem d_DS_sent_1 : decode b_DS_sent 1 = .ok (.getfield 18, 3) := by decide +kernel
theorem d_DS_sent_4 : decode b_DS_sent 4 = .ok (.iload_n 1, 1) := by decide +kernel
theorem d_DS_sent_5 : decode b_DS_sent 5 = .ok (.invokevirtual 66, 3) := by decide +kernel
theorem d_DS_sent_8 : decode b_DS_sent 8 = .ok (.ifCond .eq 12, 3) := by decide +kernel
theorem d_DS_sent_11 : decode b_DS_sent 11 = .ok (.aload_n 0, 1) := by decide +kernel
theorem d_DS_sent_12 : decode b_DS_sent 12 = .ok (.getfield 48, 3) := by decide +kernel
theorem d_DS_sent_15 : decode b_DS_sent 15 = .ok (.iload_n 1, 1) := by decide +kernel
theorem d_DS_sent_16 : decode b_DS_sent 16 = .ok (.iaload, 1) := by decide +kernel
theorem d_DS_sent_17 : decode b_DS_sent 17 = .ok (.goto 4, 3) := by decide +kernel
theorem d_DS_sent_20 : decode b_DS_sent 20 = .ok (.iconst (-1), 1) := by decide +kernel
theorem d_DS_sent_21 : decode b_DS_sent 21 = .ok (.ireturn, 1) := by decide +kernel
theorem d_DS_undo_0 : decode b_DS_undo 0 = .ok (.aload_n 0, 1) := by decide +kernel
theorem d_DS_undo_1 : decode b_DS_undo 1 = .ok (.getfield 34, 3) := by decide +kernel
theorem d_DS_undo_4 : decode b_DS_undo 4 = .ok (.getfield 130, 3) := by decide +kernel
theorem d_DS_undo_7 : decode b_DS_undo 7 = .ok (.ifCond .ne 5, 3) := by decide +kernel
theorem d_DS_undo_10 : decode b_DS_undo 10 = .ok (.iconst 0, 1) := by decide +kernel
theorem d_DS_undo_11 : decode b_DS_undo 11 = .ok (.ireturn, 1) := by decide +kernel
theorem d_DS_undo_12 : decode b_DS_undo 12 = .ok (.aload_n 0, 1) := by decide +kernel
theorem d_DS_undo_13 : decode b_DS_undo 13 = .ok (.getfield 34, 3) := by decide +kernel
theorem d_DS_undo_16 : decode b_DS_undo 16 = .ok (.getfield 130, 3) := by decide +kernel
theorem d_DS_undo_19 : decode b_DS_undo 19 = .ok (.iconst 1, 1) := by decide +kernel
theorem d_DS_undo_20 : decode b_DS_undo 20 = .ok (.isub, 1) := by decide +kernel
theorem d_DS_undo_21 : decode b_DS_undo 21 = .ok (.istore_n 1, 1) := by decide +kernel
theorem d_DS_undo_22 : decode b_DS_undo 22 = .ok (.iconst 0, 1) := by decide +kernel
theorem d_DS_undo_23 : decode b_DS_undo 23 = .ok (.istore_n 2, 1) := by decide +kernel
theorem d_DS_undo_24 : decode b_DS_undo 24 = .ok (.iload_n 2, 1) := by decide +kernel
theorem d_DS_undo_25 : decode b_DS_undo 25 = .ok (.aload_n 0, 1) := by decide +kernel
theorem d_DS_undo_26 : decode b_DS_undo 26 = .ok (.getfield 18, 3) := by decide +kernel
theorem d_DS_undo_29 : decode b_DS_undo 29 = .ok (.getfield 51, 3) := by decide +kernel
theorem d_DS_undo_32 : decode b_DS_undo 32 = .ok (.if_icmp .ge 61, 3) := by decide +kernel
theorem d_DS_undo_35 : decode b_DS_undo 35 = .ok (.iload_n 2, 1) := by decide +kernel
theorem d_DS_undo_36 : decode b_DS_undo 36 = .ok (.aload_n 0, 1) := by decide +kernel
theorem d_DS_undo_37 : decode b_DS_undo 37 = .ok (.getfield 34, 3) := by decide +kernel
theorem d_DS_undo_40 : decode b_DS_undo 40 = .ok (.getfield 133, 3) := by decide +kernel
theorem d_DS_undo_43 : decode b_DS_undo 43 = .ok (.iload_n 1, 1) := by decide +kernel
theorem d_DS_undo_44 : decode b_DS_undo 44 = .ok (.iaload, 1) := by decide +kernel
theorem d_DS_undo_45 : decode b_DS_undo 45 = .ok (.if_icmp .ge 7, 3) := by decide +kernel
theorem d_DS_undo_48 : decode b_DS_undo 48 = .ok (.iconst 1, 1) := by decide +kernel
theorem d_DS_undo_49 : decode b_DS_undo 49 = .ok (.goto 4, 3) := by decide +kernel
theorem d_DS_undo_52 : decode b_DS_undo 52 = .ok (.iconst 0, 1) := by decide +kernel
theorem d_DS_undo_53 : decode b_DS_undo 53 = .ok (.istore_n 3, 1) := by decide +kernel
theorem d_DS_undo_54 : decode b_DS_undo 54 = .ok (.aload_n 0, 1) := by decide +kernel
theorem d_DS_undo_55 : decode b_DS_undo 55 = .ok (.getfield 41, 3) := by decide +kernel
theorem d_DS_undo_58 : decode b_DS_undo 58 = .ok (.iload_n 2, 1) := by decide +kernel
theorem d_DS_undo_59 : decode b_DS_undo 59 = .ok (.iload_n 3, 1) := by decide +kernel
theorem d_DS_undo_60 : decode b_DS_undo 60 = .ok (.ifCond .eq 17, 3) := by decide +kernel
theorem d_DS_undo_63 : decode b_DS_undo 63 = .ok (.aload_n 0, 1) := by decide +kernel
theorem d_DS_undo_64 : decode b_DS_undo 64 = .ok (.getfield 34, 3) := by decide +kernel
theorem d_DS_undo_67 : decode b_DS_undo 67 = .ok (.getfield 136, 3) := by decide +kernel
theorem d_DS_undo_70 : decode b_DS_undo 70 = .ok (.iload_n 1, 1) := by decide +kernel
theorem d_DS_undo_71 : decode b_DS_undo 71 = .ok (.aaload, 1) := by decide +kernel
theorem d_DS_undo_72 : decode b_DS_undo 72 = .ok (.iload_n 2, 1) := by decide +kernel
theorem d_DS_undo_73 : decode b_DS_undo 73 = .ok (.iaload, 1) := by decide +kernel
theorem d_DS_undo_74 : decode b_DS_undo 74 = .ok (.goto 12, 3) := by decide +kernel
theorem d_DS_undo_77 : decode b_DS_undo 77 = .ok (.aload_n 0, 1) := by decide +kernel
theorem d_DS_undo_78 : decode b_DS_undo 78 = .ok (.getfield 18, 3) := by decide +kernel
theorem d_DS_undo_81 : decode b_DS_undo 81 = .ok (.getfield 139, 3) := by decide +kernel
theorem d_DS_undo_84 : decode b_DS_undo 84 = .ok (.iload_n 2, 1) := by decide +kernel
theorem d_DS_undo_85 : decode b_DS_undo 85 = .ok (.iaload, 1) := by decide +kernel
theorem d_DS_undo_86 : decode b_DS_undo 86 = .ok (.iastore, 1) := by decide +kernel
theorem d_DS_undo_87 : decode b_DS_undo 87 = .ok (.iinc 2 1, 3) := by decide +kernel
theorem d_DS_undo_90 : decode b_DS_undo 90 = .ok (.goto (-66), 3) := by decide +kernel
theorem d_DS_undo_93 : decode b_DS_undo 93 = .ok (.aload_n 0, 1) := by decide +kernel
theorem d_DS_undo_94 : decode b_DS_undo 94 = .ok (.getfield 34, 3) := by decide +kernel
theorem d_DS_undo_97 : decode b_DS_undo 97 = .ok (.iload_n 1, 1) := by decide +kernel
theorem d_DS_undo_98 : decode b_DS_undo 98 = .ok (.putfield 130, 3) := by decide +kernel
theorem d_DS_undo_101 : decode b_DS_undo 101 = .ok (.iconst 1, 1) := by decide +kernel
theorem d_DS_undo_102 : decode b_DS_undo 102 = .ok (.ireturn, 1) := by decide +kernel
theorem d_DS_copy_0 : decode b_DS_copy 0 = .ok (.aload_n 0, 1) := by decide +kernel
theorem d_DS_copy_1 : decode b_DS_copy 1 = .ok (.getfield 38, 3) := by decide +kernel
theorem d_DS_copy_4 : decode b_DS_copy 4 = .ok (.getfield 130, 3) := by decide +kernel
theorem d_DS_copy_7 : decode b_DS_copy 7 = .ok (.iconst 4, 1) := by decide +kernel
theorem d_DS_copy_8 : decode b_DS_copy 8 = .ok (.if_icmp .lt 5, 3) := by decide +kernel
theorem d_DS_copy_11 : decode b_DS_copy 11 = .ok (.iconst (-1), 1) := by decide +kernel
theorem d_DS_copy_12 : decode b_DS_copy 12 = .ok (.ireturn, 1) := by decide +kernel
theorem d_DS_copy_13 : decode b_DS_copy 13 = .ok (.aload_n 0, 1) := by decide +kernel
theorem d_DS_copy_14 : decode b_DS_copy 14 = .ok (.getfield 38, 3) := by decide +kernel
theorem d_DS_copy_17 : decode b_DS_copy 17 = .ok (.aload_n 0, 1) := by decide +kernel
theorem d_DS_copy_18 : decode b_DS_copy 18 = .ok (.getfield 41, 3) := by decide +kernel
theorem d_DS_copy_21 : decode b_DS_copy 21 = .ok (.aload_n 0, 1) := by decide +kernel
theorem d_DS_copy_22 : decode b_DS_copy 22 = .ok (.getfield 18, 3) := by decide +kernel
theorem d_DS_copy_25 : decode b_DS_copy 25 = .ok (.getfield 51, 3) := by decide +kernel
theorem d_DS_copy_28 : decode b_DS_copy 28 = .ok (.invokevirtual 100, 3) := by decide +kernel
theorem d_DS_copy_31 : decode b_DS_copy 31 = .ok (.aload_n 0, 1) := by decide +kernel
theorem d_DS_copy_32 : decode b_DS_copy 32 = .ok (.getfield 38, 3) := by decide +kernel
theorem d_DS_copy_35 : decode b_DS_copy 35 = .ok (.getfield 130, 3) := by decide +kernel
theorem d_DS_copy_38 : decode b_DS_copy 38 = .ok (.iconst 1, 1) := by decide +kernel
theorem d_DS_copy_39 : decode b_DS_copy 39 = .ok (.isub, 1) := by decide +kernel
theorem d_DS_copy_40 : decode b_DS_copy 40 = .ok (.ireturn, 1) := by decide +kernel
theorem d_DS_compare_0 : decode b_DS_compare 0 = .ok (.iload_n 1, 1) := by decide +kernel
theorem d_DS_compare_1 : decode b_DS_compare 1 = .ok (.iconst 0, 1) := by decide +kernel
theorem d_DS_compare_2 : decode b_DS_compare 2 = .ok (.aload_n 0, 1) := by decide +kernel
theorem d_DS_compare_3 : decode b_DS_compare 3 = .ok (.getfield 38, 3) := by decide +kernel
theorem d_DS_compare_6 : decode b_DS_compare 6 = .ok (.getfield 130, 3) := by decide +kernel
theorem d_DS_compare_9 : decode b_DS_compare 9 = .ok (.iconst 1, 1) := by decide +kernel
theorem d_DS_compare_10 : decode b_DS_compare 10 = .ok (.isub, 1) := by decide +kernel
theorem d_DS_compare_11 : decode b_DS_compare 11 = .ok (.invokestatic 11, 3) := by decide +kernel
theorem d_DS_compare_14 : decode b_DS_compare 14 = .ok (.ifCond .ne 5, 3) := by decide +kernel
theorem d_DS_compare_17 : decode b_DS_compare 17 = .ok (.iconst (-1), 1) := by decide +kernel
theorem d_DS_compare_18 : decode b_DS_compare 18 = .ok (.ireturn, 1) := by decide +kernel
theorem d_DS_compare_19 : decode b_DS_compare 19 = .ok (.iconst 0, 1) := by decide +kernel
theorem d_DS_compare_20 : decode b_DS_compare 20 = .ok (.istore_n 3, 1) := by decide +kernel
theorem d_DS_compare_21 : decode b_DS_compare 21 = .ok (.iconst 0, 1) := by decide +kernel
theorem d_DS_compare_22 : decode b_DS_compare 22 = .ok (.istore 4, 2) := by decide +kernel
theorem d_DS_compare_24 : decode b_DS_compare 24 = .ok (.iload 4, 2) := by decide +kernel
theorem d_DS_compare_26 : decode b_DS_compare 26 = .ok (.aload_n 0, 1) := by decide +kernel
theorem d_DS_compare_27 : decode b_DS_compare 27 = .ok (.getfield 38, 3) := by decide +kernel
theorem d_DS_compare_30 : decode b_DS_compare 30 = .ok (.getfield 133, 3) := by decide +kernel
theorem d_DS_compare_33 : decode b_DS_compare 33 = .ok (.iload_n 1, 1) := by decide +kernel
theorem d_DS_compare_34 : decode b_DS_compare 34 = .ok (.iaload, 1) := by decide +kernel
theorem d_DS_compare_35 : decode b_DS_compare 35 = .ok (.if_icmp .ge 38, 3) := by decide +kernel
theorem d_DS_compare_38 : decode b_DS_compare 38 = .ok (.aload_n 0, 1) := by decide +kernel
theorem d_DS_compare_39 : decode b_DS_compare 39 = .ok (.getfield 38, 3) := by decide +kernel
theorem d_DS_compare_42 : decode b_DS_compare 42 = .ok (.getfield 136, 3) := by decide +kernel
theorem d_DS_compare_45 : decode b_DS_compare 45 = .ok (.iload_n 1, 1) := by decide +kernel
theorem d_DS_compare_46 : decode b_DS_compare 46 = .ok (.aaload, 1) := by decide +kernel
theorem d_DS_compare_47 : decode b_DS_compare 47 = .ok (.iload 4, 2) := by decide +kernel
theorem d_DS_compare_49 : decode b_DS_compare 49 = .ok (.iaload, 1) := by decide +kernel
theorem d_DS_compare_50 : decode b_DS_compare 50 = .ok (.aload_n 0, 1) := by decide +kernel
theorem d_DS_compare_51 : decode b_DS_compare 51 = .ok (.getfield 41, 3) := by decide +kernel
theorem d_DS_compare_54 : decode b_DS_compare 54 = .ok (.iload 4, 2) := by decide +kernel
theorem d_DS_compare_56 : decode b_DS_compare 56 = .ok (.iaload, 1) := by decide +kernel
theorem d_DS_compare_57 : decode b_DS_compare 57 = .ok (.if_icmp .eq 10, 3) := by decide +kernel
theorem d_DS_compare_60 : decode b_DS_compare 60 = .ok (.iload_n 3, 1) := by decide +kernel
theorem d_DS_compare_61 : decode b_DS_compare 61 = .ok (.iconst 1, 1) := by decide +kernel
theorem d_DS_compare_62 : decode b_DS_compare 62 = .ok (.iload 4, 2) := by decide +kernel
theorem d_DS_compare_64 : decode b_DS_compare 64 = .ok (.ishl, 1) := by decide +kernel
theorem d_DS_compare_65 : decode b_DS_compare 65 = .ok (.ior, 1) := by decide +kernel
theorem d_DS_compare_66 : decode b_DS_compare 66 = .ok (.istore_n 3, 1) := by decide +kernel
theorem d_DS_compare_67 : decode b_DS_compare 67 = .ok (.iinc 4 1, 3) := by decide +kernel
theorem d_DS_compare_70 : decode b_DS_compare 70 = .ok (.goto (-46), 3) := by decide +kernel
theorem d_DS_compare_73 : decode b_DS_compare 73 = .ok (.iload_n 3, 1) := by decide +kernel
theorem d_DS_compare_74 : decode b_DS_compare 74 = .ok (.iload_n 2, 1) := by decide +kernel
theorem d_DS_compare_75 : decode b_DS_compare 75 = .ok (.invokestatic 123, 3) := by decide +kernel
theorem d_DS_compare_78 : decode b_DS_compare 78 = .ok (.ireturn, 1) := by decide +kernel
theorem d_DS_cost_0 : decode b_DS_cost 0 = .ok (.lconst 0, 1) := by decide +kernel
theorem d_DS_cost_1 : decode b_DS_cost 1 = .ok (.lstore_n 1, 1) := by decide +kernel
theorem d_DS_cost_2 : decode b_DS_cost 2 = .ok (.iconst 0, 1) := by decide +kernel
theorem d_DS_cost_3 : decode b_DS_cost 3 = .ok (.istore_n 3, 1) := by decide +kernel
theorem d_DS_cost_4 : decode b_DS_cost 4 = .ok (.iload_n 3, 1) := by decide +kernel
theorem d_DS_cost_5 : decode b_DS_cost 5 = .ok (.aload_n 0, 1) := by decide +kernel
theorem d_DS_cost_6 : decode b_DS_cost 6 = .ok (.getfield 18, 3) := by decide +kernel
theorem d_DS_cost_9 : decode b_DS_cost 9 = .ok (.getfield 127, 3) := by decide +kernel
theorem d_DS_cost_12 : decode b_DS_cost 12 = .ok (.if_icmp .ge 41, 3) := by decide +kernel
theorem d_DS_cost_15 : decode b_DS_cost 15 = .ok (.aload_n 0, 1) := by decide +kernel
theorem d_DS_cost_16 : decode b_DS_cost 16 = .ok (.getfield 18, 3) := by decide +kernel
theorem d_DS_cost_19 : decode b_DS_cost 19 = .ok (.iload_n 3, 1) := by decide +kernel
theorem d_DS_cost_20 : decode b_DS_cost 20 = .ok (.aload_n 0, 1) := by decide +kernel
theorem d_DS_cost_21 : decode b_DS_cost 21 = .ok (.iload_n 3, 1) := by decide +kernel
theorem d_DS_cost_22 : decode b_DS_cost 22 = .ok (.invokevirtual 117, 3) := by decide +kernel
theorem d_DS_cost_25 : decode b_DS_cost 25 = .ok (.invokevirtual 142, 3) := by decide +kernel
theorem d_DS_cost_28 : decode b_DS_cost 28 = .ok (.istore 4, 2) := by decide +kernel
theorem d_DS_cost_30 : decode b_DS_cost 30 = .ok (.lload_n 1, 1) := by decide +kernel
theorem d_DS_cost_31 : decode b_DS_cost 31 = .ok (.iload 4, 2) := by decide +kernel
theorem d_DS_cost_33 : decode b_DS_cost 33 = .ok (.aload_n 0, 1) := by decide +kernel
theorem d_DS_cost_34 : decode b_DS_cost 34 = .ok (.getfield 18, 3) := by decide +kernel
theorem d_DS_cost_37 : decode b_DS_cost 37 = .ok (.iload_n 3, 1) := by decide +kernel
theorem d_DS_cost_38 : decode b_DS_cost 38 = .ok (.iload 4, 2) := by decide +kernel
theorem d_DS_cost_40 : decode b_DS_cost 40 = .ok (.invokevirtual 145, 3) := by decide +kernel
theorem d_DS_cost_43 : decode b_DS_cost 43 = .ok (.iadd, 1) := by decide +kernel
theorem d_DS_cost_44 : decode b_DS_cost 44 = .ok (.i2l, 1) := by decide +kernel
theorem d_DS_cost_45 : decode b_DS_cost 45 = .ok (.ladd, 1) := by decide +kernel
theorem d_DS_cost_46 : decode b_DS_cost 46 = .ok (.lstore_n 1, 1) := by decide +kernel
theorem d_DS_cost_47 : decode b_DS_cost 47 = .ok (.iinc 3 1, 3) := by decide +kernel
theorem d_DS_cost_50 : decode b_DS_cost 50 = .ok (.goto (-46), 3) := by decide +kernel
theorem d_DS_cost_53 : decode b_DS_cost 53 = .ok (.lload_n 1, 1) := by decide +kernel
theorem d_DS_cost_54 : decode b_DS_cost 54 = .ok (.lreturn, 1) := by decide +kernel
theorem d_DS_overtime_0 : decode b_DS_overtime 0 = .ok (.aload_n 0, 1) := by decide +kernel
theorem d_DS_overtime_1 : decode b_DS_overtime 1 = .ok (.getfield 18, 3) := by decide +kernel
theorem d_DS_overtime_4 : decode b_DS_overtime 4 = .ok (.iload_n 1, 1) := by decide +kernel
theorem d_DS_overtime_5 : decode b_DS_overtime 5 = .ok (.invokevirtual 55, 3) := by decide +kernel
theorem d_DS_overtime_8 : decode b_DS_overtime 8 = .ok (.ifCond .ne 5, 3) := by decide +kernel
theorem d_DS_overtime_11 : decode b_DS_overtime 11 = .ok (.iconst (-1), 1) := by decide +kernel
theorem d_DS_overtime_12 : decode b_DS_overtime 12 = .ok (.ireturn, 1) := by decide +kernel
theorem d_DS_overtime_13 : decode b_DS_overtime 13 = .ok (.aload_n 0, 1) := by decide +kernel
theorem d_DS_overtime_14 : decode b_DS_overtime 14 = .ok (.getfield 18, 3) := by decide +kernel
theorem d_DS_overtime_17 : decode b_DS_overtime 17 = .ok (.iload_n 1, 1) := by decide +kernel
theorem d_DS_overtime_18 : decode b_DS_overtime 18 = .ok (.aload_n 0, 1) := by decide +kernel
theorem d_DS_overtime_19 : decode b_DS_overtime 19 = .ok (.getfield 18, 3) := by decide +kernel
theorem d_DS_overtime_22 : decode b_DS_overtime 22 = .ok (.iload_n 1, 1) := by decide +kernel
theorem d_DS_overtime_23 : decode b_DS_overtime 23 = .ok (.aload_n 0, 1) := by decide +kernel
theorem d_DS_overtime_24 : decode b_DS_overtime 24 = .ok (.iload_n 1, 1) := by decide +kernel
theorem d_DS_overtime_25 : decode b_DS_overtime 25 = .ok (.invokevirtual 117, 3) := by decide +kernel
theorem d_DS_overtime_28 : decode b_DS_overtime 28 = .ok (.invokevirtual 142, 3) := by decide +kernel
theorem d_DS_overtime_31 : decode b_DS_overtime 31 = .ok (.invokevirtual 145, 3) := by decide +kernel
theorem d_DS_overtime_34 : decode b_DS_overtime 34 = .ok (.ireturn, 1) := by decide +kernel
theorem d_DS_next_0 : decode b_DS_next 0 = .ok (.aload_n 0, 1) := by decide +kernel
theorem d_DS_next_1 : decode b_DS_next 1 = .ok (.aload_n 0, 1) := by decide +kernel
theorem d_DS_next_2 : decode b_DS_next 2 = .ok (.getfield 18, 3) := by decide +kernel
theorem d_DS_next_5 : decode b_DS_next 5 = .ok (.getfield 127, 3) := by decide +kernel
theorem d_DS_next_8 : decode b_DS_next 8 = .ok (.invokevirtual 117, 3) := by decide +kernel
theorem d_DS_next_11 : decode b_DS_next 11 = .ok (.invokestatic 111, 3) := by decide +kernel
theorem d_DS_next_14 : decode b_DS_next 14 = .ok (.istore_n 1, 1) := by decide +kernel
theorem d_DS_next_15 : decode b_DS_next 15 = .ok (.iconst 0, 1) := by decide +kernel
theorem d_DS_next_16 : decode b_DS_next 16 = .ok (.istore_n 2, 1) := by decide +kernel
theorem d_DS_next_17 : decode b_DS_next 17 = .ok (.iload_n 2, 1) := by decide +kernel
theorem d_DS_next_18 : decode b_DS_next 18 = .ok (.aload_n 0, 1) := by decide +kernel
theorem d_DS_next_19 : decode b_DS_next 19 = .ok (.getfield 18, 3) := by decide +kernel
theorem d_DS_next_22 : decode b_DS_next 22 = .ok (.getfield 127, 3) := by decide +kernel
theorem d_DS_next_25 : decode b_DS_next 25 = .ok (.if_icmp .ge 33, 3) := by decide +kernel
theorem d_DS_next_28 : decode b_DS_next 28 = .ok (.aload_n 0, 1) := by decide +kernel
theorem d_DS_next_29 : decode b_DS_next 29 = .ok (.getfield 18, 3) := by decide +kernel
theorem d_DS_next_32 : decode b_DS_next 32 = .ok (.iload_n 2, 1) := by decide +kernel
theorem d_DS_next_33 : decode b_DS_next 33 = .ok (.aload_n 0, 1) := by decide +kernel
theorem d_DS_next_34 : decode b_DS_next 34 = .ok (.aload_n 0, 1) := by decide +kernel
theorem d_DS_next_35 : decode b_DS_next 35 = .ok (.getfield 18, 3) := by decide +kernel
theorem d_DS_next_38 : decode b_DS_next 38 = .ok (.getfield 127, 3) := by decide +kernel
theorem d_DS_next_41 : decode b_DS_next 41 = .ok (.invokevirtual 117, 3) := by decide +kernel
theorem d_DS_next_44 : decode b_DS_next 44 = .ok (.aload_n 0, 1) := by decide +kernel
theorem d_DS_next_45 : decode b_DS_next 45 = .ok (.iload_n 2, 1) := by decide +kernel
theorem d_DS_next_46 : decode b_DS_next 46 = .ok (.invokevirtual 117, 3) := by decide +kernel
theorem d_DS_next_49 : decode b_DS_next 49 = .ok (.invokevirtual 148, 3) := by decide +kernel
theorem d_DS_next_52 : decode b_DS_next 52 = .ok (.iinc 2 1, 3) := by decide +kernel
theorem d_DS_next_55 : decode b_DS_next 55 = .ok (.goto (-38), 3) := by decide +kernel
theorem d_DS_next_58 : decode b_DS_next 58 = .ok (.aload_n 0, 1) := by decide +kernel
theorem d_DS_next_59 : decode b_DS_next 59 = .ok (.getfield 18, 3) := by decide +kernel
theorem d_DS_next_62 : decode b_DS_next 62 = .ok (.invokevirtual 152, 3) := by decide +kernel
theorem d_DS_next_65 : decode b_DS_next 65 = .ok (.iconst 0, 1) := by decide +kernel
theorem d_DS_next_66 : decode b_DS_next 66 = .ok (.istore_n 2, 1) := by decide +kernel
theorem d_DS_next_67 : decode b_DS_next 67 = .ok (.iload_n 2, 1) := by decide +kernel
theorem d_DS_next_68 : decode b_DS_next 68 = .ok (.aload_n 0, 1) := by decide +kernel
theorem d_DS_next_69 : decode b_DS_next 69 = .ok (.getfield 18, 3) := by decide +kernel
theorem d_DS_next_72 : decode b_DS_next 72 = .ok (.getfield 51, 3) := by decide +kernel
theorem d_DS_next_75 : decode b_DS_next 75 = .ok (.if_icmp .ge 24, 3) := by decide +kernel
theorem d_DS_next_78 : decode b_DS_next 78 = .ok (.aload_n 0, 1) := by decide +kernel
theorem d_DS_next_79 : decode b_DS_next 79 = .ok (.getfield 41, 3) := by decide +kernel
theorem d_DS_next_82 : decode b_DS_next 82 = .ok (.iload_n 2, 1) := by decide +kernel
theorem d_DS_next_83 : decode b_DS_next 83 = .ok (.aload_n 0, 1) := by decide +kernel
theorem d_DS_next_84 : decode b_DS_next 84 = .ok (.getfield 18, 3) := by decide +kernel
theorem d_DS_next_87 : decode b_DS_next 87 = .ok (.getfield 139, 3) := by decide +kernel
theorem d_DS_next_90 : decode b_DS_next 90 = .ok (.iload_n 2, 1) := by decide +kernel
theorem d_DS_next_91 : decode b_DS_next 91 = .ok (.iaload, 1) := by decide +kernel
theorem d_DS_next_92 : decode b_DS_next 92 = .ok (.iastore, 1) := by decide +kernel
theorem d_DS_next_93 : decode b_DS_next 93 = .ok (.iinc 2 1, 3) := by decide +kernel
theorem d_DS_next_96 : decode b_DS_next 96 = .ok (.goto (-29), 3) := by decide +kernel
theorem d_DS_next_99 : decode b_DS_next 99 = .ok (.aload_n 0, 1) := by decide +kernel
theorem d_DS_next_100 : decode b_DS_next 100 = .ok (.getfield 34, 3) := by decide +kernel
theorem d_DS_next_103 : decode b_DS_next 103 = .ok (.iconst 0, 1) := by decide +kernel
theorem d_DS_next_104 : decode b_DS_next 104 = .ok (.putfield 130, 3) := by decide +kernel
theorem d_DS_next_107 : decode b_DS_next 107 = .ok (.aload_n 0, 1) := by decide +kernel
theorem d_DS_next_108 : decode b_DS_next 108 = .ok (.getfield 38, 3) := by decide +kernel
theorem d_DS_next_111 : decode b_DS_next 111 = .ok (.iconst 0, 1) := by decide +kernel
theorem d_DS_next_112 : decode b_DS_next 112 = .ok (.putfield 130, 3) := by decide +kernel
theorem d_DS_next_115 : decode b_DS_next 115 = .ok (.iload_n 1, 1) := by decide +kernel
theorem d_DS_next_116 : decode b_DS_next 116 = .ok (.ireturn, 1) := by decide +kernel
theorem d_Day_prepareRow_0 : decode b_Day_prepareRow 0 = .ok (.iconst 0, 1) := by decide +kernel
theorem d_Day_prepareRow_1 : decode b_Day_prepareRow 1 = .ok (.istore 4, 2) := by decide +kernel
theorem d_Day_prepareRow_3 : decode b_Day_prepareRow 3 = .ok (.iconst 0, 1) := by decide +kernel
theorem d_Day_prepareRow_4 : decode b_Day_prepareRow 4 = .ok (.istore 5, 2) := by decide +kernel
theorem d_Day_prepareRow_6 : decode b_Day_prepareRow 6 = .ok (.iload 5, 2) := by decide +kernel
theorem d_Day_prepareRow_8 : decode b_Day_prepareRow 8 = .ok (.aload_n 0, 1) := by decide +kernel
theorem d_Day_prepareRow_9 : decode b_Day_prepareRow 9 = .ok (.getfield 71, 3) := by decide +kernel
theorem d_Day_prepareRow_12 : decode b_Day_prepareRow 12 = .ok (.if_icmp .ge 43, 3) := by decide +kernel
theorem d_Day_prepareRow_15 : decode b_Day_prepareRow 15 = .ok (.iload_n 2, 1) := by decide +kernel
theorem d_Day_prepareRow_16 : decode b_Day_prepareRow 16 = .ok (.iload 5, 2) := by decide +kernel
theorem d_Day_prepareRow_18 : decode b_Day_prepareRow 18 = .ok (.invokestatic 82, 3) := by decide +kernel
theorem d_Day_prepareRow_21 : decode b_Day_prepareRow 21 = .ok (.ifCond .eq 28, 3) := by decide +kernel
theorem d_Day_prepareRow_24 : decode b_Day_prepareRow 24 = .ok (.aload_n 0, 1) := by decide +kernel
theorem d_Day_prepareRow_25 : decode b_Day_prepareRow 25 = .ok (.getfield 18, 3) := by decide +kernel
theorem d_Day_prepareRow_28 : decode b_Day_prepareRow 28 = .ok (.iload 5, 2) := by decide +kernel
theorem d_Day_prepareRow_30 : decode b_Day_prepareRow 30 = .ok (.iaload, 1) := by decide +kernel
theorem d_Day_prepareRow_31 : decode b_Day_prepareRow 31 = .ok (.iload_n 1, 1) := by decide +kernel
theorem d_Day_prepareRow_32 : decode b_Day_prepareRow 32 = .ok (.if_icmp .ne 17, 3) := by decide +kernel
theorem d_Day_prepareRow_35 : decode b_Day_prepareRow 35 = .ok (.aload_n 0, 1) := by decide +kernel
theorem d_Day_prepareRow_36 : decode b_Day_prepareRow 36 = .ok (.getfield 39, 3) := by decide +kernel
theorem d_Day_prepareRow_39 : decode b_Day_prepareRow 39 = .ok (.iload_n 1, 1) := by decide +kernel
theorem d_Day_prepareRow_40 : decode b_Day_prepareRow 40 = .ok (.aaload, 1) := by decide +kernel
theorem d_Day_prepareRow_41 : decode b_Day_prepareRow 41 = .ok (.iload 4, 2) := by decide +kernel
theorem d_Day_prepareRow_43 : decode b_Day_prepareRow 43 = .ok (.iinc 4 1, 3) := by decide +kernel
theorem d_Day_prepareRow_46 : decode b_Day_prepareRow 46 = .ok (.iload 5, 2) := by decide +kernel
theorem d_Day_prepareRow_48 : decode b_Day_prepareRow 48 = .ok (.iastore, 1) := by decide +kernel
theorem d_Day_prepareRow_49 : decode b_Day_prepareRow 49 = .ok (.iinc 5 1, 3) := by decide +kernel
theorem d_Day_prepareRow_52 : decode b_Day_prepareRow 52 = .ok (.goto (-46), 3) := by decide +kernel
theorem d_Day_prepareRow_55 : decode b_Day_prepareRow 55 = .ok (.aload_n 0, 1) := by decide +kernel
theorem d_Day_prepareRow_56 : decode b_Day_prepareRow 56 = .ok (.getfield 42, 3) := by decide +kernel
theorem d_Day_prepareRow_59 : decode b_Day_prepareRow 59 = .ok (.iload_n 1, 1) := by decide +kernel
theorem d_Day_prepareRow_60 : decode b_Day_prepareRow 60 = .ok (.aload_n 0, 1) := by decide +kernel
theorem d_Day_prepareRow_61 : decode b_Day_prepareRow 61 = .ok (.iload_n 1, 1) := by decide +kernel
theorem d_Day_prepareRow_62 : decode b_Day_prepareRow 62 = .ok (.iload_n 3, 1) := by decide +kernel
theorem d_Day_prepareRow_63 : decode b_Day_prepareRow 63 = .ok (.aload_n 0, 1) := by decide +kernel
theorem d_Day_prepareRow_64 : decode b_Day_prepareRow 64 = .ok (.getfield 39, 3) := by decide +kernel
theorem d_Day_prepareRow_67 : decode b_Day_prepareRow 67 = .ok (.iload_n 1, 1) := by decide +kernel
theorem d_Day_prepareRow_68 : decode b_Day_prepareRow 68 = .ok (.aaload, 1) := by decide +kernel
theorem d_Day_prepareRow_69 : decode b_Day_prepareRow 69 = .ok (.iload 4, 2) := by decide +kernel
theorem d_Day_prepareRow_71 : decode b_Day_prepareRow 71 = .ok (.invokevirtual 85, 3) := by decide +kernel
theorem d_Day_prepareRow_74 : decode b_Day_prepareRow 74 = .ok (.iastore, 1) := by decide +kernel
theorem d_Day_prepareRow_75 : decode b_Day_prepareRow 75 = .ok (.return_, 1) := by decide +kernel
theorem d_Day_turn_0 : decode b_Day_turn 0 = .ok (.iconst 0, 1) := by decide +kernel
theorem d_Day_turn_1 : decode b_Day_turn 1 = .ok (.istore_n 1, 1) := by decide +kernel
theorem d_Day_turn_2 : decode b_Day_turn 2 = .ok (.iload_n 1, 1) := by decide +kernel
theorem d_Day_turn_3 : decode b_Day_turn 3 = .ok (.aload_n 0, 1) := by decide +kernel
theorem d_Day_turn_4 : decode b_Day_turn 4 = .ok (.getfield 57, 3) := by decide +kernel
theorem d_Day_turn_7 : decode b_Day_turn 7 = .ok (.if_icmp .ge 55, 3) := by decide +kernel
theorem d_Day_turn_10 : decode b_Day_turn 10 = .ok (.aload_n 0, 1) := by decide +kernel
theorem d_Day_turn_11 : decode b_Day_turn 11 = .ok (.getfield 36, 3) := by decide +kernel
theorem d_Day_turn_14 : decode b_Day_turn 14 = .ok (.iload_n 1, 1) := by decide +kernel
theorem d_Day_turn_15 : decode b_Day_turn 15 = .ok (.iconst 0, 1) := by decide +kernel
