theorem d_Mo_keep_63 : decode b_Mo_keep 63 = .ok (.iinc 2 1, 3) := by decide +kernel
theorem d_Mo_keep_66 : decode b_Mo_keep 66 = .ok (.goto (-33), 3) := by decide +kernel
theorem d_Mo_keep_69 : decode b_Mo_keep 69 = .ok (.iinc 1 1, 3) := by decide +kernel
theorem d_Mo_keep_72 : decode b_Mo_keep 72 = .ok (.goto (-61), 3) := by decide +kernel
theorem d_Mo_keep_75 : decode b_Mo_keep 75 = .ok (.aload_n 0, 1) := by decide +kernel
theorem d_Mo_keep_76 : decode b_Mo_keep 76 = .ok (.dup, 1) := by decide +kernel
theorem d_Mo_keep_77 : decode b_Mo_keep 77 = .ok (.getfield 149, 3) := by decide +kernel
theorem d_Mo_keep_80 : decode b_Mo_keep 80 = .ok (.iconst 1, 1) := by decide +kernel
theorem d_Mo_keep_81 : decode b_Mo_keep 81 = .ok (.isub, 1) := by decide +kernel
theorem d_Mo_keep_82 : decode b_Mo_keep 82 = .ok (.putfield 149, 3) := by decide +kernel
theorem d_Mo_keep_85 : decode b_Mo_keep 85 = .ok (.aload_n 0, 1) := by decide +kernel
theorem d_Mo_keep_86 : decode b_Mo_keep 86 = .ok (.getfield 53, 3) := by decide +kernel
theorem d_Mo_keep_89 : decode b_Mo_keep 89 = .ok (.aload_n 0, 1) := by decide +kernel
theorem d_Mo_keep_90 : decode b_Mo_keep 90 = .ok (.getfield 149, 3) := by decide +kernel
theorem d_Mo_keep_93 : decode b_Mo_keep 93 = .ok (.aload_n 0, 1) := by decide +kernel
theorem d_Mo_keep_94 : decode b_Mo_keep 94 = .ok (.getfield 81, 3) := by decide +kernel
theorem d_Mo_keep_97 : decode b_Mo_keep 97 = .ok (.iastore, 1) := by decide +kernel
theorem d_Mo_keep_98 : decode b_Mo_keep 98 = .ok (.iconst 0, 1) := by decide +kernel
theorem d_Mo_keep_99 : decode b_Mo_keep 99 = .ok (.istore_n 1, 1) := by decide +kernel
theorem d_Mo_keep_100 : decode b_Mo_keep 100 = .ok (.iload_n 1, 1) := by decide +kernel
theorem d_Mo_keep_101 : decode b_Mo_keep 101 = .ok (.aload_n 0, 1) := by decide +kernel
theorem d_Mo_keep_102 : decode b_Mo_keep 102 = .ok (.getfield 81, 3) := by decide +kernel
theorem d_Mo_keep_105 : decode b_Mo_keep 105 = .ok (.if_icmp .ge 29, 3) := by decide +kernel
theorem d_Mo_keep_108 : decode b_Mo_keep 108 = .ok (.aload_n 0, 1) := by decide +kernel
theorem d_Mo_keep_109 : decode b_Mo_keep 109 = .ok (.getfield 50, 3) := by decide +kernel
theorem d_Mo_keep_112 : decode b_Mo_keep 112 = .ok (.bipush 8, 2) := by decide +kernel
theorem d_Mo_keep_114 : decode b_Mo_keep 114 = .ok (.aload_n 0, 1) := by decide +kernel
theorem d_Mo_keep_115 : decode b_Mo_keep 115 = .ok (.getfield 149, 3) := by decide +kernel
theorem d_Mo_keep_118 : decode b_Mo_keep 118 = .ok (.imul, 1) := by decide +kernel
theorem d_Mo_keep_119 : decode b_Mo_keep 119 = .ok (.iload_n 1, 1) := by decide +kernel
theorem d_Mo_keep_120 : decode b_Mo_keep 120 = .ok (.iadd, 1) := by decide +kernel
theorem d_Mo_keep_121 : decode b_Mo_keep 121 = .ok (.aload_n 0, 1) := by decide +kernel
theorem d_Mo_keep_122 : decode b_Mo_keep 122 = .ok (.getfield 41, 3) := by decide +kernel
theorem d_Mo_keep_125 : decode b_Mo_keep 125 = .ok (.iload_n 1, 1) := by decide +kernel
theorem d_Mo_keep_126 : decode b_Mo_keep 126 = .ok (.iaload, 1) := by decide +kernel
theorem d_Mo_keep_127 : decode b_Mo_keep 127 = .ok (.iastore, 1) := by decide +kernel
theorem d_Mo_keep_128 : decode b_Mo_keep 128 = .ok (.iinc 1 1, 3) := by decide +kernel
theorem d_Mo_keep_131 : decode b_Mo_keep 131 = .ok (.goto (-31), 3) := by decide +kernel
theorem d_Mo_keep_134 : decode b_Mo_keep 134 = .ok (.aload_n 0, 1) := by decide +kernel
theorem d_Mo_keep_135 : decode b_Mo_keep 135 = .ok (.dup, 1) := by decide +kernel
theorem d_Mo_keep_136 : decode b_Mo_keep 136 = .ok (.getfield 149, 3) := by decide +kernel
theorem d_Mo_keep_139 : decode b_Mo_keep 139 = .ok (.iconst 1, 1) := by decide +kernel
theorem d_Mo_keep_140 : decode b_Mo_keep 140 = .ok (.iadd, 1) := by decide +kernel
theorem d_Mo_keep_141 : decode b_Mo_keep 141 = .ok (.putfield 149, 3) := by decide +kernel
theorem d_Mo_keep_144 : decode b_Mo_keep 144 = .ok (.return_, 1) := by decide +kernel
theorem d_Mo_undo_0 : decode b_Mo_undo 0 = .ok (.aload_n 0, 1) := by decide +kernel
theorem d_Mo_undo_1 : decode b_Mo_undo 1 = .ok (.getfield 149, 3) := by decide +kernel
theorem d_Mo_undo_4 : decode b_Mo_undo 4 = .ok (.ifCond .ne 5, 3) := by decide +kernel
theorem d_Mo_undo_7 : decode b_Mo_undo 7 = .ok (.iconst 0, 1) := by decide +kernel
theorem d_Mo_undo_8 : decode b_Mo_undo 8 = .ok (.ireturn, 1) := by decide +kernel
theorem d_Mo_undo_9 : decode b_Mo_undo 9 = .ok (.aload_n 0, 1) := by decide +kernel
theorem d_Mo_undo_10 : decode b_Mo_undo 10 = .ok (.dup, 1) := by decide +kernel
theorem d_Mo_undo_11 : decode b_Mo_undo 11 = .ok (.getfield 149, 3) := by decide +kernel
theorem d_Mo_undo_14 : decode b_Mo_undo 14 = .ok (.iconst 1, 1) := by decide +kernel
theorem d_Mo_undo_15 : decode b_Mo_undo 15 = .ok (.isub, 1) := by decide +kernel
theorem d_Mo_undo_16 : decode b_Mo_undo 16 = .ok (.putfield 149, 3) := by decide +kernel
theorem d_Mo_undo_19 : decode b_Mo_undo 19 = .ok (.iconst 0, 1) := by decide +kernel
theorem d_Mo_undo_20 : decode b_Mo_undo 20 = .ok (.istore_n 1, 1) := by decide +kernel
theorem d_Mo_undo_21 : decode b_Mo_undo 21 = .ok (.iload_n 1, 1) := by decide +kernel
theorem d_Mo_undo_22 : decode b_Mo_undo 22 = .ok (.aload_n 0, 1) := by decide +kernel
theorem d_Mo_undo_23 : decode b_Mo_undo 23 = .ok (.getfield 81, 3) := by decide +kernel
theorem d_Mo_undo_26 : decode b_Mo_undo 26 = .ok (.if_icmp .ge 51, 3) := by decide +kernel
theorem d_Mo_undo_29 : decode b_Mo_undo 29 = .ok (.aload_n 0, 1) := by decide +kernel
theorem d_Mo_undo_30 : decode b_Mo_undo 30 = .ok (.getfield 41, 3) := by decide +kernel
theorem d_Mo_undo_33 : decode b_Mo_undo 33 = .ok (.iload_n 1, 1) := by decide +kernel
theorem d_Mo_undo_34 : decode b_Mo_undo 34 = .ok (.iload_n 1, 1) := by decide +kernel
theorem d_Mo_undo_35 : decode b_Mo_undo 35 = .ok (.aload_n 0, 1) := by decide +kernel
theorem d_Mo_undo_36 : decode b_Mo_undo 36 = .ok (.getfield 53, 3) := by decide +kernel
theorem d_Mo_undo_39 : decode b_Mo_undo 39 = .ok (.aload_n 0, 1) := by decide +kernel
theorem d_Mo_undo_40 : decode b_Mo_undo 40 = .ok (.getfield 149, 3) := by decide +kernel
theorem d_Mo_undo_43 : decode b_Mo_undo 43 = .ok (.iaload, 1) := by decide +kernel
theorem d_Mo_undo_44 : decode b_Mo_undo 44 = .ok (.if_icmp .ge 20, 3) := by decide +kernel
theorem d_Mo_undo_47 : decode b_Mo_undo 47 = .ok (.aload_n 0, 1) := by decide +kernel
theorem d_Mo_undo_48 : decode b_Mo_undo 48 = .ok (.getfield 50, 3) := by decide +kernel
theorem d_Mo_undo_51 : decode b_Mo_undo 51 = .ok (.bipush 8, 2) := by decide +kernel
theorem d_Mo_undo_53 : decode b_Mo_undo 53 = .ok (.aload_n 0, 1) := by decide +kernel
theorem d_Mo_undo_54 : decode b_Mo_undo 54 = .ok (.getfield 149, 3) := by decide +kernel
theorem d_Mo_undo_57 : decode b_Mo_undo 57 = .ok (.imul, 1) := by decide +kernel
theorem d_Mo_undo_58 : decode b_Mo_undo 58 = .ok (.iload_n 1, 1) := by decide +kernel
theorem d_Mo_undo_59 : decode b_Mo_undo 59 = .ok (.iadd, 1) := by decide +kernel
theorem d_Mo_undo_60 : decode b_Mo_undo 60 = .ok (.iaload, 1) := by decide +kernel
theorem d_Mo_undo_61 : decode b_Mo_undo 61 = .ok (.goto 9, 3) := by decide +kernel
theorem d_Mo_undo_64 : decode b_Mo_undo 64 = .ok (.aload_n 0, 1) := by decide +kernel
theorem d_Mo_undo_65 : decode b_Mo_undo 65 = .ok (.getfield 16, 3) := by decide +kernel
theorem d_Mo_undo_68 : decode b_Mo_undo 68 = .ok (.iload_n 1, 1) := by decide +kernel
theorem d_Mo_undo_69 : decode b_Mo_undo 69 = .ok (.iaload, 1) := by decide +kernel
theorem d_Mo_undo_70 : decode b_Mo_undo 70 = .ok (.iastore, 1) := by decide +kernel
theorem d_Mo_undo_71 : decode b_Mo_undo 71 = .ok (.iinc 1 1, 3) := by decide +kernel
theorem d_Mo_undo_74 : decode b_Mo_undo 74 = .ok (.goto (-53), 3) := by decide +kernel
theorem d_Mo_undo_77 : decode b_Mo_undo 77 = .ok (.iconst 1, 1) := by decide +kernel
theorem d_Mo_undo_78 : decode b_Mo_undo 78 = .ok (.ireturn, 1) := by decide +kernel
theorem d_Mo_vehicleOf_0 : decode b_Mo_vehicleOf 0 = .ok (.aload_n 0, 1) := by decide +kernel
theorem d_Mo_vehicleOf_1 : decode b_Mo_vehicleOf 1 = .ok (.iload_n 1, 1) := by decide +kernel
theorem d_Mo_vehicleOf_2 : decode b_Mo_vehicleOf 2 = .ok (.invokevirtual 96, 3) := by decide +kernel
theorem d_Mo_vehicleOf_5 : decode b_Mo_vehicleOf 5 = .ok (.ifCond .eq 12, 3) := by decide +kernel
theorem d_Mo_vehicleOf_8 : decode b_Mo_vehicleOf 8 = .ok (.aload_n 0, 1) := by decide +kernel
theorem d_Mo_vehicleOf_9 : decode b_Mo_vehicleOf 9 = .ok (.getfield 41, 3) := by decide +kernel
theorem d_Mo_vehicleOf_12 : decode b_Mo_vehicleOf 12 = .ok (.iload_n 1, 1) := by decide +kernel
theorem d_Mo_vehicleOf_13 : decode b_Mo_vehicleOf 13 = .ok (.iaload, 1) := by decide +kernel
theorem d_Mo_vehicleOf_14 : decode b_Mo_vehicleOf 14 = .ok (.goto 4, 3) := by decide +kernel
theorem d_Mo_vehicleOf_17 : decode b_Mo_vehicleOf 17 = .ok (.iconst (-1), 1) := by decide +kernel
theorem d_Mo_vehicleOf_18 : decode b_Mo_vehicleOf 18 = .ok (.ireturn, 1) := by decide +kernel
theorem d_Mo_place_0 : decode b_Mo_place 0 = .ok (.aload_n 0, 1) := by decide +kernel
theorem d_Mo_place_1 : decode b_Mo_place 1 = .ok (.iload_n 1, 1) := by decide +kernel
theorem d_Mo_place_2 : decode b_Mo_place 2 = .ok (.invokevirtual 96, 3) := by decide +kernel
theorem d_Mo_place_5 : decode b_Mo_place 5 = .ok (.ifCond .eq 16, 3) := by decide +kernel
theorem d_Mo_place_8 : decode b_Mo_place 8 = .ok (.aload_n 0, 1) := by decide +kernel
theorem d_Mo_place_9 : decode b_Mo_place 9 = .ok (.getfield 41, 3) := by decide +kernel
theorem d_Mo_place_12 : decode b_Mo_place 12 = .ok (.iload_n 1, 1) := by decide +kernel
theorem d_Mo_place_13 : decode b_Mo_place 13 = .ok (.iaload, 1) := by decide +kernel
theorem d_Mo_place_14 : decode b_Mo_place 14 = .ok (.aload_n 0, 1) := by decide +kernel
theorem d_Mo_place_15 : decode b_Mo_place 15 = .ok (.getfield 77, 3) := by decide +kernel
theorem d_Mo_place_18 : decode b_Mo_place 18 = .ok (.if_icmp .ne 5, 3) := by decide +kernel
theorem d_Mo_place_21 : decode b_Mo_place 21 = .ok (.iconst (-1), 1) := by decide +kernel
theorem d_Mo_place_22 : decode b_Mo_place 22 = .ok (.ireturn, 1) := by decide +kernel
theorem d_Mo_place_23 : decode b_Mo_place 23 = .ok (.aload_n 0, 1) := by decide +kernel
theorem d_Mo_place_24 : decode b_Mo_place 24 = .ok (.aload_n 0, 1) := by decide +kernel
theorem d_Mo_place_25 : decode b_Mo_place 25 = .ok (.getfield 41, 3) := by decide +kernel
theorem d_Mo_place_28 : decode b_Mo_place 28 = .ok (.aload_n 0, 1) := by decide +kernel
theorem d_Mo_place_29 : decode b_Mo_place 29 = .ok (.getfield 41, 3) := by decide +kernel
theorem d_Mo_place_32 : decode b_Mo_place 32 = .ok (.iload_n 1, 1) := by decide +kernel
theorem d_Mo_place_33 : decode b_Mo_place 33 = .ok (.iaload, 1) := by decide +kernel
theorem d_Mo_place_34 : decode b_Mo_place 34 = .ok (.invokevirtual 109, 3) := by decide +kernel
theorem d_Mo_place_37 : decode b_Mo_place 37 = .ok (.iconst 0, 1) := by decide +kernel
theorem d_Mo_place_38 : decode b_Mo_place 38 = .ok (.istore_n 2, 1) := by decide +kernel
theorem d_Mo_place_39 : decode b_Mo_place 39 = .ok (.iload_n 2, 1) := by decide +kernel
theorem d_Mo_place_40 : decode b_Mo_place 40 = .ok (.aload_n 0, 1) := by decide +kernel
theorem d_Mo_place_41 : decode b_Mo_place 41 = .ok (.getfield 106, 3) := by decide +kernel
theorem d_Mo_place_44 : decode b_Mo_place 44 = .ok (.if_icmp .ge 21, 3) := by decide +kernel
theorem d_Mo_place_47 : decode b_Mo_place 47 = .ok (.aload_n 0, 1) := by decide +kernel
theorem d_Mo_place_48 : decode b_Mo_place 48 = .ok (.getfield 68, 3) := by decide +kernel
theorem d_Mo_place_51 : decode b_Mo_place 51 = .ok (.iload_n 2, 1) := by decide +kernel
theorem d_Mo_place_52 : decode b_Mo_place 52 = .ok (.iaload, 1) := by decide +kernel
theorem d_Mo_place_53 : decode b_Mo_place 53 = .ok (.iload_n 1, 1) := by decide +kernel
theorem d_Mo_place_54 : decode b_Mo_place 54 = .ok (.if_icmp .ne 5, 3) := by decide +kernel
theorem d_Mo_place_57 : decode b_Mo_place 57 = .ok (.iload_n 2, 1) := by decide +kernel
theorem d_Mo_place_58 : decode b_Mo_place 58 = .ok (.ireturn, 1) := by decide +kernel
theorem d_Mo_place_59 : decode b_Mo_place 59 = .ok (.iinc 2 1, 3) := by decide +kernel
theorem d_Mo_place_62 : decode b_Mo_place 62 = .ok (.goto (-23), 3) := by decide +kernel
theorem d_Mo_place_65 : decode b_Mo_place 65 = .ok (.iconst (-1), 1) := by decide +kernel
theorem d_Mo_place_66 : decode b_Mo_place 66 = .ok (.ireturn, 1) := by decide +kernel
theorem d_Mo_moved_0 : decode b_Mo_moved 0 = .ok (.iconst 0, 1) := by decide +kernel
theorem d_Mo_moved_1 : decode b_Mo_moved 1 = .ok (.istore_n 2, 1) := by decide +kernel
theorem d_Mo_moved_2 : decode b_Mo_moved 2 = .ok (.iconst 0, 1) := by decide +kernel
theorem d_Mo_moved_3 : decode b_Mo_moved 3 = .ok (.istore_n 3, 1) := by decide +kernel
theorem d_Mo_moved_4 : decode b_Mo_moved 4 = .ok (.iload_n 3, 1) := by decide +kernel
theorem d_Mo_moved_5 : decode b_Mo_moved 5 = .ok (.aload_n 0, 1) := by decide +kernel
theorem d_Mo_moved_6 : decode b_Mo_moved 6 = .ok (.getfield 81, 3) := by decide +kernel
theorem d_Mo_moved_9 : decode b_Mo_moved 9 = .ok (.if_icmp .ge 34, 3) := by decide +kernel
theorem d_Mo_moved_12 : decode b_Mo_moved 12 = .ok (.aload_n 0, 1) := by decide +kernel
theorem d_Mo_moved_13 : decode b_Mo_moved 13 = .ok (.getfield 41, 3) := by decide +kernel
theorem d_Mo_moved_16 : decode b_Mo_moved 16 = .ok (.iload_n 3, 1) := by decide +kernel
theorem d_Mo_moved_17 : decode b_Mo_moved 17 = .ok (.iaload, 1) := by decide +kernel
theorem d_Mo_moved_18 : decode b_Mo_moved 18 = .ok (.aload_n 0, 1) := by decide +kernel
theorem d_Mo_moved_19 : decode b_Mo_moved 19 = .ok (.getfield 16, 3) := by decide +kernel
theorem d_Mo_moved_22 : decode b_Mo_moved 22 = .ok (.iload_n 3, 1) := by decide +kernel
theorem d_Mo_moved_23 : decode b_Mo_moved 23 = .ok (.iaload, 1) := by decide +kernel
theorem d_Mo_moved_24 : decode b_Mo_moved 24 = .ok (.if_icmp .eq 13, 3) := by decide +kernel
theorem d_Mo_moved_27 : decode b_Mo_moved 27 = .ok (.iload_n 2, 1) := by decide +kernel
theorem d_Mo_moved_28 : decode b_Mo_moved 28 = .ok (.iload_n 1, 1) := by decide +kernel
theorem d_Mo_moved_29 : decode b_Mo_moved 29 = .ok (.if_icmp .ne 5, 3) := by decide +kernel
theorem d_Mo_moved_32 : decode b_Mo_moved 32 = .ok (.iload_n 3, 1) := by decide +kernel
theorem d_Mo_moved_33 : decode b_Mo_moved 33 = .ok (.ireturn, 1) := by decide +kernel
theorem d_Mo_moved_34 : decode b_Mo_moved 34 = .ok (.iinc 2 1, 3) := by decide +kernel
theorem d_Mo_moved_37 : decode b_Mo_moved 37 = .ok (.iinc 3 1, 3) := by decide +kernel
theorem d_Mo_moved_40 : decode b_Mo_moved 40 = .ok (.goto (-36), 3) := by decide +kernel
theorem d_Mo_moved_43 : decode b_Mo_moved 43 = .ok (.iconst (-1), 1) := by decide +kernel
theorem d_Mo_moved_44 : decode b_Mo_moved 44 = .ok (.ireturn, 1) := by decide +kernel
theorem d_Mo_carried_0 : decode b_Mo_carried 0 = .ok (.iconst 0, 1) := by decide +kernel
theorem d_Mo_carried_1 : decode b_Mo_carried 1 = .ok (.istore_n 2, 1) := by decide +kernel
theorem d_Mo_carried_2 : decode b_Mo_carried 2 = .ok (.iconst 0, 1) := by decide +kernel
theorem d_Mo_carried_3 : decode b_Mo_carried 3 = .ok (.istore_n 3, 1) := by decide +kernel
theorem d_Mo_carried_4 : decode b_Mo_carried 4 = .ok (.iload_n 3, 1) := by decide +kernel
theorem d_Mo_carried_5 : decode b_Mo_carried 5 = .ok (.aload_n 0, 1) := by decide +kernel
theorem d_Mo_carried_6 : decode b_Mo_carried 6 = .ok (.getfield 81, 3) := by decide +kernel
theorem d_Mo_carried_9 : decode b_Mo_carried 9 = .ok (.if_icmp .ge 32, 3) := by decide +kernel
theorem d_Mo_carried_12 : decode b_Mo_carried 12 = .ok (.aload_n 0, 1) := by decide +kernel
theorem d_Mo_carried_13 : decode b_Mo_carried 13 = .ok (.getfield 41, 3) := by decide +kernel
theorem d_Mo_carried_16 : decode b_Mo_carried 16 = .ok (.iload_n 3, 1) := by decide +kernel
theorem d_Mo_carried_17 : decode b_Mo_carried 17 = .ok (.iaload, 1) := by decide +kernel
theorem d_Mo_carried_18 : decode b_Mo_carried 18 = .ok (.aload_n 0, 1) := by decide +kernel
theorem d_Mo_carried_19 : decode b_Mo_carried 19 = .ok (.getfield 77, 3) := by decide +kernel
theorem d_Mo_carried_22 : decode b_Mo_carried 22 = .ok (.if_icmp .ne 13, 3) := by decide +kernel
theorem d_Mo_carried_25 : decode b_Mo_carried 25 = .ok (.iload_n 2, 1) := by decide +kernel
theorem d_Mo_carried_26 : decode b_Mo_carried 26 = .ok (.iload_n 1, 1) := by decide +kernel
theorem d_Mo_carried_27 : decode b_Mo_carried 27 = .ok (.if_icmp .ne 5, 3) := by decide +kernel
theorem d_Mo_carried_30 : decode b_Mo_carried 30 = .ok (.iload_n 3, 1) := by decide +kernel
theorem d_Mo_carried_31 : decode b_Mo_carried 31 = .ok (.ireturn, 1) := by decide +kernel
theorem d_Mo_carried_32 : decode b_Mo_carried 32 = .ok (.iinc 2 1, 3) := by decide +kernel
theorem d_Mo_carried_35 : decode b_Mo_carried 35 = .ok (.iinc 3 1, 3) := by decide +kernel
theorem d_Mo_carried_38 : decode b_Mo_carried 38 = .ok (.goto (-34), 3) := by decide +kernel
theorem d_Mo_carried_41 : decode b_Mo_carried 41 = .ok (.iconst (-1), 1) := by decide +kernel
theorem d_Mo_carried_42 : decode b_Mo_carried 42 = .ok (.ireturn, 1) := by decide +kernel
theorem d_Mo_send_0 : decode b_Mo_send 0 = .ok (.iconst 0, 1) := by decide +kernel
theorem d_Mo_send_1 : decode b_Mo_send 1 = .ok (.istore_n 1, 1) := by decide +kernel
theorem d_Mo_send_2 : decode b_Mo_send 2 = .ok (.iconst 0, 1) := by decide +kernel
theorem d_Mo_send_3 : decode b_Mo_send 3 = .ok (.istore_n 2, 1) := by decide +kernel
theorem d_Mo_send_4 : decode b_Mo_send 4 = .ok (.iload_n 2, 1) := by decide +kernel
theorem d_Mo_send_5 : decode b_Mo_send 5 = .ok (.aload_n 0, 1) := by decide +kernel
theorem d_Mo_send_6 : decode b_Mo_send 6 = .ok (.getfield 81, 3) := by decide +kernel
theorem d_Mo_send_9 : decode b_Mo_send 9 = .ok (.if_icmp .ge 49, 3) := by decide +kernel
theorem d_Mo_send_12 : decode b_Mo_send 12 = .ok (.aload_n 0, 1) := by decide +kernel
theorem d_Mo_send_13 : decode b_Mo_send 13 = .ok (.getfield 41, 3) := by decide +kernel
theorem d_Mo_send_16 : decode b_Mo_send 16 = .ok (.iload_n 2, 1) := by decide +kernel
theorem d_Mo_send_17 : decode b_Mo_send 17 = .ok (.iaload, 1) := by decide +kernel
theorem d_Mo_send_18 : decode b_Mo_send 18 = .ok (.aload_n 0, 1) := by decide +kernel
theorem d_Mo_send_19 : decode b_Mo_send 19 = .ok (.getfield 62, 3) := by decide +kernel
theorem d_Mo_send_22 : decode b_Mo_send 22 = .ok (.iload_n 2, 1) := by decide +kernel
theorem d_Mo_send_23 : decode b_Mo_send 23 = .ok (.iaload, 1) := by decide +kernel
theorem d_Mo_send_24 : decode b_Mo_send 24 = .ok (.if_icmp .eq 28, 3) := by decide +kernel
theorem d_Mo_send_27 : decode b_Mo_send 27 = .ok (.aload_n 0, 1) := by decide +kernel
theorem d_Mo_send_28 : decode b_Mo_send 28 = .ok (.getfield 62, 3) := by decide +kernel
theorem d_Mo_send_31 : decode b_Mo_send 31 = .ok (.iload_n 2, 1) := by decide +kernel
theorem d_Mo_send_32 : decode b_Mo_send 32 = .ok (.aload_n 0, 1) := by decide +kernel
theorem d_Mo_send_33 : decode b_Mo_send 33 = .ok (.getfield 41, 3) := by decide +kernel
theorem d_Mo_send_36 : decode b_Mo_send 36 = .ok (.iload_n 2, 1) := by decide +kernel
theorem d_Mo_send_37 : decode b_Mo_send 37 = .ok (.iaload, 1) := by decide +kernel
theorem d_Mo_send_38 : decode b_Mo_send 38 = .ok (.iastore, 1) := by decide +kernel
theorem d_Mo_send_39 : decode b_Mo_send 39 = .ok (.aload_n 0, 1) := by decide +kernel
theorem d_Mo_send_40 : decode b_Mo_send 40 = .ok (.getfield 65, 3) := by decide +kernel
theorem d_Mo_send_43 : decode b_Mo_send 43 = .ok (.iload_n 2, 1) := by decide +kernel
theorem d_Mo_send_44 : decode b_Mo_send 44 = .ok (.dup2, 1) := by decide +kernel
theorem d_Mo_send_45 : decode b_Mo_send 45 = .ok (.iaload, 1) := by decide +kernel
theorem d_Mo_send_46 : decode b_Mo_send 46 = .ok (.iconst 1, 1) := by decide +kernel
theorem d_Mo_send_47 : decode b_Mo_send 47 = .ok (.iadd, 1) := by decide +kernel
theorem d_Mo_send_48 : decode b_Mo_send 48 = .ok (.iastore, 1) := by decide +kernel
theorem d_Mo_send_49 : decode b_Mo_send 49 = .ok (.iinc 1 1, 3) := by decide +kernel
theorem d_Mo_send_52 : decode b_Mo_send 52 = .ok (.iinc 2 1, 3) := by decide +kernel
theorem d_Mo_send_55 : decode b_Mo_send 55 = .ok (.goto (-51), 3) := by decide +kernel
theorem d_Mo_send_58 : decode b_Mo_send 58 = .ok (.iload_n 1, 1) := by decide +kernel
theorem d_Mo_send_59 : decode b_Mo_send 59 = .ok (.ireturn, 1) := by decide +kernel
theorem d_Mo_sent_0 : decode b_Mo_sent 0 = .ok (.aload_n 0, 1) := by decide +kernel
theorem d_Mo_sent_1 : decode b_Mo_sent 1 = .ok (.iload_n 1, 1) := by decide +kernel
theorem d_Mo_sent_2 : decode b_Mo_sent 2 = .ok (.invokevirtual 96, 3) := by decide +kernel
theorem d_Mo_sent_5 : decode b_Mo_sent 5 = .ok (.ifCond .eq 12, 3) := by decide +kernel
theorem d_Mo_sent_8 : decode b_Mo_sent 8 = .ok (.aload_n 0, 1) := by decide +kernel
theorem d_Mo_sent_9 : decode b_Mo_sent 9 = .ok (.getfield 65, 3) := by decide +kernel
theorem d_Mo_sent_12 : decode b_Mo_sent 12 = .ok (.iload_n 1, 1) := by decide +kernel
theorem d_Mo_sent_13 : decode b_Mo_sent 13 = .ok (.iaload, 1) := by decide +kernel
theorem d_Mo_sent_14 : decode b_Mo_sent 14 = .ok (.goto 4, 3) := by decide +kernel
theorem d_Mo_sent_17 : decode b_Mo_sent 17 = .ok (.iconst (-1), 1) := by decide +kernel
theorem d_Mo_sent_18 : decode b_Mo_sent 18 = .ok (.ireturn, 1) := by decide +kernel
theorem d_Mo_copy_0 : decode b_Mo_copy 0 = .ok (.aload_n 0, 1) := by decide +kernel
theorem d_Mo_copy_1 : decode b_Mo_copy 1 = .ok (.getfield 152, 3) := by decide +kernel
theorem d_Mo_copy_4 : decode b_Mo_copy 4 = .ok (.iconst 4, 1) := by decide +kernel
theorem d_Mo_copy_5 : decode b_Mo_copy 5 = .ok (.if_icmp .ne 5, 3) := by decide +kernel
theorem d_Mo_copy_8 : decode b_Mo_copy 8 = .ok (.iconst (-1), 1) := by decide +kernel
theorem d_Mo_copy_9 : decode b_Mo_copy 9 = .ok (.ireturn, 1) := by decide +kernel
theorem d_Mo_copy_10 : decode b_Mo_copy 10 = .ok (.aload_n 0, 1) := by decide +kernel
theorem d_Mo_copy_11 : decode b_Mo_copy 11 = .ok (.getfield 59, 3) := by decide +kernel
theorem d_Mo_copy_14 : decode b_Mo_copy 14 = .ok (.aload_n 0, 1) := by decide +kernel
theorem d_Mo_copy_15 : decode b_Mo_copy 15 = .ok (.getfield 152, 3) := by decide +kernel
theorem d_Mo_copy_18 : decode b_Mo_copy 18 = .ok (.aload_n 0, 1) := by decide +kernel
theorem d_Mo_copy_19 : decode b_Mo_copy 19 = .ok (.getfield 81, 3) := by decide +kernel
theorem d_Mo_copy_22 : decode b_Mo_copy 22 = .ok (.iastore, 1) := by decide +kernel
theorem d_Mo_copy_23 : decode b_Mo_copy 23 = .ok (.iconst 0, 1) := by decide +kernel
theorem d_Mo_copy_24 : decode b_Mo_copy 24 = .ok (.istore_n 1, 1) := by decide +kernel
theorem d_Mo_copy_25 : decode b_Mo_copy 25 = .ok (.iload_n 1, 1) := by decide +kernel
theorem d_Mo_copy_26 : decode b_Mo_copy 26 = .ok (.aload_n 0, 1) := by decide +kernel
theorem d_Mo_copy_27 : decode b_Mo_copy 27 = .ok (.getfield 81, 3) := by decide +kernel
theorem d_Mo_copy_30 : decode b_Mo_copy 30 = .ok (.if_icmp .ge 29, 3) := by decide +kernel
theorem d_Mo_copy_33 : decode b_Mo_copy 33 = .ok (.aload_n 0, 1) := by decide +kernel
theorem d_Mo_copy_34 : decode b_Mo_copy 34 = .ok (.getfield 56, 3) := by decide +kernel
theorem d_Mo_copy_37 : decode b_Mo_copy 37 = .ok (.bipush 8, 2) := by decide +kernel
theorem d_Mo_copy_39 : decode b_Mo_copy 39 = .ok (.aload_n 0, 1) := by decide +kernel
theorem d_Mo_copy_40 : decode b_Mo_copy 40 = .ok (.getfield 152, 3) := by decide +kernel
theorem d_Mo_copy_43 : decode b_Mo_copy 43 = .ok (.imul, 1) := by decide +kernel
theorem d_Mo_copy_44 : decode b_Mo_copy 44 = .ok (.iload_n 1, 1) := by decide +kernel
theorem d_Mo_copy_45 : decode b_Mo_copy 45 = .ok (.iadd, 1) := by decide +kernel
theorem d_Mo_copy_46 : decode b_Mo_copy 46 = .ok (.aload_n 0, 1) := by decide +kernel
theorem d_Mo_copy_47 : decode b_Mo_copy 47 = .ok (.getfield 41, 3) := by decide +kernel
theorem d_Mo_copy_50 : decode b_Mo_copy 50 = .ok (.iload_n 1, 1) := by decide +kernel
theorem d_Mo_copy_51 : decode b_Mo_copy 51 = .ok (.iaload, 1) := by decide +kernel
theorem d_Mo_copy_52 : decode b_Mo_copy 52 = .ok (.iastore, 1) := by decide +kernel
theorem d_Mo_copy_53 : decode b_Mo_copy 53 = .ok (.iinc 1 1, 3) := by decide +kernel
theorem d_Mo_copy_56 : decode b_Mo_copy 56 = .ok (.goto (-31), 3) := by decide +kernel
theorem d_Mo_copy_59 : decode b_Mo_copy 59 = .ok (.aload_n 0, 1) := by decide +kernel
theorem d_Mo_copy_60 : decode b_Mo_copy 60 = .ok (.dup, 1) := by decide +kernel
theorem d_Mo_copy_61 : decode b_Mo_copy 61 = .ok (.getfield 152, 3) := by decide +kernel
theorem d_Mo_copy_64 : decode b_Mo_copy 64 = .ok (.iconst 1, 1) := by decide +kernel
theorem d_Mo_copy_65 : decode b_Mo_copy 65 = .ok (.iadd, 1) := by decide +kernel
theorem d_Mo_copy_66 : decode b_Mo_copy 66 = .ok (.putfield 152, 3) := by decide +kernel
theorem d_Mo_copy_69 : decode b_Mo_copy 69 = .ok (.aload_n 0, 1) := by decide +kernel
theorem d_Mo_copy_70 : decode b_Mo_copy 70 = .ok (.getfield 152, 3) := by decide +kernel
theorem d_Mo_copy_73 : decode b_Mo_copy 73 = .ok (.iconst 1, 1) := by decide +kernel
theorem d_Mo_copy_74 : decode b_Mo_copy 74 = .ok (.isub, 1) := by decide +kernel
theorem d_Mo_copy_75 : decode b_Mo_copy 75 = .ok (.ireturn, 1) := by decide +kernel
theorem d_Mo_compare_0 : decode b_Mo_compare 0 = .ok (.iload_n 1, 1) := by decide +kernel
theorem d_Mo_compare_1 : decode b_Mo_compare 1 = .ok (.ifCond .lt 11, 3) := by decide +kernel
theorem d_Mo_compare_4 : decode b_Mo_compare 4 = .ok (.iload_n 1, 1) := by decide +kernel
theorem d_Mo_compare_5 : decode b_Mo_compare 5 = .ok (.aload_n 0, 1) := by decide +kernel
theorem d_Mo_compare_6 : decode b_Mo_compare 6 = .ok (.getfield 152, 3) := by decide +kernel
theorem d_Mo_compare_9 : decode b_Mo_compare 9 = .ok (.if_icmp .lt 5, 3) := by decide +kernel
theorem d_Mo_compare_12 : decode b_Mo_compare 12 = .ok (.iconst (-1), 1) := by decide +kernel
theorem d_Mo_compare_13 : decode b_Mo_compare 13 = .ok (.ireturn, 1) := by decide +kernel
theorem d_Mo_compare_14 : decode b_Mo_compare 14 = .ok (.iconst 0, 1) := by decide +kernel
theorem d_Mo_compare_15 : decode b_Mo_compare 15 = .ok (.istore_n 3, 1) := by decide +kernel
theorem d_Mo_compare_16 : decode b_Mo_compare 16 = .ok (.iconst 0, 1) := by decide +kernel
theorem d_Mo_compare_17 : decode b_Mo_compare 17 = .ok (.istore 4, 2) := by decide +kernel
theorem d_Mo_compare_19 : decode b_Mo_compare 19 = .ok (.iload 4, 2) := by decide +kernel
theorem d_Mo_compare_21 : decode b_Mo_compare 21 = .ok (.aload_n 0, 1) := by decide +kernel
theorem d_Mo_compare_22 : decode b_Mo_compare 22 = .ok (.getfield 59, 3) := by decide +kernel
theorem d_Mo_compare_25 : decode b_Mo_compare 25 = .ok (.iload_n 1, 1) := by decide +kernel
theorem d_Mo_compare_26 : decode b_Mo_compare 26 = .ok (.iaload, 1) := by decide +kernel
theorem d_Mo_compare_27 : decode b_Mo_compare 27 = .ok (.if_icmp .ge 42, 3) := by decide +kernel
theorem d_Mo_compare_30 : decode b_Mo_compare 30 = .ok (.aload_n 0, 1) := by decide +kernel
theorem d_Mo_compare_31 : decode b_Mo_compare 31 = .ok (.getfield 56, 3) := by decide +kernel
theorem d_Mo_compare_34 : decode b_Mo_compare 34 = .ok (.bipush 8, 2) := by decide +kernel
theorem d_Mo_compare_36 : decode b_Mo_compare 36 = .ok (.iload_n 1, 1) := by decide +kernel
theorem d_Mo_compare_37 : decode b_Mo_compare 37 = .ok (.imul, 1) := by decide +kernel
theorem d_Mo_compare_38 : decode b_Mo_compare 38 = .ok (.iload 4, 2) := by decide +kernel
theorem d_Mo_compare_40 : decode b_Mo_compare 40 = .ok (.iadd, 1) := by decide +kernel
theorem d_Mo_compare_41 : decode b_Mo_compare 41 = .ok (.iaload, 1) := by decide +kernel
theorem d_Mo_compare_42 : decode b_Mo_compare 42 = .ok (.aload_n 0, 1) := by decide +kernel
theorem d_Mo_compare_43 : decode b_Mo_compare 43 = .ok (.getfield 41, 3) := by decide +kernel
theorem d_Mo_compare_46 : decode b_Mo_compare 46 = .ok (.iload 4, 2) := by decide +kernel
theorem d_Mo_compare_48 : decode b_Mo_compare 48 = .ok (.iaload, 1) := by decide +kernel
theorem d_Mo_compare_49 : decode b_Mo_compare 49 = .ok (.if_icmp .eq 14, 3) := by decide +kernel
theorem d_Mo_compare_52 : decode b_Mo_compare 52 = .ok (.iload_n 3, 1) := by decide +kernel
theorem d_Mo_compare_53 : decode b_Mo_compare 53 = .ok (.iload_n 2, 1) := by decide +kernel
theorem d_Mo_compare_54 : decode b_Mo_compare 54 = .ok (.if_icmp .ne 6, 3) := by decide +kernel
theorem d_Mo_compare_57 : decode b_Mo_compare 57 = .ok (.iload 4, 2) := by decide +kernel
theorem d_Mo_compare_59 : decode b_Mo_compare 59 = .ok (.ireturn, 1) := by decide +kernel
theorem d_Mo_compare_60 : decode b_Mo_compare 60 = .ok (.iinc 3 1, 3) := by decide +kernel
theorem d_Mo_compare_63 : decode b_Mo_compare 63 = .ok (.iinc 4 1, 3) := by decide +kernel
theorem d_Mo_compare_66 : decode b_Mo_compare 66 = .ok (.goto (-47), 3) := by decide +kernel
theorem d_Mo_compare_69 : decode b_Mo_compare 69 = .ok (.iconst (-1), 1) := by decide +kernel
theorem d_Mo_compare_70 : decode b_Mo_compare 70 = .ok (.ireturn, 1) := by decide +kernel
theorem d_Mo_next_0 : decode b_Mo_next 0 = .ok (.iconst 0, 1) := by decide +kernel
theorem d_Mo_next_1 : decode b_Mo_next 1 = .ok (.istore_n 1, 1) := by decide +kernel
theorem d_Mo_next_2 : decode b_Mo_next 2 = .ok (.iconst 0, 1) := by decide +kernel
theorem d_Mo_next_3 : decode b_Mo_next 3 = .ok (.istore_n 2, 1) := by decide +kernel
theorem d_Mo_next_4 : decode b_Mo_next 4 = .ok (.iload_n 2, 1) := by decide +kernel
theorem d_Mo_next_5 : decode b_Mo_next 5 = .ok (.aload_n 0, 1) := by decide +kernel
theorem d_Mo_next_6 : decode b_Mo_next 6 = .ok (.getfield 77, 3) := by decide +kernel
theorem d_Mo_next_9 : decode b_Mo_next 9 = .ok (.if_icmp .ge 132, 3) := by decide +kernel
theorem d_Mo_next_12 : decode b_Mo_next 12 = .ok (.iconst 0, 1) := by decide +kernel
theorem d_Mo_next_13 : decode b_Mo_next 13 = .ok (.istore_n 3, 1) := by decide +kernel
theorem d_Mo_next_14 : decode b_Mo_next 14 = .ok (.iconst 0, 1) := by decide +kernel
theorem d_Mo_next_15 : decode b_Mo_next 15 = .ok (.istore 4, 2) := by decide +kernel
theorem d_Mo_next_17 : decode b_Mo_next 17 = .ok (.iload 4, 2) := by decide +kernel
theorem d_Mo_next_19 : decode b_Mo_next 19 = .ok (.aload_n 0, 1) := by decide +kernel
theorem d_Mo_next_20 : decode b_Mo_next 20 = .ok (.getfield 81, 3) := by decide +kernel
theorem d_Mo_next_23 : decode b_Mo_next 23 = .ok (.if_icmp .ge 56, 3) := by decide +kernel
theorem d_Mo_next_26 : decode b_Mo_next 26 = .ok (.aload_n 0, 1) := by decide +kernel
theorem d_Mo_next_27 : decode b_Mo_next 27 = .ok (.getfield 41, 3) := by decide +kernel
theorem d_Mo_next_30 : decode b_Mo_next 30 = .ok (.iload 4, 2) := by decide +kernel
theorem d_Mo_next_32 : decode b_Mo_next 32 = .ok (.iaload, 1) := by decide +kernel
theorem d_Mo_next_33 : decode b_Mo_next 33 = .ok (.aload_n 0, 1) := by decide +kernel
theorem d_Mo_next_34 : decode b_Mo_next 34 = .ok (.getfield 77, 3) := by decide +kernel
theorem d_Mo_next_37 : decode b_Mo_next 37 = .ok (.if_icmp .ne 36, 3) := by decide +kernel
theorem d_Mo_next_40 : decode b_Mo_next 40 = .ok (.aload_n 0, 1) := by decide +kernel
theorem d_Mo_next_41 : decode b_Mo_next 41 = .ok (.getfield 16, 3) := by decide +kernel
theorem d_Mo_next_44 : decode b_Mo_next 44 = .ok (.iload 4, 2) := by decide +kernel
theorem d_Mo_next_46 : decode b_Mo_next 46 = .ok (.iaload, 1) := by decide +kernel
theorem d_Mo_next_47 : decode b_Mo_next 47 = .ok (.iload_n 2, 1) := by decide +kernel
theorem d_Mo_next_48 : decode b_Mo_next 48 = .ok (.if_icmp .ne 25, 3) := by decide +kernel
theorem d_Mo_next_51 : decode b_Mo_next 51 = .ok (.aload_n 0, 1) := by decide +kernel
theorem d_Mo_next_52 : decode b_Mo_next 52 = .ok (.getfield 71, 3) := by decide +kernel
theorem d_Mo_next_55 : decode b_Mo_next 55 = .ok (.iload 4, 2) := by decide +kernel
theorem d_Mo_next_57 : decode b_Mo_next 57 = .ok (.iload_n 2, 1) := by decide +kernel
theorem d_Mo_next_58 : decode b_Mo_next 58 = .ok (.iastore, 1) := by decide +kernel
theorem d_Mo_next_59 : decode b_Mo_next 59 = .ok (.aload_n 0, 1) := by decide +kernel
theorem d_Mo_next_60 : decode b_Mo_next 60 = .ok (.getfield 74, 3) := by decide +kernel
theorem d_Mo_next_63 : decode b_Mo_next 63 = .ok (.iload 4, 2) := by decide +kernel
theorem d_Mo_next_65 : decode b_Mo_next 65 = .ok (.iload_n 3, 1) := by decide +kernel
theorem d_Mo_next_66 : decode b_Mo_next 66 = .ok (.iastore, 1) := by decide +kernel
theorem d_Mo_next_67 : decode b_Mo_next 67 = .ok (.iinc 3 1, 3) := by decide +kernel
theorem d_Mo_next_70 : decode b_Mo_next 70 = .ok (.iinc 1 1, 3) := by decide +kernel
theorem d_Mo_next_73 : decode b_Mo_next 73 = .ok (.iinc 4 1, 3) := by decide +kernel
theorem d_Mo_next_76 : decode b_Mo_next 76 = .ok (.goto (-59), 3) := by decide +kernel
theorem d_Mo_next_79 : decode b_Mo_next 79 = .ok (.aload_n 0, 1) := by decide +kernel
theorem d_Mo_next_80 : decode b_Mo_next 80 = .ok (.aload_n 0, 1) := by decide +kernel
theorem d_Mo_next_81 : decode b_Mo_next 81 = .ok (.getfield 41, 3) := by decide +kernel
theorem d_Mo_next_84 : decode b_Mo_next 84 = .ok (.iload_n 2, 1) := by decide +kernel
theorem d_Mo_next_85 : decode b_Mo_next 85 = .ok (.invokevirtual 109, 3) := by decide +kernel
theorem d_Mo_next_88 : decode b_Mo_next 88 = .ok (.iconst 0, 1) := by decide +kernel
theorem d_Mo_next_89 : decode b_Mo_next 89 = .ok (.istore 4, 2) := by decide +kernel
theorem d_Mo_next_91 : decode b_Mo_next 91 = .ok (.iload 4, 2) := by decide +kernel
theorem d_Mo_next_93 : decode b_Mo_next 93 = .ok (.aload_n 0, 1) := by decide +kernel
theorem d_Mo_next_94 : decode b_Mo_next 94 = .ok (.getfield 106, 3) := by decide +kernel
theorem d_Mo_next_97 : decode b_Mo_next 97 = .ok (.if_icmp .ge 38, 3) := by decide +kernel
theorem d_Mo_next_100 : decode b_Mo_next 100 = .ok (.aload_n 0, 1) := by decide +kernel
theorem d_Mo_next_101 : decode b_Mo_next 101 = .ok (.getfield 71, 3) := by decide +kernel
theorem d_Mo_next_104 : decode b_Mo_next 104 = .ok (.aload_n 0, 1) := by decide +kernel
theorem d_Mo_next_105 : decode b_Mo_next 105 = .ok (.getfield 68, 3) := by decide +kernel
theorem d_Mo_next_108 : decode b_Mo_next 108 = .ok (.iload 4, 2) := by decide +kernel
theorem d_Mo_next_110 : decode b_Mo_next 110 = .ok (.iaload, 1) := by decide +kernel
theorem d_Mo_next_111 : decode b_Mo_next 111 = .ok (.iload_n 2, 1) := by decide +kernel
theorem d_Mo_next_112 : decode b_Mo_next 112 = .ok (.iastore, 1) := by decide +kernel
theorem d_Mo_next_113 : decode b_Mo_next 113 = .ok (.aload_n 0, 1) := by decide +kernel
theorem d_Mo_next_114 : decode b_Mo_next 114 = .ok (.getfield 74, 3) := by decide +kernel
theorem d_Mo_next_117 : decode b_Mo_next 117 = .ok (.aload_n 0, 1) := by decide +kernel
theorem d_Mo_next_118 : decode b_Mo_next 118 = .ok (.getfield 68, 3) := by decide +kernel
theorem d_Mo_next_121 : decode b_Mo_next 121 = .ok (.iload 4, 2) := by decide +kernel
theorem d_Mo_next_123 : decode b_Mo_next 123 = .ok (.iaload, 1) := by decide +kernel
theorem d_Mo_next_124 : decode b_Mo_next 124 = .ok (.iload_n 3, 1) := by decide +kernel
theorem d_Mo_next_125 : decode b_Mo_next 125 = .ok (.iastore, 1) := by decide +kernel
theorem d_Mo_next_126 : decode b_Mo_next 126 = .ok (.iinc 3 1, 3) := by decide +kernel
theorem d_Mo_next_129 : decode b_Mo_next 129 = .ok (.iinc 4 1, 3) := by decide +kernel
theorem d_Mo_next_132 : decode b_Mo_next 132 = .ok (.goto (-41), 3) := by decide +kernel
theorem d_Mo_next_135 : decode b_Mo_next 135 = .ok (.iinc 2 1, 3) := by decide +kernel
theorem d_Mo_next_138 : decode b_Mo_next 138 = .ok (.goto (-134), 3) := by decide +kernel
theorem d_Mo_next_141 : decode b_Mo_next 141 = .ok (.iconst 0, 1) := by decide +kernel
theorem d_Mo_next_142 : decode b_Mo_next 142 = .ok (.istore_n 2, 1) := by decide +kernel
theorem d_Mo_next_143 : decode b_Mo_next 143 = .ok (.iload_n 2, 1) := by decide +kernel
theorem d_Mo_next_144 : decode b_Mo_next 144 = .ok (.iconst 3, 1) := by decide +kernel
theorem d_Mo_next_145 : decode b_Mo_next 145 = .ok (.if_icmp .ge 24, 3) := by decide +kernel
theorem d_Mo_next_148 : decode b_Mo_next 148 = .ok (.aload_n 0, 1) := by decide +kernel
theorem d_Mo_next_149 : decode b_Mo_next 149 = .ok (.getfield 22, 3) := by decide +kernel
theorem d_Mo_next_152 : decode b_Mo_next 152 = .ok (.iload_n 2, 1) := by decide +kernel
theorem d_Mo_next_153 : decode b_Mo_next 153 = .ok (.iconst 0, 1) := by decide +kernel
theorem d_Mo_next_154 : decode b_Mo_next 154 = .ok (.iastore, 1) := by decide +kernel
theorem d_Mo_next_155 : decode b_Mo_next 155 = .ok (.aload_n 0, 1) := by decide +kernel
theorem d_Mo_next_156 : decode b_Mo_next 156 = .ok (.getfield 32, 3) := by decide +kernel
theorem d_Mo_next_159 : decode b_Mo_next 159 = .ok (.iload_n 2, 1) := by decide +kernel
theorem d_Mo_next_160 : decode b_Mo_next 160 = .ok (.bipush 8, 2) := by decide +kernel
theorem d_Mo_next_162 : decode b_Mo_next 162 = .ok (.iastore, 1) := by decide +kernel
theorem d_Mo_next_163 : decode b_Mo_next 163 = .ok (.iinc 2 1, 3) := by decide +kernel
theorem d_Mo_next_166 : decode b_Mo_next 166 = .ok (.goto (-23), 3) := by decide +kernel
theorem d_Mo_next_169 : decode b_Mo_next 169 = .ok (.iconst 0, 1) := by decide +kernel
theorem d_Mo_next_170 : decode b_Mo_next 170 = .ok (.istore_n 2, 1) := by decide +kernel
theorem d_Mo_next_171 : decode b_Mo_next 171 = .ok (.iload_n 2, 1) := by decide +kernel
theorem d_Mo_next_172 : decode b_Mo_next 172 = .ok (.aload_n 0, 1) := by decide +kernel
theorem d_Mo_next_173 : decode b_Mo_next 173 = .ok (.getfield 81, 3) := by decide +kernel
theorem d_Mo_next_176 : decode b_Mo_next 176 = .ok (.if_icmp .ge 74, 3) := by decide +kernel
theorem d_Mo_next_179 : decode b_Mo_next 179 = .ok (.aload_n 0, 1) := by decide +kernel
theorem d_Mo_next_180 : decode b_Mo_next 180 = .ok (.getfield 16, 3) := by decide +kernel
theorem d_Mo_next_183 : decode b_Mo_next 183 = .ok (.iload_n 2, 1) := by decide +kernel
theorem d_Mo_next_184 : decode b_Mo_next 184 = .ok (.aload_n 0, 1) := by decide +kernel
theorem d_Mo_next_185 : decode b_Mo_next 185 = .ok (.getfield 71, 3) := by decide +kernel
theorem d_Mo_next_188 : decode b_Mo_next 188 = .ok (.iload_n 2, 1) := by decide +kernel
theorem d_Mo_next_189 : decode b_Mo_next 189 = .ok (.iaload, 1) := by decide +kernel
theorem d_Mo_next_190 : decode b_Mo_next 190 = .ok (.iastore, 1) := by decide +kernel
theorem d_Mo_next_191 : decode b_Mo_next 191 = .ok (.aload_n 0, 1) := by decide +kernel
theorem d_Mo_next_192 : decode b_Mo_next 192 = .ok (.getfield 19, 3) := by decide +kernel
theorem d_Mo_next_195 : decode b_Mo_next 195 = .ok (.iload_n 2, 1) := by decide +kernel
theorem d_Mo_next_196 : decode b_Mo_next 196 = .ok (.aload_n 0, 1) := by decide +kernel
theorem d_Mo_next_197 : decode b_Mo_next 197 = .ok (.getfield 74, 3) := by decide +kernel
theorem d_Mo_next_200 : decode b_Mo_next 200 = .ok (.iload_n 2, 1) := by decide +kernel
theorem d_Mo_next_201 : decode b_Mo_next 201 = .ok (.iaload, 1) := by decide +kernel
theorem d_Mo_next_202 : decode b_Mo_next 202 = .ok (.iastore, 1) := by decide +kernel
theorem d_Mo_next_203 : decode b_Mo_next 203 = .ok (.aload_n 0, 1) := by decide +kernel
theorem d_Mo_next_204 : decode b_Mo_next 204 = .ok (.getfield 22, 3) := by decide +kernel
theorem d_Mo_next_207 : decode b_Mo_next 207 = .ok (.aload_n 0, 1) := by decide +kernel
theorem d_Mo_next_208 : decode b_Mo_next 208 = .ok (.getfield 16, 3) := by decide +kernel
theorem d_Mo_next_211 : decode b_Mo_next 211 = .ok (.iload_n 2, 1) := by decide +kernel
theorem d_Mo_next_212 : decode b_Mo_next 212 = .ok (.iaload, 1) := by decide +kernel
theorem d_Mo_next_213 : decode b_Mo_next 213 = .ok (.dup2, 1) := by decide +kernel
theorem d_Mo_next_214 : decode b_Mo_next 214 = .ok (.iaload, 1) := by decide +kernel
theorem d_Mo_next_215 : decode b_Mo_next 215 = .ok (.iconst 1, 1) := by decide +kernel
theorem d_Mo_next_216 : decode b_Mo_next 216 = .ok (.iadd, 1) := by decide +kernel
theorem d_Mo_next_217 : decode b_Mo_next 217 = .ok (.iastore, 1) := by decide +kernel
theorem d_Mo_next_218 : decode b_Mo_next 218 = .ok (.aload_n 0, 1) := by decide +kernel
theorem d_Mo_next_219 : decode b_Mo_next 219 = .ok (.getfield 41, 3) := by decide +kernel
theorem d_Mo_next_222 : decode b_Mo_next 222 = .ok (.iload_n 2, 1) := by decide +kernel
theorem d_Mo_next_223 : decode b_Mo_next 223 = .ok (.aload_n 0, 1) := by decide +kernel
theorem d_Mo_next_224 : decode b_Mo_next 224 = .ok (.getfield 16, 3) := by decide +kernel
theorem d_Mo_next_227 : decode b_Mo_next 227 = .ok (.iload_n 2, 1) := by decide +kernel
theorem d_Mo_next_228 : decode b_Mo_next 228 = .ok (.iaload, 1) := by decide +kernel
theorem d_Mo_next_229 : decode b_Mo_next 229 = .ok (.iastore, 1) := by decide +kernel
theorem d_Mo_next_230 : decode b_Mo_next 230 = .ok (.aload_n 0, 1) := by decide +kernel
theorem d_Mo_next_231 : decode b_Mo_next 231 = .ok (.getfield 25, 3) := by decide +kernel
theorem d_Mo_next_234 : decode b_Mo_next 234 = .ok (.iload_n 2, 1) := by decide +kernel
theorem d_Mo_next_235 : decode b_Mo_next 235 = .ok (.iconst 0, 1) := by decide +kernel
theorem d_Mo_next_236 : decode b_Mo_next 236 = .ok (.bastore, 1) := by decide +kernel
theorem d_Mo_next_237 : decode b_Mo_next 237 = .ok (.aload_n 0, 1) := by decide +kernel
theorem d_Mo_next_238 : decode b_Mo_next 238 = .ok (.getfield 29, 3) := by decide +kernel
theorem d_Mo_next_241 : decode b_Mo_next 241 = .ok (.iload_n 2, 1) := by decide +kernel
theorem d_Mo_next_242 : decode b_Mo_next 242 = .ok (.iconst 0, 1) := by decide +kernel
theorem d_Mo_next_243 : decode b_Mo_next 243 = .ok (.bastore, 1) := by decide +kernel
theorem d_Mo_next_244 : decode b_Mo_next 244 = .ok (.iinc 2 1, 3) := by decide +kernel
theorem d_Mo_next_247 : decode b_Mo_next 247 = .ok (.goto (-76), 3) := by decide +kernel
theorem d_Mo_next_250 : decode b_Mo_next 250 = .ok (.aload_n 0, 1) := by decide +kernel
theorem d_Mo_next_251 : decode b_Mo_next 251 = .ok (.iconst 0, 1) := by decide +kernel
theorem d_Mo_next_252 : decode b_Mo_next 252 = .ok (.putfield 149, 3) := by decide +kernel
theorem d_Mo_next_255 : decode b_Mo_next 255 = .ok (.aload_n 0, 1) := by decide +kernel
theorem d_Mo_next_256 : decode b_Mo_next 256 = .ok (.iconst 0, 1) := by decide +kernel
theorem d_Mo_next_257 : decode b_Mo_next 257 = .ok (.putfield 152, 3) := by decide +kernel
theorem d_Mo_next_260 : decode b_Mo_next 260 = .ok (.iload_n 1, 1) := by decide +kernel
theorem d_Mo_next_261 : decode b_Mo_next 261 = .ok (.ireturn, 1) := by decide +kernel
