theorem d_Mo_timeOf_73 : decode b_Mo_timeOf 73 = .ok (.iaload, 1) := by decide +kernel
theorem d_Mo_timeOf_74 : decode b_Mo_timeOf 74 = .ok (.istore 4, 2) := by decide +kernel
theorem d_Mo_timeOf_76 : decode b_Mo_timeOf 76 = .ok (.iinc 5 1, 3) := by decide +kernel
theorem d_Mo_timeOf_79 : decode b_Mo_timeOf 79 = .ok (.goto (-65), 3) := by decide +kernel
theorem d_Mo_timeOf_82 : decode b_Mo_timeOf 82 = .ok (.iload_n 3, 1) := by decide +kernel
theorem d_Mo_timeOf_83 : decode b_Mo_timeOf 83 = .ok (.aload_n 0, 1) := by decide +kernel
theorem d_Mo_timeOf_84 : decode b_Mo_timeOf 84 = .ok (.getfield 38, 3) := by decide +kernel
theorem d_Mo_timeOf_87 : decode b_Mo_timeOf 87 = .ok (.bipush 10, 2) := by decide +kernel
theorem d_Mo_timeOf_89 : decode b_Mo_timeOf 89 = .ok (.iload 4, 2) := by decide +kernel
theorem d_Mo_timeOf_91 : decode b_Mo_timeOf 91 = .ok (.imul, 1) := by decide +kernel
theorem d_Mo_timeOf_92 : decode b_Mo_timeOf 92 = .ok (.iaload, 1) := by decide +kernel
theorem d_Mo_timeOf_93 : decode b_Mo_timeOf 93 = .ok (.iadd, 1) := by decide +kernel
theorem d_Mo_timeOf_94 : decode b_Mo_timeOf 94 = .ok (.ireturn, 1) := by decide +kernel
theorem d_Mo_go_0 : decode b_Mo_go 0 = .ok (.aload_n 0, 1) := by decide +kernel
theorem d_Mo_go_1 : decode b_Mo_go 1 = .ok (.iconst 0, 1) := by decide +kernel
theorem d_Mo_go_2 : decode b_Mo_go 2 = .ok (.putfield 106, 3) := by decide +kernel
theorem d_Mo_go_5 : decode b_Mo_go 5 = .ok (.iconst 0, 1) := by decide +kernel
theorem d_Mo_go_6 : decode b_Mo_go 6 = .ok (.istore_n 3, 1) := by decide +kernel
theorem d_Mo_go_7 : decode b_Mo_go 7 = .ok (.iload_n 3, 1) := by decide +kernel
theorem d_Mo_go_8 : decode b_Mo_go 8 = .ok (.aload_n 0, 1) := by decide +kernel
theorem d_Mo_go_9 : decode b_Mo_go 9 = .ok (.getfield 22, 3) := by decide +kernel
theorem d_Mo_go_12 : decode b_Mo_go 12 = .ok (.iload_n 2, 1) := by decide +kernel
theorem d_Mo_go_13 : decode b_Mo_go 13 = .ok (.iaload, 1) := by decide +kernel
theorem d_Mo_go_14 : decode b_Mo_go 14 = .ok (.if_icmp .ge 78, 3) := by decide +kernel
theorem d_Mo_go_17 : decode b_Mo_go 17 = .ok (.iconst 0, 1) := by decide +kernel
theorem d_Mo_go_18 : decode b_Mo_go 18 = .ok (.istore 4, 2) := by decide +kernel
theorem d_Mo_go_20 : decode b_Mo_go 20 = .ok (.iload 4, 2) := by decide +kernel
theorem d_Mo_go_22 : decode b_Mo_go 22 = .ok (.aload_n 0, 1) := by decide +kernel
theorem d_Mo_go_23 : decode b_Mo_go 23 = .ok (.getfield 81, 3) := by decide +kernel
theorem d_Mo_go_26 : decode b_Mo_go 26 = .ok (.if_icmp .ge 60, 3) := by decide +kernel
theorem d_Mo_go_29 : decode b_Mo_go 29 = .ok (.aload_n 0, 1) := by decide +kernel
theorem d_Mo_go_30 : decode b_Mo_go 30 = .ok (.getfield 16, 3) := by decide +kernel
theorem d_Mo_go_33 : decode b_Mo_go 33 = .ok (.iload 4, 2) := by decide +kernel
theorem d_Mo_go_35 : decode b_Mo_go 35 = .ok (.iaload, 1) := by decide +kernel
theorem d_Mo_go_36 : decode b_Mo_go 36 = .ok (.iload_n 2, 1) := by decide +kernel
theorem d_Mo_go_37 : decode b_Mo_go 37 = .ok (.if_icmp .ne 43, 3) := by decide +kernel
theorem d_Mo_go_40 : decode b_Mo_go 40 = .ok (.aload_n 0, 1) := by decide +kernel
theorem d_Mo_go_41 : decode b_Mo_go 41 = .ok (.getfield 19, 3) := by decide +kernel
theorem d_Mo_go_44 : decode b_Mo_go 44 = .ok (.iload 4, 2) := by decide +kernel
theorem d_Mo_go_46 : decode b_Mo_go 46 = .ok (.iaload, 1) := by decide +kernel
theorem d_Mo_go_47 : decode b_Mo_go 47 = .ok (.iload_n 3, 1) := by decide +kernel
theorem d_Mo_go_48 : decode b_Mo_go 48 = .ok (.if_icmp .ne 32, 3) := by decide +kernel
theorem d_Mo_go_51 : decode b_Mo_go 51 = .ok (.aload_n 1, 1) := by decide +kernel
theorem d_Mo_go_52 : decode b_Mo_go 52 = .ok (.iload 4, 2) := by decide +kernel
theorem d_Mo_go_54 : decode b_Mo_go 54 = .ok (.iaload, 1) := by decide +kernel
theorem d_Mo_go_55 : decode b_Mo_go 55 = .ok (.iload_n 2, 1) := by decide +kernel
theorem d_Mo_go_56 : decode b_Mo_go 56 = .ok (.if_icmp .ne 24, 3) := by decide +kernel
theorem d_Mo_go_59 : decode b_Mo_go 59 = .ok (.aload_n 0, 1) := by decide +kernel
theorem d_Mo_go_60 : decode b_Mo_go 60 = .ok (.getfield 68, 3) := by decide +kernel
theorem d_Mo_go_63 : decode b_Mo_go 63 = .ok (.aload_n 0, 1) := by decide +kernel
theorem d_Mo_go_64 : decode b_Mo_go 64 = .ok (.getfield 106, 3) := by decide +kernel
theorem d_Mo_go_67 : decode b_Mo_go 67 = .ok (.iload 4, 2) := by decide +kernel
theorem d_Mo_go_69 : decode b_Mo_go 69 = .ok (.iastore, 1) := by decide +kernel
theorem d_Mo_go_70 : decode b_Mo_go 70 = .ok (.aload_n 0, 1) := by decide +kernel
theorem d_Mo_go_71 : decode b_Mo_go 71 = .ok (.dup, 1) := by decide +kernel
theorem d_Mo_go_72 : decode b_Mo_go 72 = .ok (.getfield 106, 3) := by decide +kernel
theorem d_Mo_go_75 : decode b_Mo_go 75 = .ok (.iconst 1, 1) := by decide +kernel
theorem d_Mo_go_76 : decode b_Mo_go 76 = .ok (.iadd, 1) := by decide +kernel
theorem d_Mo_go_77 : decode b_Mo_go 77 = .ok (.putfield 106, 3) := by decide +kernel
theorem d_Mo_go_80 : decode b_Mo_go 80 = .ok (.iinc 4 1, 3) := by decide +kernel
theorem d_Mo_go_83 : decode b_Mo_go 83 = .ok (.goto (-63), 3) := by decide +kernel
theorem d_Mo_go_86 : decode b_Mo_go 86 = .ok (.iinc 3 1, 3) := by decide +kernel
theorem d_Mo_go_89 : decode b_Mo_go 89 = .ok (.goto (-82), 3) := by decide +kernel
theorem d_Mo_go_92 : decode b_Mo_go 92 = .ok (.iconst 0, 1) := by decide +kernel
theorem d_Mo_go_93 : decode b_Mo_go 93 = .ok (.istore_n 3, 1) := by decide +kernel
theorem d_Mo_go_94 : decode b_Mo_go 94 = .ok (.iload_n 3, 1) := by decide +kernel
theorem d_Mo_go_95 : decode b_Mo_go 95 = .ok (.aload_n 0, 1) := by decide +kernel
theorem d_Mo_go_96 : decode b_Mo_go 96 = .ok (.getfield 81, 3) := by decide +kernel
theorem d_Mo_go_99 : decode b_Mo_go 99 = .ok (.if_icmp .ge 46, 3) := by decide +kernel
theorem d_Mo_go_102 : decode b_Mo_go 102 = .ok (.aload_n 0, 1) := by decide +kernel
theorem d_Mo_go_103 : decode b_Mo_go 103 = .ok (.getfield 16, 3) := by decide +kernel
theorem d_Mo_go_106 : decode b_Mo_go 106 = .ok (.iload_n 3, 1) := by decide +kernel
theorem d_Mo_go_107 : decode b_Mo_go 107 = .ok (.iaload, 1) := by decide +kernel
theorem d_Mo_go_108 : decode b_Mo_go 108 = .ok (.iload_n 2, 1) := by decide +kernel
theorem d_Mo_go_109 : decode b_Mo_go 109 = .ok (.if_icmp .eq 30, 3) := by decide +kernel
theorem d_Mo_go_112 : decode b_Mo_go 112 = .ok (.aload_n 1, 1) := by decide +kernel
theorem d_Mo_go_113 : decode b_Mo_go 113 = .ok (.iload_n 3, 1) := by decide +kernel
theorem d_Mo_go_114 : decode b_Mo_go 114 = .ok (.iaload, 1) := by decide +kernel
theorem d_Mo_go_115 : decode b_Mo_go 115 = .ok (.iload_n 2, 1) := by decide +kernel
theorem d_Mo_go_116 : decode b_Mo_go 116 = .ok (.if_icmp .ne 23, 3) := by decide +kernel
theorem d_Mo_go_119 : decode b_Mo_go 119 = .ok (.aload_n 0, 1) := by decide +kernel
theorem d_Mo_go_120 : decode b_Mo_go 120 = .ok (.getfield 68, 3) := by decide +kernel
theorem d_Mo_go_123 : decode b_Mo_go 123 = .ok (.aload_n 0, 1) := by decide +kernel
theorem d_Mo_go_124 : decode b_Mo_go 124 = .ok (.getfield 106, 3) := by decide +kernel
theorem d_Mo_go_127 : decode b_Mo_go 127 = .ok (.iload_n 3, 1) := by decide +kernel
theorem d_Mo_go_128 : decode b_Mo_go 128 = .ok (.iastore, 1) := by decide +kernel
theorem d_Mo_go_129 : decode b_Mo_go 129 = .ok (.aload_n 0, 1) := by decide +kernel
theorem d_Mo_go_130 : decode b_Mo_go 130 = .ok (.dup, 1) := by decide +kernel
theorem d_Mo_go_131 : decode b_Mo_go 131 = .ok (.getfield 106, 3) := by decide +kernel
theorem d_Mo_go_134 : decode b_Mo_go 134 = .ok (.iconst 1, 1) := by decide +kernel
theorem d_Mo_go_135 : decode b_Mo_go 135 = .ok (.iadd, 1) := by decide +kernel
theorem d_Mo_go_136 : decode b_Mo_go 136 = .ok (.putfield 106, 3) := by decide +kernel
theorem d_Mo_go_139 : decode b_Mo_go 139 = .ok (.iinc 3 1, 3) := by decide +kernel
theorem d_Mo_go_142 : decode b_Mo_go 142 = .ok (.goto (-48), 3) := by decide +kernel
theorem d_Mo_go_145 : decode b_Mo_go 145 = .ok (.return_, 1) := by decide +kernel
theorem d_Mo_overtimeOf_0 : decode b_Mo_overtimeOf 0 = .ok (.aload_n 0, 1) := by decide +kernel
theorem d_Mo_overtimeOf_1 : decode b_Mo_overtimeOf 1 = .ok (.aload_n 1, 1) := by decide +kernel
theorem d_Mo_overtimeOf_2 : decode b_Mo_overtimeOf 2 = .ok (.iload_n 2, 1) := by decide +kernel
theorem d_Mo_overtimeOf_3 : decode b_Mo_overtimeOf 3 = .ok (.invokevirtual 113, 3) := by decide +kernel
theorem d_Mo_overtimeOf_6 : decode b_Mo_overtimeOf 6 = .ok (.aload_n 0, 1) := by decide +kernel
theorem d_Mo_overtimeOf_7 : decode b_Mo_overtimeOf 7 = .ok (.getfield 35, 3) := by decide +kernel
theorem d_Mo_overtimeOf_10 : decode b_Mo_overtimeOf 10 = .ok (.iload_n 2, 1) := by decide +kernel
theorem d_Mo_overtimeOf_11 : decode b_Mo_overtimeOf 11 = .ok (.iaload, 1) := by decide +kernel
theorem d_Mo_overtimeOf_12 : decode b_Mo_overtimeOf 12 = .ok (.isub, 1) := by decide +kernel
theorem d_Mo_overtimeOf_13 : decode b_Mo_overtimeOf 13 = .ok (.istore_n 3, 1) := by decide +kernel
theorem d_Mo_overtimeOf_14 : decode b_Mo_overtimeOf 14 = .ok (.iload_n 3, 1) := by decide +kernel
theorem d_Mo_overtimeOf_15 : decode b_Mo_overtimeOf 15 = .ok (.ifCond .le 7, 3) := by decide +kernel
theorem d_Mo_overtimeOf_18 : decode b_Mo_overtimeOf 18 = .ok (.iload_n 3, 1) := by decide +kernel
theorem d_Mo_overtimeOf_19 : decode b_Mo_overtimeOf 19 = .ok (.goto 4, 3) := by decide +kernel
theorem d_Mo_overtimeOf_22 : decode b_Mo_overtimeOf 22 = .ok (.iconst 0, 1) := by decide +kernel
theorem d_Mo_overtimeOf_23 : decode b_Mo_overtimeOf 23 = .ok (.ireturn, 1) := by decide +kernel
theorem d_Mo_overtime_0 : decode b_Mo_overtime 0 = .ok (.aload_n 0, 1) := by decide +kernel
theorem d_Mo_overtime_1 : decode b_Mo_overtime 1 = .ok (.iload_n 1, 1) := by decide +kernel
theorem d_Mo_overtime_2 : decode b_Mo_overtime 2 = .ok (.invokevirtual 84, 3) := by decide +kernel
theorem d_Mo_overtime_5 : decode b_Mo_overtime 5 = .ok (.ifCond .eq 15, 3) := by decide +kernel
theorem d_Mo_overtime_8 : decode b_Mo_overtime 8 = .ok (.aload_n 0, 1) := by decide +kernel
theorem d_Mo_overtime_9 : decode b_Mo_overtime 9 = .ok (.aload_n 0, 1) := by decide +kernel
theorem d_Mo_overtime_10 : decode b_Mo_overtime 10 = .ok (.getfield 41, 3) := by decide +kernel
theorem d_Mo_overtime_13 : decode b_Mo_overtime 13 = .ok (.iload_n 1, 1) := by decide +kernel
theorem d_Mo_overtime_14 : decode b_Mo_overtime 14 = .ok (.invokevirtual 117, 3) := by decide +kernel
theorem d_Mo_overtime_17 : decode b_Mo_overtime 17 = .ok (.goto 4, 3) := by decide +kernel
theorem d_Mo_overtime_20 : decode b_Mo_overtime 20 = .ok (.iconst (-1), 1) := by decide +kernel
theorem d_Mo_overtime_21 : decode b_Mo_overtime 21 = .ok (.ireturn, 1) := by decide +kernel
theorem d_Mo_run_0 : decode b_Mo_run 0 = .ok (.iconst 0, 1) := by decide +kernel
theorem d_Mo_run_1 : decode b_Mo_run 1 = .ok (.istore_n 1, 1) := by decide +kernel
theorem d_Mo_run_2 : decode b_Mo_run 2 = .ok (.iload_n 1, 1) := by decide +kernel
theorem d_Mo_run_3 : decode b_Mo_run 3 = .ok (.aload_n 0, 1) := by decide +kernel
theorem d_Mo_run_4 : decode b_Mo_run 4 = .ok (.getfield 81, 3) := by decide +kernel
theorem d_Mo_run_7 : decode b_Mo_run 7 = .ok (.if_icmp .ge 16, 3) := by decide +kernel
theorem d_Mo_run_10 : decode b_Mo_run 10 = .ok (.aload_n 0, 1) := by decide +kernel
theorem d_Mo_run_11 : decode b_Mo_run 11 = .ok (.getfield 44, 3) := by decide +kernel
theorem d_Mo_run_14 : decode b_Mo_run 14 = .ok (.iload_n 1, 1) := by decide +kernel
theorem d_Mo_run_15 : decode b_Mo_run 15 = .ok (.iconst 0, 1) := by decide +kernel
theorem d_Mo_run_16 : decode b_Mo_run 16 = .ok (.iastore, 1) := by decide +kernel
theorem d_Mo_run_17 : decode b_Mo_run 17 = .ok (.iinc 1 1, 3) := by decide +kernel
theorem d_Mo_run_20 : decode b_Mo_run 20 = .ok (.goto (-18), 3) := by decide +kernel
theorem d_Mo_run_23 : decode b_Mo_run 23 = .ok (.iconst (-1), 1) := by decide +kernel
theorem d_Mo_run_24 : decode b_Mo_run 24 = .ok (.istore_n 1, 1) := by decide +kernel
theorem d_Mo_run_25 : decode b_Mo_run 25 = .ok (.lconst 0, 1) := by decide +kernel
theorem d_Mo_run_26 : decode b_Mo_run 26 = .ok (.lstore_n 2, 1) := by decide +kernel
theorem d_Mo_run_27 : decode b_Mo_run 27 = .ok (.iconst 1, 1) := by decide +kernel
theorem d_Mo_run_28 : decode b_Mo_run 28 = .ok (.istore 4, 2) := by decide +kernel
theorem d_Mo_run_30 : decode b_Mo_run 30 = .ok (.iload 4, 2) := by decide +kernel
theorem d_Mo_run_32 : decode b_Mo_run 32 = .ok (.ifCond .eq 111, 3) := by decide +kernel
theorem d_Mo_run_35 : decode b_Mo_run 35 = .ok (.aload_n 0, 1) := by decide +kernel
theorem d_Mo_run_36 : decode b_Mo_run 36 = .ok (.aload_n 0, 1) := by decide +kernel
theorem d_Mo_run_37 : decode b_Mo_run 37 = .ok (.getfield 44, 3) := by decide +kernel
theorem d_Mo_run_40 : decode b_Mo_run 40 = .ok (.invokevirtual 128, 3) := by decide +kernel
theorem d_Mo_run_43 : decode b_Mo_run 43 = .ok (.istore 5, 2) := by decide +kernel
theorem d_Mo_run_45 : decode b_Mo_run 45 = .ok (.iload_n 1, 1) := by decide +kernel
theorem d_Mo_run_46 : decode b_Mo_run 46 = .ok (.ifCond .lt 9, 3) := by decide +kernel
theorem d_Mo_run_49 : decode b_Mo_run 49 = .ok (.iload 5, 2) := by decide +kernel
theorem d_Mo_run_51 : decode b_Mo_run 51 = .ok (.iload_n 1, 1) := by decide +kernel
theorem d_Mo_run_52 : decode b_Mo_run 52 = .ok (.if_icmp .gt 82, 3) := by decide +kernel
theorem d_Mo_run_55 : decode b_Mo_run 55 = .ok (.aload_n 0, 1) := by decide +kernel
theorem d_Mo_run_56 : decode b_Mo_run 56 = .ok (.invokevirtual 132, 3) := by decide +kernel
theorem d_Mo_run_59 : decode b_Mo_run 59 = .ok (.ifCond .eq 75, 3) := by decide +kernel
theorem d_Mo_run_62 : decode b_Mo_run 62 = .ok (.aload_n 0, 1) := by decide +kernel
theorem d_Mo_run_63 : decode b_Mo_run 63 = .ok (.invokevirtual 136, 3) := by decide +kernel
theorem d_Mo_run_66 : decode b_Mo_run 66 = .ok (.ifCond .eq 68, 3) := by decide +kernel
theorem d_Mo_run_69 : decode b_Mo_run 69 = .ok (.aload_n 0, 1) := by decide +kernel
theorem d_Mo_run_70 : decode b_Mo_run 70 = .ok (.aload_n 0, 1) := by decide +kernel
theorem d_Mo_run_71 : decode b_Mo_run 71 = .ok (.getfield 44, 3) := by decide +kernel
theorem d_Mo_run_74 : decode b_Mo_run 74 = .ok (.invokevirtual 120, 3) := by decide +kernel
theorem d_Mo_run_77 : decode b_Mo_run 77 = .ok (.lstore 6, 2) := by decide +kernel
theorem d_Mo_run_79 : decode b_Mo_run 79 = .ok (.iload_n 1, 1) := by decide +kernel
theorem d_Mo_run_80 : decode b_Mo_run 80 = .ok (.ifCond .lt 16, 3) := by decide +kernel
theorem d_Mo_run_83 : decode b_Mo_run 83 = .ok (.iload 5, 2) := by decide +kernel
theorem d_Mo_run_85 : decode b_Mo_run 85 = .ok (.iload_n 1, 1) := by decide +kernel
theorem d_Mo_run_86 : decode b_Mo_run 86 = .ok (.if_icmp .lt 10, 3) := by decide +kernel
theorem d_Mo_run_89 : decode b_Mo_run 89 = .ok (.lload 6, 2) := by decide +kernel
theorem d_Mo_run_91 : decode b_Mo_run 91 = .ok (.lload_n 2, 1) := by decide +kernel
theorem d_Mo_run_92 : decode b_Mo_run 92 = .ok (.lcmp, 1) := by decide +kernel
theorem d_Mo_run_93 : decode b_Mo_run 93 = .ok (.ifCond .ge 41, 3) := by decide +kernel
theorem d_Mo_run_96 : decode b_Mo_run 96 = .ok (.iload 5, 2) := by decide +kernel
theorem d_Mo_run_98 : decode b_Mo_run 98 = .ok (.istore_n 1, 1) := by decide +kernel
theorem d_Mo_run_99 : decode b_Mo_run 99 = .ok (.lload 6, 2) := by decide +kernel
theorem d_Mo_run_101 : decode b_Mo_run 101 = .ok (.lstore_n 2, 1) := by decide +kernel
theorem d_Mo_run_102 : decode b_Mo_run 102 = .ok (.iconst 0, 1) := by decide +kernel
theorem d_Mo_run_103 : decode b_Mo_run 103 = .ok (.istore 8, 2) := by decide +kernel
theorem d_Mo_run_105 : decode b_Mo_run 105 = .ok (.iload 8, 2) := by decide +kernel
theorem d_Mo_run_107 : decode b_Mo_run 107 = .ok (.aload_n 0, 1) := by decide +kernel
theorem d_Mo_run_108 : decode b_Mo_run 108 = .ok (.getfield 81, 3) := by decide +kernel
theorem d_Mo_run_111 : decode b_Mo_run 111 = .ok (.if_icmp .ge 23, 3) := by decide +kernel
theorem d_Mo_run_114 : decode b_Mo_run 114 = .ok (.aload_n 0, 1) := by decide +kernel
theorem d_Mo_run_115 : decode b_Mo_run 115 = .ok (.getfield 47, 3) := by decide +kernel
theorem d_Mo_run_118 : decode b_Mo_run 118 = .ok (.iload 8, 2) := by decide +kernel
theorem d_Mo_run_120 : decode b_Mo_run 120 = .ok (.aload_n 0, 1) := by decide +kernel
theorem d_Mo_run_121 : decode b_Mo_run 121 = .ok (.getfield 44, 3) := by decide +kernel
theorem d_Mo_run_124 : decode b_Mo_run 124 = .ok (.iload 8, 2) := by decide +kernel
theorem d_Mo_run_126 : decode b_Mo_run 126 = .ok (.iaload, 1) := by decide +kernel
theorem d_Mo_run_127 : decode b_Mo_run 127 = .ok (.iastore, 1) := by decide +kernel
theorem d_Mo_run_128 : decode b_Mo_run 128 = .ok (.iinc 8 1, 3) := by decide +kernel
theorem d_Mo_run_131 : decode b_Mo_run 131 = .ok (.goto (-26), 3) := by decide +kernel
theorem d_Mo_run_134 : decode b_Mo_run 134 = .ok (.aload_n 0, 1) := by decide +kernel
theorem d_Mo_run_135 : decode b_Mo_run 135 = .ok (.invokevirtual 139, 3) := by decide +kernel
theorem d_Mo_run_138 : decode b_Mo_run 138 = .ok (.istore 4, 2) := by decide +kernel
theorem d_Mo_run_140 : decode b_Mo_run 140 = .ok (.goto (-110), 3) := by decide +kernel
theorem d_Mo_run_143 : decode b_Mo_run 143 = .ok (.iload_n 1, 1) := by decide +kernel
theorem d_Mo_run_144 : decode b_Mo_run 144 = .ok (.ifCond .ge 8, 3) := by decide +kernel
theorem d_Mo_run_147 : decode b_Mo_run 147 = .ok (.aload_n 0, 1) := by decide +kernel
theorem d_Mo_run_148 : decode b_Mo_run 148 = .ok (.invokevirtual 142, 3) := by decide +kernel
theorem d_Mo_run_151 : decode b_Mo_run 151 = .ok (.ireturn, 1) := by decide +kernel
theorem d_Mo_run_152 : decode b_Mo_run 152 = .ok (.aload_n 0, 1) := by decide +kernel
theorem d_Mo_run_153 : decode b_Mo_run 153 = .ok (.invokevirtual 146, 3) := by decide +kernel
theorem d_Mo_run_156 : decode b_Mo_run 156 = .ok (.iconst 0, 1) := by decide +kernel
theorem d_Mo_run_157 : decode b_Mo_run 157 = .ok (.istore 5, 2) := by decide +kernel
theorem d_Mo_run_159 : decode b_Mo_run 159 = .ok (.iload 5, 2) := by decide +kernel
theorem d_Mo_run_161 : decode b_Mo_run 161 = .ok (.aload_n 0, 1) := by decide +kernel
theorem d_Mo_run_162 : decode b_Mo_run 162 = .ok (.getfield 81, 3) := by decide +kernel
theorem d_Mo_run_165 : decode b_Mo_run 165 = .ok (.if_icmp .ge 23, 3) := by decide +kernel
theorem d_Mo_run_168 : decode b_Mo_run 168 = .ok (.aload_n 0, 1) := by decide +kernel
theorem d_Mo_run_169 : decode b_Mo_run 169 = .ok (.getfield 41, 3) := by decide +kernel
theorem d_Mo_run_172 : decode b_Mo_run 172 = .ok (.iload 5, 2) := by decide +kernel
theorem d_Mo_run_174 : decode b_Mo_run 174 = .ok (.aload_n 0, 1) := by decide +kernel
theorem d_Mo_run_175 : decode b_Mo_run 175 = .ok (.getfield 47, 3) := by decide +kernel
theorem d_Mo_run_178 : decode b_Mo_run 178 = .ok (.iload 5, 2) := by decide +kernel
theorem d_Mo_run_180 : decode b_Mo_run 180 = .ok (.iaload, 1) := by decide +kernel
theorem d_Mo_run_181 : decode b_Mo_run 181 = .ok (.iastore, 1) := by decide +kernel
theorem d_Mo_run_182 : decode b_Mo_run 182 = .ok (.iinc 5 1, 3) := by decide +kernel
theorem d_Mo_run_185 : decode b_Mo_run 185 = .ok (.goto (-26), 3) := by decide +kernel
theorem d_Mo_run_188 : decode b_Mo_run 188 = .ok (.iload_n 1, 1) := by decide +kernel
theorem d_Mo_run_189 : decode b_Mo_run 189 = .ok (.ireturn, 1) := by decide +kernel
theorem d_Mo_movedBy_0 : decode b_Mo_movedBy 0 = .ok (.iconst 0, 1) := by decide +kernel
theorem d_Mo_movedBy_1 : decode b_Mo_movedBy 1 = .ok (.istore_n 2, 1) := by decide +kernel
theorem d_Mo_movedBy_2 : decode b_Mo_movedBy 2 = .ok (.iconst 0, 1) := by decide +kernel
theorem d_Mo_movedBy_3 : decode b_Mo_movedBy 3 = .ok (.istore_n 3, 1) := by decide +kernel
theorem d_Mo_movedBy_4 : decode b_Mo_movedBy 4 = .ok (.iload_n 3, 1) := by decide +kernel
theorem d_Mo_movedBy_5 : decode b_Mo_movedBy 5 = .ok (.aload_n 0, 1) := by decide +kernel
theorem d_Mo_movedBy_6 : decode b_Mo_movedBy 6 = .ok (.getfield 81, 3) := by decide +kernel
theorem d_Mo_movedBy_9 : decode b_Mo_movedBy 9 = .ok (.if_icmp .ge 29, 3) := by decide +kernel
theorem d_Mo_movedBy_12 : decode b_Mo_movedBy 12 = .ok (.iload_n 2, 1) := by decide +kernel
theorem d_Mo_movedBy_13 : decode b_Mo_movedBy 13 = .ok (.aload_n 1, 1) := by decide +kernel
theorem d_Mo_movedBy_14 : decode b_Mo_movedBy 14 = .ok (.iload_n 3, 1) := by decide +kernel
theorem d_Mo_movedBy_15 : decode b_Mo_movedBy 15 = .ok (.iaload, 1) := by decide +kernel
theorem d_Mo_movedBy_16 : decode b_Mo_movedBy 16 = .ok (.aload_n 0, 1) := by decide +kernel
theorem d_Mo_movedBy_17 : decode b_Mo_movedBy 17 = .ok (.getfield 16, 3) := by decide +kernel
theorem d_Mo_movedBy_20 : decode b_Mo_movedBy 20 = .ok (.iload_n 3, 1) := by decide +kernel
theorem d_Mo_movedBy_21 : decode b_Mo_movedBy 21 = .ok (.iaload, 1) := by decide +kernel
theorem d_Mo_movedBy_22 : decode b_Mo_movedBy 22 = .ok (.if_icmp .eq 7, 3) := by decide +kernel
theorem d_Mo_movedBy_25 : decode b_Mo_movedBy 25 = .ok (.iconst 1, 1) := by decide +kernel
theorem d_Mo_movedBy_26 : decode b_Mo_movedBy 26 = .ok (.goto 4, 3) := by decide +kernel
theorem d_Mo_movedBy_29 : decode b_Mo_movedBy 29 = .ok (.iconst 0, 1) := by decide +kernel
theorem d_Mo_movedBy_30 : decode b_Mo_movedBy 30 = .ok (.iadd, 1) := by decide +kernel
theorem d_Mo_movedBy_31 : decode b_Mo_movedBy 31 = .ok (.istore_n 2, 1) := by decide +kernel
theorem d_Mo_movedBy_32 : decode b_Mo_movedBy 32 = .ok (.iinc 3 1, 3) := by decide +kernel
theorem d_Mo_movedBy_35 : decode b_Mo_movedBy 35 = .ok (.goto (-31), 3) := by decide +kernel
theorem d_Mo_movedBy_38 : decode b_Mo_movedBy 38 = .ok (.iload_n 2, 1) := by decide +kernel
theorem d_Mo_movedBy_39 : decode b_Mo_movedBy 39 = .ok (.ireturn, 1) := by decide +kernel
theorem d_Mo_holdsApart_0 : decode b_Mo_holdsApart 0 = .ok (.iconst 1, 1) := by decide +kernel
theorem d_Mo_holdsApart_1 : decode b_Mo_holdsApart 1 = .ok (.istore_n 1, 1) := by decide +kernel
theorem d_Mo_holdsApart_2 : decode b_Mo_holdsApart 2 = .ok (.iconst 0, 1) := by decide +kernel
theorem d_Mo_holdsApart_3 : decode b_Mo_holdsApart 3 = .ok (.istore_n 2, 1) := by decide +kernel
theorem d_Mo_holdsApart_4 : decode b_Mo_holdsApart 4 = .ok (.iload_n 2, 1) := by decide +kernel
theorem d_Mo_holdsApart_5 : decode b_Mo_holdsApart 5 = .ok (.aload_n 0, 1) := by decide +kernel
theorem d_Mo_holdsApart_6 : decode b_Mo_holdsApart 6 = .ok (.getfield 81, 3) := by decide +kernel
theorem d_Mo_holdsApart_9 : decode b_Mo_holdsApart 9 = .ok (.if_icmp .ge 99, 3) := by decide +kernel
theorem d_Mo_holdsApart_12 : decode b_Mo_holdsApart 12 = .ok (.aload_n 0, 1) := by decide +kernel
theorem d_Mo_holdsApart_13 : decode b_Mo_holdsApart 13 = .ok (.getfield 44, 3) := by decide +kernel
theorem d_Mo_holdsApart_16 : decode b_Mo_holdsApart 16 = .ok (.iload_n 2, 1) := by decide +kernel
theorem d_Mo_holdsApart_17 : decode b_Mo_holdsApart 17 = .ok (.iaload, 1) := by decide +kernel
theorem d_Mo_holdsApart_18 : decode b_Mo_holdsApart 18 = .ok (.aload_n 0, 1) := by decide +kernel
theorem d_Mo_holdsApart_19 : decode b_Mo_holdsApart 19 = .ok (.getfield 77, 3) := by decide +kernel
theorem d_Mo_holdsApart_22 : decode b_Mo_holdsApart 22 = .ok (.if_icmp .ne 7, 3) := by decide +kernel
theorem d_Mo_holdsApart_25 : decode b_Mo_holdsApart 25 = .ok (.iconst 1, 1) := by decide +kernel
theorem d_Mo_holdsApart_26 : decode b_Mo_holdsApart 26 = .ok (.goto 4, 3) := by decide +kernel
theorem d_Mo_holdsApart_29 : decode b_Mo_holdsApart 29 = .ok (.iconst 0, 1) := by decide +kernel
theorem d_Mo_holdsApart_30 : decode b_Mo_holdsApart 30 = .ok (.istore_n 3, 1) := by decide +kernel
theorem d_Mo_holdsApart_31 : decode b_Mo_holdsApart 31 = .ok (.iload_n 1, 1) := by decide +kernel
theorem d_Mo_holdsApart_32 : decode b_Mo_holdsApart 32 = .ok (.ifCond .eq 31, 3) := by decide +kernel
theorem d_Mo_holdsApart_35 : decode b_Mo_holdsApart 35 = .ok (.aload_n 0, 1) := by decide +kernel
theorem d_Mo_holdsApart_36 : decode b_Mo_holdsApart 36 = .ok (.getfield 25, 3) := by decide +kernel
theorem d_Mo_holdsApart_39 : decode b_Mo_holdsApart 39 = .ok (.iload_n 2, 1) := by decide +kernel
theorem d_Mo_holdsApart_40 : decode b_Mo_holdsApart 40 = .ok (.baload, 1) := by decide +kernel
theorem d_Mo_holdsApart_41 : decode b_Mo_holdsApart 41 = .ok (.ifCond .eq 18, 3) := by decide +kernel
theorem d_Mo_holdsApart_44 : decode b_Mo_holdsApart 44 = .ok (.aload_n 0, 1) := by decide +kernel
theorem d_Mo_holdsApart_45 : decode b_Mo_holdsApart 45 = .ok (.getfield 44, 3) := by decide +kernel
theorem d_Mo_holdsApart_48 : decode b_Mo_holdsApart 48 = .ok (.iload_n 2, 1) := by decide +kernel
theorem d_Mo_holdsApart_49 : decode b_Mo_holdsApart 49 = .ok (.iaload, 1) := by decide +kernel
theorem d_Mo_holdsApart_50 : decode b_Mo_holdsApart 50 = .ok (.aload_n 0, 1) := by decide +kernel
theorem d_Mo_holdsApart_51 : decode b_Mo_holdsApart 51 = .ok (.getfield 16, 3) := by decide +kernel
theorem d_Mo_holdsApart_54 : decode b_Mo_holdsApart 54 = .ok (.iload_n 2, 1) := by decide +kernel
theorem d_Mo_holdsApart_55 : decode b_Mo_holdsApart 55 = .ok (.iaload, 1) := by decide +kernel
theorem d_Mo_holdsApart_56 : decode b_Mo_holdsApart 56 = .ok (.if_icmp .ne 7, 3) := by decide +kernel
theorem d_Mo_holdsApart_59 : decode b_Mo_holdsApart 59 = .ok (.iconst 1, 1) := by decide +kernel
theorem d_Mo_holdsApart_60 : decode b_Mo_holdsApart 60 = .ok (.goto 4, 3) := by decide +kernel
theorem d_Mo_holdsApart_63 : decode b_Mo_holdsApart 63 = .ok (.iconst 0, 1) := by decide +kernel
theorem d_Mo_holdsApart_64 : decode b_Mo_holdsApart 64 = .ok (.istore_n 1, 1) := by decide +kernel
theorem d_Mo_holdsApart_65 : decode b_Mo_holdsApart 65 = .ok (.iload_n 1, 1) := by decide +kernel
theorem d_Mo_holdsApart_66 : decode b_Mo_holdsApart 66 = .ok (.ifCond .eq 34, 3) := by decide +kernel
theorem d_Mo_holdsApart_69 : decode b_Mo_holdsApart 69 = .ok (.iload_n 3, 1) := by decide +kernel
theorem d_Mo_holdsApart_70 : decode b_Mo_holdsApart 70 = .ok (.ifCond .ne 26, 3) := by decide +kernel
theorem d_Mo_holdsApart_73 : decode b_Mo_holdsApart 73 = .ok (.aload_n 0, 1) := by decide +kernel
theorem d_Mo_holdsApart_74 : decode b_Mo_holdsApart 74 = .ok (.getfield 29, 3) := by decide +kernel
theorem d_Mo_holdsApart_77 : decode b_Mo_holdsApart 77 = .ok (.iload_n 2, 1) := by decide +kernel
theorem d_Mo_holdsApart_78 : decode b_Mo_holdsApart 78 = .ok (.baload, 1) := by decide +kernel
theorem d_Mo_holdsApart_79 : decode b_Mo_holdsApart 79 = .ok (.ifCond .ne 21, 3) := by decide +kernel
theorem d_Mo_holdsApart_82 : decode b_Mo_holdsApart 82 = .ok (.aload_n 0, 1) := by decide +kernel
theorem d_Mo_holdsApart_83 : decode b_Mo_holdsApart 83 = .ok (.aload_n 0, 1) := by decide +kernel
theorem d_Mo_holdsApart_84 : decode b_Mo_holdsApart 84 = .ok (.getfield 44, 3) := by decide +kernel
theorem d_Mo_holdsApart_87 : decode b_Mo_holdsApart 87 = .ok (.iload_n 2, 1) := by decide +kernel
theorem d_Mo_holdsApart_88 : decode b_Mo_holdsApart 88 = .ok (.iaload, 1) := by decide +kernel
theorem d_Mo_holdsApart_89 : decode b_Mo_holdsApart 89 = .ok (.iload_n 2, 1) := by decide +kernel
theorem d_Mo_holdsApart_90 : decode b_Mo_holdsApart 90 = .ok (.invokevirtual 124, 3) := by decide +kernel
theorem d_Mo_holdsApart_93 : decode b_Mo_holdsApart 93 = .ok (.ifCond .eq 7, 3) := by decide +kernel
theorem d_Mo_holdsApart_96 : decode b_Mo_holdsApart 96 = .ok (.iconst 1, 1) := by decide +kernel
theorem d_Mo_holdsApart_97 : decode b_Mo_holdsApart 97 = .ok (.goto 4, 3) := by decide +kernel
theorem d_Mo_holdsApart_100 : decode b_Mo_holdsApart 100 = .ok (.iconst 0, 1) := by decide +kernel
theorem d_Mo_holdsApart_101 : decode b_Mo_holdsApart 101 = .ok (.istore_n 1, 1) := by decide +kernel
theorem d_Mo_holdsApart_102 : decode b_Mo_holdsApart 102 = .ok (.iinc 2 1, 3) := by decide +kernel
theorem d_Mo_holdsApart_105 : decode b_Mo_holdsApart 105 = .ok (.goto (-101), 3) := by decide +kernel
theorem d_Mo_holdsApart_108 : decode b_Mo_holdsApart 108 = .ok (.iload_n 1, 1) := by decide +kernel
theorem d_Mo_holdsApart_109 : decode b_Mo_holdsApart 109 = .ok (.ireturn, 1) := by decide +kernel
theorem d_Mo_can_0 : decode b_Mo_can 0 = .ok (.aload_n 0, 1) := by decide +kernel
theorem d_Mo_can_1 : decode b_Mo_can 1 = .ok (.getfield 32, 3) := by decide +kernel
theorem d_Mo_can_4 : decode b_Mo_can 4 = .ok (.iload_n 1, 1) := by decide +kernel
theorem d_Mo_can_5 : decode b_Mo_can 5 = .ok (.iaload, 1) := by decide +kernel
theorem d_Mo_can_6 : decode b_Mo_can 6 = .ok (.bipush 8, 2) := by decide +kernel
theorem d_Mo_can_8 : decode b_Mo_can 8 = .ok (.if_icmp .eq 28, 3) := by decide +kernel
theorem d_Mo_can_11 : decode b_Mo_can 11 = .ok (.aload_n 0, 1) := by decide +kernel
theorem d_Mo_can_12 : decode b_Mo_can 12 = .ok (.getfield 16, 3) := by decide +kernel
theorem d_Mo_can_15 : decode b_Mo_can 15 = .ok (.iload_n 2, 1) := by decide +kernel
theorem d_Mo_can_16 : decode b_Mo_can 16 = .ok (.iaload, 1) := by decide +kernel
theorem d_Mo_can_17 : decode b_Mo_can 17 = .ok (.iload_n 1, 1) := by decide +kernel
theorem d_Mo_can_18 : decode b_Mo_can 18 = .ok (.if_icmp .ne 22, 3) := by decide +kernel
theorem d_Mo_can_21 : decode b_Mo_can 21 = .ok (.aload_n 0, 1) := by decide +kernel
theorem d_Mo_can_22 : decode b_Mo_can 22 = .ok (.getfield 19, 3) := by decide +kernel
theorem d_Mo_can_25 : decode b_Mo_can 25 = .ok (.iload_n 2, 1) := by decide +kernel
theorem d_Mo_can_26 : decode b_Mo_can 26 = .ok (.iaload, 1) := by decide +kernel
theorem d_Mo_can_27 : decode b_Mo_can 27 = .ok (.aload_n 0, 1) := by decide +kernel
theorem d_Mo_can_28 : decode b_Mo_can 28 = .ok (.getfield 32, 3) := by decide +kernel
theorem d_Mo_can_31 : decode b_Mo_can 31 = .ok (.iload_n 1, 1) := by decide +kernel
theorem d_Mo_can_32 : decode b_Mo_can 32 = .ok (.iaload, 1) := by decide +kernel
theorem d_Mo_can_33 : decode b_Mo_can 33 = .ok (.if_icmp .ge 7, 3) := by decide +kernel
theorem d_Mo_can_36 : decode b_Mo_can 36 = .ok (.iconst 1, 1) := by decide +kernel
theorem d_Mo_can_37 : decode b_Mo_can 37 = .ok (.goto 4, 3) := by decide +kernel
theorem d_Mo_can_40 : decode b_Mo_can 40 = .ok (.iconst 0, 1) := by decide +kernel
theorem d_Mo_can_41 : decode b_Mo_can 41 = .ok (.ireturn, 1) := by decide +kernel
theorem d_Mo_holdsOvertime_0 : decode b_Mo_holdsOvertime 0 = .ok (.iconst 1, 1) := by decide +kernel
theorem d_Mo_holdsOvertime_1 : decode b_Mo_holdsOvertime 1 = .ok (.istore_n 1, 1) := by decide +kernel
theorem d_Mo_holdsOvertime_2 : decode b_Mo_holdsOvertime 2 = .ok (.iconst 0, 1) := by decide +kernel
theorem d_Mo_holdsOvertime_3 : decode b_Mo_holdsOvertime 3 = .ok (.istore_n 2, 1) := by decide +kernel
theorem d_Mo_holdsOvertime_4 : decode b_Mo_holdsOvertime 4 = .ok (.iload_n 2, 1) := by decide +kernel
theorem d_Mo_holdsOvertime_5 : decode b_Mo_holdsOvertime 5 = .ok (.aload_n 0, 1) := by decide +kernel
theorem d_Mo_holdsOvertime_6 : decode b_Mo_holdsOvertime 6 = .ok (.getfield 77, 3) := by decide +kernel
theorem d_Mo_holdsOvertime_9 : decode b_Mo_holdsOvertime 9 = .ok (.if_icmp .ge 35, 3) := by decide +kernel
theorem d_Mo_holdsOvertime_12 : decode b_Mo_holdsOvertime 12 = .ok (.iload_n 1, 1) := by decide +kernel
theorem d_Mo_holdsOvertime_13 : decode b_Mo_holdsOvertime 13 = .ok (.ifCond .eq 23, 3) := by decide +kernel
theorem d_Mo_holdsOvertime_16 : decode b_Mo_holdsOvertime 16 = .ok (.aload_n 0, 1) := by decide +kernel
theorem d_Mo_holdsOvertime_17 : decode b_Mo_holdsOvertime 17 = .ok (.aload_n 0, 1) := by decide +kernel
theorem d_Mo_holdsOvertime_18 : decode b_Mo_holdsOvertime 18 = .ok (.getfield 44, 3) := by decide +kernel
theorem d_Mo_holdsOvertime_21 : decode b_Mo_holdsOvertime 21 = .ok (.iload_n 2, 1) := by decide +kernel
theorem d_Mo_holdsOvertime_22 : decode b_Mo_holdsOvertime 22 = .ok (.invokevirtual 117, 3) := by decide +kernel
theorem d_Mo_holdsOvertime_25 : decode b_Mo_holdsOvertime 25 = .ok (.aload_n 0, 1) := by decide +kernel
theorem d_Mo_holdsOvertime_26 : decode b_Mo_holdsOvertime 26 = .ok (.getfield 103, 3) := by decide +kernel
theorem d_Mo_holdsOvertime_29 : decode b_Mo_holdsOvertime 29 = .ok (.if_icmp .gt 7, 3) := by decide +kernel
theorem d_Mo_holdsOvertime_32 : decode b_Mo_holdsOvertime 32 = .ok (.iconst 1, 1) := by decide +kernel
theorem d_Mo_holdsOvertime_33 : decode b_Mo_holdsOvertime 33 = .ok (.goto 4, 3) := by decide +kernel
theorem d_Mo_holdsOvertime_36 : decode b_Mo_holdsOvertime 36 = .ok (.iconst 0, 1) := by decide +kernel
theorem d_Mo_holdsOvertime_37 : decode b_Mo_holdsOvertime 37 = .ok (.istore_n 1, 1) := by decide +kernel
theorem d_Mo_holdsOvertime_38 : decode b_Mo_holdsOvertime 38 = .ok (.iinc 2 1, 3) := by decide +kernel
theorem d_Mo_holdsOvertime_41 : decode b_Mo_holdsOvertime 41 = .ok (.goto (-37), 3) := by decide +kernel
theorem d_Mo_holdsOvertime_44 : decode b_Mo_holdsOvertime 44 = .ok (.iload_n 1, 1) := by decide +kernel
theorem d_Mo_holdsOvertime_45 : decode b_Mo_holdsOvertime 45 = .ok (.ireturn, 1) := by decide +kernel
theorem d_Mo_turn_0 : decode b_Mo_turn 0 = .ok (.aload_n 0, 1) := by decide +kernel
theorem d_Mo_turn_1 : decode b_Mo_turn 1 = .ok (.getfield 81, 3) := by decide +kernel
theorem d_Mo_turn_4 : decode b_Mo_turn 4 = .ok (.iconst 1, 1) := by decide +kernel
theorem d_Mo_turn_5 : decode b_Mo_turn 5 = .ok (.isub, 1) := by decide +kernel
theorem d_Mo_turn_6 : decode b_Mo_turn 6 = .ok (.istore_n 1, 1) := by decide +kernel
theorem d_Mo_turn_7 : decode b_Mo_turn 7 = .ok (.iload_n 1, 1) := by decide +kernel
theorem d_Mo_turn_8 : decode b_Mo_turn 8 = .ok (.ifCond .lt 29, 3) := by decide +kernel
theorem d_Mo_turn_11 : decode b_Mo_turn 11 = .ok (.aload_n 0, 1) := by decide +kernel
theorem d_Mo_turn_12 : decode b_Mo_turn 12 = .ok (.getfield 44, 3) := by decide +kernel
theorem d_Mo_turn_15 : decode b_Mo_turn 15 = .ok (.iload_n 1, 1) := by decide +kernel
theorem d_Mo_turn_16 : decode b_Mo_turn 16 = .ok (.iaload, 1) := by decide +kernel
theorem d_Mo_turn_17 : decode b_Mo_turn 17 = .ok (.aload_n 0, 1) := by decide +kernel
theorem d_Mo_turn_18 : decode b_Mo_turn 18 = .ok (.getfield 77, 3) := by decide +kernel
theorem d_Mo_turn_21 : decode b_Mo_turn 21 = .ok (.if_icmp .ne 16, 3) := by decide +kernel
theorem d_Mo_turn_24 : decode b_Mo_turn 24 = .ok (.aload_n 0, 1) := by decide +kernel
theorem d_Mo_turn_25 : decode b_Mo_turn 25 = .ok (.getfield 44, 3) := by decide +kernel
theorem d_Mo_turn_28 : decode b_Mo_turn 28 = .ok (.iload_n 1, 1) := by decide +kernel
theorem d_Mo_turn_29 : decode b_Mo_turn 29 = .ok (.iconst 0, 1) := by decide +kernel
theorem d_Mo_turn_30 : decode b_Mo_turn 30 = .ok (.iastore, 1) := by decide +kernel
theorem d_Mo_turn_31 : decode b_Mo_turn 31 = .ok (.iinc 1 (-1), 3) := by decide +kernel
theorem d_Mo_turn_34 : decode b_Mo_turn 34 = .ok (.goto (-27), 3) := by decide +kernel
theorem d_Mo_turn_37 : decode b_Mo_turn 37 = .ok (.iload_n 1, 1) := by decide +kernel
theorem d_Mo_turn_38 : decode b_Mo_turn 38 = .ok (.ifCond .lt 13, 3) := by decide +kernel
theorem d_Mo_turn_41 : decode b_Mo_turn 41 = .ok (.aload_n 0, 1) := by decide +kernel
theorem d_Mo_turn_42 : decode b_Mo_turn 42 = .ok (.getfield 44, 3) := by decide +kernel
theorem d_Mo_turn_45 : decode b_Mo_turn 45 = .ok (.iload_n 1, 1) := by decide +kernel
theorem d_Mo_turn_46 : decode b_Mo_turn 46 = .ok (.dup2, 1) := by decide +kernel
theorem d_Mo_turn_47 : decode b_Mo_turn 47 = .ok (.iaload, 1) := by decide +kernel
theorem d_Mo_turn_48 : decode b_Mo_turn 48 = .ok (.iconst 1, 1) := by decide +kernel
theorem d_Mo_turn_49 : decode b_Mo_turn 49 = .ok (.iadd, 1) := by decide +kernel
theorem d_Mo_turn_50 : decode b_Mo_turn 50 = .ok (.iastore, 1) := by decide +kernel
theorem d_Mo_turn_51 : decode b_Mo_turn 51 = .ok (.iload_n 1, 1) := by decide +kernel
theorem d_Mo_turn_52 : decode b_Mo_turn 52 = .ok (.ifCond .lt 7, 3) := by decide +kernel
theorem d_Mo_turn_55 : decode b_Mo_turn 55 = .ok (.iconst 1, 1) := by decide +kernel
theorem d_Mo_turn_56 : decode b_Mo_turn 56 = .ok (.goto 4, 3) := by decide +kernel
theorem d_Mo_turn_59 : decode b_Mo_turn 59 = .ok (.iconst 0, 1) := by decide +kernel
theorem d_Mo_turn_60 : decode b_Mo_turn 60 = .ok (.ireturn, 1) := by decide +kernel
theorem d_Mo_why_0 : decode b_Mo_why 0 = .ok (.iconst 0, 1) := by decide +kernel
theorem d_Mo_why_1 : decode b_Mo_why 1 = .ok (.istore_n 1, 1) := by decide +kernel
theorem d_Mo_why_2 : decode b_Mo_why 2 = .ok (.iconst 0, 1) := by decide +kernel
theorem d_Mo_why_3 : decode b_Mo_why 3 = .ok (.istore_n 2, 1) := by decide +kernel
theorem d_Mo_why_4 : decode b_Mo_why 4 = .ok (.iconst 0, 1) := by decide +kernel
theorem d_Mo_why_5 : decode b_Mo_why 5 = .ok (.istore_n 3, 1) := by decide +kernel
theorem d_Mo_why_6 : decode b_Mo_why 6 = .ok (.iload_n 3, 1) := by decide +kernel
theorem d_Mo_why_7 : decode b_Mo_why 7 = .ok (.aload_n 0, 1) := by decide +kernel
theorem d_Mo_why_8 : decode b_Mo_why 8 = .ok (.getfield 81, 3) := by decide +kernel
theorem d_Mo_why_11 : decode b_Mo_why 11 = .ok (.if_icmp .ge 70, 3) := by decide +kernel
theorem d_Mo_why_14 : decode b_Mo_why 14 = .ok (.iload_n 1, 1) := by decide +kernel
theorem d_Mo_why_15 : decode b_Mo_why 15 = .ok (.ifCond .ne 21, 3) := by decide +kernel
theorem d_Mo_why_18 : decode b_Mo_why 18 = .ok (.aload_n 0, 1) := by decide +kernel
theorem d_Mo_why_19 : decode b_Mo_why 19 = .ok (.getfield 25, 3) := by decide +kernel
theorem d_Mo_why_22 : decode b_Mo_why 22 = .ok (.iload_n 3, 1) := by decide +kernel
theorem d_Mo_why_23 : decode b_Mo_why 23 = .ok (.baload, 1) := by decide +kernel
theorem d_Mo_why_24 : decode b_Mo_why 24 = .ok (.ifCond .eq 16, 3) := by decide +kernel
theorem d_Mo_why_27 : decode b_Mo_why 27 = .ok (.aload_n 0, 1) := by decide +kernel
theorem d_Mo_why_28 : decode b_Mo_why 28 = .ok (.getfield 29, 3) := by decide +kernel
theorem d_Mo_why_31 : decode b_Mo_why 31 = .ok (.iload_n 3, 1) := by decide +kernel
theorem d_Mo_why_32 : decode b_Mo_why 32 = .ok (.baload, 1) := by decide +kernel
theorem d_Mo_why_33 : decode b_Mo_why 33 = .ok (.ifCond .eq 7, 3) := by decide +kernel
theorem d_Mo_why_36 : decode b_Mo_why 36 = .ok (.iconst 1, 1) := by decide +kernel
theorem d_Mo_why_37 : decode b_Mo_why 37 = .ok (.goto 4, 3) := by decide +kernel
theorem d_Mo_why_40 : decode b_Mo_why 40 = .ok (.iconst 0, 1) := by decide +kernel
theorem d_Mo_why_41 : decode b_Mo_why 41 = .ok (.istore_n 1, 1) := by decide +kernel
theorem d_Mo_why_42 : decode b_Mo_why 42 = .ok (.iload_n 2, 1) := by decide +kernel
theorem d_Mo_why_43 : decode b_Mo_why 43 = .ok (.ifCond .ne 26, 3) := by decide +kernel
theorem d_Mo_why_46 : decode b_Mo_why 46 = .ok (.aload_n 0, 1) := by decide +kernel
theorem d_Mo_why_47 : decode b_Mo_why 47 = .ok (.getfield 25, 3) := by decide +kernel
theorem d_Mo_why_50 : decode b_Mo_why 50 = .ok (.iload_n 3, 1) := by decide +kernel
theorem d_Mo_why_51 : decode b_Mo_why 51 = .ok (.baload, 1) := by decide +kernel
theorem d_Mo_why_52 : decode b_Mo_why 52 = .ok (.ifCond .eq 21, 3) := by decide +kernel
theorem d_Mo_why_55 : decode b_Mo_why 55 = .ok (.aload_n 0, 1) := by decide +kernel
theorem d_Mo_why_56 : decode b_Mo_why 56 = .ok (.aload_n 0, 1) := by decide +kernel
theorem d_Mo_why_57 : decode b_Mo_why 57 = .ok (.getfield 16, 3) := by decide +kernel
theorem d_Mo_why_60 : decode b_Mo_why 60 = .ok (.iload_n 3, 1) := by decide +kernel
theorem d_Mo_why_61 : decode b_Mo_why 61 = .ok (.iaload, 1) := by decide +kernel
theorem d_Mo_why_62 : decode b_Mo_why 62 = .ok (.iload_n 3, 1) := by decide +kernel
theorem d_Mo_why_63 : decode b_Mo_why 63 = .ok (.invokevirtual 124, 3) := by decide +kernel
theorem d_Mo_why_66 : decode b_Mo_why 66 = .ok (.ifCond .ne 7, 3) := by decide +kernel
theorem d_Mo_why_69 : decode b_Mo_why 69 = .ok (.iconst 1, 1) := by decide +kernel
theorem d_Mo_why_70 : decode b_Mo_why 70 = .ok (.goto 4, 3) := by decide +kernel
theorem d_Mo_why_73 : decode b_Mo_why 73 = .ok (.iconst 0, 1) := by decide +kernel
theorem d_Mo_why_74 : decode b_Mo_why 74 = .ok (.istore_n 2, 1) := by decide +kernel
theorem d_Mo_why_75 : decode b_Mo_why 75 = .ok (.iinc 3 1, 3) := by decide +kernel
theorem d_Mo_why_78 : decode b_Mo_why 78 = .ok (.goto (-72), 3) := by decide +kernel
theorem d_Mo_why_81 : decode b_Mo_why 81 = .ok (.iload_n 1, 1) := by decide +kernel
theorem d_Mo_why_82 : decode b_Mo_why 82 = .ok (.ifCond .eq 8, 3) := by decide +kernel
theorem d_Mo_why_85 : decode b_Mo_why 85 = .ok (.bipush (-2), 2) := by decide +kernel
theorem d_Mo_why_87 : decode b_Mo_why 87 = .ok (.goto 14, 3) := by decide +kernel
theorem d_Mo_why_90 : decode b_Mo_why 90 = .ok (.iload_n 2, 1) := by decide +kernel
theorem d_Mo_why_91 : decode b_Mo_why 91 = .ok (.ifCond .eq 8, 3) := by decide +kernel
theorem d_Mo_why_94 : decode b_Mo_why 94 = .ok (.bipush (-3), 2) := by decide +kernel
theorem d_Mo_why_96 : decode b_Mo_why 96 = .ok (.goto 5, 3) := by decide +kernel
theorem d_Mo_why_99 : decode b_Mo_why 99 = .ok (.bipush (-4), 2) := by decide +kernel
theorem d_Mo_why_101 : decode b_Mo_why 101 = .ok (.ireturn, 1) := by decide +kernel
theorem d_Mo_keep_0 : decode b_Mo_keep 0 = .ok (.aload_n 0, 1) := by decide +kernel
theorem d_Mo_keep_1 : decode b_Mo_keep 1 = .ok (.getfield 149, 3) := by decide +kernel
theorem d_Mo_keep_4 : decode b_Mo_keep 4 = .ok (.bipush 6, 2) := by decide +kernel
theorem d_Mo_keep_6 : decode b_Mo_keep 6 = .ok (.if_icmp .ne 79, 3) := by decide +kernel
theorem d_Mo_keep_9 : decode b_Mo_keep 9 = .ok (.iconst 1, 1) := by decide +kernel
theorem d_Mo_keep_10 : decode b_Mo_keep 10 = .ok (.istore_n 1, 1) := by decide +kernel
theorem d_Mo_keep_11 : decode b_Mo_keep 11 = .ok (.iload_n 1, 1) := by decide +kernel
theorem d_Mo_keep_12 : decode b_Mo_keep 12 = .ok (.bipush 6, 2) := by decide +kernel
theorem d_Mo_keep_14 : decode b_Mo_keep 14 = .ok (.if_icmp .ge 61, 3) := by decide +kernel
theorem d_Mo_keep_17 : decode b_Mo_keep 17 = .ok (.aload_n 0, 1) := by decide +kernel
theorem d_Mo_keep_18 : decode b_Mo_keep 18 = .ok (.getfield 53, 3) := by decide +kernel
theorem d_Mo_keep_21 : decode b_Mo_keep 21 = .ok (.iload_n 1, 1) := by decide +kernel
theorem d_Mo_keep_22 : decode b_Mo_keep 22 = .ok (.iconst 1, 1) := by decide +kernel
theorem d_Mo_keep_23 : decode b_Mo_keep 23 = .ok (.isub, 1) := by decide +kernel
theorem d_Mo_keep_24 : decode b_Mo_keep 24 = .ok (.aload_n 0, 1) := by decide +kernel
theorem d_Mo_keep_25 : decode b_Mo_keep 25 = .ok (.getfield 53, 3) := by decide +kernel
theorem d_Mo_keep_28 : decode b_Mo_keep 28 = .ok (.iload_n 1, 1) := by decide +kernel
theorem d_Mo_keep_29 : decode b_Mo_keep 29 = .ok (.iaload, 1) := by decide +kernel
theorem d_Mo_keep_30 : decode b_Mo_keep 30 = .ok (.iastore, 1) := by decide +kernel
theorem d_Mo_keep_31 : decode b_Mo_keep 31 = .ok (.iconst 0, 1) := by decide +kernel
theorem d_Mo_keep_32 : decode b_Mo_keep 32 = .ok (.istore_n 2, 1) := by decide +kernel
theorem d_Mo_keep_33 : decode b_Mo_keep 33 = .ok (.iload_n 2, 1) := by decide +kernel
theorem d_Mo_keep_34 : decode b_Mo_keep 34 = .ok (.bipush 8, 2) := by decide +kernel
theorem d_Mo_keep_36 : decode b_Mo_keep 36 = .ok (.if_icmp .ge 33, 3) := by decide +kernel
theorem d_Mo_keep_39 : decode b_Mo_keep 39 = .ok (.aload_n 0, 1) := by decide +kernel
theorem d_Mo_keep_40 : decode b_Mo_keep 40 = .ok (.getfield 50, 3) := by decide +kernel
theorem d_Mo_keep_43 : decode b_Mo_keep 43 = .ok (.bipush 8, 2) := by decide +kernel
theorem d_Mo_keep_45 : decode b_Mo_keep 45 = .ok (.iload_n 1, 1) := by decide +kernel
theorem d_Mo_keep_46 : decode b_Mo_keep 46 = .ok (.iconst 1, 1) := by decide +kernel
theorem d_Mo_keep_47 : decode b_Mo_keep 47 = .ok (.isub, 1) := by decide +kernel
theorem d_Mo_keep_48 : decode b_Mo_keep 48 = .ok (.imul, 1) := by decide +kernel
theorem d_Mo_keep_49 : decode b_Mo_keep 49 = .ok (.iload_n 2, 1) := by decide +kernel
theorem d_Mo_keep_50 : decode b_Mo_keep 50 = .ok (.iadd, 1) := by decide +kernel
theorem d_Mo_keep_51 : decode b_Mo_keep 51 = .ok (.aload_n 0, 1) := by decide +kernel
theorem d_Mo_keep_52 : decode b_Mo_keep 52 = .ok (.getfield 50, 3) := by decide +kernel
theorem d_Mo_keep_55 : decode b_Mo_keep 55 = .ok (.bipush 8, 2) := by decide +kernel
theorem d_Mo_keep_57 : decode b_Mo_keep 57 = .ok (.iload_n 1, 1) := by decide +kernel
theorem d_Mo_keep_58 : decode b_Mo_keep 58 = .ok (.imul, 1) := by decide +kernel
theorem d_Mo_keep_59 : decode b_Mo_keep 59 = .ok (.iload_n 2, 1) := by decide +kernel
theorem d_Mo_keep_60 : decode b_Mo_keep 60 = .ok (.iadd, 1) := by decide +kernel
theorem d_Mo_keep_61 : decode b_Mo_keep 61 = .ok (.iaload, 1) := by decide +kernel
theorem d_Mo_keep_62 : decode b_Mo_keep 62 = .ok (.iastore, 1) := by decide +kernel
