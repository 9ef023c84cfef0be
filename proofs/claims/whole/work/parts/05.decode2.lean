theorem d_Se_least_62 : decode b_Se_least 62 = .ok (.getfield 11, 3) := by decide +kernel
theorem d_Se_least_65 : decode b_Se_least 65 = .ok (.iload_n 3, 1) := by decide +kernel
theorem d_Se_least_66 : decode b_Se_least 66 = .ok (.aload_n 0, 1) := by decide +kernel
theorem d_Se_least_67 : decode b_Se_least 67 = .ok (.iload_n 2, 1) := by decide +kernel
theorem d_Se_least_68 : decode b_Se_least 68 = .ok (.iload_n 3, 1) := by decide +kernel
theorem d_Se_least_69 : decode b_Se_least 69 = .ok (.invokevirtual 31, 3) := by decide +kernel
theorem d_Se_least_72 : decode b_Se_least 72 = .ok (.lastore, 1) := by decide +kernel
theorem d_Se_least_73 : decode b_Se_least 73 = .ok (.iinc 3 1, 3) := by decide +kernel
theorem d_Se_least_76 : decode b_Se_least 76 = .ok (.goto (-20), 3) := by decide +kernel
theorem d_Se_least_79 : decode b_Se_least 79 = .ok (.aload_n 0, 1) := by decide +kernel
theorem d_Se_least_80 : decode b_Se_least 80 = .ok (.iload_n 1, 1) := by decide +kernel
theorem d_Se_least_81 : decode b_Se_least 81 = .ok (.invokevirtual 35, 3) := by decide +kernel
theorem d_Se_least_84 : decode b_Se_least 84 = .ok (.iinc 2 1, 3) := by decide +kernel
theorem d_Se_least_87 : decode b_Se_least 87 = .ok (.goto (-44), 3) := by decide +kernel
theorem d_Se_least_90 : decode b_Se_least 90 = .ok (.aload_n 0, 1) := by decide +kernel
theorem d_Se_least_91 : decode b_Se_least 91 = .ok (.getfield 15, 3) := by decide +kernel
theorem d_Se_least_94 : decode b_Se_least 94 = .ok (.iload_n 1, 1) := by decide +kernel
theorem d_Se_least_95 : decode b_Se_least 95 = .ok (.iconst 1, 1) := by decide +kernel
theorem d_Se_least_96 : decode b_Se_least 96 = .ok (.isub, 1) := by decide +kernel
theorem d_Se_least_97 : decode b_Se_least 97 = .ok (.laload, 1) := by decide +kernel
theorem d_Se_least_98 : decode b_Se_least 98 = .ok (.lreturn, 1) := by decide +kernel
theorem d_Se_weightOf_0 : decode b_Se_weightOf 0 = .ok (.lconst 0, 1) := by decide +kernel
theorem d_Se_weightOf_1 : decode b_Se_weightOf 1 = .ok (.lstore_n 3, 1) := by decide +kernel
theorem d_Se_weightOf_2 : decode b_Se_weightOf 2 = .ok (.iconst 0, 1) := by decide +kernel
theorem d_Se_weightOf_3 : decode b_Se_weightOf 3 = .ok (.istore 5, 2) := by decide +kernel
theorem d_Se_weightOf_5 : decode b_Se_weightOf 5 = .ok (.iload 5, 2) := by decide +kernel
theorem d_Se_weightOf_7 : decode b_Se_weightOf 7 = .ok (.aload_n 0, 1) := by decide +kernel
theorem d_Se_weightOf_8 : decode b_Se_weightOf 8 = .ok (.getfield 18, 3) := by decide +kernel
theorem d_Se_weightOf_11 : decode b_Se_weightOf 11 = .ok (.getfield 22, 3) := by decide +kernel
theorem d_Se_weightOf_14 : decode b_Se_weightOf 14 = .ok (.if_icmp .ge 70, 3) := by decide +kernel
theorem d_Se_weightOf_17 : decode b_Se_weightOf 17 = .ok (.iload_n 2, 1) := by decide +kernel
theorem d_Se_weightOf_18 : decode b_Se_weightOf 18 = .ok (.iload 5, 2) := by decide +kernel
theorem d_Se_weightOf_20 : decode b_Se_weightOf 20 = .ok (.invokestatic 45, 3) := by decide +kernel
theorem d_Se_weightOf_23 : decode b_Se_weightOf 23 = .ok (.ifCond .eq 55, 3) := by decide +kernel
theorem d_Se_weightOf_26 : decode b_Se_weightOf 26 = .ok (.aload_n 0, 1) := by decide +kernel
theorem d_Se_weightOf_27 : decode b_Se_weightOf 27 = .ok (.getfield 18, 3) := by decide +kernel
theorem d_Se_weightOf_30 : decode b_Se_weightOf 30 = .ok (.iload 5, 2) := by decide +kernel
theorem d_Se_weightOf_32 : decode b_Se_weightOf 32 = .ok (.iload_n 1, 1) := by decide +kernel
theorem d_Se_weightOf_33 : decode b_Se_weightOf 33 = .ok (.invokevirtual 49, 3) := by decide +kernel
theorem d_Se_weightOf_36 : decode b_Se_weightOf 36 = .ok (.ifCond .ne 7, 3) := by decide +kernel
theorem d_Se_weightOf_39 : decode b_Se_weightOf 39 = .ok (.ldc2_w 52, 3) := by decide +kernel
theorem d_Se_weightOf_42 : decode b_Se_weightOf 42 = .ok (.lreturn, 1) := by decide +kernel
theorem d_Se_weightOf_43 : decode b_Se_weightOf 43 = .ok (.lload_n 3, 1) := by decide +kernel
theorem d_Se_weightOf_44 : decode b_Se_weightOf 44 = .ok (.iload_n 1, 1) := by decide +kernel
theorem d_Se_weightOf_45 : decode b_Se_weightOf 45 = .ok (.i2l, 1) := by decide +kernel
theorem d_Se_weightOf_46 : decode b_Se_weightOf 46 = .ok (.iload 5, 2) := by decide +kernel
theorem d_Se_weightOf_48 : decode b_Se_weightOf 48 = .ok (.invokestatic 54, 3) := by decide +kernel
theorem d_Se_weightOf_51 : decode b_Se_weightOf 51 = .ok (.lshl, 1) := by decide +kernel
theorem d_Se_weightOf_52 : decode b_Se_weightOf 52 = .ok (.ladd, 1) := by decide +kernel
theorem d_Se_weightOf_53 : decode b_Se_weightOf 53 = .ok (.lstore_n 3, 1) := by decide +kernel
theorem d_Se_weightOf_54 : decode b_Se_weightOf 54 = .ok (.lload_n 3, 1) := by decide +kernel
theorem d_Se_weightOf_55 : decode b_Se_weightOf 55 = .ok (.aload_n 0, 1) := by decide +kernel
theorem d_Se_weightOf_56 : decode b_Se_weightOf 56 = .ok (.getfield 18, 3) := by decide +kernel
theorem d_Se_weightOf_59 : decode b_Se_weightOf 59 = .ok (.getfield 58, 3) := by decide +kernel
theorem d_Se_weightOf_62 : decode b_Se_weightOf 62 = .ok (.iload 5, 2) := by decide +kernel
theorem d_Se_weightOf_64 : decode b_Se_weightOf 64 = .ok (.iaload, 1) := by decide +kernel
theorem d_Se_weightOf_65 : decode b_Se_weightOf 65 = .ok (.iload_n 1, 1) := by decide +kernel
theorem d_Se_weightOf_66 : decode b_Se_weightOf 66 = .ok (.if_icmp .ne 7, 3) := by decide +kernel
theorem d_Se_weightOf_69 : decode b_Se_weightOf 69 = .ok (.lconst 0, 1) := by decide +kernel
theorem d_Se_weightOf_70 : decode b_Se_weightOf 70 = .ok (.goto 6, 3) := by decide +kernel
theorem d_Se_weightOf_73 : decode b_Se_weightOf 73 = .ok (.ldc2_w 62, 3) := by decide +kernel
theorem d_Se_weightOf_76 : decode b_Se_weightOf 76 = .ok (.ladd, 1) := by decide +kernel
theorem d_Se_weightOf_77 : decode b_Se_weightOf 77 = .ok (.lstore_n 3, 1) := by decide +kernel
theorem d_Se_weightOf_78 : decode b_Se_weightOf 78 = .ok (.iinc 5 1, 3) := by decide +kernel
theorem d_Se_weightOf_81 : decode b_Se_weightOf 81 = .ok (.goto (-76), 3) := by decide +kernel
theorem d_Se_weightOf_84 : decode b_Se_weightOf 84 = .ok (.iload_n 1, 1) := by decide +kernel
theorem d_Se_weightOf_85 : decode b_Se_weightOf 85 = .ok (.aload_n 0, 1) := by decide +kernel
theorem d_Se_weightOf_86 : decode b_Se_weightOf 86 = .ok (.getfield 18, 3) := by decide +kernel
theorem d_Se_weightOf_89 : decode b_Se_weightOf 89 = .ok (.getfield 28, 3) := by decide +kernel
theorem d_Se_weightOf_92 : decode b_Se_weightOf 92 = .ok (.if_icmp .ne 5, 3) := by decide +kernel
theorem d_Se_weightOf_95 : decode b_Se_weightOf 95 = .ok (.lload_n 3, 1) := by decide +kernel
theorem d_Se_weightOf_96 : decode b_Se_weightOf 96 = .ok (.lreturn, 1) := by decide +kernel
theorem d_Se_weightOf_97 : decode b_Se_weightOf 97 = .ok (.aload_n 0, 1) := by decide +kernel
theorem d_Se_weightOf_98 : decode b_Se_weightOf 98 = .ok (.getfield 18, 3) := by decide +kernel
theorem d_Se_weightOf_101 : decode b_Se_weightOf 101 = .ok (.iload_n 1, 1) := by decide +kernel
theorem d_Se_weightOf_102 : decode b_Se_weightOf 102 = .ok (.iload_n 2, 1) := by decide +kernel
theorem d_Se_weightOf_103 : decode b_Se_weightOf 103 = .ok (.invokevirtual 64, 3) := by decide +kernel
theorem d_Se_weightOf_106 : decode b_Se_weightOf 106 = .ok (.istore 5, 2) := by decide +kernel
theorem d_Se_weightOf_108 : decode b_Se_weightOf 108 = .ok (.aload_n 0, 1) := by decide +kernel
theorem d_Se_weightOf_109 : decode b_Se_weightOf 109 = .ok (.getfield 18, 3) := by decide +kernel
theorem d_Se_weightOf_112 : decode b_Se_weightOf 112 = .ok (.iload_n 1, 1) := by decide +kernel
theorem d_Se_weightOf_113 : decode b_Se_weightOf 113 = .ok (.iload 5, 2) := by decide +kernel
theorem d_Se_weightOf_115 : decode b_Se_weightOf 115 = .ok (.invokevirtual 68, 3) := by decide +kernel
theorem d_Se_weightOf_118 : decode b_Se_weightOf 118 = .ok (.istore 6, 2) := by decide +kernel
theorem d_Se_weightOf_120 : decode b_Se_weightOf 120 = .ok (.iload 6, 2) := by decide +kernel
theorem d_Se_weightOf_122 : decode b_Se_weightOf 122 = .ok (.aload_n 0, 1) := by decide +kernel
theorem d_Se_weightOf_123 : decode b_Se_weightOf 123 = .ok (.getfield 18, 3) := by decide +kernel
theorem d_Se_weightOf_126 : decode b_Se_weightOf 126 = .ok (.getfield 71, 3) := by decide +kernel
theorem d_Se_weightOf_129 : decode b_Se_weightOf 129 = .ok (.if_icmp .le 9, 3) := by decide +kernel
theorem d_Se_weightOf_132 : decode b_Se_weightOf 132 = .ok (.ldc2_w 52, 3) := by decide +kernel
theorem d_Se_weightOf_135 : decode b_Se_weightOf 135 = .ok (.goto 14, 3) := by decide +kernel
theorem d_Se_weightOf_138 : decode b_Se_weightOf 138 = .ok (.lload_n 3, 1) := by decide +kernel
theorem d_Se_weightOf_139 : decode b_Se_weightOf 139 = .ok (.iload 5, 2) := by decide +kernel
theorem d_Se_weightOf_141 : decode b_Se_weightOf 141 = .ok (.iload 6, 2) := by decide +kernel
theorem d_Se_weightOf_143 : decode b_Se_weightOf 143 = .ok (.iadd, 1) := by decide +kernel
theorem d_Se_weightOf_144 : decode b_Se_weightOf 144 = .ok (.i2l, 1) := by decide +kernel
theorem d_Se_weightOf_145 : decode b_Se_weightOf 145 = .ok (.bipush 16, 2) := by decide +kernel
theorem d_Se_weightOf_147 : decode b_Se_weightOf 147 = .ok (.lshl, 1) := by decide +kernel
theorem d_Se_weightOf_148 : decode b_Se_weightOf 148 = .ok (.ladd, 1) := by decide +kernel
theorem d_Se_weightOf_149 : decode b_Se_weightOf 149 = .ok (.lreturn, 1) := by decide +kernel
theorem d_DS_isIn_0 : decode b_DS_isIn 0 = .ok (.iload_n 0, 1) := by decide +kernel
theorem d_DS_isIn_1 : decode b_DS_isIn 1 = .ok (.iload_n 1, 1) := by decide +kernel
theorem d_DS_isIn_2 : decode b_DS_isIn 2 = .ok (.ishr, 1) := by decide +kernel
theorem d_DS_isIn_3 : decode b_DS_isIn 3 = .ok (.iconst 1, 1) := by decide +kernel
theorem d_DS_isIn_4 : decode b_DS_isIn 4 = .ok (.iand, 1) := by decide +kernel
theorem d_DS_isIn_5 : decode b_DS_isIn 5 = .ok (.iconst 1, 1) := by decide +kernel
theorem d_DS_isIn_6 : decode b_DS_isIn 6 = .ok (.if_icmp .ne 7, 3) := by decide +kernel
theorem d_DS_isIn_9 : decode b_DS_isIn 9 = .ok (.iconst 1, 1) := by decide +kernel
theorem d_DS_isIn_10 : decode b_DS_isIn 10 = .ok (.goto 4, 3) := by decide +kernel
theorem d_DS_isIn_13 : decode b_DS_isIn 13 = .ok (.iconst 0, 1) := by decide +kernel
theorem d_DS_isIn_14 : decode b_DS_isIn 14 = .ok (.ireturn, 1) := by decide +kernel
theorem d_Day_mayHave_0 : decode b_Day_mayHave 0 = .ok (.aload_n 0, 1) := by decide +kernel
theorem d_Day_mayHave_1 : decode b_Day_mayHave 1 = .ok (.getfield 24, 3) := by decide +kernel
theorem d_Day_mayHave_4 : decode b_Day_mayHave 4 = .ok (.iload_n 1, 1) := by decide +kernel
theorem d_Day_mayHave_5 : decode b_Day_mayHave 5 = .ok (.baload, 1) := by decide +kernel
theorem d_Day_mayHave_6 : decode b_Day_mayHave 6 = .ok (.ifCond .eq 15, 3) := by decide +kernel
theorem d_Day_mayHave_9 : decode b_Day_mayHave 9 = .ok (.aload_n 0, 1) := by decide +kernel
theorem d_Day_mayHave_10 : decode b_Day_mayHave 10 = .ok (.getfield 18, 3) := by decide +kernel
theorem d_Day_mayHave_13 : decode b_Day_mayHave 13 = .ok (.iload_n 1, 1) := by decide +kernel
theorem d_Day_mayHave_14 : decode b_Day_mayHave 14 = .ok (.iaload, 1) := by decide +kernel
theorem d_Day_mayHave_15 : decode b_Day_mayHave 15 = .ok (.iload_n 2, 1) := by decide +kernel
theorem d_Day_mayHave_16 : decode b_Day_mayHave 16 = .ok (.if_icmp .eq 5, 3) := by decide +kernel
theorem d_Day_mayHave_19 : decode b_Day_mayHave 19 = .ok (.iconst 0, 1) := by decide +kernel
theorem d_Day_mayHave_20 : decode b_Day_mayHave 20 = .ok (.ireturn, 1) := by decide +kernel
theorem d_Day_mayHave_21 : decode b_Day_mayHave 21 = .ok (.iload_n 2, 1) := by decide +kernel
theorem d_Day_mayHave_22 : decode b_Day_mayHave 22 = .ok (.aload_n 0, 1) := by decide +kernel
theorem d_Day_mayHave_23 : decode b_Day_mayHave 23 = .ok (.getfield 57, 3) := by decide +kernel
theorem d_Day_mayHave_26 : decode b_Day_mayHave 26 = .ok (.if_icmp .eq 21, 3) := by decide +kernel
theorem d_Day_mayHave_29 : decode b_Day_mayHave 29 = .ok (.aload_n 0, 1) := by decide +kernel
theorem d_Day_mayHave_30 : decode b_Day_mayHave 30 = .ok (.getfield 28, 3) := by decide +kernel
theorem d_Day_mayHave_33 : decode b_Day_mayHave 33 = .ok (.iload_n 1, 1) := by decide +kernel
theorem d_Day_mayHave_34 : decode b_Day_mayHave 34 = .ok (.baload, 1) := by decide +kernel
theorem d_Day_mayHave_35 : decode b_Day_mayHave 35 = .ok (.ifCond .ne 16, 3) := by decide +kernel
theorem d_Day_mayHave_38 : decode b_Day_mayHave 38 = .ok (.aload_n 0, 1) := by decide +kernel
theorem d_Day_mayHave_39 : decode b_Day_mayHave 39 = .ok (.iload_n 2, 1) := by decide +kernel
theorem d_Day_mayHave_40 : decode b_Day_mayHave 40 = .ok (.iload_n 1, 1) := by decide +kernel
theorem d_Day_mayHave_41 : decode b_Day_mayHave 41 = .ok (.invokevirtual 78, 3) := by decide +kernel
theorem d_Day_mayHave_44 : decode b_Day_mayHave 44 = .ok (.ifCond .eq 7, 3) := by decide +kernel
theorem d_Day_mayHave_47 : decode b_Day_mayHave 47 = .ok (.iconst 1, 1) := by decide +kernel
theorem d_Day_mayHave_48 : decode b_Day_mayHave 48 = .ok (.goto 4, 3) := by decide +kernel
theorem d_Day_mayHave_51 : decode b_Day_mayHave 51 = .ok (.iconst 0, 1) := by decide +kernel
theorem d_Day_mayHave_52 : decode b_Day_mayHave 52 = .ok (.ireturn, 1) := by decide +kernel
theorem d_Day_canDo_0 : decode b_Day_canDo 0 = .ok (.aload_n 0, 1) := by decide +kernel
theorem d_Day_canDo_1 : decode b_Day_canDo 1 = .ok (.getfield 45, 3) := by decide +kernel
theorem d_Day_canDo_4 : decode b_Day_canDo 4 = .ok (.iload_n 1, 1) := by decide +kernel
theorem d_Day_canDo_5 : decode b_Day_canDo 5 = .ok (.iaload, 1) := by decide +kernel
theorem d_Day_canDo_6 : decode b_Day_canDo 6 = .ok (.bipush 8, 2) := by decide +kernel
theorem d_Day_canDo_8 : decode b_Day_canDo 8 = .ok (.if_icmp .ne 5, 3) := by decide +kernel
theorem d_Day_canDo_11 : decode b_Day_canDo 11 = .ok (.iconst 1, 1) := by decide +kernel
theorem d_Day_canDo_12 : decode b_Day_canDo 12 = .ok (.ireturn, 1) := by decide +kernel
theorem d_Day_canDo_13 : decode b_Day_canDo 13 = .ok (.aload_n 0, 1) := by decide +kernel
theorem d_Day_canDo_14 : decode b_Day_canDo 14 = .ok (.getfield 18, 3) := by decide +kernel
theorem d_Day_canDo_17 : decode b_Day_canDo 17 = .ok (.iload_n 2, 1) := by decide +kernel
theorem d_Day_canDo_18 : decode b_Day_canDo 18 = .ok (.iaload, 1) := by decide +kernel
theorem d_Day_canDo_19 : decode b_Day_canDo 19 = .ok (.iload_n 1, 1) := by decide +kernel
theorem d_Day_canDo_20 : decode b_Day_canDo 20 = .ok (.if_icmp .ne 22, 3) := by decide +kernel
theorem d_Day_canDo_23 : decode b_Day_canDo 23 = .ok (.aload_n 0, 1) := by decide +kernel
theorem d_Day_canDo_24 : decode b_Day_canDo 24 = .ok (.getfield 21, 3) := by decide +kernel
theorem d_Day_canDo_27 : decode b_Day_canDo 27 = .ok (.iload_n 2, 1) := by decide +kernel
theorem d_Day_canDo_28 : decode b_Day_canDo 28 = .ok (.iaload, 1) := by decide +kernel
theorem d_Day_canDo_29 : decode b_Day_canDo 29 = .ok (.aload_n 0, 1) := by decide +kernel
theorem d_Day_canDo_30 : decode b_Day_canDo 30 = .ok (.getfield 45, 3) := by decide +kernel
theorem d_Day_canDo_33 : decode b_Day_canDo 33 = .ok (.iload_n 1, 1) := by decide +kernel
theorem d_Day_canDo_34 : decode b_Day_canDo 34 = .ok (.iaload, 1) := by decide +kernel
theorem d_Day_canDo_35 : decode b_Day_canDo 35 = .ok (.if_icmp .ge 7, 3) := by decide +kernel
theorem d_Day_canDo_38 : decode b_Day_canDo 38 = .ok (.iconst 1, 1) := by decide +kernel
theorem d_Day_canDo_39 : decode b_Day_canDo 39 = .ok (.goto 4, 3) := by decide +kernel
theorem d_Day_canDo_42 : decode b_Day_canDo 42 = .ok (.iconst 0, 1) := by decide +kernel
theorem d_Day_canDo_43 : decode b_Day_canDo 43 = .ok (.ireturn, 1) := by decide +kernel
theorem d_Se_digitShift_0 : decode b_Se_digitShift 0 = .ok (.iconst 2, 1) := by decide +kernel
theorem d_Se_digitShift_1 : decode b_Se_digitShift 1 = .ok (.bipush 7, 2) := by decide +kernel
theorem d_Se_digitShift_3 : decode b_Se_digitShift 3 = .ok (.iload_n 0, 1) := by decide +kernel
theorem d_Se_digitShift_4 : decode b_Se_digitShift 4 = .ok (.isub, 1) := by decide +kernel
theorem d_Se_digitShift_5 : decode b_Se_digitShift 5 = .ok (.imul, 1) := by decide +kernel
theorem d_Se_digitShift_6 : decode b_Se_digitShift 6 = .ok (.ireturn, 1) := by decide +kernel
theorem d_Day_timeOf_0 : decode b_Day_timeOf 0 = .ok (.aload_n 0, 1) := by decide +kernel
theorem d_Day_timeOf_1 : decode b_Day_timeOf 1 = .ok (.iload_n 1, 1) := by decide +kernel
theorem d_Day_timeOf_2 : decode b_Day_timeOf 2 = .ok (.iload_n 2, 1) := by decide +kernel
theorem d_Day_timeOf_3 : decode b_Day_timeOf 3 = .ok (.aload_n 0, 1) := by decide +kernel
theorem d_Day_timeOf_4 : decode b_Day_timeOf 4 = .ok (.getfield 54, 3) := by decide +kernel
theorem d_Day_timeOf_7 : decode b_Day_timeOf 7 = .ok (.iconst 0, 1) := by decide +kernel
theorem d_Day_timeOf_8 : decode b_Day_timeOf 8 = .ok (.invokevirtual 85, 3) := by decide +kernel
theorem d_Day_timeOf_11 : decode b_Day_timeOf 11 = .ok (.istore_n 3, 1) := by decide +kernel
theorem d_Day_timeOf_12 : decode b_Day_timeOf 12 = .ok (.iconst 0, 1) := by decide +kernel
theorem d_Day_timeOf_13 : decode b_Day_timeOf 13 = .ok (.istore 4, 2) := by decide +kernel
theorem d_Day_timeOf_15 : decode b_Day_timeOf 15 = .ok (.iconst 0, 1) := by decide +kernel
theorem d_Day_timeOf_16 : decode b_Day_timeOf 16 = .ok (.istore 5, 2) := by decide +kernel
theorem d_Day_timeOf_18 : decode b_Day_timeOf 18 = .ok (.iconst 0, 1) := by decide +kernel
theorem d_Day_timeOf_19 : decode b_Day_timeOf 19 = .ok (.istore 6, 2) := by decide +kernel
theorem d_Day_timeOf_21 : decode b_Day_timeOf 21 = .ok (.iload 6, 2) := by decide +kernel
theorem d_Day_timeOf_23 : decode b_Day_timeOf 23 = .ok (.iload_n 3, 1) := by decide +kernel
theorem d_Day_timeOf_24 : decode b_Day_timeOf 24 = .ok (.if_icmp .ge 55, 3) := by decide +kernel
theorem d_Day_timeOf_27 : decode b_Day_timeOf 27 = .ok (.aload_n 0, 1) := by decide +kernel
theorem d_Day_timeOf_28 : decode b_Day_timeOf 28 = .ok (.getfield 9, 3) := by decide +kernel
theorem d_Day_timeOf_31 : decode b_Day_timeOf 31 = .ok (.aload_n 0, 1) := by decide +kernel
theorem d_Day_timeOf_32 : decode b_Day_timeOf 32 = .ok (.getfield 54, 3) := by decide +kernel
theorem d_Day_timeOf_35 : decode b_Day_timeOf 35 = .ok (.iload 6, 2) := by decide +kernel
theorem d_Day_timeOf_37 : decode b_Day_timeOf 37 = .ok (.iaload, 1) := by decide +kernel
theorem d_Day_timeOf_38 : decode b_Day_timeOf 38 = .ok (.iaload, 1) := by decide +kernel
theorem d_Day_timeOf_39 : decode b_Day_timeOf 39 = .ok (.istore 7, 2) := by decide +kernel
theorem d_Day_timeOf_41 : decode b_Day_timeOf 41 = .ok (.iload 4, 2) := by decide +kernel
theorem d_Day_timeOf_43 : decode b_Day_timeOf 43 = .ok (.aload_n 0, 1) := by decide +kernel
theorem d_Day_timeOf_44 : decode b_Day_timeOf 44 = .ok (.getfield 51, 3) := by decide +kernel
theorem d_Day_timeOf_47 : decode b_Day_timeOf 47 = .ok (.iload 5, 2) := by decide +kernel
theorem d_Day_timeOf_49 : decode b_Day_timeOf 49 = .ok (.aaload, 1) := by decide +kernel
theorem d_Day_timeOf_50 : decode b_Day_timeOf 50 = .ok (.iload 7, 2) := by decide +kernel
theorem d_Day_timeOf_52 : decode b_Day_timeOf 52 = .ok (.iaload, 1) := by decide +kernel
theorem d_Day_timeOf_53 : decode b_Day_timeOf 53 = .ok (.aload_n 0, 1) := by decide +kernel
theorem d_Day_timeOf_54 : decode b_Day_timeOf 54 = .ok (.getfield 15, 3) := by decide +kernel
theorem d_Day_timeOf_57 : decode b_Day_timeOf 57 = .ok (.aload_n 0, 1) := by decide +kernel
theorem d_Day_timeOf_58 : decode b_Day_timeOf 58 = .ok (.getfield 54, 3) := by decide +kernel
theorem d_Day_timeOf_61 : decode b_Day_timeOf 61 = .ok (.iload 6, 2) := by decide +kernel
theorem d_Day_timeOf_63 : decode b_Day_timeOf 63 = .ok (.iaload, 1) := by decide +kernel
theorem d_Day_timeOf_64 : decode b_Day_timeOf 64 = .ok (.iaload, 1) := by decide +kernel
theorem d_Day_timeOf_65 : decode b_Day_timeOf 65 = .ok (.iadd, 1) := by decide +kernel
theorem d_Day_timeOf_66 : decode b_Day_timeOf 66 = .ok (.iadd, 1) := by decide +kernel
theorem d_Day_timeOf_67 : decode b_Day_timeOf 67 = .ok (.istore 4, 2) := by decide +kernel
theorem d_Day_timeOf_69 : decode b_Day_timeOf 69 = .ok (.iload 7, 2) := by decide +kernel
theorem d_Day_timeOf_71 : decode b_Day_timeOf 71 = .ok (.istore 5, 2) := by decide +kernel
theorem d_Day_timeOf_73 : decode b_Day_timeOf 73 = .ok (.iinc 6 1, 3) := by decide +kernel
theorem d_Day_timeOf_76 : decode b_Day_timeOf 76 = .ok (.goto (-55), 3) := by decide +kernel
theorem d_Day_timeOf_79 : decode b_Day_timeOf 79 = .ok (.iload 4, 2) := by decide +kernel
theorem d_Day_timeOf_81 : decode b_Day_timeOf 81 = .ok (.aload_n 0, 1) := by decide +kernel
theorem d_Day_timeOf_82 : decode b_Day_timeOf 82 = .ok (.getfield 51, 3) := by decide +kernel
theorem d_Day_timeOf_85 : decode b_Day_timeOf 85 = .ok (.iload 5, 2) := by decide +kernel
theorem d_Day_timeOf_87 : decode b_Day_timeOf 87 = .ok (.aaload, 1) := by decide +kernel
theorem d_Day_timeOf_88 : decode b_Day_timeOf 88 = .ok (.iconst 0, 1) := by decide +kernel
theorem d_Day_timeOf_89 : decode b_Day_timeOf 89 = .ok (.iaload, 1) := by decide +kernel
theorem d_Day_timeOf_90 : decode b_Day_timeOf 90 = .ok (.iadd, 1) := by decide +kernel
theorem d_Day_timeOf_91 : decode b_Day_timeOf 91 = .ok (.ireturn, 1) := by decide +kernel
theorem d_Day_addRound_0 : decode b_Day_addRound 0 = .ok (.iload 4, 2) := by decide +kernel
theorem d_Day_addRound_2 : decode b_Day_addRound 2 = .ok (.istore 5, 2) := by decide +kernel
theorem d_Day_addRound_4 : decode b_Day_addRound 4 = .ok (.iconst 0, 1) := by decide +kernel
theorem d_Day_addRound_5 : decode b_Day_addRound 5 = .ok (.istore 6, 2) := by decide +kernel
theorem d_Day_addRound_7 : decode b_Day_addRound 7 = .ok (.iload 6, 2) := by decide +kernel
theorem d_Day_addRound_9 : decode b_Day_addRound 9 = .ok (.aload_n 0, 1) := by decide +kernel
theorem d_Day_addRound_10 : decode b_Day_addRound 10 = .ok (.getfield 36, 3) := by decide +kernel
theorem d_Day_addRound_13 : decode b_Day_addRound 13 = .ok (.iload_n 1, 1) := by decide +kernel
theorem d_Day_addRound_14 : decode b_Day_addRound 14 = .ok (.iaload, 1) := by decide +kernel
theorem d_Day_addRound_15 : decode b_Day_addRound 15 = .ok (.if_icmp .ge 41, 3) := by decide +kernel
theorem d_Day_addRound_18 : decode b_Day_addRound 18 = .ok (.iload_n 2, 1) := by decide +kernel
theorem d_Day_addRound_19 : decode b_Day_addRound 19 = .ok (.aload_n 0, 1) := by decide +kernel
theorem d_Day_addRound_20 : decode b_Day_addRound 20 = .ok (.getfield 33, 3) := by decide +kernel
theorem d_Day_addRound_23 : decode b_Day_addRound 23 = .ok (.iload_n 1, 1) := by decide +kernel
theorem d_Day_addRound_24 : decode b_Day_addRound 24 = .ok (.aaload, 1) := by decide +kernel
theorem d_Day_addRound_25 : decode b_Day_addRound 25 = .ok (.iload 6, 2) := by decide +kernel
theorem d_Day_addRound_27 : decode b_Day_addRound 27 = .ok (.iaload, 1) := by decide +kernel
theorem d_Day_addRound_28 : decode b_Day_addRound 28 = .ok (.invokestatic 82, 3) := by decide +kernel
theorem d_Day_addRound_31 : decode b_Day_addRound 31 = .ok (.ifCond .eq 19, 3) := by decide +kernel
theorem d_Day_addRound_34 : decode b_Day_addRound 34 = .ok (.aload_n 3, 1) := by decide +kernel
theorem d_Day_addRound_35 : decode b_Day_addRound 35 = .ok (.iload 5, 2) := by decide +kernel
theorem d_Day_addRound_37 : decode b_Day_addRound 37 = .ok (.iinc 5 1, 3) := by decide +kernel
theorem d_Day_addRound_40 : decode b_Day_addRound 40 = .ok (.aload_n 0, 1) := by decide +kernel
theorem d_Day_addRound_41 : decode b_Day_addRound 41 = .ok (.getfield 33, 3) := by decide +kernel
theorem d_Day_addRound_44 : decode b_Day_addRound 44 = .ok (.iload_n 1, 1) := by decide +kernel
theorem d_Day_addRound_45 : decode b_Day_addRound 45 = .ok (.aaload, 1) := by decide +kernel
theorem d_Day_addRound_46 : decode b_Day_addRound 46 = .ok (.iload 6, 2) := by decide +kernel
theorem d_Day_addRound_48 : decode b_Day_addRound 48 = .ok (.iaload, 1) := by decide +kernel
theorem d_Day_addRound_49 : decode b_Day_addRound 49 = .ok (.iastore, 1) := by decide +kernel
theorem d_Day_addRound_50 : decode b_Day_addRound 50 = .ok (.iinc 6 1, 3) := by decide +kernel
theorem d_Day_addRound_53 : decode b_Day_addRound 53 = .ok (.goto (-46), 3) := by decide +kernel
theorem d_Day_addRound_56 : decode b_Day_addRound 56 = .ok (.iconst 0, 1) := by decide +kernel
theorem d_Day_addRound_57 : decode b_Day_addRound 57 = .ok (.istore 6, 2) := by decide +kernel
theorem d_Day_addRound_59 : decode b_Day_addRound 59 = .ok (.iload 6, 2) := by decide +kernel
theorem d_Day_addRound_61 : decode b_Day_addRound 61 = .ok (.aload_n 0, 1) := by decide +kernel
theorem d_Day_addRound_62 : decode b_Day_addRound 62 = .ok (.getfield 71, 3) := by decide +kernel
theorem d_Day_addRound_65 : decode b_Day_addRound 65 = .ok (.if_icmp .ge 38, 3) := by decide +kernel
theorem d_Day_addRound_68 : decode b_Day_addRound 68 = .ok (.iload_n 2, 1) := by decide +kernel
theorem d_Day_addRound_69 : decode b_Day_addRound 69 = .ok (.iload 6, 2) := by decide +kernel
theorem d_Day_addRound_71 : decode b_Day_addRound 71 = .ok (.invokestatic 82, 3) := by decide +kernel
theorem d_Day_addRound_74 : decode b_Day_addRound 74 = .ok (.ifCond .eq 23, 3) := by decide +kernel
theorem d_Day_addRound_77 : decode b_Day_addRound 77 = .ok (.aload_n 0, 1) := by decide +kernel
theorem d_Day_addRound_78 : decode b_Day_addRound 78 = .ok (.getfield 18, 3) := by decide +kernel
theorem d_Day_addRound_81 : decode b_Day_addRound 81 = .ok (.iload 6, 2) := by decide +kernel
theorem d_Day_addRound_83 : decode b_Day_addRound 83 = .ok (.iaload, 1) := by decide +kernel
theorem d_Day_addRound_84 : decode b_Day_addRound 84 = .ok (.iload_n 1, 1) := by decide +kernel
theorem d_Day_addRound_85 : decode b_Day_addRound 85 = .ok (.if_icmp .eq 12, 3) := by decide +kernel
theorem d_Day_addRound_88 : decode b_Day_addRound 88 = .ok (.aload_n 3, 1) := by decide +kernel
theorem d_Day_addRound_89 : decode b_Day_addRound 89 = .ok (.iload 5, 2) := by decide +kernel
theorem d_Day_addRound_91 : decode b_Day_addRound 91 = .ok (.iinc 5 1, 3) := by decide +kernel
theorem d_Day_addRound_94 : decode b_Day_addRound 94 = .ok (.iload 6, 2) := by decide +kernel
theorem d_Day_addRound_96 : decode b_Day_addRound 96 = .ok (.iastore, 1) := by decide +kernel
theorem d_Day_addRound_97 : decode b_Day_addRound 97 = .ok (.iinc 6 1, 3) := by decide +kernel
theorem d_Day_addRound_100 : decode b_Day_addRound 100 = .ok (.goto (-41), 3) := by decide +kernel
theorem d_Day_addRound_103 : decode b_Day_addRound 103 = .ok (.iload 5, 2) := by decide +kernel
theorem d_Day_addRound_105 : decode b_Day_addRound 105 = .ok (.ireturn, 1) := by decide +kernel
theorem d_Day_overHours_0 : decode b_Day_overHours 0 = .ok (.iconst 0, 1) := by decide +kernel
theorem d_Day_overHours_1 : decode b_Day_overHours 1 = .ok (.iload_n 2, 1) := by decide +kernel
theorem d_Day_overHours_2 : decode b_Day_overHours 2 = .ok (.aload_n 0, 1) := by decide +kernel
theorem d_Day_overHours_3 : decode b_Day_overHours 3 = .ok (.getfield 48, 3) := by decide +kernel
theorem d_Day_overHours_6 : decode b_Day_overHours 6 = .ok (.iload_n 1, 1) := by decide +kernel
theorem d_Day_overHours_7 : decode b_Day_overHours 7 = .ok (.iaload, 1) := by decide +kernel
theorem d_Day_overHours_8 : decode b_Day_overHours 8 = .ok (.isub, 1) := by decide +kernel
theorem d_Day_overHours_9 : decode b_Day_overHours 9 = .ok (.invokestatic 89, 3) := by decide +kernel
theorem d_Day_overHours_12 : decode b_Day_overHours 12 = .ok (.ireturn, 1) := by decide +kernel
theorem d_Se_join_0 : decode b_Se_join 0 = .ok (.iload_n 1, 1) := by decide +kernel
theorem d_Se_join_1 : decode b_Se_join 1 = .ok (.iconst 1, 1) := by decide +kernel
theorem d_Se_join_2 : decode b_Se_join 2 = .ok (.isub, 1) := by decide +kernel
theorem d_Se_join_3 : decode b_Se_join 3 = .ok (.istore_n 2, 1) := by decide +kernel
theorem d_Se_join_4 : decode b_Se_join 4 = .ok (.iload_n 2, 1) := by decide +kernel
theorem d_Se_join_5 : decode b_Se_join 5 = .ok (.ifCond .le 64, 3) := by decide +kernel
theorem d_Se_join_8 : decode b_Se_join 8 = .ok (.aload_n 0, 1) := by decide +kernel
theorem d_Se_join_9 : decode b_Se_join 9 = .ok (.getfield 15, 3) := by decide +kernel
theorem d_Se_join_12 : decode b_Se_join 12 = .ok (.iload_n 2, 1) := by decide +kernel
theorem d_Se_join_13 : decode b_Se_join 13 = .ok (.laload, 1) := by decide +kernel
theorem d_Se_join_14 : decode b_Se_join 14 = .ok (.lstore_n 3, 1) := by decide +kernel
theorem d_Se_join_15 : decode b_Se_join 15 = .ok (.iload_n 2, 1) := by decide +kernel
theorem d_Se_join_16 : decode b_Se_join 16 = .ok (.istore 5, 2) := by decide +kernel
theorem d_Se_join_18 : decode b_Se_join 18 = .ok (.iload 5, 2) := by decide +kernel
theorem d_Se_join_20 : decode b_Se_join 20 = .ok (.ifCond .le 36, 3) := by decide +kernel
theorem d_Se_join_23 : decode b_Se_join 23 = .ok (.lload_n 3, 1) := by decide +kernel
theorem d_Se_join_24 : decode b_Se_join 24 = .ok (.aload_n 0, 1) := by decide +kernel
theorem d_Se_join_25 : decode b_Se_join 25 = .ok (.getfield 15, 3) := by decide +kernel
theorem d_Se_join_28 : decode b_Se_join 28 = .ok (.iload_n 2, 1) := by decide +kernel
theorem d_Se_join_29 : decode b_Se_join 29 = .ok (.iload 5, 2) := by decide +kernel
theorem d_Se_join_31 : decode b_Se_join 31 = .ok (.ixor, 1) := by decide +kernel
theorem d_Se_join_32 : decode b_Se_join 32 = .ok (.laload, 1) := by decide +kernel
theorem d_Se_join_33 : decode b_Se_join 33 = .ok (.aload_n 0, 1) := by decide +kernel
theorem d_Se_join_34 : decode b_Se_join 34 = .ok (.getfield 11, 3) := by decide +kernel
theorem d_Se_join_37 : decode b_Se_join 37 = .ok (.iload 5, 2) := by decide +kernel
theorem d_Se_join_39 : decode b_Se_join 39 = .ok (.laload, 1) := by decide +kernel
theorem d_Se_join_40 : decode b_Se_join 40 = .ok (.ladd, 1) := by decide +kernel
theorem d_Se_join_41 : decode b_Se_join 41 = .ok (.invokestatic 39, 3) := by decide +kernel
theorem d_Se_join_44 : decode b_Se_join 44 = .ok (.lstore_n 3, 1) := by decide +kernel
theorem d_Se_join_45 : decode b_Se_join 45 = .ok (.iload 5, 2) := by decide +kernel
theorem d_Se_join_47 : decode b_Se_join 47 = .ok (.iconst 1, 1) := by decide +kernel
theorem d_Se_join_48 : decode b_Se_join 48 = .ok (.isub, 1) := by decide +kernel
theorem d_Se_join_49 : decode b_Se_join 49 = .ok (.iload_n 2, 1) := by decide +kernel
theorem d_Se_join_50 : decode b_Se_join 50 = .ok (.iand, 1) := by decide +kernel
theorem d_Se_join_51 : decode b_Se_join 51 = .ok (.istore 5, 2) := by decide +kernel
theorem d_Se_join_53 : decode b_Se_join 53 = .ok (.goto (-35), 3) := by decide +kernel
theorem d_Se_join_56 : decode b_Se_join 56 = .ok (.aload_n 0, 1) := by decide +kernel
theorem d_Se_join_57 : decode b_Se_join 57 = .ok (.getfield 15, 3) := by decide +kernel
theorem d_Se_join_60 : decode b_Se_join 60 = .ok (.iload_n 2, 1) := by decide +kernel
theorem d_Se_join_61 : decode b_Se_join 61 = .ok (.lload_n 3, 1) := by decide +kernel
theorem d_Se_join_62 : decode b_Se_join 62 = .ok (.lastore, 1) := by decide +kernel
theorem d_Se_join_63 : decode b_Se_join 63 = .ok (.iinc 2 (-1), 3) := by decide +kernel
theorem d_Se_join_66 : decode b_Se_join 66 = .ok (.goto (-62), 3) := by decide +kernel
theorem d_Se_join_69 : decode b_Se_join 69 = .ok (.return_, 1) := by decide +kernel
theorem d_DS_whyNoPlan_0 : decode b_DS_whyNoPlan 0 = .ok (.iconst 0, 1) := by decide +kernel
theorem d_DS_whyNoPlan_1 : decode b_DS_whyNoPlan 1 = .ok (.istore_n 1, 1) := by decide +kernel
theorem d_DS_whyNoPlan_2 : decode b_DS_whyNoPlan 2 = .ok (.iload_n 1, 1) := by decide +kernel
theorem d_DS_whyNoPlan_3 : decode b_DS_whyNoPlan 3 = .ok (.aload_n 0, 1) := by decide +kernel
theorem d_DS_whyNoPlan_4 : decode b_DS_whyNoPlan 4 = .ok (.getfield 18, 3) := by decide +kernel
theorem d_DS_whyNoPlan_7 : decode b_DS_whyNoPlan 7 = .ok (.getfield 51, 3) := by decide +kernel
theorem d_DS_whyNoPlan_10 : decode b_DS_whyNoPlan 10 = .ok (.if_icmp .ge 36, 3) := by decide +kernel
theorem d_DS_whyNoPlan_13 : decode b_DS_whyNoPlan 13 = .ok (.aload_n 0, 1) := by decide +kernel
theorem d_DS_whyNoPlan_14 : decode b_DS_whyNoPlan 14 = .ok (.getfield 18, 3) := by decide +kernel
theorem d_DS_whyNoPlan_17 : decode b_DS_whyNoPlan 17 = .ok (.getfield 69, 3) := by decide +kernel
theorem d_DS_whyNoPlan_20 : decode b_DS_whyNoPlan 20 = .ok (.iload_n 1, 1) := by decide +kernel
theorem d_DS_whyNoPlan_21 : decode b_DS_whyNoPlan 21 = .ok (.baload, 1) := by decide +kernel
theorem d_DS_whyNoPlan_22 : decode b_DS_whyNoPlan 22 = .ok (.ifCond .eq 18, 3) := by decide +kernel
theorem d_DS_whyNoPlan_25 : decode b_DS_whyNoPlan 25 = .ok (.aload_n 0, 1) := by decide +kernel
theorem d_DS_whyNoPlan_26 : decode b_DS_whyNoPlan 26 = .ok (.getfield 18, 3) := by decide +kernel
theorem d_DS_whyNoPlan_29 : decode b_DS_whyNoPlan 29 = .ok (.getfield 73, 3) := by decide +kernel
theorem d_DS_whyNoPlan_32 : decode b_DS_whyNoPlan 32 = .ok (.iload_n 1, 1) := by decide +kernel
theorem d_DS_whyNoPlan_33 : decode b_DS_whyNoPlan 33 = .ok (.baload, 1) := by decide +kernel
theorem d_DS_whyNoPlan_34 : decode b_DS_whyNoPlan 34 = .ok (.ifCond .eq 6, 3) := by decide +kernel
theorem d_DS_whyNoPlan_37 : decode b_DS_whyNoPlan 37 = .ok (.bipush (-2), 2) := by decide +kernel
theorem d_DS_whyNoPlan_39 : decode b_DS_whyNoPlan 39 = .ok (.ireturn, 1) := by decide +kernel
theorem d_DS_whyNoPlan_40 : decode b_DS_whyNoPlan 40 = .ok (.iinc 1 1, 3) := by decide +kernel
theorem d_DS_whyNoPlan_43 : decode b_DS_whyNoPlan 43 = .ok (.goto (-41), 3) := by decide +kernel
theorem d_DS_whyNoPlan_46 : decode b_DS_whyNoPlan 46 = .ok (.iconst 0, 1) := by decide +kernel
theorem d_DS_whyNoPlan_47 : decode b_DS_whyNoPlan 47 = .ok (.istore_n 1, 1) := by decide +kernel
theorem d_DS_whyNoPlan_48 : decode b_DS_whyNoPlan 48 = .ok (.iload_n 1, 1) := by decide +kernel
theorem d_DS_whyNoPlan_49 : decode b_DS_whyNoPlan 49 = .ok (.aload_n 0, 1) := by decide +kernel
theorem d_DS_whyNoPlan_50 : decode b_DS_whyNoPlan 50 = .ok (.getfield 18, 3) := by decide +kernel
theorem d_DS_whyNoPlan_53 : decode b_DS_whyNoPlan 53 = .ok (.getfield 51, 3) := by decide +kernel
theorem d_DS_whyNoPlan_56 : decode b_DS_whyNoPlan 56 = .ok (.if_icmp .ge 44, 3) := by decide +kernel
theorem d_DS_whyNoPlan_59 : decode b_DS_whyNoPlan 59 = .ok (.aload_n 0, 1) := by decide +kernel
theorem d_DS_whyNoPlan_60 : decode b_DS_whyNoPlan 60 = .ok (.getfield 18, 3) := by decide +kernel
theorem d_DS_whyNoPlan_63 : decode b_DS_whyNoPlan 63 = .ok (.getfield 69, 3) := by decide +kernel
theorem d_DS_whyNoPlan_66 : decode b_DS_whyNoPlan 66 = .ok (.iload_n 1, 1) := by decide +kernel
theorem d_DS_whyNoPlan_67 : decode b_DS_whyNoPlan 67 = .ok (.baload, 1) := by decide +kernel
theorem d_DS_whyNoPlan_68 : decode b_DS_whyNoPlan 68 = .ok (.ifCond .eq 26, 3) := by decide +kernel
theorem d_DS_whyNoPlan_71 : decode b_DS_whyNoPlan 71 = .ok (.aload_n 0, 1) := by decide +kernel
theorem d_DS_whyNoPlan_72 : decode b_DS_whyNoPlan 72 = .ok (.getfield 18, 3) := by decide +kernel
theorem d_DS_whyNoPlan_75 : decode b_DS_whyNoPlan 75 = .ok (.aload_n 0, 1) := by decide +kernel
theorem d_DS_whyNoPlan_76 : decode b_DS_whyNoPlan 76 = .ok (.getfield 18, 3) := by decide +kernel
theorem d_DS_whyNoPlan_79 : decode b_DS_whyNoPlan 79 = .ok (.getfield 139, 3) := by decide +kernel
theorem d_DS_whyNoPlan_82 : decode b_DS_whyNoPlan 82 = .ok (.iload_n 1, 1) := by decide +kernel
theorem d_DS_whyNoPlan_83 : decode b_DS_whyNoPlan 83 = .ok (.iaload, 1) := by decide +kernel
theorem d_DS_whyNoPlan_84 : decode b_DS_whyNoPlan 84 = .ok (.iload_n 1, 1) := by decide +kernel
theorem d_DS_whyNoPlan_85 : decode b_DS_whyNoPlan 85 = .ok (.invokevirtual 155, 3) := by decide +kernel
theorem d_DS_whyNoPlan_88 : decode b_DS_whyNoPlan 88 = .ok (.ifCond .ne 6, 3) := by decide +kernel
theorem d_DS_whyNoPlan_91 : decode b_DS_whyNoPlan 91 = .ok (.bipush (-3), 2) := by decide +kernel
theorem d_DS_whyNoPlan_93 : decode b_DS_whyNoPlan 93 = .ok (.ireturn, 1) := by decide +kernel
theorem d_DS_whyNoPlan_94 : decode b_DS_whyNoPlan 94 = .ok (.iinc 1 1, 3) := by decide +kernel
theorem d_DS_whyNoPlan_97 : decode b_DS_whyNoPlan 97 = .ok (.goto (-49), 3) := by decide +kernel
theorem d_DS_whyNoPlan_100 : decode b_DS_whyNoPlan 100 = .ok (.bipush (-4), 2) := by decide +kernel
theorem d_DS_whyNoPlan_102 : decode b_DS_whyNoPlan 102 = .ok (.ireturn, 1) := by decide +kernel
theorem d_Sh_putLatest_0 : decode b_Sh_putLatest 0 = .ok (.aload_n 0, 1) := by decide +kernel
theorem d_Sh_putLatest_1 : decode b_Sh_putLatest 1 = .ok (.getfield 20, 3) := by decide +kernel
theorem d_Sh_putLatest_4 : decode b_Sh_putLatest 4 = .ok (.aload_n 0, 1) := by decide +kernel
theorem d_Sh_putLatest_5 : decode b_Sh_putLatest 5 = .ok (.getfield 11, 3) := by decide +kernel
theorem d_Sh_putLatest_8 : decode b_Sh_putLatest 8 = .ok (.arraylength, 1) := by decide +kernel
theorem d_Sh_putLatest_9 : decode b_Sh_putLatest 9 = .ok (.if_icmp .ne 64, 3) := by decide +kernel
theorem d_Sh_putLatest_12 : decode b_Sh_putLatest 12 = .ok (.iconst 1, 1) := by decide +kernel
theorem d_Sh_putLatest_13 : decode b_Sh_putLatest 13 = .ok (.istore_n 3, 1) := by decide +kernel
theorem d_Sh_putLatest_14 : decode b_Sh_putLatest 14 = .ok (.iload_n 3, 1) := by decide +kernel
theorem d_Sh_putLatest_15 : decode b_Sh_putLatest 15 = .ok (.aload_n 0, 1) := by decide +kernel
theorem d_Sh_putLatest_16 : decode b_Sh_putLatest 16 = .ok (.getfield 20, 3) := by decide +kernel
theorem d_Sh_putLatest_19 : decode b_Sh_putLatest 19 = .ok (.if_icmp .ge 44, 3) := by decide +kernel
theorem d_Sh_putLatest_22 : decode b_Sh_putLatest 22 = .ok (.aload_n 0, 1) := by decide +kernel
theorem d_Sh_putLatest_23 : decode b_Sh_putLatest 23 = .ok (.getfield 11, 3) := by decide +kernel
theorem d_Sh_putLatest_26 : decode b_Sh_putLatest 26 = .ok (.iload_n 3, 1) := by decide +kernel
theorem d_Sh_putLatest_27 : decode b_Sh_putLatest 27 = .ok (.aaload, 1) := by decide +kernel
theorem d_Sh_putLatest_28 : decode b_Sh_putLatest 28 = .ok (.iconst 0, 1) := by decide +kernel
theorem d_Sh_putLatest_29 : decode b_Sh_putLatest 29 = .ok (.aload_n 0, 1) := by decide +kernel
theorem d_Sh_putLatest_30 : decode b_Sh_putLatest 30 = .ok (.getfield 11, 3) := by decide +kernel
theorem d_Sh_putLatest_33 : decode b_Sh_putLatest 33 = .ok (.iload_n 3, 1) := by decide +kernel
theorem d_Sh_putLatest_34 : decode b_Sh_putLatest 34 = .ok (.iconst 1, 1) := by decide +kernel
theorem d_Sh_putLatest_35 : decode b_Sh_putLatest 35 = .ok (.isub, 1) := by decide +kernel
theorem d_Sh_putLatest_36 : decode b_Sh_putLatest 36 = .ok (.aaload, 1) := by decide +kernel
theorem d_Sh_putLatest_37 : decode b_Sh_putLatest 37 = .ok (.iconst 0, 1) := by decide +kernel
theorem d_Sh_putLatest_38 : decode b_Sh_putLatest 38 = .ok (.bipush 8, 2) := by decide +kernel
theorem d_Sh_putLatest_40 : decode b_Sh_putLatest 40 = .ok (.invokestatic 24, 3) := by decide +kernel
theorem d_Sh_putLatest_43 : decode b_Sh_putLatest 43 = .ok (.aload_n 0, 1) := by decide +kernel
theorem d_Sh_putLatest_44 : decode b_Sh_putLatest 44 = .ok (.getfield 16, 3) := by decide +kernel
theorem d_Sh_putLatest_47 : decode b_Sh_putLatest 47 = .ok (.iload_n 3, 1) := by decide +kernel
theorem d_Sh_putLatest_48 : decode b_Sh_putLatest 48 = .ok (.iconst 1, 1) := by decide +kernel
theorem d_Sh_putLatest_49 : decode b_Sh_putLatest 49 = .ok (.isub, 1) := by decide +kernel
theorem d_Sh_putLatest_50 : decode b_Sh_putLatest 50 = .ok (.aload_n 0, 1) := by decide +kernel
theorem d_Sh_putLatest_51 : decode b_Sh_putLatest 51 = .ok (.getfield 16, 3) := by decide +kernel
theorem d_Sh_putLatest_54 : decode b_Sh_putLatest 54 = .ok (.iload_n 3, 1) := by decide +kernel
theorem d_Sh_putLatest_55 : decode b_Sh_putLatest 55 = .ok (.iaload, 1) := by decide +kernel
theorem d_Sh_putLatest_56 : decode b_Sh_putLatest 56 = .ok (.iastore, 1) := by decide +kernel
theorem d_Sh_putLatest_57 : decode b_Sh_putLatest 57 = .ok (.iinc 3 1, 3) := by decide +kernel
theorem d_Sh_putLatest_60 : decode b_Sh_putLatest 60 = .ok (.goto (-46), 3) := by decide +kernel
theorem d_Sh_putLatest_63 : decode b_Sh_putLatest 63 = .ok (.aload_n 0, 1) := by decide +kernel
theorem d_Sh_putLatest_64 : decode b_Sh_putLatest 64 = .ok (.dup, 1) := by decide +kernel
theorem d_Sh_putLatest_65 : decode b_Sh_putLatest 65 = .ok (.getfield 20, 3) := by decide +kernel
theorem d_Sh_putLatest_68 : decode b_Sh_putLatest 68 = .ok (.iconst 1, 1) := by decide +kernel
theorem d_Sh_putLatest_69 : decode b_Sh_putLatest 69 = .ok (.isub, 1) := by decide +kernel
theorem d_Sh_putLatest_70 : decode b_Sh_putLatest 70 = .ok (.putfield 20, 3) := by decide +kernel
theorem d_Sh_putLatest_73 : decode b_Sh_putLatest 73 = .ok (.aload_n 1, 1) := by decide +kernel
theorem d_Sh_putLatest_74 : decode b_Sh_putLatest 74 = .ok (.iconst 0, 1) := by decide +kernel
theorem d_Sh_putLatest_75 : decode b_Sh_putLatest 75 = .ok (.aload_n 0, 1) := by decide +kernel
theorem d_Sh_putLatest_76 : decode b_Sh_putLatest 76 = .ok (.getfield 11, 3) := by decide +kernel
theorem d_Sh_putLatest_79 : decode b_Sh_putLatest 79 = .ok (.aload_n 0, 1) := by decide +kernel
theorem d_Sh_putLatest_80 : decode b_Sh_putLatest 80 = .ok (.getfield 20, 3) := by decide +kernel
theorem d_Sh_putLatest_83 : decode b_Sh_putLatest 83 = .ok (.aaload, 1) := by decide +kernel
theorem d_Sh_putLatest_84 : decode b_Sh_putLatest 84 = .ok (.iconst 0, 1) := by decide +kernel
theorem d_Sh_putLatest_85 : decode b_Sh_putLatest 85 = .ok (.bipush 8, 2) := by decide +kernel
theorem d_Sh_putLatest_87 : decode b_Sh_putLatest 87 = .ok (.invokestatic 24, 3) := by decide +kernel
theorem d_Sh_putLatest_90 : decode b_Sh_putLatest 90 = .ok (.aload_n 0, 1) := by decide +kernel
theorem d_Sh_putLatest_91 : decode b_Sh_putLatest 91 = .ok (.getfield 16, 3) := by decide +kernel
theorem d_Sh_putLatest_94 : decode b_Sh_putLatest 94 = .ok (.aload_n 0, 1) := by decide +kernel
theorem d_Sh_putLatest_95 : decode b_Sh_putLatest 95 = .ok (.getfield 20, 3) := by decide +kernel
theorem d_Sh_putLatest_98 : decode b_Sh_putLatest 98 = .ok (.iload_n 2, 1) := by decide +kernel
theorem d_Sh_putLatest_99 : decode b_Sh_putLatest 99 = .ok (.iastore, 1) := by decide +kernel
theorem d_Sh_putLatest_100 : decode b_Sh_putLatest 100 = .ok (.aload_n 0, 1) := by decide +kernel
theorem d_Sh_putLatest_101 : decode b_Sh_putLatest 101 = .ok (.dup, 1) := by decide +kernel
theorem d_Sh_putLatest_102 : decode b_Sh_putLatest 102 = .ok (.getfield 20, 3) := by decide +kernel
theorem d_Sh_putLatest_105 : decode b_Sh_putLatest 105 = .ok (.iconst 1, 1) := by decide +kernel
theorem d_Sh_putLatest_106 : decode b_Sh_putLatest 106 = .ok (.iadd, 1) := by decide +kernel
theorem d_Sh_putLatest_107 : decode b_Sh_putLatest 107 = .ok (.putfield 20, 3) := by decide +kernel
theorem d_Sh_putLatest_110 : decode b_Sh_putLatest 110 = .ok (.return_, 1) := by decide +kernel
theorem d_Se_vehicleIn_0 : decode b_Se_vehicleIn 0 = .ok (.lload_n 0, 1) := by decide +kernel
theorem d_Se_vehicleIn_1 : decode b_Se_vehicleIn 1 = .ok (.iload_n 2, 1) := by decide +kernel
theorem d_Se_vehicleIn_2 : decode b_Se_vehicleIn 2 = .ok (.invokestatic 54, 3) := by decide +kernel
theorem d_Se_vehicleIn_5 : decode b_Se_vehicleIn 5 = .ok (.lshr, 1) := by decide +kernel
theorem d_Se_vehicleIn_6 : decode b_Se_vehicleIn 6 = .ok (.l2i, 1) := by decide +kernel
theorem d_Se_vehicleIn_7 : decode b_Se_vehicleIn 7 = .ok (.iconst 3, 1) := by decide +kernel
theorem d_Se_vehicleIn_8 : decode b_Se_vehicleIn 8 = .ok (.iand, 1) := by decide +kernel
theorem d_Se_vehicleIn_9 : decode b_Se_vehicleIn 9 = .ok (.ireturn, 1) := by decide +kernel
theorem d_DS_movedSet_0 : decode b_DS_movedSet 0 = .ok (.iconst 0, 1) := by decide +kernel
theorem d_DS_movedSet_1 : decode b_DS_movedSet 1 = .ok (.istore_n 1, 1) := by decide +kernel
theorem d_DS_movedSet_2 : decode b_DS_movedSet 2 = .ok (.iconst 0, 1) := by decide +kernel
theorem d_DS_movedSet_3 : decode b_DS_movedSet 3 = .ok (.istore_n 2, 1) := by decide +kernel
theorem d_DS_movedSet_4 : decode b_DS_movedSet 4 = .ok (.iload_n 2, 1) := by decide +kernel
theorem d_DS_movedSet_5 : decode b_DS_movedSet 5 = .ok (.aload_n 0, 1) := by decide +kernel
theorem d_DS_movedSet_6 : decode b_DS_movedSet 6 = .ok (.getfield 18, 3) := by decide +kernel
theorem d_DS_movedSet_9 : decode b_DS_movedSet 9 = .ok (.getfield 51, 3) := by decide +kernel
theorem d_DS_movedSet_12 : decode b_DS_movedSet 12 = .ok (.if_icmp .ge 33, 3) := by decide +kernel
theorem d_DS_movedSet_15 : decode b_DS_movedSet 15 = .ok (.aload_n 0, 1) := by decide +kernel
theorem d_DS_movedSet_16 : decode b_DS_movedSet 16 = .ok (.getfield 41, 3) := by decide +kernel
theorem d_DS_movedSet_19 : decode b_DS_movedSet 19 = .ok (.iload_n 2, 1) := by decide +kernel
theorem d_DS_movedSet_20 : decode b_DS_movedSet 20 = .ok (.iaload, 1) := by decide +kernel
theorem d_DS_movedSet_21 : decode b_DS_movedSet 21 = .ok (.aload_n 0, 1) := by decide +kernel
theorem d_DS_movedSet_22 : decode b_DS_movedSet 22 = .ok (.getfield 18, 3) := by decide +kernel
theorem d_DS_movedSet_25 : decode b_DS_movedSet 25 = .ok (.getfield 139, 3) := by decide +kernel
theorem d_DS_movedSet_28 : decode b_DS_movedSet 28 = .ok (.iload_n 2, 1) := by decide +kernel
theorem d_DS_movedSet_29 : decode b_DS_movedSet 29 = .ok (.iaload, 1) := by decide +kernel
theorem d_DS_movedSet_30 : decode b_DS_movedSet 30 = .ok (.if_icmp .eq 9, 3) := by decide +kernel
theorem d_DS_movedSet_33 : decode b_DS_movedSet 33 = .ok (.iload_n 1, 1) := by decide +kernel
theorem d_DS_movedSet_34 : decode b_DS_movedSet 34 = .ok (.iconst 1, 1) := by decide +kernel
theorem d_DS_movedSet_35 : decode b_DS_movedSet 35 = .ok (.iload_n 2, 1) := by decide +kernel
theorem d_DS_movedSet_36 : decode b_DS_movedSet 36 = .ok (.ishl, 1) := by decide +kernel
theorem d_DS_movedSet_37 : decode b_DS_movedSet 37 = .ok (.ior, 1) := by decide +kernel
theorem d_DS_movedSet_38 : decode b_DS_movedSet 38 = .ok (.istore_n 1, 1) := by decide +kernel
theorem d_DS_movedSet_39 : decode b_DS_movedSet 39 = .ok (.iinc 2 1, 3) := by decide +kernel
theorem d_DS_movedSet_42 : decode b_DS_movedSet 42 = .ok (.goto (-38), 3) := by decide +kernel
theorem d_DS_movedSet_45 : decode b_DS_movedSet 45 = .ok (.iload_n 1, 1) := by decide +kernel
theorem d_DS_movedSet_46 : decode b_DS_movedSet 46 = .ok (.ireturn, 1) := by decide +kernel
theorem d_In_bitCount_0 : decode b_In_bitCount 0 = .ok (.iload_n 0, 1) := by decide +kernel
theorem d_In_bitCount_1 : decode b_In_bitCount 1 = .ok (.iload_n 0, 1) := by decide +kernel
theorem d_In_bitCount_2 : decode b_In_bitCount 2 = .ok (.iconst 1, 1) := by decide +kernel
theorem d_In_bitCount_3 : decode b_In_bitCount 3 = .ok (.iushr, 1) := by decide +kernel
theorem d_In_bitCount_4 : decode b_In_bitCount 4 = .ok (.ldc_w 265, 3) := by decide +kernel
