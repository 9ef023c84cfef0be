theorem d_DS_init_0 : decode b_DS_init 0 = .ok (.aload_n 0, 1) := by decide +kernel
theorem d_DS_init_1 : decode b_DS_init 1 = .ok (.invokespecial 1, 3) := by decide +kernel
theorem d_DS_init_4 : decode b_DS_init 4 = .ok (.aload_n 0, 1) := by decide +kernel
theorem d_DS_init_5 : decode b_DS_init 5 = .ok (.new 7, 3) := by decide +kernel
theorem d_DS_init_8 : decode b_DS_init 8 = .ok (.dup, 1) := by decide +kernel
theorem d_DS_init_9 : decode b_DS_init 9 = .ok (.iload_n 1, 1) := by decide +kernel
theorem d_DS_init_10 : decode b_DS_init 10 = .ok (.iconst 1, 1) := by decide +kernel
theorem d_DS_init_11 : decode b_DS_init 11 = .ok (.iconst 3, 1) := by decide +kernel
theorem d_DS_init_12 : decode b_DS_init 12 = .ok (.invokestatic 11, 3) := by decide +kernel
theorem d_DS_init_15 : decode b_DS_init 15 = .ok (.ifCond .eq 7, 3) := by decide +kernel
theorem d_DS_init_18 : decode b_DS_init 18 = .ok (.iload_n 1, 1) := by decide +kernel
theorem d_DS_init_19 : decode b_DS_init 19 = .ok (.goto 4, 3) := by decide +kernel
theorem d_DS_init_22 : decode b_DS_init 22 = .ok (.iconst 1, 1) := by decide +kernel
theorem d_DS_init_23 : decode b_DS_init 23 = .ok (.invokespecial 15, 3) := by decide +kernel
theorem d_DS_init_26 : decode b_DS_init 26 = .ok (.putfield 18, 3) := by decide +kernel
theorem d_DS_init_29 : decode b_DS_init 29 = .ok (.aload_n 0, 1) := by decide +kernel
theorem d_DS_init_30 : decode b_DS_init 30 = .ok (.new 22, 3) := by decide +kernel
theorem d_DS_init_33 : decode b_DS_init 33 = .ok (.dup, 1) := by decide +kernel
theorem d_DS_init_34 : decode b_DS_init 34 = .ok (.aload_n 0, 1) := by decide +kernel
theorem d_DS_init_35 : decode b_DS_init 35 = .ok (.getfield 18, 3) := by decide +kernel
theorem d_DS_init_38 : decode b_DS_init 38 = .ok (.invokespecial 24, 3) := by decide +kernel
theorem d_DS_init_41 : decode b_DS_init 41 = .ok (.putfield 27, 3) := by decide +kernel
theorem d_DS_init_44 : decode b_DS_init 44 = .ok (.aload_n 0, 1) := by decide +kernel
theorem d_DS_init_45 : decode b_DS_init 45 = .ok (.new 31, 3) := by decide +kernel
theorem d_DS_init_48 : decode b_DS_init 48 = .ok (.dup, 1) := by decide +kernel
theorem d_DS_init_49 : decode b_DS_init 49 = .ok (.bipush 6, 2) := by decide +kernel
theorem d_DS_init_51 : decode b_DS_init 51 = .ok (.invokespecial 33, 3) := by decide +kernel
theorem d_DS_init_54 : decode b_DS_init 54 = .ok (.putfield 34, 3) := by decide +kernel
theorem d_DS_init_57 : decode b_DS_init 57 = .ok (.aload_n 0, 1) := by decide +kernel
theorem d_DS_init_58 : decode b_DS_init 58 = .ok (.new 31, 3) := by decide +kernel
theorem d_DS_init_61 : decode b_DS_init 61 = .ok (.dup, 1) := by decide +kernel
theorem d_DS_init_62 : decode b_DS_init 62 = .ok (.iconst 4, 1) := by decide +kernel
theorem d_DS_init_63 : decode b_DS_init 63 = .ok (.invokespecial 33, 3) := by decide +kernel
theorem d_DS_init_66 : decode b_DS_init 66 = .ok (.putfield 38, 3) := by decide +kernel
theorem d_DS_init_69 : decode b_DS_init 69 = .ok (.aload_n 0, 1) := by decide +kernel
theorem d_DS_init_70 : decode b_DS_init 70 = .ok (.bipush 8, 2) := by decide +kernel
theorem d_DS_init_72 : decode b_DS_init 72 = .ok (.newarray .int, 2) := by decide +kernel
theorem d_DS_init_74 : decode b_DS_init 74 = .ok (.putfield 41, 3) := by decide +kernel
theorem d_DS_init_77 : decode b_DS_init 77 = .ok (.aload_n 0, 1) := by decide +kernel
theorem d_DS_init_78 : decode b_DS_init 78 = .ok (.bipush 8, 2) := by decide +kernel
theorem d_DS_init_80 : decode b_DS_init 80 = .ok (.newarray .int, 2) := by decide +kernel
theorem d_DS_init_82 : decode b_DS_init 82 = .ok (.putfield 45, 3) := by decide +kernel
theorem d_DS_init_85 : decode b_DS_init 85 = .ok (.aload_n 0, 1) := by decide +kernel
theorem d_DS_init_86 : decode b_DS_init 86 = .ok (.bipush 8, 2) := by decide +kernel
theorem d_DS_init_88 : decode b_DS_init 88 = .ok (.newarray .int, 2) := by decide +kernel
theorem d_DS_init_90 : decode b_DS_init 90 = .ok (.putfield 48, 3) := by decide +kernel
theorem d_DS_init_93 : decode b_DS_init 93 = .ok (.return_, 1) := by decide +kernel
theorem d_DS_isWithin_0 : decode b_DS_isWithin 0 = .ok (.iload_n 0, 1) := by decide +kernel
theorem d_DS_isWithin_1 : decode b_DS_isWithin 1 = .ok (.iload_n 1, 1) := by decide +kernel
theorem d_DS_isWithin_2 : decode b_DS_isWithin 2 = .ok (.if_icmp .lt 12, 3) := by decide +kernel
theorem d_DS_isWithin_5 : decode b_DS_isWithin 5 = .ok (.iload_n 0, 1) := by decide +kernel
theorem d_DS_isWithin_6 : decode b_DS_isWithin 6 = .ok (.iload_n 2, 1) := by decide +kernel
theorem d_DS_isWithin_7 : decode b_DS_isWithin 7 = .ok (.if_icmp .gt 7, 3) := by decide +kernel
theorem d_DS_isWithin_10 : decode b_DS_isWithin 10 = .ok (.iconst 1, 1) := by decide +kernel
theorem d_DS_isWithin_11 : decode b_DS_isWithin 11 = .ok (.goto 4, 3) := by decide +kernel
theorem d_DS_isWithin_14 : decode b_DS_isWithin 14 = .ok (.iconst 0, 1) := by decide +kernel
theorem d_DS_isWithin_15 : decode b_DS_isWithin 15 = .ok (.ireturn, 1) := by decide +kernel
theorem d_Day_init_0 : decode b_Day_init 0 = .ok (.aload_n 0, 1) := by decide +kernel
theorem d_Day_init_1 : decode b_Day_init 1 = .ok (.invokespecial 3, 3) := by decide +kernel
theorem d_Day_init_4 : decode b_Day_init 4 = .ok (.aload_n 0, 1) := by decide +kernel
theorem d_Day_init_5 : decode b_Day_init 5 = .ok (.bipush 8, 2) := by decide +kernel
theorem d_Day_init_7 : decode b_Day_init 7 = .ok (.newarray .int, 2) := by decide +kernel
theorem d_Day_init_9 : decode b_Day_init 9 = .ok (.putfield 9, 3) := by decide +kernel
theorem d_Day_init_12 : decode b_Day_init 12 = .ok (.aload_n 0, 1) := by decide +kernel
theorem d_Day_init_13 : decode b_Day_init 13 = .ok (.bipush 8, 2) := by decide +kernel
theorem d_Day_init_15 : decode b_Day_init 15 = .ok (.newarray .int, 2) := by decide +kernel
theorem d_Day_init_17 : decode b_Day_init 17 = .ok (.putfield 15, 3) := by decide +kernel
theorem d_Day_init_20 : decode b_Day_init 20 = .ok (.aload_n 0, 1) := by decide +kernel
theorem d_Day_init_21 : decode b_Day_init 21 = .ok (.bipush 8, 2) := by decide +kernel
theorem d_Day_init_23 : decode b_Day_init 23 = .ok (.newarray .int, 2) := by decide +kernel
theorem d_Day_init_25 : decode b_Day_init 25 = .ok (.putfield 18, 3) := by decide +kernel
theorem d_Day_init_28 : decode b_Day_init 28 = .ok (.aload_n 0, 1) := by decide +kernel
theorem d_Day_init_29 : decode b_Day_init 29 = .ok (.bipush 8, 2) := by decide +kernel
theorem d_Day_init_31 : decode b_Day_init 31 = .ok (.newarray .int, 2) := by decide +kernel
theorem d_Day_init_33 : decode b_Day_init 33 = .ok (.putfield 21, 3) := by decide +kernel
theorem d_Day_init_36 : decode b_Day_init 36 = .ok (.aload_n 0, 1) := by decide +kernel
theorem d_Day_init_37 : decode b_Day_init 37 = .ok (.bipush 8, 2) := by decide +kernel
theorem d_Day_init_39 : decode b_Day_init 39 = .ok (.newarray .boolean, 2) := by decide +kernel
theorem d_Day_init_41 : decode b_Day_init 41 = .ok (.putfield 24, 3) := by decide +kernel
theorem d_Day_init_44 : decode b_Day_init 44 = .ok (.aload_n 0, 1) := by decide +kernel
theorem d_Day_init_45 : decode b_Day_init 45 = .ok (.bipush 8, 2) := by decide +kernel
theorem d_Day_init_47 : decode b_Day_init 47 = .ok (.newarray .boolean, 2) := by decide +kernel
theorem d_Day_init_49 : decode b_Day_init 49 = .ok (.putfield 28, 3) := by decide +kernel
theorem d_Day_init_52 : decode b_Day_init 52 = .ok (.aload_n 0, 1) := by decide +kernel
theorem d_Day_init_53 : decode b_Day_init 53 = .ok (.iconst 3, 1) := by decide +kernel
theorem d_Day_init_54 : decode b_Day_init 54 = .ok (.bipush 8, 2) := by decide +kernel
theorem d_Day_init_56 : decode b_Day_init 56 = .ok (.multianewarray 31 2, 4) := by decide +kernel
theorem d_Day_init_60 : decode b_Day_init 60 = .ok (.putfield 33, 3) := by decide +kernel
theorem d_Day_init_63 : decode b_Day_init 63 = .ok (.aload_n 0, 1) := by decide +kernel
theorem d_Day_init_64 : decode b_Day_init 64 = .ok (.iconst 3, 1) := by decide +kernel
theorem d_Day_init_65 : decode b_Day_init 65 = .ok (.newarray .int, 2) := by decide +kernel
theorem d_Day_init_67 : decode b_Day_init 67 = .ok (.putfield 36, 3) := by decide +kernel
theorem d_Day_init_70 : decode b_Day_init 70 = .ok (.aload_n 0, 1) := by decide +kernel
theorem d_Day_init_71 : decode b_Day_init 71 = .ok (.iconst 3, 1) := by decide +kernel
theorem d_Day_init_72 : decode b_Day_init 72 = .ok (.bipush 8, 2) := by decide +kernel
theorem d_Day_init_74 : decode b_Day_init 74 = .ok (.multianewarray 31 2, 4) := by decide +kernel
theorem d_Day_init_78 : decode b_Day_init 78 = .ok (.putfield 39, 3) := by decide +kernel
theorem d_Day_init_81 : decode b_Day_init 81 = .ok (.aload_n 0, 1) := by decide +kernel
theorem d_Day_init_82 : decode b_Day_init 82 = .ok (.iconst 3, 1) := by decide +kernel
theorem d_Day_init_83 : decode b_Day_init 83 = .ok (.newarray .int, 2) := by decide +kernel
theorem d_Day_init_85 : decode b_Day_init 85 = .ok (.putfield 42, 3) := by decide +kernel
theorem d_Day_init_88 : decode b_Day_init 88 = .ok (.aload_n 0, 1) := by decide +kernel
theorem d_Day_init_89 : decode b_Day_init 89 = .ok (.iconst 3, 1) := by decide +kernel
theorem d_Day_init_90 : decode b_Day_init 90 = .ok (.newarray .int, 2) := by decide +kernel
theorem d_Day_init_92 : decode b_Day_init 92 = .ok (.putfield 45, 3) := by decide +kernel
theorem d_Day_init_95 : decode b_Day_init 95 = .ok (.aload_n 0, 1) := by decide +kernel
theorem d_Day_init_96 : decode b_Day_init 96 = .ok (.iconst 3, 1) := by decide +kernel
theorem d_Day_init_97 : decode b_Day_init 97 = .ok (.newarray .int, 2) := by decide +kernel
theorem d_Day_init_99 : decode b_Day_init 99 = .ok (.putfield 48, 3) := by decide +kernel
theorem d_Day_init_102 : decode b_Day_init 102 = .ok (.aload_n 0, 1) := by decide +kernel
theorem d_Day_init_103 : decode b_Day_init 103 = .ok (.bipush 10, 2) := by decide +kernel
theorem d_Day_init_105 : decode b_Day_init 105 = .ok (.bipush 10, 2) := by decide +kernel
theorem d_Day_init_107 : decode b_Day_init 107 = .ok (.multianewarray 31 2, 4) := by decide +kernel
theorem d_Day_init_111 : decode b_Day_init 111 = .ok (.putfield 51, 3) := by decide +kernel
theorem d_Day_init_114 : decode b_Day_init 114 = .ok (.aload_n 0, 1) := by decide +kernel
theorem d_Day_init_115 : decode b_Day_init 115 = .ok (.bipush 8, 2) := by decide +kernel
theorem d_Day_init_117 : decode b_Day_init 117 = .ok (.newarray .int, 2) := by decide +kernel
theorem d_Day_init_119 : decode b_Day_init 119 = .ok (.putfield 54, 3) := by decide +kernel
theorem d_Day_init_122 : decode b_Day_init 122 = .ok (.aload_n 0, 1) := by decide +kernel
theorem d_Day_init_123 : decode b_Day_init 123 = .ok (.iload_n 1, 1) := by decide +kernel
theorem d_Day_init_124 : decode b_Day_init 124 = .ok (.putfield 57, 3) := by decide +kernel
theorem d_Day_init_127 : decode b_Day_init 127 = .ok (.aload_n 0, 1) := by decide +kernel
theorem d_Day_init_128 : decode b_Day_init 128 = .ok (.getfield 45, 3) := by decide +kernel
theorem d_Day_init_131 : decode b_Day_init 131 = .ok (.bipush 8, 2) := by decide +kernel
theorem d_Day_init_133 : decode b_Day_init 133 = .ok (.invokestatic 61, 3) := by decide +kernel
theorem d_Day_init_136 : decode b_Day_init 136 = .ok (.aload_n 0, 1) := by decide +kernel
theorem d_Day_init_137 : decode b_Day_init 137 = .ok (.getfield 48, 3) := by decide +kernel
theorem d_Day_init_140 : decode b_Day_init 140 = .ok (.sipush 28800, 3) := by decide +kernel
theorem d_Day_init_143 : decode b_Day_init 143 = .ok (.invokestatic 61, 3) := by decide +kernel
theorem d_Day_init_146 : decode b_Day_init 146 = .ok (.iconst 0, 1) := by decide +kernel
theorem d_Day_init_147 : decode b_Day_init 147 = .ok (.istore_n 2, 1) := by decide +kernel
theorem d_Day_init_148 : decode b_Day_init 148 = .ok (.iload_n 2, 1) := by decide +kernel
theorem d_Day_init_149 : decode b_Day_init 149 = .ok (.bipush 10, 2) := by decide +kernel
theorem d_Day_init_151 : decode b_Day_init 151 = .ok (.if_icmp .ge 29, 3) := by decide +kernel
theorem d_Day_init_154 : decode b_Day_init 154 = .ok (.aload_n 0, 1) := by decide +kernel
theorem d_Day_init_155 : decode b_Day_init 155 = .ok (.getfield 51, 3) := by decide +kernel
theorem d_Day_init_158 : decode b_Day_init 158 = .ok (.iload_n 2, 1) := by decide +kernel
theorem d_Day_init_159 : decode b_Day_init 159 = .ok (.aaload, 1) := by decide +kernel
theorem d_Day_init_160 : decode b_Day_init 160 = .ok (.bipush 60, 2) := by decide +kernel
theorem d_Day_init_162 : decode b_Day_init 162 = .ok (.invokestatic 61, 3) := by decide +kernel
theorem d_Day_init_165 : decode b_Day_init 165 = .ok (.aload_n 0, 1) := by decide +kernel
theorem d_Day_init_166 : decode b_Day_init 166 = .ok (.getfield 51, 3) := by decide +kernel
theorem d_Day_init_169 : decode b_Day_init 169 = .ok (.iload_n 2, 1) := by decide +kernel
theorem d_Day_init_170 : decode b_Day_init 170 = .ok (.aaload, 1) := by decide +kernel
theorem d_Day_init_171 : decode b_Day_init 171 = .ok (.iload_n 2, 1) := by decide +kernel
theorem d_Day_init_172 : decode b_Day_init 172 = .ok (.iconst 0, 1) := by decide +kernel
theorem d_Day_init_173 : decode b_Day_init 173 = .ok (.iastore, 1) := by decide +kernel
theorem d_Day_init_174 : decode b_Day_init 174 = .ok (.iinc 2 1, 3) := by decide +kernel
theorem d_Day_init_177 : decode b_Day_init 177 = .ok (.goto (-29), 3) := by decide +kernel
theorem d_Day_init_180 : decode b_Day_init 180 = .ok (.return_, 1) := by decide +kernel
theorem d_Ar_fill_0 : decode b_Ar_fill 0 = .ok (.iconst 0, 1) := by decide +kernel
theorem d_Ar_fill_1 : decode b_Ar_fill 1 = .ok (.istore_n 2, 1) := by decide +kernel
theorem d_Ar_fill_2 : decode b_Ar_fill 2 = .ok (.aload_n 0, 1) := by decide +kernel
theorem d_Ar_fill_3 : decode b_Ar_fill 3 = .ok (.arraylength, 1) := by decide +kernel
theorem d_Ar_fill_4 : decode b_Ar_fill 4 = .ok (.istore_n 3, 1) := by decide +kernel
theorem d_Ar_fill_5 : decode b_Ar_fill 5 = .ok (.iload_n 2, 1) := by decide +kernel
theorem d_Ar_fill_6 : decode b_Ar_fill 6 = .ok (.iload_n 3, 1) := by decide +kernel
theorem d_Ar_fill_7 : decode b_Ar_fill 7 = .ok (.if_icmp .ge 13, 3) := by decide +kernel
theorem d_Ar_fill_10 : decode b_Ar_fill 10 = .ok (.aload_n 0, 1) := by decide +kernel
theorem d_Ar_fill_11 : decode b_Ar_fill 11 = .ok (.iload_n 2, 1) := by decide +kernel
theorem d_Ar_fill_12 : decode b_Ar_fill 12 = .ok (.iload_n 1, 1) := by decide +kernel
theorem d_Ar_fill_13 : decode b_Ar_fill 13 = .ok (.iastore, 1) := by decide +kernel
theorem d_Ar_fill_14 : decode b_Ar_fill 14 = .ok (.iinc 2 1, 3) := by decide +kernel
theorem d_Ar_fill_17 : decode b_Ar_fill 17 = .ok (.goto (-12), 3) := by decide +kernel
theorem d_Ar_fill_20 : decode b_Ar_fill 20 = .ok (.return_, 1) := by decide +kernel
theorem d_Se_init_0 : decode b_Se_init 0 = .ok (.aload_n 0, 1) := by decide +kernel
theorem d_Se_init_1 : decode b_Se_init 1 = .ok (.invokespecial 5, 3) := by decide +kernel
theorem d_Se_init_4 : decode b_Se_init 4 = .ok (.aload_n 0, 1) := by decide +kernel
theorem d_Se_init_5 : decode b_Se_init 5 = .ok (.sipush 256, 3) := by decide +kernel
theorem d_Se_init_8 : decode b_Se_init 8 = .ok (.newarray .long, 2) := by decide +kernel
theorem d_Se_init_10 : decode b_Se_init 10 = .ok (.putfield 11, 3) := by decide +kernel
theorem d_Se_init_13 : decode b_Se_init 13 = .ok (.aload_n 0, 1) := by decide +kernel
theorem d_Se_init_14 : decode b_Se_init 14 = .ok (.sipush 256, 3) := by decide +kernel
theorem d_Se_init_17 : decode b_Se_init 17 = .ok (.newarray .long, 2) := by decide +kernel
theorem d_Se_init_19 : decode b_Se_init 19 = .ok (.putfield 15, 3) := by decide +kernel
theorem d_Se_init_22 : decode b_Se_init 22 = .ok (.aload_n 0, 1) := by decide +kernel
theorem d_Se_init_23 : decode b_Se_init 23 = .ok (.aload_n 1, 1) := by decide +kernel
theorem d_Se_init_24 : decode b_Se_init 24 = .ok (.putfield 18, 3) := by decide +kernel
theorem d_Se_init_27 : decode b_Se_init 27 = .ok (.return_, 1) := by decide +kernel
theorem d_Sh_init_0 : decode b_Sh_init 0 = .ok (.aload_n 0, 1) := by decide +kernel
theorem d_Sh_init_1 : decode b_Sh_init 1 = .ok (.invokespecial 3, 3) := by decide +kernel
theorem d_Sh_init_4 : decode b_Sh_init 4 = .ok (.aload_n 0, 1) := by decide +kernel
theorem d_Sh_init_5 : decode b_Sh_init 5 = .ok (.iload_n 1, 1) := by decide +kernel
theorem d_Sh_init_6 : decode b_Sh_init 6 = .ok (.bipush 8, 2) := by decide +kernel
theorem d_Sh_init_8 : decode b_Sh_init 8 = .ok (.multianewarray 9 2, 4) := by decide +kernel
theorem d_Sh_init_12 : decode b_Sh_init 12 = .ok (.putfield 11, 3) := by decide +kernel
theorem d_Sh_init_15 : decode b_Sh_init 15 = .ok (.aload_n 0, 1) := by decide +kernel
theorem d_Sh_init_16 : decode b_Sh_init 16 = .ok (.iload_n 1, 1) := by decide +kernel
theorem d_Sh_init_17 : decode b_Sh_init 17 = .ok (.newarray .int, 2) := by decide +kernel
theorem d_Sh_init_19 : decode b_Sh_init 19 = .ok (.putfield 16, 3) := by decide +kernel
theorem d_Sh_init_22 : decode b_Sh_init 22 = .ok (.return_, 1) := by decide +kernel
theorem d_DS_stop_0 : decode b_DS_stop 0 = .ok (.aload_n 0, 1) := by decide +kernel
theorem d_DS_stop_1 : decode b_DS_stop 1 = .ok (.getfield 18, 3) := by decide +kernel
theorem d_DS_stop_4 : decode b_DS_stop 4 = .ok (.getfield 51, 3) := by decide +kernel
theorem d_DS_stop_7 : decode b_DS_stop 7 = .ok (.bipush 8, 2) := by decide +kernel
theorem d_DS_stop_9 : decode b_DS_stop 9 = .ok (.if_icmp .ge 14, 3) := by decide +kernel
theorem d_DS_stop_12 : decode b_DS_stop 12 = .ok (.aload_n 0, 1) := by decide +kernel
theorem d_DS_stop_13 : decode b_DS_stop 13 = .ok (.getfield 18, 3) := by decide +kernel
theorem d_DS_stop_16 : decode b_DS_stop 16 = .ok (.iload_n 1, 1) := by decide +kernel
theorem d_DS_stop_17 : decode b_DS_stop 17 = .ok (.invokevirtual 55, 3) := by decide +kernel
theorem d_DS_stop_20 : decode b_DS_stop 20 = .ok (.ifCond .ne 5, 3) := by decide +kernel
theorem d_DS_stop_23 : decode b_DS_stop 23 = .ok (.iconst (-1), 1) := by decide +kernel
theorem d_DS_stop_24 : decode b_DS_stop 24 = .ok (.ireturn, 1) := by decide +kernel
theorem d_DS_stop_25 : decode b_DS_stop 25 = .ok (.iload_n 2, 1) := by decide +kernel
theorem d_DS_stop_26 : decode b_DS_stop 26 = .ok (.invokestatic 59, 3) := by decide +kernel
theorem d_DS_stop_29 : decode b_DS_stop 29 = .ok (.ifCond .eq 14, 3) := by decide +kernel
theorem d_DS_stop_32 : decode b_DS_stop 32 = .ok (.iload_n 3, 1) := by decide +kernel
theorem d_DS_stop_33 : decode b_DS_stop 33 = .ok (.iconst 0, 1) := by decide +kernel
theorem d_DS_stop_34 : decode b_DS_stop 34 = .ok (.sipush 10000, 3) := by decide +kernel
theorem d_DS_stop_37 : decode b_DS_stop 37 = .ok (.invokestatic 11, 3) := by decide +kernel
theorem d_DS_stop_40 : decode b_DS_stop 40 = .ok (.ifCond .ne 5, 3) := by decide +kernel
theorem d_DS_stop_43 : decode b_DS_stop 43 = .ok (.iconst (-1), 1) := by decide +kernel
theorem d_DS_stop_44 : decode b_DS_stop 44 = .ok (.ireturn, 1) := by decide +kernel
theorem d_DS_stop_45 : decode b_DS_stop 45 = .ok (.aload_n 0, 1) := by decide +kernel
theorem d_DS_stop_46 : decode b_DS_stop 46 = .ok (.getfield 18, 3) := by decide +kernel
theorem d_DS_stop_49 : decode b_DS_stop 49 = .ok (.iload_n 1, 1) := by decide +kernel
theorem d_DS_stop_50 : decode b_DS_stop 50 = .ok (.iload_n 2, 1) := by decide +kernel
theorem d_DS_stop_51 : decode b_DS_stop 51 = .ok (.iload_n 3, 1) := by decide +kernel
theorem d_DS_stop_52 : decode b_DS_stop 52 = .ok (.invokevirtual 62, 3) := by decide +kernel
theorem d_DS_stop_55 : decode b_DS_stop 55 = .ok (.istore 4, 2) := by decide +kernel
theorem d_DS_stop_57 : decode b_DS_stop 57 = .ok (.aload_n 0, 1) := by decide +kernel
theorem d_DS_stop_58 : decode b_DS_stop 58 = .ok (.getfield 41, 3) := by decide +kernel
theorem d_DS_stop_61 : decode b_DS_stop 61 = .ok (.iload 4, 2) := by decide +kernel
theorem d_DS_stop_63 : decode b_DS_stop 63 = .ok (.iload_n 1, 1) := by decide +kernel
theorem d_DS_stop_64 : decode b_DS_stop 64 = .ok (.iastore, 1) := by decide +kernel
theorem d_DS_stop_65 : decode b_DS_stop 65 = .ok (.aload_n 0, 1) := by decide +kernel
theorem d_DS_stop_66 : decode b_DS_stop 66 = .ok (.getfield 45, 3) := by decide +kernel
theorem d_DS_stop_69 : decode b_DS_stop 69 = .ok (.iload 4, 2) := by decide +kernel
theorem d_DS_stop_71 : decode b_DS_stop 71 = .ok (.iload_n 1, 1) := by decide +kernel
theorem d_DS_stop_72 : decode b_DS_stop 72 = .ok (.iastore, 1) := by decide +kernel
theorem d_DS_stop_73 : decode b_DS_stop 73 = .ok (.iload 4, 2) := by decide +kernel
theorem d_DS_stop_75 : decode b_DS_stop 75 = .ok (.ireturn, 1) := by decide +kernel
theorem d_Day_isVehicle_0 : decode b_Day_isVehicle 0 = .ok (.iload_n 1, 1) := by decide +kernel
theorem d_Day_isVehicle_1 : decode b_Day_isVehicle 1 = .ok (.iconst 0, 1) := by decide +kernel
theorem d_Day_isVehicle_2 : decode b_Day_isVehicle 2 = .ok (.aload_n 0, 1) := by decide +kernel
theorem d_Day_isVehicle_3 : decode b_Day_isVehicle 3 = .ok (.getfield 57, 3) := by decide +kernel
theorem d_Day_isVehicle_6 : decode b_Day_isVehicle 6 = .ok (.iconst 1, 1) := by decide +kernel
theorem d_Day_isVehicle_7 : decode b_Day_isVehicle 7 = .ok (.isub, 1) := by decide +kernel
theorem d_Day_isVehicle_8 : decode b_Day_isVehicle 8 = .ok (.invokestatic 67, 3) := by decide +kernel
theorem d_Day_isVehicle_11 : decode b_Day_isVehicle 11 = .ok (.ireturn, 1) := by decide +kernel
theorem d_DS_isPlace_0 : decode b_DS_isPlace 0 = .ok (.iload_n 0, 1) := by decide +kernel
theorem d_DS_isPlace_1 : decode b_DS_isPlace 1 = .ok (.iconst 0, 1) := by decide +kernel
theorem d_DS_isPlace_2 : decode b_DS_isPlace 2 = .ok (.bipush 9, 2) := by decide +kernel
theorem d_DS_isPlace_4 : decode b_DS_isPlace 4 = .ok (.invokestatic 11, 3) := by decide +kernel
theorem d_DS_isPlace_7 : decode b_DS_isPlace 7 = .ok (.ireturn, 1) := by decide +kernel
theorem d_Day_tell_0 : decode b_Day_tell 0 = .ok (.aload_n 0, 1) := by decide +kernel
theorem d_Day_tell_1 : decode b_Day_tell 1 = .ok (.getfield 71, 3) := by decide +kernel
theorem d_Day_tell_4 : decode b_Day_tell 4 = .ok (.istore 4, 2) := by decide +kernel
theorem d_Day_tell_6 : decode b_Day_tell 6 = .ok (.aload_n 0, 1) := by decide +kernel
theorem d_Day_tell_7 : decode b_Day_tell 7 = .ok (.getfield 9, 3) := by decide +kernel
theorem d_Day_tell_10 : decode b_Day_tell 10 = .ok (.iload 4, 2) := by decide +kernel
theorem d_Day_tell_12 : decode b_Day_tell 12 = .ok (.iload_n 2, 1) := by decide +kernel
theorem d_Day_tell_13 : decode b_Day_tell 13 = .ok (.iastore, 1) := by decide +kernel
theorem d_Day_tell_14 : decode b_Day_tell 14 = .ok (.aload_n 0, 1) := by decide +kernel
theorem d_Day_tell_15 : decode b_Day_tell 15 = .ok (.getfield 15, 3) := by decide +kernel
theorem d_Day_tell_18 : decode b_Day_tell 18 = .ok (.iload 4, 2) := by decide +kernel
theorem d_Day_tell_20 : decode b_Day_tell 20 = .ok (.iload_n 3, 1) := by decide +kernel
theorem d_Day_tell_21 : decode b_Day_tell 21 = .ok (.iastore, 1) := by decide +kernel
theorem d_Day_tell_22 : decode b_Day_tell 22 = .ok (.aload_n 0, 1) := by decide +kernel
theorem d_Day_tell_23 : decode b_Day_tell 23 = .ok (.iload 4, 2) := by decide +kernel
theorem d_Day_tell_25 : decode b_Day_tell 25 = .ok (.iload_n 1, 1) := by decide +kernel
theorem d_Day_tell_26 : decode b_Day_tell 26 = .ok (.invokevirtual 74, 3) := by decide +kernel
theorem d_Day_tell_29 : decode b_Day_tell 29 = .ok (.aload_n 0, 1) := by decide +kernel
theorem d_Day_tell_30 : decode b_Day_tell 30 = .ok (.dup, 1) := by decide +kernel
theorem d_Day_tell_31 : decode b_Day_tell 31 = .ok (.getfield 71, 3) := by decide +kernel
theorem d_Day_tell_34 : decode b_Day_tell 34 = .ok (.iconst 1, 1) := by decide +kernel
theorem d_Day_tell_35 : decode b_Day_tell 35 = .ok (.iadd, 1) := by decide +kernel
theorem d_Day_tell_36 : decode b_Day_tell 36 = .ok (.putfield 71, 3) := by decide +kernel
theorem d_Day_tell_39 : decode b_Day_tell 39 = .ok (.iload 4, 2) := by decide +kernel
theorem d_Day_tell_41 : decode b_Day_tell 41 = .ok (.ireturn, 1) := by decide +kernel
theorem d_Day_append_0 : decode b_Day_append 0 = .ok (.aload_n 0, 1) := by decide +kernel
theorem d_Day_append_1 : decode b_Day_append 1 = .ok (.getfield 36, 3) := by decide +kernel
theorem d_Day_append_4 : decode b_Day_append 4 = .ok (.iload_n 2, 1) := by decide +kernel
theorem d_Day_append_5 : decode b_Day_append 5 = .ok (.iaload, 1) := by decide +kernel
theorem d_Day_append_6 : decode b_Day_append 6 = .ok (.istore_n 3, 1) := by decide +kernel
theorem d_Day_append_7 : decode b_Day_append 7 = .ok (.aload_n 0, 1) := by decide +kernel
theorem d_Day_append_8 : decode b_Day_append 8 = .ok (.getfield 33, 3) := by decide +kernel
theorem d_Day_append_11 : decode b_Day_append 11 = .ok (.iload_n 2, 1) := by decide +kernel
theorem d_Day_append_12 : decode b_Day_append 12 = .ok (.aaload, 1) := by decide +kernel
theorem d_Day_append_13 : decode b_Day_append 13 = .ok (.iload_n 3, 1) := by decide +kernel
theorem d_Day_append_14 : decode b_Day_append 14 = .ok (.iload_n 1, 1) := by decide +kernel
theorem d_Day_append_15 : decode b_Day_append 15 = .ok (.iastore, 1) := by decide +kernel
theorem d_Day_append_16 : decode b_Day_append 16 = .ok (.aload_n 0, 1) := by decide +kernel
theorem d_Day_append_17 : decode b_Day_append 17 = .ok (.getfield 18, 3) := by decide +kernel
theorem d_Day_append_20 : decode b_Day_append 20 = .ok (.iload_n 1, 1) := by decide +kernel
theorem d_Day_append_21 : decode b_Day_append 21 = .ok (.iload_n 2, 1) := by decide +kernel
theorem d_Day_append_22 : decode b_Day_append 22 = .ok (.iastore, 1) := by decide +kernel
theorem d_Day_append_23 : decode b_Day_append 23 = .ok (.aload_n 0, 1) := by decide +kernel
theorem d_Day_append_24 : decode b_Day_append 24 = .ok (.getfield 21, 3) := by decide +kernel
theorem d_Day_append_27 : decode b_Day_append 27 = .ok (.iload_n 1, 1) := by decide +kernel
theorem d_Day_append_28 : decode b_Day_append 28 = .ok (.iload_n 3, 1) := by decide +kernel
theorem d_Day_append_29 : decode b_Day_append 29 = .ok (.iastore, 1) := by decide +kernel
theorem d_Day_append_30 : decode b_Day_append 30 = .ok (.aload_n 0, 1) := by decide +kernel
theorem d_Day_append_31 : decode b_Day_append 31 = .ok (.getfield 36, 3) := by decide +kernel
theorem d_Day_append_34 : decode b_Day_append 34 = .ok (.iload_n 2, 1) := by decide +kernel
theorem d_Day_append_35 : decode b_Day_append 35 = .ok (.iload_n 3, 1) := by decide +kernel
theorem d_Day_append_36 : decode b_Day_append 36 = .ok (.iconst 1, 1) := by decide +kernel
theorem d_Day_append_37 : decode b_Day_append 37 = .ok (.iadd, 1) := by decide +kernel
theorem d_Day_append_38 : decode b_Day_append 38 = .ok (.iastore, 1) := by decide +kernel
theorem d_Day_append_39 : decode b_Day_append 39 = .ok (.return_, 1) := by decide +kernel
theorem d_DS_freeze_0 : decode b_DS_freeze 0 = .ok (.aload_n 0, 1) := by decide +kernel
theorem d_DS_freeze_1 : decode b_DS_freeze 1 = .ok (.getfield 18, 3) := by decide +kernel
theorem d_DS_freeze_4 : decode b_DS_freeze 4 = .ok (.iload_n 1, 1) := by decide +kernel
theorem d_DS_freeze_5 : decode b_DS_freeze 5 = .ok (.invokevirtual 66, 3) := by decide +kernel
theorem d_DS_freeze_8 : decode b_DS_freeze 8 = .ok (.ifCond .ne 5, 3) := by decide +kernel
theorem d_DS_freeze_11 : decode b_DS_freeze 11 = .ok (.iconst 0, 1) := by decide +kernel
theorem d_DS_freeze_12 : decode b_DS_freeze 12 = .ok (.ireturn, 1) := by decide +kernel
theorem d_DS_freeze_13 : decode b_DS_freeze 13 = .ok (.aload_n 0, 1) := by decide +kernel
theorem d_DS_freeze_14 : decode b_DS_freeze 14 = .ok (.getfield 18, 3) := by decide +kernel
theorem d_DS_freeze_17 : decode b_DS_freeze 17 = .ok (.getfield 69, 3) := by decide +kernel
theorem d_DS_freeze_20 : decode b_DS_freeze 20 = .ok (.iload_n 1, 1) := by decide +kernel
theorem d_DS_freeze_21 : decode b_DS_freeze 21 = .ok (.iload_n 2, 1) := by decide +kernel
theorem d_DS_freeze_22 : decode b_DS_freeze 22 = .ok (.bastore, 1) := by decide +kernel
theorem d_DS_freeze_23 : decode b_DS_freeze 23 = .ok (.iconst 1, 1) := by decide +kernel
theorem d_DS_freeze_24 : decode b_DS_freeze 24 = .ok (.ireturn, 1) := by decide +kernel
theorem d_Day_isStop_0 : decode b_Day_isStop 0 = .ok (.iload_n 1, 1) := by decide +kernel
theorem d_Day_isStop_1 : decode b_Day_isStop 1 = .ok (.iconst 0, 1) := by decide +kernel
theorem d_Day_isStop_2 : decode b_Day_isStop 2 = .ok (.aload_n 0, 1) := by decide +kernel
theorem d_Day_isStop_3 : decode b_Day_isStop 3 = .ok (.getfield 71, 3) := by decide +kernel
theorem d_Day_isStop_6 : decode b_Day_isStop 6 = .ok (.iconst 1, 1) := by decide +kernel
theorem d_Day_isStop_7 : decode b_Day_isStop 7 = .ok (.isub, 1) := by decide +kernel
theorem d_Day_isStop_8 : decode b_Day_isStop 8 = .ok (.invokestatic 67, 3) := by decide +kernel
theorem d_Day_isStop_11 : decode b_Day_isStop 11 = .ok (.ireturn, 1) := by decide +kernel
theorem d_DS_block_0 : decode b_DS_block 0 = .ok (.aload_n 0, 1) := by decide +kernel
theorem d_DS_block_1 : decode b_DS_block 1 = .ok (.getfield 18, 3) := by decide +kernel
theorem d_DS_block_4 : decode b_DS_block 4 = .ok (.iload_n 1, 1) := by decide +kernel
theorem d_DS_block_5 : decode b_DS_block 5 = .ok (.invokevirtual 66, 3) := by decide +kernel
theorem d_DS_block_8 : decode b_DS_block 8 = .ok (.ifCond .ne 5, 3) := by decide +kernel
theorem d_DS_block_11 : decode b_DS_block 11 = .ok (.iconst 0, 1) := by decide +kernel
theorem d_DS_block_12 : decode b_DS_block 12 = .ok (.ireturn, 1) := by decide +kernel
theorem d_DS_block_13 : decode b_DS_block 13 = .ok (.aload_n 0, 1) := by decide +kernel
theorem d_DS_block_14 : decode b_DS_block 14 = .ok (.getfield 18, 3) := by decide +kernel
theorem d_DS_block_17 : decode b_DS_block 17 = .ok (.getfield 73, 3) := by decide +kernel
theorem d_DS_block_20 : decode b_DS_block 20 = .ok (.iload_n 1, 1) := by decide +kernel
theorem d_DS_block_21 : decode b_DS_block 21 = .ok (.iload_n 2, 1) := by decide +kernel
theorem d_DS_block_22 : decode b_DS_block 22 = .ok (.bastore, 1) := by decide +kernel
theorem d_DS_block_23 : decode b_DS_block 23 = .ok (.iconst 1, 1) := by decide +kernel
theorem d_DS_block_24 : decode b_DS_block 24 = .ok (.ireturn, 1) := by decide +kernel
theorem d_DS_out_0 : decode b_DS_out 0 = .ok (.aload_n 0, 1) := by decide +kernel
theorem d_DS_out_1 : decode b_DS_out 1 = .ok (.getfield 18, 3) := by decide +kernel
theorem d_DS_out_4 : decode b_DS_out 4 = .ok (.iload_n 1, 1) := by decide +kernel
theorem d_DS_out_5 : decode b_DS_out 5 = .ok (.invokevirtual 55, 3) := by decide +kernel
theorem d_DS_out_8 : decode b_DS_out 8 = .ok (.ifCond .eq 13, 3) := by decide +kernel
theorem d_DS_out_11 : decode b_DS_out 11 = .ok (.iload_n 2, 1) := by decide +kernel
theorem d_DS_out_12 : decode b_DS_out 12 = .ok (.iconst 0, 1) := by decide +kernel
theorem d_DS_out_13 : decode b_DS_out 13 = .ok (.bipush 8, 2) := by decide +kernel
theorem d_DS_out_15 : decode b_DS_out 15 = .ok (.invokestatic 11, 3) := by decide +kernel
theorem d_DS_out_18 : decode b_DS_out 18 = .ok (.ifCond .ne 5, 3) := by decide +kernel
theorem d_DS_out_21 : decode b_DS_out 21 = .ok (.iconst 0, 1) := by decide +kernel
theorem d_DS_out_22 : decode b_DS_out 22 = .ok (.ireturn, 1) := by decide +kernel
theorem d_DS_out_23 : decode b_DS_out 23 = .ok (.aload_n 0, 1) := by decide +kernel
theorem d_DS_out_24 : decode b_DS_out 24 = .ok (.getfield 18, 3) := by decide +kernel
theorem d_DS_out_27 : decode b_DS_out 27 = .ok (.getfield 76, 3) := by decide +kernel
theorem d_DS_out_30 : decode b_DS_out 30 = .ok (.iload_n 1, 1) := by decide +kernel
theorem d_DS_out_31 : decode b_DS_out 31 = .ok (.iload_n 2, 1) := by decide +kernel
theorem d_DS_out_32 : decode b_DS_out 32 = .ok (.iastore, 1) := by decide +kernel
theorem d_DS_out_33 : decode b_DS_out 33 = .ok (.iconst 1, 1) := by decide +kernel
theorem d_DS_out_34 : decode b_DS_out 34 = .ok (.ireturn, 1) := by decide +kernel
theorem d_DS_way_0 : decode b_DS_way 0 = .ok (.iload_n 1, 1) := by decide +kernel
theorem d_DS_way_1 : decode b_DS_way 1 = .ok (.invokestatic 59, 3) := by decide +kernel
theorem d_DS_way_4 : decode b_DS_way 4 = .ok (.ifCond .eq 26, 3) := by decide +kernel
theorem d_DS_way_7 : decode b_DS_way 7 = .ok (.iload_n 2, 1) := by decide +kernel
theorem d_DS_way_8 : decode b_DS_way 8 = .ok (.invokestatic 59, 3) := by decide +kernel
theorem d_DS_way_11 : decode b_DS_way 11 = .ok (.ifCond .eq 19, 3) := by decide +kernel
theorem d_DS_way_14 : decode b_DS_way 14 = .ok (.iload_n 1, 1) := by decide +kernel
theorem d_DS_way_15 : decode b_DS_way 15 = .ok (.iload_n 2, 1) := by decide +kernel
theorem d_DS_way_16 : decode b_DS_way 16 = .ok (.if_icmp .eq 14, 3) := by decide +kernel
theorem d_DS_way_19 : decode b_DS_way 19 = .ok (.iload_n 3, 1) := by decide +kernel
theorem d_DS_way_20 : decode b_DS_way 20 = .ok (.iconst 0, 1) := by decide +kernel
theorem d_DS_way_21 : decode b_DS_way 21 = .ok (.sipush 10000, 3) := by decide +kernel
theorem d_DS_way_24 : decode b_DS_way 24 = .ok (.invokestatic 11, 3) := by decide +kernel
theorem d_DS_way_27 : decode b_DS_way 27 = .ok (.ifCond .ne 5, 3) := by decide +kernel
theorem d_DS_way_30 : decode b_DS_way 30 = .ok (.iconst 0, 1) := by decide +kernel
theorem d_DS_way_31 : decode b_DS_way 31 = .ok (.ireturn, 1) := by decide +kernel
theorem d_DS_way_32 : decode b_DS_way 32 = .ok (.aload_n 0, 1) := by decide +kernel
theorem d_DS_way_33 : decode b_DS_way 33 = .ok (.getfield 18, 3) := by decide +kernel
theorem d_DS_way_36 : decode b_DS_way 36 = .ok (.getfield 79, 3) := by decide +kernel
theorem d_DS_way_39 : decode b_DS_way 39 = .ok (.iload_n 1, 1) := by decide +kernel
theorem d_DS_way_40 : decode b_DS_way 40 = .ok (.aaload, 1) := by decide +kernel
theorem d_DS_way_41 : decode b_DS_way 41 = .ok (.iload_n 2, 1) := by decide +kernel
theorem d_DS_way_42 : decode b_DS_way 42 = .ok (.iload_n 3, 1) := by decide +kernel
theorem d_DS_way_43 : decode b_DS_way 43 = .ok (.iastore, 1) := by decide +kernel
theorem d_DS_way_44 : decode b_DS_way 44 = .ok (.aload_n 0, 1) := by decide +kernel
theorem d_DS_way_45 : decode b_DS_way 45 = .ok (.getfield 18, 3) := by decide +kernel
theorem d_DS_way_48 : decode b_DS_way 48 = .ok (.getfield 79, 3) := by decide +kernel
theorem d_DS_way_51 : decode b_DS_way 51 = .ok (.iload_n 2, 1) := by decide +kernel
theorem d_DS_way_52 : decode b_DS_way 52 = .ok (.aaload, 1) := by decide +kernel
theorem d_DS_way_53 : decode b_DS_way 53 = .ok (.iload_n 1, 1) := by decide +kernel
theorem d_DS_way_54 : decode b_DS_way 54 = .ok (.iload_n 3, 1) := by decide +kernel
theorem d_DS_way_55 : decode b_DS_way 55 = .ok (.iastore, 1) := by decide +kernel
theorem d_DS_way_56 : decode b_DS_way 56 = .ok (.iconst 1, 1) := by decide +kernel
theorem d_DS_way_57 : decode b_DS_way 57 = .ok (.ireturn, 1) := by decide +kernel
theorem d_DS_hours_0 : decode b_DS_hours 0 = .ok (.aload_n 0, 1) := by decide +kernel
theorem d_DS_hours_1 : decode b_DS_hours 1 = .ok (.getfield 18, 3) := by decide +kernel
theorem d_DS_hours_4 : decode b_DS_hours 4 = .ok (.iload_n 1, 1) := by decide +kernel
theorem d_DS_hours_5 : decode b_DS_hours 5 = .ok (.invokevirtual 55, 3) := by decide +kernel
theorem d_DS_hours_8 : decode b_DS_hours 8 = .ok (.ifCond .eq 13, 3) := by decide +kernel
theorem d_DS_hours_11 : decode b_DS_hours 11 = .ok (.iload_n 2, 1) := by decide +kernel
theorem d_DS_hours_12 : decode b_DS_hours 12 = .ok (.iconst 0, 1) := by decide +kernel
theorem d_DS_hours_13 : decode b_DS_hours 13 = .ok (.ldc 83, 2) := by decide +kernel
theorem d_DS_hours_15 : decode b_DS_hours 15 = .ok (.invokestatic 11, 3) := by decide +kernel
theorem d_DS_hours_18 : decode b_DS_hours 18 = .ok (.ifCond .ne 5, 3) := by decide +kernel
theorem d_DS_hours_21 : decode b_DS_hours 21 = .ok (.iconst 0, 1) := by decide +kernel
theorem d_DS_hours_22 : decode b_DS_hours 22 = .ok (.ireturn, 1) := by decide +kernel
theorem d_DS_hours_23 : decode b_DS_hours 23 = .ok (.aload_n 0, 1) := by decide +kernel
theorem d_DS_hours_24 : decode b_DS_hours 24 = .ok (.getfield 18, 3) := by decide +kernel
theorem d_DS_hours_27 : decode b_DS_hours 27 = .ok (.getfield 84, 3) := by decide +kernel
theorem d_DS_hours_30 : decode b_DS_hours 30 = .ok (.iload_n 1, 1) := by decide +kernel
theorem d_DS_hours_31 : decode b_DS_hours 31 = .ok (.iload_n 2, 1) := by decide +kernel
theorem d_DS_hours_32 : decode b_DS_hours 32 = .ok (.iastore, 1) := by decide +kernel
theorem d_DS_hours_33 : decode b_DS_hours 33 = .ok (.iconst 1, 1) := by decide +kernel
theorem d_DS_hours_34 : decode b_DS_hours 34 = .ok (.ireturn, 1) := by decide +kernel
theorem d_DS_extra_0 : decode b_DS_extra 0 = .ok (.iload_n 1, 1) := by decide +kernel
theorem d_DS_extra_1 : decode b_DS_extra 1 = .ok (.iconst 0, 1) := by decide +kernel
theorem d_DS_extra_2 : decode b_DS_extra 2 = .ok (.ldc 83, 2) := by decide +kernel
theorem d_DS_extra_4 : decode b_DS_extra 4 = .ok (.invokestatic 11, 3) := by decide +kernel
theorem d_DS_extra_7 : decode b_DS_extra 7 = .ok (.ifCond .ne 5, 3) := by decide +kernel
theorem d_DS_extra_10 : decode b_DS_extra 10 = .ok (.iconst 0, 1) := by decide +kernel
theorem d_DS_extra_11 : decode b_DS_extra 11 = .ok (.ireturn, 1) := by decide +kernel
theorem d_DS_extra_12 : decode b_DS_extra 12 = .ok (.aload_n 0, 1) := by decide +kernel
theorem d_DS_extra_13 : decode b_DS_extra 13 = .ok (.getfield 18, 3) := by decide +kernel
theorem d_DS_extra_16 : decode b_DS_extra 16 = .ok (.iload_n 1, 1) := by decide +kernel
theorem d_DS_extra_17 : decode b_DS_extra 17 = .ok (.putfield 87, 3) := by decide +kernel
theorem d_DS_extra_20 : decode b_DS_extra 20 = .ok (.iconst 1, 1) := by decide +kernel
theorem d_DS_extra_21 : decode b_DS_extra 21 = .ok (.ireturn, 1) := by decide +kernel
theorem d_DS_run_0 : decode b_DS_run 0 = .ok (.aload_n 0, 1) := by decide +kernel
theorem d_DS_run_1 : decode b_DS_run 1 = .ok (.getfield 27, 3) := by decide +kernel
theorem d_DS_run_4 : decode b_DS_run 4 = .ok (.invokevirtual 90, 3) := by decide +kernel
theorem d_DS_run_7 : decode b_DS_run 7 = .ok (.lstore_n 1, 1) := by decide +kernel
theorem d_DS_run_8 : decode b_DS_run 8 = .ok (.lload_n 1, 1) := by decide +kernel
theorem d_DS_run_9 : decode b_DS_run 9 = .ok (.ldc2_w 94, 3) := by decide +kernel
theorem d_DS_run_12 : decode b_DS_run 12 = .ok (.lcmp, 1) := by decide +kernel
theorem d_DS_run_13 : decode b_DS_run 13 = .ok (.ifCond .lt 8, 3) := by decide +kernel
theorem d_DS_run_16 : decode b_DS_run 16 = .ok (.aload_n 0, 1) := by decide +kernel
theorem d_DS_run_17 : decode b_DS_run 17 = .ok (.invokevirtual 96, 3) := by decide +kernel
theorem d_DS_run_20 : decode b_DS_run 20 = .ok (.ireturn, 1) := by decide +kernel
theorem d_DS_run_21 : decode b_DS_run 21 = .ok (.aload_n 0, 1) := by decide +kernel
theorem d_DS_run_22 : decode b_DS_run 22 = .ok (.getfield 34, 3) := by decide +kernel
theorem d_DS_run_25 : decode b_DS_run 25 = .ok (.aload_n 0, 1) := by decide +kernel
theorem d_DS_run_26 : decode b_DS_run 26 = .ok (.getfield 41, 3) := by decide +kernel
theorem d_DS_run_29 : decode b_DS_run 29 = .ok (.aload_n 0, 1) := by decide +kernel
theorem d_DS_run_30 : decode b_DS_run 30 = .ok (.getfield 18, 3) := by decide +kernel
theorem d_DS_run_33 : decode b_DS_run 33 = .ok (.getfield 51, 3) := by decide +kernel
theorem d_DS_run_36 : decode b_DS_run 36 = .ok (.invokevirtual 100, 3) := by decide +kernel
theorem d_DS_run_39 : decode b_DS_run 39 = .ok (.iconst 0, 1) := by decide +kernel
theorem d_DS_run_40 : decode b_DS_run 40 = .ok (.istore_n 3, 1) := by decide +kernel
theorem d_DS_run_41 : decode b_DS_run 41 = .ok (.iload_n 3, 1) := by decide +kernel
theorem d_DS_run_42 : decode b_DS_run 42 = .ok (.aload_n 0, 1) := by decide +kernel
theorem d_DS_run_43 : decode b_DS_run 43 = .ok (.getfield 18, 3) := by decide +kernel
theorem d_DS_run_46 : decode b_DS_run 46 = .ok (.getfield 51, 3) := by decide +kernel
theorem d_DS_run_49 : decode b_DS_run 49 = .ok (.if_icmp .ge 20, 3) := by decide +kernel
theorem d_DS_run_52 : decode b_DS_run 52 = .ok (.aload_n 0, 1) := by decide +kernel
theorem d_DS_run_53 : decode b_DS_run 53 = .ok (.getfield 41, 3) := by decide +kernel
theorem d_DS_run_56 : decode b_DS_run 56 = .ok (.iload_n 3, 1) := by decide +kernel
theorem d_DS_run_57 : decode b_DS_run 57 = .ok (.lload_n 1, 1) := by decide +kernel
theorem d_DS_run_58 : decode b_DS_run 58 = .ok (.iload_n 3, 1) := by decide +kernel
theorem d_DS_run_59 : decode b_DS_run 59 = .ok (.invokestatic 104, 3) := by decide +kernel
theorem d_DS_run_62 : decode b_DS_run 62 = .ok (.iastore, 1) := by decide +kernel
theorem d_DS_run_63 : decode b_DS_run 63 = .ok (.iinc 3 1, 3) := by decide +kernel
theorem d_DS_run_66 : decode b_DS_run 66 = .ok (.goto (-25), 3) := by decide +kernel
theorem d_DS_run_69 : decode b_DS_run 69 = .ok (.aload_n 0, 1) := by decide +kernel
theorem d_DS_run_70 : decode b_DS_run 70 = .ok (.invokevirtual 108, 3) := by decide +kernel
theorem d_DS_run_73 : decode b_DS_run 73 = .ok (.invokestatic 111, 3) := by decide +kernel
theorem d_DS_run_76 : decode b_DS_run 76 = .ok (.ireturn, 1) := by decide +kernel
theorem d_Se_least_0 : decode b_Se_least 0 = .ok (.iconst 1, 1) := by decide +kernel
theorem d_Se_least_1 : decode b_Se_least 1 = .ok (.aload_n 0, 1) := by decide +kernel
theorem d_Se_least_2 : decode b_Se_least 2 = .ok (.getfield 18, 3) := by decide +kernel
theorem d_Se_least_5 : decode b_Se_least 5 = .ok (.getfield 22, 3) := by decide +kernel
theorem d_Se_least_8 : decode b_Se_least 8 = .ok (.ishl, 1) := by decide +kernel
theorem d_Se_least_9 : decode b_Se_least 9 = .ok (.istore_n 1, 1) := by decide +kernel
theorem d_Se_least_10 : decode b_Se_least 10 = .ok (.iconst 0, 1) := by decide +kernel
theorem d_Se_least_11 : decode b_Se_least 11 = .ok (.istore_n 2, 1) := by decide +kernel
theorem d_Se_least_12 : decode b_Se_least 12 = .ok (.iload_n 2, 1) := by decide +kernel
theorem d_Se_least_13 : decode b_Se_least 13 = .ok (.iload_n 1, 1) := by decide +kernel
theorem d_Se_least_14 : decode b_Se_least 14 = .ok (.if_icmp .ge 27, 3) := by decide +kernel
theorem d_Se_least_17 : decode b_Se_least 17 = .ok (.aload_n 0, 1) := by decide +kernel
theorem d_Se_least_18 : decode b_Se_least 18 = .ok (.getfield 15, 3) := by decide +kernel
theorem d_Se_least_21 : decode b_Se_least 21 = .ok (.iload_n 2, 1) := by decide +kernel
theorem d_Se_least_22 : decode b_Se_least 22 = .ok (.aload_n 0, 1) := by decide +kernel
theorem d_Se_least_23 : decode b_Se_least 23 = .ok (.aload_n 0, 1) := by decide +kernel
theorem d_Se_least_24 : decode b_Se_least 24 = .ok (.getfield 18, 3) := by decide +kernel
theorem d_Se_least_27 : decode b_Se_least 27 = .ok (.getfield 28, 3) := by decide +kernel
theorem d_Se_least_30 : decode b_Se_least 30 = .ok (.iload_n 2, 1) := by decide +kernel
theorem d_Se_least_31 : decode b_Se_least 31 = .ok (.invokevirtual 31, 3) := by decide +kernel
theorem d_Se_least_34 : decode b_Se_least 34 = .ok (.lastore, 1) := by decide +kernel
theorem d_Se_least_35 : decode b_Se_least 35 = .ok (.iinc 2 1, 3) := by decide +kernel
theorem d_Se_least_38 : decode b_Se_least 38 = .ok (.goto (-26), 3) := by decide +kernel
theorem d_Se_least_41 : decode b_Se_least 41 = .ok (.iconst 0, 1) := by decide +kernel
theorem d_Se_least_42 : decode b_Se_least 42 = .ok (.istore_n 2, 1) := by decide +kernel
theorem d_Se_least_43 : decode b_Se_least 43 = .ok (.iload_n 2, 1) := by decide +kernel
theorem d_Se_least_44 : decode b_Se_least 44 = .ok (.aload_n 0, 1) := by decide +kernel
theorem d_Se_least_45 : decode b_Se_least 45 = .ok (.getfield 18, 3) := by decide +kernel
theorem d_Se_least_48 : decode b_Se_least 48 = .ok (.getfield 28, 3) := by decide +kernel
theorem d_Se_least_51 : decode b_Se_least 51 = .ok (.if_icmp .ge 39, 3) := by decide +kernel
theorem d_Se_least_54 : decode b_Se_least 54 = .ok (.iconst 0, 1) := by decide +kernel
theorem d_Se_least_55 : decode b_Se_least 55 = .ok (.istore_n 3, 1) := by decide +kernel
theorem d_Se_least_56 : decode b_Se_least 56 = .ok (.iload_n 3, 1) := by decide +kernel
theorem d_Se_least_57 : decode b_Se_least 57 = .ok (.iload_n 1, 1) := by decide +kernel
theorem d_Se_least_58 : decode b_Se_least 58 = .ok (.if_icmp .ge 21, 3) := by decide +kernel
theorem d_Se_least_61 : decode b_Se_least 61 = .ok (.aload_n 0, 1) := by decide +kernel
