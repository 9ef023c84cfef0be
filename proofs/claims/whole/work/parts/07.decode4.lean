theorem d_Day_turn_16 : decode b_Day_turn 16 = .ok (.iastore, 1) := by decide +kernel
theorem d_Day_turn_17 : decode b_Day_turn 17 = .ok (.aload_n 0, 1) := by decide +kernel
theorem d_Day_turn_18 : decode b_Day_turn 18 = .ok (.getfield 45, 3) := by decide +kernel
theorem d_Day_turn_21 : decode b_Day_turn 21 = .ok (.iload_n 1, 1) := by decide +kernel
theorem d_Day_turn_22 : decode b_Day_turn 22 = .ok (.bipush 8, 2) := by decide +kernel
theorem d_Day_turn_24 : decode b_Day_turn 24 = .ok (.iastore, 1) := by decide +kernel
theorem d_Day_turn_25 : decode b_Day_turn 25 = .ok (.iconst 0, 1) := by decide +kernel
theorem d_Day_turn_26 : decode b_Day_turn 26 = .ok (.istore_n 2, 1) := by decide +kernel
theorem d_Day_turn_27 : decode b_Day_turn 27 = .ok (.iload_n 2, 1) := by decide +kernel
theorem d_Day_turn_28 : decode b_Day_turn 28 = .ok (.aload_n 0, 1) := by decide +kernel
theorem d_Day_turn_29 : decode b_Day_turn 29 = .ok (.getfield 42, 3) := by decide +kernel
theorem d_Day_turn_32 : decode b_Day_turn 32 = .ok (.iload_n 1, 1) := by decide +kernel
theorem d_Day_turn_33 : decode b_Day_turn 33 = .ok (.iaload, 1) := by decide +kernel
theorem d_Day_turn_34 : decode b_Day_turn 34 = .ok (.if_icmp .ge 22, 3) := by decide +kernel
theorem d_Day_turn_37 : decode b_Day_turn 37 = .ok (.aload_n 0, 1) := by decide +kernel
theorem d_Day_turn_38 : decode b_Day_turn 38 = .ok (.aload_n 0, 1) := by decide +kernel
theorem d_Day_turn_39 : decode b_Day_turn 39 = .ok (.getfield 39, 3) := by decide +kernel
theorem d_Day_turn_42 : decode b_Day_turn 42 = .ok (.iload_n 1, 1) := by decide +kernel
theorem d_Day_turn_43 : decode b_Day_turn 43 = .ok (.aaload, 1) := by decide +kernel
theorem d_Day_turn_44 : decode b_Day_turn 44 = .ok (.iload_n 2, 1) := by decide +kernel
theorem d_Day_turn_45 : decode b_Day_turn 45 = .ok (.iaload, 1) := by decide +kernel
theorem d_Day_turn_46 : decode b_Day_turn 46 = .ok (.iload_n 1, 1) := by decide +kernel
theorem d_Day_turn_47 : decode b_Day_turn 47 = .ok (.invokevirtual 74, 3) := by decide +kernel
theorem d_Day_turn_50 : decode b_Day_turn 50 = .ok (.iinc 2 1, 3) := by decide +kernel
theorem d_Day_turn_53 : decode b_Day_turn 53 = .ok (.goto (-26), 3) := by decide +kernel
theorem d_Day_turn_56 : decode b_Day_turn 56 = .ok (.iinc 1 1, 3) := by decide +kernel
theorem d_Day_turn_59 : decode b_Day_turn 59 = .ok (.goto (-57), 3) := by decide +kernel
theorem d_Day_turn_62 : decode b_Day_turn 62 = .ok (.iconst 0, 1) := by decide +kernel
theorem d_Day_turn_63 : decode b_Day_turn 63 = .ok (.istore_n 1, 1) := by decide +kernel
theorem d_Day_turn_64 : decode b_Day_turn 64 = .ok (.iload_n 1, 1) := by decide +kernel
theorem d_Day_turn_65 : decode b_Day_turn 65 = .ok (.aload_n 0, 1) := by decide +kernel
theorem d_Day_turn_66 : decode b_Day_turn 66 = .ok (.getfield 71, 3) := by decide +kernel
theorem d_Day_turn_69 : decode b_Day_turn 69 = .ok (.if_icmp .ge 23, 3) := by decide +kernel
theorem d_Day_turn_72 : decode b_Day_turn 72 = .ok (.aload_n 0, 1) := by decide +kernel
theorem d_Day_turn_73 : decode b_Day_turn 73 = .ok (.getfield 24, 3) := by decide +kernel
theorem d_Day_turn_76 : decode b_Day_turn 76 = .ok (.iload_n 1, 1) := by decide +kernel
theorem d_Day_turn_77 : decode b_Day_turn 77 = .ok (.iconst 0, 1) := by decide +kernel
theorem d_Day_turn_78 : decode b_Day_turn 78 = .ok (.bastore, 1) := by decide +kernel
theorem d_Day_turn_79 : decode b_Day_turn 79 = .ok (.aload_n 0, 1) := by decide +kernel
theorem d_Day_turn_80 : decode b_Day_turn 80 = .ok (.getfield 28, 3) := by decide +kernel
theorem d_Day_turn_83 : decode b_Day_turn 83 = .ok (.iload_n 1, 1) := by decide +kernel
theorem d_Day_turn_84 : decode b_Day_turn 84 = .ok (.iconst 0, 1) := by decide +kernel
theorem d_Day_turn_85 : decode b_Day_turn 85 = .ok (.bastore, 1) := by decide +kernel
theorem d_Day_turn_86 : decode b_Day_turn 86 = .ok (.iinc 1 1, 3) := by decide +kernel
theorem d_Day_turn_89 : decode b_Day_turn 89 = .ok (.goto (-25), 3) := by decide +kernel
theorem d_Day_turn_92 : decode b_Day_turn 92 = .ok (.return_, 1) := by decide +kernel
theorem d_Mo_init_0 : decode b_Mo_init 0 = .ok (.aload_n 0, 1) := by decide +kernel
theorem d_Mo_init_1 : decode b_Mo_init 1 = .ok (.invokespecial 1, 3) := by decide +kernel
theorem d_Mo_init_4 : decode b_Mo_init 4 = .ok (.aload_n 0, 1) := by decide +kernel
theorem d_Mo_init_5 : decode b_Mo_init 5 = .ok (.bipush 8, 2) := by decide +kernel
theorem d_Mo_init_7 : decode b_Mo_init 7 = .ok (.newarray .int, 2) := by decide +kernel
theorem d_Mo_init_9 : decode b_Mo_init 9 = .ok (.putfield 7, 3) := by decide +kernel
theorem d_Mo_init_12 : decode b_Mo_init 12 = .ok (.aload_n 0, 1) := by decide +kernel
theorem d_Mo_init_13 : decode b_Mo_init 13 = .ok (.bipush 8, 2) := by decide +kernel
theorem d_Mo_init_15 : decode b_Mo_init 15 = .ok (.newarray .int, 2) := by decide +kernel
theorem d_Mo_init_17 : decode b_Mo_init 17 = .ok (.putfield 13, 3) := by decide +kernel
theorem d_Mo_init_20 : decode b_Mo_init 20 = .ok (.aload_n 0, 1) := by decide +kernel
theorem d_Mo_init_21 : decode b_Mo_init 21 = .ok (.bipush 8, 2) := by decide +kernel
theorem d_Mo_init_23 : decode b_Mo_init 23 = .ok (.newarray .int, 2) := by decide +kernel
theorem d_Mo_init_25 : decode b_Mo_init 25 = .ok (.putfield 16, 3) := by decide +kernel
theorem d_Mo_init_28 : decode b_Mo_init 28 = .ok (.aload_n 0, 1) := by decide +kernel
theorem d_Mo_init_29 : decode b_Mo_init 29 = .ok (.bipush 8, 2) := by decide +kernel
theorem d_Mo_init_31 : decode b_Mo_init 31 = .ok (.newarray .int, 2) := by decide +kernel
theorem d_Mo_init_33 : decode b_Mo_init 33 = .ok (.putfield 19, 3) := by decide +kernel
theorem d_Mo_init_36 : decode b_Mo_init 36 = .ok (.aload_n 0, 1) := by decide +kernel
theorem d_Mo_init_37 : decode b_Mo_init 37 = .ok (.iconst 3, 1) := by decide +kernel
theorem d_Mo_init_38 : decode b_Mo_init 38 = .ok (.newarray .int, 2) := by decide +kernel
theorem d_Mo_init_40 : decode b_Mo_init 40 = .ok (.putfield 22, 3) := by decide +kernel
theorem d_Mo_init_43 : decode b_Mo_init 43 = .ok (.aload_n 0, 1) := by decide +kernel
theorem d_Mo_init_44 : decode b_Mo_init 44 = .ok (.bipush 8, 2) := by decide +kernel
theorem d_Mo_init_46 : decode b_Mo_init 46 = .ok (.newarray .boolean, 2) := by decide +kernel
theorem d_Mo_init_48 : decode b_Mo_init 48 = .ok (.putfield 25, 3) := by decide +kernel
theorem d_Mo_init_51 : decode b_Mo_init 51 = .ok (.aload_n 0, 1) := by decide +kernel
theorem d_Mo_init_52 : decode b_Mo_init 52 = .ok (.bipush 8, 2) := by decide +kernel
theorem d_Mo_init_54 : decode b_Mo_init 54 = .ok (.newarray .boolean, 2) := by decide +kernel
theorem d_Mo_init_56 : decode b_Mo_init 56 = .ok (.putfield 29, 3) := by decide +kernel
theorem d_Mo_init_59 : decode b_Mo_init 59 = .ok (.aload_n 0, 1) := by decide +kernel
theorem d_Mo_init_60 : decode b_Mo_init 60 = .ok (.iconst 3, 1) := by decide +kernel
theorem d_Mo_init_61 : decode b_Mo_init 61 = .ok (.newarray .int, 2) := by decide +kernel
theorem d_Mo_init_63 : decode b_Mo_init 63 = .ok (.putfield 32, 3) := by decide +kernel
theorem d_Mo_init_66 : decode b_Mo_init 66 = .ok (.aload_n 0, 1) := by decide +kernel
theorem d_Mo_init_67 : decode b_Mo_init 67 = .ok (.iconst 3, 1) := by decide +kernel
theorem d_Mo_init_68 : decode b_Mo_init 68 = .ok (.newarray .int, 2) := by decide +kernel
theorem d_Mo_init_70 : decode b_Mo_init 70 = .ok (.putfield 35, 3) := by decide +kernel
theorem d_Mo_init_73 : decode b_Mo_init 73 = .ok (.aload_n 0, 1) := by decide +kernel
theorem d_Mo_init_74 : decode b_Mo_init 74 = .ok (.bipush 100, 2) := by decide +kernel
theorem d_Mo_init_76 : decode b_Mo_init 76 = .ok (.newarray .int, 2) := by decide +kernel
theorem d_Mo_init_78 : decode b_Mo_init 78 = .ok (.putfield 38, 3) := by decide +kernel
theorem d_Mo_init_81 : decode b_Mo_init 81 = .ok (.aload_n 0, 1) := by decide +kernel
theorem d_Mo_init_82 : decode b_Mo_init 82 = .ok (.bipush 8, 2) := by decide +kernel
theorem d_Mo_init_84 : decode b_Mo_init 84 = .ok (.newarray .int, 2) := by decide +kernel
theorem d_Mo_init_86 : decode b_Mo_init 86 = .ok (.putfield 41, 3) := by decide +kernel
theorem d_Mo_init_89 : decode b_Mo_init 89 = .ok (.aload_n 0, 1) := by decide +kernel
theorem d_Mo_init_90 : decode b_Mo_init 90 = .ok (.bipush 8, 2) := by decide +kernel
theorem d_Mo_init_92 : decode b_Mo_init 92 = .ok (.newarray .int, 2) := by decide +kernel
theorem d_Mo_init_94 : decode b_Mo_init 94 = .ok (.putfield 44, 3) := by decide +kernel
theorem d_Mo_init_97 : decode b_Mo_init 97 = .ok (.aload_n 0, 1) := by decide +kernel
theorem d_Mo_init_98 : decode b_Mo_init 98 = .ok (.bipush 8, 2) := by decide +kernel
theorem d_Mo_init_100 : decode b_Mo_init 100 = .ok (.newarray .int, 2) := by decide +kernel
theorem d_Mo_init_102 : decode b_Mo_init 102 = .ok (.putfield 47, 3) := by decide +kernel
theorem d_Mo_init_105 : decode b_Mo_init 105 = .ok (.aload_n 0, 1) := by decide +kernel
theorem d_Mo_init_106 : decode b_Mo_init 106 = .ok (.bipush 48, 2) := by decide +kernel
theorem d_Mo_init_108 : decode b_Mo_init 108 = .ok (.newarray .int, 2) := by decide +kernel
theorem d_Mo_init_110 : decode b_Mo_init 110 = .ok (.putfield 50, 3) := by decide +kernel
theorem d_Mo_init_113 : decode b_Mo_init 113 = .ok (.aload_n 0, 1) := by decide +kernel
theorem d_Mo_init_114 : decode b_Mo_init 114 = .ok (.bipush 6, 2) := by decide +kernel
theorem d_Mo_init_116 : decode b_Mo_init 116 = .ok (.newarray .int, 2) := by decide +kernel
theorem d_Mo_init_118 : decode b_Mo_init 118 = .ok (.putfield 53, 3) := by decide +kernel
theorem d_Mo_init_121 : decode b_Mo_init 121 = .ok (.aload_n 0, 1) := by decide +kernel
theorem d_Mo_init_122 : decode b_Mo_init 122 = .ok (.bipush 32, 2) := by decide +kernel
theorem d_Mo_init_124 : decode b_Mo_init 124 = .ok (.newarray .int, 2) := by decide +kernel
theorem d_Mo_init_126 : decode b_Mo_init 126 = .ok (.putfield 56, 3) := by decide +kernel
theorem d_Mo_init_129 : decode b_Mo_init 129 = .ok (.aload_n 0, 1) := by decide +kernel
theorem d_Mo_init_130 : decode b_Mo_init 130 = .ok (.iconst 4, 1) := by decide +kernel
theorem d_Mo_init_131 : decode b_Mo_init 131 = .ok (.newarray .int, 2) := by decide +kernel
theorem d_Mo_init_133 : decode b_Mo_init 133 = .ok (.putfield 59, 3) := by decide +kernel
theorem d_Mo_init_136 : decode b_Mo_init 136 = .ok (.aload_n 0, 1) := by decide +kernel
theorem d_Mo_init_137 : decode b_Mo_init 137 = .ok (.bipush 8, 2) := by decide +kernel
theorem d_Mo_init_139 : decode b_Mo_init 139 = .ok (.newarray .int, 2) := by decide +kernel
theorem d_Mo_init_141 : decode b_Mo_init 141 = .ok (.putfield 62, 3) := by decide +kernel
theorem d_Mo_init_144 : decode b_Mo_init 144 = .ok (.aload_n 0, 1) := by decide +kernel
theorem d_Mo_init_145 : decode b_Mo_init 145 = .ok (.bipush 8, 2) := by decide +kernel
theorem d_Mo_init_147 : decode b_Mo_init 147 = .ok (.newarray .int, 2) := by decide +kernel
theorem d_Mo_init_149 : decode b_Mo_init 149 = .ok (.putfield 65, 3) := by decide +kernel
theorem d_Mo_init_152 : decode b_Mo_init 152 = .ok (.aload_n 0, 1) := by decide +kernel
theorem d_Mo_init_153 : decode b_Mo_init 153 = .ok (.bipush 8, 2) := by decide +kernel
theorem d_Mo_init_155 : decode b_Mo_init 155 = .ok (.newarray .int, 2) := by decide +kernel
theorem d_Mo_init_157 : decode b_Mo_init 157 = .ok (.putfield 68, 3) := by decide +kernel
theorem d_Mo_init_160 : decode b_Mo_init 160 = .ok (.aload_n 0, 1) := by decide +kernel
theorem d_Mo_init_161 : decode b_Mo_init 161 = .ok (.bipush 8, 2) := by decide +kernel
theorem d_Mo_init_163 : decode b_Mo_init 163 = .ok (.newarray .int, 2) := by decide +kernel
theorem d_Mo_init_165 : decode b_Mo_init 165 = .ok (.putfield 71, 3) := by decide +kernel
theorem d_Mo_init_168 : decode b_Mo_init 168 = .ok (.aload_n 0, 1) := by decide +kernel
theorem d_Mo_init_169 : decode b_Mo_init 169 = .ok (.bipush 8, 2) := by decide +kernel
theorem d_Mo_init_171 : decode b_Mo_init 171 = .ok (.newarray .int, 2) := by decide +kernel
theorem d_Mo_init_173 : decode b_Mo_init 173 = .ok (.putfield 74, 3) := by decide +kernel
theorem d_Mo_init_176 : decode b_Mo_init 176 = .ok (.aload_n 0, 1) := by decide +kernel
theorem d_Mo_init_177 : decode b_Mo_init 177 = .ok (.iload_n 1, 1) := by decide +kernel
theorem d_Mo_init_178 : decode b_Mo_init 178 = .ok (.iconst 1, 1) := by decide +kernel
theorem d_Mo_init_179 : decode b_Mo_init 179 = .ok (.if_icmp .lt 12, 3) := by decide +kernel
theorem d_Mo_init_182 : decode b_Mo_init 182 = .ok (.iload_n 1, 1) := by decide +kernel
theorem d_Mo_init_183 : decode b_Mo_init 183 = .ok (.iconst 3, 1) := by decide +kernel
theorem d_Mo_init_184 : decode b_Mo_init 184 = .ok (.if_icmp .gt 7, 3) := by decide +kernel
theorem d_Mo_init_187 : decode b_Mo_init 187 = .ok (.iload_n 1, 1) := by decide +kernel
theorem d_Mo_init_188 : decode b_Mo_init 188 = .ok (.goto 4, 3) := by decide +kernel
theorem d_Mo_init_191 : decode b_Mo_init 191 = .ok (.iconst 1, 1) := by decide +kernel
theorem d_Mo_init_192 : decode b_Mo_init 192 = .ok (.putfield 77, 3) := by decide +kernel
theorem d_Mo_init_195 : decode b_Mo_init 195 = .ok (.iconst 0, 1) := by decide +kernel
theorem d_Mo_init_196 : decode b_Mo_init 196 = .ok (.istore_n 2, 1) := by decide +kernel
theorem d_Mo_init_197 : decode b_Mo_init 197 = .ok (.iload_n 2, 1) := by decide +kernel
theorem d_Mo_init_198 : decode b_Mo_init 198 = .ok (.iconst 3, 1) := by decide +kernel
theorem d_Mo_init_199 : decode b_Mo_init 199 = .ok (.if_icmp .ge 26, 3) := by decide +kernel
theorem d_Mo_init_202 : decode b_Mo_init 202 = .ok (.aload_n 0, 1) := by decide +kernel
theorem d_Mo_init_203 : decode b_Mo_init 203 = .ok (.getfield 32, 3) := by decide +kernel
theorem d_Mo_init_206 : decode b_Mo_init 206 = .ok (.iload_n 2, 1) := by decide +kernel
theorem d_Mo_init_207 : decode b_Mo_init 207 = .ok (.bipush 8, 2) := by decide +kernel
theorem d_Mo_init_209 : decode b_Mo_init 209 = .ok (.iastore, 1) := by decide +kernel
theorem d_Mo_init_210 : decode b_Mo_init 210 = .ok (.aload_n 0, 1) := by decide +kernel
theorem d_Mo_init_211 : decode b_Mo_init 211 = .ok (.getfield 35, 3) := by decide +kernel
theorem d_Mo_init_214 : decode b_Mo_init 214 = .ok (.iload_n 2, 1) := by decide +kernel
theorem d_Mo_init_215 : decode b_Mo_init 215 = .ok (.sipush 28800, 3) := by decide +kernel
theorem d_Mo_init_218 : decode b_Mo_init 218 = .ok (.iastore, 1) := by decide +kernel
theorem d_Mo_init_219 : decode b_Mo_init 219 = .ok (.iinc 2 1, 3) := by decide +kernel
theorem d_Mo_init_222 : decode b_Mo_init 222 = .ok (.goto (-25), 3) := by decide +kernel
theorem d_Mo_init_225 : decode b_Mo_init 225 = .ok (.iconst 0, 1) := by decide +kernel
theorem d_Mo_init_226 : decode b_Mo_init 226 = .ok (.istore_n 2, 1) := by decide +kernel
theorem d_Mo_init_227 : decode b_Mo_init 227 = .ok (.iload_n 2, 1) := by decide +kernel
theorem d_Mo_init_228 : decode b_Mo_init 228 = .ok (.bipush 10, 2) := by decide +kernel
theorem d_Mo_init_230 : decode b_Mo_init 230 = .ok (.if_icmp .ge 45, 3) := by decide +kernel
theorem d_Mo_init_233 : decode b_Mo_init 233 = .ok (.iconst 0, 1) := by decide +kernel
theorem d_Mo_init_234 : decode b_Mo_init 234 = .ok (.istore_n 3, 1) := by decide +kernel
theorem d_Mo_init_235 : decode b_Mo_init 235 = .ok (.iload_n 3, 1) := by decide +kernel
theorem d_Mo_init_236 : decode b_Mo_init 236 = .ok (.bipush 10, 2) := by decide +kernel
theorem d_Mo_init_238 : decode b_Mo_init 238 = .ok (.if_icmp .ge 31, 3) := by decide +kernel
theorem d_Mo_init_241 : decode b_Mo_init 241 = .ok (.aload_n 0, 1) := by decide +kernel
theorem d_Mo_init_242 : decode b_Mo_init 242 = .ok (.getfield 38, 3) := by decide +kernel
theorem d_Mo_init_245 : decode b_Mo_init 245 = .ok (.bipush 10, 2) := by decide +kernel
theorem d_Mo_init_247 : decode b_Mo_init 247 = .ok (.iload_n 2, 1) := by decide +kernel
theorem d_Mo_init_248 : decode b_Mo_init 248 = .ok (.imul, 1) := by decide +kernel
theorem d_Mo_init_249 : decode b_Mo_init 249 = .ok (.iload_n 3, 1) := by decide +kernel
theorem d_Mo_init_250 : decode b_Mo_init 250 = .ok (.iadd, 1) := by decide +kernel
theorem d_Mo_init_251 : decode b_Mo_init 251 = .ok (.iload_n 2, 1) := by decide +kernel
theorem d_Mo_init_252 : decode b_Mo_init 252 = .ok (.iload_n 3, 1) := by decide +kernel
theorem d_Mo_init_253 : decode b_Mo_init 253 = .ok (.if_icmp .ne 7, 3) := by decide +kernel
theorem d_Mo_init_256 : decode b_Mo_init 256 = .ok (.iconst 0, 1) := by decide +kernel
theorem d_Mo_init_257 : decode b_Mo_init 257 = .ok (.goto 5, 3) := by decide +kernel
theorem d_Mo_init_260 : decode b_Mo_init 260 = .ok (.bipush 60, 2) := by decide +kernel
theorem d_Mo_init_262 : decode b_Mo_init 262 = .ok (.iastore, 1) := by decide +kernel
theorem d_Mo_init_263 : decode b_Mo_init 263 = .ok (.iinc 3 1, 3) := by decide +kernel
theorem d_Mo_init_266 : decode b_Mo_init 266 = .ok (.goto (-31), 3) := by decide +kernel
theorem d_Mo_init_269 : decode b_Mo_init 269 = .ok (.iinc 2 1, 3) := by decide +kernel
theorem d_Mo_init_272 : decode b_Mo_init 272 = .ok (.goto (-45), 3) := by decide +kernel
theorem d_Mo_init_275 : decode b_Mo_init 275 = .ok (.return_, 1) := by decide +kernel
theorem d_Mo_stop_0 : decode b_Mo_stop 0 = .ok (.aload_n 0, 1) := by decide +kernel
theorem d_Mo_stop_1 : decode b_Mo_stop 1 = .ok (.getfield 81, 3) := by decide +kernel
theorem d_Mo_stop_4 : decode b_Mo_stop 4 = .ok (.bipush 8, 2) := by decide +kernel
theorem d_Mo_stop_6 : decode b_Mo_stop 6 = .ok (.if_icmp .eq 35, 3) := by decide +kernel
theorem d_Mo_stop_9 : decode b_Mo_stop 9 = .ok (.aload_n 0, 1) := by decide +kernel
theorem d_Mo_stop_10 : decode b_Mo_stop 10 = .ok (.iload_n 1, 1) := by decide +kernel
theorem d_Mo_stop_11 : decode b_Mo_stop 11 = .ok (.invokevirtual 84, 3) := by decide +kernel
theorem d_Mo_stop_14 : decode b_Mo_stop 14 = .ok (.ifCond .eq 27, 3) := by decide +kernel
theorem d_Mo_stop_17 : decode b_Mo_stop 17 = .ok (.iload_n 2, 1) := by decide +kernel
theorem d_Mo_stop_18 : decode b_Mo_stop 18 = .ok (.i2l, 1) := by decide +kernel
theorem d_Mo_stop_19 : decode b_Mo_stop 19 = .ok (.lconst 0, 1) := by decide +kernel
theorem d_Mo_stop_20 : decode b_Mo_stop 20 = .ok (.ldc2_w 88, 3) := by decide +kernel
theorem d_Mo_stop_23 : decode b_Mo_stop 23 = .ok (.invokestatic 90, 3) := by decide +kernel
theorem d_Mo_stop_26 : decode b_Mo_stop 26 = .ok (.ifCond .eq 15, 3) := by decide +kernel
theorem d_Mo_stop_29 : decode b_Mo_stop 29 = .ok (.iload_n 3, 1) := by decide +kernel
theorem d_Mo_stop_30 : decode b_Mo_stop 30 = .ok (.i2l, 1) := by decide +kernel
theorem d_Mo_stop_31 : decode b_Mo_stop 31 = .ok (.lconst 0, 1) := by decide +kernel
theorem d_Mo_stop_32 : decode b_Mo_stop 32 = .ok (.ldc2_w 94, 3) := by decide +kernel
theorem d_Mo_stop_35 : decode b_Mo_stop 35 = .ok (.invokestatic 90, 3) := by decide +kernel
theorem d_Mo_stop_38 : decode b_Mo_stop 38 = .ok (.ifCond .ne 5, 3) := by decide +kernel
theorem d_Mo_stop_41 : decode b_Mo_stop 41 = .ok (.iconst (-1), 1) := by decide +kernel
theorem d_Mo_stop_42 : decode b_Mo_stop 42 = .ok (.ireturn, 1) := by decide +kernel
theorem d_Mo_stop_43 : decode b_Mo_stop 43 = .ok (.aload_n 0, 1) := by decide +kernel
theorem d_Mo_stop_44 : decode b_Mo_stop 44 = .ok (.getfield 7, 3) := by decide +kernel
theorem d_Mo_stop_47 : decode b_Mo_stop 47 = .ok (.aload_n 0, 1) := by decide +kernel
theorem d_Mo_stop_48 : decode b_Mo_stop 48 = .ok (.getfield 81, 3) := by decide +kernel
theorem d_Mo_stop_51 : decode b_Mo_stop 51 = .ok (.iload_n 2, 1) := by decide +kernel
theorem d_Mo_stop_52 : decode b_Mo_stop 52 = .ok (.iastore, 1) := by decide +kernel
theorem d_Mo_stop_53 : decode b_Mo_stop 53 = .ok (.aload_n 0, 1) := by decide +kernel
theorem d_Mo_stop_54 : decode b_Mo_stop 54 = .ok (.getfield 13, 3) := by decide +kernel
theorem d_Mo_stop_57 : decode b_Mo_stop 57 = .ok (.aload_n 0, 1) := by decide +kernel
theorem d_Mo_stop_58 : decode b_Mo_stop 58 = .ok (.getfield 81, 3) := by decide +kernel
theorem d_Mo_stop_61 : decode b_Mo_stop 61 = .ok (.iload_n 3, 1) := by decide +kernel
theorem d_Mo_stop_62 : decode b_Mo_stop 62 = .ok (.iastore, 1) := by decide +kernel
theorem d_Mo_stop_63 : decode b_Mo_stop 63 = .ok (.aload_n 0, 1) := by decide +kernel
theorem d_Mo_stop_64 : decode b_Mo_stop 64 = .ok (.getfield 16, 3) := by decide +kernel
theorem d_Mo_stop_67 : decode b_Mo_stop 67 = .ok (.aload_n 0, 1) := by decide +kernel
theorem d_Mo_stop_68 : decode b_Mo_stop 68 = .ok (.getfield 81, 3) := by decide +kernel
theorem d_Mo_stop_71 : decode b_Mo_stop 71 = .ok (.iload_n 1, 1) := by decide +kernel
theorem d_Mo_stop_72 : decode b_Mo_stop 72 = .ok (.iastore, 1) := by decide +kernel
theorem d_Mo_stop_73 : decode b_Mo_stop 73 = .ok (.aload_n 0, 1) := by decide +kernel
theorem d_Mo_stop_74 : decode b_Mo_stop 74 = .ok (.getfield 19, 3) := by decide +kernel
theorem d_Mo_stop_77 : decode b_Mo_stop 77 = .ok (.aload_n 0, 1) := by decide +kernel
theorem d_Mo_stop_78 : decode b_Mo_stop 78 = .ok (.getfield 81, 3) := by decide +kernel
theorem d_Mo_stop_81 : decode b_Mo_stop 81 = .ok (.aload_n 0, 1) := by decide +kernel
theorem d_Mo_stop_82 : decode b_Mo_stop 82 = .ok (.getfield 22, 3) := by decide +kernel
theorem d_Mo_stop_85 : decode b_Mo_stop 85 = .ok (.iload_n 1, 1) := by decide +kernel
theorem d_Mo_stop_86 : decode b_Mo_stop 86 = .ok (.iaload, 1) := by decide +kernel
theorem d_Mo_stop_87 : decode b_Mo_stop 87 = .ok (.iastore, 1) := by decide +kernel
theorem d_Mo_stop_88 : decode b_Mo_stop 88 = .ok (.aload_n 0, 1) := by decide +kernel
theorem d_Mo_stop_89 : decode b_Mo_stop 89 = .ok (.getfield 22, 3) := by decide +kernel
theorem d_Mo_stop_92 : decode b_Mo_stop 92 = .ok (.iload_n 1, 1) := by decide +kernel
theorem d_Mo_stop_93 : decode b_Mo_stop 93 = .ok (.dup2, 1) := by decide +kernel
theorem d_Mo_stop_94 : decode b_Mo_stop 94 = .ok (.iaload, 1) := by decide +kernel
theorem d_Mo_stop_95 : decode b_Mo_stop 95 = .ok (.iconst 1, 1) := by decide +kernel
theorem d_Mo_stop_96 : decode b_Mo_stop 96 = .ok (.iadd, 1) := by decide +kernel
theorem d_Mo_stop_97 : decode b_Mo_stop 97 = .ok (.iastore, 1) := by decide +kernel
theorem d_Mo_stop_98 : decode b_Mo_stop 98 = .ok (.aload_n 0, 1) := by decide +kernel
theorem d_Mo_stop_99 : decode b_Mo_stop 99 = .ok (.getfield 41, 3) := by decide +kernel
theorem d_Mo_stop_102 : decode b_Mo_stop 102 = .ok (.aload_n 0, 1) := by decide +kernel
theorem d_Mo_stop_103 : decode b_Mo_stop 103 = .ok (.getfield 81, 3) := by decide +kernel
theorem d_Mo_stop_106 : decode b_Mo_stop 106 = .ok (.iload_n 1, 1) := by decide +kernel
theorem d_Mo_stop_107 : decode b_Mo_stop 107 = .ok (.iastore, 1) := by decide +kernel
theorem d_Mo_stop_108 : decode b_Mo_stop 108 = .ok (.aload_n 0, 1) := by decide +kernel
theorem d_Mo_stop_109 : decode b_Mo_stop 109 = .ok (.getfield 62, 3) := by decide +kernel
theorem d_Mo_stop_112 : decode b_Mo_stop 112 = .ok (.aload_n 0, 1) := by decide +kernel
theorem d_Mo_stop_113 : decode b_Mo_stop 113 = .ok (.getfield 81, 3) := by decide +kernel
theorem d_Mo_stop_116 : decode b_Mo_stop 116 = .ok (.iload_n 1, 1) := by decide +kernel
theorem d_Mo_stop_117 : decode b_Mo_stop 117 = .ok (.iastore, 1) := by decide +kernel
theorem d_Mo_stop_118 : decode b_Mo_stop 118 = .ok (.aload_n 0, 1) := by decide +kernel
theorem d_Mo_stop_119 : decode b_Mo_stop 119 = .ok (.dup, 1) := by decide +kernel
theorem d_Mo_stop_120 : decode b_Mo_stop 120 = .ok (.getfield 81, 3) := by decide +kernel
theorem d_Mo_stop_123 : decode b_Mo_stop 123 = .ok (.iconst 1, 1) := by decide +kernel
theorem d_Mo_stop_124 : decode b_Mo_stop 124 = .ok (.iadd, 1) := by decide +kernel
theorem d_Mo_stop_125 : decode b_Mo_stop 125 = .ok (.putfield 81, 3) := by decide +kernel
theorem d_Mo_stop_128 : decode b_Mo_stop 128 = .ok (.aload_n 0, 1) := by decide +kernel
theorem d_Mo_stop_129 : decode b_Mo_stop 129 = .ok (.getfield 81, 3) := by decide +kernel
theorem d_Mo_stop_132 : decode b_Mo_stop 132 = .ok (.iconst 1, 1) := by decide +kernel
theorem d_Mo_stop_133 : decode b_Mo_stop 133 = .ok (.isub, 1) := by decide +kernel
theorem d_Mo_stop_134 : decode b_Mo_stop 134 = .ok (.ireturn, 1) := by decide +kernel
theorem d_Mo_isVehicle_0 : decode b_Mo_isVehicle 0 = .ok (.iload_n 1, 1) := by decide +kernel
theorem d_Mo_isVehicle_1 : decode b_Mo_isVehicle 1 = .ok (.ifCond .lt 15, 3) := by decide +kernel
theorem d_Mo_isVehicle_4 : decode b_Mo_isVehicle 4 = .ok (.iload_n 1, 1) := by decide +kernel
theorem d_Mo_isVehicle_5 : decode b_Mo_isVehicle 5 = .ok (.aload_n 0, 1) := by decide +kernel
theorem d_Mo_isVehicle_6 : decode b_Mo_isVehicle 6 = .ok (.getfield 77, 3) := by decide +kernel
theorem d_Mo_isVehicle_9 : decode b_Mo_isVehicle 9 = .ok (.if_icmp .ge 7, 3) := by decide +kernel
theorem d_Mo_isVehicle_12 : decode b_Mo_isVehicle 12 = .ok (.iconst 1, 1) := by decide +kernel
theorem d_Mo_isVehicle_13 : decode b_Mo_isVehicle 13 = .ok (.goto 4, 3) := by decide +kernel
theorem d_Mo_isVehicle_16 : decode b_Mo_isVehicle 16 = .ok (.iconst 0, 1) := by decide +kernel
theorem d_Mo_isVehicle_17 : decode b_Mo_isVehicle 17 = .ok (.ireturn, 1) := by decide +kernel
theorem d_Mo_isIn_0 : decode b_Mo_isIn 0 = .ok (.lload_n 0, 1) := by decide +kernel
theorem d_Mo_isIn_1 : decode b_Mo_isIn 1 = .ok (.lload_n 2, 1) := by decide +kernel
theorem d_Mo_isIn_2 : decode b_Mo_isIn 2 = .ok (.lcmp, 1) := by decide +kernel
theorem d_Mo_isIn_3 : decode b_Mo_isIn 3 = .ok (.ifCond .lt 14, 3) := by decide +kernel
theorem d_Mo_isIn_6 : decode b_Mo_isIn 6 = .ok (.lload_n 0, 1) := by decide +kernel
theorem d_Mo_isIn_7 : decode b_Mo_isIn 7 = .ok (.lload 4, 2) := by decide +kernel
theorem d_Mo_isIn_9 : decode b_Mo_isIn 9 = .ok (.lcmp, 1) := by decide +kernel
theorem d_Mo_isIn_10 : decode b_Mo_isIn 10 = .ok (.ifCond .gt 7, 3) := by decide +kernel
theorem d_Mo_isIn_13 : decode b_Mo_isIn 13 = .ok (.iconst 1, 1) := by decide +kernel
theorem d_Mo_isIn_14 : decode b_Mo_isIn 14 = .ok (.goto 4, 3) := by decide +kernel
theorem d_Mo_isIn_17 : decode b_Mo_isIn 17 = .ok (.iconst 0, 1) := by decide +kernel
theorem d_Mo_isIn_18 : decode b_Mo_isIn 18 = .ok (.ireturn, 1) := by decide +kernel
theorem d_Mo_freeze_0 : decode b_Mo_freeze 0 = .ok (.aload_n 0, 1) := by decide +kernel
theorem d_Mo_freeze_1 : decode b_Mo_freeze 1 = .ok (.iload_n 1, 1) := by decide +kernel
theorem d_Mo_freeze_2 : decode b_Mo_freeze 2 = .ok (.invokevirtual 96, 3) := by decide +kernel
theorem d_Mo_freeze_5 : decode b_Mo_freeze 5 = .ok (.ifCond .ne 5, 3) := by decide +kernel
theorem d_Mo_freeze_8 : decode b_Mo_freeze 8 = .ok (.iconst 0, 1) := by decide +kernel
theorem d_Mo_freeze_9 : decode b_Mo_freeze 9 = .ok (.ireturn, 1) := by decide +kernel
theorem d_Mo_freeze_10 : decode b_Mo_freeze 10 = .ok (.aload_n 0, 1) := by decide +kernel
theorem d_Mo_freeze_11 : decode b_Mo_freeze 11 = .ok (.getfield 25, 3) := by decide +kernel
theorem d_Mo_freeze_14 : decode b_Mo_freeze 14 = .ok (.iload_n 1, 1) := by decide +kernel
theorem d_Mo_freeze_15 : decode b_Mo_freeze 15 = .ok (.iload_n 2, 1) := by decide +kernel
theorem d_Mo_freeze_16 : decode b_Mo_freeze 16 = .ok (.bastore, 1) := by decide +kernel
theorem d_Mo_freeze_17 : decode b_Mo_freeze 17 = .ok (.iconst 1, 1) := by decide +kernel
theorem d_Mo_freeze_18 : decode b_Mo_freeze 18 = .ok (.ireturn, 1) := by decide +kernel
theorem d_Mo_isStop_0 : decode b_Mo_isStop 0 = .ok (.iload_n 1, 1) := by decide +kernel
theorem d_Mo_isStop_1 : decode b_Mo_isStop 1 = .ok (.ifCond .lt 15, 3) := by decide +kernel
theorem d_Mo_isStop_4 : decode b_Mo_isStop 4 = .ok (.iload_n 1, 1) := by decide +kernel
theorem d_Mo_isStop_5 : decode b_Mo_isStop 5 = .ok (.aload_n 0, 1) := by decide +kernel
theorem d_Mo_isStop_6 : decode b_Mo_isStop 6 = .ok (.getfield 81, 3) := by decide +kernel
theorem d_Mo_isStop_9 : decode b_Mo_isStop 9 = .ok (.if_icmp .ge 7, 3) := by decide +kernel
theorem d_Mo_isStop_12 : decode b_Mo_isStop 12 = .ok (.iconst 1, 1) := by decide +kernel
theorem d_Mo_isStop_13 : decode b_Mo_isStop 13 = .ok (.goto 4, 3) := by decide +kernel
theorem d_Mo_isStop_16 : decode b_Mo_isStop 16 = .ok (.iconst 0, 1) := by decide +kernel
theorem d_Mo_isStop_17 : decode b_Mo_isStop 17 = .ok (.ireturn, 1) := by decide +kernel
theorem d_Mo_block_0 : decode b_Mo_block 0 = .ok (.aload_n 0, 1) := by decide +kernel
theorem d_Mo_block_1 : decode b_Mo_block 1 = .ok (.iload_n 1, 1) := by decide +kernel
theorem d_Mo_block_2 : decode b_Mo_block 2 = .ok (.invokevirtual 96, 3) := by decide +kernel
theorem d_Mo_block_5 : decode b_Mo_block 5 = .ok (.ifCond .ne 5, 3) := by decide +kernel
theorem d_Mo_block_8 : decode b_Mo_block 8 = .ok (.iconst 0, 1) := by decide +kernel
theorem d_Mo_block_9 : decode b_Mo_block 9 = .ok (.ireturn, 1) := by decide +kernel
theorem d_Mo_block_10 : decode b_Mo_block 10 = .ok (.aload_n 0, 1) := by decide +kernel
theorem d_Mo_block_11 : decode b_Mo_block 11 = .ok (.getfield 29, 3) := by decide +kernel
theorem d_Mo_block_14 : decode b_Mo_block 14 = .ok (.iload_n 1, 1) := by decide +kernel
theorem d_Mo_block_15 : decode b_Mo_block 15 = .ok (.iload_n 2, 1) := by decide +kernel
theorem d_Mo_block_16 : decode b_Mo_block 16 = .ok (.bastore, 1) := by decide +kernel
theorem d_Mo_block_17 : decode b_Mo_block 17 = .ok (.iconst 1, 1) := by decide +kernel
theorem d_Mo_block_18 : decode b_Mo_block 18 = .ok (.ireturn, 1) := by decide +kernel
theorem d_Mo_out_0 : decode b_Mo_out 0 = .ok (.aload_n 0, 1) := by decide +kernel
theorem d_Mo_out_1 : decode b_Mo_out 1 = .ok (.iload_n 1, 1) := by decide +kernel
theorem d_Mo_out_2 : decode b_Mo_out 2 = .ok (.invokevirtual 84, 3) := by decide +kernel
theorem d_Mo_out_5 : decode b_Mo_out 5 = .ok (.ifCond .eq 15, 3) := by decide +kernel
theorem d_Mo_out_8 : decode b_Mo_out 8 = .ok (.iload_n 2, 1) := by decide +kernel
theorem d_Mo_out_9 : decode b_Mo_out 9 = .ok (.i2l, 1) := by decide +kernel
theorem d_Mo_out_10 : decode b_Mo_out 10 = .ok (.lconst 0, 1) := by decide +kernel
theorem d_Mo_out_11 : decode b_Mo_out 11 = .ok (.ldc2_w 99, 3) := by decide +kernel
theorem d_Mo_out_14 : decode b_Mo_out 14 = .ok (.invokestatic 90, 3) := by decide +kernel
theorem d_Mo_out_17 : decode b_Mo_out 17 = .ok (.ifCond .ne 5, 3) := by decide +kernel
theorem d_Mo_out_20 : decode b_Mo_out 20 = .ok (.iconst 0, 1) := by decide +kernel
theorem d_Mo_out_21 : decode b_Mo_out 21 = .ok (.ireturn, 1) := by decide +kernel
theorem d_Mo_out_22 : decode b_Mo_out 22 = .ok (.aload_n 0, 1) := by decide +kernel
theorem d_Mo_out_23 : decode b_Mo_out 23 = .ok (.getfield 32, 3) := by decide +kernel
theorem d_Mo_out_26 : decode b_Mo_out 26 = .ok (.iload_n 1, 1) := by decide +kernel
theorem d_Mo_out_27 : decode b_Mo_out 27 = .ok (.iload_n 2, 1) := by decide +kernel
theorem d_Mo_out_28 : decode b_Mo_out 28 = .ok (.iastore, 1) := by decide +kernel
theorem d_Mo_out_29 : decode b_Mo_out 29 = .ok (.iconst 1, 1) := by decide +kernel
theorem d_Mo_out_30 : decode b_Mo_out 30 = .ok (.ireturn, 1) := by decide +kernel
theorem d_Mo_way_0 : decode b_Mo_way 0 = .ok (.iload_n 1, 1) := by decide +kernel
theorem d_Mo_way_1 : decode b_Mo_way 1 = .ok (.i2l, 1) := by decide +kernel
theorem d_Mo_way_2 : decode b_Mo_way 2 = .ok (.lconst 0, 1) := by decide +kernel
theorem d_Mo_way_3 : decode b_Mo_way 3 = .ok (.ldc2_w 88, 3) := by decide +kernel
theorem d_Mo_way_6 : decode b_Mo_way 6 = .ok (.invokestatic 90, 3) := by decide +kernel
theorem d_Mo_way_9 : decode b_Mo_way 9 = .ok (.ifCond .eq 32, 3) := by decide +kernel
theorem d_Mo_way_12 : decode b_Mo_way 12 = .ok (.iload_n 2, 1) := by decide +kernel
theorem d_Mo_way_13 : decode b_Mo_way 13 = .ok (.i2l, 1) := by decide +kernel
theorem d_Mo_way_14 : decode b_Mo_way 14 = .ok (.lconst 0, 1) := by decide +kernel
theorem d_Mo_way_15 : decode b_Mo_way 15 = .ok (.ldc2_w 88, 3) := by decide +kernel
theorem d_Mo_way_18 : decode b_Mo_way 18 = .ok (.invokestatic 90, 3) := by decide +kernel
theorem d_Mo_way_21 : decode b_Mo_way 21 = .ok (.ifCond .eq 20, 3) := by decide +kernel
theorem d_Mo_way_24 : decode b_Mo_way 24 = .ok (.iload_n 1, 1) := by decide +kernel
theorem d_Mo_way_25 : decode b_Mo_way 25 = .ok (.iload_n 2, 1) := by decide +kernel
theorem d_Mo_way_26 : decode b_Mo_way 26 = .ok (.if_icmp .eq 15, 3) := by decide +kernel
theorem d_Mo_way_29 : decode b_Mo_way 29 = .ok (.iload_n 3, 1) := by decide +kernel
theorem d_Mo_way_30 : decode b_Mo_way 30 = .ok (.i2l, 1) := by decide +kernel
theorem d_Mo_way_31 : decode b_Mo_way 31 = .ok (.lconst 0, 1) := by decide +kernel
theorem d_Mo_way_32 : decode b_Mo_way 32 = .ok (.ldc2_w 94, 3) := by decide +kernel
theorem d_Mo_way_35 : decode b_Mo_way 35 = .ok (.invokestatic 90, 3) := by decide +kernel
theorem d_Mo_way_38 : decode b_Mo_way 38 = .ok (.ifCond .ne 5, 3) := by decide +kernel
theorem d_Mo_way_41 : decode b_Mo_way 41 = .ok (.iconst 0, 1) := by decide +kernel
theorem d_Mo_way_42 : decode b_Mo_way 42 = .ok (.ireturn, 1) := by decide +kernel
theorem d_Mo_way_43 : decode b_Mo_way 43 = .ok (.aload_n 0, 1) := by decide +kernel
theorem d_Mo_way_44 : decode b_Mo_way 44 = .ok (.getfield 38, 3) := by decide +kernel
theorem d_Mo_way_47 : decode b_Mo_way 47 = .ok (.bipush 10, 2) := by decide +kernel
theorem d_Mo_way_49 : decode b_Mo_way 49 = .ok (.iload_n 1, 1) := by decide +kernel
theorem d_Mo_way_50 : decode b_Mo_way 50 = .ok (.imul, 1) := by decide +kernel
theorem d_Mo_way_51 : decode b_Mo_way 51 = .ok (.iload_n 2, 1) := by decide +kernel
theorem d_Mo_way_52 : decode b_Mo_way 52 = .ok (.iadd, 1) := by decide +kernel
theorem d_Mo_way_53 : decode b_Mo_way 53 = .ok (.iload_n 3, 1) := by decide +kernel
theorem d_Mo_way_54 : decode b_Mo_way 54 = .ok (.iastore, 1) := by decide +kernel
theorem d_Mo_way_55 : decode b_Mo_way 55 = .ok (.aload_n 0, 1) := by decide +kernel
theorem d_Mo_way_56 : decode b_Mo_way 56 = .ok (.getfield 38, 3) := by decide +kernel
theorem d_Mo_way_59 : decode b_Mo_way 59 = .ok (.bipush 10, 2) := by decide +kernel
theorem d_Mo_way_61 : decode b_Mo_way 61 = .ok (.iload_n 2, 1) := by decide +kernel
theorem d_Mo_way_62 : decode b_Mo_way 62 = .ok (.imul, 1) := by decide +kernel
theorem d_Mo_way_63 : decode b_Mo_way 63 = .ok (.iload_n 1, 1) := by decide +kernel
theorem d_Mo_way_64 : decode b_Mo_way 64 = .ok (.iadd, 1) := by decide +kernel
theorem d_Mo_way_65 : decode b_Mo_way 65 = .ok (.iload_n 3, 1) := by decide +kernel
theorem d_Mo_way_66 : decode b_Mo_way 66 = .ok (.iastore, 1) := by decide +kernel
theorem d_Mo_way_67 : decode b_Mo_way 67 = .ok (.iconst 1, 1) := by decide +kernel
theorem d_Mo_way_68 : decode b_Mo_way 68 = .ok (.ireturn, 1) := by decide +kernel
theorem d_Mo_hours_0 : decode b_Mo_hours 0 = .ok (.aload_n 0, 1) := by decide +kernel
theorem d_Mo_hours_1 : decode b_Mo_hours 1 = .ok (.iload_n 1, 1) := by decide +kernel
theorem d_Mo_hours_2 : decode b_Mo_hours 2 = .ok (.invokevirtual 84, 3) := by decide +kernel
theorem d_Mo_hours_5 : decode b_Mo_hours 5 = .ok (.ifCond .eq 15, 3) := by decide +kernel
theorem d_Mo_hours_8 : decode b_Mo_hours 8 = .ok (.iload_n 2, 1) := by decide +kernel
theorem d_Mo_hours_9 : decode b_Mo_hours 9 = .ok (.i2l, 1) := by decide +kernel
theorem d_Mo_hours_10 : decode b_Mo_hours 10 = .ok (.lconst 0, 1) := by decide +kernel
theorem d_Mo_hours_11 : decode b_Mo_hours 11 = .ok (.ldc2_w 101, 3) := by decide +kernel
theorem d_Mo_hours_14 : decode b_Mo_hours 14 = .ok (.invokestatic 90, 3) := by decide +kernel
theorem d_Mo_hours_17 : decode b_Mo_hours 17 = .ok (.ifCond .ne 5, 3) := by decide +kernel
theorem d_Mo_hours_20 : decode b_Mo_hours 20 = .ok (.iconst 0, 1) := by decide +kernel
theorem d_Mo_hours_21 : decode b_Mo_hours 21 = .ok (.ireturn, 1) := by decide +kernel
theorem d_Mo_hours_22 : decode b_Mo_hours 22 = .ok (.aload_n 0, 1) := by decide +kernel
theorem d_Mo_hours_23 : decode b_Mo_hours 23 = .ok (.getfield 35, 3) := by decide +kernel
theorem d_Mo_hours_26 : decode b_Mo_hours 26 = .ok (.iload_n 1, 1) := by decide +kernel
theorem d_Mo_hours_27 : decode b_Mo_hours 27 = .ok (.iload_n 2, 1) := by decide +kernel
theorem d_Mo_hours_28 : decode b_Mo_hours 28 = .ok (.iastore, 1) := by decide +kernel
theorem d_Mo_hours_29 : decode b_Mo_hours 29 = .ok (.iconst 1, 1) := by decide +kernel
theorem d_Mo_hours_30 : decode b_Mo_hours 30 = .ok (.ireturn, 1) := by decide +kernel
theorem d_Mo_extra_0 : decode b_Mo_extra 0 = .ok (.iload_n 1, 1) := by decide +kernel
theorem d_Mo_extra_1 : decode b_Mo_extra 1 = .ok (.i2l, 1) := by decide +kernel
theorem d_Mo_extra_2 : decode b_Mo_extra 2 = .ok (.lconst 0, 1) := by decide +kernel
theorem d_Mo_extra_3 : decode b_Mo_extra 3 = .ok (.ldc2_w 101, 3) := by decide +kernel
theorem d_Mo_extra_6 : decode b_Mo_extra 6 = .ok (.invokestatic 90, 3) := by decide +kernel
theorem d_Mo_extra_9 : decode b_Mo_extra 9 = .ok (.ifCond .ne 5, 3) := by decide +kernel
theorem d_Mo_extra_12 : decode b_Mo_extra 12 = .ok (.iconst 0, 1) := by decide +kernel
theorem d_Mo_extra_13 : decode b_Mo_extra 13 = .ok (.ireturn, 1) := by decide +kernel
theorem d_Mo_extra_14 : decode b_Mo_extra 14 = .ok (.aload_n 0, 1) := by decide +kernel
theorem d_Mo_extra_15 : decode b_Mo_extra 15 = .ok (.iload_n 1, 1) := by decide +kernel
theorem d_Mo_extra_16 : decode b_Mo_extra 16 = .ok (.putfield 103, 3) := by decide +kernel
theorem d_Mo_extra_19 : decode b_Mo_extra 19 = .ok (.iconst 1, 1) := by decide +kernel
theorem d_Mo_extra_20 : decode b_Mo_extra 20 = .ok (.ireturn, 1) := by decide +kernel
theorem d_Mo_cost_0 : decode b_Mo_cost 0 = .ok (.aload_n 0, 1) := by decide +kernel
theorem d_Mo_cost_1 : decode b_Mo_cost 1 = .ok (.aload_n 0, 1) := by decide +kernel
theorem d_Mo_cost_2 : decode b_Mo_cost 2 = .ok (.getfield 41, 3) := by decide +kernel
theorem d_Mo_cost_5 : decode b_Mo_cost 5 = .ok (.invokevirtual 120, 3) := by decide +kernel
theorem d_Mo_cost_8 : decode b_Mo_cost 8 = .ok (.lreturn, 1) := by decide +kernel
theorem d_Mo_costOf_0 : decode b_Mo_costOf 0 = .ok (.lconst 0, 1) := by decide +kernel
theorem d_Mo_costOf_1 : decode b_Mo_costOf 1 = .ok (.lstore_n 2, 1) := by decide +kernel
theorem d_Mo_costOf_2 : decode b_Mo_costOf 2 = .ok (.iconst 0, 1) := by decide +kernel
theorem d_Mo_costOf_3 : decode b_Mo_costOf 3 = .ok (.istore 4, 2) := by decide +kernel
theorem d_Mo_costOf_5 : decode b_Mo_costOf 5 = .ok (.iload 4, 2) := by decide +kernel
theorem d_Mo_costOf_7 : decode b_Mo_costOf 7 = .ok (.aload_n 0, 1) := by decide +kernel
theorem d_Mo_costOf_8 : decode b_Mo_costOf 8 = .ok (.getfield 77, 3) := by decide +kernel
theorem d_Mo_costOf_11 : decode b_Mo_costOf 11 = .ok (.if_icmp .ge 28, 3) := by decide +kernel
theorem d_Mo_costOf_14 : decode b_Mo_costOf 14 = .ok (.lload_n 2, 1) := by decide +kernel
theorem d_Mo_costOf_15 : decode b_Mo_costOf 15 = .ok (.aload_n 0, 1) := by decide +kernel
theorem d_Mo_costOf_16 : decode b_Mo_costOf 16 = .ok (.aload_n 1, 1) := by decide +kernel
theorem d_Mo_costOf_17 : decode b_Mo_costOf 17 = .ok (.iload 4, 2) := by decide +kernel
theorem d_Mo_costOf_19 : decode b_Mo_costOf 19 = .ok (.invokevirtual 113, 3) := by decide +kernel
theorem d_Mo_costOf_22 : decode b_Mo_costOf 22 = .ok (.aload_n 0, 1) := by decide +kernel
theorem d_Mo_costOf_23 : decode b_Mo_costOf 23 = .ok (.aload_n 1, 1) := by decide +kernel
theorem d_Mo_costOf_24 : decode b_Mo_costOf 24 = .ok (.iload 4, 2) := by decide +kernel
theorem d_Mo_costOf_26 : decode b_Mo_costOf 26 = .ok (.invokevirtual 117, 3) := by decide +kernel
theorem d_Mo_costOf_29 : decode b_Mo_costOf 29 = .ok (.iadd, 1) := by decide +kernel
theorem d_Mo_costOf_30 : decode b_Mo_costOf 30 = .ok (.i2l, 1) := by decide +kernel
theorem d_Mo_costOf_31 : decode b_Mo_costOf 31 = .ok (.ladd, 1) := by decide +kernel
theorem d_Mo_costOf_32 : decode b_Mo_costOf 32 = .ok (.lstore_n 2, 1) := by decide +kernel
theorem d_Mo_costOf_33 : decode b_Mo_costOf 33 = .ok (.iinc 4 1, 3) := by decide +kernel
theorem d_Mo_costOf_36 : decode b_Mo_costOf 36 = .ok (.goto (-31), 3) := by decide +kernel
theorem d_Mo_costOf_39 : decode b_Mo_costOf 39 = .ok (.lload_n 2, 1) := by decide +kernel
theorem d_Mo_costOf_40 : decode b_Mo_costOf 40 = .ok (.lreturn, 1) := by decide +kernel
theorem d_Mo_timeOf_0 : decode b_Mo_timeOf 0 = .ok (.aload_n 0, 1) := by decide +kernel
theorem d_Mo_timeOf_1 : decode b_Mo_timeOf 1 = .ok (.aload_n 1, 1) := by decide +kernel
theorem d_Mo_timeOf_2 : decode b_Mo_timeOf 2 = .ok (.iload_n 2, 1) := by decide +kernel
theorem d_Mo_timeOf_3 : decode b_Mo_timeOf 3 = .ok (.invokevirtual 109, 3) := by decide +kernel
theorem d_Mo_timeOf_6 : decode b_Mo_timeOf 6 = .ok (.iconst 0, 1) := by decide +kernel
theorem d_Mo_timeOf_7 : decode b_Mo_timeOf 7 = .ok (.istore_n 3, 1) := by decide +kernel
theorem d_Mo_timeOf_8 : decode b_Mo_timeOf 8 = .ok (.iconst 0, 1) := by decide +kernel
theorem d_Mo_timeOf_9 : decode b_Mo_timeOf 9 = .ok (.istore 4, 2) := by decide +kernel
theorem d_Mo_timeOf_11 : decode b_Mo_timeOf 11 = .ok (.iconst 0, 1) := by decide +kernel
theorem d_Mo_timeOf_12 : decode b_Mo_timeOf 12 = .ok (.istore 5, 2) := by decide +kernel
theorem d_Mo_timeOf_14 : decode b_Mo_timeOf 14 = .ok (.iload 5, 2) := by decide +kernel
theorem d_Mo_timeOf_16 : decode b_Mo_timeOf 16 = .ok (.aload_n 0, 1) := by decide +kernel
theorem d_Mo_timeOf_17 : decode b_Mo_timeOf 17 = .ok (.getfield 106, 3) := by decide +kernel
theorem d_Mo_timeOf_20 : decode b_Mo_timeOf 20 = .ok (.if_icmp .ge 62, 3) := by decide +kernel
theorem d_Mo_timeOf_23 : decode b_Mo_timeOf 23 = .ok (.iload_n 3, 1) := by decide +kernel
theorem d_Mo_timeOf_24 : decode b_Mo_timeOf 24 = .ok (.aload_n 0, 1) := by decide +kernel
theorem d_Mo_timeOf_25 : decode b_Mo_timeOf 25 = .ok (.getfield 38, 3) := by decide +kernel
theorem d_Mo_timeOf_28 : decode b_Mo_timeOf 28 = .ok (.bipush 10, 2) := by decide +kernel
theorem d_Mo_timeOf_30 : decode b_Mo_timeOf 30 = .ok (.iload 4, 2) := by decide +kernel
theorem d_Mo_timeOf_32 : decode b_Mo_timeOf 32 = .ok (.imul, 1) := by decide +kernel
theorem d_Mo_timeOf_33 : decode b_Mo_timeOf 33 = .ok (.aload_n 0, 1) := by decide +kernel
theorem d_Mo_timeOf_34 : decode b_Mo_timeOf 34 = .ok (.getfield 7, 3) := by decide +kernel
theorem d_Mo_timeOf_37 : decode b_Mo_timeOf 37 = .ok (.aload_n 0, 1) := by decide +kernel
theorem d_Mo_timeOf_38 : decode b_Mo_timeOf 38 = .ok (.getfield 68, 3) := by decide +kernel
theorem d_Mo_timeOf_41 : decode b_Mo_timeOf 41 = .ok (.iload 5, 2) := by decide +kernel
theorem d_Mo_timeOf_43 : decode b_Mo_timeOf 43 = .ok (.iaload, 1) := by decide +kernel
theorem d_Mo_timeOf_44 : decode b_Mo_timeOf 44 = .ok (.iaload, 1) := by decide +kernel
theorem d_Mo_timeOf_45 : decode b_Mo_timeOf 45 = .ok (.iadd, 1) := by decide +kernel
theorem d_Mo_timeOf_46 : decode b_Mo_timeOf 46 = .ok (.iaload, 1) := by decide +kernel
theorem d_Mo_timeOf_47 : decode b_Mo_timeOf 47 = .ok (.aload_n 0, 1) := by decide +kernel
theorem d_Mo_timeOf_48 : decode b_Mo_timeOf 48 = .ok (.getfield 13, 3) := by decide +kernel
theorem d_Mo_timeOf_51 : decode b_Mo_timeOf 51 = .ok (.aload_n 0, 1) := by decide +kernel
theorem d_Mo_timeOf_52 : decode b_Mo_timeOf 52 = .ok (.getfield 68, 3) := by decide +kernel
theorem d_Mo_timeOf_55 : decode b_Mo_timeOf 55 = .ok (.iload 5, 2) := by decide +kernel
theorem d_Mo_timeOf_57 : decode b_Mo_timeOf 57 = .ok (.iaload, 1) := by decide +kernel
theorem d_Mo_timeOf_58 : decode b_Mo_timeOf 58 = .ok (.iaload, 1) := by decide +kernel
theorem d_Mo_timeOf_59 : decode b_Mo_timeOf 59 = .ok (.iadd, 1) := by decide +kernel
theorem d_Mo_timeOf_60 : decode b_Mo_timeOf 60 = .ok (.iadd, 1) := by decide +kernel
theorem d_Mo_timeOf_61 : decode b_Mo_timeOf 61 = .ok (.istore_n 3, 1) := by decide +kernel
theorem d_Mo_timeOf_62 : decode b_Mo_timeOf 62 = .ok (.aload_n 0, 1) := by decide +kernel
theorem d_Mo_timeOf_63 : decode b_Mo_timeOf 63 = .ok (.getfield 7, 3) := by decide +kernel
theorem d_Mo_timeOf_66 : decode b_Mo_timeOf 66 = .ok (.aload_n 0, 1) := by decide +kernel
theorem d_Mo_timeOf_67 : decode b_Mo_timeOf 67 = .ok (.getfield 68, 3) := by decide +kernel
theorem d_Mo_timeOf_70 : decode b_Mo_timeOf 70 = .ok (.iload 5, 2) := by decide +kernel
theorem d_Mo_timeOf_72 : decode b_Mo_timeOf 72 = .ok (.iaload, 1) := by decide +kernel
