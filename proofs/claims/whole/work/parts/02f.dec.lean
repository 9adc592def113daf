theorem d_Mod_script3_0 : decode b_Mod_script3 0 = .ok (.iconst 0, 1) := by decide +kernel
theorem d_Mod_script3_1 : decode b_Mod_script3 1 = .ok (.istore 4, 2) := by decide +kernel
theorem d_Mod_script3_3 : decode b_Mod_script3 3 = .ok (.iconst 0, 1) := by decide +kernel
theorem d_Mod_script3_4 : decode b_Mod_script3 4 = .ok (.istore 5, 2) := by decide +kernel
theorem d_Mod_script3_6 : decode b_Mod_script3 6 = .ok (.iload_n 1, 1) := by decide +kernel
theorem d_Mod_script3_7 : decode b_Mod_script3 7 = .ok (.istore 6, 2) := by decide +kernel
theorem d_Mod_script3_9 : decode b_Mod_script3 9 = .ok (.iload 6, 2) := by decide +kernel
theorem d_Mod_script3_11 : decode b_Mod_script3 11 = .ok (.iload_n 1, 1) := by decide +kernel
theorem d_Mod_script3_12 : decode b_Mod_script3 12 = .ok (.iload_n 2, 1) := by decide +kernel
theorem d_Mod_script3_13 : decode b_Mod_script3 13 = .ok (.iadd, 1) := by decide +kernel
theorem d_Mod_script3_14 : decode b_Mod_script3 14 = .ok (.if_icmp .ge 300, 3) := by decide +kernel
theorem d_Mod_script3_17 : decode b_Mod_script3 17 = .ok (.aload_n 0, 1) := by decide +kernel
theorem d_Mod_script3_18 : decode b_Mod_script3 18 = .ok (.getfield 16, 3) := by decide +kernel
theorem d_Mod_script3_21 : decode b_Mod_script3 21 = .ok (.iload 6, 2) := by decide +kernel
theorem d_Mod_script3_23 : decode b_Mod_script3 23 = .ok (.baload, 1) := by decide +kernel
theorem d_Mod_script3_24 : decode b_Mod_script3 24 = .ok (.sipush 255, 3) := by decide +kernel
theorem d_Mod_script3_27 : decode b_Mod_script3 27 = .ok (.iand, 1) := by decide +kernel
theorem d_Mod_script3_28 : decode b_Mod_script3 28 = .ok (.istore 7, 2) := by decide +kernel
theorem d_Mod_script3_30 : decode b_Mod_script3 30 = .ok (.iinc 6 1, 3) := by decide +kernel
theorem d_Mod_script3_33 : decode b_Mod_script3 33 = .ok (.iload 7, 2) := by decide +kernel
theorem d_Mod_script3_35 : decode b_Mod_script3 35 = .ok (.bipush 75, 2) := by decide +kernel
theorem d_Mod_script3_37 : decode b_Mod_script3 37 = .ok (.if_icmp .gt 48, 3) := by decide +kernel
theorem d_Mod_script3_40 : decode b_Mod_script3 40 = .ok (.iload 6, 2) := by decide +kernel
theorem d_Mod_script3_42 : decode b_Mod_script3 42 = .ok (.iload 7, 2) := by decide +kernel
theorem d_Mod_script3_44 : decode b_Mod_script3 44 = .ok (.iadd, 1) := by decide +kernel
theorem d_Mod_script3_45 : decode b_Mod_script3 45 = .ok (.iload_n 1, 1) := by decide +kernel
theorem d_Mod_script3_46 : decode b_Mod_script3 46 = .ok (.iload_n 2, 1) := by decide +kernel
theorem d_Mod_script3_47 : decode b_Mod_script3 47 = .ok (.iadd, 1) := by decide +kernel
theorem d_Mod_script3_48 : decode b_Mod_script3 48 = .ok (.if_icmp .le 5, 3) := by decide +kernel
theorem d_Mod_script3_51 : decode b_Mod_script3 51 = .ok (.iconst 0, 1) := by decide +kernel
theorem d_Mod_script3_52 : decode b_Mod_script3 52 = .ok (.ireturn, 1) := by decide +kernel
theorem d_Mod_script3_53 : decode b_Mod_script3 53 = .ok (.iload 5, 2) := by decide +kernel
theorem d_Mod_script3_55 : decode b_Mod_script3 55 = .ok (.ifCond .ne 20, 3) := by decide +kernel
theorem d_Mod_script3_58 : decode b_Mod_script3 58 = .ok (.aload_n 0, 1) := by decide +kernel
theorem d_Mod_script3_59 : decode b_Mod_script3 59 = .ok (.aload_n 0, 1) := by decide +kernel
theorem d_Mod_script3_60 : decode b_Mod_script3 60 = .ok (.getfield 16, 3) := by decide +kernel
theorem d_Mod_script3_63 : decode b_Mod_script3 63 = .ok (.iload 6, 2) := by decide +kernel
theorem d_Mod_script3_65 : decode b_Mod_script3 65 = .ok (.iload 7, 2) := by decide +kernel
theorem d_Mod_script3_67 : decode b_Mod_script3 67 = .ok (.invokevirtual 70, 3) := by decide +kernel
theorem d_Mod_script3_70 : decode b_Mod_script3 70 = .ok (.ifCond .ne 5, 3) := by decide +kernel
theorem d_Mod_script3_73 : decode b_Mod_script3 73 = .ok (.iconst 0, 1) := by decide +kernel
theorem d_Mod_script3_74 : decode b_Mod_script3 74 = .ok (.ireturn, 1) := by decide +kernel
theorem d_Mod_script3_75 : decode b_Mod_script3 75 = .ok (.iload 6, 2) := by decide +kernel
theorem d_Mod_script3_77 : decode b_Mod_script3 77 = .ok (.iload 7, 2) := by decide +kernel
theorem d_Mod_script3_79 : decode b_Mod_script3 79 = .ok (.iadd, 1) := by decide +kernel
theorem d_Mod_script3_80 : decode b_Mod_script3 80 = .ok (.istore 6, 2) := by decide +kernel
theorem d_Mod_script3_82 : decode b_Mod_script3 82 = .ok (.goto 229, 3) := by decide +kernel
theorem d_Mod_script3_85 : decode b_Mod_script3 85 = .ok (.iload 7, 2) := by decide +kernel
theorem d_Mod_script3_87 : decode b_Mod_script3 87 = .ok (.bipush 97, 2) := by decide +kernel
theorem d_Mod_script3_89 : decode b_Mod_script3 89 = .ok (.if_icmp .eq 10, 3) := by decide +kernel
theorem d_Mod_script3_92 : decode b_Mod_script3 92 = .ok (.iload 7, 2) := by decide +kernel
theorem d_Mod_script3_94 : decode b_Mod_script3 94 = .ok (.bipush 98, 2) := by decide +kernel
theorem d_Mod_script3_96 : decode b_Mod_script3 96 = .ok (.if_icmp .ne 83, 3) := by decide +kernel
theorem d_Mod_script3_99 : decode b_Mod_script3 99 = .ok (.iconst 0, 1) := by decide +kernel
theorem d_Mod_script3_100 : decode b_Mod_script3 100 = .ok (.istore 8, 2) := by decide +kernel
theorem d_Mod_script3_102 : decode b_Mod_script3 102 = .ok (.iload 5, 2) := by decide +kernel
theorem d_Mod_script3_104 : decode b_Mod_script3 104 = .ok (.ifCond .ne 52, 3) := by decide +kernel
theorem d_Mod_script3_107 : decode b_Mod_script3 107 = .ok (.aload_n 0, 1) := by decide +kernel
theorem d_Mod_script3_108 : decode b_Mod_script3 108 = .ok (.getfield 66, 3) := by decide +kernel
theorem d_Mod_script3_111 : decode b_Mod_script3 111 = .ok (.ifCond .ne 5, 3) := by decide +kernel
theorem d_Mod_script3_114 : decode b_Mod_script3 114 = .ok (.iconst 0, 1) := by decide +kernel
theorem d_Mod_script3_115 : decode b_Mod_script3 115 = .ok (.ireturn, 1) := by decide +kernel
theorem d_Mod_script3_116 : decode b_Mod_script3 116 = .ok (.aload_n 0, 1) := by decide +kernel
theorem d_Mod_script3_117 : decode b_Mod_script3 117 = .ok (.dup, 1) := by decide +kernel
theorem d_Mod_script3_118 : decode b_Mod_script3 118 = .ok (.getfield 66, 3) := by decide +kernel
theorem d_Mod_script3_121 : decode b_Mod_script3 121 = .ok (.iconst 1, 1) := by decide +kernel
theorem d_Mod_script3_122 : decode b_Mod_script3 122 = .ok (.isub, 1) := by decide +kernel
theorem d_Mod_script3_123 : decode b_Mod_script3 123 = .ok (.putfield 66, 3) := by decide +kernel
theorem d_Mod_script3_126 : decode b_Mod_script3 126 = .ok (.aload_n 0, 1) := by decide +kernel
theorem d_Mod_script3_127 : decode b_Mod_script3 127 = .ok (.aload_n 0, 1) := by decide +kernel
theorem d_Mod_script3_128 : decode b_Mod_script3 128 = .ok (.getfield 66, 3) := by decide +kernel
theorem d_Mod_script3_131 : decode b_Mod_script3 131 = .ok (.invokevirtual 93, 3) := by decide +kernel
theorem d_Mod_script3_134 : decode b_Mod_script3 134 = .ok (.iload 7, 2) := by decide +kernel
theorem d_Mod_script3_136 : decode b_Mod_script3 136 = .ok (.bipush 97, 2) := by decide +kernel
theorem d_Mod_script3_138 : decode b_Mod_script3 138 = .ok (.if_icmp .ne 7, 3) := by decide +kernel
theorem d_Mod_script3_141 : decode b_Mod_script3 141 = .ok (.iconst 1, 1) := by decide +kernel
theorem d_Mod_script3_142 : decode b_Mod_script3 142 = .ok (.goto 4, 3) := by decide +kernel
theorem d_Mod_script3_145 : decode b_Mod_script3 145 = .ok (.iconst 0, 1) := by decide +kernel
theorem d_Mod_script3_146 : decode b_Mod_script3 146 = .ok (.if_icmp .ne 7, 3) := by decide +kernel
theorem d_Mod_script3_149 : decode b_Mod_script3 149 = .ok (.iconst 1, 1) := by decide +kernel
theorem d_Mod_script3_150 : decode b_Mod_script3 150 = .ok (.goto 4, 3) := by decide +kernel
theorem d_Mod_script3_153 : decode b_Mod_script3 153 = .ok (.iconst 0, 1) := by decide +kernel
theorem d_Mod_script3_154 : decode b_Mod_script3 154 = .ok (.istore 8, 2) := by decide +kernel
theorem d_Mod_script3_156 : decode b_Mod_script3 156 = .ok (.aload_n 0, 1) := by decide +kernel
theorem d_Mod_script3_157 : decode b_Mod_script3 157 = .ok (.getfield 47, 3) := by decide +kernel
theorem d_Mod_script3_160 : decode b_Mod_script3 160 = .ok (.iload 4, 2) := by decide +kernel
theorem d_Mod_script3_162 : decode b_Mod_script3 162 = .ok (.iload 8, 2) := by decide +kernel
theorem d_Mod_script3_164 : decode b_Mod_script3 164 = .ok (.bastore, 1) := by decide +kernel
theorem d_Mod_script3_165 : decode b_Mod_script3 165 = .ok (.iinc 4 1, 3) := by decide +kernel
theorem d_Mod_script3_168 : decode b_Mod_script3 168 = .ok (.iload 8, 2) := by decide +kernel
theorem d_Mod_script3_170 : decode b_Mod_script3 170 = .ok (.ifCond .ne 6, 3) := by decide +kernel
theorem d_Mod_script3_173 : decode b_Mod_script3 173 = .ok (.iinc 5 1, 3) := by decide +kernel
theorem d_Mod_script3_176 : decode b_Mod_script3 176 = .ok (.goto 135, 3) := by decide +kernel
theorem d_Mod_script3_179 : decode b_Mod_script3 179 = .ok (.iload 7, 2) := by decide +kernel
theorem d_Mod_script3_181 : decode b_Mod_script3 181 = .ok (.bipush 99, 2) := by decide +kernel
theorem d_Mod_script3_183 : decode b_Mod_script3 183 = .ok (.if_icmp .ne 61, 3) := by decide +kernel
theorem d_Mod_script3_186 : decode b_Mod_script3 186 = .ok (.iload 4, 2) := by decide +kernel
theorem d_Mod_script3_188 : decode b_Mod_script3 188 = .ok (.ifCond .ne 5, 3) := by decide +kernel
theorem d_Mod_script3_191 : decode b_Mod_script3 191 = .ok (.iconst 0, 1) := by decide +kernel
theorem d_Mod_script3_192 : decode b_Mod_script3 192 = .ok (.ireturn, 1) := by decide +kernel
theorem d_Mod_script3_193 : decode b_Mod_script3 193 = .ok (.iload 5, 2) := by decide +kernel
theorem d_Mod_script3_195 : decode b_Mod_script3 195 = .ok (.aload_n 0, 1) := by decide +kernel
theorem d_Mod_script3_196 : decode b_Mod_script3 196 = .ok (.getfield 47, 3) := by decide +kernel
theorem d_Mod_script3_199 : decode b_Mod_script3 199 = .ok (.iload 4, 2) := by decide +kernel
theorem d_Mod_script3_201 : decode b_Mod_script3 201 = .ok (.iconst 1, 1) := by decide +kernel
theorem d_Mod_script3_202 : decode b_Mod_script3 202 = .ok (.isub, 1) := by decide +kernel
theorem d_Mod_script3_203 : decode b_Mod_script3 203 = .ok (.baload, 1) := by decide +kernel
theorem d_Mod_script3_204 : decode b_Mod_script3 204 = .ok (.ifCond .eq 7, 3) := by decide +kernel
theorem d_Mod_script3_207 : decode b_Mod_script3 207 = .ok (.iconst 1, 1) := by decide +kernel
theorem d_Mod_script3_208 : decode b_Mod_script3 208 = .ok (.goto 4, 3) := by decide +kernel
theorem d_Mod_script3_211 : decode b_Mod_script3 211 = .ok (.iconst (-1), 1) := by decide +kernel
theorem d_Mod_script3_212 : decode b_Mod_script3 212 = .ok (.iadd, 1) := by decide +kernel
theorem d_Mod_script3_213 : decode b_Mod_script3 213 = .ok (.istore 5, 2) := by decide +kernel
theorem d_Mod_script3_215 : decode b_Mod_script3 215 = .ok (.aload_n 0, 1) := by decide +kernel
theorem d_Mod_script3_216 : decode b_Mod_script3 216 = .ok (.getfield 47, 3) := by decide +kernel
theorem d_Mod_script3_219 : decode b_Mod_script3 219 = .ok (.iload 4, 2) := by decide +kernel
theorem d_Mod_script3_221 : decode b_Mod_script3 221 = .ok (.iconst 1, 1) := by decide +kernel
theorem d_Mod_script3_222 : decode b_Mod_script3 222 = .ok (.isub, 1) := by decide +kernel
theorem d_Mod_script3_223 : decode b_Mod_script3 223 = .ok (.aload_n 0, 1) := by decide +kernel
theorem d_Mod_script3_224 : decode b_Mod_script3 224 = .ok (.getfield 47, 3) := by decide +kernel
theorem d_Mod_script3_227 : decode b_Mod_script3 227 = .ok (.iload 4, 2) := by decide +kernel
theorem d_Mod_script3_229 : decode b_Mod_script3 229 = .ok (.iconst 1, 1) := by decide +kernel
theorem d_Mod_script3_230 : decode b_Mod_script3 230 = .ok (.isub, 1) := by decide +kernel
theorem d_Mod_script3_231 : decode b_Mod_script3 231 = .ok (.baload, 1) := by decide +kernel
theorem d_Mod_script3_232 : decode b_Mod_script3 232 = .ok (.ifCond .ne 7, 3) := by decide +kernel
theorem d_Mod_script3_235 : decode b_Mod_script3 235 = .ok (.iconst 1, 1) := by decide +kernel
theorem d_Mod_script3_236 : decode b_Mod_script3 236 = .ok (.goto 4, 3) := by decide +kernel
theorem d_Mod_script3_239 : decode b_Mod_script3 239 = .ok (.iconst 0, 1) := by decide +kernel
theorem d_Mod_script3_240 : decode b_Mod_script3 240 = .ok (.bastore, 1) := by decide +kernel
theorem d_Mod_script3_241 : decode b_Mod_script3 241 = .ok (.goto 70, 3) := by decide +kernel
theorem d_Mod_script3_244 : decode b_Mod_script3 244 = .ok (.iload 7, 2) := by decide +kernel
theorem d_Mod_script3_246 : decode b_Mod_script3 246 = .ok (.bipush 100, 2) := by decide +kernel
theorem d_Mod_script3_248 : decode b_Mod_script3 248 = .ok (.if_icmp .ne 29, 3) := by decide +kernel
theorem d_Mod_script3_251 : decode b_Mod_script3 251 = .ok (.iload 4, 2) := by decide +kernel
theorem d_Mod_script3_253 : decode b_Mod_script3 253 = .ok (.ifCond .ne 5, 3) := by decide +kernel
theorem d_Mod_script3_256 : decode b_Mod_script3 256 = .ok (.iconst 0, 1) := by decide +kernel
theorem d_Mod_script3_257 : decode b_Mod_script3 257 = .ok (.ireturn, 1) := by decide +kernel
theorem d_Mod_script3_258 : decode b_Mod_script3 258 = .ok (.iinc 4 (-1), 3) := by decide +kernel
theorem d_Mod_script3_261 : decode b_Mod_script3 261 = .ok (.aload_n 0, 1) := by decide +kernel
theorem d_Mod_script3_262 : decode b_Mod_script3 262 = .ok (.getfield 47, 3) := by decide +kernel
theorem d_Mod_script3_265 : decode b_Mod_script3 265 = .ok (.iload 4, 2) := by decide +kernel
theorem d_Mod_script3_267 : decode b_Mod_script3 267 = .ok (.baload, 1) := by decide +kernel
theorem d_Mod_script3_268 : decode b_Mod_script3 268 = .ok (.ifCond .ne 43, 3) := by decide +kernel
theorem d_Mod_script3_271 : decode b_Mod_script3 271 = .ok (.iinc 5 (-1), 3) := by decide +kernel
theorem d_Mod_script3_274 : decode b_Mod_script3 274 = .ok (.goto 37, 3) := by decide +kernel
theorem d_Mod_script3_277 : decode b_Mod_script3 277 = .ok (.iload 5, 2) := by decide +kernel
theorem d_Mod_script3_279 : decode b_Mod_script3 279 = .ok (.ifCond .ne 32, 3) := by decide +kernel
theorem d_Mod_script3_282 : decode b_Mod_script3 282 = .ok (.iload 7, 2) := by decide +kernel
theorem d_Mod_script3_284 : decode b_Mod_script3 284 = .ok (.bipush 103, 2) := by decide +kernel
theorem d_Mod_script3_286 : decode b_Mod_script3 286 = .ok (.if_icmp .ne 13, 3) := by decide +kernel
theorem d_Mod_script3_289 : decode b_Mod_script3 289 = .ok (.aload_n 0, 1) := by decide +kernel
theorem d_Mod_script3_290 : decode b_Mod_script3 290 = .ok (.invokevirtual 96, 3) := by decide +kernel
theorem d_Mod_script3_293 : decode b_Mod_script3 293 = .ok (.ifCond .eq 16, 3) := by decide +kernel
theorem d_Mod_script3_296 : decode b_Mod_script3 296 = .ok (.goto 15, 3) := by decide +kernel
theorem d_Mod_script3_299 : decode b_Mod_script3 299 = .ok (.aload_n 0, 1) := by decide +kernel
theorem d_Mod_script3_300 : decode b_Mod_script3 300 = .ok (.iload 7, 2) := by decide +kernel
theorem d_Mod_script3_302 : decode b_Mod_script3 302 = .ok (.iload_n 3, 1) := by decide +kernel
theorem d_Mod_script3_303 : decode b_Mod_script3 303 = .ok (.invokevirtual 100, 3) := by decide +kernel
theorem d_Mod_script3_306 : decode b_Mod_script3 306 = .ok (.ifCond .ne 5, 3) := by decide +kernel
theorem d_Mod_script3_309 : decode b_Mod_script3 309 = .ok (.iconst 0, 1) := by decide +kernel
theorem d_Mod_script3_310 : decode b_Mod_script3 310 = .ok (.ireturn, 1) := by decide +kernel
theorem d_Mod_script3_311 : decode b_Mod_script3 311 = .ok (.goto (-302), 3) := by decide +kernel
theorem d_Mod_script3_314 : decode b_Mod_script3 314 = .ok (.iload 4, 2) := by decide +kernel
theorem d_Mod_script3_316 : decode b_Mod_script3 316 = .ok (.ifCond .ne 7, 3) := by decide +kernel
theorem d_Mod_script3_319 : decode b_Mod_script3 319 = .ok (.iconst 1, 1) := by decide +kernel
theorem d_Mod_script3_320 : decode b_Mod_script3 320 = .ok (.goto 4, 3) := by decide +kernel
theorem d_Mod_script3_323 : decode b_Mod_script3 323 = .ok (.iconst 0, 1) := by decide +kernel
theorem d_Mod_script3_324 : decode b_Mod_script3 324 = .ok (.ireturn, 1) := by decide +kernel
theorem d_Mod_put_0 : decode b_Mod_put 0 = .ok (.bipush 24, 2) := by decide +kernel
theorem d_Mod_put_2 : decode b_Mod_put 2 = .ok (.istore_n 2, 1) := by decide +kernel
theorem d_Mod_put_3 : decode b_Mod_put 3 = .ok (.iload_n 2, 1) := by decide +kernel
theorem d_Mod_put_4 : decode b_Mod_put 4 = .ok (.ifCond .lt 32, 3) := by decide +kernel
theorem d_Mod_put_7 : decode b_Mod_put 7 = .ok (.aload_n 0, 1) := by decide +kernel
theorem d_Mod_put_8 : decode b_Mod_put 8 = .ok (.getfield 7, 3) := by decide +kernel
theorem d_Mod_put_11 : decode b_Mod_put 11 = .ok (.aload_n 0, 1) := by decide +kernel
theorem d_Mod_put_12 : decode b_Mod_put 12 = .ok (.getfield 103, 3) := by decide +kernel
theorem d_Mod_put_15 : decode b_Mod_put 15 = .ok (.iload_n 1, 1) := by decide +kernel
theorem d_Mod_put_16 : decode b_Mod_put 16 = .ok (.iload_n 2, 1) := by decide +kernel
theorem d_Mod_put_17 : decode b_Mod_put 17 = .ok (.ishr, 1) := by decide +kernel
theorem d_Mod_put_18 : decode b_Mod_put 18 = .ok (.i2b, 1) := by decide +kernel
theorem d_Mod_put_19 : decode b_Mod_put 19 = .ok (.bastore, 1) := by decide +kernel
theorem d_Mod_put_20 : decode b_Mod_put 20 = .ok (.aload_n 0, 1) := by decide +kernel
theorem d_Mod_put_21 : decode b_Mod_put 21 = .ok (.dup, 1) := by decide +kernel
theorem d_Mod_put_22 : decode b_Mod_put 22 = .ok (.getfield 103, 3) := by decide +kernel
theorem d_Mod_put_25 : decode b_Mod_put 25 = .ok (.iconst 1, 1) := by decide +kernel
theorem d_Mod_put_26 : decode b_Mod_put 26 = .ok (.iadd, 1) := by decide +kernel
theorem d_Mod_put_27 : decode b_Mod_put 27 = .ok (.putfield 103, 3) := by decide +kernel
theorem d_Mod_put_30 : decode b_Mod_put 30 = .ok (.iinc 2 (-8), 3) := by decide +kernel
theorem d_Mod_put_33 : decode b_Mod_put 33 = .ok (.goto (-30), 3) := by decide +kernel
theorem d_Mod_put_36 : decode b_Mod_put 36 = .ok (.return_, 1) := by decide +kernel
theorem d_Mod_feed_0 : decode b_Mod_feed 0 = .ok (.aload_n 0, 1) := by decide +kernel
theorem d_Mod_feed_1 : decode b_Mod_feed 1 = .ok (.getfield 103, 3) := by decide +kernel
theorem d_Mod_feed_4 : decode b_Mod_feed 4 = .ok (.bipush 20, 2) := by decide +kernel
theorem d_Mod_feed_6 : decode b_Mod_feed 6 = .ok (.iadd, 1) := by decide +kernel
theorem d_Mod_feed_7 : decode b_Mod_feed 7 = .ok (.sipush 400, 3) := by decide +kernel
theorem d_Mod_feed_10 : decode b_Mod_feed 10 = .ok (.if_icmp .le 6, 3) := by decide +kernel
theorem d_Mod_feed_13 : decode b_Mod_feed 13 = .ok (.bipush (-3), 2) := by decide +kernel
theorem d_Mod_feed_15 : decode b_Mod_feed 15 = .ok (.ireturn, 1) := by decide +kernel
theorem d_Mod_feed_16 : decode b_Mod_feed 16 = .ok (.aload_n 0, 1) := by decide +kernel
theorem d_Mod_feed_17 : decode b_Mod_feed 17 = .ok (.iload_n 1, 1) := by decide +kernel
theorem d_Mod_feed_18 : decode b_Mod_feed 18 = .ok (.invokevirtual 106, 3) := by decide +kernel
theorem d_Mod_feed_21 : decode b_Mod_feed 21 = .ok (.aload_n 0, 1) := by decide +kernel
theorem d_Mod_feed_22 : decode b_Mod_feed 22 = .ok (.iload_n 2, 1) := by decide +kernel
theorem d_Mod_feed_23 : decode b_Mod_feed 23 = .ok (.invokevirtual 106, 3) := by decide +kernel
theorem d_Mod_feed_26 : decode b_Mod_feed 26 = .ok (.aload_n 0, 1) := by decide +kernel
theorem d_Mod_feed_27 : decode b_Mod_feed 27 = .ok (.iload_n 3, 1) := by decide +kernel
theorem d_Mod_feed_28 : decode b_Mod_feed 28 = .ok (.invokevirtual 106, 3) := by decide +kernel
theorem d_Mod_feed_31 : decode b_Mod_feed 31 = .ok (.aload_n 0, 1) := by decide +kernel
theorem d_Mod_feed_32 : decode b_Mod_feed 32 = .ok (.iload 4, 2) := by decide +kernel
theorem d_Mod_feed_34 : decode b_Mod_feed 34 = .ok (.invokevirtual 106, 3) := by decide +kernel
theorem d_Mod_feed_37 : decode b_Mod_feed 37 = .ok (.aload_n 0, 1) := by decide +kernel
theorem d_Mod_feed_38 : decode b_Mod_feed 38 = .ok (.iload 5, 2) := by decide +kernel
theorem d_Mod_feed_40 : decode b_Mod_feed 40 = .ok (.invokevirtual 106, 3) := by decide +kernel
theorem d_Mod_feed_43 : decode b_Mod_feed 43 = .ok (.aload_n 0, 1) := by decide +kernel
theorem d_Mod_feed_44 : decode b_Mod_feed 44 = .ok (.getfield 103, 3) := by decide +kernel
theorem d_Mod_feed_47 : decode b_Mod_feed 47 = .ok (.ireturn, 1) := by decide +kernel
theorem d_Mod_end_0 : decode b_Mod_end 0 = .ok (.iload_n 1, 1) := by decide +kernel
theorem d_Mod_end_1 : decode b_Mod_end 1 = .ok (.ifCond .lt 11, 3) := by decide +kernel
theorem d_Mod_end_4 : decode b_Mod_end 4 = .ok (.iload_n 1, 1) := by decide +kernel
theorem d_Mod_end_5 : decode b_Mod_end 5 = .ok (.aload_n 0, 1) := by decide +kernel
theorem d_Mod_end_6 : decode b_Mod_end 6 = .ok (.getfield 103, 3) := by decide +kernel
theorem d_Mod_end_9 : decode b_Mod_end 9 = .ok (.if_icmp .le 5, 3) := by decide +kernel
theorem d_Mod_end_12 : decode b_Mod_end 12 = .ok (.iconst (-1), 1) := by decide +kernel
theorem d_Mod_end_13 : decode b_Mod_end 13 = .ok (.ireturn, 1) := by decide +kernel
theorem d_Mod_end_14 : decode b_Mod_end 14 = .ok (.aload_n 0, 1) := by decide +kernel
theorem d_Mod_end_15 : decode b_Mod_end 15 = .ok (.iload_n 1, 1) := by decide +kernel
theorem d_Mod_end_16 : decode b_Mod_end 16 = .ok (.putfield 103, 3) := by decide +kernel
theorem d_Mod_end_19 : decode b_Mod_end 19 = .ok (.iload_n 1, 1) := by decide +kernel
theorem d_Mod_end_20 : decode b_Mod_end 20 = .ok (.ireturn, 1) := by decide +kernel
theorem d_Mod_script1_0 : decode b_Mod_script1 0 = .ok (.iload_n 1, 1) := by decide +kernel
theorem d_Mod_script1_1 : decode b_Mod_script1 1 = .ok (.ifCond .lt 17, 3) := by decide +kernel
theorem d_Mod_script1_4 : decode b_Mod_script1 4 = .ok (.iload_n 1, 1) := by decide +kernel
theorem d_Mod_script1_5 : decode b_Mod_script1 5 = .ok (.iconst 1, 1) := by decide +kernel
theorem d_Mod_script1_6 : decode b_Mod_script1 6 = .ok (.if_icmp .gt 12, 3) := by decide +kernel
theorem d_Mod_script1_9 : decode b_Mod_script1 9 = .ok (.aload_n 0, 1) := by decide +kernel
theorem d_Mod_script1_10 : decode b_Mod_script1 10 = .ok (.getfield 103, 3) := by decide +kernel
theorem d_Mod_script1_13 : decode b_Mod_script1 13 = .ok (.bipush 80, 2) := by decide +kernel
theorem d_Mod_script1_15 : decode b_Mod_script1 15 = .ok (.if_icmp .le 5, 3) := by decide +kernel
theorem d_Mod_script1_18 : decode b_Mod_script1 18 = .ok (.iconst (-1), 1) := by decide +kernel
theorem d_Mod_script1_19 : decode b_Mod_script1 19 = .ok (.ireturn, 1) := by decide +kernel
theorem d_Mod_script1_20 : decode b_Mod_script1 20 = .ok (.iconst 0, 1) := by decide +kernel
theorem d_Mod_script1_21 : decode b_Mod_script1 21 = .ok (.istore_n 2, 1) := by decide +kernel
theorem d_Mod_script1_22 : decode b_Mod_script1 22 = .ok (.iload_n 2, 1) := by decide +kernel
theorem d_Mod_script1_23 : decode b_Mod_script1 23 = .ok (.aload_n 0, 1) := by decide +kernel
theorem d_Mod_script1_24 : decode b_Mod_script1 24 = .ok (.getfield 103, 3) := by decide +kernel
theorem d_Mod_script1_27 : decode b_Mod_script1 27 = .ok (.if_icmp .ge 26, 3) := by decide +kernel
theorem d_Mod_script1_30 : decode b_Mod_script1 30 = .ok (.aload_n 0, 1) := by decide +kernel
theorem d_Mod_script1_31 : decode b_Mod_script1 31 = .ok (.getfield 16, 3) := by decide +kernel
theorem d_Mod_script1_34 : decode b_Mod_script1 34 = .ok (.bipush 80, 2) := by decide +kernel
theorem d_Mod_script1_36 : decode b_Mod_script1 36 = .ok (.iload_n 1, 1) := by decide +kernel
theorem d_Mod_script1_37 : decode b_Mod_script1 37 = .ok (.imul, 1) := by decide +kernel
theorem d_Mod_script1_38 : decode b_Mod_script1 38 = .ok (.iload_n 2, 1) := by decide +kernel
theorem d_Mod_script1_39 : decode b_Mod_script1 39 = .ok (.iadd, 1) := by decide +kernel
theorem d_Mod_script1_40 : decode b_Mod_script1 40 = .ok (.aload_n 0, 1) := by decide +kernel
theorem d_Mod_script1_41 : decode b_Mod_script1 41 = .ok (.getfield 7, 3) := by decide +kernel
theorem d_Mod_script1_44 : decode b_Mod_script1 44 = .ok (.iload_n 2, 1) := by decide +kernel
theorem d_Mod_script1_45 : decode b_Mod_script1 45 = .ok (.baload, 1) := by decide +kernel
theorem d_Mod_script1_46 : decode b_Mod_script1 46 = .ok (.bastore, 1) := by decide +kernel
theorem d_Mod_script1_47 : decode b_Mod_script1 47 = .ok (.iinc 2 1, 3) := by decide +kernel
theorem d_Mod_script1_50 : decode b_Mod_script1 50 = .ok (.goto (-28), 3) := by decide +kernel
theorem d_Mod_script1_53 : decode b_Mod_script1 53 = .ok (.aload_n 0, 1) := by decide +kernel
theorem d_Mod_script1_54 : decode b_Mod_script1 54 = .ok (.getfield 19, 3) := by decide +kernel
theorem d_Mod_script1_57 : decode b_Mod_script1 57 = .ok (.iload_n 1, 1) := by decide +kernel
theorem d_Mod_script1_58 : decode b_Mod_script1 58 = .ok (.aload_n 0, 1) := by decide +kernel
theorem d_Mod_script1_59 : decode b_Mod_script1 59 = .ok (.getfield 103, 3) := by decide +kernel
theorem d_Mod_script1_62 : decode b_Mod_script1 62 = .ok (.iastore, 1) := by decide +kernel
theorem d_Mod_script1_63 : decode b_Mod_script1 63 = .ok (.aload_n 0, 1) := by decide +kernel
theorem d_Mod_script1_64 : decode b_Mod_script1 64 = .ok (.iconst 0, 1) := by decide +kernel
theorem d_Mod_script1_65 : decode b_Mod_script1 65 = .ok (.putfield 103, 3) := by decide +kernel
theorem d_Mod_script1_68 : decode b_Mod_script1 68 = .ok (.aload_n 0, 1) := by decide +kernel
theorem d_Mod_script1_69 : decode b_Mod_script1 69 = .ok (.getfield 19, 3) := by decide +kernel
theorem d_Mod_script1_72 : decode b_Mod_script1 72 = .ok (.iload_n 1, 1) := by decide +kernel
theorem d_Mod_script1_73 : decode b_Mod_script1 73 = .ok (.iaload, 1) := by decide +kernel
theorem d_Mod_script1_74 : decode b_Mod_script1 74 = .ok (.ireturn, 1) := by decide +kernel
theorem d_Mod_message_0 : decode b_Mod_message 0 = .ok (.aload_n 0, 1) := by decide +kernel
theorem d_Mod_message_1 : decode b_Mod_message 1 = .ok (.getfield 103, 3) := by decide +kernel
theorem d_Mod_message_4 : decode b_Mod_message 4 = .ok (.istore_n 1, 1) := by decide +kernel
theorem d_Mod_message_5 : decode b_Mod_message 5 = .ok (.aload_n 0, 1) := by decide +kernel
theorem d_Mod_message_6 : decode b_Mod_message 6 = .ok (.aload_n 0, 1) := by decide +kernel
theorem d_Mod_message_7 : decode b_Mod_message 7 = .ok (.getfield 7, 3) := by decide +kernel
theorem d_Mod_message_10 : decode b_Mod_message 10 = .ok (.iconst 0, 1) := by decide +kernel
theorem d_Mod_message_11 : decode b_Mod_message 11 = .ok (.iload_n 1, 1) := by decide +kernel
theorem d_Mod_message_12 : decode b_Mod_message 12 = .ok (.aload_n 0, 1) := by decide +kernel
theorem d_Mod_message_13 : decode b_Mod_message 13 = .ok (.getfield 23, 3) := by decide +kernel
theorem d_Mod_message_16 : decode b_Mod_message 16 = .ok (.iconst 0, 1) := by decide +kernel
theorem d_Mod_message_17 : decode b_Mod_message 17 = .ok (.invokevirtual 74, 3) := by decide +kernel
theorem d_Mod_message_20 : decode b_Mod_message 20 = .ok (.aload_n 0, 1) := by decide +kernel
theorem d_Mod_message_21 : decode b_Mod_message 21 = .ok (.iconst 0, 1) := by decide +kernel
theorem d_Mod_message_22 : decode b_Mod_message 22 = .ok (.putfield 103, 3) := by decide +kernel
theorem d_Mod_message_25 : decode b_Mod_message 25 = .ok (.iload_n 1, 1) := by decide +kernel
theorem d_Mod_message_26 : decode b_Mod_message 26 = .ok (.ireturn, 1) := by decide +kernel
theorem d_Mod_run_0 : decode b_Mod_run 0 = .ok (.aload_n 0, 1) := by decide +kernel
theorem d_Mod_run_1 : decode b_Mod_run 1 = .ok (.iconst 0, 1) := by decide +kernel
theorem d_Mod_run_2 : decode b_Mod_run 2 = .ok (.putfield 66, 3) := by decide +kernel
theorem d_Mod_run_5 : decode b_Mod_run 5 = .ok (.aload_n 0, 1) := by decide +kernel
theorem d_Mod_run_6 : decode b_Mod_run 6 = .ok (.aload_n 0, 1) := by decide +kernel
theorem d_Mod_run_7 : decode b_Mod_run 7 = .ok (.iconst 0, 1) := by decide +kernel
theorem d_Mod_run_8 : decode b_Mod_run 8 = .ok (.aload_n 0, 1) := by decide +kernel
theorem d_Mod_run_9 : decode b_Mod_run 9 = .ok (.getfield 19, 3) := by decide +kernel
theorem d_Mod_run_12 : decode b_Mod_run 12 = .ok (.iconst 0, 1) := by decide +kernel
theorem d_Mod_run_13 : decode b_Mod_run 13 = .ok (.iaload, 1) := by decide +kernel
theorem d_Mod_run_14 : decode b_Mod_run 14 = .ok (.iload_n 1, 1) := by decide +kernel
theorem d_Mod_run_15 : decode b_Mod_run 15 = .ok (.invokevirtual 110, 3) := by decide +kernel
theorem d_Mod_run_18 : decode b_Mod_run 18 = .ok (.ifCond .eq 23, 3) := by decide +kernel
theorem d_Mod_run_21 : decode b_Mod_run 21 = .ok (.aload_n 0, 1) := by decide +kernel
theorem d_Mod_run_22 : decode b_Mod_run 22 = .ok (.bipush 80, 2) := by decide +kernel
theorem d_Mod_run_24 : decode b_Mod_run 24 = .ok (.aload_n 0, 1) := by decide +kernel
theorem d_Mod_run_25 : decode b_Mod_run 25 = .ok (.getfield 19, 3) := by decide +kernel
theorem d_Mod_run_28 : decode b_Mod_run 28 = .ok (.iconst 1, 1) := by decide +kernel
theorem d_Mod_run_29 : decode b_Mod_run 29 = .ok (.iaload, 1) := by decide +kernel
theorem d_Mod_run_30 : decode b_Mod_run 30 = .ok (.iload_n 1, 1) := by decide +kernel
theorem d_Mod_run_31 : decode b_Mod_run 31 = .ok (.invokevirtual 110, 3) := by decide +kernel
theorem d_Mod_run_34 : decode b_Mod_run 34 = .ok (.ifCond .eq 7, 3) := by decide +kernel
theorem d_Mod_run_37 : decode b_Mod_run 37 = .ok (.iconst 1, 1) := by decide +kernel
theorem d_Mod_run_38 : decode b_Mod_run 38 = .ok (.goto 4, 3) := by decide +kernel
theorem d_Mod_run_41 : decode b_Mod_run 41 = .ok (.iconst 0, 1) := by decide +kernel
theorem d_Mod_run_42 : decode b_Mod_run 42 = .ok (.putfield 114, 3) := by decide +kernel
theorem d_Mod_run_45 : decode b_Mod_run 45 = .ok (.aload_n 0, 1) := by decide +kernel
theorem d_Mod_run_46 : decode b_Mod_run 46 = .ok (.getfield 114, 3) := by decide +kernel
theorem d_Mod_run_49 : decode b_Mod_run 49 = .ok (.ifCond .eq 27, 3) := by decide +kernel
theorem d_Mod_run_52 : decode b_Mod_run 52 = .ok (.aload_n 0, 1) := by decide +kernel
theorem d_Mod_run_53 : decode b_Mod_run 53 = .ok (.getfield 66, 3) := by decide +kernel
theorem d_Mod_run_56 : decode b_Mod_run 56 = .ok (.ifCond .le 20, 3) := by decide +kernel
theorem d_Mod_run_59 : decode b_Mod_run 59 = .ok (.aload_n 0, 1) := by decide +kernel
theorem d_Mod_run_60 : decode b_Mod_run 60 = .ok (.aload_n 0, 1) := by decide +kernel
theorem d_Mod_run_61 : decode b_Mod_run 61 = .ok (.getfield 66, 3) := by decide +kernel
theorem d_Mod_run_64 : decode b_Mod_run 64 = .ok (.iconst 1, 1) := by decide +kernel
theorem d_Mod_run_65 : decode b_Mod_run 65 = .ok (.isub, 1) := by decide +kernel
theorem d_Mod_run_66 : decode b_Mod_run 66 = .ok (.invokevirtual 93, 3) := by decide +kernel
theorem d_Mod_run_69 : decode b_Mod_run 69 = .ok (.ifCond .eq 7, 3) := by decide +kernel
theorem d_Mod_run_72 : decode b_Mod_run 72 = .ok (.iconst 1, 1) := by decide +kernel
theorem d_Mod_run_73 : decode b_Mod_run 73 = .ok (.goto 4, 3) := by decide +kernel
theorem d_Mod_run_76 : decode b_Mod_run 76 = .ok (.iconst 0, 1) := by decide +kernel
theorem d_Mod_run_77 : decode b_Mod_run 77 = .ok (.ireturn, 1) := by decide +kernel
theorem d_Mod_depth_0 : decode b_Mod_depth 0 = .ok (.aload_n 0, 1) := by decide +kernel
theorem d_Mod_depth_1 : decode b_Mod_depth 1 = .ok (.getfield 114, 3) := by decide +kernel
theorem d_Mod_depth_4 : decode b_Mod_depth 4 = .ok (.ifCond .eq 10, 3) := by decide +kernel
theorem d_Mod_depth_7 : decode b_Mod_depth 7 = .ok (.aload_n 0, 1) := by decide +kernel
theorem d_Mod_depth_8 : decode b_Mod_depth 8 = .ok (.getfield 66, 3) := by decide +kernel
theorem d_Mod_depth_11 : decode b_Mod_depth 11 = .ok (.goto 5, 3) := by decide +kernel
theorem d_Mod_depth_14 : decode b_Mod_depth 14 = .ok (.bipush (-2), 2) := by decide +kernel
theorem d_Mod_depth_16 : decode b_Mod_depth 16 = .ok (.ireturn, 1) := by decide +kernel
theorem d_Mod_element_0 : decode b_Mod_element 0 = .ok (.aload_n 0, 1) := by decide +kernel
theorem d_Mod_element_1 : decode b_Mod_element 1 = .ok (.getfield 114, 3) := by decide +kernel
theorem d_Mod_element_4 : decode b_Mod_element 4 = .ok (.ifCond .eq 20, 3) := by decide +kernel
theorem d_Mod_element_7 : decode b_Mod_element 7 = .ok (.iload_n 1, 1) := by decide +kernel
theorem d_Mod_element_8 : decode b_Mod_element 8 = .ok (.ifCond .lt 16, 3) := by decide +kernel
theorem d_Mod_element_11 : decode b_Mod_element 11 = .ok (.iload_n 1, 1) := by decide +kernel
theorem d_Mod_element_12 : decode b_Mod_element 12 = .ok (.aload_n 0, 1) := by decide +kernel
theorem d_Mod_element_13 : decode b_Mod_element 13 = .ok (.getfield 66, 3) := by decide +kernel
theorem d_Mod_element_16 : decode b_Mod_element 16 = .ok (.if_icmp .ge 8, 3) := by decide +kernel
theorem d_Mod_element_19 : decode b_Mod_element 19 = .ok (.iload_n 2, 1) := by decide +kernel
theorem d_Mod_element_20 : decode b_Mod_element 20 = .ok (.iconst (-1), 1) := by decide +kernel
theorem d_Mod_element_21 : decode b_Mod_element 21 = .ok (.if_icmp .ge 6, 3) := by decide +kernel
theorem d_Mod_element_24 : decode b_Mod_element 24 = .ok (.bipush (-2), 2) := by decide +kernel
theorem d_Mod_element_26 : decode b_Mod_element 26 = .ok (.ireturn, 1) := by decide +kernel
theorem d_Mod_element_27 : decode b_Mod_element 27 = .ok (.iload_n 2, 1) := by decide +kernel
theorem d_Mod_element_28 : decode b_Mod_element 28 = .ok (.iconst (-1), 1) := by decide +kernel
theorem d_Mod_element_29 : decode b_Mod_element 29 = .ok (.if_icmp .ne 10, 3) := by decide +kernel
theorem d_Mod_element_32 : decode b_Mod_element 32 = .ok (.aload_n 0, 1) := by decide +kernel
theorem d_Mod_element_33 : decode b_Mod_element 33 = .ok (.getfield 44, 3) := by decide +kernel
theorem d_Mod_element_36 : decode b_Mod_element 36 = .ok (.iload_n 1, 1) := by decide +kernel
theorem d_Mod_element_37 : decode b_Mod_element 37 = .ok (.iaload, 1) := by decide +kernel
theorem d_Mod_element_38 : decode b_Mod_element 38 = .ok (.ireturn, 1) := by decide +kernel
theorem d_Mod_element_39 : decode b_Mod_element 39 = .ok (.iload_n 2, 1) := by decide +kernel
theorem d_Mod_element_40 : decode b_Mod_element 40 = .ok (.aload_n 0, 1) := by decide +kernel
theorem d_Mod_element_41 : decode b_Mod_element 41 = .ok (.getfield 44, 3) := by decide +kernel
theorem d_Mod_element_44 : decode b_Mod_element 44 = .ok (.iload_n 1, 1) := by decide +kernel
theorem d_Mod_element_45 : decode b_Mod_element 45 = .ok (.iaload, 1) := by decide +kernel
theorem d_Mod_element_46 : decode b_Mod_element 46 = .ok (.if_icmp .lt 8, 3) := by decide +kernel
theorem d_Mod_element_49 : decode b_Mod_element 49 = .ok (.bipush (-2), 2) := by decide +kernel
theorem d_Mod_element_51 : decode b_Mod_element 51 = .ok (.goto 18, 3) := by decide +kernel
theorem d_Mod_element_54 : decode b_Mod_element 54 = .ok (.aload_n 0, 1) := by decide +kernel
theorem d_Mod_element_55 : decode b_Mod_element 55 = .ok (.getfield 41, 3) := by decide +kernel
theorem d_Mod_element_58 : decode b_Mod_element 58 = .ok (.bipush 80, 2) := by decide +kernel
theorem d_Mod_element_60 : decode b_Mod_element 60 = .ok (.iload_n 1, 1) := by decide +kernel
theorem d_Mod_element_61 : decode b_Mod_element 61 = .ok (.imul, 1) := by decide +kernel
theorem d_Mod_element_62 : decode b_Mod_element 62 = .ok (.iload_n 2, 1) := by decide +kernel
theorem d_Mod_element_63 : decode b_Mod_element 63 = .ok (.iadd, 1) := by decide +kernel
theorem d_Mod_element_64 : decode b_Mod_element 64 = .ok (.baload, 1) := by decide +kernel
theorem d_Mod_element_65 : decode b_Mod_element 65 = .ok (.sipush 255, 3) := by decide +kernel
theorem d_Mod_element_68 : decode b_Mod_element 68 = .ok (.iand, 1) := by decide +kernel
theorem d_Mod_element_69 : decode b_Mod_element 69 = .ok (.ireturn, 1) := by decide +kernel
theorem d_Mod_sha0_0 : decode b_Mod_sha0 0 = .ok (.aload_n 0, 1) := by decide +kernel
theorem d_Mod_sha0_1 : decode b_Mod_sha0 1 = .ok (.aload_n 0, 1) := by decide +kernel
theorem d_Mod_sha0_2 : decode b_Mod_sha0 2 = .ok (.getfield 7, 3) := by decide +kernel
theorem d_Mod_sha0_5 : decode b_Mod_sha0 5 = .ok (.iconst 0, 1) := by decide +kernel
theorem d_Mod_sha0_6 : decode b_Mod_sha0 6 = .ok (.aload_n 0, 1) := by decide +kernel
theorem d_Mod_sha0_7 : decode b_Mod_sha0 7 = .ok (.getfield 103, 3) := by decide +kernel
theorem d_Mod_sha0_10 : decode b_Mod_sha0 10 = .ok (.aload_n 0, 1) := by decide +kernel
theorem d_Mod_sha0_11 : decode b_Mod_sha0 11 = .ok (.getfield 13, 3) := by decide +kernel
theorem d_Mod_sha0_14 : decode b_Mod_sha0 14 = .ok (.iconst 0, 1) := by decide +kernel
theorem d_Mod_sha0_15 : decode b_Mod_sha0 15 = .ok (.invokevirtual 62, 3) := by decide +kernel
theorem d_Mod_sha0_18 : decode b_Mod_sha0 18 = .ok (.aload_n 0, 1) := by decide +kernel
theorem d_Mod_sha0_19 : decode b_Mod_sha0 19 = .ok (.iconst 0, 1) := by decide +kernel
theorem d_Mod_sha0_20 : decode b_Mod_sha0 20 = .ok (.putfield 103, 3) := by decide +kernel
theorem d_Mod_sha0_23 : decode b_Mod_sha0 23 = .ok (.aload_n 0, 1) := by decide +kernel
theorem d_Mod_sha0_24 : decode b_Mod_sha0 24 = .ok (.bipush 32, 2) := by decide +kernel
theorem d_Mod_sha0_26 : decode b_Mod_sha0 26 = .ok (.putfield 118, 3) := by decide +kernel
theorem d_Mod_sha0_29 : decode b_Mod_sha0 29 = .ok (.bipush 32, 2) := by decide +kernel
theorem d_Mod_sha0_31 : decode b_Mod_sha0 31 = .ok (.ireturn, 1) := by decide +kernel
theorem d_Mod_sign_0 : decode b_Mod_sign 0 = .ok (.aload_n 0, 1) := by decide +kernel
theorem d_Mod_sign_1 : decode b_Mod_sign 1 = .ok (.getfield 103, 3) := by decide +kernel
theorem d_Mod_sign_4 : decode b_Mod_sign 4 = .ok (.bipush 80, 2) := by decide +kernel
theorem d_Mod_sign_6 : decode b_Mod_sign 6 = .ok (.if_icmp .le 5, 3) := by decide +kernel
theorem d_Mod_sign_9 : decode b_Mod_sign 9 = .ok (.iconst (-1), 1) := by decide +kernel
theorem d_Mod_sign_10 : decode b_Mod_sign 10 = .ok (.ireturn, 1) := by decide +kernel
theorem d_Mod_sign_11 : decode b_Mod_sign 11 = .ok (.iconst 0, 1) := by decide +kernel
theorem d_Mod_sign_12 : decode b_Mod_sign 12 = .ok (.istore_n 1, 1) := by decide +kernel
theorem d_Mod_sign_13 : decode b_Mod_sign 13 = .ok (.iload_n 1, 1) := by decide +kernel
theorem d_Mod_sign_14 : decode b_Mod_sign 14 = .ok (.aload_n 0, 1) := by decide +kernel
theorem d_Mod_sign_15 : decode b_Mod_sign 15 = .ok (.getfield 103, 3) := by decide +kernel
theorem d_Mod_sign_18 : decode b_Mod_sign 18 = .ok (.if_icmp .ge 21, 3) := by decide +kernel
theorem d_Mod_sign_21 : decode b_Mod_sign 21 = .ok (.aload_n 0, 1) := by decide +kernel
theorem d_Mod_sign_22 : decode b_Mod_sign 22 = .ok (.getfield 38, 3) := by decide +kernel
theorem d_Mod_sign_25 : decode b_Mod_sign 25 = .ok (.iload_n 1, 1) := by decide +kernel
theorem d_Mod_sign_26 : decode b_Mod_sign 26 = .ok (.aload_n 0, 1) := by decide +kernel
theorem d_Mod_sign_27 : decode b_Mod_sign 27 = .ok (.getfield 7, 3) := by decide +kernel
theorem d_Mod_sign_30 : decode b_Mod_sign 30 = .ok (.iload_n 1, 1) := by decide +kernel
theorem d_Mod_sign_31 : decode b_Mod_sign 31 = .ok (.baload, 1) := by decide +kernel
theorem d_Mod_sign_32 : decode b_Mod_sign 32 = .ok (.bastore, 1) := by decide +kernel
theorem d_Mod_sign_33 : decode b_Mod_sign 33 = .ok (.iinc 1 1, 3) := by decide +kernel
theorem d_Mod_sign_36 : decode b_Mod_sign 36 = .ok (.goto (-23), 3) := by decide +kernel
theorem d_Mod_sign_39 : decode b_Mod_sign 39 = .ok (.iconst 0, 1) := by decide +kernel
theorem d_Mod_sign_40 : decode b_Mod_sign 40 = .ok (.istore_n 1, 1) := by decide +kernel
theorem d_Mod_sign_41 : decode b_Mod_sign 41 = .ok (.iload_n 1, 1) := by decide +kernel
theorem d_Mod_sign_42 : decode b_Mod_sign 42 = .ok (.bipush 32, 2) := by decide +kernel
theorem d_Mod_sign_44 : decode b_Mod_sign 44 = .ok (.if_icmp .ge 26, 3) := by decide +kernel
theorem d_Mod_sign_47 : decode b_Mod_sign 47 = .ok (.aload_n 0, 1) := by decide +kernel
theorem d_Mod_sign_48 : decode b_Mod_sign 48 = .ok (.getfield 38, 3) := by decide +kernel
theorem d_Mod_sign_51 : decode b_Mod_sign 51 = .ok (.aload_n 0, 1) := by decide +kernel
theorem d_Mod_sign_52 : decode b_Mod_sign 52 = .ok (.getfield 103, 3) := by decide +kernel
theorem d_Mod_sign_55 : decode b_Mod_sign 55 = .ok (.iload_n 1, 1) := by decide +kernel
theorem d_Mod_sign_56 : decode b_Mod_sign 56 = .ok (.iadd, 1) := by decide +kernel
theorem d_Mod_sign_57 : decode b_Mod_sign 57 = .ok (.aload_n 0, 1) := by decide +kernel
theorem d_Mod_sign_58 : decode b_Mod_sign 58 = .ok (.getfield 23, 3) := by decide +kernel
theorem d_Mod_sign_61 : decode b_Mod_sign 61 = .ok (.iload_n 1, 1) := by decide +kernel
theorem d_Mod_sign_62 : decode b_Mod_sign 62 = .ok (.baload, 1) := by decide +kernel
theorem d_Mod_sign_63 : decode b_Mod_sign 63 = .ok (.bastore, 1) := by decide +kernel
theorem d_Mod_sign_64 : decode b_Mod_sign 64 = .ok (.iinc 1 1, 3) := by decide +kernel
theorem d_Mod_sign_67 : decode b_Mod_sign 67 = .ok (.goto (-26), 3) := by decide +kernel
theorem d_Mod_sign_70 : decode b_Mod_sign 70 = .ok (.aload_n 0, 1) := by decide +kernel
theorem d_Mod_sign_71 : decode b_Mod_sign 71 = .ok (.aload_n 0, 1) := by decide +kernel
theorem d_Mod_sign_72 : decode b_Mod_sign 72 = .ok (.getfield 38, 3) := by decide +kernel
theorem d_Mod_sign_75 : decode b_Mod_sign 75 = .ok (.iconst 0, 1) := by decide +kernel
theorem d_Mod_sign_76 : decode b_Mod_sign 76 = .ok (.aload_n 0, 1) := by decide +kernel
theorem d_Mod_sign_77 : decode b_Mod_sign 77 = .ok (.getfield 103, 3) := by decide +kernel
theorem d_Mod_sign_80 : decode b_Mod_sign 80 = .ok (.bipush 32, 2) := by decide +kernel
theorem d_Mod_sign_82 : decode b_Mod_sign 82 = .ok (.iadd, 1) := by decide +kernel
theorem d_Mod_sign_83 : decode b_Mod_sign 83 = .ok (.aload_n 0, 1) := by decide +kernel
theorem d_Mod_sign_84 : decode b_Mod_sign 84 = .ok (.getfield 13, 3) := by decide +kernel
theorem d_Mod_sign_87 : decode b_Mod_sign 87 = .ok (.iconst 0, 1) := by decide +kernel
theorem d_Mod_sign_88 : decode b_Mod_sign 88 = .ok (.invokevirtual 74, 3) := by decide +kernel
theorem d_Mod_sign_91 : decode b_Mod_sign 91 = .ok (.aload_n 0, 1) := by decide +kernel
theorem d_Mod_sign_92 : decode b_Mod_sign 92 = .ok (.iconst 0, 1) := by decide +kernel
theorem d_Mod_sign_93 : decode b_Mod_sign 93 = .ok (.putfield 103, 3) := by decide +kernel
theorem d_Mod_sign_96 : decode b_Mod_sign 96 = .ok (.aload_n 0, 1) := by decide +kernel
theorem d_Mod_sign_97 : decode b_Mod_sign 97 = .ok (.bipush 8, 2) := by decide +kernel
theorem d_Mod_sign_99 : decode b_Mod_sign 99 = .ok (.putfield 118, 3) := by decide +kernel
theorem d_Mod_sign_102 : decode b_Mod_sign 102 = .ok (.bipush 8, 2) := by decide +kernel
theorem d_Mod_sign_104 : decode b_Mod_sign 104 = .ok (.ireturn, 1) := by decide +kernel
theorem d_Mod_back_0 : decode b_Mod_back 0 = .ok (.aload_n 0, 1) := by decide +kernel
theorem d_Mod_back_1 : decode b_Mod_back 1 = .ok (.getfield 103, 3) := by decide +kernel
theorem d_Mod_back_4 : decode b_Mod_back 4 = .ok (.iconst 1, 1) := by decide +kernel
theorem d_Mod_back_5 : decode b_Mod_back 5 = .ok (.iadd, 1) := by decide +kernel
theorem d_Mod_back_6 : decode b_Mod_back 6 = .ok (.aload_n 0, 1) := by decide +kernel
theorem d_Mod_back_7 : decode b_Mod_back 7 = .ok (.getfield 118, 3) := by decide +kernel
theorem d_Mod_back_10 : decode b_Mod_back 10 = .ok (.iadd, 1) := by decide +kernel
theorem d_Mod_back_11 : decode b_Mod_back 11 = .ok (.sipush 400, 3) := by decide +kernel
theorem d_Mod_back_14 : decode b_Mod_back 14 = .ok (.if_icmp .le 6, 3) := by decide +kernel
theorem d_Mod_back_17 : decode b_Mod_back 17 = .ok (.bipush (-3), 2) := by decide +kernel
theorem d_Mod_back_19 : decode b_Mod_back 19 = .ok (.ireturn, 1) := by decide +kernel
theorem d_Mod_back_20 : decode b_Mod_back 20 = .ok (.aload_n 0, 1) := by decide +kernel
theorem d_Mod_back_21 : decode b_Mod_back 21 = .ok (.getfield 7, 3) := by decide +kernel
theorem d_Mod_back_24 : decode b_Mod_back 24 = .ok (.aload_n 0, 1) := by decide +kernel
theorem d_Mod_back_25 : decode b_Mod_back 25 = .ok (.getfield 103, 3) := by decide +kernel
theorem d_Mod_back_28 : decode b_Mod_back 28 = .ok (.aload_n 0, 1) := by decide +kernel
theorem d_Mod_back_29 : decode b_Mod_back 29 = .ok (.getfield 118, 3) := by decide +kernel
theorem d_Mod_back_32 : decode b_Mod_back 32 = .ok (.i2b, 1) := by decide +kernel
theorem d_Mod_back_33 : decode b_Mod_back 33 = .ok (.bastore, 1) := by decide +kernel
theorem d_Mod_back_34 : decode b_Mod_back 34 = .ok (.iconst 0, 1) := by decide +kernel
theorem d_Mod_back_35 : decode b_Mod_back 35 = .ok (.istore_n 1, 1) := by decide +kernel
theorem d_Mod_back_36 : decode b_Mod_back 36 = .ok (.iload_n 1, 1) := by decide +kernel
theorem d_Mod_back_37 : decode b_Mod_back 37 = .ok (.aload_n 0, 1) := by decide +kernel
theorem d_Mod_back_38 : decode b_Mod_back 38 = .ok (.getfield 118, 3) := by decide +kernel
theorem d_Mod_back_41 : decode b_Mod_back 41 = .ok (.if_icmp .ge 28, 3) := by decide +kernel
theorem d_Mod_back_44 : decode b_Mod_back 44 = .ok (.aload_n 0, 1) := by decide +kernel
theorem d_Mod_back_45 : decode b_Mod_back 45 = .ok (.getfield 7, 3) := by decide +kernel
theorem d_Mod_back_48 : decode b_Mod_back 48 = .ok (.aload_n 0, 1) := by decide +kernel
theorem d_Mod_back_49 : decode b_Mod_back 49 = .ok (.getfield 103, 3) := by decide +kernel
theorem d_Mod_back_52 : decode b_Mod_back 52 = .ok (.iconst 1, 1) := by decide +kernel
theorem d_Mod_back_53 : decode b_Mod_back 53 = .ok (.iadd, 1) := by decide +kernel
theorem d_Mod_back_54 : decode b_Mod_back 54 = .ok (.iload_n 1, 1) := by decide +kernel
theorem d_Mod_back_55 : decode b_Mod_back 55 = .ok (.iadd, 1) := by decide +kernel
theorem d_Mod_back_56 : decode b_Mod_back 56 = .ok (.aload_n 0, 1) := by decide +kernel
theorem d_Mod_back_57 : decode b_Mod_back 57 = .ok (.getfield 13, 3) := by decide +kernel
theorem d_Mod_back_60 : decode b_Mod_back 60 = .ok (.iload_n 1, 1) := by decide +kernel
theorem d_Mod_back_61 : decode b_Mod_back 61 = .ok (.baload, 1) := by decide +kernel
theorem d_Mod_back_62 : decode b_Mod_back 62 = .ok (.bastore, 1) := by decide +kernel
theorem d_Mod_back_63 : decode b_Mod_back 63 = .ok (.iinc 1 1, 3) := by decide +kernel
theorem d_Mod_back_66 : decode b_Mod_back 66 = .ok (.goto (-30), 3) := by decide +kernel
theorem d_Mod_back_69 : decode b_Mod_back 69 = .ok (.aload_n 0, 1) := by decide +kernel
theorem d_Mod_back_70 : decode b_Mod_back 70 = .ok (.dup, 1) := by decide +kernel
theorem d_Mod_back_71 : decode b_Mod_back 71 = .ok (.getfield 103, 3) := by decide +kernel
theorem d_Mod_back_74 : decode b_Mod_back 74 = .ok (.iconst 1, 1) := by decide +kernel
theorem d_Mod_back_75 : decode b_Mod_back 75 = .ok (.aload_n 0, 1) := by decide +kernel
theorem d_Mod_back_76 : decode b_Mod_back 76 = .ok (.getfield 118, 3) := by decide +kernel
theorem d_Mod_back_79 : decode b_Mod_back 79 = .ok (.iadd, 1) := by decide +kernel
theorem d_Mod_back_80 : decode b_Mod_back 80 = .ok (.iadd, 1) := by decide +kernel
theorem d_Mod_back_81 : decode b_Mod_back 81 = .ok (.putfield 103, 3) := by decide +kernel
theorem d_Mod_back_84 : decode b_Mod_back 84 = .ok (.aload_n 0, 1) := by decide +kernel
theorem d_Mod_back_85 : decode b_Mod_back 85 = .ok (.getfield 103, 3) := by decide +kernel
theorem d_Mod_back_88 : decode b_Mod_back 88 = .ok (.ireturn, 1) := by decide +kernel
theorem d_Mod_octet_0 : decode b_Mod_octet 0 = .ok (.iload_n 1, 1) := by decide +kernel
theorem d_Mod_octet_1 : decode b_Mod_octet 1 = .ok (.ifCond .lt 11, 3) := by decide +kernel
theorem d_Mod_octet_4 : decode b_Mod_octet 4 = .ok (.iload_n 1, 1) := by decide +kernel
theorem d_Mod_octet_5 : decode b_Mod_octet 5 = .ok (.aload_n 0, 1) := by decide +kernel
theorem d_Mod_octet_6 : decode b_Mod_octet 6 = .ok (.getfield 118, 3) := by decide +kernel
theorem d_Mod_octet_9 : decode b_Mod_octet 9 = .ok (.if_icmp .lt 8, 3) := by decide +kernel
theorem d_Mod_octet_12 : decode b_Mod_octet 12 = .ok (.bipush (-2), 2) := by decide +kernel
theorem d_Mod_octet_14 : decode b_Mod_octet 14 = .ok (.goto 13, 3) := by decide +kernel
theorem d_Mod_octet_17 : decode b_Mod_octet 17 = .ok (.aload_n 0, 1) := by decide +kernel
theorem d_Mod_octet_18 : decode b_Mod_octet 18 = .ok (.getfield 13, 3) := by decide +kernel
theorem d_Mod_octet_21 : decode b_Mod_octet 21 = .ok (.iload_n 1, 1) := by decide +kernel
theorem d_Mod_octet_22 : decode b_Mod_octet 22 = .ok (.baload, 1) := by decide +kernel
theorem d_Mod_octet_23 : decode b_Mod_octet 23 = .ok (.sipush 255, 3) := by decide +kernel
theorem d_Mod_octet_26 : decode b_Mod_octet 26 = .ok (.iand, 1) := by decide +kernel
theorem d_Mod_octet_27 : decode b_Mod_octet 27 = .ok (.ireturn, 1) := by decide +kernel
