theorem d_Md_attempt_0 : decode b_Md_attempt 0 = .ok (.iconst 0, 1) := by decide +kernel
theorem d_Md_attempt_1 : decode b_Md_attempt 1 = .ok (.istore_n 2, 1) := by decide +kernel
theorem d_Md_attempt_2 : decode b_Md_attempt 2 = .ok (.iload_n 2, 1) := by decide +kernel
theorem d_Md_attempt_3 : decode b_Md_attempt 3 = .ok (.iconst 2, 1) := by decide +kernel
theorem d_Md_attempt_4 : decode b_Md_attempt 4 = .ok (.if_icmp .ge 41, 3) := by decide +kernel
theorem d_Md_attempt_7 : decode b_Md_attempt 7 = .ok (.aload_n 0, 1) := by decide +kernel
theorem d_Md_attempt_8 : decode b_Md_attempt 8 = .ok (.aload_n 0, 1) := by decide +kernel
theorem d_Md_attempt_9 : decode b_Md_attempt 9 = .ok (.getfield 74, 3) := by decide +kernel
theorem d_Md_attempt_12 : decode b_Md_attempt 12 = .ok (.iconst 0, 1) := by decide +kernel
theorem d_Md_attempt_13 : decode b_Md_attempt 13 = .ok (.bipush 16, 2) := by decide +kernel
theorem d_Md_attempt_15 : decode b_Md_attempt 15 = .ok (.invokevirtual 167, 3) := by decide +kernel
theorem d_Md_attempt_18 : decode b_Md_attempt 18 = .ok (.aload_n 0, 1) := by decide +kernel
theorem d_Md_attempt_19 : decode b_Md_attempt 19 = .ok (.iconst 2, 1) := by decide +kernel
theorem d_Md_attempt_20 : decode b_Md_attempt 20 = .ok (.iload_n 1, 1) := by decide +kernel
theorem d_Md_attempt_21 : decode b_Md_attempt 21 = .ok (.imul, 1) := by decide +kernel
theorem d_Md_attempt_22 : decode b_Md_attempt 22 = .ok (.iload_n 2, 1) := by decide +kernel
theorem d_Md_attempt_23 : decode b_Md_attempt 23 = .ok (.iadd, 1) := by decide +kernel
theorem d_Md_attempt_24 : decode b_Md_attempt 24 = .ok (.invokevirtual 127, 3) := by decide +kernel
theorem d_Md_attempt_27 : decode b_Md_attempt 27 = .ok (.aload_n 0, 1) := by decide +kernel
theorem d_Md_attempt_28 : decode b_Md_attempt 28 = .ok (.aload_n 0, 1) := by decide +kernel
theorem d_Md_attempt_29 : decode b_Md_attempt 29 = .ok (.getfield 80, 3) := by decide +kernel
theorem d_Md_attempt_32 : decode b_Md_attempt 32 = .ok (.bipush 16, 2) := by decide +kernel
theorem d_Md_attempt_34 : decode b_Md_attempt 34 = .ok (.iload_n 2, 1) := by decide +kernel
theorem d_Md_attempt_35 : decode b_Md_attempt 35 = .ok (.imul, 1) := by decide +kernel
theorem d_Md_attempt_36 : decode b_Md_attempt 36 = .ok (.invokevirtual 207, 3) := by decide +kernel
theorem d_Md_attempt_39 : decode b_Md_attempt 39 = .ok (.iinc 2 1, 3) := by decide +kernel
theorem d_Md_attempt_42 : decode b_Md_attempt 42 = .ok (.goto (-40), 3) := by decide +kernel
theorem d_Md_attempt_45 : decode b_Md_attempt 45 = .ok (.aload_n 0, 1) := by decide +kernel
theorem d_Md_attempt_46 : decode b_Md_attempt 46 = .ok (.aload_n 0, 1) := by decide +kernel
theorem d_Md_attempt_47 : decode b_Md_attempt 47 = .ok (.getfield 44, 3) := by decide +kernel
theorem d_Md_attempt_50 : decode b_Md_attempt 50 = .ok (.aload_n 0, 1) := by decide +kernel
theorem d_Md_attempt_51 : decode b_Md_attempt 51 = .ok (.getfield 80, 3) := by decide +kernel
theorem d_Md_attempt_54 : decode b_Md_attempt 54 = .ok (.aload_n 0, 1) := by decide +kernel
theorem d_Md_attempt_55 : decode b_Md_attempt 55 = .ok (.getfield 83, 3) := by decide +kernel
theorem d_Md_attempt_58 : decode b_Md_attempt 58 = .ok (.invokevirtual 189, 3) := by decide +kernel
theorem d_Md_attempt_61 : decode b_Md_attempt 61 = .ok (.iconst 0, 1) := by decide +kernel
theorem d_Md_attempt_62 : decode b_Md_attempt 62 = .ok (.istore_n 2, 1) := by decide +kernel
theorem d_Md_attempt_63 : decode b_Md_attempt 63 = .ok (.iload_n 2, 1) := by decide +kernel
theorem d_Md_attempt_64 : decode b_Md_attempt 64 = .ok (.bipush 32, 2) := by decide +kernel
theorem d_Md_attempt_66 : decode b_Md_attempt 66 = .ok (.if_icmp .ge 33, 3) := by decide +kernel
theorem d_Md_attempt_69 : decode b_Md_attempt 69 = .ok (.aload_n 0, 1) := by decide +kernel
theorem d_Md_attempt_70 : decode b_Md_attempt 70 = .ok (.aload_n 0, 1) := by decide +kernel
theorem d_Md_attempt_71 : decode b_Md_attempt 71 = .ok (.getfield 101, 3) := by decide +kernel
theorem d_Md_attempt_74 : decode b_Md_attempt 74 = .ok (.iconst 0, 1) := by decide +kernel
theorem d_Md_attempt_75 : decode b_Md_attempt 75 = .ok (.bipush 12, 2) := by decide +kernel
theorem d_Md_attempt_77 : decode b_Md_attempt 77 = .ok (.iload_n 2, 1) := by decide +kernel
theorem d_Md_attempt_78 : decode b_Md_attempt 78 = .ok (.imul, 1) := by decide +kernel
theorem d_Md_attempt_79 : decode b_Md_attempt 79 = .ok (.bipush 12, 2) := by decide +kernel
theorem d_Md_attempt_81 : decode b_Md_attempt 81 = .ok (.aload_n 0, 1) := by decide +kernel
theorem d_Md_attempt_82 : decode b_Md_attempt 82 = .ok (.getfield 83, 3) := by decide +kernel
theorem d_Md_attempt_85 : decode b_Md_attempt 85 = .ok (.iload_n 2, 1) := by decide +kernel
theorem d_Md_attempt_86 : decode b_Md_attempt 86 = .ok (.iaload, 1) := by decide +kernel
theorem d_Md_attempt_87 : decode b_Md_attempt 87 = .ok (.invokestatic 139, 3) := by decide +kernel
theorem d_Md_attempt_90 : decode b_Md_attempt 90 = .ok (.invokevirtual 196, 3) := by decide +kernel
theorem d_Md_attempt_93 : decode b_Md_attempt 93 = .ok (.iinc 2 1, 3) := by decide +kernel
theorem d_Md_attempt_96 : decode b_Md_attempt 96 = .ok (.goto (-33), 3) := by decide +kernel
theorem d_Md_attempt_99 : decode b_Md_attempt 99 = .ok (.aload_n 0, 1) := by decide +kernel
theorem d_Md_attempt_100 : decode b_Md_attempt 100 = .ok (.invokevirtual 210, 3) := by decide +kernel
theorem d_Md_attempt_103 : decode b_Md_attempt 103 = .ok (.aload_n 0, 1) := by decide +kernel
theorem d_Md_attempt_104 : decode b_Md_attempt 104 = .ok (.aload_n 0, 1) := by decide +kernel
theorem d_Md_attempt_105 : decode b_Md_attempt 105 = .ok (.getfield 77, 3) := by decide +kernel
theorem d_Md_attempt_108 : decode b_Md_attempt 108 = .ok (.iconst 0, 1) := by decide +kernel
theorem d_Md_attempt_109 : decode b_Md_attempt 109 = .ok (.bipush 8, 2) := by decide +kernel
theorem d_Md_attempt_111 : decode b_Md_attempt 111 = .ok (.invokevirtual 179, 3) := by decide +kernel
theorem d_Md_attempt_114 : decode b_Md_attempt 114 = .ok (.aload_n 0, 1) := by decide +kernel
theorem d_Md_attempt_115 : decode b_Md_attempt 115 = .ok (.aload_n 0, 1) := by decide +kernel
theorem d_Md_attempt_116 : decode b_Md_attempt 116 = .ok (.getfield 77, 3) := by decide +kernel
theorem d_Md_attempt_119 : decode b_Md_attempt 119 = .ok (.invokevirtual 213, 3) := by decide +kernel
theorem d_Md_attempt_122 : decode b_Md_attempt 122 = .ok (.aload_n 0, 1) := by decide +kernel
theorem d_Md_attempt_123 : decode b_Md_attempt 123 = .ok (.aload_n 0, 1) := by decide +kernel
theorem d_Md_attempt_124 : decode b_Md_attempt 124 = .ok (.getfield 50, 3) := by decide +kernel
theorem d_Md_attempt_127 : decode b_Md_attempt 127 = .ok (.iconst 1, 1) := by decide +kernel
theorem d_Md_attempt_128 : decode b_Md_attempt 128 = .ok (.aload_n 0, 1) := by decide +kernel
theorem d_Md_attempt_129 : decode b_Md_attempt 129 = .ok (.getfield 80, 3) := by decide +kernel
theorem d_Md_attempt_132 : decode b_Md_attempt 132 = .ok (.aload_n 0, 1) := by decide +kernel
theorem d_Md_attempt_133 : decode b_Md_attempt 133 = .ok (.getfield 86, 3) := by decide +kernel
theorem d_Md_attempt_136 : decode b_Md_attempt 136 = .ok (.invokevirtual 217, 3) := by decide +kernel
theorem d_Md_attempt_139 : decode b_Md_attempt 139 = .ok (.aload_n 0, 1) := by decide +kernel
theorem d_Md_attempt_140 : decode b_Md_attempt 140 = .ok (.aload_n 0, 1) := by decide +kernel
theorem d_Md_attempt_141 : decode b_Md_attempt 141 = .ok (.getfield 53, 3) := by decide +kernel
theorem d_Md_attempt_144 : decode b_Md_attempt 144 = .ok (.iconst (-1), 1) := by decide +kernel
theorem d_Md_attempt_145 : decode b_Md_attempt 145 = .ok (.aload_n 0, 1) := by decide +kernel
theorem d_Md_attempt_146 : decode b_Md_attempt 146 = .ok (.getfield 83, 3) := by decide +kernel
theorem d_Md_attempt_149 : decode b_Md_attempt 149 = .ok (.aload_n 0, 1) := by decide +kernel
theorem d_Md_attempt_150 : decode b_Md_attempt 150 = .ok (.getfield 89, 3) := by decide +kernel
theorem d_Md_attempt_153 : decode b_Md_attempt 153 = .ok (.invokevirtual 217, 3) := by decide +kernel
theorem d_Md_attempt_156 : decode b_Md_attempt 156 = .ok (.iconst 0, 1) := by decide +kernel
theorem d_Md_attempt_157 : decode b_Md_attempt 157 = .ok (.istore_n 2, 1) := by decide +kernel
theorem d_Md_attempt_158 : decode b_Md_attempt 158 = .ok (.iload_n 2, 1) := by decide +kernel
theorem d_Md_attempt_159 : decode b_Md_attempt 159 = .ok (.bipush 32, 2) := by decide +kernel
theorem d_Md_attempt_161 : decode b_Md_attempt 161 = .ok (.if_icmp .ge 16, 3) := by decide +kernel
theorem d_Md_attempt_164 : decode b_Md_attempt 164 = .ok (.aload_n 0, 1) := by decide +kernel
theorem d_Md_attempt_165 : decode b_Md_attempt 165 = .ok (.getfield 92, 3) := by decide +kernel
theorem d_Md_attempt_168 : decode b_Md_attempt 168 = .ok (.iload_n 2, 1) := by decide +kernel
theorem d_Md_attempt_169 : decode b_Md_attempt 169 = .ok (.iconst 0, 1) := by decide +kernel
theorem d_Md_attempt_170 : decode b_Md_attempt 170 = .ok (.iastore, 1) := by decide +kernel
theorem d_Md_attempt_171 : decode b_Md_attempt 171 = .ok (.iinc 2 1, 3) := by decide +kernel
theorem d_Md_attempt_174 : decode b_Md_attempt 174 = .ok (.goto (-16), 3) := by decide +kernel
theorem d_Md_attempt_177 : decode b_Md_attempt 177 = .ok (.aload_n 0, 1) := by decide +kernel
theorem d_Md_attempt_178 : decode b_Md_attempt 178 = .ok (.aload_n 0, 1) := by decide +kernel
theorem d_Md_attempt_179 : decode b_Md_attempt 179 = .ok (.getfield 56, 3) := by decide +kernel
theorem d_Md_attempt_182 : decode b_Md_attempt 182 = .ok (.iconst 1, 1) := by decide +kernel
theorem d_Md_attempt_183 : decode b_Md_attempt 183 = .ok (.aload_n 0, 1) := by decide +kernel
theorem d_Md_attempt_184 : decode b_Md_attempt 184 = .ok (.getfield 92, 3) := by decide +kernel
theorem d_Md_attempt_187 : decode b_Md_attempt 187 = .ok (.aload_n 0, 1) := by decide +kernel
theorem d_Md_attempt_188 : decode b_Md_attempt 188 = .ok (.getfield 92, 3) := by decide +kernel
theorem d_Md_attempt_191 : decode b_Md_attempt 191 = .ok (.invokevirtual 217, 3) := by decide +kernel
theorem d_Md_attempt_194 : decode b_Md_attempt 194 = .ok (.iconst 0, 1) := by decide +kernel
theorem d_Md_attempt_195 : decode b_Md_attempt 195 = .ok (.istore_n 2, 1) := by decide +kernel
theorem d_Md_attempt_196 : decode b_Md_attempt 196 = .ok (.aload_n 0, 1) := by decide +kernel
theorem d_Md_attempt_197 : decode b_Md_attempt 197 = .ok (.aload_n 0, 1) := by decide +kernel
theorem d_Md_attempt_198 : decode b_Md_attempt 198 = .ok (.getfield 86, 3) := by decide +kernel
theorem d_Md_attempt_201 : decode b_Md_attempt 201 = .ok (.sipush 504, 3) := by decide +kernel
theorem d_Md_attempt_204 : decode b_Md_attempt 204 = .ok (.invokevirtual 221, 3) := by decide +kernel
theorem d_Md_attempt_207 : decode b_Md_attempt 207 = .ok (.ifCond .ne 21, 3) := by decide +kernel
theorem d_Md_attempt_210 : decode b_Md_attempt 210 = .ok (.aload_n 0, 1) := by decide +kernel
theorem d_Md_attempt_211 : decode b_Md_attempt 211 = .ok (.aload_n 0, 1) := by decide +kernel
theorem d_Md_attempt_212 : decode b_Md_attempt 212 = .ok (.getfield 92, 3) := by decide +kernel
theorem d_Md_attempt_215 : decode b_Md_attempt 215 = .ok (.sipush 1023, 3) := by decide +kernel
theorem d_Md_attempt_218 : decode b_Md_attempt 218 = .ok (.invokevirtual 221, 3) := by decide +kernel
theorem d_Md_attempt_221 : decode b_Md_attempt 221 = .ok (.ifCond .ne 7, 3) := by decide +kernel
theorem d_Md_attempt_224 : decode b_Md_attempt 224 = .ok (.iconst 1, 1) := by decide +kernel
theorem d_Md_attempt_225 : decode b_Md_attempt 225 = .ok (.goto 4, 3) := by decide +kernel
theorem d_Md_attempt_228 : decode b_Md_attempt 228 = .ok (.iconst 0, 1) := by decide +kernel
theorem d_Md_attempt_229 : decode b_Md_attempt 229 = .ok (.istore_n 3, 1) := by decide +kernel
theorem d_Md_attempt_230 : decode b_Md_attempt 230 = .ok (.iconst 0, 1) := by decide +kernel
theorem d_Md_attempt_231 : decode b_Md_attempt 231 = .ok (.istore 4, 2) := by decide +kernel
theorem d_Md_attempt_233 : decode b_Md_attempt 233 = .ok (.iload 4, 2) := by decide +kernel
theorem d_Md_attempt_235 : decode b_Md_attempt 235 = .ok (.bipush 32, 2) := by decide +kernel
theorem d_Md_attempt_237 : decode b_Md_attempt 237 = .ok (.if_icmp .ge 100, 3) := by decide +kernel
theorem d_Md_attempt_240 : decode b_Md_attempt 240 = .ok (.iload_n 3, 1) := by decide +kernel
theorem d_Md_attempt_241 : decode b_Md_attempt 241 = .ok (.ifCond .eq 39, 3) := by decide +kernel
theorem d_Md_attempt_244 : decode b_Md_attempt 244 = .ok (.aload_n 0, 1) := by decide +kernel
theorem d_Md_attempt_245 : decode b_Md_attempt 245 = .ok (.getfield 89, 3) := by decide +kernel
theorem d_Md_attempt_248 : decode b_Md_attempt 248 = .ok (.iload 4, 2) := by decide +kernel
theorem d_Md_attempt_250 : decode b_Md_attempt 250 = .ok (.iaload, 1) := by decide +kernel
theorem d_Md_attempt_251 : decode b_Md_attempt 251 = .ok (.invokestatic 146, 3) := by decide +kernel
theorem d_Md_attempt_254 : decode b_Md_attempt 254 = .ok (.sipush 1015, 3) := by decide +kernel
theorem d_Md_attempt_257 : decode b_Md_attempt 257 = .ok (.if_icmp .ge 23, 3) := by decide +kernel
theorem d_Md_attempt_260 : decode b_Md_attempt 260 = .ok (.aload_n 0, 1) := by decide +kernel
theorem d_Md_attempt_261 : decode b_Md_attempt 261 = .ok (.getfield 89, 3) := by decide +kernel
theorem d_Md_attempt_264 : decode b_Md_attempt 264 = .ok (.iload 4, 2) := by decide +kernel
theorem d_Md_attempt_266 : decode b_Md_attempt 266 = .ok (.iaload, 1) := by decide +kernel
theorem d_Md_attempt_267 : decode b_Md_attempt 267 = .ok (.invokestatic 146, 3) := by decide +kernel
theorem d_Md_attempt_270 : decode b_Md_attempt 270 = .ok (.sipush (-1015), 3) := by decide +kernel
theorem d_Md_attempt_273 : decode b_Md_attempt 273 = .ok (.if_icmp .le 7, 3) := by decide +kernel
theorem d_Md_attempt_276 : decode b_Md_attempt 276 = .ok (.iconst 1, 1) := by decide +kernel
theorem d_Md_attempt_277 : decode b_Md_attempt 277 = .ok (.goto 4, 3) := by decide +kernel
theorem d_Md_attempt_280 : decode b_Md_attempt 280 = .ok (.iconst 0, 1) := by decide +kernel
theorem d_Md_attempt_281 : decode b_Md_attempt 281 = .ok (.istore_n 3, 1) := by decide +kernel
theorem d_Md_attempt_282 : decode b_Md_attempt 282 = .ok (.aload_n 0, 1) := by decide +kernel
theorem d_Md_attempt_283 : decode b_Md_attempt 283 = .ok (.getfield 98, 3) := by decide +kernel
theorem d_Md_attempt_286 : decode b_Md_attempt 286 = .ok (.iload 4, 2) := by decide +kernel
theorem d_Md_attempt_288 : decode b_Md_attempt 288 = .ok (.aload_n 0, 1) := by decide +kernel
theorem d_Md_attempt_289 : decode b_Md_attempt 289 = .ok (.getfield 92, 3) := by decide +kernel
theorem d_Md_attempt_292 : decode b_Md_attempt 292 = .ok (.iload 4, 2) := by decide +kernel
theorem d_Md_attempt_294 : decode b_Md_attempt 294 = .ok (.iaload, 1) := by decide +kernel
theorem d_Md_attempt_295 : decode b_Md_attempt 295 = .ok (.ineg, 1) := by decide +kernel
theorem d_Md_attempt_296 : decode b_Md_attempt 296 = .ok (.i2l, 1) := by decide +kernel
theorem d_Md_attempt_297 : decode b_Md_attempt 297 = .ok (.aload_n 0, 1) := by decide +kernel
theorem d_Md_attempt_298 : decode b_Md_attempt 298 = .ok (.getfield 89, 3) := by decide +kernel
theorem d_Md_attempt_301 : decode b_Md_attempt 301 = .ok (.iload 4, 2) := by decide +kernel
theorem d_Md_attempt_303 : decode b_Md_attempt 303 = .ok (.iaload, 1) := by decide +kernel
theorem d_Md_attempt_304 : decode b_Md_attempt 304 = .ok (.i2l, 1) := by decide +kernel
theorem d_Md_attempt_305 : decode b_Md_attempt 305 = .ok (.aload_n 0, 1) := by decide +kernel
theorem d_Md_attempt_306 : decode b_Md_attempt 306 = .ok (.getfield 92, 3) := by decide +kernel
theorem d_Md_attempt_309 : decode b_Md_attempt 309 = .ok (.iload 4, 2) := by decide +kernel
theorem d_Md_attempt_311 : decode b_Md_attempt 311 = .ok (.iaload, 1) := by decide +kernel
theorem d_Md_attempt_312 : decode b_Md_attempt 312 = .ok (.i2l, 1) := by decide +kernel
theorem d_Md_attempt_313 : decode b_Md_attempt 313 = .ok (.ladd, 1) := by decide +kernel
theorem d_Md_attempt_314 : decode b_Md_attempt 314 = .ok (.invokestatic 142, 3) := by decide +kernel
theorem d_Md_attempt_317 : decode b_Md_attempt 317 = .ok (.invokestatic 225, 3) := by decide +kernel
theorem d_Md_attempt_320 : decode b_Md_attempt 320 = .ok (.iastore, 1) := by decide +kernel
theorem d_Md_attempt_321 : decode b_Md_attempt 321 = .ok (.iload_n 2, 1) := by decide +kernel
theorem d_Md_attempt_322 : decode b_Md_attempt 322 = .ok (.aload_n 0, 1) := by decide +kernel
theorem d_Md_attempt_323 : decode b_Md_attempt 323 = .ok (.getfield 98, 3) := by decide +kernel
theorem d_Md_attempt_326 : decode b_Md_attempt 326 = .ok (.iload 4, 2) := by decide +kernel
theorem d_Md_attempt_328 : decode b_Md_attempt 328 = .ok (.iaload, 1) := by decide +kernel
theorem d_Md_attempt_329 : decode b_Md_attempt 329 = .ok (.iadd, 1) := by decide +kernel
theorem d_Md_attempt_330 : decode b_Md_attempt 330 = .ok (.istore_n 2, 1) := by decide +kernel
theorem d_Md_attempt_331 : decode b_Md_attempt 331 = .ok (.iinc 4 1, 3) := by decide +kernel
theorem d_Md_attempt_334 : decode b_Md_attempt 334 = .ok (.goto (-101), 3) := by decide +kernel
theorem d_Md_attempt_337 : decode b_Md_attempt 337 = .ok (.iload_n 3, 1) := by decide +kernel
theorem d_Md_attempt_338 : decode b_Md_attempt 338 = .ok (.ifCond .eq 13, 3) := by decide +kernel
theorem d_Md_attempt_341 : decode b_Md_attempt 341 = .ok (.iload_n 2, 1) := by decide +kernel
theorem d_Md_attempt_342 : decode b_Md_attempt 342 = .ok (.bipush 12, 2) := by decide +kernel
theorem d_Md_attempt_344 : decode b_Md_attempt 344 = .ok (.if_icmp .gt 7, 3) := by decide +kernel
theorem d_Md_attempt_347 : decode b_Md_attempt 347 = .ok (.iconst 1, 1) := by decide +kernel
theorem d_Md_attempt_348 : decode b_Md_attempt 348 = .ok (.goto 4, 3) := by decide +kernel
theorem d_Md_attempt_351 : decode b_Md_attempt 351 = .ok (.iconst 0, 1) := by decide +kernel
theorem d_Md_attempt_352 : decode b_Md_attempt 352 = .ok (.ireturn, 1) := by decide +kernel
