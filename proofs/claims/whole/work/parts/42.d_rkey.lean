theorem d_Md_key_0 : decode b_Md_key 0 = .ok (.aload_n 0, 1) := by decide +kernel
theorem d_Md_key_1 : decode b_Md_key 1 = .ok (.lload_n 1, 1) := by decide +kernel
theorem d_Md_key_2 : decode b_Md_key 2 = .ok (.invokevirtual 175, 3) := by decide +kernel
theorem d_Md_key_5 : decode b_Md_key 5 = .ok (.aload_n 0, 1) := by decide +kernel
theorem d_Md_key_6 : decode b_Md_key 6 = .ok (.invokevirtual 159, 3) := by decide +kernel
theorem d_Md_key_9 : decode b_Md_key 9 = .ok (.aload_n 0, 1) := by decide +kernel
theorem d_Md_key_10 : decode b_Md_key 10 = .ok (.aload_n 0, 1) := by decide +kernel
theorem d_Md_key_11 : decode b_Md_key 11 = .ok (.getfield 32, 3) := by decide +kernel
theorem d_Md_key_14 : decode b_Md_key 14 = .ok (.iconst 0, 1) := by decide +kernel
theorem d_Md_key_15 : decode b_Md_key 15 = .ok (.bipush 8, 2) := by decide +kernel
theorem d_Md_key_17 : decode b_Md_key 17 = .ok (.invokevirtual 179, 3) := by decide +kernel
theorem d_Md_key_20 : decode b_Md_key 20 = .ok (.aload_n 0, 1) := by decide +kernel
theorem d_Md_key_21 : decode b_Md_key 21 = .ok (.aload_n 0, 1) := by decide +kernel
theorem d_Md_key_22 : decode b_Md_key 22 = .ok (.getfield 35, 3) := by decide +kernel
theorem d_Md_key_25 : decode b_Md_key 25 = .ok (.bipush 8, 2) := by decide +kernel
theorem d_Md_key_27 : decode b_Md_key 27 = .ok (.bipush 8, 2) := by decide +kernel
theorem d_Md_key_29 : decode b_Md_key 29 = .ok (.invokevirtual 179, 3) := by decide +kernel
theorem d_Md_key_32 : decode b_Md_key 32 = .ok (.aload_n 0, 1) := by decide +kernel
theorem d_Md_key_33 : decode b_Md_key 33 = .ok (.aload_n 0, 1) := by decide +kernel
theorem d_Md_key_34 : decode b_Md_key 34 = .ok (.getfield 38, 3) := by decide +kernel
theorem d_Md_key_37 : decode b_Md_key 37 = .ok (.bipush 16, 2) := by decide +kernel
theorem d_Md_key_39 : decode b_Md_key 39 = .ok (.bipush 8, 2) := by decide +kernel
theorem d_Md_key_41 : decode b_Md_key 41 = .ok (.invokevirtual 179, 3) := by decide +kernel
theorem d_Md_key_44 : decode b_Md_key 44 = .ok (.aload_n 0, 1) := by decide +kernel
theorem d_Md_key_45 : decode b_Md_key 45 = .ok (.aload_n 0, 1) := by decide +kernel
theorem d_Md_key_46 : decode b_Md_key 46 = .ok (.getfield 32, 3) := by decide +kernel
theorem d_Md_key_49 : decode b_Md_key 49 = .ok (.aload_n 0, 1) := by decide +kernel
theorem d_Md_key_50 : decode b_Md_key 50 = .ok (.getfield 44, 3) := by decide +kernel
theorem d_Md_key_53 : decode b_Md_key 53 = .ok (.invokevirtual 182, 3) := by decide +kernel
theorem d_Md_key_56 : decode b_Md_key 56 = .ok (.iconst 0, 1) := by decide +kernel
theorem d_Md_key_57 : decode b_Md_key 57 = .ok (.istore_n 3, 1) := by decide +kernel
theorem d_Md_key_58 : decode b_Md_key 58 = .ok (.iload_n 3, 1) := by decide +kernel
theorem d_Md_key_59 : decode b_Md_key 59 = .ok (.iconst 4, 1) := by decide +kernel
theorem d_Md_key_60 : decode b_Md_key 60 = .ok (.if_icmp .ge 60, 3) := by decide +kernel
theorem d_Md_key_63 : decode b_Md_key 63 = .ok (.aload_n 0, 1) := by decide +kernel
theorem d_Md_key_64 : decode b_Md_key 64 = .ok (.aload_n 0, 1) := by decide +kernel
theorem d_Md_key_65 : decode b_Md_key 65 = .ok (.getfield 35, 3) := by decide +kernel
theorem d_Md_key_68 : decode b_Md_key 68 = .ok (.iconst 0, 1) := by decide +kernel
theorem d_Md_key_69 : decode b_Md_key 69 = .ok (.bipush 8, 2) := by decide +kernel
theorem d_Md_key_71 : decode b_Md_key 71 = .ok (.invokevirtual 167, 3) := by decide +kernel
theorem d_Md_key_74 : decode b_Md_key 74 = .ok (.aload_n 0, 1) := by decide +kernel
theorem d_Md_key_75 : decode b_Md_key 75 = .ok (.iload_n 3, 1) := by decide +kernel
theorem d_Md_key_76 : decode b_Md_key 76 = .ok (.invokevirtual 127, 3) := by decide +kernel
theorem d_Md_key_79 : decode b_Md_key 79 = .ok (.iload_n 3, 1) := by decide +kernel
theorem d_Md_key_80 : decode b_Md_key 80 = .ok (.iconst 2, 1) := by decide +kernel
theorem d_Md_key_81 : decode b_Md_key 81 = .ok (.if_icmp .ge 18, 3) := by decide +kernel
theorem d_Md_key_84 : decode b_Md_key 84 = .ok (.aload_n 0, 1) := by decide +kernel
theorem d_Md_key_85 : decode b_Md_key 85 = .ok (.aload_n 0, 1) := by decide +kernel
theorem d_Md_key_86 : decode b_Md_key 86 = .ok (.getfield 50, 3) := by decide +kernel
theorem d_Md_key_89 : decode b_Md_key 89 = .ok (.bipush 16, 2) := by decide +kernel
theorem d_Md_key_91 : decode b_Md_key 91 = .ok (.iload_n 3, 1) := by decide +kernel
theorem d_Md_key_92 : decode b_Md_key 92 = .ok (.imul, 1) := by decide +kernel
theorem d_Md_key_93 : decode b_Md_key 93 = .ok (.invokevirtual 186, 3) := by decide +kernel
theorem d_Md_key_96 : decode b_Md_key 96 = .ok (.goto 18, 3) := by decide +kernel
theorem d_Md_key_99 : decode b_Md_key 99 = .ok (.aload_n 0, 1) := by decide +kernel
theorem d_Md_key_100 : decode b_Md_key 100 = .ok (.aload_n 0, 1) := by decide +kernel
theorem d_Md_key_101 : decode b_Md_key 101 = .ok (.getfield 53, 3) := by decide +kernel
theorem d_Md_key_104 : decode b_Md_key 104 = .ok (.bipush 16, 2) := by decide +kernel
theorem d_Md_key_106 : decode b_Md_key 106 = .ok (.iload_n 3, 1) := by decide +kernel
theorem d_Md_key_107 : decode b_Md_key 107 = .ok (.imul, 1) := by decide +kernel
theorem d_Md_key_108 : decode b_Md_key 108 = .ok (.bipush 32, 2) := by decide +kernel
theorem d_Md_key_110 : decode b_Md_key 110 = .ok (.isub, 1) := by decide +kernel
theorem d_Md_key_111 : decode b_Md_key 111 = .ok (.invokevirtual 186, 3) := by decide +kernel
theorem d_Md_key_114 : decode b_Md_key 114 = .ok (.iinc 3 1, 3) := by decide +kernel
theorem d_Md_key_117 : decode b_Md_key 117 = .ok (.goto (-59), 3) := by decide +kernel
theorem d_Md_key_120 : decode b_Md_key 120 = .ok (.aload_n 0, 1) := by decide +kernel
theorem d_Md_key_121 : decode b_Md_key 121 = .ok (.aload_n 0, 1) := by decide +kernel
theorem d_Md_key_122 : decode b_Md_key 122 = .ok (.getfield 44, 3) := by decide +kernel
theorem d_Md_key_125 : decode b_Md_key 125 = .ok (.aload_n 0, 1) := by decide +kernel
theorem d_Md_key_126 : decode b_Md_key 126 = .ok (.getfield 50, 3) := by decide +kernel
theorem d_Md_key_129 : decode b_Md_key 129 = .ok (.aload_n 0, 1) := by decide +kernel
theorem d_Md_key_130 : decode b_Md_key 130 = .ok (.getfield 83, 3) := by decide +kernel
theorem d_Md_key_133 : decode b_Md_key 133 = .ok (.invokevirtual 189, 3) := by decide +kernel
theorem d_Md_key_136 : decode b_Md_key 136 = .ok (.iconst 0, 1) := by decide +kernel
theorem d_Md_key_137 : decode b_Md_key 137 = .ok (.istore_n 3, 1) := by decide +kernel
theorem d_Md_key_138 : decode b_Md_key 138 = .ok (.iload_n 3, 1) := by decide +kernel
theorem d_Md_key_139 : decode b_Md_key 139 = .ok (.bipush 8, 2) := by decide +kernel
theorem d_Md_key_141 : decode b_Md_key 141 = .ok (.if_icmp .ge 21, 3) := by decide +kernel
theorem d_Md_key_144 : decode b_Md_key 144 = .ok (.aload_n 0, 1) := by decide +kernel
theorem d_Md_key_145 : decode b_Md_key 145 = .ok (.getfield 65, 3) := by decide +kernel
theorem d_Md_key_148 : decode b_Md_key 148 = .ok (.iload_n 3, 1) := by decide +kernel
theorem d_Md_key_149 : decode b_Md_key 149 = .ok (.aload_n 0, 1) := by decide +kernel
theorem d_Md_key_150 : decode b_Md_key 150 = .ok (.getfield 32, 3) := by decide +kernel
theorem d_Md_key_153 : decode b_Md_key 153 = .ok (.iload_n 3, 1) := by decide +kernel
theorem d_Md_key_154 : decode b_Md_key 154 = .ok (.iaload, 1) := by decide +kernel
theorem d_Md_key_155 : decode b_Md_key 155 = .ok (.iastore, 1) := by decide +kernel
theorem d_Md_key_156 : decode b_Md_key 156 = .ok (.iinc 3 1, 3) := by decide +kernel
theorem d_Md_key_159 : decode b_Md_key 159 = .ok (.goto (-21), 3) := by decide +kernel
theorem d_Md_key_162 : decode b_Md_key 162 = .ok (.iconst 0, 1) := by decide +kernel
theorem d_Md_key_163 : decode b_Md_key 163 = .ok (.istore_n 3, 1) := by decide +kernel
theorem d_Md_key_164 : decode b_Md_key 164 = .ok (.iload_n 3, 1) := by decide +kernel
theorem d_Md_key_165 : decode b_Md_key 165 = .ok (.bipush 32, 2) := by decide +kernel
theorem d_Md_key_167 : decode b_Md_key 167 = .ok (.if_icmp .ge 72, 3) := by decide +kernel
theorem d_Md_key_170 : decode b_Md_key 170 = .ok (.aload_n 0, 1) := by decide +kernel
theorem d_Md_key_171 : decode b_Md_key 171 = .ok (.getfield 83, 3) := by decide +kernel
theorem d_Md_key_174 : decode b_Md_key 174 = .ok (.iload_n 3, 1) := by decide +kernel
theorem d_Md_key_175 : decode b_Md_key 175 = .ok (.iaload, 1) := by decide +kernel
theorem d_Md_key_176 : decode b_Md_key 176 = .ok (.i2l, 1) := by decide +kernel
theorem d_Md_key_177 : decode b_Md_key 177 = .ok (.aload_n 0, 1) := by decide +kernel
theorem d_Md_key_178 : decode b_Md_key 178 = .ok (.getfield 53, 3) := by decide +kernel
theorem d_Md_key_181 : decode b_Md_key 181 = .ok (.iload_n 3, 1) := by decide +kernel
theorem d_Md_key_182 : decode b_Md_key 182 = .ok (.iaload, 1) := by decide +kernel
theorem d_Md_key_183 : decode b_Md_key 183 = .ok (.i2l, 1) := by decide +kernel
theorem d_Md_key_184 : decode b_Md_key 184 = .ok (.ladd, 1) := by decide +kernel
theorem d_Md_key_185 : decode b_Md_key 185 = .ok (.invokestatic 142, 3) := by decide +kernel
theorem d_Md_key_188 : decode b_Md_key 188 = .ok (.istore 4, 2) := by decide +kernel
theorem d_Md_key_190 : decode b_Md_key 190 = .ok (.aload_n 0, 1) := by decide +kernel
theorem d_Md_key_191 : decode b_Md_key 191 = .ok (.getfield 56, 3) := by decide +kernel
theorem d_Md_key_194 : decode b_Md_key 194 = .ok (.iload_n 3, 1) := by decide +kernel
theorem d_Md_key_195 : decode b_Md_key 195 = .ok (.iload 4, 2) := by decide +kernel
theorem d_Md_key_197 : decode b_Md_key 197 = .ok (.invokestatic 193, 3) := by decide +kernel
theorem d_Md_key_200 : decode b_Md_key 200 = .ok (.i2l, 1) := by decide +kernel
theorem d_Md_key_201 : decode b_Md_key 201 = .ok (.invokestatic 142, 3) := by decide +kernel
theorem d_Md_key_204 : decode b_Md_key 204 = .ok (.iastore, 1) := by decide +kernel
theorem d_Md_key_205 : decode b_Md_key 205 = .ok (.aload_n 0, 1) := by decide +kernel
theorem d_Md_key_206 : decode b_Md_key 206 = .ok (.aload_n 0, 1) := by decide +kernel
theorem d_Md_key_207 : decode b_Md_key 207 = .ok (.getfield 65, 3) := by decide +kernel
theorem d_Md_key_210 : decode b_Md_key 210 = .ok (.bipush 8, 2) := by decide +kernel
theorem d_Md_key_212 : decode b_Md_key 212 = .ok (.bipush 15, 2) := by decide +kernel
theorem d_Md_key_214 : decode b_Md_key 214 = .ok (.iload_n 3, 1) := by decide +kernel
theorem d_Md_key_215 : decode b_Md_key 215 = .ok (.imul, 1) := by decide +kernel
theorem d_Md_key_216 : decode b_Md_key 216 = .ok (.bipush 15, 2) := by decide +kernel
theorem d_Md_key_218 : decode b_Md_key 218 = .ok (.iload 4, 2) := by decide +kernel
theorem d_Md_key_220 : decode b_Md_key 220 = .ok (.iload 4, 2) := by decide +kernel
theorem d_Md_key_222 : decode b_Md_key 222 = .ok (.invokestatic 193, 3) := by decide +kernel
theorem d_Md_key_225 : decode b_Md_key 225 = .ok (.isub, 1) := by decide +kernel
theorem d_Md_key_226 : decode b_Md_key 226 = .ok (.sipush 256, 3) := by decide +kernel
theorem d_Md_key_229 : decode b_Md_key 229 = .ok (.idiv, 1) := by decide +kernel
theorem d_Md_key_230 : decode b_Md_key 230 = .ok (.invokevirtual 196, 3) := by decide +kernel
theorem d_Md_key_233 : decode b_Md_key 233 = .ok (.iinc 3 1, 3) := by decide +kernel
theorem d_Md_key_236 : decode b_Md_key 236 = .ok (.goto (-72), 3) := by decide +kernel
theorem d_Md_key_239 : decode b_Md_key 239 = .ok (.aload_n 0, 1) := by decide +kernel
theorem d_Md_key_240 : decode b_Md_key 240 = .ok (.aload_n 0, 1) := by decide +kernel
theorem d_Md_key_241 : decode b_Md_key 241 = .ok (.getfield 65, 3) := by decide +kernel
theorem d_Md_key_244 : decode b_Md_key 244 = .ok (.iconst 0, 1) := by decide +kernel
theorem d_Md_key_245 : decode b_Md_key 245 = .ok (.bipush 68, 2) := by decide +kernel
theorem d_Md_key_247 : decode b_Md_key 247 = .ok (.invokevirtual 167, 3) := by decide +kernel
theorem d_Md_key_250 : decode b_Md_key 250 = .ok (.aload_n 0, 1) := by decide +kernel
theorem d_Md_key_251 : decode b_Md_key 251 = .ok (.invokevirtual 159, 3) := by decide +kernel
theorem d_Md_key_254 : decode b_Md_key 254 = .ok (.aload_n 0, 1) := by decide +kernel
theorem d_Md_key_255 : decode b_Md_key 255 = .ok (.aload_n 0, 1) := by decide +kernel
theorem d_Md_key_256 : decode b_Md_key 256 = .ok (.getfield 41, 3) := by decide +kernel
theorem d_Md_key_259 : decode b_Md_key 259 = .ok (.iconst 0, 1) := by decide +kernel
theorem d_Md_key_260 : decode b_Md_key 260 = .ok (.bipush 8, 2) := by decide +kernel
theorem d_Md_key_262 : decode b_Md_key 262 = .ok (.invokevirtual 179, 3) := by decide +kernel
theorem d_Md_key_265 : decode b_Md_key 265 = .ok (.aload_n 0, 1) := by decide +kernel
theorem d_Md_key_266 : decode b_Md_key 266 = .ok (.iconst 1, 1) := by decide +kernel
theorem d_Md_key_267 : decode b_Md_key 267 = .ok (.putfield 200, 3) := by decide +kernel
theorem d_Md_key_270 : decode b_Md_key 270 = .ok (.return_, 1) := by decide +kernel
theorem d_Md_say_0 : decode b_Md_say 0 = .ok (.iload_n 1, 1) := by decide +kernel
theorem d_Md_say_1 : decode b_Md_say 1 = .ok (.ifCond .lt 19, 3) := by decide +kernel
theorem d_Md_say_4 : decode b_Md_say 4 = .ok (.iload_n 1, 1) := by decide +kernel
theorem d_Md_say_5 : decode b_Md_say 5 = .ok (.sipush 255, 3) := by decide +kernel
theorem d_Md_say_8 : decode b_Md_say 8 = .ok (.if_icmp .gt 12, 3) := by decide +kernel
theorem d_Md_say_11 : decode b_Md_say 11 = .ok (.aload_n 0, 1) := by decide +kernel
theorem d_Md_say_12 : decode b_Md_say 12 = .ok (.getfield 204, 3) := by decide +kernel
theorem d_Md_say_15 : decode b_Md_say 15 = .ok (.bipush 24, 2) := by decide +kernel
theorem d_Md_say_17 : decode b_Md_say 17 = .ok (.if_icmp .ne 5, 3) := by decide +kernel
theorem d_Md_say_20 : decode b_Md_say 20 = .ok (.iconst 0, 1) := by decide +kernel
theorem d_Md_say_21 : decode b_Md_say 21 = .ok (.ireturn, 1) := by decide +kernel
theorem d_Md_say_22 : decode b_Md_say 22 = .ok (.aload_n 0, 1) := by decide +kernel
theorem d_Md_say_23 : decode b_Md_say 23 = .ok (.getfield 62, 3) := by decide +kernel
theorem d_Md_say_26 : decode b_Md_say 26 = .ok (.aload_n 0, 1) := by decide +kernel
theorem d_Md_say_27 : decode b_Md_say 27 = .ok (.getfield 204, 3) := by decide +kernel
theorem d_Md_say_30 : decode b_Md_say 30 = .ok (.iload_n 1, 1) := by decide +kernel
theorem d_Md_say_31 : decode b_Md_say 31 = .ok (.iastore, 1) := by decide +kernel
theorem d_Md_say_32 : decode b_Md_say 32 = .ok (.aload_n 0, 1) := by decide +kernel
theorem d_Md_say_33 : decode b_Md_say 33 = .ok (.dup, 1) := by decide +kernel
theorem d_Md_say_34 : decode b_Md_say 34 = .ok (.getfield 204, 3) := by decide +kernel
theorem d_Md_say_37 : decode b_Md_say 37 = .ok (.iconst 1, 1) := by decide +kernel
theorem d_Md_say_38 : decode b_Md_say 38 = .ok (.iadd, 1) := by decide +kernel
theorem d_Md_say_39 : decode b_Md_say 39 = .ok (.putfield 204, 3) := by decide +kernel
theorem d_Md_say_42 : decode b_Md_say 42 = .ok (.iconst 1, 1) := by decide +kernel
theorem d_Md_say_43 : decode b_Md_say 43 = .ok (.ireturn, 1) := by decide +kernel
theorem d_Md_hush_0 : decode b_Md_hush 0 = .ok (.aload_n 0, 1) := by decide +kernel
theorem d_Md_hush_1 : decode b_Md_hush 1 = .ok (.iconst 0, 1) := by decide +kernel
theorem d_Md_hush_2 : decode b_Md_hush 2 = .ok (.putfield 204, 3) := by decide +kernel
theorem d_Md_hush_5 : decode b_Md_hush 5 = .ok (.return_, 1) := by decide +kernel
