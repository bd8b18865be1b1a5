theorem d_Md_rotate_0 : decode b_Md_rotate 0 = .ok (.iload_n 2, 1) := by decide +kernel
theorem d_Md_rotate_1 : decode b_Md_rotate 1 = .ok (.ifCond .ne 7, 3) := by decide +kernel
theorem d_Md_rotate_4 : decode b_Md_rotate 4 = .ok (.lload_n 0, 1) := by decide +kernel
theorem d_Md_rotate_5 : decode b_Md_rotate 5 = .ok (.goto 13, 3) := by decide +kernel
theorem d_Md_rotate_8 : decode b_Md_rotate 8 = .ok (.lload_n 0, 1) := by decide +kernel
theorem d_Md_rotate_9 : decode b_Md_rotate 9 = .ok (.iload_n 2, 1) := by decide +kernel
theorem d_Md_rotate_10 : decode b_Md_rotate 10 = .ok (.lshl, 1) := by decide +kernel
theorem d_Md_rotate_11 : decode b_Md_rotate 11 = .ok (.lload_n 0, 1) := by decide +kernel
theorem d_Md_rotate_12 : decode b_Md_rotate 12 = .ok (.bipush 64, 2) := by decide +kernel
theorem d_Md_rotate_14 : decode b_Md_rotate 14 = .ok (.iload_n 2, 1) := by decide +kernel
theorem d_Md_rotate_15 : decode b_Md_rotate 15 = .ok (.isub, 1) := by decide +kernel
theorem d_Md_rotate_16 : decode b_Md_rotate 16 = .ok (.lushr, 1) := by decide +kernel
theorem d_Md_rotate_17 : decode b_Md_rotate 17 = .ok (.lor, 1) := by decide +kernel
theorem d_Md_rotate_18 : decode b_Md_rotate 18 = .ok (.lreturn, 1) := by decide +kernel
theorem d_Md_mix_0 : decode b_Md_mix 0 = .ok (.aload_n 0, 1) := by decide +kernel
theorem d_Md_mix_1 : decode b_Md_mix 1 = .ok (.getfield 17, 3) := by decide +kernel
theorem d_Md_mix_4 : decode b_Md_mix 4 = .ok (.iload_n 1, 1) := by decide +kernel
theorem d_Md_mix_5 : decode b_Md_mix 5 = .ok (.bipush 8, 2) := by decide +kernel
theorem d_Md_mix_7 : decode b_Md_mix 7 = .ok (.idiv, 1) := by decide +kernel
theorem d_Md_mix_8 : decode b_Md_mix 8 = .ok (.aload_n 0, 1) := by decide +kernel
theorem d_Md_mix_9 : decode b_Md_mix 9 = .ok (.getfield 17, 3) := by decide +kernel
theorem d_Md_mix_12 : decode b_Md_mix 12 = .ok (.iload_n 1, 1) := by decide +kernel
theorem d_Md_mix_13 : decode b_Md_mix 13 = .ok (.bipush 8, 2) := by decide +kernel
theorem d_Md_mix_15 : decode b_Md_mix 15 = .ok (.idiv, 1) := by decide +kernel
theorem d_Md_mix_16 : decode b_Md_mix 16 = .ok (.laload, 1) := by decide +kernel
theorem d_Md_mix_17 : decode b_Md_mix 17 = .ok (.iload_n 2, 1) := by decide +kernel
theorem d_Md_mix_18 : decode b_Md_mix 18 = .ok (.i2l, 1) := by decide +kernel
theorem d_Md_mix_19 : decode b_Md_mix 19 = .ok (.bipush 8, 2) := by decide +kernel
theorem d_Md_mix_21 : decode b_Md_mix 21 = .ok (.iload_n 1, 1) := by decide +kernel
theorem d_Md_mix_22 : decode b_Md_mix 22 = .ok (.bipush 8, 2) := by decide +kernel
theorem d_Md_mix_24 : decode b_Md_mix 24 = .ok (.irem, 1) := by decide +kernel
theorem d_Md_mix_25 : decode b_Md_mix 25 = .ok (.imul, 1) := by decide +kernel
theorem d_Md_mix_26 : decode b_Md_mix 26 = .ok (.lshl, 1) := by decide +kernel
theorem d_Md_mix_27 : decode b_Md_mix 27 = .ok (.lxor, 1) := by decide +kernel
theorem d_Md_mix_28 : decode b_Md_mix 28 = .ok (.lastore, 1) := by decide +kernel
theorem d_Md_mix_29 : decode b_Md_mix 29 = .ok (.return_, 1) := by decide +kernel
theorem d_Md_round_0 : decode b_Md_round 0 = .ok (.iconst 0, 1) := by decide +kernel
theorem d_Md_round_1 : decode b_Md_round 1 = .ok (.istore_n 2, 1) := by decide +kernel
theorem d_Md_round_2 : decode b_Md_round 2 = .ok (.iload_n 2, 1) := by decide +kernel
theorem d_Md_round_3 : decode b_Md_round 3 = .ok (.iconst 5, 1) := by decide +kernel
theorem d_Md_round_4 : decode b_Md_round 4 = .ok (.if_icmp .ge 52, 3) := by decide +kernel
theorem d_Md_round_7 : decode b_Md_round 7 = .ok (.aload_n 0, 1) := by decide +kernel
theorem d_Md_round_8 : decode b_Md_round 8 = .ok (.getfield 23, 3) := by decide +kernel
theorem d_Md_round_11 : decode b_Md_round 11 = .ok (.iload_n 2, 1) := by decide +kernel
theorem d_Md_round_12 : decode b_Md_round 12 = .ok (.lconst 0, 1) := by decide +kernel
theorem d_Md_round_13 : decode b_Md_round 13 = .ok (.lastore, 1) := by decide +kernel
theorem d_Md_round_14 : decode b_Md_round 14 = .ok (.iconst 0, 1) := by decide +kernel
theorem d_Md_round_15 : decode b_Md_round 15 = .ok (.istore_n 3, 1) := by decide +kernel
theorem d_Md_round_16 : decode b_Md_round 16 = .ok (.iload_n 3, 1) := by decide +kernel
theorem d_Md_round_17 : decode b_Md_round 17 = .ok (.iconst 5, 1) := by decide +kernel
theorem d_Md_round_18 : decode b_Md_round 18 = .ok (.if_icmp .ge 32, 3) := by decide +kernel
theorem d_Md_round_21 : decode b_Md_round 21 = .ok (.aload_n 0, 1) := by decide +kernel
theorem d_Md_round_22 : decode b_Md_round 22 = .ok (.getfield 23, 3) := by decide +kernel
theorem d_Md_round_25 : decode b_Md_round 25 = .ok (.iload_n 2, 1) := by decide +kernel
theorem d_Md_round_26 : decode b_Md_round 26 = .ok (.aload_n 0, 1) := by decide +kernel
theorem d_Md_round_27 : decode b_Md_round 27 = .ok (.getfield 23, 3) := by decide +kernel
theorem d_Md_round_30 : decode b_Md_round 30 = .ok (.iload_n 2, 1) := by decide +kernel
theorem d_Md_round_31 : decode b_Md_round 31 = .ok (.laload, 1) := by decide +kernel
theorem d_Md_round_32 : decode b_Md_round 32 = .ok (.aload_n 0, 1) := by decide +kernel
theorem d_Md_round_33 : decode b_Md_round 33 = .ok (.getfield 17, 3) := by decide +kernel
theorem d_Md_round_36 : decode b_Md_round 36 = .ok (.iload_n 2, 1) := by decide +kernel
theorem d_Md_round_37 : decode b_Md_round 37 = .ok (.iconst 5, 1) := by decide +kernel
theorem d_Md_round_38 : decode b_Md_round 38 = .ok (.iload_n 3, 1) := by decide +kernel
theorem d_Md_round_39 : decode b_Md_round 39 = .ok (.imul, 1) := by decide +kernel
theorem d_Md_round_40 : decode b_Md_round 40 = .ok (.iadd, 1) := by decide +kernel
theorem d_Md_round_41 : decode b_Md_round 41 = .ok (.laload, 1) := by decide +kernel
theorem d_Md_round_42 : decode b_Md_round 42 = .ok (.lxor, 1) := by decide +kernel
theorem d_Md_round_43 : decode b_Md_round 43 = .ok (.lastore, 1) := by decide +kernel
theorem d_Md_round_44 : decode b_Md_round 44 = .ok (.iinc 3 1, 3) := by decide +kernel
theorem d_Md_round_47 : decode b_Md_round 47 = .ok (.goto (-31), 3) := by decide +kernel
theorem d_Md_round_50 : decode b_Md_round 50 = .ok (.iinc 2 1, 3) := by decide +kernel
theorem d_Md_round_53 : decode b_Md_round 53 = .ok (.goto (-51), 3) := by decide +kernel
theorem d_Md_round_56 : decode b_Md_round 56 = .ok (.iconst 0, 1) := by decide +kernel
theorem d_Md_round_57 : decode b_Md_round 57 = .ok (.istore_n 2, 1) := by decide +kernel
theorem d_Md_round_58 : decode b_Md_round 58 = .ok (.iload_n 2, 1) := by decide +kernel
theorem d_Md_round_59 : decode b_Md_round 59 = .ok (.iconst 5, 1) := by decide +kernel
theorem d_Md_round_60 : decode b_Md_round 60 = .ok (.if_icmp .ge 93, 3) := by decide +kernel
theorem d_Md_round_63 : decode b_Md_round 63 = .ok (.iconst 0, 1) := by decide +kernel
theorem d_Md_round_64 : decode b_Md_round 64 = .ok (.istore_n 3, 1) := by decide +kernel
theorem d_Md_round_65 : decode b_Md_round 65 = .ok (.iload_n 3, 1) := by decide +kernel
theorem d_Md_round_66 : decode b_Md_round 66 = .ok (.iconst 5, 1) := by decide +kernel
theorem d_Md_round_67 : decode b_Md_round 67 = .ok (.if_icmp .ge 80, 3) := by decide +kernel
theorem d_Md_round_70 : decode b_Md_round 70 = .ok (.aload_n 0, 1) := by decide +kernel
theorem d_Md_round_71 : decode b_Md_round 71 = .ok (.getfield 17, 3) := by decide +kernel
theorem d_Md_round_74 : decode b_Md_round 74 = .ok (.iload_n 2, 1) := by decide +kernel
theorem d_Md_round_75 : decode b_Md_round 75 = .ok (.iconst 5, 1) := by decide +kernel
theorem d_Md_round_76 : decode b_Md_round 76 = .ok (.iload_n 3, 1) := by decide +kernel
theorem d_Md_round_77 : decode b_Md_round 77 = .ok (.imul, 1) := by decide +kernel
theorem d_Md_round_78 : decode b_Md_round 78 = .ok (.iadd, 1) := by decide +kernel
theorem d_Md_round_79 : decode b_Md_round 79 = .ok (.laload, 1) := by decide +kernel
theorem d_Md_round_80 : decode b_Md_round 80 = .ok (.aload_n 0, 1) := by decide +kernel
theorem d_Md_round_81 : decode b_Md_round 81 = .ok (.getfield 23, 3) := by decide +kernel
theorem d_Md_round_84 : decode b_Md_round 84 = .ok (.iload_n 2, 1) := by decide +kernel
theorem d_Md_round_85 : decode b_Md_round 85 = .ok (.iconst 4, 1) := by decide +kernel
theorem d_Md_round_86 : decode b_Md_round 86 = .ok (.iadd, 1) := by decide +kernel
theorem d_Md_round_87 : decode b_Md_round 87 = .ok (.iconst 5, 1) := by decide +kernel
theorem d_Md_round_88 : decode b_Md_round 88 = .ok (.irem, 1) := by decide +kernel
theorem d_Md_round_89 : decode b_Md_round 89 = .ok (.laload, 1) := by decide +kernel
theorem d_Md_round_90 : decode b_Md_round 90 = .ok (.lxor, 1) := by decide +kernel
theorem d_Md_round_91 : decode b_Md_round 91 = .ok (.aload_n 0, 1) := by decide +kernel
theorem d_Md_round_92 : decode b_Md_round 92 = .ok (.getfield 23, 3) := by decide +kernel
theorem d_Md_round_95 : decode b_Md_round 95 = .ok (.iload_n 2, 1) := by decide +kernel
theorem d_Md_round_96 : decode b_Md_round 96 = .ok (.iconst 1, 1) := by decide +kernel
theorem d_Md_round_97 : decode b_Md_round 97 = .ok (.iadd, 1) := by decide +kernel
theorem d_Md_round_98 : decode b_Md_round 98 = .ok (.iconst 5, 1) := by decide +kernel
theorem d_Md_round_99 : decode b_Md_round 99 = .ok (.irem, 1) := by decide +kernel
theorem d_Md_round_100 : decode b_Md_round 100 = .ok (.laload, 1) := by decide +kernel
theorem d_Md_round_101 : decode b_Md_round 101 = .ok (.iconst 1, 1) := by decide +kernel
theorem d_Md_round_102 : decode b_Md_round 102 = .ok (.invokestatic 107, 3) := by decide +kernel
theorem d_Md_round_105 : decode b_Md_round 105 = .ok (.lxor, 1) := by decide +kernel
theorem d_Md_round_106 : decode b_Md_round 106 = .ok (.lstore 4, 2) := by decide +kernel
theorem d_Md_round_108 : decode b_Md_round 108 = .ok (.aload_n 0, 1) := by decide +kernel
theorem d_Md_round_109 : decode b_Md_round 109 = .ok (.getfield 20, 3) := by decide +kernel
theorem d_Md_round_112 : decode b_Md_round 112 = .ok (.iload_n 3, 1) := by decide +kernel
theorem d_Md_round_113 : decode b_Md_round 113 = .ok (.iconst 5, 1) := by decide +kernel
theorem d_Md_round_114 : decode b_Md_round 114 = .ok (.iconst 2, 1) := by decide +kernel
theorem d_Md_round_115 : decode b_Md_round 115 = .ok (.iload_n 2, 1) := by decide +kernel
theorem d_Md_round_116 : decode b_Md_round 116 = .ok (.imul, 1) := by decide +kernel
theorem d_Md_round_117 : decode b_Md_round 117 = .ok (.iconst 3, 1) := by decide +kernel
theorem d_Md_round_118 : decode b_Md_round 118 = .ok (.iload_n 3, 1) := by decide +kernel
theorem d_Md_round_119 : decode b_Md_round 119 = .ok (.imul, 1) := by decide +kernel
theorem d_Md_round_120 : decode b_Md_round 120 = .ok (.iadd, 1) := by decide +kernel
theorem d_Md_round_121 : decode b_Md_round 121 = .ok (.iconst 5, 1) := by decide +kernel
theorem d_Md_round_122 : decode b_Md_round 122 = .ok (.irem, 1) := by decide +kernel
theorem d_Md_round_123 : decode b_Md_round 123 = .ok (.imul, 1) := by decide +kernel
theorem d_Md_round_124 : decode b_Md_round 124 = .ok (.iadd, 1) := by decide +kernel
theorem d_Md_round_125 : decode b_Md_round 125 = .ok (.lload 4, 2) := by decide +kernel
theorem d_Md_round_127 : decode b_Md_round 127 = .ok (.aload_n 0, 1) := by decide +kernel
theorem d_Md_round_128 : decode b_Md_round 128 = .ok (.getfield 7, 3) := by decide +kernel
theorem d_Md_round_131 : decode b_Md_round 131 = .ok (.iload_n 2, 1) := by decide +kernel
theorem d_Md_round_132 : decode b_Md_round 132 = .ok (.iconst 5, 1) := by decide +kernel
theorem d_Md_round_133 : decode b_Md_round 133 = .ok (.iload_n 3, 1) := by decide +kernel
theorem d_Md_round_134 : decode b_Md_round 134 = .ok (.imul, 1) := by decide +kernel
theorem d_Md_round_135 : decode b_Md_round 135 = .ok (.iadd, 1) := by decide +kernel
theorem d_Md_round_136 : decode b_Md_round 136 = .ok (.iaload, 1) := by decide +kernel
theorem d_Md_round_137 : decode b_Md_round 137 = .ok (.invokestatic 107, 3) := by decide +kernel
theorem d_Md_round_140 : decode b_Md_round 140 = .ok (.lastore, 1) := by decide +kernel
theorem d_Md_round_141 : decode b_Md_round 141 = .ok (.iinc 3 1, 3) := by decide +kernel
theorem d_Md_round_144 : decode b_Md_round 144 = .ok (.goto (-79), 3) := by decide +kernel
theorem d_Md_round_147 : decode b_Md_round 147 = .ok (.iinc 2 1, 3) := by decide +kernel
theorem d_Md_round_150 : decode b_Md_round 150 = .ok (.goto (-92), 3) := by decide +kernel
theorem d_Md_round_153 : decode b_Md_round 153 = .ok (.iconst 0, 1) := by decide +kernel
theorem d_Md_round_154 : decode b_Md_round 154 = .ok (.istore_n 2, 1) := by decide +kernel
theorem d_Md_round_155 : decode b_Md_round 155 = .ok (.iload_n 2, 1) := by decide +kernel
theorem d_Md_round_156 : decode b_Md_round 156 = .ok (.iconst 5, 1) := by decide +kernel
theorem d_Md_round_157 : decode b_Md_round 157 = .ok (.if_icmp .ge 76, 3) := by decide +kernel
theorem d_Md_round_160 : decode b_Md_round 160 = .ok (.iconst 0, 1) := by decide +kernel
theorem d_Md_round_161 : decode b_Md_round 161 = .ok (.istore_n 3, 1) := by decide +kernel
theorem d_Md_round_162 : decode b_Md_round 162 = .ok (.iload_n 3, 1) := by decide +kernel
theorem d_Md_round_163 : decode b_Md_round 163 = .ok (.iconst 5, 1) := by decide +kernel
theorem d_Md_round_164 : decode b_Md_round 164 = .ok (.if_icmp .ge 63, 3) := by decide +kernel
theorem d_Md_round_167 : decode b_Md_round 167 = .ok (.aload_n 0, 1) := by decide +kernel
theorem d_Md_round_168 : decode b_Md_round 168 = .ok (.getfield 17, 3) := by decide +kernel
theorem d_Md_round_171 : decode b_Md_round 171 = .ok (.iload_n 2, 1) := by decide +kernel
theorem d_Md_round_172 : decode b_Md_round 172 = .ok (.iconst 5, 1) := by decide +kernel
theorem d_Md_round_173 : decode b_Md_round 173 = .ok (.iload_n 3, 1) := by decide +kernel
theorem d_Md_round_174 : decode b_Md_round 174 = .ok (.imul, 1) := by decide +kernel
theorem d_Md_round_175 : decode b_Md_round 175 = .ok (.iadd, 1) := by decide +kernel
theorem d_Md_round_176 : decode b_Md_round 176 = .ok (.aload_n 0, 1) := by decide +kernel
theorem d_Md_round_177 : decode b_Md_round 177 = .ok (.getfield 20, 3) := by decide +kernel
theorem d_Md_round_180 : decode b_Md_round 180 = .ok (.iload_n 2, 1) := by decide +kernel
theorem d_Md_round_181 : decode b_Md_round 181 = .ok (.iconst 5, 1) := by decide +kernel
theorem d_Md_round_182 : decode b_Md_round 182 = .ok (.iload_n 3, 1) := by decide +kernel
theorem d_Md_round_183 : decode b_Md_round 183 = .ok (.imul, 1) := by decide +kernel
theorem d_Md_round_184 : decode b_Md_round 184 = .ok (.iadd, 1) := by decide +kernel
theorem d_Md_round_185 : decode b_Md_round 185 = .ok (.laload, 1) := by decide +kernel
theorem d_Md_round_186 : decode b_Md_round 186 = .ok (.aload_n 0, 1) := by decide +kernel
theorem d_Md_round_187 : decode b_Md_round 187 = .ok (.getfield 20, 3) := by decide +kernel
theorem d_Md_round_190 : decode b_Md_round 190 = .ok (.iload_n 2, 1) := by decide +kernel
theorem d_Md_round_191 : decode b_Md_round 191 = .ok (.iconst 1, 1) := by decide +kernel
theorem d_Md_round_192 : decode b_Md_round 192 = .ok (.iadd, 1) := by decide +kernel
theorem d_Md_round_193 : decode b_Md_round 193 = .ok (.iconst 5, 1) := by decide +kernel
theorem d_Md_round_194 : decode b_Md_round 194 = .ok (.irem, 1) := by decide +kernel
theorem d_Md_round_195 : decode b_Md_round 195 = .ok (.iconst 5, 1) := by decide +kernel
theorem d_Md_round_196 : decode b_Md_round 196 = .ok (.iload_n 3, 1) := by decide +kernel
theorem d_Md_round_197 : decode b_Md_round 197 = .ok (.imul, 1) := by decide +kernel
theorem d_Md_round_198 : decode b_Md_round 198 = .ok (.iadd, 1) := by decide +kernel
theorem d_Md_round_199 : decode b_Md_round 199 = .ok (.laload, 1) := by decide +kernel
theorem d_Md_round_200 : decode b_Md_round 200 = .ok (.ldc2_w 111, 3) := by decide +kernel
theorem d_Md_round_203 : decode b_Md_round 203 = .ok (.lxor, 1) := by decide +kernel
theorem d_Md_round_204 : decode b_Md_round 204 = .ok (.aload_n 0, 1) := by decide +kernel
theorem d_Md_round_205 : decode b_Md_round 205 = .ok (.getfield 20, 3) := by decide +kernel
theorem d_Md_round_208 : decode b_Md_round 208 = .ok (.iload_n 2, 1) := by decide +kernel
theorem d_Md_round_209 : decode b_Md_round 209 = .ok (.iconst 2, 1) := by decide +kernel
theorem d_Md_round_210 : decode b_Md_round 210 = .ok (.iadd, 1) := by decide +kernel
theorem d_Md_round_211 : decode b_Md_round 211 = .ok (.iconst 5, 1) := by decide +kernel
theorem d_Md_round_212 : decode b_Md_round 212 = .ok (.irem, 1) := by decide +kernel
theorem d_Md_round_213 : decode b_Md_round 213 = .ok (.iconst 5, 1) := by decide +kernel
theorem d_Md_round_214 : decode b_Md_round 214 = .ok (.iload_n 3, 1) := by decide +kernel
theorem d_Md_round_215 : decode b_Md_round 215 = .ok (.imul, 1) := by decide +kernel
theorem d_Md_round_216 : decode b_Md_round 216 = .ok (.iadd, 1) := by decide +kernel
theorem d_Md_round_217 : decode b_Md_round 217 = .ok (.laload, 1) := by decide +kernel
theorem d_Md_round_218 : decode b_Md_round 218 = .ok (.land, 1) := by decide +kernel
theorem d_Md_round_219 : decode b_Md_round 219 = .ok (.lxor, 1) := by decide +kernel
theorem d_Md_round_220 : decode b_Md_round 220 = .ok (.lastore, 1) := by decide +kernel
theorem d_Md_round_221 : decode b_Md_round 221 = .ok (.iinc 3 1, 3) := by decide +kernel
theorem d_Md_round_224 : decode b_Md_round 224 = .ok (.goto (-62), 3) := by decide +kernel
theorem d_Md_round_227 : decode b_Md_round 227 = .ok (.iinc 2 1, 3) := by decide +kernel
theorem d_Md_round_230 : decode b_Md_round 230 = .ok (.goto (-75), 3) := by decide +kernel
theorem d_Md_round_233 : decode b_Md_round 233 = .ok (.aload_n 0, 1) := by decide +kernel
theorem d_Md_round_234 : decode b_Md_round 234 = .ok (.getfield 17, 3) := by decide +kernel
theorem d_Md_round_237 : decode b_Md_round 237 = .ok (.iconst 0, 1) := by decide +kernel
theorem d_Md_round_238 : decode b_Md_round 238 = .ok (.aload_n 0, 1) := by decide +kernel
theorem d_Md_round_239 : decode b_Md_round 239 = .ok (.getfield 17, 3) := by decide +kernel
theorem d_Md_round_242 : decode b_Md_round 242 = .ok (.iconst 0, 1) := by decide +kernel
theorem d_Md_round_243 : decode b_Md_round 243 = .ok (.laload, 1) := by decide +kernel
theorem d_Md_round_244 : decode b_Md_round 244 = .ok (.aload_n 0, 1) := by decide +kernel
theorem d_Md_round_245 : decode b_Md_round 245 = .ok (.getfield 13, 3) := by decide +kernel
theorem d_Md_round_248 : decode b_Md_round 248 = .ok (.iload_n 1, 1) := by decide +kernel
theorem d_Md_round_249 : decode b_Md_round 249 = .ok (.laload, 1) := by decide +kernel
theorem d_Md_round_250 : decode b_Md_round 250 = .ok (.lxor, 1) := by decide +kernel
theorem d_Md_round_251 : decode b_Md_round 251 = .ok (.lastore, 1) := by decide +kernel
theorem d_Md_round_252 : decode b_Md_round 252 = .ok (.return_, 1) := by decide +kernel
theorem d_Md_feed_0 : decode b_Md_feed 0 = .ok (.aload_n 0, 1) := by decide +kernel
theorem d_Md_feed_1 : decode b_Md_feed 1 = .ok (.getfield 26, 3) := by decide +kernel
theorem d_Md_feed_4 : decode b_Md_feed 4 = .ok (.aload_n 0, 1) := by decide +kernel
theorem d_Md_feed_5 : decode b_Md_feed 5 = .ok (.getfield 113, 3) := by decide +kernel
theorem d_Md_feed_8 : decode b_Md_feed 8 = .ok (.iload_n 1, 1) := by decide +kernel
theorem d_Md_feed_9 : decode b_Md_feed 9 = .ok (.iastore, 1) := by decide +kernel
theorem d_Md_feed_10 : decode b_Md_feed 10 = .ok (.aload_n 0, 1) := by decide +kernel
theorem d_Md_feed_11 : decode b_Md_feed 11 = .ok (.dup, 1) := by decide +kernel
theorem d_Md_feed_12 : decode b_Md_feed 12 = .ok (.getfield 113, 3) := by decide +kernel
theorem d_Md_feed_15 : decode b_Md_feed 15 = .ok (.iconst 1, 1) := by decide +kernel
theorem d_Md_feed_16 : decode b_Md_feed 16 = .ok (.iadd, 1) := by decide +kernel
theorem d_Md_feed_17 : decode b_Md_feed 17 = .ok (.putfield 113, 3) := by decide +kernel
theorem d_Md_feed_20 : decode b_Md_feed 20 = .ok (.return_, 1) := by decide +kernel
theorem d_Md_feedAll_0 : decode b_Md_feedAll 0 = .ok (.iconst 0, 1) := by decide +kernel
theorem d_Md_feedAll_1 : decode b_Md_feedAll 1 = .ok (.istore 4, 2) := by decide +kernel
theorem d_Md_feedAll_3 : decode b_Md_feedAll 3 = .ok (.iload 4, 2) := by decide +kernel
theorem d_Md_feedAll_5 : decode b_Md_feedAll 5 = .ok (.iload_n 3, 1) := by decide +kernel
theorem d_Md_feedAll_6 : decode b_Md_feedAll 6 = .ok (.if_icmp .ge 19, 3) := by decide +kernel
theorem d_Md_feedAll_9 : decode b_Md_feedAll 9 = .ok (.aload_n 0, 1) := by decide +kernel
theorem d_Md_feedAll_10 : decode b_Md_feedAll 10 = .ok (.aload_n 1, 1) := by decide +kernel
theorem d_Md_feedAll_11 : decode b_Md_feedAll 11 = .ok (.iload_n 2, 1) := by decide +kernel
theorem d_Md_feedAll_12 : decode b_Md_feedAll 12 = .ok (.iload 4, 2) := by decide +kernel
theorem d_Md_feedAll_14 : decode b_Md_feedAll 14 = .ok (.iadd, 1) := by decide +kernel
theorem d_Md_feedAll_15 : decode b_Md_feedAll 15 = .ok (.iaload, 1) := by decide +kernel
theorem d_Md_feedAll_16 : decode b_Md_feedAll 16 = .ok (.invokevirtual 127, 3) := by decide +kernel
theorem d_Md_feedAll_19 : decode b_Md_feedAll 19 = .ok (.iinc 4 1, 3) := by decide +kernel
theorem d_Md_feedAll_22 : decode b_Md_feedAll 22 = .ok (.goto (-19), 3) := by decide +kernel
theorem d_Md_feedAll_25 : decode b_Md_feedAll 25 = .ok (.return_, 1) := by decide +kernel
theorem d_Md_feedLong_0 : decode b_Md_feedLong 0 = .ok (.iconst 0, 1) := by decide +kernel
theorem d_Md_feedLong_1 : decode b_Md_feedLong 1 = .ok (.istore_n 3, 1) := by decide +kernel
theorem d_Md_feedLong_2 : decode b_Md_feedLong 2 = .ok (.iload_n 3, 1) := by decide +kernel
theorem d_Md_feedLong_3 : decode b_Md_feedLong 3 = .ok (.bipush 8, 2) := by decide +kernel
theorem d_Md_feedLong_5 : decode b_Md_feedLong 5 = .ok (.if_icmp .ge 24, 3) := by decide +kernel
theorem d_Md_feedLong_8 : decode b_Md_feedLong 8 = .ok (.aload_n 0, 1) := by decide +kernel
theorem d_Md_feedLong_9 : decode b_Md_feedLong 9 = .ok (.lload_n 1, 1) := by decide +kernel
theorem d_Md_feedLong_10 : decode b_Md_feedLong 10 = .ok (.bipush 8, 2) := by decide +kernel
theorem d_Md_feedLong_12 : decode b_Md_feedLong 12 = .ok (.iload_n 3, 1) := by decide +kernel
theorem d_Md_feedLong_13 : decode b_Md_feedLong 13 = .ok (.imul, 1) := by decide +kernel
theorem d_Md_feedLong_14 : decode b_Md_feedLong 14 = .ok (.lshr, 1) := by decide +kernel
theorem d_Md_feedLong_15 : decode b_Md_feedLong 15 = .ok (.ldc2_w 125, 3) := by decide +kernel
theorem d_Md_feedLong_18 : decode b_Md_feedLong 18 = .ok (.land, 1) := by decide +kernel
theorem d_Md_feedLong_19 : decode b_Md_feedLong 19 = .ok (.l2i, 1) := by decide +kernel
theorem d_Md_feedLong_20 : decode b_Md_feedLong 20 = .ok (.invokevirtual 127, 3) := by decide +kernel
theorem d_Md_feedLong_23 : decode b_Md_feedLong 23 = .ok (.iinc 3 1, 3) := by decide +kernel
theorem d_Md_feedLong_26 : decode b_Md_feedLong 26 = .ok (.goto (-24), 3) := by decide +kernel
theorem d_Md_feedLong_29 : decode b_Md_feedLong 29 = .ok (.return_, 1) := by decide +kernel
theorem d_Md_stream_0 : decode b_Md_stream 0 = .ok (.iconst 0, 1) := by decide +kernel
theorem d_Md_stream_1 : decode b_Md_stream 1 = .ok (.istore_n 1, 1) := by decide +kernel
theorem d_Md_stream_2 : decode b_Md_stream 2 = .ok (.iload_n 1, 1) := by decide +kernel
theorem d_Md_stream_3 : decode b_Md_stream 3 = .ok (.bipush 25, 2) := by decide +kernel
theorem d_Md_stream_5 : decode b_Md_stream 5 = .ok (.if_icmp .ge 16, 3) := by decide +kernel
theorem d_Md_stream_8 : decode b_Md_stream 8 = .ok (.aload_n 0, 1) := by decide +kernel
theorem d_Md_stream_9 : decode b_Md_stream 9 = .ok (.getfield 17, 3) := by decide +kernel
theorem d_Md_stream_12 : decode b_Md_stream 12 = .ok (.iload_n 1, 1) := by decide +kernel
theorem d_Md_stream_13 : decode b_Md_stream 13 = .ok (.lconst 0, 1) := by decide +kernel
theorem d_Md_stream_14 : decode b_Md_stream 14 = .ok (.lastore, 1) := by decide +kernel
theorem d_Md_stream_15 : decode b_Md_stream 15 = .ok (.iinc 1 1, 3) := by decide +kernel
theorem d_Md_stream_18 : decode b_Md_stream 18 = .ok (.goto (-16), 3) := by decide +kernel
theorem d_Md_stream_21 : decode b_Md_stream 21 = .ok (.iconst 0, 1) := by decide +kernel
theorem d_Md_stream_22 : decode b_Md_stream 22 = .ok (.istore_n 1, 1) := by decide +kernel
theorem d_Md_stream_23 : decode b_Md_stream 23 = .ok (.iload_n 1, 1) := by decide +kernel
theorem d_Md_stream_24 : decode b_Md_stream 24 = .ok (.aload_n 0, 1) := by decide +kernel
theorem d_Md_stream_25 : decode b_Md_stream 25 = .ok (.getfield 113, 3) := by decide +kernel
theorem d_Md_stream_28 : decode b_Md_stream 28 = .ok (.if_icmp .ge 20, 3) := by decide +kernel
theorem d_Md_stream_31 : decode b_Md_stream 31 = .ok (.aload_n 0, 1) := by decide +kernel
theorem d_Md_stream_32 : decode b_Md_stream 32 = .ok (.iload_n 1, 1) := by decide +kernel
theorem d_Md_stream_33 : decode b_Md_stream 33 = .ok (.aload_n 0, 1) := by decide +kernel
theorem d_Md_stream_34 : decode b_Md_stream 34 = .ok (.getfield 26, 3) := by decide +kernel
theorem d_Md_stream_37 : decode b_Md_stream 37 = .ok (.iload_n 1, 1) := by decide +kernel
theorem d_Md_stream_38 : decode b_Md_stream 38 = .ok (.iaload, 1) := by decide +kernel
theorem d_Md_stream_39 : decode b_Md_stream 39 = .ok (.invokevirtual 117, 3) := by decide +kernel
theorem d_Md_stream_42 : decode b_Md_stream 42 = .ok (.iinc 1 1, 3) := by decide +kernel
theorem d_Md_stream_45 : decode b_Md_stream 45 = .ok (.goto (-22), 3) := by decide +kernel
theorem d_Md_stream_48 : decode b_Md_stream 48 = .ok (.aload_n 0, 1) := by decide +kernel
theorem d_Md_stream_49 : decode b_Md_stream 49 = .ok (.aload_n 0, 1) := by decide +kernel
theorem d_Md_stream_50 : decode b_Md_stream 50 = .ok (.getfield 113, 3) := by decide +kernel
theorem d_Md_stream_53 : decode b_Md_stream 53 = .ok (.bipush 31, 2) := by decide +kernel
theorem d_Md_stream_55 : decode b_Md_stream 55 = .ok (.invokevirtual 117, 3) := by decide +kernel
theorem d_Md_stream_58 : decode b_Md_stream 58 = .ok (.aload_n 0, 1) := by decide +kernel
theorem d_Md_stream_59 : decode b_Md_stream 59 = .ok (.sipush 135, 3) := by decide +kernel
theorem d_Md_stream_62 : decode b_Md_stream 62 = .ok (.sipush 128, 3) := by decide +kernel
theorem d_Md_stream_65 : decode b_Md_stream 65 = .ok (.invokevirtual 117, 3) := by decide +kernel
theorem d_Md_stream_68 : decode b_Md_stream 68 = .ok (.iconst 0, 1) := by decide +kernel
theorem d_Md_stream_69 : decode b_Md_stream 69 = .ok (.istore_n 1, 1) := by decide +kernel
theorem d_Md_stream_70 : decode b_Md_stream 70 = .ok (.iload_n 1, 1) := by decide +kernel
theorem d_Md_stream_71 : decode b_Md_stream 71 = .ok (.bipush 24, 2) := by decide +kernel
theorem d_Md_stream_73 : decode b_Md_stream 73 = .ok (.if_icmp .ge 14, 3) := by decide +kernel
theorem d_Md_stream_76 : decode b_Md_stream 76 = .ok (.aload_n 0, 1) := by decide +kernel
theorem d_Md_stream_77 : decode b_Md_stream 77 = .ok (.iload_n 1, 1) := by decide +kernel
theorem d_Md_stream_78 : decode b_Md_stream 78 = .ok (.invokevirtual 121, 3) := by decide +kernel
theorem d_Md_stream_81 : decode b_Md_stream 81 = .ok (.iinc 1 1, 3) := by decide +kernel
theorem d_Md_stream_84 : decode b_Md_stream 84 = .ok (.goto (-14), 3) := by decide +kernel
theorem d_Md_stream_87 : decode b_Md_stream 87 = .ok (.iconst 0, 1) := by decide +kernel
theorem d_Md_stream_88 : decode b_Md_stream 88 = .ok (.istore_n 1, 1) := by decide +kernel
theorem d_Md_stream_89 : decode b_Md_stream 89 = .ok (.iload_n 1, 1) := by decide +kernel
theorem d_Md_stream_90 : decode b_Md_stream 90 = .ok (.sipush 136, 3) := by decide +kernel
theorem d_Md_stream_93 : decode b_Md_stream 93 = .ok (.if_icmp .ge 37, 3) := by decide +kernel
theorem d_Md_stream_96 : decode b_Md_stream 96 = .ok (.aload_n 0, 1) := by decide +kernel
theorem d_Md_stream_97 : decode b_Md_stream 97 = .ok (.getfield 29, 3) := by decide +kernel
theorem d_Md_stream_100 : decode b_Md_stream 100 = .ok (.iload_n 1, 1) := by decide +kernel
theorem d_Md_stream_101 : decode b_Md_stream 101 = .ok (.aload_n 0, 1) := by decide +kernel
theorem d_Md_stream_102 : decode b_Md_stream 102 = .ok (.getfield 17, 3) := by decide +kernel
theorem d_Md_stream_105 : decode b_Md_stream 105 = .ok (.iload_n 1, 1) := by decide +kernel
theorem d_Md_stream_106 : decode b_Md_stream 106 = .ok (.bipush 8, 2) := by decide +kernel
theorem d_Md_stream_108 : decode b_Md_stream 108 = .ok (.idiv, 1) := by decide +kernel
theorem d_Md_stream_109 : decode b_Md_stream 109 = .ok (.laload, 1) := by decide +kernel
theorem d_Md_stream_110 : decode b_Md_stream 110 = .ok (.bipush 8, 2) := by decide +kernel
theorem d_Md_stream_112 : decode b_Md_stream 112 = .ok (.iload_n 1, 1) := by decide +kernel
theorem d_Md_stream_113 : decode b_Md_stream 113 = .ok (.bipush 8, 2) := by decide +kernel
theorem d_Md_stream_115 : decode b_Md_stream 115 = .ok (.irem, 1) := by decide +kernel
theorem d_Md_stream_116 : decode b_Md_stream 116 = .ok (.imul, 1) := by decide +kernel
theorem d_Md_stream_117 : decode b_Md_stream 117 = .ok (.lshr, 1) := by decide +kernel
theorem d_Md_stream_118 : decode b_Md_stream 118 = .ok (.ldc2_w 125, 3) := by decide +kernel
theorem d_Md_stream_121 : decode b_Md_stream 121 = .ok (.land, 1) := by decide +kernel
theorem d_Md_stream_122 : decode b_Md_stream 122 = .ok (.l2i, 1) := by decide +kernel
theorem d_Md_stream_123 : decode b_Md_stream 123 = .ok (.iastore, 1) := by decide +kernel
theorem d_Md_stream_124 : decode b_Md_stream 124 = .ok (.iinc 1 1, 3) := by decide +kernel
theorem d_Md_stream_127 : decode b_Md_stream 127 = .ok (.goto (-38), 3) := by decide +kernel
theorem d_Md_stream_130 : decode b_Md_stream 130 = .ok (.aload_n 0, 1) := by decide +kernel
theorem d_Md_stream_131 : decode b_Md_stream 131 = .ok (.iconst 0, 1) := by decide +kernel
theorem d_Md_stream_132 : decode b_Md_stream 132 = .ok (.putfield 113, 3) := by decide +kernel
theorem d_Md_stream_135 : decode b_Md_stream 135 = .ok (.return_, 1) := by decide +kernel
theorem d_Md_take_0 : decode b_Md_take 0 = .ok (.iconst 0, 1) := by decide +kernel
theorem d_Md_take_1 : decode b_Md_take 1 = .ok (.istore 4, 2) := by decide +kernel
theorem d_Md_take_3 : decode b_Md_take 3 = .ok (.iload 4, 2) := by decide +kernel
theorem d_Md_take_5 : decode b_Md_take 5 = .ok (.iload_n 3, 1) := by decide +kernel
theorem d_Md_take_6 : decode b_Md_take 6 = .ok (.if_icmp .ge 22, 3) := by decide +kernel
theorem d_Md_take_9 : decode b_Md_take 9 = .ok (.aload_n 1, 1) := by decide +kernel
theorem d_Md_take_10 : decode b_Md_take 10 = .ok (.iload 4, 2) := by decide +kernel
theorem d_Md_take_12 : decode b_Md_take 12 = .ok (.aload_n 0, 1) := by decide +kernel
theorem d_Md_take_13 : decode b_Md_take 13 = .ok (.getfield 29, 3) := by decide +kernel
theorem d_Md_take_16 : decode b_Md_take 16 = .ok (.iload_n 2, 1) := by decide +kernel
theorem d_Md_take_17 : decode b_Md_take 17 = .ok (.iload 4, 2) := by decide +kernel
theorem d_Md_take_19 : decode b_Md_take 19 = .ok (.iadd, 1) := by decide +kernel
theorem d_Md_take_20 : decode b_Md_take 20 = .ok (.iaload, 1) := by decide +kernel
theorem d_Md_take_21 : decode b_Md_take 21 = .ok (.iastore, 1) := by decide +kernel
theorem d_Md_take_22 : decode b_Md_take 22 = .ok (.iinc 4 1, 3) := by decide +kernel
theorem d_Md_take_25 : decode b_Md_take 25 = .ok (.goto (-22), 3) := by decide +kernel
theorem d_Md_take_28 : decode b_Md_take 28 = .ok (.return_, 1) := by decide +kernel
theorem d_Md_bits_0 : decode b_Md_bits 0 = .ok (.iconst 0, 1) := by decide +kernel
theorem d_Md_bits_1 : decode b_Md_bits 1 = .ok (.istore 5, 2) := by decide +kernel
theorem d_Md_bits_3 : decode b_Md_bits 3 = .ok (.iconst 0, 1) := by decide +kernel
theorem d_Md_bits_4 : decode b_Md_bits 4 = .ok (.istore 6, 2) := by decide +kernel
theorem d_Md_bits_6 : decode b_Md_bits 6 = .ok (.iload 6, 2) := by decide +kernel
theorem d_Md_bits_8 : decode b_Md_bits 8 = .ok (.iload 4, 2) := by decide +kernel
theorem d_Md_bits_10 : decode b_Md_bits 10 = .ok (.if_icmp .ge 38, 3) := by decide +kernel
theorem d_Md_bits_13 : decode b_Md_bits 13 = .ok (.iload 5, 2) := by decide +kernel
theorem d_Md_bits_15 : decode b_Md_bits 15 = .ok (.aload_n 1, 1) := by decide +kernel
theorem d_Md_bits_16 : decode b_Md_bits 16 = .ok (.iload_n 2, 1) := by decide +kernel
theorem d_Md_bits_17 : decode b_Md_bits 17 = .ok (.iload_n 3, 1) := by decide +kernel
theorem d_Md_bits_18 : decode b_Md_bits 18 = .ok (.iload 6, 2) := by decide +kernel
theorem d_Md_bits_20 : decode b_Md_bits 20 = .ok (.iadd, 1) := by decide +kernel
theorem d_Md_bits_21 : decode b_Md_bits 21 = .ok (.bipush 8, 2) := by decide +kernel
theorem d_Md_bits_23 : decode b_Md_bits 23 = .ok (.idiv, 1) := by decide +kernel
theorem d_Md_bits_24 : decode b_Md_bits 24 = .ok (.iadd, 1) := by decide +kernel
theorem d_Md_bits_25 : decode b_Md_bits 25 = .ok (.iaload, 1) := by decide +kernel
theorem d_Md_bits_26 : decode b_Md_bits 26 = .ok (.iload_n 3, 1) := by decide +kernel
theorem d_Md_bits_27 : decode b_Md_bits 27 = .ok (.iload 6, 2) := by decide +kernel
theorem d_Md_bits_29 : decode b_Md_bits 29 = .ok (.iadd, 1) := by decide +kernel
theorem d_Md_bits_30 : decode b_Md_bits 30 = .ok (.bipush 8, 2) := by decide +kernel
theorem d_Md_bits_32 : decode b_Md_bits 32 = .ok (.irem, 1) := by decide +kernel
theorem d_Md_bits_33 : decode b_Md_bits 33 = .ok (.ishr, 1) := by decide +kernel
theorem d_Md_bits_34 : decode b_Md_bits 34 = .ok (.iconst 1, 1) := by decide +kernel
theorem d_Md_bits_35 : decode b_Md_bits 35 = .ok (.iand, 1) := by decide +kernel
theorem d_Md_bits_36 : decode b_Md_bits 36 = .ok (.iload 6, 2) := by decide +kernel
theorem d_Md_bits_38 : decode b_Md_bits 38 = .ok (.ishl, 1) := by decide +kernel
theorem d_Md_bits_39 : decode b_Md_bits 39 = .ok (.ior, 1) := by decide +kernel
theorem d_Md_bits_40 : decode b_Md_bits 40 = .ok (.istore 5, 2) := by decide +kernel
theorem d_Md_bits_42 : decode b_Md_bits 42 = .ok (.iinc 6 1, 3) := by decide +kernel
theorem d_Md_bits_45 : decode b_Md_bits 45 = .ok (.goto (-39), 3) := by decide +kernel
theorem d_Md_bits_48 : decode b_Md_bits 48 = .ok (.iload 5, 2) := by decide +kernel
theorem d_Md_bits_50 : decode b_Md_bits 50 = .ok (.ireturn, 1) := by decide +kernel
theorem d_Md_pack_0 : decode b_Md_pack 0 = .ok (.iconst 0, 1) := by decide +kernel
theorem d_Md_pack_1 : decode b_Md_pack 1 = .ok (.istore 6, 2) := by decide +kernel
theorem d_Md_pack_3 : decode b_Md_pack 3 = .ok (.iload 6, 2) := by decide +kernel
theorem d_Md_pack_5 : decode b_Md_pack 5 = .ok (.iload 4, 2) := by decide +kernel
theorem d_Md_pack_7 : decode b_Md_pack 7 = .ok (.if_icmp .ge 65, 3) := by decide +kernel
theorem d_Md_pack_10 : decode b_Md_pack 10 = .ok (.iload_n 2, 1) := by decide +kernel
theorem d_Md_pack_11 : decode b_Md_pack 11 = .ok (.iload_n 3, 1) := by decide +kernel
theorem d_Md_pack_12 : decode b_Md_pack 12 = .ok (.iload 6, 2) := by decide +kernel
theorem d_Md_pack_14 : decode b_Md_pack 14 = .ok (.iadd, 1) := by decide +kernel
theorem d_Md_pack_15 : decode b_Md_pack 15 = .ok (.bipush 8, 2) := by decide +kernel
theorem d_Md_pack_17 : decode b_Md_pack 17 = .ok (.idiv, 1) := by decide +kernel
theorem d_Md_pack_18 : decode b_Md_pack 18 = .ok (.iadd, 1) := by decide +kernel
theorem d_Md_pack_19 : decode b_Md_pack 19 = .ok (.istore 7, 2) := by decide +kernel
theorem d_Md_pack_21 : decode b_Md_pack 21 = .ok (.iconst 1, 1) := by decide +kernel
theorem d_Md_pack_22 : decode b_Md_pack 22 = .ok (.iload_n 3, 1) := by decide +kernel
theorem d_Md_pack_23 : decode b_Md_pack 23 = .ok (.iload 6, 2) := by decide +kernel
theorem d_Md_pack_25 : decode b_Md_pack 25 = .ok (.iadd, 1) := by decide +kernel
theorem d_Md_pack_26 : decode b_Md_pack 26 = .ok (.bipush 8, 2) := by decide +kernel
theorem d_Md_pack_28 : decode b_Md_pack 28 = .ok (.irem, 1) := by decide +kernel
theorem d_Md_pack_29 : decode b_Md_pack 29 = .ok (.ishl, 1) := by decide +kernel
theorem d_Md_pack_30 : decode b_Md_pack 30 = .ok (.istore 8, 2) := by decide +kernel
theorem d_Md_pack_32 : decode b_Md_pack 32 = .ok (.aload_n 1, 1) := by decide +kernel
theorem d_Md_pack_33 : decode b_Md_pack 33 = .ok (.iload 7, 2) := by decide +kernel
theorem d_Md_pack_35 : decode b_Md_pack 35 = .ok (.iload 5, 2) := by decide +kernel
theorem d_Md_pack_37 : decode b_Md_pack 37 = .ok (.iload 6, 2) := by decide +kernel
theorem d_Md_pack_39 : decode b_Md_pack 39 = .ok (.ishr, 1) := by decide +kernel
theorem d_Md_pack_40 : decode b_Md_pack 40 = .ok (.iconst 1, 1) := by decide +kernel
theorem d_Md_pack_41 : decode b_Md_pack 41 = .ok (.iand, 1) := by decide +kernel
theorem d_Md_pack_42 : decode b_Md_pack 42 = .ok (.iconst 1, 1) := by decide +kernel
theorem d_Md_pack_43 : decode b_Md_pack 43 = .ok (.if_icmp .ne 13, 3) := by decide +kernel
theorem d_Md_pack_46 : decode b_Md_pack 46 = .ok (.aload_n 1, 1) := by decide +kernel
theorem d_Md_pack_47 : decode b_Md_pack 47 = .ok (.iload 7, 2) := by decide +kernel
theorem d_Md_pack_49 : decode b_Md_pack 49 = .ok (.iaload, 1) := by decide +kernel
theorem d_Md_pack_50 : decode b_Md_pack 50 = .ok (.iload 8, 2) := by decide +kernel
theorem d_Md_pack_52 : decode b_Md_pack 52 = .ok (.ior, 1) := by decide +kernel
theorem d_Md_pack_53 : decode b_Md_pack 53 = .ok (.goto 12, 3) := by decide +kernel
theorem d_Md_pack_56 : decode b_Md_pack 56 = .ok (.aload_n 1, 1) := by decide +kernel
theorem d_Md_pack_57 : decode b_Md_pack 57 = .ok (.iload 7, 2) := by decide +kernel
theorem d_Md_pack_59 : decode b_Md_pack 59 = .ok (.iaload, 1) := by decide +kernel
theorem d_Md_pack_60 : decode b_Md_pack 60 = .ok (.iload 8, 2) := by decide +kernel
theorem d_Md_pack_62 : decode b_Md_pack 62 = .ok (.iconst (-1), 1) := by decide +kernel
theorem d_Md_pack_63 : decode b_Md_pack 63 = .ok (.ixor, 1) := by decide +kernel
theorem d_Md_pack_64 : decode b_Md_pack 64 = .ok (.iand, 1) := by decide +kernel
theorem d_Md_pack_65 : decode b_Md_pack 65 = .ok (.iastore, 1) := by decide +kernel
theorem d_Md_pack_66 : decode b_Md_pack 66 = .ok (.iinc 6 1, 3) := by decide +kernel
theorem d_Md_pack_69 : decode b_Md_pack 69 = .ok (.goto (-66), 3) := by decide +kernel
theorem d_Md_pack_72 : decode b_Md_pack 72 = .ok (.return_, 1) := by decide +kernel
theorem d_Md_mod_0 : decode b_Md_mod 0 = .ok (.lload_n 0, 1) := by decide +kernel
theorem d_Md_mod_1 : decode b_Md_mod 1 = .ok (.ldc2_w 130, 3) := by decide +kernel
theorem d_Md_mod_4 : decode b_Md_mod 4 = .ok (.lrem, 1) := by decide +kernel
theorem d_Md_mod_5 : decode b_Md_mod 5 = .ok (.lstore_n 2, 1) := by decide +kernel
theorem d_Md_mod_6 : decode b_Md_mod 6 = .ok (.lload_n 2, 1) := by decide +kernel
theorem d_Md_mod_7 : decode b_Md_mod 7 = .ok (.lconst 0, 1) := by decide +kernel
theorem d_Md_mod_8 : decode b_Md_mod 8 = .ok (.lcmp, 1) := by decide +kernel
theorem d_Md_mod_9 : decode b_Md_mod 9 = .ok (.ifCond .ge 11, 3) := by decide +kernel
theorem d_Md_mod_12 : decode b_Md_mod 12 = .ok (.lload_n 2, 1) := by decide +kernel
theorem d_Md_mod_13 : decode b_Md_mod 13 = .ok (.ldc2_w 130, 3) := by decide +kernel
theorem d_Md_mod_16 : decode b_Md_mod 16 = .ok (.ladd, 1) := by decide +kernel
theorem d_Md_mod_17 : decode b_Md_mod 17 = .ok (.goto 4, 3) := by decide +kernel
theorem d_Md_mod_20 : decode b_Md_mod 20 = .ok (.lload_n 2, 1) := by decide +kernel
theorem d_Md_mod_21 : decode b_Md_mod 21 = .ok (.l2i, 1) := by decide +kernel
theorem d_Md_mod_22 : decode b_Md_mod 22 = .ok (.ireturn, 1) := by decide +kernel
theorem d_Md_centred_0 : decode b_Md_centred 0 = .ok (.iload_n 0, 1) := by decide +kernel
theorem d_Md_centred_1 : decode b_Md_centred 1 = .ok (.ldc 132, 2) := by decide +kernel
theorem d_Md_centred_3 : decode b_Md_centred 3 = .ok (.if_icmp .le 10, 3) := by decide +kernel
theorem d_Md_centred_6 : decode b_Md_centred 6 = .ok (.iload_n 0, 1) := by decide +kernel
theorem d_Md_centred_7 : decode b_Md_centred 7 = .ok (.ldc 133, 2) := by decide +kernel
theorem d_Md_centred_9 : decode b_Md_centred 9 = .ok (.isub, 1) := by decide +kernel
theorem d_Md_centred_10 : decode b_Md_centred 10 = .ok (.goto 4, 3) := by decide +kernel
theorem d_Md_centred_13 : decode b_Md_centred 13 = .ok (.iload_n 0, 1) := by decide +kernel
theorem d_Md_centred_14 : decode b_Md_centred 14 = .ok (.ireturn, 1) := by decide +kernel
theorem d_Md_part_0 : decode b_Md_part 0 = .ok (.iload_n 0, 1) := by decide +kernel
theorem d_Md_part_1 : decode b_Md_part 1 = .ok (.sipush 2046, 3) := by decide +kernel
theorem d_Md_part_4 : decode b_Md_part 4 = .ok (.irem, 1) := by decide +kernel
theorem d_Md_part_5 : decode b_Md_part 5 = .ok (.istore_n 1, 1) := by decide +kernel
theorem d_Md_part_6 : decode b_Md_part 6 = .ok (.iload_n 1, 1) := by decide +kernel
theorem d_Md_part_7 : decode b_Md_part 7 = .ok (.sipush 1023, 3) := by decide +kernel
theorem d_Md_part_10 : decode b_Md_part 10 = .ok (.if_icmp .le 11, 3) := by decide +kernel
theorem d_Md_part_13 : decode b_Md_part 13 = .ok (.iload_n 1, 1) := by decide +kernel
theorem d_Md_part_14 : decode b_Md_part 14 = .ok (.sipush 2046, 3) := by decide +kernel
theorem d_Md_part_17 : decode b_Md_part 17 = .ok (.isub, 1) := by decide +kernel
theorem d_Md_part_18 : decode b_Md_part 18 = .ok (.goto 4, 3) := by decide +kernel
theorem d_Md_part_21 : decode b_Md_part 21 = .ok (.iload_n 1, 1) := by decide +kernel
theorem d_Md_part_22 : decode b_Md_part 22 = .ok (.ireturn, 1) := by decide +kernel
theorem d_Md_bottom_0 : decode b_Md_bottom 0 = .ok (.iload_n 0, 1) := by decide +kernel
theorem d_Md_bottom_1 : decode b_Md_bottom 1 = .ok (.sipush 256, 3) := by decide +kernel
theorem d_Md_bottom_4 : decode b_Md_bottom 4 = .ok (.irem, 1) := by decide +kernel
theorem d_Md_bottom_5 : decode b_Md_bottom 5 = .ok (.istore_n 1, 1) := by decide +kernel
theorem d_Md_bottom_6 : decode b_Md_bottom 6 = .ok (.iload_n 1, 1) := by decide +kernel
theorem d_Md_bottom_7 : decode b_Md_bottom 7 = .ok (.sipush 128, 3) := by decide +kernel
theorem d_Md_bottom_10 : decode b_Md_bottom 10 = .ok (.if_icmp .le 11, 3) := by decide +kernel
theorem d_Md_bottom_13 : decode b_Md_bottom 13 = .ok (.iload_n 1, 1) := by decide +kernel
theorem d_Md_bottom_14 : decode b_Md_bottom 14 = .ok (.sipush 256, 3) := by decide +kernel
theorem d_Md_bottom_17 : decode b_Md_bottom 17 = .ok (.isub, 1) := by decide +kernel
theorem d_Md_bottom_18 : decode b_Md_bottom 18 = .ok (.goto 4, 3) := by decide +kernel
theorem d_Md_bottom_21 : decode b_Md_bottom 21 = .ok (.iload_n 1, 1) := by decide +kernel
theorem d_Md_bottom_22 : decode b_Md_bottom 22 = .ok (.ireturn, 1) := by decide +kernel
theorem d_Md_highOf_0 : decode b_Md_highOf 0 = .ok (.iload_n 0, 1) := by decide +kernel
theorem d_Md_highOf_1 : decode b_Md_highOf 1 = .ok (.iload_n 0, 1) := by decide +kernel
theorem d_Md_highOf_2 : decode b_Md_highOf 2 = .ok (.invokestatic 134, 3) := by decide +kernel
theorem d_Md_highOf_5 : decode b_Md_highOf 5 = .ok (.isub, 1) := by decide +kernel
theorem d_Md_highOf_6 : decode b_Md_highOf 6 = .ok (.ldc 138, 2) := by decide +kernel
theorem d_Md_highOf_8 : decode b_Md_highOf 8 = .ok (.if_icmp .ne 7, 3) := by decide +kernel
theorem d_Md_highOf_11 : decode b_Md_highOf 11 = .ok (.iconst 0, 1) := by decide +kernel
theorem d_Md_highOf_12 : decode b_Md_highOf 12 = .ok (.goto 13, 3) := by decide +kernel
theorem d_Md_highOf_15 : decode b_Md_highOf 15 = .ok (.iload_n 0, 1) := by decide +kernel
theorem d_Md_highOf_16 : decode b_Md_highOf 16 = .ok (.iload_n 0, 1) := by decide +kernel
theorem d_Md_highOf_17 : decode b_Md_highOf 17 = .ok (.invokestatic 134, 3) := by decide +kernel
theorem d_Md_highOf_20 : decode b_Md_highOf 20 = .ok (.isub, 1) := by decide +kernel
theorem d_Md_highOf_21 : decode b_Md_highOf 21 = .ok (.sipush 2046, 3) := by decide +kernel
theorem d_Md_highOf_24 : decode b_Md_highOf 24 = .ok (.idiv, 1) := by decide +kernel
theorem d_Md_highOf_25 : decode b_Md_highOf 25 = .ok (.ireturn, 1) := by decide +kernel
theorem d_Md_lowOf_0 : decode b_Md_lowOf 0 = .ok (.iload_n 0, 1) := by decide +kernel
theorem d_Md_lowOf_1 : decode b_Md_lowOf 1 = .ok (.iload_n 0, 1) := by decide +kernel
theorem d_Md_lowOf_2 : decode b_Md_lowOf 2 = .ok (.invokestatic 134, 3) := by decide +kernel
theorem d_Md_lowOf_5 : decode b_Md_lowOf 5 = .ok (.isub, 1) := by decide +kernel
theorem d_Md_lowOf_6 : decode b_Md_lowOf 6 = .ok (.ldc 138, 2) := by decide +kernel
theorem d_Md_lowOf_8 : decode b_Md_lowOf 8 = .ok (.if_icmp .ne 12, 3) := by decide +kernel
theorem d_Md_lowOf_11 : decode b_Md_lowOf 11 = .ok (.iload_n 0, 1) := by decide +kernel
theorem d_Md_lowOf_12 : decode b_Md_lowOf 12 = .ok (.invokestatic 134, 3) := by decide +kernel
theorem d_Md_lowOf_15 : decode b_Md_lowOf 15 = .ok (.iconst 1, 1) := by decide +kernel
theorem d_Md_lowOf_16 : decode b_Md_lowOf 16 = .ok (.isub, 1) := by decide +kernel
theorem d_Md_lowOf_17 : decode b_Md_lowOf 17 = .ok (.goto 7, 3) := by decide +kernel
theorem d_Md_lowOf_20 : decode b_Md_lowOf 20 = .ok (.iload_n 0, 1) := by decide +kernel
theorem d_Md_lowOf_21 : decode b_Md_lowOf 21 = .ok (.invokestatic 134, 3) := by decide +kernel
theorem d_Md_lowOf_24 : decode b_Md_lowOf 24 = .ok (.ireturn, 1) := by decide +kernel
theorem d_Md_hintOf_0 : decode b_Md_hintOf 0 = .ok (.iload_n 2, 1) := by decide +kernel
theorem d_Md_hintOf_1 : decode b_Md_hintOf 1 = .ok (.invokestatic 139, 3) := by decide +kernel
theorem d_Md_hintOf_4 : decode b_Md_hintOf 4 = .ok (.iload_n 2, 1) := by decide +kernel
theorem d_Md_hintOf_5 : decode b_Md_hintOf 5 = .ok (.i2l, 1) := by decide +kernel
theorem d_Md_hintOf_6 : decode b_Md_hintOf 6 = .ok (.lload_n 0, 1) := by decide +kernel
theorem d_Md_hintOf_7 : decode b_Md_hintOf 7 = .ok (.ladd, 1) := by decide +kernel
theorem d_Md_hintOf_8 : decode b_Md_hintOf 8 = .ok (.invokestatic 142, 3) := by decide +kernel
theorem d_Md_hintOf_11 : decode b_Md_hintOf 11 = .ok (.invokestatic 139, 3) := by decide +kernel
theorem d_Md_hintOf_14 : decode b_Md_hintOf 14 = .ok (.if_icmp .ne 7, 3) := by decide +kernel
theorem d_Md_hintOf_17 : decode b_Md_hintOf 17 = .ok (.iconst 0, 1) := by decide +kernel
theorem d_Md_hintOf_18 : decode b_Md_hintOf 18 = .ok (.goto 4, 3) := by decide +kernel
theorem d_Md_hintOf_21 : decode b_Md_hintOf 21 = .ok (.iconst 1, 1) := by decide +kernel
theorem d_Md_hintOf_22 : decode b_Md_hintOf 22 = .ok (.ireturn, 1) := by decide +kernel
theorem d_Md_correctedBy_0 : decode b_Md_correctedBy 0 = .ok (.iload_n 0, 1) := by decide +kernel
theorem d_Md_correctedBy_1 : decode b_Md_correctedBy 1 = .ok (.ifCond .ne 10, 3) := by decide +kernel
theorem d_Md_correctedBy_4 : decode b_Md_correctedBy 4 = .ok (.iload_n 1, 1) := by decide +kernel
theorem d_Md_correctedBy_5 : decode b_Md_correctedBy 5 = .ok (.invokestatic 139, 3) := by decide +kernel
theorem d_Md_correctedBy_8 : decode b_Md_correctedBy 8 = .ok (.goto 26, 3) := by decide +kernel
theorem d_Md_correctedBy_11 : decode b_Md_correctedBy 11 = .ok (.iload_n 1, 1) := by decide +kernel
theorem d_Md_correctedBy_12 : decode b_Md_correctedBy 12 = .ok (.invokestatic 139, 3) := by decide +kernel
theorem d_Md_correctedBy_15 : decode b_Md_correctedBy 15 = .ok (.iload_n 1, 1) := by decide +kernel
theorem d_Md_correctedBy_16 : decode b_Md_correctedBy 16 = .ok (.invokestatic 146, 3) := by decide +kernel
theorem d_Md_correctedBy_19 : decode b_Md_correctedBy 19 = .ok (.ifCond .le 7, 3) := by decide +kernel
theorem d_Md_correctedBy_22 : decode b_Md_correctedBy 22 = .ok (.iconst 1, 1) := by decide +kernel
theorem d_Md_correctedBy_23 : decode b_Md_correctedBy 23 = .ok (.goto 6, 3) := by decide +kernel
theorem d_Md_correctedBy_26 : decode b_Md_correctedBy 26 = .ok (.sipush 4095, 3) := by decide +kernel
theorem d_Md_correctedBy_29 : decode b_Md_correctedBy 29 = .ok (.iadd, 1) := by decide +kernel
theorem d_Md_correctedBy_30 : decode b_Md_correctedBy 30 = .ok (.sipush 4096, 3) := by decide +kernel
theorem d_Md_correctedBy_33 : decode b_Md_correctedBy 33 = .ok (.irem, 1) := by decide +kernel
theorem d_Md_correctedBy_34 : decode b_Md_correctedBy 34 = .ok (.ireturn, 1) := by decide +kernel
