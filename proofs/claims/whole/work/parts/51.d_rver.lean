theorem d_Md_readHints_0 : decode b_Md_readHints 0 = .ok (.aload_n 0, 1) := by decide +kernel
theorem d_Md_readHints_1 : decode b_Md_readHints 1 = .ok (.getfield 68, 3) := by decide +kernel
theorem d_Md_readHints_4 : decode b_Md_readHints 4 = .ok (.bipush 60, 2) := by decide +kernel
theorem d_Md_readHints_6 : decode b_Md_readHints 6 = .ok (.iaload, 1) := by decide +kernel
theorem d_Md_readHints_7 : decode b_Md_readHints 7 = .ok (.istore_n 1, 1) := by decide +kernel
theorem d_Md_readHints_8 : decode b_Md_readHints 8 = .ok (.aload_n 0, 1) := by decide +kernel
theorem d_Md_readHints_9 : decode b_Md_readHints 9 = .ok (.getfield 68, 3) := by decide +kernel
theorem d_Md_readHints_12 : decode b_Md_readHints 12 = .ok (.bipush 61, 2) := by decide +kernel
theorem d_Md_readHints_14 : decode b_Md_readHints 14 = .ok (.iaload, 1) := by decide +kernel
theorem d_Md_readHints_15 : decode b_Md_readHints 15 = .ok (.istore_n 2, 1) := by decide +kernel
theorem d_Md_readHints_16 : decode b_Md_readHints 16 = .ok (.iload_n 1, 1) := by decide +kernel
theorem d_Md_readHints_17 : decode b_Md_readHints 17 = .ok (.iload_n 2, 1) := by decide +kernel
theorem d_Md_readHints_18 : decode b_Md_readHints 18 = .ok (.if_icmp .gt 9, 3) := by decide +kernel
theorem d_Md_readHints_21 : decode b_Md_readHints 21 = .ok (.iload_n 2, 1) := by decide +kernel
theorem d_Md_readHints_22 : decode b_Md_readHints 22 = .ok (.bipush 12, 2) := by decide +kernel
theorem d_Md_readHints_24 : decode b_Md_readHints 24 = .ok (.if_icmp .le 5, 3) := by decide +kernel
theorem d_Md_readHints_27 : decode b_Md_readHints 27 = .ok (.iconst 0, 1) := by decide +kernel
theorem d_Md_readHints_28 : decode b_Md_readHints 28 = .ok (.ireturn, 1) := by decide +kernel
theorem d_Md_readHints_29 : decode b_Md_readHints 29 = .ok (.iconst 0, 1) := by decide +kernel
theorem d_Md_readHints_30 : decode b_Md_readHints 30 = .ok (.istore_n 3, 1) := by decide +kernel
theorem d_Md_readHints_31 : decode b_Md_readHints 31 = .ok (.iload_n 3, 1) := by decide +kernel
theorem d_Md_readHints_32 : decode b_Md_readHints 32 = .ok (.bipush 32, 2) := by decide +kernel
theorem d_Md_readHints_34 : decode b_Md_readHints 34 = .ok (.if_icmp .ge 16, 3) := by decide +kernel
theorem d_Md_readHints_37 : decode b_Md_readHints 37 = .ok (.aload_n 0, 1) := by decide +kernel
theorem d_Md_readHints_38 : decode b_Md_readHints 38 = .ok (.getfield 98, 3) := by decide +kernel
theorem d_Md_readHints_41 : decode b_Md_readHints 41 = .ok (.iload_n 3, 1) := by decide +kernel
theorem d_Md_readHints_42 : decode b_Md_readHints 42 = .ok (.iconst 0, 1) := by decide +kernel
theorem d_Md_readHints_43 : decode b_Md_readHints 43 = .ok (.iastore, 1) := by decide +kernel
theorem d_Md_readHints_44 : decode b_Md_readHints 44 = .ok (.iinc 3 1, 3) := by decide +kernel
theorem d_Md_readHints_47 : decode b_Md_readHints 47 = .ok (.goto (-16), 3) := by decide +kernel
theorem d_Md_readHints_50 : decode b_Md_readHints 50 = .ok (.iconst 0, 1) := by decide +kernel
theorem d_Md_readHints_51 : decode b_Md_readHints 51 = .ok (.istore_n 3, 1) := by decide +kernel
theorem d_Md_readHints_52 : decode b_Md_readHints 52 = .ok (.iload_n 3, 1) := by decide +kernel
theorem d_Md_readHints_53 : decode b_Md_readHints 53 = .ok (.bipush 12, 2) := by decide +kernel
theorem d_Md_readHints_55 : decode b_Md_readHints 55 = .ok (.if_icmp .ge 97, 3) := by decide +kernel
theorem d_Md_readHints_58 : decode b_Md_readHints 58 = .ok (.aload_n 0, 1) := by decide +kernel
theorem d_Md_readHints_59 : decode b_Md_readHints 59 = .ok (.getfield 68, 3) := by decide +kernel
theorem d_Md_readHints_62 : decode b_Md_readHints 62 = .ok (.bipush 48, 2) := by decide +kernel
theorem d_Md_readHints_64 : decode b_Md_readHints 64 = .ok (.iload_n 3, 1) := by decide +kernel
theorem d_Md_readHints_65 : decode b_Md_readHints 65 = .ok (.iadd, 1) := by decide +kernel
theorem d_Md_readHints_66 : decode b_Md_readHints 66 = .ok (.iaload, 1) := by decide +kernel
theorem d_Md_readHints_67 : decode b_Md_readHints 67 = .ok (.istore 4, 2) := by decide +kernel
theorem d_Md_readHints_69 : decode b_Md_readHints 69 = .ok (.iload_n 3, 1) := by decide +kernel
theorem d_Md_readHints_70 : decode b_Md_readHints 70 = .ok (.iload_n 2, 1) := by decide +kernel
theorem d_Md_readHints_71 : decode b_Md_readHints 71 = .ok (.if_icmp .lt 10, 3) := by decide +kernel
theorem d_Md_readHints_74 : decode b_Md_readHints 74 = .ok (.iload 4, 2) := by decide +kernel
theorem d_Md_readHints_76 : decode b_Md_readHints 76 = .ok (.ifCond .eq 70, 3) := by decide +kernel
theorem d_Md_readHints_79 : decode b_Md_readHints 79 = .ok (.iconst 0, 1) := by decide +kernel
theorem d_Md_readHints_80 : decode b_Md_readHints 80 = .ok (.ireturn, 1) := by decide +kernel
theorem d_Md_readHints_81 : decode b_Md_readHints 81 = .ok (.iload_n 3, 1) := by decide +kernel
theorem d_Md_readHints_82 : decode b_Md_readHints 82 = .ok (.ifCond .eq 22, 3) := by decide +kernel
theorem d_Md_readHints_85 : decode b_Md_readHints 85 = .ok (.iload_n 3, 1) := by decide +kernel
theorem d_Md_readHints_86 : decode b_Md_readHints 86 = .ok (.iload_n 1, 1) := by decide +kernel
theorem d_Md_readHints_87 : decode b_Md_readHints 87 = .ok (.if_icmp .eq 17, 3) := by decide +kernel
theorem d_Md_readHints_90 : decode b_Md_readHints 90 = .ok (.iload 4, 2) := by decide +kernel
theorem d_Md_readHints_92 : decode b_Md_readHints 92 = .ok (.aload_n 0, 1) := by decide +kernel
theorem d_Md_readHints_93 : decode b_Md_readHints 93 = .ok (.getfield 68, 3) := by decide +kernel
theorem d_Md_readHints_96 : decode b_Md_readHints 96 = .ok (.bipush 47, 2) := by decide +kernel
theorem d_Md_readHints_98 : decode b_Md_readHints 98 = .ok (.iload_n 3, 1) := by decide +kernel
theorem d_Md_readHints_99 : decode b_Md_readHints 99 = .ok (.iadd, 1) := by decide +kernel
theorem d_Md_readHints_100 : decode b_Md_readHints 100 = .ok (.iaload, 1) := by decide +kernel
theorem d_Md_readHints_101 : decode b_Md_readHints 101 = .ok (.if_icmp .le 7, 3) := by decide +kernel
theorem d_Md_readHints_104 : decode b_Md_readHints 104 = .ok (.iconst 1, 1) := by decide +kernel
theorem d_Md_readHints_105 : decode b_Md_readHints 105 = .ok (.goto 4, 3) := by decide +kernel
theorem d_Md_readHints_108 : decode b_Md_readHints 108 = .ok (.iconst 0, 1) := by decide +kernel
theorem d_Md_readHints_109 : decode b_Md_readHints 109 = .ok (.istore 5, 2) := by decide +kernel
theorem d_Md_readHints_111 : decode b_Md_readHints 111 = .ok (.iload 4, 2) := by decide +kernel
theorem d_Md_readHints_113 : decode b_Md_readHints 113 = .ok (.bipush 15, 2) := by decide +kernel
theorem d_Md_readHints_115 : decode b_Md_readHints 115 = .ok (.if_icmp .gt 8, 3) := by decide +kernel
theorem d_Md_readHints_118 : decode b_Md_readHints 118 = .ok (.iload 5, 2) := by decide +kernel
theorem d_Md_readHints_120 : decode b_Md_readHints 120 = .ok (.ifCond .ne 5, 3) := by decide +kernel
theorem d_Md_readHints_123 : decode b_Md_readHints 123 = .ok (.iconst 0, 1) := by decide +kernel
theorem d_Md_readHints_124 : decode b_Md_readHints 124 = .ok (.ireturn, 1) := by decide +kernel
theorem d_Md_readHints_125 : decode b_Md_readHints 125 = .ok (.aload_n 0, 1) := by decide +kernel
theorem d_Md_readHints_126 : decode b_Md_readHints 126 = .ok (.getfield 98, 3) := by decide +kernel
theorem d_Md_readHints_129 : decode b_Md_readHints 129 = .ok (.iload_n 3, 1) := by decide +kernel
theorem d_Md_readHints_130 : decode b_Md_readHints 130 = .ok (.iload_n 1, 1) := by decide +kernel
theorem d_Md_readHints_131 : decode b_Md_readHints 131 = .ok (.if_icmp .ge 8, 3) := by decide +kernel
theorem d_Md_readHints_134 : decode b_Md_readHints 134 = .ok (.iload 4, 2) := by decide +kernel
theorem d_Md_readHints_136 : decode b_Md_readHints 136 = .ok (.goto 8, 3) := by decide +kernel
theorem d_Md_readHints_139 : decode b_Md_readHints 139 = .ok (.bipush 16, 2) := by decide +kernel
theorem d_Md_readHints_141 : decode b_Md_readHints 141 = .ok (.iload 4, 2) := by decide +kernel
theorem d_Md_readHints_143 : decode b_Md_readHints 143 = .ok (.iadd, 1) := by decide +kernel
theorem d_Md_readHints_144 : decode b_Md_readHints 144 = .ok (.iconst 1, 1) := by decide +kernel
theorem d_Md_readHints_145 : decode b_Md_readHints 145 = .ok (.iastore, 1) := by decide +kernel
theorem d_Md_readHints_146 : decode b_Md_readHints 146 = .ok (.iinc 3 1, 3) := by decide +kernel
theorem d_Md_readHints_149 : decode b_Md_readHints 149 = .ok (.goto (-97), 3) := by decide +kernel
theorem d_Md_readHints_152 : decode b_Md_readHints 152 = .ok (.iconst 1, 1) := by decide +kernel
theorem d_Md_readHints_153 : decode b_Md_readHints 153 = .ok (.ireturn, 1) := by decide +kernel
theorem d_Md_verify_0 : decode b_Md_verify 0 = .ok (.aload_n 0, 1) := by decide +kernel
theorem d_Md_verify_1 : decode b_Md_verify 1 = .ok (.invokevirtual 236, 3) := by decide +kernel
theorem d_Md_verify_4 : decode b_Md_verify 4 = .ok (.ifCond .ne 5, 3) := by decide +kernel
theorem d_Md_verify_7 : decode b_Md_verify 7 = .ok (.iconst 0, 1) := by decide +kernel
theorem d_Md_verify_8 : decode b_Md_verify 8 = .ok (.ireturn, 1) := by decide +kernel
theorem d_Md_verify_9 : decode b_Md_verify 9 = .ok (.iconst 0, 1) := by decide +kernel
theorem d_Md_verify_10 : decode b_Md_verify 10 = .ok (.istore_n 1, 1) := by decide +kernel
theorem d_Md_verify_11 : decode b_Md_verify 11 = .ok (.iload_n 1, 1) := by decide +kernel
theorem d_Md_verify_12 : decode b_Md_verify 12 = .ok (.bipush 32, 2) := by decide +kernel
theorem d_Md_verify_14 : decode b_Md_verify 14 = .ok (.if_icmp .ge 69, 3) := by decide +kernel
theorem d_Md_verify_17 : decode b_Md_verify 17 = .ok (.aload_n 0, 1) := by decide +kernel
theorem d_Md_verify_18 : decode b_Md_verify 18 = .ok (.getfield 86, 3) := by decide +kernel
theorem d_Md_verify_21 : decode b_Md_verify 21 = .ok (.iload_n 1, 1) := by decide +kernel
theorem d_Md_verify_22 : decode b_Md_verify 22 = .ok (.sipush 512, 3) := by decide +kernel
theorem d_Md_verify_25 : decode b_Md_verify 25 = .ok (.aload_n 0, 1) := by decide +kernel
theorem d_Md_verify_26 : decode b_Md_verify 26 = .ok (.aload_n 0, 1) := by decide +kernel
theorem d_Md_verify_27 : decode b_Md_verify 27 = .ok (.getfield 68, 3) := by decide +kernel
theorem d_Md_verify_30 : decode b_Md_verify 30 = .ok (.bipush 8, 2) := by decide +kernel
theorem d_Md_verify_32 : decode b_Md_verify 32 = .ok (.bipush 10, 2) := by decide +kernel
theorem d_Md_verify_34 : decode b_Md_verify 34 = .ok (.iload_n 1, 1) := by decide +kernel
theorem d_Md_verify_35 : decode b_Md_verify 35 = .ok (.imul, 1) := by decide +kernel
theorem d_Md_verify_36 : decode b_Md_verify 36 = .ok (.bipush 10, 2) := by decide +kernel
theorem d_Md_verify_38 : decode b_Md_verify 38 = .ok (.invokevirtual 163, 3) := by decide +kernel
theorem d_Md_verify_41 : decode b_Md_verify 41 = .ok (.isub, 1) := by decide +kernel
theorem d_Md_verify_42 : decode b_Md_verify 42 = .ok (.i2l, 1) := by decide +kernel
theorem d_Md_verify_43 : decode b_Md_verify 43 = .ok (.invokestatic 142, 3) := by decide +kernel
theorem d_Md_verify_46 : decode b_Md_verify 46 = .ok (.iastore, 1) := by decide +kernel
theorem d_Md_verify_47 : decode b_Md_verify 47 = .ok (.aload_n 0, 1) := by decide +kernel
theorem d_Md_verify_48 : decode b_Md_verify 48 = .ok (.getfield 59, 3) := by decide +kernel
theorem d_Md_verify_51 : decode b_Md_verify 51 = .ok (.iload_n 1, 1) := by decide +kernel
theorem d_Md_verify_52 : decode b_Md_verify 52 = .ok (.ldc2_w 240, 3) := by decide +kernel
theorem d_Md_verify_55 : decode b_Md_verify 55 = .ok (.aload_n 0, 1) := by decide +kernel
theorem d_Md_verify_56 : decode b_Md_verify 56 = .ok (.aload_n 0, 1) := by decide +kernel
theorem d_Md_verify_57 : decode b_Md_verify 57 = .ok (.getfield 65, 3) := by decide +kernel
theorem d_Md_verify_60 : decode b_Md_verify 60 = .ok (.bipush 8, 2) := by decide +kernel
theorem d_Md_verify_62 : decode b_Md_verify 62 = .ok (.bipush 15, 2) := by decide +kernel
theorem d_Md_verify_64 : decode b_Md_verify 64 = .ok (.iload_n 1, 1) := by decide +kernel
theorem d_Md_verify_65 : decode b_Md_verify 65 = .ok (.imul, 1) := by decide +kernel
theorem d_Md_verify_66 : decode b_Md_verify 66 = .ok (.bipush 15, 2) := by decide +kernel
theorem d_Md_verify_68 : decode b_Md_verify 68 = .ok (.invokevirtual 163, 3) := by decide +kernel
theorem d_Md_verify_71 : decode b_Md_verify 71 = .ok (.i2l, 1) := by decide +kernel
theorem d_Md_verify_72 : decode b_Md_verify 72 = .ok (.lmul, 1) := by decide +kernel
theorem d_Md_verify_73 : decode b_Md_verify 73 = .ok (.invokestatic 142, 3) := by decide +kernel
theorem d_Md_verify_76 : decode b_Md_verify 76 = .ok (.iastore, 1) := by decide +kernel
theorem d_Md_verify_77 : decode b_Md_verify 77 = .ok (.iinc 1 1, 3) := by decide +kernel
theorem d_Md_verify_80 : decode b_Md_verify 80 = .ok (.goto (-69), 3) := by decide +kernel
theorem d_Md_verify_83 : decode b_Md_verify 83 = .ok (.aload_n 0, 1) := by decide +kernel
theorem d_Md_verify_84 : decode b_Md_verify 84 = .ok (.aload_n 0, 1) := by decide +kernel
theorem d_Md_verify_85 : decode b_Md_verify 85 = .ok (.getfield 86, 3) := by decide +kernel
theorem d_Md_verify_88 : decode b_Md_verify 88 = .ok (.sipush 504, 3) := by decide +kernel
theorem d_Md_verify_91 : decode b_Md_verify 91 = .ok (.invokevirtual 221, 3) := by decide +kernel
theorem d_Md_verify_94 : decode b_Md_verify 94 = .ok (.ifCond .eq 5, 3) := by decide +kernel
theorem d_Md_verify_97 : decode b_Md_verify 97 = .ok (.iconst 0, 1) := by decide +kernel
theorem d_Md_verify_98 : decode b_Md_verify 98 = .ok (.ireturn, 1) := by decide +kernel
theorem d_Md_verify_99 : decode b_Md_verify 99 = .ok (.aload_n 0, 1) := by decide +kernel
theorem d_Md_verify_100 : decode b_Md_verify 100 = .ok (.aload_n 0, 1) := by decide +kernel
theorem d_Md_verify_101 : decode b_Md_verify 101 = .ok (.getfield 65, 3) := by decide +kernel
theorem d_Md_verify_104 : decode b_Md_verify 104 = .ok (.iconst 0, 1) := by decide +kernel
theorem d_Md_verify_105 : decode b_Md_verify 105 = .ok (.bipush 68, 2) := by decide +kernel
theorem d_Md_verify_107 : decode b_Md_verify 107 = .ok (.invokevirtual 167, 3) := by decide +kernel
theorem d_Md_verify_110 : decode b_Md_verify 110 = .ok (.aload_n 0, 1) := by decide +kernel
theorem d_Md_verify_111 : decode b_Md_verify 111 = .ok (.invokevirtual 159, 3) := by decide +kernel
theorem d_Md_verify_114 : decode b_Md_verify 114 = .ok (.aload_n 0, 1) := by decide +kernel
theorem d_Md_verify_115 : decode b_Md_verify 115 = .ok (.aload_n 0, 1) := by decide +kernel
theorem d_Md_verify_116 : decode b_Md_verify 116 = .ok (.getfield 74, 3) := by decide +kernel
theorem d_Md_verify_119 : decode b_Md_verify 119 = .ok (.iconst 0, 1) := by decide +kernel
theorem d_Md_verify_120 : decode b_Md_verify 120 = .ok (.bipush 8, 2) := by decide +kernel
theorem d_Md_verify_122 : decode b_Md_verify 122 = .ok (.invokevirtual 179, 3) := by decide +kernel
theorem d_Md_verify_125 : decode b_Md_verify 125 = .ok (.aload_n 0, 1) := by decide +kernel
theorem d_Md_verify_126 : decode b_Md_verify 126 = .ok (.aload_n 0, 1) := by decide +kernel
theorem d_Md_verify_127 : decode b_Md_verify 127 = .ok (.getfield 74, 3) := by decide +kernel
theorem d_Md_verify_130 : decode b_Md_verify 130 = .ok (.iconst 0, 1) := by decide +kernel
theorem d_Md_verify_131 : decode b_Md_verify 131 = .ok (.bipush 8, 2) := by decide +kernel
theorem d_Md_verify_133 : decode b_Md_verify 133 = .ok (.invokevirtual 167, 3) := by decide +kernel
theorem d_Md_verify_136 : decode b_Md_verify 136 = .ok (.aload_n 0, 1) := by decide +kernel
theorem d_Md_verify_137 : decode b_Md_verify 137 = .ok (.aload_n 0, 1) := by decide +kernel
theorem d_Md_verify_138 : decode b_Md_verify 138 = .ok (.getfield 62, 3) := by decide +kernel
theorem d_Md_verify_141 : decode b_Md_verify 141 = .ok (.iconst 0, 1) := by decide +kernel
theorem d_Md_verify_142 : decode b_Md_verify 142 = .ok (.aload_n 0, 1) := by decide +kernel
theorem d_Md_verify_143 : decode b_Md_verify 143 = .ok (.getfield 204, 3) := by decide +kernel
theorem d_Md_verify_146 : decode b_Md_verify 146 = .ok (.invokevirtual 167, 3) := by decide +kernel
theorem d_Md_verify_149 : decode b_Md_verify 149 = .ok (.aload_n 0, 1) := by decide +kernel
theorem d_Md_verify_150 : decode b_Md_verify 150 = .ok (.invokevirtual 159, 3) := by decide +kernel
theorem d_Md_verify_153 : decode b_Md_verify 153 = .ok (.aload_n 0, 1) := by decide +kernel
theorem d_Md_verify_154 : decode b_Md_verify 154 = .ok (.aload_n 0, 1) := by decide +kernel
theorem d_Md_verify_155 : decode b_Md_verify 155 = .ok (.getfield 71, 3) := by decide +kernel
theorem d_Md_verify_158 : decode b_Md_verify 158 = .ok (.iconst 0, 1) := by decide +kernel
theorem d_Md_verify_159 : decode b_Md_verify 159 = .ok (.bipush 16, 2) := by decide +kernel
theorem d_Md_verify_161 : decode b_Md_verify 161 = .ok (.invokevirtual 179, 3) := by decide +kernel
theorem d_Md_verify_164 : decode b_Md_verify 164 = .ok (.aload_n 0, 1) := by decide +kernel
theorem d_Md_verify_165 : decode b_Md_verify 165 = .ok (.aload_n 0, 1) := by decide +kernel
theorem d_Md_verify_166 : decode b_Md_verify 166 = .ok (.getfield 65, 3) := by decide +kernel
theorem d_Md_verify_169 : decode b_Md_verify 169 = .ok (.aload_n 0, 1) := by decide +kernel
theorem d_Md_verify_170 : decode b_Md_verify 170 = .ok (.getfield 47, 3) := by decide +kernel
theorem d_Md_verify_173 : decode b_Md_verify 173 = .ok (.invokevirtual 182, 3) := by decide +kernel
theorem d_Md_verify_176 : decode b_Md_verify 176 = .ok (.aload_n 0, 1) := by decide +kernel
theorem d_Md_verify_177 : decode b_Md_verify 177 = .ok (.aload_n 0, 1) := by decide +kernel
theorem d_Md_verify_178 : decode b_Md_verify 178 = .ok (.getfield 47, 3) := by decide +kernel
theorem d_Md_verify_181 : decode b_Md_verify 181 = .ok (.aload_n 0, 1) := by decide +kernel
theorem d_Md_verify_182 : decode b_Md_verify 182 = .ok (.getfield 86, 3) := by decide +kernel
theorem d_Md_verify_185 : decode b_Md_verify 185 = .ok (.aload_n 0, 1) := by decide +kernel
theorem d_Md_verify_186 : decode b_Md_verify 186 = .ok (.getfield 83, 3) := by decide +kernel
theorem d_Md_verify_189 : decode b_Md_verify 189 = .ok (.invokevirtual 189, 3) := by decide +kernel
theorem d_Md_verify_192 : decode b_Md_verify 192 = .ok (.aload_n 0, 1) := by decide +kernel
theorem d_Md_verify_193 : decode b_Md_verify 193 = .ok (.aload_n 0, 1) := by decide +kernel
theorem d_Md_verify_194 : decode b_Md_verify 194 = .ok (.getfield 68, 3) := by decide +kernel
theorem d_Md_verify_197 : decode b_Md_verify 197 = .ok (.invokevirtual 213, 3) := by decide +kernel
theorem d_Md_verify_200 : decode b_Md_verify 200 = .ok (.aload_n 0, 1) := by decide +kernel
theorem d_Md_verify_201 : decode b_Md_verify 201 = .ok (.aload_n 0, 1) := by decide +kernel
theorem d_Md_verify_202 : decode b_Md_verify 202 = .ok (.getfield 59, 3) := by decide +kernel
theorem d_Md_verify_205 : decode b_Md_verify 205 = .ok (.iconst (-1), 1) := by decide +kernel
theorem d_Md_verify_206 : decode b_Md_verify 206 = .ok (.aload_n 0, 1) := by decide +kernel
theorem d_Md_verify_207 : decode b_Md_verify 207 = .ok (.getfield 83, 3) := by decide +kernel
theorem d_Md_verify_210 : decode b_Md_verify 210 = .ok (.aload_n 0, 1) := by decide +kernel
theorem d_Md_verify_211 : decode b_Md_verify 211 = .ok (.getfield 89, 3) := by decide +kernel
theorem d_Md_verify_214 : decode b_Md_verify 214 = .ok (.invokevirtual 217, 3) := by decide +kernel
theorem d_Md_verify_217 : decode b_Md_verify 217 = .ok (.iconst 0, 1) := by decide +kernel
theorem d_Md_verify_218 : decode b_Md_verify 218 = .ok (.istore_n 1, 1) := by decide +kernel
theorem d_Md_verify_219 : decode b_Md_verify 219 = .ok (.iload_n 1, 1) := by decide +kernel
theorem d_Md_verify_220 : decode b_Md_verify 220 = .ok (.bipush 32, 2) := by decide +kernel
theorem d_Md_verify_222 : decode b_Md_verify 222 = .ok (.if_icmp .ge 39, 3) := by decide +kernel
theorem d_Md_verify_225 : decode b_Md_verify 225 = .ok (.aload_n 0, 1) := by decide +kernel
theorem d_Md_verify_226 : decode b_Md_verify 226 = .ok (.aload_n 0, 1) := by decide +kernel
theorem d_Md_verify_227 : decode b_Md_verify 227 = .ok (.getfield 101, 3) := by decide +kernel
theorem d_Md_verify_230 : decode b_Md_verify 230 = .ok (.iconst 0, 1) := by decide +kernel
theorem d_Md_verify_231 : decode b_Md_verify 231 = .ok (.bipush 12, 2) := by decide +kernel
theorem d_Md_verify_233 : decode b_Md_verify 233 = .ok (.iload_n 1, 1) := by decide +kernel
theorem d_Md_verify_234 : decode b_Md_verify 234 = .ok (.imul, 1) := by decide +kernel
theorem d_Md_verify_235 : decode b_Md_verify 235 = .ok (.bipush 12, 2) := by decide +kernel
theorem d_Md_verify_237 : decode b_Md_verify 237 = .ok (.aload_n 0, 1) := by decide +kernel
theorem d_Md_verify_238 : decode b_Md_verify 238 = .ok (.getfield 98, 3) := by decide +kernel
theorem d_Md_verify_241 : decode b_Md_verify 241 = .ok (.iload_n 1, 1) := by decide +kernel
theorem d_Md_verify_242 : decode b_Md_verify 242 = .ok (.iaload, 1) := by decide +kernel
theorem d_Md_verify_243 : decode b_Md_verify 243 = .ok (.aload_n 0, 1) := by decide +kernel
theorem d_Md_verify_244 : decode b_Md_verify 244 = .ok (.getfield 89, 3) := by decide +kernel
theorem d_Md_verify_247 : decode b_Md_verify 247 = .ok (.iload_n 1, 1) := by decide +kernel
theorem d_Md_verify_248 : decode b_Md_verify 248 = .ok (.iaload, 1) := by decide +kernel
theorem d_Md_verify_249 : decode b_Md_verify 249 = .ok (.invokestatic 242, 3) := by decide +kernel
theorem d_Md_verify_252 : decode b_Md_verify 252 = .ok (.invokevirtual 196, 3) := by decide +kernel
theorem d_Md_verify_255 : decode b_Md_verify 255 = .ok (.iinc 1 1, 3) := by decide +kernel
theorem d_Md_verify_258 : decode b_Md_verify 258 = .ok (.goto (-39), 3) := by decide +kernel
theorem d_Md_verify_261 : decode b_Md_verify 261 = .ok (.aload_n 0, 1) := by decide +kernel
theorem d_Md_verify_262 : decode b_Md_verify 262 = .ok (.invokevirtual 210, 3) := by decide +kernel
theorem d_Md_verify_265 : decode b_Md_verify 265 = .ok (.iconst 0, 1) := by decide +kernel
theorem d_Md_verify_266 : decode b_Md_verify 266 = .ok (.istore_n 1, 1) := by decide +kernel
theorem d_Md_verify_267 : decode b_Md_verify 267 = .ok (.iload_n 1, 1) := by decide +kernel
theorem d_Md_verify_268 : decode b_Md_verify 268 = .ok (.bipush 8, 2) := by decide +kernel
theorem d_Md_verify_270 : decode b_Md_verify 270 = .ok (.if_icmp .ge 26, 3) := by decide +kernel
theorem d_Md_verify_273 : decode b_Md_verify 273 = .ok (.aload_n 0, 1) := by decide +kernel
theorem d_Md_verify_274 : decode b_Md_verify 274 = .ok (.getfield 29, 3) := by decide +kernel
theorem d_Md_verify_277 : decode b_Md_verify 277 = .ok (.iload_n 1, 1) := by decide +kernel
theorem d_Md_verify_278 : decode b_Md_verify 278 = .ok (.iaload, 1) := by decide +kernel
theorem d_Md_verify_279 : decode b_Md_verify 279 = .ok (.aload_n 0, 1) := by decide +kernel
theorem d_Md_verify_280 : decode b_Md_verify 280 = .ok (.getfield 68, 3) := by decide +kernel
theorem d_Md_verify_283 : decode b_Md_verify 283 = .ok (.iload_n 1, 1) := by decide +kernel
theorem d_Md_verify_284 : decode b_Md_verify 284 = .ok (.iaload, 1) := by decide +kernel
theorem d_Md_verify_285 : decode b_Md_verify 285 = .ok (.if_icmp .eq 5, 3) := by decide +kernel
theorem d_Md_verify_288 : decode b_Md_verify 288 = .ok (.iconst 0, 1) := by decide +kernel
theorem d_Md_verify_289 : decode b_Md_verify 289 = .ok (.ireturn, 1) := by decide +kernel
theorem d_Md_verify_290 : decode b_Md_verify 290 = .ok (.iinc 1 1, 3) := by decide +kernel
theorem d_Md_verify_293 : decode b_Md_verify 293 = .ok (.goto (-26), 3) := by decide +kernel
theorem d_Md_verify_296 : decode b_Md_verify 296 = .ok (.iconst 1, 1) := by decide +kernel
theorem d_Md_verify_297 : decode b_Md_verify 297 = .ok (.ireturn, 1) := by decide +kernel
