theorem d_Md_write_0 : decode b_Md_write 0 = .ok (.iconst 0, 1) := by decide +kernel
theorem d_Md_write_1 : decode b_Md_write 1 = .ok (.istore_n 1, 1) := by decide +kernel
theorem d_Md_write_2 : decode b_Md_write 2 = .ok (.iload_n 1, 1) := by decide +kernel
theorem d_Md_write_3 : decode b_Md_write 3 = .ok (.bipush 62, 2) := by decide +kernel
theorem d_Md_write_5 : decode b_Md_write 5 = .ok (.if_icmp .ge 31, 3) := by decide +kernel
theorem d_Md_write_8 : decode b_Md_write 8 = .ok (.aload_n 0, 1) := by decide +kernel
theorem d_Md_write_9 : decode b_Md_write 9 = .ok (.getfield 68, 3) := by decide +kernel
theorem d_Md_write_12 : decode b_Md_write 12 = .ok (.iload_n 1, 1) := by decide +kernel
theorem d_Md_write_13 : decode b_Md_write 13 = .ok (.iload_n 1, 1) := by decide +kernel
theorem d_Md_write_14 : decode b_Md_write 14 = .ok (.bipush 8, 2) := by decide +kernel
theorem d_Md_write_16 : decode b_Md_write 16 = .ok (.if_icmp .ge 12, 3) := by decide +kernel
theorem d_Md_write_19 : decode b_Md_write 19 = .ok (.aload_n 0, 1) := by decide +kernel
theorem d_Md_write_20 : decode b_Md_write 20 = .ok (.getfield 77, 3) := by decide +kernel
theorem d_Md_write_23 : decode b_Md_write 23 = .ok (.iload_n 1, 1) := by decide +kernel
theorem d_Md_write_24 : decode b_Md_write 24 = .ok (.iaload, 1) := by decide +kernel
theorem d_Md_write_25 : decode b_Md_write 25 = .ok (.goto 4, 3) := by decide +kernel
theorem d_Md_write_28 : decode b_Md_write 28 = .ok (.iconst 0, 1) := by decide +kernel
theorem d_Md_write_29 : decode b_Md_write 29 = .ok (.iastore, 1) := by decide +kernel
theorem d_Md_write_30 : decode b_Md_write 30 = .ok (.iinc 1 1, 3) := by decide +kernel
theorem d_Md_write_33 : decode b_Md_write 33 = .ok (.goto (-31), 3) := by decide +kernel
theorem d_Md_write_36 : decode b_Md_write 36 = .ok (.iconst 0, 1) := by decide +kernel
theorem d_Md_write_37 : decode b_Md_write 37 = .ok (.istore_n 1, 1) := by decide +kernel
theorem d_Md_write_38 : decode b_Md_write 38 = .ok (.iload_n 1, 1) := by decide +kernel
theorem d_Md_write_39 : decode b_Md_write 39 = .ok (.bipush 32, 2) := by decide +kernel
theorem d_Md_write_41 : decode b_Md_write 41 = .ok (.if_icmp .ge 38, 3) := by decide +kernel
theorem d_Md_write_44 : decode b_Md_write 44 = .ok (.aload_n 0, 1) := by decide +kernel
theorem d_Md_write_45 : decode b_Md_write 45 = .ok (.aload_n 0, 1) := by decide +kernel
theorem d_Md_write_46 : decode b_Md_write 46 = .ok (.getfield 68, 3) := by decide +kernel
theorem d_Md_write_49 : decode b_Md_write 49 = .ok (.bipush 8, 2) := by decide +kernel
theorem d_Md_write_51 : decode b_Md_write 51 = .ok (.bipush 10, 2) := by decide +kernel
theorem d_Md_write_53 : decode b_Md_write 53 = .ok (.iload_n 1, 1) := by decide +kernel
theorem d_Md_write_54 : decode b_Md_write 54 = .ok (.imul, 1) := by decide +kernel
theorem d_Md_write_55 : decode b_Md_write 55 = .ok (.bipush 10, 2) := by decide +kernel
theorem d_Md_write_57 : decode b_Md_write 57 = .ok (.sipush 512, 3) := by decide +kernel
theorem d_Md_write_60 : decode b_Md_write 60 = .ok (.aload_n 0, 1) := by decide +kernel
theorem d_Md_write_61 : decode b_Md_write 61 = .ok (.getfield 86, 3) := by decide +kernel
theorem d_Md_write_64 : decode b_Md_write 64 = .ok (.iload_n 1, 1) := by decide +kernel
theorem d_Md_write_65 : decode b_Md_write 65 = .ok (.iaload, 1) := by decide +kernel
theorem d_Md_write_66 : decode b_Md_write 66 = .ok (.invokestatic 156, 3) := by decide +kernel
theorem d_Md_write_69 : decode b_Md_write 69 = .ok (.isub, 1) := by decide +kernel
theorem d_Md_write_70 : decode b_Md_write 70 = .ok (.invokevirtual 196, 3) := by decide +kernel
theorem d_Md_write_73 : decode b_Md_write 73 = .ok (.iinc 1 1, 3) := by decide +kernel
theorem d_Md_write_76 : decode b_Md_write 76 = .ok (.goto (-38), 3) := by decide +kernel
theorem d_Md_write_79 : decode b_Md_write 79 = .ok (.iconst 0, 1) := by decide +kernel
theorem d_Md_write_80 : decode b_Md_write 80 = .ok (.istore_n 1, 1) := by decide +kernel
theorem d_Md_write_81 : decode b_Md_write 81 = .ok (.iconst 0, 1) := by decide +kernel
theorem d_Md_write_82 : decode b_Md_write 82 = .ok (.istore_n 2, 1) := by decide +kernel
theorem d_Md_write_83 : decode b_Md_write 83 = .ok (.iload_n 2, 1) := by decide +kernel
theorem d_Md_write_84 : decode b_Md_write 84 = .ok (.bipush 32, 2) := by decide +kernel
theorem d_Md_write_86 : decode b_Md_write 86 = .ok (.if_icmp .ge 59, 3) := by decide +kernel
theorem d_Md_write_89 : decode b_Md_write 89 = .ok (.aload_n 0, 1) := by decide +kernel
theorem d_Md_write_90 : decode b_Md_write 90 = .ok (.getfield 98, 3) := by decide +kernel
theorem d_Md_write_93 : decode b_Md_write 93 = .ok (.iload_n 2, 1) := by decide +kernel
theorem d_Md_write_94 : decode b_Md_write 94 = .ok (.iaload, 1) := by decide +kernel
theorem d_Md_write_95 : decode b_Md_write 95 = .ok (.iconst 1, 1) := by decide +kernel
theorem d_Md_write_96 : decode b_Md_write 96 = .ok (.if_icmp .ne 43, 3) := by decide +kernel
theorem d_Md_write_99 : decode b_Md_write 99 = .ok (.aload_n 0, 1) := by decide +kernel
theorem d_Md_write_100 : decode b_Md_write 100 = .ok (.getfield 68, 3) := by decide +kernel
theorem d_Md_write_103 : decode b_Md_write 103 = .ok (.bipush 48, 2) := by decide +kernel
theorem d_Md_write_105 : decode b_Md_write 105 = .ok (.iload_n 1, 1) := by decide +kernel
theorem d_Md_write_106 : decode b_Md_write 106 = .ok (.iadd, 1) := by decide +kernel
theorem d_Md_write_107 : decode b_Md_write 107 = .ok (.iload_n 2, 1) := by decide +kernel
theorem d_Md_write_108 : decode b_Md_write 108 = .ok (.bipush 16, 2) := by decide +kernel
theorem d_Md_write_110 : decode b_Md_write 110 = .ok (.irem, 1) := by decide +kernel
theorem d_Md_write_111 : decode b_Md_write 111 = .ok (.iastore, 1) := by decide +kernel
theorem d_Md_write_112 : decode b_Md_write 112 = .ok (.iinc 1 1, 3) := by decide +kernel
theorem d_Md_write_115 : decode b_Md_write 115 = .ok (.aload_n 0, 1) := by decide +kernel
theorem d_Md_write_116 : decode b_Md_write 116 = .ok (.getfield 68, 3) := by decide +kernel
theorem d_Md_write_119 : decode b_Md_write 119 = .ok (.bipush 60, 2) := by decide +kernel
theorem d_Md_write_121 : decode b_Md_write 121 = .ok (.iload_n 2, 1) := by decide +kernel
theorem d_Md_write_122 : decode b_Md_write 122 = .ok (.bipush 16, 2) := by decide +kernel
theorem d_Md_write_124 : decode b_Md_write 124 = .ok (.if_icmp .ge 7, 3) := by decide +kernel
theorem d_Md_write_127 : decode b_Md_write 127 = .ok (.iload_n 1, 1) := by decide +kernel
theorem d_Md_write_128 : decode b_Md_write 128 = .ok (.goto 10, 3) := by decide +kernel
theorem d_Md_write_131 : decode b_Md_write 131 = .ok (.aload_n 0, 1) := by decide +kernel
theorem d_Md_write_132 : decode b_Md_write 132 = .ok (.getfield 68, 3) := by decide +kernel
theorem d_Md_write_135 : decode b_Md_write 135 = .ok (.bipush 60, 2) := by decide +kernel
theorem d_Md_write_137 : decode b_Md_write 137 = .ok (.iaload, 1) := by decide +kernel
theorem d_Md_write_138 : decode b_Md_write 138 = .ok (.iastore, 1) := by decide +kernel
theorem d_Md_write_139 : decode b_Md_write 139 = .ok (.iinc 2 1, 3) := by decide +kernel
theorem d_Md_write_142 : decode b_Md_write 142 = .ok (.goto (-59), 3) := by decide +kernel
theorem d_Md_write_145 : decode b_Md_write 145 = .ok (.aload_n 0, 1) := by decide +kernel
theorem d_Md_write_146 : decode b_Md_write 146 = .ok (.getfield 68, 3) := by decide +kernel
theorem d_Md_write_149 : decode b_Md_write 149 = .ok (.bipush 61, 2) := by decide +kernel
theorem d_Md_write_151 : decode b_Md_write 151 = .ok (.iload_n 1, 1) := by decide +kernel
theorem d_Md_write_152 : decode b_Md_write 152 = .ok (.iastore, 1) := by decide +kernel
theorem d_Md_write_153 : decode b_Md_write 153 = .ok (.return_, 1) := by decide +kernel
theorem d_Md_sign_0 : decode b_Md_sign 0 = .ok (.aload_n 0, 1) := by decide +kernel
theorem d_Md_sign_1 : decode b_Md_sign 1 = .ok (.getfield 200, 3) := by decide +kernel
theorem d_Md_sign_4 : decode b_Md_sign 4 = .ok (.ifCond .eq 14, 3) := by decide +kernel
theorem d_Md_sign_7 : decode b_Md_sign 7 = .ok (.iload_n 3, 1) := by decide +kernel
theorem d_Md_sign_8 : decode b_Md_sign 8 = .ok (.iconst 1, 1) := by decide +kernel
theorem d_Md_sign_9 : decode b_Md_sign 9 = .ok (.if_icmp .lt 9, 3) := by decide +kernel
theorem d_Md_sign_12 : decode b_Md_sign 12 = .ok (.iload_n 3, 1) := by decide +kernel
theorem d_Md_sign_13 : decode b_Md_sign 13 = .ok (.bipush 30, 2) := by decide +kernel
theorem d_Md_sign_15 : decode b_Md_sign 15 = .ok (.if_icmp .le 5, 3) := by decide +kernel
theorem d_Md_sign_18 : decode b_Md_sign 18 = .ok (.iconst (-1), 1) := by decide +kernel
theorem d_Md_sign_19 : decode b_Md_sign 19 = .ok (.ireturn, 1) := by decide +kernel
theorem d_Md_sign_20 : decode b_Md_sign 20 = .ok (.aload_n 0, 1) := by decide +kernel
theorem d_Md_sign_21 : decode b_Md_sign 21 = .ok (.aload_n 0, 1) := by decide +kernel
theorem d_Md_sign_22 : decode b_Md_sign 22 = .ok (.getfield 41, 3) := by decide +kernel
theorem d_Md_sign_25 : decode b_Md_sign 25 = .ok (.iconst 0, 1) := by decide +kernel
theorem d_Md_sign_26 : decode b_Md_sign 26 = .ok (.bipush 8, 2) := by decide +kernel
theorem d_Md_sign_28 : decode b_Md_sign 28 = .ok (.invokevirtual 167, 3) := by decide +kernel
theorem d_Md_sign_31 : decode b_Md_sign 31 = .ok (.aload_n 0, 1) := by decide +kernel
theorem d_Md_sign_32 : decode b_Md_sign 32 = .ok (.aload_n 0, 1) := by decide +kernel
theorem d_Md_sign_33 : decode b_Md_sign 33 = .ok (.getfield 62, 3) := by decide +kernel
theorem d_Md_sign_36 : decode b_Md_sign 36 = .ok (.iconst 0, 1) := by decide +kernel
theorem d_Md_sign_37 : decode b_Md_sign 37 = .ok (.aload_n 0, 1) := by decide +kernel
theorem d_Md_sign_38 : decode b_Md_sign 38 = .ok (.getfield 204, 3) := by decide +kernel
theorem d_Md_sign_41 : decode b_Md_sign 41 = .ok (.invokevirtual 167, 3) := by decide +kernel
theorem d_Md_sign_44 : decode b_Md_sign 44 = .ok (.aload_n 0, 1) := by decide +kernel
theorem d_Md_sign_45 : decode b_Md_sign 45 = .ok (.invokevirtual 159, 3) := by decide +kernel
theorem d_Md_sign_48 : decode b_Md_sign 48 = .ok (.aload_n 0, 1) := by decide +kernel
theorem d_Md_sign_49 : decode b_Md_sign 49 = .ok (.aload_n 0, 1) := by decide +kernel
theorem d_Md_sign_50 : decode b_Md_sign 50 = .ok (.getfield 71, 3) := by decide +kernel
theorem d_Md_sign_53 : decode b_Md_sign 53 = .ok (.iconst 0, 1) := by decide +kernel
theorem d_Md_sign_54 : decode b_Md_sign 54 = .ok (.bipush 16, 2) := by decide +kernel
theorem d_Md_sign_56 : decode b_Md_sign 56 = .ok (.invokevirtual 179, 3) := by decide +kernel
theorem d_Md_sign_59 : decode b_Md_sign 59 = .ok (.aload_n 0, 1) := by decide +kernel
theorem d_Md_sign_60 : decode b_Md_sign 60 = .ok (.aload_n 0, 1) := by decide +kernel
theorem d_Md_sign_61 : decode b_Md_sign 61 = .ok (.getfield 38, 3) := by decide +kernel
theorem d_Md_sign_64 : decode b_Md_sign 64 = .ok (.iconst 0, 1) := by decide +kernel
theorem d_Md_sign_65 : decode b_Md_sign 65 = .ok (.bipush 8, 2) := by decide +kernel
theorem d_Md_sign_67 : decode b_Md_sign 67 = .ok (.invokevirtual 167, 3) := by decide +kernel
theorem d_Md_sign_70 : decode b_Md_sign 70 = .ok (.aload_n 0, 1) := by decide +kernel
theorem d_Md_sign_71 : decode b_Md_sign 71 = .ok (.lload_n 1, 1) := by decide +kernel
theorem d_Md_sign_72 : decode b_Md_sign 72 = .ok (.invokevirtual 175, 3) := by decide +kernel
theorem d_Md_sign_75 : decode b_Md_sign 75 = .ok (.aload_n 0, 1) := by decide +kernel
theorem d_Md_sign_76 : decode b_Md_sign 76 = .ok (.aload_n 0, 1) := by decide +kernel
theorem d_Md_sign_77 : decode b_Md_sign 77 = .ok (.getfield 71, 3) := by decide +kernel
theorem d_Md_sign_80 : decode b_Md_sign 80 = .ok (.iconst 0, 1) := by decide +kernel
theorem d_Md_sign_81 : decode b_Md_sign 81 = .ok (.bipush 16, 2) := by decide +kernel
theorem d_Md_sign_83 : decode b_Md_sign 83 = .ok (.invokevirtual 167, 3) := by decide +kernel
theorem d_Md_sign_86 : decode b_Md_sign 86 = .ok (.aload_n 0, 1) := by decide +kernel
theorem d_Md_sign_87 : decode b_Md_sign 87 = .ok (.invokevirtual 159, 3) := by decide +kernel
theorem d_Md_sign_90 : decode b_Md_sign 90 = .ok (.aload_n 0, 1) := by decide +kernel
theorem d_Md_sign_91 : decode b_Md_sign 91 = .ok (.aload_n 0, 1) := by decide +kernel
theorem d_Md_sign_92 : decode b_Md_sign 92 = .ok (.getfield 74, 3) := by decide +kernel
theorem d_Md_sign_95 : decode b_Md_sign 95 = .ok (.iconst 0, 1) := by decide +kernel
theorem d_Md_sign_96 : decode b_Md_sign 96 = .ok (.bipush 16, 2) := by decide +kernel
theorem d_Md_sign_98 : decode b_Md_sign 98 = .ok (.invokevirtual 179, 3) := by decide +kernel
theorem d_Md_sign_101 : decode b_Md_sign 101 = .ok (.iconst 1, 1) := by decide +kernel
theorem d_Md_sign_102 : decode b_Md_sign 102 = .ok (.istore 4, 2) := by decide +kernel
theorem d_Md_sign_104 : decode b_Md_sign 104 = .ok (.iload 4, 2) := by decide +kernel
theorem d_Md_sign_106 : decode b_Md_sign 106 = .ok (.iload_n 3, 1) := by decide +kernel
theorem d_Md_sign_107 : decode b_Md_sign 107 = .ok (.if_icmp .gt 25, 3) := by decide +kernel
theorem d_Md_sign_110 : decode b_Md_sign 110 = .ok (.aload_n 0, 1) := by decide +kernel
theorem d_Md_sign_111 : decode b_Md_sign 111 = .ok (.iload 4, 2) := by decide +kernel
theorem d_Md_sign_113 : decode b_Md_sign 113 = .ok (.invokevirtual 229, 3) := by decide +kernel
theorem d_Md_sign_116 : decode b_Md_sign 116 = .ok (.ifCond .eq 10, 3) := by decide +kernel
theorem d_Md_sign_119 : decode b_Md_sign 119 = .ok (.aload_n 0, 1) := by decide +kernel
theorem d_Md_sign_120 : decode b_Md_sign 120 = .ok (.invokevirtual 233, 3) := by decide +kernel
theorem d_Md_sign_123 : decode b_Md_sign 123 = .ok (.iload 4, 2) := by decide +kernel
theorem d_Md_sign_125 : decode b_Md_sign 125 = .ok (.ireturn, 1) := by decide +kernel
theorem d_Md_sign_126 : decode b_Md_sign 126 = .ok (.iinc 4 1, 3) := by decide +kernel
theorem d_Md_sign_129 : decode b_Md_sign 129 = .ok (.goto (-25), 3) := by decide +kernel
theorem d_Md_sign_132 : decode b_Md_sign 132 = .ok (.bipush (-2), 2) := by decide +kernel
theorem d_Md_sign_134 : decode b_Md_sign 134 = .ok (.ireturn, 1) := by decide +kernel
