theorem d_Md_uniform_0 : decode b_Md_uniform 0 = .ok (.aload_n 0, 1) := by decide +kernel
theorem d_Md_uniform_1 : decode b_Md_uniform 1 = .ok (.invokevirtual 159, 3) := by decide +kernel
theorem d_Md_uniform_4 : decode b_Md_uniform 4 = .ok (.iconst 0, 1) := by decide +kernel
theorem d_Md_uniform_5 : decode b_Md_uniform 5 = .ok (.istore_n 3, 1) := by decide +kernel
theorem d_Md_uniform_6 : decode b_Md_uniform 6 = .ok (.iconst 0, 1) := by decide +kernel
theorem d_Md_uniform_7 : decode b_Md_uniform 7 = .ok (.istore 4, 2) := by decide +kernel
theorem d_Md_uniform_9 : decode b_Md_uniform 9 = .ok (.iload 4, 2) := by decide +kernel
theorem d_Md_uniform_11 : decode b_Md_uniform 11 = .ok (.bipush 16, 2) := by decide +kernel
theorem d_Md_uniform_13 : decode b_Md_uniform 13 = .ok (.if_icmp .ge 16, 3) := by decide +kernel
theorem d_Md_uniform_16 : decode b_Md_uniform 16 = .ok (.aload_n 1, 1) := by decide +kernel
theorem d_Md_uniform_17 : decode b_Md_uniform 17 = .ok (.iload_n 2, 1) := by decide +kernel
theorem d_Md_uniform_18 : decode b_Md_uniform 18 = .ok (.iload 4, 2) := by decide +kernel
theorem d_Md_uniform_20 : decode b_Md_uniform 20 = .ok (.iadd, 1) := by decide +kernel
theorem d_Md_uniform_21 : decode b_Md_uniform 21 = .ok (.iconst 0, 1) := by decide +kernel
theorem d_Md_uniform_22 : decode b_Md_uniform 22 = .ok (.iastore, 1) := by decide +kernel
theorem d_Md_uniform_23 : decode b_Md_uniform 23 = .ok (.iinc 4 1, 3) := by decide +kernel
theorem d_Md_uniform_26 : decode b_Md_uniform 26 = .ok (.goto (-17), 3) := by decide +kernel
theorem d_Md_uniform_29 : decode b_Md_uniform 29 = .ok (.iconst 0, 1) := by decide +kernel
theorem d_Md_uniform_30 : decode b_Md_uniform 30 = .ok (.istore 4, 2) := by decide +kernel
theorem d_Md_uniform_32 : decode b_Md_uniform 32 = .ok (.iload 4, 2) := by decide +kernel
theorem d_Md_uniform_34 : decode b_Md_uniform 34 = .ok (.bipush 45, 2) := by decide +kernel
theorem d_Md_uniform_36 : decode b_Md_uniform 36 = .ok (.if_icmp .ge 78, 3) := by decide +kernel
theorem d_Md_uniform_39 : decode b_Md_uniform 39 = .ok (.iload_n 3, 1) := by decide +kernel
theorem d_Md_uniform_40 : decode b_Md_uniform 40 = .ok (.bipush 16, 2) := by decide +kernel
theorem d_Md_uniform_42 : decode b_Md_uniform 42 = .ok (.if_icmp .ge 72, 3) := by decide +kernel
theorem d_Md_uniform_45 : decode b_Md_uniform 45 = .ok (.aload_n 0, 1) := by decide +kernel
theorem d_Md_uniform_46 : decode b_Md_uniform 46 = .ok (.getfield 29, 3) := by decide +kernel
theorem d_Md_uniform_49 : decode b_Md_uniform 49 = .ok (.iconst 3, 1) := by decide +kernel
theorem d_Md_uniform_50 : decode b_Md_uniform 50 = .ok (.iload 4, 2) := by decide +kernel
theorem d_Md_uniform_52 : decode b_Md_uniform 52 = .ok (.imul, 1) := by decide +kernel
theorem d_Md_uniform_53 : decode b_Md_uniform 53 = .ok (.iaload, 1) := by decide +kernel
theorem d_Md_uniform_54 : decode b_Md_uniform 54 = .ok (.sipush 256, 3) := by decide +kernel
theorem d_Md_uniform_57 : decode b_Md_uniform 57 = .ok (.aload_n 0, 1) := by decide +kernel
theorem d_Md_uniform_58 : decode b_Md_uniform 58 = .ok (.getfield 29, 3) := by decide +kernel
theorem d_Md_uniform_61 : decode b_Md_uniform 61 = .ok (.iconst 3, 1) := by decide +kernel
theorem d_Md_uniform_62 : decode b_Md_uniform 62 = .ok (.iload 4, 2) := by decide +kernel
theorem d_Md_uniform_64 : decode b_Md_uniform 64 = .ok (.imul, 1) := by decide +kernel
theorem d_Md_uniform_65 : decode b_Md_uniform 65 = .ok (.iconst 1, 1) := by decide +kernel
theorem d_Md_uniform_66 : decode b_Md_uniform 66 = .ok (.iadd, 1) := by decide +kernel
theorem d_Md_uniform_67 : decode b_Md_uniform 67 = .ok (.iaload, 1) := by decide +kernel
theorem d_Md_uniform_68 : decode b_Md_uniform 68 = .ok (.imul, 1) := by decide +kernel
theorem d_Md_uniform_69 : decode b_Md_uniform 69 = .ok (.iadd, 1) := by decide +kernel
theorem d_Md_uniform_70 : decode b_Md_uniform 70 = .ok (.ldc 162, 2) := by decide +kernel
theorem d_Md_uniform_72 : decode b_Md_uniform 72 = .ok (.aload_n 0, 1) := by decide +kernel
theorem d_Md_uniform_73 : decode b_Md_uniform 73 = .ok (.getfield 29, 3) := by decide +kernel
theorem d_Md_uniform_76 : decode b_Md_uniform 76 = .ok (.iconst 3, 1) := by decide +kernel
theorem d_Md_uniform_77 : decode b_Md_uniform 77 = .ok (.iload 4, 2) := by decide +kernel
theorem d_Md_uniform_79 : decode b_Md_uniform 79 = .ok (.imul, 1) := by decide +kernel
theorem d_Md_uniform_80 : decode b_Md_uniform 80 = .ok (.iconst 2, 1) := by decide +kernel
theorem d_Md_uniform_81 : decode b_Md_uniform 81 = .ok (.iadd, 1) := by decide +kernel
theorem d_Md_uniform_82 : decode b_Md_uniform 82 = .ok (.iaload, 1) := by decide +kernel
theorem d_Md_uniform_83 : decode b_Md_uniform 83 = .ok (.sipush 128, 3) := by decide +kernel
theorem d_Md_uniform_86 : decode b_Md_uniform 86 = .ok (.irem, 1) := by decide +kernel
theorem d_Md_uniform_87 : decode b_Md_uniform 87 = .ok (.imul, 1) := by decide +kernel
theorem d_Md_uniform_88 : decode b_Md_uniform 88 = .ok (.iadd, 1) := by decide +kernel
theorem d_Md_uniform_89 : decode b_Md_uniform 89 = .ok (.istore 5, 2) := by decide +kernel
theorem d_Md_uniform_91 : decode b_Md_uniform 91 = .ok (.iload 5, 2) := by decide +kernel
theorem d_Md_uniform_93 : decode b_Md_uniform 93 = .ok (.ldc 133, 2) := by decide +kernel
theorem d_Md_uniform_95 : decode b_Md_uniform 95 = .ok (.if_icmp .ge 13, 3) := by decide +kernel
theorem d_Md_uniform_98 : decode b_Md_uniform 98 = .ok (.aload_n 1, 1) := by decide +kernel
theorem d_Md_uniform_99 : decode b_Md_uniform 99 = .ok (.iload_n 2, 1) := by decide +kernel
theorem d_Md_uniform_100 : decode b_Md_uniform 100 = .ok (.iload_n 3, 1) := by decide +kernel
theorem d_Md_uniform_101 : decode b_Md_uniform 101 = .ok (.iadd, 1) := by decide +kernel
theorem d_Md_uniform_102 : decode b_Md_uniform 102 = .ok (.iload 5, 2) := by decide +kernel
theorem d_Md_uniform_104 : decode b_Md_uniform 104 = .ok (.iastore, 1) := by decide +kernel
theorem d_Md_uniform_105 : decode b_Md_uniform 105 = .ok (.iinc 3 1, 3) := by decide +kernel
theorem d_Md_uniform_108 : decode b_Md_uniform 108 = .ok (.iinc 4 1, 3) := by decide +kernel
theorem d_Md_uniform_111 : decode b_Md_uniform 111 = .ok (.goto (-79), 3) := by decide +kernel
theorem d_Md_uniform_114 : decode b_Md_uniform 114 = .ok (.return_, 1) := by decide +kernel
theorem d_Md_small_0 : decode b_Md_small 0 = .ok (.aload_n 0, 1) := by decide +kernel
theorem d_Md_small_1 : decode b_Md_small 1 = .ok (.invokevirtual 159, 3) := by decide +kernel
theorem d_Md_small_4 : decode b_Md_small 4 = .ok (.iconst 0, 1) := by decide +kernel
theorem d_Md_small_5 : decode b_Md_small 5 = .ok (.istore_n 3, 1) := by decide +kernel
theorem d_Md_small_6 : decode b_Md_small 6 = .ok (.iconst 0, 1) := by decide +kernel
theorem d_Md_small_7 : decode b_Md_small 7 = .ok (.istore 4, 2) := by decide +kernel
theorem d_Md_small_9 : decode b_Md_small 9 = .ok (.iload 4, 2) := by decide +kernel
theorem d_Md_small_11 : decode b_Md_small 11 = .ok (.bipush 16, 2) := by decide +kernel
theorem d_Md_small_13 : decode b_Md_small 13 = .ok (.if_icmp .ge 16, 3) := by decide +kernel
theorem d_Md_small_16 : decode b_Md_small 16 = .ok (.aload_n 1, 1) := by decide +kernel
theorem d_Md_small_17 : decode b_Md_small 17 = .ok (.iload_n 2, 1) := by decide +kernel
theorem d_Md_small_18 : decode b_Md_small 18 = .ok (.iload 4, 2) := by decide +kernel
theorem d_Md_small_20 : decode b_Md_small 20 = .ok (.iadd, 1) := by decide +kernel
theorem d_Md_small_21 : decode b_Md_small 21 = .ok (.iconst 0, 1) := by decide +kernel
theorem d_Md_small_22 : decode b_Md_small 22 = .ok (.iastore, 1) := by decide +kernel
theorem d_Md_small_23 : decode b_Md_small 23 = .ok (.iinc 4 1, 3) := by decide +kernel
theorem d_Md_small_26 : decode b_Md_small 26 = .ok (.goto (-17), 3) := by decide +kernel
theorem d_Md_small_29 : decode b_Md_small 29 = .ok (.iconst 0, 1) := by decide +kernel
theorem d_Md_small_30 : decode b_Md_small 30 = .ok (.istore 4, 2) := by decide +kernel
theorem d_Md_small_32 : decode b_Md_small 32 = .ok (.iload 4, 2) := by decide +kernel
theorem d_Md_small_34 : decode b_Md_small 34 = .ok (.sipush 128, 3) := by decide +kernel
theorem d_Md_small_37 : decode b_Md_small 37 = .ok (.if_icmp .ge 76, 3) := by decide +kernel
theorem d_Md_small_40 : decode b_Md_small 40 = .ok (.iload_n 3, 1) := by decide +kernel
theorem d_Md_small_41 : decode b_Md_small 41 = .ok (.bipush 16, 2) := by decide +kernel
theorem d_Md_small_43 : decode b_Md_small 43 = .ok (.if_icmp .ge 70, 3) := by decide +kernel
theorem d_Md_small_46 : decode b_Md_small 46 = .ok (.iload 4, 2) := by decide +kernel
theorem d_Md_small_48 : decode b_Md_small 48 = .ok (.iconst 2, 1) := by decide +kernel
theorem d_Md_small_49 : decode b_Md_small 49 = .ok (.irem, 1) := by decide +kernel
theorem d_Md_small_50 : decode b_Md_small 50 = .ok (.ifCond .ne 18, 3) := by decide +kernel
theorem d_Md_small_53 : decode b_Md_small 53 = .ok (.aload_n 0, 1) := by decide +kernel
theorem d_Md_small_54 : decode b_Md_small 54 = .ok (.getfield 29, 3) := by decide +kernel
theorem d_Md_small_57 : decode b_Md_small 57 = .ok (.iload 4, 2) := by decide +kernel
theorem d_Md_small_59 : decode b_Md_small 59 = .ok (.iconst 2, 1) := by decide +kernel
theorem d_Md_small_60 : decode b_Md_small 60 = .ok (.idiv, 1) := by decide +kernel
theorem d_Md_small_61 : decode b_Md_small 61 = .ok (.iaload, 1) := by decide +kernel
theorem d_Md_small_62 : decode b_Md_small 62 = .ok (.bipush 16, 2) := by decide +kernel
theorem d_Md_small_64 : decode b_Md_small 64 = .ok (.irem, 1) := by decide +kernel
theorem d_Md_small_65 : decode b_Md_small 65 = .ok (.goto 15, 3) := by decide +kernel
theorem d_Md_small_68 : decode b_Md_small 68 = .ok (.aload_n 0, 1) := by decide +kernel
theorem d_Md_small_69 : decode b_Md_small 69 = .ok (.getfield 29, 3) := by decide +kernel
theorem d_Md_small_72 : decode b_Md_small 72 = .ok (.iload 4, 2) := by decide +kernel
theorem d_Md_small_74 : decode b_Md_small 74 = .ok (.iconst 2, 1) := by decide +kernel
theorem d_Md_small_75 : decode b_Md_small 75 = .ok (.idiv, 1) := by decide +kernel
theorem d_Md_small_76 : decode b_Md_small 76 = .ok (.iaload, 1) := by decide +kernel
theorem d_Md_small_77 : decode b_Md_small 77 = .ok (.bipush 16, 2) := by decide +kernel
theorem d_Md_small_79 : decode b_Md_small 79 = .ok (.idiv, 1) := by decide +kernel
theorem d_Md_small_80 : decode b_Md_small 80 = .ok (.istore 5, 2) := by decide +kernel
theorem d_Md_small_82 : decode b_Md_small 82 = .ok (.iload 5, 2) := by decide +kernel
theorem d_Md_small_84 : decode b_Md_small 84 = .ok (.bipush 15, 2) := by decide +kernel
theorem d_Md_small_86 : decode b_Md_small 86 = .ok (.if_icmp .ge 21, 3) := by decide +kernel
theorem d_Md_small_89 : decode b_Md_small 89 = .ok (.aload_n 1, 1) := by decide +kernel
theorem d_Md_small_90 : decode b_Md_small 90 = .ok (.iload_n 2, 1) := by decide +kernel
theorem d_Md_small_91 : decode b_Md_small 91 = .ok (.iload_n 3, 1) := by decide +kernel
theorem d_Md_small_92 : decode b_Md_small 92 = .ok (.iadd, 1) := by decide +kernel
theorem d_Md_small_93 : decode b_Md_small 93 = .ok (.iconst 2, 1) := by decide +kernel
theorem d_Md_small_94 : decode b_Md_small 94 = .ok (.iload 5, 2) := by decide +kernel
theorem d_Md_small_96 : decode b_Md_small 96 = .ok (.iconst 5, 1) := by decide +kernel
theorem d_Md_small_97 : decode b_Md_small 97 = .ok (.irem, 1) := by decide +kernel
theorem d_Md_small_98 : decode b_Md_small 98 = .ok (.isub, 1) := by decide +kernel
theorem d_Md_small_99 : decode b_Md_small 99 = .ok (.i2l, 1) := by decide +kernel
theorem d_Md_small_100 : decode b_Md_small 100 = .ok (.invokestatic 142, 3) := by decide +kernel
theorem d_Md_small_103 : decode b_Md_small 103 = .ok (.iastore, 1) := by decide +kernel
theorem d_Md_small_104 : decode b_Md_small 104 = .ok (.iinc 3 1, 3) := by decide +kernel
theorem d_Md_small_107 : decode b_Md_small 107 = .ok (.iinc 4 1, 3) := by decide +kernel
theorem d_Md_small_110 : decode b_Md_small 110 = .ok (.goto (-78), 3) := by decide +kernel
theorem d_Md_small_113 : decode b_Md_small 113 = .ok (.return_, 1) := by decide +kernel
theorem d_Md_wide_0 : decode b_Md_wide 0 = .ok (.aload_n 0, 1) := by decide +kernel
theorem d_Md_wide_1 : decode b_Md_wide 1 = .ok (.invokevirtual 159, 3) := by decide +kernel
theorem d_Md_wide_4 : decode b_Md_wide 4 = .ok (.iconst 0, 1) := by decide +kernel
theorem d_Md_wide_5 : decode b_Md_wide 5 = .ok (.istore_n 3, 1) := by decide +kernel
theorem d_Md_wide_6 : decode b_Md_wide 6 = .ok (.iload_n 3, 1) := by decide +kernel
theorem d_Md_wide_7 : decode b_Md_wide 7 = .ok (.bipush 16, 2) := by decide +kernel
theorem d_Md_wide_9 : decode b_Md_wide 9 = .ok (.if_icmp .ge 37, 3) := by decide +kernel
theorem d_Md_wide_12 : decode b_Md_wide 12 = .ok (.aload_n 1, 1) := by decide +kernel
theorem d_Md_wide_13 : decode b_Md_wide 13 = .ok (.iload_n 2, 1) := by decide +kernel
theorem d_Md_wide_14 : decode b_Md_wide 14 = .ok (.iload_n 3, 1) := by decide +kernel
theorem d_Md_wide_15 : decode b_Md_wide 15 = .ok (.iadd, 1) := by decide +kernel
theorem d_Md_wide_16 : decode b_Md_wide 16 = .ok (.sipush 512, 3) := by decide +kernel
theorem d_Md_wide_19 : decode b_Md_wide 19 = .ok (.aload_n 0, 1) := by decide +kernel
theorem d_Md_wide_20 : decode b_Md_wide 20 = .ok (.aload_n 0, 1) := by decide +kernel
theorem d_Md_wide_21 : decode b_Md_wide 21 = .ok (.getfield 29, 3) := by decide +kernel
theorem d_Md_wide_24 : decode b_Md_wide 24 = .ok (.iconst 0, 1) := by decide +kernel
theorem d_Md_wide_25 : decode b_Md_wide 25 = .ok (.bipush 10, 2) := by decide +kernel
theorem d_Md_wide_27 : decode b_Md_wide 27 = .ok (.iload_n 3, 1) := by decide +kernel
theorem d_Md_wide_28 : decode b_Md_wide 28 = .ok (.imul, 1) := by decide +kernel
theorem d_Md_wide_29 : decode b_Md_wide 29 = .ok (.bipush 10, 2) := by decide +kernel
theorem d_Md_wide_31 : decode b_Md_wide 31 = .ok (.invokevirtual 163, 3) := by decide +kernel
theorem d_Md_wide_34 : decode b_Md_wide 34 = .ok (.isub, 1) := by decide +kernel
theorem d_Md_wide_35 : decode b_Md_wide 35 = .ok (.i2l, 1) := by decide +kernel
theorem d_Md_wide_36 : decode b_Md_wide 36 = .ok (.invokestatic 142, 3) := by decide +kernel
theorem d_Md_wide_39 : decode b_Md_wide 39 = .ok (.iastore, 1) := by decide +kernel
theorem d_Md_wide_40 : decode b_Md_wide 40 = .ok (.iinc 3 1, 3) := by decide +kernel
theorem d_Md_wide_43 : decode b_Md_wide 43 = .ok (.goto (-37), 3) := by decide +kernel
theorem d_Md_wide_46 : decode b_Md_wide 46 = .ok (.return_, 1) := by decide +kernel
theorem d_Md_ballOf_0 : decode b_Md_ballOf 0 = .ok (.aload_n 0, 1) := by decide +kernel
theorem d_Md_ballOf_1 : decode b_Md_ballOf 1 = .ok (.aload_n 1, 1) := by decide +kernel
theorem d_Md_ballOf_2 : decode b_Md_ballOf 2 = .ok (.iconst 0, 1) := by decide +kernel
theorem d_Md_ballOf_3 : decode b_Md_ballOf 3 = .ok (.bipush 8, 2) := by decide +kernel
theorem d_Md_ballOf_5 : decode b_Md_ballOf 5 = .ok (.invokevirtual 167, 3) := by decide +kernel
theorem d_Md_ballOf_8 : decode b_Md_ballOf 8 = .ok (.aload_n 0, 1) := by decide +kernel
theorem d_Md_ballOf_9 : decode b_Md_ballOf 9 = .ok (.invokevirtual 159, 3) := by decide +kernel
theorem d_Md_ballOf_12 : decode b_Md_ballOf 12 = .ok (.iconst 0, 1) := by decide +kernel
theorem d_Md_ballOf_13 : decode b_Md_ballOf 13 = .ok (.istore_n 2, 1) := by decide +kernel
theorem d_Md_ballOf_14 : decode b_Md_ballOf 14 = .ok (.iload_n 2, 1) := by decide +kernel
theorem d_Md_ballOf_15 : decode b_Md_ballOf 15 = .ok (.bipush 16, 2) := by decide +kernel
theorem d_Md_ballOf_17 : decode b_Md_ballOf 17 = .ok (.if_icmp .ge 16, 3) := by decide +kernel
theorem d_Md_ballOf_20 : decode b_Md_ballOf 20 = .ok (.aload_n 0, 1) := by decide +kernel
theorem d_Md_ballOf_21 : decode b_Md_ballOf 21 = .ok (.getfield 95, 3) := by decide +kernel
theorem d_Md_ballOf_24 : decode b_Md_ballOf 24 = .ok (.iload_n 2, 1) := by decide +kernel
theorem d_Md_ballOf_25 : decode b_Md_ballOf 25 = .ok (.iconst 0, 1) := by decide +kernel
theorem d_Md_ballOf_26 : decode b_Md_ballOf 26 = .ok (.iastore, 1) := by decide +kernel
theorem d_Md_ballOf_27 : decode b_Md_ballOf 27 = .ok (.iinc 2 1, 3) := by decide +kernel
theorem d_Md_ballOf_30 : decode b_Md_ballOf 30 = .ok (.goto (-16), 3) := by decide +kernel
theorem d_Md_ballOf_33 : decode b_Md_ballOf 33 = .ok (.iconst 1, 1) := by decide +kernel
theorem d_Md_ballOf_34 : decode b_Md_ballOf 34 = .ok (.istore_n 2, 1) := by decide +kernel
theorem d_Md_ballOf_35 : decode b_Md_ballOf 35 = .ok (.bipush 12, 2) := by decide +kernel
theorem d_Md_ballOf_37 : decode b_Md_ballOf 37 = .ok (.istore_n 3, 1) := by decide +kernel
theorem d_Md_ballOf_38 : decode b_Md_ballOf 38 = .ok (.iload_n 3, 1) := by decide +kernel
theorem d_Md_ballOf_39 : decode b_Md_ballOf 39 = .ok (.bipush 16, 2) := by decide +kernel
theorem d_Md_ballOf_41 : decode b_Md_ballOf 41 = .ok (.if_icmp .ge 100, 3) := by decide +kernel
theorem d_Md_ballOf_44 : decode b_Md_ballOf 44 = .ok (.iload_n 2, 1) := by decide +kernel
theorem d_Md_ballOf_45 : decode b_Md_ballOf 45 = .ok (.bipush 33, 2) := by decide +kernel
theorem d_Md_ballOf_47 : decode b_Md_ballOf 47 = .ok (.if_icmp .ge 22, 3) := by decide +kernel
theorem d_Md_ballOf_50 : decode b_Md_ballOf 50 = .ok (.aload_n 0, 1) := by decide +kernel
theorem d_Md_ballOf_51 : decode b_Md_ballOf 51 = .ok (.getfield 29, 3) := by decide +kernel
theorem d_Md_ballOf_54 : decode b_Md_ballOf 54 = .ok (.iload_n 2, 1) := by decide +kernel
theorem d_Md_ballOf_55 : decode b_Md_ballOf 55 = .ok (.iaload, 1) := by decide +kernel
theorem d_Md_ballOf_56 : decode b_Md_ballOf 56 = .ok (.bipush 16, 2) := by decide +kernel
theorem d_Md_ballOf_58 : decode b_Md_ballOf 58 = .ok (.irem, 1) := by decide +kernel
theorem d_Md_ballOf_59 : decode b_Md_ballOf 59 = .ok (.iload_n 3, 1) := by decide +kernel
theorem d_Md_ballOf_60 : decode b_Md_ballOf 60 = .ok (.if_icmp .le 9, 3) := by decide +kernel
theorem d_Md_ballOf_63 : decode b_Md_ballOf 63 = .ok (.iinc 2 1, 3) := by decide +kernel
theorem d_Md_ballOf_66 : decode b_Md_ballOf 66 = .ok (.goto (-22), 3) := by decide +kernel
theorem d_Md_ballOf_69 : decode b_Md_ballOf 69 = .ok (.iload_n 2, 1) := by decide +kernel
theorem d_Md_ballOf_70 : decode b_Md_ballOf 70 = .ok (.bipush 33, 2) := by decide +kernel
theorem d_Md_ballOf_72 : decode b_Md_ballOf 72 = .ok (.if_icmp .ge 15, 3) := by decide +kernel
theorem d_Md_ballOf_75 : decode b_Md_ballOf 75 = .ok (.aload_n 0, 1) := by decide +kernel
theorem d_Md_ballOf_76 : decode b_Md_ballOf 76 = .ok (.getfield 29, 3) := by decide +kernel
theorem d_Md_ballOf_79 : decode b_Md_ballOf 79 = .ok (.iload_n 2, 1) := by decide +kernel
theorem d_Md_ballOf_80 : decode b_Md_ballOf 80 = .ok (.iaload, 1) := by decide +kernel
theorem d_Md_ballOf_81 : decode b_Md_ballOf 81 = .ok (.bipush 16, 2) := by decide +kernel
theorem d_Md_ballOf_83 : decode b_Md_ballOf 83 = .ok (.irem, 1) := by decide +kernel
theorem d_Md_ballOf_84 : decode b_Md_ballOf 84 = .ok (.goto 4, 3) := by decide +kernel
theorem d_Md_ballOf_87 : decode b_Md_ballOf 87 = .ok (.iconst 0, 1) := by decide +kernel
theorem d_Md_ballOf_88 : decode b_Md_ballOf 88 = .ok (.istore 4, 2) := by decide +kernel
theorem d_Md_ballOf_90 : decode b_Md_ballOf 90 = .ok (.iinc 2 1, 3) := by decide +kernel
theorem d_Md_ballOf_93 : decode b_Md_ballOf 93 = .ok (.aload_n 0, 1) := by decide +kernel
theorem d_Md_ballOf_94 : decode b_Md_ballOf 94 = .ok (.getfield 95, 3) := by decide +kernel
theorem d_Md_ballOf_97 : decode b_Md_ballOf 97 = .ok (.iload_n 3, 1) := by decide +kernel
theorem d_Md_ballOf_98 : decode b_Md_ballOf 98 = .ok (.aload_n 0, 1) := by decide +kernel
theorem d_Md_ballOf_99 : decode b_Md_ballOf 99 = .ok (.getfield 95, 3) := by decide +kernel
theorem d_Md_ballOf_102 : decode b_Md_ballOf 102 = .ok (.iload 4, 2) := by decide +kernel
theorem d_Md_ballOf_104 : decode b_Md_ballOf 104 = .ok (.iaload, 1) := by decide +kernel
theorem d_Md_ballOf_105 : decode b_Md_ballOf 105 = .ok (.iastore, 1) := by decide +kernel
theorem d_Md_ballOf_106 : decode b_Md_ballOf 106 = .ok (.aload_n 0, 1) := by decide +kernel
theorem d_Md_ballOf_107 : decode b_Md_ballOf 107 = .ok (.getfield 95, 3) := by decide +kernel
theorem d_Md_ballOf_110 : decode b_Md_ballOf 110 = .ok (.iload 4, 2) := by decide +kernel
theorem d_Md_ballOf_112 : decode b_Md_ballOf 112 = .ok (.aload_n 0, 1) := by decide +kernel
theorem d_Md_ballOf_113 : decode b_Md_ballOf 113 = .ok (.getfield 29, 3) := by decide +kernel
theorem d_Md_ballOf_116 : decode b_Md_ballOf 116 = .ok (.iconst 0, 1) := by decide +kernel
theorem d_Md_ballOf_117 : decode b_Md_ballOf 117 = .ok (.iaload, 1) := by decide +kernel
theorem d_Md_ballOf_118 : decode b_Md_ballOf 118 = .ok (.iload_n 3, 1) := by decide +kernel
theorem d_Md_ballOf_119 : decode b_Md_ballOf 119 = .ok (.bipush 12, 2) := by decide +kernel
theorem d_Md_ballOf_121 : decode b_Md_ballOf 121 = .ok (.isub, 1) := by decide +kernel
theorem d_Md_ballOf_122 : decode b_Md_ballOf 122 = .ok (.ishr, 1) := by decide +kernel
theorem d_Md_ballOf_123 : decode b_Md_ballOf 123 = .ok (.iconst 1, 1) := by decide +kernel
theorem d_Md_ballOf_124 : decode b_Md_ballOf 124 = .ok (.iand, 1) := by decide +kernel
theorem d_Md_ballOf_125 : decode b_Md_ballOf 125 = .ok (.iconst 1, 1) := by decide +kernel
theorem d_Md_ballOf_126 : decode b_Md_ballOf 126 = .ok (.if_icmp .ne 7, 3) := by decide +kernel
theorem d_Md_ballOf_129 : decode b_Md_ballOf 129 = .ok (.iconst (-1), 1) := by decide +kernel
theorem d_Md_ballOf_130 : decode b_Md_ballOf 130 = .ok (.goto 4, 3) := by decide +kernel
theorem d_Md_ballOf_133 : decode b_Md_ballOf 133 = .ok (.iconst 1, 1) := by decide +kernel
theorem d_Md_ballOf_134 : decode b_Md_ballOf 134 = .ok (.iastore, 1) := by decide +kernel
theorem d_Md_ballOf_135 : decode b_Md_ballOf 135 = .ok (.iinc 3 1, 3) := by decide +kernel
theorem d_Md_ballOf_138 : decode b_Md_ballOf 138 = .ok (.goto (-100), 3) := by decide +kernel
theorem d_Md_ballOf_141 : decode b_Md_ballOf 141 = .ok (.return_, 1) := by decide +kernel
theorem d_Md_expand_0 : decode b_Md_expand 0 = .ok (.iconst 0, 1) := by decide +kernel
theorem d_Md_expand_1 : decode b_Md_expand 1 = .ok (.istore_n 3, 1) := by decide +kernel
theorem d_Md_expand_2 : decode b_Md_expand 2 = .ok (.iload_n 3, 1) := by decide +kernel
theorem d_Md_expand_3 : decode b_Md_expand 3 = .ok (.iconst 4, 1) := by decide +kernel
theorem d_Md_expand_4 : decode b_Md_expand 4 = .ok (.if_icmp .ge 31, 3) := by decide +kernel
theorem d_Md_expand_7 : decode b_Md_expand 7 = .ok (.aload_n 0, 1) := by decide +kernel
theorem d_Md_expand_8 : decode b_Md_expand 8 = .ok (.aload_n 1, 1) := by decide +kernel
theorem d_Md_expand_9 : decode b_Md_expand 9 = .ok (.iconst 0, 1) := by decide +kernel
theorem d_Md_expand_10 : decode b_Md_expand 10 = .ok (.bipush 8, 2) := by decide +kernel
theorem d_Md_expand_12 : decode b_Md_expand 12 = .ok (.invokevirtual 167, 3) := by decide +kernel
theorem d_Md_expand_15 : decode b_Md_expand 15 = .ok (.aload_n 0, 1) := by decide +kernel
theorem d_Md_expand_16 : decode b_Md_expand 16 = .ok (.iload_n 3, 1) := by decide +kernel
theorem d_Md_expand_17 : decode b_Md_expand 17 = .ok (.invokevirtual 127, 3) := by decide +kernel
theorem d_Md_expand_20 : decode b_Md_expand 20 = .ok (.aload_n 0, 1) := by decide +kernel
theorem d_Md_expand_21 : decode b_Md_expand 21 = .ok (.aload_n 2, 1) := by decide +kernel
theorem d_Md_expand_22 : decode b_Md_expand 22 = .ok (.bipush 16, 2) := by decide +kernel
theorem d_Md_expand_24 : decode b_Md_expand 24 = .ok (.iload_n 3, 1) := by decide +kernel
theorem d_Md_expand_25 : decode b_Md_expand 25 = .ok (.imul, 1) := by decide +kernel
theorem d_Md_expand_26 : decode b_Md_expand 26 = .ok (.invokevirtual 171, 3) := by decide +kernel
theorem d_Md_expand_29 : decode b_Md_expand 29 = .ok (.iinc 3 1, 3) := by decide +kernel
theorem d_Md_expand_32 : decode b_Md_expand 32 = .ok (.goto (-30), 3) := by decide +kernel
theorem d_Md_expand_35 : decode b_Md_expand 35 = .ok (.return_, 1) := by decide +kernel
theorem d_Md_sealing_0 : decode b_Md_sealing 0 = .ok (.aload_n 0, 1) := by decide +kernel
theorem d_Md_sealing_1 : decode b_Md_sealing 1 = .ok (.aload_n 0, 1) := by decide +kernel
theorem d_Md_sealing_2 : decode b_Md_sealing 2 = .ok (.getfield 71, 3) := by decide +kernel
theorem d_Md_sealing_5 : decode b_Md_sealing 5 = .ok (.iconst 0, 1) := by decide +kernel
theorem d_Md_sealing_6 : decode b_Md_sealing 6 = .ok (.bipush 16, 2) := by decide +kernel
theorem d_Md_sealing_8 : decode b_Md_sealing 8 = .ok (.invokevirtual 167, 3) := by decide +kernel
theorem d_Md_sealing_11 : decode b_Md_sealing 11 = .ok (.aload_n 0, 1) := by decide +kernel
theorem d_Md_sealing_12 : decode b_Md_sealing 12 = .ok (.aload_n 0, 1) := by decide +kernel
theorem d_Md_sealing_13 : decode b_Md_sealing 13 = .ok (.getfield 101, 3) := by decide +kernel
theorem d_Md_sealing_16 : decode b_Md_sealing 16 = .ok (.iconst 0, 1) := by decide +kernel
theorem d_Md_sealing_17 : decode b_Md_sealing 17 = .ok (.bipush 48, 2) := by decide +kernel
theorem d_Md_sealing_19 : decode b_Md_sealing 19 = .ok (.invokevirtual 167, 3) := by decide +kernel
theorem d_Md_sealing_22 : decode b_Md_sealing 22 = .ok (.aload_n 0, 1) := by decide +kernel
theorem d_Md_sealing_23 : decode b_Md_sealing 23 = .ok (.invokevirtual 159, 3) := by decide +kernel
theorem d_Md_sealing_26 : decode b_Md_sealing 26 = .ok (.return_, 1) := by decide +kernel
