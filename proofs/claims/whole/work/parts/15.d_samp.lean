theorem d_Arrays_fill_II_0 : decode b_Arrays_fill_II 0 = .ok (.iconst 0, 1) := by decide +kernel
theorem d_Arrays_fill_II_1 : decode b_Arrays_fill_II 1 = .ok (.istore_n 2, 1) := by decide +kernel
theorem d_Arrays_fill_II_2 : decode b_Arrays_fill_II 2 = .ok (.aload_n 0, 1) := by decide +kernel
theorem d_Arrays_fill_II_3 : decode b_Arrays_fill_II 3 = .ok (.arraylength, 1) := by decide +kernel
theorem d_Arrays_fill_II_4 : decode b_Arrays_fill_II 4 = .ok (.istore_n 3, 1) := by decide +kernel
theorem d_Arrays_fill_II_5 : decode b_Arrays_fill_II 5 = .ok (.iload_n 2, 1) := by decide +kernel
theorem d_Arrays_fill_II_6 : decode b_Arrays_fill_II 6 = .ok (.iload_n 3, 1) := by decide +kernel
theorem d_Arrays_fill_II_7 : decode b_Arrays_fill_II 7 = .ok (.if_icmp .ge 13, 3) := by decide +kernel
theorem d_Arrays_fill_II_10 : decode b_Arrays_fill_II 10 = .ok (.aload_n 0, 1) := by decide +kernel
theorem d_Arrays_fill_II_11 : decode b_Arrays_fill_II 11 = .ok (.iload_n 2, 1) := by decide +kernel
theorem d_Arrays_fill_II_12 : decode b_Arrays_fill_II 12 = .ok (.iload_n 1, 1) := by decide +kernel
theorem d_Arrays_fill_II_13 : decode b_Arrays_fill_II 13 = .ok (.iastore, 1) := by decide +kernel
theorem d_Arrays_fill_II_14 : decode b_Arrays_fill_II 14 = .ok (.iinc 2 1, 3) := by decide +kernel
theorem d_Arrays_fill_II_17 : decode b_Arrays_fill_II 17 = .ok (.goto (-12), 3) := by decide +kernel
theorem d_Arrays_fill_II_20 : decode b_Arrays_fill_II 20 = .ok (.return_, 1) := by decide +kernel
theorem d_Samples_streamOf_0 : decode b_Samples_streamOf 0 = .ok (.aload_n 0, 1) := by decide +kernel
theorem d_Samples_streamOf_1 : decode b_Samples_streamOf 1 = .ok (.invokevirtual 25, 3) := by decide +kernel
theorem d_Samples_streamOf_4 : decode b_Samples_streamOf 4 = .ok (.aload_n 0, 1) := by decide +kernel
theorem d_Samples_streamOf_5 : decode b_Samples_streamOf 5 = .ok (.aload_n 1, 1) := by decide +kernel
theorem d_Samples_streamOf_6 : decode b_Samples_streamOf 6 = .ok (.iload_n 2, 1) := by decide +kernel
theorem d_Samples_streamOf_7 : decode b_Samples_streamOf 7 = .ok (.invokevirtual 30, 3) := by decide +kernel
theorem d_Samples_streamOf_10 : decode b_Samples_streamOf 10 = .ok (.aload_n 0, 1) := by decide +kernel
theorem d_Samples_streamOf_11 : decode b_Samples_streamOf 11 = .ok (.iload_n 3, 1) := by decide +kernel
theorem d_Samples_streamOf_12 : decode b_Samples_streamOf 12 = .ok (.invokevirtual 47, 3) := by decide +kernel
theorem d_Samples_streamOf_15 : decode b_Samples_streamOf 15 = .ok (.aload_n 0, 1) := by decide +kernel
theorem d_Samples_streamOf_16 : decode b_Samples_streamOf 16 = .ok (.invokevirtual 34, 3) := by decide +kernel
theorem d_Samples_streamOf_19 : decode b_Samples_streamOf 19 = .ok (.areturn, 1) := by decide +kernel
theorem d_Samples_fillUniform_0 : decode b_Samples_fillUniform 0 = .ok (.iconst 0, 1) := by decide +kernel
theorem d_Samples_fillUniform_1 : decode b_Samples_fillUniform 1 = .ok (.istore_n 3, 1) := by decide +kernel
theorem d_Samples_fillUniform_2 : decode b_Samples_fillUniform 2 = .ok (.iconst 0, 1) := by decide +kernel
theorem d_Samples_fillUniform_3 : decode b_Samples_fillUniform 3 = .ok (.istore 4, 2) := by decide +kernel
theorem d_Samples_fillUniform_5 : decode b_Samples_fillUniform 5 = .ok (.iload 4, 2) := by decide +kernel
theorem d_Samples_fillUniform_7 : decode b_Samples_fillUniform 7 = .ok (.sipush 135, 3) := by decide +kernel
theorem d_Samples_fillUniform_10 : decode b_Samples_fillUniform 10 = .ok (.if_icmp .ge 61, 3) := by decide +kernel
theorem d_Samples_fillUniform_13 : decode b_Samples_fillUniform 13 = .ok (.iload_n 3, 1) := by decide +kernel
theorem d_Samples_fillUniform_14 : decode b_Samples_fillUniform 14 = .ok (.bipush 16, 2) := by decide +kernel
theorem d_Samples_fillUniform_16 : decode b_Samples_fillUniform 16 = .ok (.if_icmp .ge 55, 3) := by decide +kernel
theorem d_Samples_fillUniform_19 : decode b_Samples_fillUniform 19 = .ok (.aload_n 0, 1) := by decide +kernel
theorem d_Samples_fillUniform_20 : decode b_Samples_fillUniform 20 = .ok (.iload 4, 2) := by decide +kernel
theorem d_Samples_fillUniform_22 : decode b_Samples_fillUniform 22 = .ok (.iaload, 1) := by decide +kernel
theorem d_Samples_fillUniform_23 : decode b_Samples_fillUniform 23 = .ok (.aload_n 0, 1) := by decide +kernel
theorem d_Samples_fillUniform_24 : decode b_Samples_fillUniform 24 = .ok (.iload 4, 2) := by decide +kernel
theorem d_Samples_fillUniform_26 : decode b_Samples_fillUniform 26 = .ok (.iconst 1, 1) := by decide +kernel
theorem d_Samples_fillUniform_27 : decode b_Samples_fillUniform 27 = .ok (.iadd, 1) := by decide +kernel
theorem d_Samples_fillUniform_28 : decode b_Samples_fillUniform 28 = .ok (.iaload, 1) := by decide +kernel
theorem d_Samples_fillUniform_29 : decode b_Samples_fillUniform 29 = .ok (.bipush 8, 2) := by decide +kernel
theorem d_Samples_fillUniform_31 : decode b_Samples_fillUniform 31 = .ok (.ishl, 1) := by decide +kernel
theorem d_Samples_fillUniform_32 : decode b_Samples_fillUniform 32 = .ok (.ior, 1) := by decide +kernel
theorem d_Samples_fillUniform_33 : decode b_Samples_fillUniform 33 = .ok (.aload_n 0, 1) := by decide +kernel
theorem d_Samples_fillUniform_34 : decode b_Samples_fillUniform 34 = .ok (.iload 4, 2) := by decide +kernel
theorem d_Samples_fillUniform_36 : decode b_Samples_fillUniform 36 = .ok (.iconst 2, 1) := by decide +kernel
theorem d_Samples_fillUniform_37 : decode b_Samples_fillUniform 37 = .ok (.iadd, 1) := by decide +kernel
theorem d_Samples_fillUniform_38 : decode b_Samples_fillUniform 38 = .ok (.iaload, 1) := by decide +kernel
theorem d_Samples_fillUniform_39 : decode b_Samples_fillUniform 39 = .ok (.bipush 127, 2) := by decide +kernel
theorem d_Samples_fillUniform_41 : decode b_Samples_fillUniform 41 = .ok (.iand, 1) := by decide +kernel
theorem d_Samples_fillUniform_42 : decode b_Samples_fillUniform 42 = .ok (.bipush 16, 2) := by decide +kernel
theorem d_Samples_fillUniform_44 : decode b_Samples_fillUniform 44 = .ok (.ishl, 1) := by decide +kernel
theorem d_Samples_fillUniform_45 : decode b_Samples_fillUniform 45 = .ok (.ior, 1) := by decide +kernel
theorem d_Samples_fillUniform_46 : decode b_Samples_fillUniform 46 = .ok (.istore 5, 2) := by decide +kernel
theorem d_Samples_fillUniform_48 : decode b_Samples_fillUniform 48 = .ok (.iload 5, 2) := by decide +kernel
theorem d_Samples_fillUniform_50 : decode b_Samples_fillUniform 50 = .ok (.ldc 51, 2) := by decide +kernel
theorem d_Samples_fillUniform_52 : decode b_Samples_fillUniform 52 = .ok (.if_icmp .ge 13, 3) := by decide +kernel
theorem d_Samples_fillUniform_55 : decode b_Samples_fillUniform 55 = .ok (.aload_n 1, 1) := by decide +kernel
theorem d_Samples_fillUniform_56 : decode b_Samples_fillUniform 56 = .ok (.iload_n 2, 1) := by decide +kernel
theorem d_Samples_fillUniform_57 : decode b_Samples_fillUniform 57 = .ok (.iload_n 3, 1) := by decide +kernel
theorem d_Samples_fillUniform_58 : decode b_Samples_fillUniform 58 = .ok (.iadd, 1) := by decide +kernel
theorem d_Samples_fillUniform_59 : decode b_Samples_fillUniform 59 = .ok (.iload 5, 2) := by decide +kernel
theorem d_Samples_fillUniform_61 : decode b_Samples_fillUniform 61 = .ok (.iastore, 1) := by decide +kernel
theorem d_Samples_fillUniform_62 : decode b_Samples_fillUniform 62 = .ok (.iinc 3 1, 3) := by decide +kernel
theorem d_Samples_fillUniform_65 : decode b_Samples_fillUniform 65 = .ok (.iinc 4 3, 3) := by decide +kernel
theorem d_Samples_fillUniform_68 : decode b_Samples_fillUniform 68 = .ok (.goto (-63), 3) := by decide +kernel
theorem d_Samples_fillUniform_71 : decode b_Samples_fillUniform 71 = .ok (.aload_n 1, 1) := by decide +kernel
theorem d_Samples_fillUniform_72 : decode b_Samples_fillUniform 72 = .ok (.iload_n 2, 1) := by decide +kernel
theorem d_Samples_fillUniform_73 : decode b_Samples_fillUniform 73 = .ok (.iload_n 3, 1) := by decide +kernel
theorem d_Samples_fillUniform_74 : decode b_Samples_fillUniform 74 = .ok (.bipush 16, 2) := by decide +kernel
theorem d_Samples_fillUniform_76 : decode b_Samples_fillUniform 76 = .ok (.invokestatic 52, 3) := by decide +kernel
theorem d_Samples_fillUniform_79 : decode b_Samples_fillUniform 79 = .ok (.return_, 1) := by decide +kernel
theorem d_Samples_fillSmall_0 : decode b_Samples_fillSmall 0 = .ok (.iconst 0, 1) := by decide +kernel
theorem d_Samples_fillSmall_1 : decode b_Samples_fillSmall 1 = .ok (.istore_n 3, 1) := by decide +kernel
theorem d_Samples_fillSmall_2 : decode b_Samples_fillSmall 2 = .ok (.iconst 0, 1) := by decide +kernel
theorem d_Samples_fillSmall_3 : decode b_Samples_fillSmall 3 = .ok (.istore 4, 2) := by decide +kernel
theorem d_Samples_fillSmall_5 : decode b_Samples_fillSmall 5 = .ok (.iload 4, 2) := by decide +kernel
theorem d_Samples_fillSmall_7 : decode b_Samples_fillSmall 7 = .ok (.sipush 128, 3) := by decide +kernel
theorem d_Samples_fillSmall_10 : decode b_Samples_fillSmall 10 = .ok (.if_icmp .ge 54, 3) := by decide +kernel
theorem d_Samples_fillSmall_13 : decode b_Samples_fillSmall 13 = .ok (.iload_n 3, 1) := by decide +kernel
theorem d_Samples_fillSmall_14 : decode b_Samples_fillSmall 14 = .ok (.bipush 16, 2) := by decide +kernel
theorem d_Samples_fillSmall_16 : decode b_Samples_fillSmall 16 = .ok (.if_icmp .ge 48, 3) := by decide +kernel
theorem d_Samples_fillSmall_19 : decode b_Samples_fillSmall 19 = .ok (.aload_n 0, 1) := by decide +kernel
theorem d_Samples_fillSmall_20 : decode b_Samples_fillSmall 20 = .ok (.iload 4, 2) := by decide +kernel
theorem d_Samples_fillSmall_22 : decode b_Samples_fillSmall 22 = .ok (.iconst 2, 1) := by decide +kernel
theorem d_Samples_fillSmall_23 : decode b_Samples_fillSmall 23 = .ok (.idiv, 1) := by decide +kernel
theorem d_Samples_fillSmall_24 : decode b_Samples_fillSmall 24 = .ok (.iaload, 1) := by decide +kernel
theorem d_Samples_fillSmall_25 : decode b_Samples_fillSmall 25 = .ok (.iconst 4, 1) := by decide +kernel
theorem d_Samples_fillSmall_26 : decode b_Samples_fillSmall 26 = .ok (.iload 4, 2) := by decide +kernel
theorem d_Samples_fillSmall_28 : decode b_Samples_fillSmall 28 = .ok (.iconst 2, 1) := by decide +kernel
theorem d_Samples_fillSmall_29 : decode b_Samples_fillSmall 29 = .ok (.irem, 1) := by decide +kernel
theorem d_Samples_fillSmall_30 : decode b_Samples_fillSmall 30 = .ok (.imul, 1) := by decide +kernel
theorem d_Samples_fillSmall_31 : decode b_Samples_fillSmall 31 = .ok (.ishr, 1) := by decide +kernel
theorem d_Samples_fillSmall_32 : decode b_Samples_fillSmall 32 = .ok (.bipush 15, 2) := by decide +kernel
theorem d_Samples_fillSmall_34 : decode b_Samples_fillSmall 34 = .ok (.iand, 1) := by decide +kernel
theorem d_Samples_fillSmall_35 : decode b_Samples_fillSmall 35 = .ok (.istore 5, 2) := by decide +kernel
theorem d_Samples_fillSmall_37 : decode b_Samples_fillSmall 37 = .ok (.iload 5, 2) := by decide +kernel
theorem d_Samples_fillSmall_39 : decode b_Samples_fillSmall 39 = .ok (.bipush 15, 2) := by decide +kernel
theorem d_Samples_fillSmall_41 : decode b_Samples_fillSmall 41 = .ok (.if_icmp .eq 17, 3) := by decide +kernel
theorem d_Samples_fillSmall_44 : decode b_Samples_fillSmall 44 = .ok (.aload_n 1, 1) := by decide +kernel
theorem d_Samples_fillSmall_45 : decode b_Samples_fillSmall 45 = .ok (.iload_n 2, 1) := by decide +kernel
theorem d_Samples_fillSmall_46 : decode b_Samples_fillSmall 46 = .ok (.iload_n 3, 1) := by decide +kernel
theorem d_Samples_fillSmall_47 : decode b_Samples_fillSmall 47 = .ok (.iadd, 1) := by decide +kernel
theorem d_Samples_fillSmall_48 : decode b_Samples_fillSmall 48 = .ok (.iconst 2, 1) := by decide +kernel
theorem d_Samples_fillSmall_49 : decode b_Samples_fillSmall 49 = .ok (.iload 5, 2) := by decide +kernel
theorem d_Samples_fillSmall_51 : decode b_Samples_fillSmall 51 = .ok (.iconst 5, 1) := by decide +kernel
theorem d_Samples_fillSmall_52 : decode b_Samples_fillSmall 52 = .ok (.irem, 1) := by decide +kernel
theorem d_Samples_fillSmall_53 : decode b_Samples_fillSmall 53 = .ok (.isub, 1) := by decide +kernel
theorem d_Samples_fillSmall_54 : decode b_Samples_fillSmall 54 = .ok (.iastore, 1) := by decide +kernel
theorem d_Samples_fillSmall_55 : decode b_Samples_fillSmall 55 = .ok (.iinc 3 1, 3) := by decide +kernel
theorem d_Samples_fillSmall_58 : decode b_Samples_fillSmall 58 = .ok (.iinc 4 1, 3) := by decide +kernel
theorem d_Samples_fillSmall_61 : decode b_Samples_fillSmall 61 = .ok (.goto (-56), 3) := by decide +kernel
theorem d_Samples_fillSmall_64 : decode b_Samples_fillSmall 64 = .ok (.aload_n 1, 1) := by decide +kernel
theorem d_Samples_fillSmall_65 : decode b_Samples_fillSmall 65 = .ok (.iload_n 2, 1) := by decide +kernel
theorem d_Samples_fillSmall_66 : decode b_Samples_fillSmall 66 = .ok (.iload_n 3, 1) := by decide +kernel
theorem d_Samples_fillSmall_67 : decode b_Samples_fillSmall 67 = .ok (.bipush 16, 2) := by decide +kernel
theorem d_Samples_fillSmall_69 : decode b_Samples_fillSmall 69 = .ok (.invokestatic 52, 3) := by decide +kernel
theorem d_Samples_fillSmall_72 : decode b_Samples_fillSmall 72 = .ok (.return_, 1) := by decide +kernel
theorem d_Samples_fillWide_0 : decode b_Samples_fillWide 0 = .ok (.iconst 0, 1) := by decide +kernel
theorem d_Samples_fillWide_1 : decode b_Samples_fillWide 1 = .ok (.istore_n 3, 1) := by decide +kernel
theorem d_Samples_fillWide_2 : decode b_Samples_fillWide 2 = .ok (.iload_n 3, 1) := by decide +kernel
theorem d_Samples_fillWide_3 : decode b_Samples_fillWide 3 = .ok (.bipush 16, 2) := by decide +kernel
theorem d_Samples_fillWide_5 : decode b_Samples_fillWide 5 = .ok (.if_icmp .ge 26, 3) := by decide +kernel
theorem d_Samples_fillWide_8 : decode b_Samples_fillWide 8 = .ok (.aload_n 1, 1) := by decide +kernel
theorem d_Samples_fillWide_9 : decode b_Samples_fillWide 9 = .ok (.iload_n 2, 1) := by decide +kernel
theorem d_Samples_fillWide_10 : decode b_Samples_fillWide 10 = .ok (.iload_n 3, 1) := by decide +kernel
theorem d_Samples_fillWide_11 : decode b_Samples_fillWide 11 = .ok (.iadd, 1) := by decide +kernel
theorem d_Samples_fillWide_12 : decode b_Samples_fillWide 12 = .ok (.sipush 512, 3) := by decide +kernel
theorem d_Samples_fillWide_15 : decode b_Samples_fillWide 15 = .ok (.aload_n 0, 1) := by decide +kernel
theorem d_Samples_fillWide_16 : decode b_Samples_fillWide 16 = .ok (.iconst 0, 1) := by decide +kernel
theorem d_Samples_fillWide_17 : decode b_Samples_fillWide 17 = .ok (.iload_n 3, 1) := by decide +kernel
theorem d_Samples_fillWide_18 : decode b_Samples_fillWide 18 = .ok (.bipush 10, 2) := by decide +kernel
theorem d_Samples_fillWide_20 : decode b_Samples_fillWide 20 = .ok (.invokestatic 56, 3) := by decide +kernel
theorem d_Samples_fillWide_23 : decode b_Samples_fillWide 23 = .ok (.isub, 1) := by decide +kernel
theorem d_Samples_fillWide_24 : decode b_Samples_fillWide 24 = .ok (.iastore, 1) := by decide +kernel
theorem d_Samples_fillWide_25 : decode b_Samples_fillWide 25 = .ok (.iinc 3 1, 3) := by decide +kernel
theorem d_Samples_fillWide_28 : decode b_Samples_fillWide 28 = .ok (.goto (-26), 3) := by decide +kernel
theorem d_Samples_fillWide_31 : decode b_Samples_fillWide 31 = .ok (.return_, 1) := by decide +kernel
theorem d_Samples_fillSigns_0 : decode b_Samples_fillSigns 0 = .ok (.aload_n 1, 1) := by decide +kernel
theorem d_Samples_fillSigns_1 : decode b_Samples_fillSigns 1 = .ok (.iconst 0, 1) := by decide +kernel
theorem d_Samples_fillSigns_2 : decode b_Samples_fillSigns 2 = .ok (.invokestatic 42, 3) := by decide +kernel
theorem d_Samples_fillSigns_5 : decode b_Samples_fillSigns 5 = .ok (.iconst 1, 1) := by decide +kernel
theorem d_Samples_fillSigns_6 : decode b_Samples_fillSigns 6 = .ok (.istore_n 2, 1) := by decide +kernel
theorem d_Samples_fillSigns_7 : decode b_Samples_fillSigns 7 = .ok (.bipush 12, 2) := by decide +kernel
theorem d_Samples_fillSigns_9 : decode b_Samples_fillSigns 9 = .ok (.istore_n 3, 1) := by decide +kernel
theorem d_Samples_fillSigns_10 : decode b_Samples_fillSigns 10 = .ok (.iload_n 3, 1) := by decide +kernel
theorem d_Samples_fillSigns_11 : decode b_Samples_fillSigns 11 = .ok (.bipush 16, 2) := by decide +kernel
theorem d_Samples_fillSigns_13 : decode b_Samples_fillSigns 13 = .ok (.if_icmp .ge 82, 3) := by decide +kernel
theorem d_Samples_fillSigns_16 : decode b_Samples_fillSigns 16 = .ok (.iload_n 2, 1) := by decide +kernel
theorem d_Samples_fillSigns_17 : decode b_Samples_fillSigns 17 = .ok (.bipush 33, 2) := by decide +kernel
theorem d_Samples_fillSigns_19 : decode b_Samples_fillSigns 19 = .ok (.if_icmp .ge 19, 3) := by decide +kernel
theorem d_Samples_fillSigns_22 : decode b_Samples_fillSigns 22 = .ok (.aload_n 0, 1) := by decide +kernel
theorem d_Samples_fillSigns_23 : decode b_Samples_fillSigns 23 = .ok (.iload_n 2, 1) := by decide +kernel
theorem d_Samples_fillSigns_24 : decode b_Samples_fillSigns 24 = .ok (.iaload, 1) := by decide +kernel
theorem d_Samples_fillSigns_25 : decode b_Samples_fillSigns 25 = .ok (.bipush 15, 2) := by decide +kernel
theorem d_Samples_fillSigns_27 : decode b_Samples_fillSigns 27 = .ok (.iand, 1) := by decide +kernel
theorem d_Samples_fillSigns_28 : decode b_Samples_fillSigns 28 = .ok (.iload_n 3, 1) := by decide +kernel
theorem d_Samples_fillSigns_29 : decode b_Samples_fillSigns 29 = .ok (.if_icmp .le 9, 3) := by decide +kernel
theorem d_Samples_fillSigns_32 : decode b_Samples_fillSigns 32 = .ok (.iinc 2 1, 3) := by decide +kernel
theorem d_Samples_fillSigns_35 : decode b_Samples_fillSigns 35 = .ok (.goto (-19), 3) := by decide +kernel
theorem d_Samples_fillSigns_38 : decode b_Samples_fillSigns 38 = .ok (.iload_n 2, 1) := by decide +kernel
theorem d_Samples_fillSigns_39 : decode b_Samples_fillSigns 39 = .ok (.bipush 33, 2) := by decide +kernel
theorem d_Samples_fillSigns_41 : decode b_Samples_fillSigns 41 = .ok (.if_icmp .ge 12, 3) := by decide +kernel
theorem d_Samples_fillSigns_44 : decode b_Samples_fillSigns 44 = .ok (.aload_n 0, 1) := by decide +kernel
theorem d_Samples_fillSigns_45 : decode b_Samples_fillSigns 45 = .ok (.iload_n 2, 1) := by decide +kernel
theorem d_Samples_fillSigns_46 : decode b_Samples_fillSigns 46 = .ok (.iaload, 1) := by decide +kernel
theorem d_Samples_fillSigns_47 : decode b_Samples_fillSigns 47 = .ok (.bipush 15, 2) := by decide +kernel
theorem d_Samples_fillSigns_49 : decode b_Samples_fillSigns 49 = .ok (.iand, 1) := by decide +kernel
theorem d_Samples_fillSigns_50 : decode b_Samples_fillSigns 50 = .ok (.goto 4, 3) := by decide +kernel
theorem d_Samples_fillSigns_53 : decode b_Samples_fillSigns 53 = .ok (.iconst 0, 1) := by decide +kernel
theorem d_Samples_fillSigns_54 : decode b_Samples_fillSigns 54 = .ok (.istore 4, 2) := by decide +kernel
theorem d_Samples_fillSigns_56 : decode b_Samples_fillSigns 56 = .ok (.iinc 2 1, 3) := by decide +kernel
theorem d_Samples_fillSigns_59 : decode b_Samples_fillSigns 59 = .ok (.aload_n 1, 1) := by decide +kernel
theorem d_Samples_fillSigns_60 : decode b_Samples_fillSigns 60 = .ok (.iload_n 3, 1) := by decide +kernel
theorem d_Samples_fillSigns_61 : decode b_Samples_fillSigns 61 = .ok (.aload_n 1, 1) := by decide +kernel
theorem d_Samples_fillSigns_62 : decode b_Samples_fillSigns 62 = .ok (.iload 4, 2) := by decide +kernel
theorem d_Samples_fillSigns_64 : decode b_Samples_fillSigns 64 = .ok (.iaload, 1) := by decide +kernel
theorem d_Samples_fillSigns_65 : decode b_Samples_fillSigns 65 = .ok (.iastore, 1) := by decide +kernel
theorem d_Samples_fillSigns_66 : decode b_Samples_fillSigns 66 = .ok (.aload_n 1, 1) := by decide +kernel
theorem d_Samples_fillSigns_67 : decode b_Samples_fillSigns 67 = .ok (.iload 4, 2) := by decide +kernel
theorem d_Samples_fillSigns_69 : decode b_Samples_fillSigns 69 = .ok (.aload_n 0, 1) := by decide +kernel
theorem d_Samples_fillSigns_70 : decode b_Samples_fillSigns 70 = .ok (.iconst 0, 1) := by decide +kernel
theorem d_Samples_fillSigns_71 : decode b_Samples_fillSigns 71 = .ok (.iaload, 1) := by decide +kernel
theorem d_Samples_fillSigns_72 : decode b_Samples_fillSigns 72 = .ok (.iload_n 3, 1) := by decide +kernel
theorem d_Samples_fillSigns_73 : decode b_Samples_fillSigns 73 = .ok (.bipush 12, 2) := by decide +kernel
theorem d_Samples_fillSigns_75 : decode b_Samples_fillSigns 75 = .ok (.isub, 1) := by decide +kernel
theorem d_Samples_fillSigns_76 : decode b_Samples_fillSigns 76 = .ok (.ishr, 1) := by decide +kernel
theorem d_Samples_fillSigns_77 : decode b_Samples_fillSigns 77 = .ok (.iconst 1, 1) := by decide +kernel
theorem d_Samples_fillSigns_78 : decode b_Samples_fillSigns 78 = .ok (.iand, 1) := by decide +kernel
theorem d_Samples_fillSigns_79 : decode b_Samples_fillSigns 79 = .ok (.iconst 1, 1) := by decide +kernel
theorem d_Samples_fillSigns_80 : decode b_Samples_fillSigns 80 = .ok (.if_icmp .ne 7, 3) := by decide +kernel
theorem d_Samples_fillSigns_83 : decode b_Samples_fillSigns 83 = .ok (.iconst (-1), 1) := by decide +kernel
theorem d_Samples_fillSigns_84 : decode b_Samples_fillSigns 84 = .ok (.goto 4, 3) := by decide +kernel
theorem d_Samples_fillSigns_87 : decode b_Samples_fillSigns 87 = .ok (.iconst 1, 1) := by decide +kernel
theorem d_Samples_fillSigns_88 : decode b_Samples_fillSigns 88 = .ok (.iastore, 1) := by decide +kernel
theorem d_Samples_fillSigns_89 : decode b_Samples_fillSigns 89 = .ok (.iinc 3 1, 3) := by decide +kernel
theorem d_Samples_fillSigns_92 : decode b_Samples_fillSigns 92 = .ok (.goto (-82), 3) := by decide +kernel
theorem d_Samples_fillSigns_95 : decode b_Samples_fillSigns 95 = .ok (.return_, 1) := by decide +kernel
