theorem d_Verifying_readZ_0 : decode b_Verifying_readZ 0 = .ok (.iconst 0, 1) := by decide +kernel
theorem d_Verifying_readZ_1 : decode b_Verifying_readZ 1 = .ok (.istore_n 2, 1) := by decide +kernel
theorem d_Verifying_readZ_2 : decode b_Verifying_readZ 2 = .ok (.iload_n 2, 1) := by decide +kernel
theorem d_Verifying_readZ_3 : decode b_Verifying_readZ 3 = .ok (.bipush 32, 2) := by decide +kernel
theorem d_Verifying_readZ_5 : decode b_Verifying_readZ 5 = .ok (.if_icmp .ge 28, 3) := by decide +kernel
theorem d_Verifying_readZ_8 : decode b_Verifying_readZ 8 = .ok (.aload_n 0, 1) := by decide +kernel
theorem d_Verifying_readZ_9 : decode b_Verifying_readZ 9 = .ok (.getfield 28, 3) := by decide +kernel
theorem d_Verifying_readZ_12 : decode b_Verifying_readZ 12 = .ok (.iload_n 2, 1) := by decide +kernel
theorem d_Verifying_readZ_13 : decode b_Verifying_readZ 13 = .ok (.sipush 512, 3) := by decide +kernel
theorem d_Verifying_readZ_16 : decode b_Verifying_readZ 16 = .ok (.aload_n 1, 1) := by decide +kernel
theorem d_Verifying_readZ_17 : decode b_Verifying_readZ 17 = .ok (.bipush 8, 2) := by decide +kernel
theorem d_Verifying_readZ_19 : decode b_Verifying_readZ 19 = .ok (.iload_n 2, 1) := by decide +kernel
theorem d_Verifying_readZ_20 : decode b_Verifying_readZ 20 = .ok (.bipush 10, 2) := by decide +kernel
theorem d_Verifying_readZ_22 : decode b_Verifying_readZ 22 = .ok (.invokestatic 88, 3) := by decide +kernel
theorem d_Verifying_readZ_25 : decode b_Verifying_readZ 25 = .ok (.isub, 1) := by decide +kernel
theorem d_Verifying_readZ_26 : decode b_Verifying_readZ 26 = .ok (.iastore, 1) := by decide +kernel
theorem d_Verifying_readZ_27 : decode b_Verifying_readZ 27 = .ok (.iinc 2 1, 3) := by decide +kernel
theorem d_Verifying_readZ_30 : decode b_Verifying_readZ 30 = .ok (.goto (-28), 3) := by decide +kernel
theorem d_Verifying_readZ_33 : decode b_Verifying_readZ 33 = .ok (.return_, 1) := by decide +kernel
theorem d_Verifying_readT1_0 : decode b_Verifying_readT1 0 = .ok (.iconst 0, 1) := by decide +kernel
theorem d_Verifying_readT1_1 : decode b_Verifying_readT1 1 = .ok (.istore_n 2, 1) := by decide +kernel
theorem d_Verifying_readT1_2 : decode b_Verifying_readT1 2 = .ok (.iload_n 2, 1) := by decide +kernel
theorem d_Verifying_readT1_3 : decode b_Verifying_readT1 3 = .ok (.bipush 32, 2) := by decide +kernel
theorem d_Verifying_readT1_5 : decode b_Verifying_readT1 5 = .ok (.if_icmp .ge 32, 3) := by decide +kernel
theorem d_Verifying_readT1_8 : decode b_Verifying_readT1 8 = .ok (.aload_n 0, 1) := by decide +kernel
theorem d_Verifying_readT1_9 : decode b_Verifying_readT1 9 = .ok (.getfield 25, 3) := by decide +kernel
theorem d_Verifying_readT1_12 : decode b_Verifying_readT1 12 = .ok (.iload_n 2, 1) := by decide +kernel
theorem d_Verifying_readT1_13 : decode b_Verifying_readT1 13 = .ok (.sipush 256, 3) := by decide +kernel
theorem d_Verifying_readT1_16 : decode b_Verifying_readT1 16 = .ok (.aload_n 1, 1) := by decide +kernel
theorem d_Verifying_readT1_17 : decode b_Verifying_readT1 17 = .ok (.bipush 8, 2) := by decide +kernel
theorem d_Verifying_readT1_19 : decode b_Verifying_readT1 19 = .ok (.iload_n 2, 1) := by decide +kernel
theorem d_Verifying_readT1_20 : decode b_Verifying_readT1 20 = .ok (.bipush 15, 2) := by decide +kernel
theorem d_Verifying_readT1_22 : decode b_Verifying_readT1 22 = .ok (.invokestatic 88, 3) := by decide +kernel
theorem d_Verifying_readT1_25 : decode b_Verifying_readT1 25 = .ok (.imul, 1) := by decide +kernel
theorem d_Verifying_readT1_26 : decode b_Verifying_readT1 26 = .ok (.i2l, 1) := by decide +kernel
theorem d_Verifying_readT1_27 : decode b_Verifying_readT1 27 = .ok (.invokestatic 108, 3) := by decide +kernel
theorem d_Verifying_readT1_30 : decode b_Verifying_readT1 30 = .ok (.iastore, 1) := by decide +kernel
theorem d_Verifying_readT1_31 : decode b_Verifying_readT1 31 = .ok (.iinc 2 1, 3) := by decide +kernel
theorem d_Verifying_readT1_34 : decode b_Verifying_readT1 34 = .ok (.goto (-32), 3) := by decide +kernel
theorem d_Verifying_readT1_37 : decode b_Verifying_readT1 37 = .ok (.return_, 1) := by decide +kernel
theorem d_Verifying_readPlaces_0 : decode b_Verifying_readPlaces 0 = .ok (.iconst (-1), 1) := by decide +kernel
theorem d_Verifying_readPlaces_1 : decode b_Verifying_readPlaces 1 = .ok (.istore 5, 2) := by decide +kernel
theorem d_Verifying_readPlaces_3 : decode b_Verifying_readPlaces 3 = .ok (.iload_n 2, 1) := by decide +kernel
theorem d_Verifying_readPlaces_4 : decode b_Verifying_readPlaces 4 = .ok (.istore 6, 2) := by decide +kernel
theorem d_Verifying_readPlaces_6 : decode b_Verifying_readPlaces 6 = .ok (.iload 6, 2) := by decide +kernel
theorem d_Verifying_readPlaces_8 : decode b_Verifying_readPlaces 8 = .ok (.iload_n 3, 1) := by decide +kernel
theorem d_Verifying_readPlaces_9 : decode b_Verifying_readPlaces 9 = .ok (.if_icmp .ge 49, 3) := by decide +kernel
theorem d_Verifying_readPlaces_12 : decode b_Verifying_readPlaces 12 = .ok (.aload_n 1, 1) := by decide +kernel
theorem d_Verifying_readPlaces_13 : decode b_Verifying_readPlaces 13 = .ok (.bipush 48, 2) := by decide +kernel
theorem d_Verifying_readPlaces_15 : decode b_Verifying_readPlaces 15 = .ok (.iload 6, 2) := by decide +kernel
theorem d_Verifying_readPlaces_17 : decode b_Verifying_readPlaces 17 = .ok (.iadd, 1) := by decide +kernel
theorem d_Verifying_readPlaces_18 : decode b_Verifying_readPlaces 18 = .ok (.iaload, 1) := by decide +kernel
theorem d_Verifying_readPlaces_19 : decode b_Verifying_readPlaces 19 = .ok (.istore 7, 2) := by decide +kernel
theorem d_Verifying_readPlaces_21 : decode b_Verifying_readPlaces 21 = .ok (.iload 7, 2) := by decide +kernel
theorem d_Verifying_readPlaces_23 : decode b_Verifying_readPlaces 23 = .ok (.iload 5, 2) := by decide +kernel
theorem d_Verifying_readPlaces_25 : decode b_Verifying_readPlaces 25 = .ok (.if_icmp .le 10, 3) := by decide +kernel
theorem d_Verifying_readPlaces_28 : decode b_Verifying_readPlaces 28 = .ok (.iload 7, 2) := by decide +kernel
theorem d_Verifying_readPlaces_30 : decode b_Verifying_readPlaces 30 = .ok (.bipush 16, 2) := by decide +kernel
theorem d_Verifying_readPlaces_32 : decode b_Verifying_readPlaces 32 = .ok (.if_icmp .lt 5, 3) := by decide +kernel
theorem d_Verifying_readPlaces_35 : decode b_Verifying_readPlaces 35 = .ok (.iconst 0, 1) := by decide +kernel
theorem d_Verifying_readPlaces_36 : decode b_Verifying_readPlaces 36 = .ok (.ireturn, 1) := by decide +kernel
theorem d_Verifying_readPlaces_37 : decode b_Verifying_readPlaces 37 = .ok (.aload_n 0, 1) := by decide +kernel
theorem d_Verifying_readPlaces_38 : decode b_Verifying_readPlaces 38 = .ok (.getfield 34, 3) := by decide +kernel
theorem d_Verifying_readPlaces_41 : decode b_Verifying_readPlaces 41 = .ok (.iload 4, 2) := by decide +kernel
theorem d_Verifying_readPlaces_43 : decode b_Verifying_readPlaces 43 = .ok (.iload 7, 2) := by decide +kernel
theorem d_Verifying_readPlaces_45 : decode b_Verifying_readPlaces 45 = .ok (.iadd, 1) := by decide +kernel
theorem d_Verifying_readPlaces_46 : decode b_Verifying_readPlaces 46 = .ok (.iconst 1, 1) := by decide +kernel
theorem d_Verifying_readPlaces_47 : decode b_Verifying_readPlaces 47 = .ok (.iastore, 1) := by decide +kernel
theorem d_Verifying_readPlaces_48 : decode b_Verifying_readPlaces 48 = .ok (.iload 7, 2) := by decide +kernel
theorem d_Verifying_readPlaces_50 : decode b_Verifying_readPlaces 50 = .ok (.istore 5, 2) := by decide +kernel
theorem d_Verifying_readPlaces_52 : decode b_Verifying_readPlaces 52 = .ok (.iinc 6 1, 3) := by decide +kernel
theorem d_Verifying_readPlaces_55 : decode b_Verifying_readPlaces 55 = .ok (.goto (-49), 3) := by decide +kernel
theorem d_Verifying_readPlaces_58 : decode b_Verifying_readPlaces 58 = .ok (.iconst 1, 1) := by decide +kernel
theorem d_Verifying_readPlaces_59 : decode b_Verifying_readPlaces 59 = .ok (.ireturn, 1) := by decide +kernel
theorem d_Verifying_isZeroBehind_0 : decode b_Verifying_isZeroBehind 0 = .ok (.iload_n 1, 1) := by decide +kernel
theorem d_Verifying_isZeroBehind_1 : decode b_Verifying_isZeroBehind 1 = .ok (.istore_n 2, 1) := by decide +kernel
theorem d_Verifying_isZeroBehind_2 : decode b_Verifying_isZeroBehind 2 = .ok (.iload_n 2, 1) := by decide +kernel
theorem d_Verifying_isZeroBehind_3 : decode b_Verifying_isZeroBehind 3 = .ok (.bipush 12, 2) := by decide +kernel
theorem d_Verifying_isZeroBehind_5 : decode b_Verifying_isZeroBehind 5 = .ok (.if_icmp .ge 20, 3) := by decide +kernel
theorem d_Verifying_isZeroBehind_8 : decode b_Verifying_isZeroBehind 8 = .ok (.aload_n 0, 1) := by decide +kernel
theorem d_Verifying_isZeroBehind_9 : decode b_Verifying_isZeroBehind 9 = .ok (.bipush 48, 2) := by decide +kernel
theorem d_Verifying_isZeroBehind_11 : decode b_Verifying_isZeroBehind 11 = .ok (.iload_n 2, 1) := by decide +kernel
theorem d_Verifying_isZeroBehind_12 : decode b_Verifying_isZeroBehind 12 = .ok (.iadd, 1) := by decide +kernel
theorem d_Verifying_isZeroBehind_13 : decode b_Verifying_isZeroBehind 13 = .ok (.iaload, 1) := by decide +kernel
theorem d_Verifying_isZeroBehind_14 : decode b_Verifying_isZeroBehind 14 = .ok (.ifCond .eq 5, 3) := by decide +kernel
theorem d_Verifying_isZeroBehind_17 : decode b_Verifying_isZeroBehind 17 = .ok (.iconst 0, 1) := by decide +kernel
theorem d_Verifying_isZeroBehind_18 : decode b_Verifying_isZeroBehind 18 = .ok (.ireturn, 1) := by decide +kernel
theorem d_Verifying_isZeroBehind_19 : decode b_Verifying_isZeroBehind 19 = .ok (.iinc 2 1, 3) := by decide +kernel
theorem d_Verifying_isZeroBehind_22 : decode b_Verifying_isZeroBehind 22 = .ok (.goto (-20), 3) := by decide +kernel
theorem d_Verifying_isZeroBehind_25 : decode b_Verifying_isZeroBehind 25 = .ok (.iconst 1, 1) := by decide +kernel
theorem d_Verifying_isZeroBehind_26 : decode b_Verifying_isZeroBehind 26 = .ok (.ireturn, 1) := by decide +kernel
theorem d_Verifying_readHints_0 : decode b_Verifying_readHints 0 = .ok (.aload_n 1, 1) := by decide +kernel
theorem d_Verifying_readHints_1 : decode b_Verifying_readHints 1 = .ok (.bipush 60, 2) := by decide +kernel
theorem d_Verifying_readHints_3 : decode b_Verifying_readHints 3 = .ok (.iaload, 1) := by decide +kernel
theorem d_Verifying_readHints_4 : decode b_Verifying_readHints 4 = .ok (.istore_n 2, 1) := by decide +kernel
theorem d_Verifying_readHints_5 : decode b_Verifying_readHints 5 = .ok (.aload_n 1, 1) := by decide +kernel
theorem d_Verifying_readHints_6 : decode b_Verifying_readHints 6 = .ok (.bipush 61, 2) := by decide +kernel
theorem d_Verifying_readHints_8 : decode b_Verifying_readHints 8 = .ok (.iaload, 1) := by decide +kernel
theorem d_Verifying_readHints_9 : decode b_Verifying_readHints 9 = .ok (.istore_n 3, 1) := by decide +kernel
theorem d_Verifying_readHints_10 : decode b_Verifying_readHints 10 = .ok (.iload_n 2, 1) := by decide +kernel
theorem d_Verifying_readHints_11 : decode b_Verifying_readHints 11 = .ok (.iload_n 3, 1) := by decide +kernel
theorem d_Verifying_readHints_12 : decode b_Verifying_readHints 12 = .ok (.if_icmp .gt 9, 3) := by decide +kernel
theorem d_Verifying_readHints_15 : decode b_Verifying_readHints 15 = .ok (.iload_n 3, 1) := by decide +kernel
theorem d_Verifying_readHints_16 : decode b_Verifying_readHints 16 = .ok (.bipush 12, 2) := by decide +kernel
theorem d_Verifying_readHints_18 : decode b_Verifying_readHints 18 = .ok (.if_icmp .le 5, 3) := by decide +kernel
theorem d_Verifying_readHints_21 : decode b_Verifying_readHints 21 = .ok (.iconst 0, 1) := by decide +kernel
theorem d_Verifying_readHints_22 : decode b_Verifying_readHints 22 = .ok (.ireturn, 1) := by decide +kernel
theorem d_Verifying_readHints_23 : decode b_Verifying_readHints 23 = .ok (.aload_n 0, 1) := by decide +kernel
theorem d_Verifying_readHints_24 : decode b_Verifying_readHints 24 = .ok (.getfield 34, 3) := by decide +kernel
theorem d_Verifying_readHints_27 : decode b_Verifying_readHints 27 = .ok (.iconst 0, 1) := by decide +kernel
theorem d_Verifying_readHints_28 : decode b_Verifying_readHints 28 = .ok (.invokestatic 94, 3) := by decide +kernel
theorem d_Verifying_readHints_31 : decode b_Verifying_readHints 31 = .ok (.aload_n 0, 1) := by decide +kernel
theorem d_Verifying_readHints_32 : decode b_Verifying_readHints 32 = .ok (.aload_n 1, 1) := by decide +kernel
theorem d_Verifying_readHints_33 : decode b_Verifying_readHints 33 = .ok (.iconst 0, 1) := by decide +kernel
theorem d_Verifying_readHints_34 : decode b_Verifying_readHints 34 = .ok (.iload_n 2, 1) := by decide +kernel
theorem d_Verifying_readHints_35 : decode b_Verifying_readHints 35 = .ok (.iconst 0, 1) := by decide +kernel
theorem d_Verifying_readHints_36 : decode b_Verifying_readHints 36 = .ok (.invokevirtual 100, 3) := by decide +kernel
theorem d_Verifying_readHints_39 : decode b_Verifying_readHints 39 = .ok (.ifCond .eq 27, 3) := by decide +kernel
theorem d_Verifying_readHints_42 : decode b_Verifying_readHints 42 = .ok (.aload_n 0, 1) := by decide +kernel
theorem d_Verifying_readHints_43 : decode b_Verifying_readHints 43 = .ok (.aload_n 1, 1) := by decide +kernel
theorem d_Verifying_readHints_44 : decode b_Verifying_readHints 44 = .ok (.iload_n 2, 1) := by decide +kernel
theorem d_Verifying_readHints_45 : decode b_Verifying_readHints 45 = .ok (.iload_n 3, 1) := by decide +kernel
theorem d_Verifying_readHints_46 : decode b_Verifying_readHints 46 = .ok (.bipush 16, 2) := by decide +kernel
theorem d_Verifying_readHints_48 : decode b_Verifying_readHints 48 = .ok (.invokevirtual 100, 3) := by decide +kernel
theorem d_Verifying_readHints_51 : decode b_Verifying_readHints 51 = .ok (.ifCond .eq 15, 3) := by decide +kernel
theorem d_Verifying_readHints_54 : decode b_Verifying_readHints 54 = .ok (.aload_n 1, 1) := by decide +kernel
theorem d_Verifying_readHints_55 : decode b_Verifying_readHints 55 = .ok (.iload_n 3, 1) := by decide +kernel
theorem d_Verifying_readHints_56 : decode b_Verifying_readHints 56 = .ok (.invokestatic 104, 3) := by decide +kernel
theorem d_Verifying_readHints_59 : decode b_Verifying_readHints 59 = .ok (.ifCond .eq 7, 3) := by decide +kernel
theorem d_Verifying_readHints_62 : decode b_Verifying_readHints 62 = .ok (.iconst 1, 1) := by decide +kernel
theorem d_Verifying_readHints_63 : decode b_Verifying_readHints 63 = .ok (.goto 4, 3) := by decide +kernel
theorem d_Verifying_readHints_66 : decode b_Verifying_readHints 66 = .ok (.iconst 0, 1) := by decide +kernel
theorem d_Verifying_readHints_67 : decode b_Verifying_readHints 67 = .ok (.ireturn, 1) := by decide +kernel
theorem d_Verifying_correctAll_0 : decode b_Verifying_correctAll 0 = .ok (.aload_n 0, 1) := by decide +kernel
theorem d_Verifying_correctAll_1 : decode b_Verifying_correctAll 1 = .ok (.getfield 22, 3) := by decide +kernel
theorem d_Verifying_correctAll_4 : decode b_Verifying_correctAll 4 = .ok (.aload_n 0, 1) := by decide +kernel
theorem d_Verifying_correctAll_5 : decode b_Verifying_correctAll 5 = .ok (.getfield 28, 3) := by decide +kernel
theorem d_Verifying_correctAll_8 : decode b_Verifying_correctAll 8 = .ok (.aload_n 0, 1) := by decide +kernel
theorem d_Verifying_correctAll_9 : decode b_Verifying_correctAll 9 = .ok (.getfield 37, 3) := by decide +kernel
theorem d_Verifying_correctAll_12 : decode b_Verifying_correctAll 12 = .ok (.invokestatic 112, 3) := by decide +kernel
theorem d_Verifying_correctAll_15 : decode b_Verifying_correctAll 15 = .ok (.aload_n 0, 1) := by decide +kernel
theorem d_Verifying_correctAll_16 : decode b_Verifying_correctAll 16 = .ok (.getfield 31, 3) := by decide +kernel
theorem d_Verifying_correctAll_19 : decode b_Verifying_correctAll 19 = .ok (.aload_n 0, 1) := by decide +kernel
theorem d_Verifying_correctAll_20 : decode b_Verifying_correctAll 20 = .ok (.getfield 25, 3) := by decide +kernel
theorem d_Verifying_correctAll_23 : decode b_Verifying_correctAll 23 = .ok (.aload_n 0, 1) := by decide +kernel
theorem d_Verifying_correctAll_24 : decode b_Verifying_correctAll 24 = .ok (.getfield 40, 3) := by decide +kernel
theorem d_Verifying_correctAll_27 : decode b_Verifying_correctAll 27 = .ok (.invokestatic 116, 3) := by decide +kernel
theorem d_Verifying_correctAll_30 : decode b_Verifying_correctAll 30 = .ok (.iconst 0, 1) := by decide +kernel
theorem d_Verifying_correctAll_31 : decode b_Verifying_correctAll 31 = .ok (.istore_n 1, 1) := by decide +kernel
theorem d_Verifying_correctAll_32 : decode b_Verifying_correctAll 32 = .ok (.iload_n 1, 1) := by decide +kernel
theorem d_Verifying_correctAll_33 : decode b_Verifying_correctAll 33 = .ok (.bipush 32, 2) := by decide +kernel
theorem d_Verifying_correctAll_35 : decode b_Verifying_correctAll 35 = .ok (.if_icmp .ge 45, 3) := by decide +kernel
theorem d_Verifying_correctAll_38 : decode b_Verifying_correctAll 38 = .ok (.aload_n 0, 1) := by decide +kernel
theorem d_Verifying_correctAll_39 : decode b_Verifying_correctAll 39 = .ok (.getfield 37, 3) := by decide +kernel
theorem d_Verifying_correctAll_42 : decode b_Verifying_correctAll 42 = .ok (.iload_n 1, 1) := by decide +kernel
theorem d_Verifying_correctAll_43 : decode b_Verifying_correctAll 43 = .ok (.iaload, 1) := by decide +kernel
theorem d_Verifying_correctAll_44 : decode b_Verifying_correctAll 44 = .ok (.aload_n 0, 1) := by decide +kernel
theorem d_Verifying_correctAll_45 : decode b_Verifying_correctAll 45 = .ok (.getfield 40, 3) := by decide +kernel
theorem d_Verifying_correctAll_48 : decode b_Verifying_correctAll 48 = .ok (.iload_n 1, 1) := by decide +kernel
theorem d_Verifying_correctAll_49 : decode b_Verifying_correctAll 49 = .ok (.iaload, 1) := by decide +kernel
theorem d_Verifying_correctAll_50 : decode b_Verifying_correctAll 50 = .ok (.isub, 1) := by decide +kernel
theorem d_Verifying_correctAll_51 : decode b_Verifying_correctAll 51 = .ok (.i2l, 1) := by decide +kernel
theorem d_Verifying_correctAll_52 : decode b_Verifying_correctAll 52 = .ok (.invokestatic 108, 3) := by decide +kernel
theorem d_Verifying_correctAll_55 : decode b_Verifying_correctAll 55 = .ok (.istore_n 2, 1) := by decide +kernel
theorem d_Verifying_correctAll_56 : decode b_Verifying_correctAll 56 = .ok (.aload_n 0, 1) := by decide +kernel
theorem d_Verifying_correctAll_57 : decode b_Verifying_correctAll 57 = .ok (.getfield 12, 3) := by decide +kernel
theorem d_Verifying_correctAll_60 : decode b_Verifying_correctAll 60 = .ok (.iload_n 1, 1) := by decide +kernel
theorem d_Verifying_correctAll_61 : decode b_Verifying_correctAll 61 = .ok (.aload_n 0, 1) := by decide +kernel
theorem d_Verifying_correctAll_62 : decode b_Verifying_correctAll 62 = .ok (.getfield 34, 3) := by decide +kernel
theorem d_Verifying_correctAll_65 : decode b_Verifying_correctAll 65 = .ok (.iload_n 1, 1) := by decide +kernel
theorem d_Verifying_correctAll_66 : decode b_Verifying_correctAll 66 = .ok (.iaload, 1) := by decide +kernel
theorem d_Verifying_correctAll_67 : decode b_Verifying_correctAll 67 = .ok (.iload_n 2, 1) := by decide +kernel
theorem d_Verifying_correctAll_68 : decode b_Verifying_correctAll 68 = .ok (.invokestatic 119, 3) := by decide +kernel
theorem d_Verifying_correctAll_71 : decode b_Verifying_correctAll 71 = .ok (.invokevirtual 125, 3) := by decide +kernel
theorem d_Verifying_correctAll_74 : decode b_Verifying_correctAll 74 = .ok (.iinc 1 1, 3) := by decide +kernel
theorem d_Verifying_correctAll_77 : decode b_Verifying_correctAll 77 = .ok (.goto (-45), 3) := by decide +kernel
theorem d_Verifying_correctAll_80 : decode b_Verifying_correctAll 80 = .ok (.return_, 1) := by decide +kernel
theorem d_Verifying_holds_0 : decode b_Verifying_holds 0 = .ok (.aload_n 0, 1) := by decide +kernel
theorem d_Verifying_holds_1 : decode b_Verifying_holds 1 = .ok (.aload 4, 2) := by decide +kernel
theorem d_Verifying_holds_3 : decode b_Verifying_holds 3 = .ok (.invokevirtual 43, 3) := by decide +kernel
theorem d_Verifying_holds_6 : decode b_Verifying_holds 6 = .ok (.aload_n 0, 1) := by decide +kernel
theorem d_Verifying_holds_7 : decode b_Verifying_holds 7 = .ok (.aload 4, 2) := by decide +kernel
theorem d_Verifying_holds_9 : decode b_Verifying_holds 9 = .ok (.invokevirtual 47, 3) := by decide +kernel
theorem d_Verifying_holds_12 : decode b_Verifying_holds 12 = .ok (.ifCond .eq 16, 3) := by decide +kernel
theorem d_Verifying_holds_15 : decode b_Verifying_holds 15 = .ok (.aload_n 0, 1) := by decide +kernel
theorem d_Verifying_holds_16 : decode b_Verifying_holds 16 = .ok (.getfield 28, 3) := by decide +kernel
theorem d_Verifying_holds_19 : decode b_Verifying_holds 19 = .ok (.invokestatic 51, 3) := by decide +kernel
theorem d_Verifying_holds_22 : decode b_Verifying_holds 22 = .ok (.sipush 504, 3) := by decide +kernel
theorem d_Verifying_holds_25 : decode b_Verifying_holds 25 = .ok (.if_icmp .lt 5, 3) := by decide +kernel
theorem d_Verifying_holds_28 : decode b_Verifying_holds 28 = .ok (.iconst 0, 1) := by decide +kernel
theorem d_Verifying_holds_29 : decode b_Verifying_holds 29 = .ok (.ireturn, 1) := by decide +kernel
theorem d_Verifying_holds_30 : decode b_Verifying_holds 30 = .ok (.aload_n 1, 1) := by decide +kernel
theorem d_Verifying_holds_31 : decode b_Verifying_holds 31 = .ok (.aload_n 2, 1) := by decide +kernel
theorem d_Verifying_holds_32 : decode b_Verifying_holds 32 = .ok (.aload_n 0, 1) := by decide +kernel
theorem d_Verifying_holds_33 : decode b_Verifying_holds 33 = .ok (.getfield 18, 3) := by decide +kernel
theorem d_Verifying_holds_36 : decode b_Verifying_holds 36 = .ok (.invokestatic 57, 3) := by decide +kernel
theorem d_Verifying_holds_39 : decode b_Verifying_holds 39 = .ok (.aload_n 0, 1) := by decide +kernel
theorem d_Verifying_holds_40 : decode b_Verifying_holds 40 = .ok (.getfield 12, 3) := by decide +kernel
theorem d_Verifying_holds_43 : decode b_Verifying_holds 43 = .ok (.aload_n 1, 1) := by decide +kernel
theorem d_Verifying_holds_44 : decode b_Verifying_holds 44 = .ok (.aload_n 0, 1) := by decide +kernel
theorem d_Verifying_holds_45 : decode b_Verifying_holds 45 = .ok (.getfield 18, 3) := by decide +kernel
theorem d_Verifying_holds_48 : decode b_Verifying_holds 48 = .ok (.aload_n 3, 1) := by decide +kernel
theorem d_Verifying_holds_49 : decode b_Verifying_holds 49 = .ok (.invokevirtual 63, 3) := by decide +kernel
theorem d_Verifying_holds_52 : decode b_Verifying_holds 52 = .ok (.aload_n 1, 1) := by decide +kernel
theorem d_Verifying_holds_53 : decode b_Verifying_holds 53 = .ok (.aload_n 2, 1) := by decide +kernel
theorem d_Verifying_holds_54 : decode b_Verifying_holds 54 = .ok (.aload_n 0, 1) := by decide +kernel
theorem d_Verifying_holds_55 : decode b_Verifying_holds 55 = .ok (.getfield 22, 3) := by decide +kernel
theorem d_Verifying_holds_58 : decode b_Verifying_holds 58 = .ok (.invokestatic 67, 3) := by decide +kernel
theorem d_Verifying_holds_61 : decode b_Verifying_holds 61 = .ok (.aload_n 1, 1) := by decide +kernel
theorem d_Verifying_holds_62 : decode b_Verifying_holds 62 = .ok (.aload 4, 2) := by decide +kernel
theorem d_Verifying_holds_64 : decode b_Verifying_holds 64 = .ok (.aload_n 0, 1) := by decide +kernel
theorem d_Verifying_holds_65 : decode b_Verifying_holds 65 = .ok (.getfield 31, 3) := by decide +kernel
theorem d_Verifying_holds_68 : decode b_Verifying_holds 68 = .ok (.invokestatic 72, 3) := by decide +kernel
theorem d_Verifying_holds_71 : decode b_Verifying_holds 71 = .ok (.aload_n 0, 1) := by decide +kernel
theorem d_Verifying_holds_72 : decode b_Verifying_holds 72 = .ok (.aload_n 2, 1) := by decide +kernel
theorem d_Verifying_holds_73 : decode b_Verifying_holds 73 = .ok (.invokevirtual 75, 3) := by decide +kernel
theorem d_Verifying_holds_76 : decode b_Verifying_holds 76 = .ok (.aload_n 0, 1) := by decide +kernel
theorem d_Verifying_holds_77 : decode b_Verifying_holds 77 = .ok (.invokevirtual 78, 3) := by decide +kernel
theorem d_Verifying_holds_80 : decode b_Verifying_holds 80 = .ok (.aload_n 0, 1) := by decide +kernel
theorem d_Verifying_holds_81 : decode b_Verifying_holds 81 = .ok (.getfield 12, 3) := by decide +kernel
theorem d_Verifying_holds_84 : decode b_Verifying_holds 84 = .ok (.aload_n 1, 1) := by decide +kernel
theorem d_Verifying_holds_85 : decode b_Verifying_holds 85 = .ok (.invokevirtual 81, 3) := by decide +kernel
theorem d_Verifying_holds_88 : decode b_Verifying_holds 88 = .ok (.aload_n 0, 1) := by decide +kernel
theorem d_Verifying_holds_89 : decode b_Verifying_holds 89 = .ok (.getfield 12, 3) := by decide +kernel
theorem d_Verifying_holds_92 : decode b_Verifying_holds 92 = .ok (.aload 4, 2) := by decide +kernel
theorem d_Verifying_holds_94 : decode b_Verifying_holds 94 = .ok (.invokevirtual 85, 3) := by decide +kernel
theorem d_Verifying_holds_97 : decode b_Verifying_holds 97 = .ok (.ireturn, 1) := by decide +kernel
