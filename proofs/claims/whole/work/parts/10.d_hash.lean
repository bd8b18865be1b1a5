theorem d_Arrays_fill_JJ_0 : decode b_Arrays_fill_JJ 0 = .ok (.iconst 0, 1) := by decide +kernel
theorem d_Arrays_fill_JJ_1 : decode b_Arrays_fill_JJ 1 = .ok (.istore_n 3, 1) := by decide +kernel
theorem d_Arrays_fill_JJ_2 : decode b_Arrays_fill_JJ 2 = .ok (.aload_n 0, 1) := by decide +kernel
theorem d_Arrays_fill_JJ_3 : decode b_Arrays_fill_JJ 3 = .ok (.arraylength, 1) := by decide +kernel
theorem d_Arrays_fill_JJ_4 : decode b_Arrays_fill_JJ 4 = .ok (.istore 4, 2) := by decide +kernel
theorem d_Arrays_fill_JJ_6 : decode b_Arrays_fill_JJ 6 = .ok (.iload_n 3, 1) := by decide +kernel
theorem d_Arrays_fill_JJ_7 : decode b_Arrays_fill_JJ 7 = .ok (.iload 4, 2) := by decide +kernel
theorem d_Arrays_fill_JJ_9 : decode b_Arrays_fill_JJ 9 = .ok (.if_icmp .ge 13, 3) := by decide +kernel
theorem d_Arrays_fill_JJ_12 : decode b_Arrays_fill_JJ 12 = .ok (.aload_n 0, 1) := by decide +kernel
theorem d_Arrays_fill_JJ_13 : decode b_Arrays_fill_JJ 13 = .ok (.iload_n 3, 1) := by decide +kernel
theorem d_Arrays_fill_JJ_14 : decode b_Arrays_fill_JJ 14 = .ok (.lload_n 1, 1) := by decide +kernel
theorem d_Arrays_fill_JJ_15 : decode b_Arrays_fill_JJ 15 = .ok (.lastore, 1) := by decide +kernel
theorem d_Arrays_fill_JJ_16 : decode b_Arrays_fill_JJ 16 = .ok (.iinc 3 1, 3) := by decide +kernel
theorem d_Arrays_fill_JJ_19 : decode b_Arrays_fill_JJ 19 = .ok (.goto (-13), 3) := by decide +kernel
theorem d_Arrays_fill_JJ_22 : decode b_Arrays_fill_JJ 22 = .ok (.return_, 1) := by decide +kernel
theorem d_Long_rotateLeft_0 : decode b_Long_rotateLeft 0 = .ok (.lload_n 0, 1) := by decide +kernel
theorem d_Long_rotateLeft_1 : decode b_Long_rotateLeft 1 = .ok (.iload_n 2, 1) := by decide +kernel
theorem d_Long_rotateLeft_2 : decode b_Long_rotateLeft 2 = .ok (.lshl, 1) := by decide +kernel
theorem d_Long_rotateLeft_3 : decode b_Long_rotateLeft 3 = .ok (.lload_n 0, 1) := by decide +kernel
theorem d_Long_rotateLeft_4 : decode b_Long_rotateLeft 4 = .ok (.iload_n 2, 1) := by decide +kernel
theorem d_Long_rotateLeft_5 : decode b_Long_rotateLeft 5 = .ok (.ineg, 1) := by decide +kernel
theorem d_Long_rotateLeft_6 : decode b_Long_rotateLeft 6 = .ok (.lushr, 1) := by decide +kernel
theorem d_Long_rotateLeft_7 : decode b_Long_rotateLeft 7 = .ok (.lor, 1) := by decide +kernel
theorem d_Long_rotateLeft_8 : decode b_Long_rotateLeft 8 = .ok (.lreturn, 1) := by decide +kernel
theorem d_Hasher_mixByte_0 : decode b_Hasher_mixByte 0 = .ok (.aload_n 0, 1) := by decide +kernel
theorem d_Hasher_mixByte_1 : decode b_Hasher_mixByte 1 = .ok (.getfield 11, 3) := by decide +kernel
theorem d_Hasher_mixByte_4 : decode b_Hasher_mixByte 4 = .ok (.iload_n 1, 1) := by decide +kernel
theorem d_Hasher_mixByte_5 : decode b_Hasher_mixByte 5 = .ok (.bipush 8, 2) := by decide +kernel
theorem d_Hasher_mixByte_7 : decode b_Hasher_mixByte 7 = .ok (.idiv, 1) := by decide +kernel
theorem d_Hasher_mixByte_8 : decode b_Hasher_mixByte 8 = .ok (.dup2, 1) := by decide +kernel
theorem d_Hasher_mixByte_9 : decode b_Hasher_mixByte 9 = .ok (.laload, 1) := by decide +kernel
theorem d_Hasher_mixByte_10 : decode b_Hasher_mixByte 10 = .ok (.iload_n 2, 1) := by decide +kernel
theorem d_Hasher_mixByte_11 : decode b_Hasher_mixByte 11 = .ok (.i2l, 1) := by decide +kernel
theorem d_Hasher_mixByte_12 : decode b_Hasher_mixByte 12 = .ok (.bipush 8, 2) := by decide +kernel
theorem d_Hasher_mixByte_14 : decode b_Hasher_mixByte 14 = .ok (.iload_n 1, 1) := by decide +kernel
theorem d_Hasher_mixByte_15 : decode b_Hasher_mixByte 15 = .ok (.bipush 8, 2) := by decide +kernel
theorem d_Hasher_mixByte_17 : decode b_Hasher_mixByte 17 = .ok (.irem, 1) := by decide +kernel
theorem d_Hasher_mixByte_18 : decode b_Hasher_mixByte 18 = .ok (.imul, 1) := by decide +kernel
theorem d_Hasher_mixByte_19 : decode b_Hasher_mixByte 19 = .ok (.lshl, 1) := by decide +kernel
theorem d_Hasher_mixByte_20 : decode b_Hasher_mixByte 20 = .ok (.lxor, 1) := by decide +kernel
theorem d_Hasher_mixByte_21 : decode b_Hasher_mixByte 21 = .ok (.lastore, 1) := by decide +kernel
theorem d_Hasher_mixByte_22 : decode b_Hasher_mixByte 22 = .ok (.return_, 1) := by decide +kernel
theorem d_Hasher_begin_0 : decode b_Hasher_begin 0 = .ok (.aload_n 0, 1) := by decide +kernel
theorem d_Hasher_begin_1 : decode b_Hasher_begin 1 = .ok (.getfield 11, 3) := by decide +kernel
theorem d_Hasher_begin_4 : decode b_Hasher_begin 4 = .ok (.lconst 0, 1) := by decide +kernel
theorem d_Hasher_begin_5 : decode b_Hasher_begin 5 = .ok (.invokestatic 25, 3) := by decide +kernel
theorem d_Hasher_begin_8 : decode b_Hasher_begin 8 = .ok (.aload_n 0, 1) := by decide +kernel
theorem d_Hasher_begin_9 : decode b_Hasher_begin 9 = .ok (.iconst 0, 1) := by decide +kernel
theorem d_Hasher_begin_10 : decode b_Hasher_begin 10 = .ok (.putfield 31, 3) := by decide +kernel
theorem d_Hasher_begin_13 : decode b_Hasher_begin 13 = .ok (.return_, 1) := by decide +kernel
theorem d_Hasher_take_0 : decode b_Hasher_take 0 = .ok (.aload_n 0, 1) := by decide +kernel
theorem d_Hasher_take_1 : decode b_Hasher_take 1 = .ok (.getfield 31, 3) := by decide +kernel
theorem d_Hasher_take_4 : decode b_Hasher_take 4 = .ok (.sipush 135, 3) := by decide +kernel
theorem d_Hasher_take_7 : decode b_Hasher_take 7 = .ok (.if_icmp .ge 22, 3) := by decide +kernel
theorem d_Hasher_take_10 : decode b_Hasher_take 10 = .ok (.aload_n 0, 1) := by decide +kernel
theorem d_Hasher_take_11 : decode b_Hasher_take 11 = .ok (.aload_n 0, 1) := by decide +kernel
theorem d_Hasher_take_12 : decode b_Hasher_take 12 = .ok (.getfield 31, 3) := by decide +kernel
theorem d_Hasher_take_15 : decode b_Hasher_take 15 = .ok (.iload_n 1, 1) := by decide +kernel
theorem d_Hasher_take_16 : decode b_Hasher_take 16 = .ok (.invokevirtual 35, 3) := by decide +kernel
theorem d_Hasher_take_19 : decode b_Hasher_take 19 = .ok (.aload_n 0, 1) := by decide +kernel
theorem d_Hasher_take_20 : decode b_Hasher_take 20 = .ok (.dup, 1) := by decide +kernel
theorem d_Hasher_take_21 : decode b_Hasher_take 21 = .ok (.getfield 31, 3) := by decide +kernel
theorem d_Hasher_take_24 : decode b_Hasher_take 24 = .ok (.iconst 1, 1) := by decide +kernel
theorem d_Hasher_take_25 : decode b_Hasher_take 25 = .ok (.iadd, 1) := by decide +kernel
theorem d_Hasher_take_26 : decode b_Hasher_take 26 = .ok (.putfield 31, 3) := by decide +kernel
theorem d_Hasher_take_29 : decode b_Hasher_take 29 = .ok (.return_, 1) := by decide +kernel
theorem d_Hasher_takeFirst_0 : decode b_Hasher_takeFirst 0 = .ok (.iconst 0, 1) := by decide +kernel
theorem d_Hasher_takeFirst_1 : decode b_Hasher_takeFirst 1 = .ok (.istore_n 3, 1) := by decide +kernel
theorem d_Hasher_takeFirst_2 : decode b_Hasher_takeFirst 2 = .ok (.iload_n 3, 1) := by decide +kernel
theorem d_Hasher_takeFirst_3 : decode b_Hasher_takeFirst 3 = .ok (.iload_n 2, 1) := by decide +kernel
theorem d_Hasher_takeFirst_4 : decode b_Hasher_takeFirst 4 = .ok (.if_icmp .ge 16, 3) := by decide +kernel
theorem d_Hasher_takeFirst_7 : decode b_Hasher_takeFirst 7 = .ok (.aload_n 0, 1) := by decide +kernel
theorem d_Hasher_takeFirst_8 : decode b_Hasher_takeFirst 8 = .ok (.aload_n 1, 1) := by decide +kernel
theorem d_Hasher_takeFirst_9 : decode b_Hasher_takeFirst 9 = .ok (.iload_n 3, 1) := by decide +kernel
theorem d_Hasher_takeFirst_10 : decode b_Hasher_takeFirst 10 = .ok (.iaload, 1) := by decide +kernel
theorem d_Hasher_takeFirst_11 : decode b_Hasher_takeFirst 11 = .ok (.invokevirtual 43, 3) := by decide +kernel
theorem d_Hasher_takeFirst_14 : decode b_Hasher_takeFirst 14 = .ok (.iinc 3 1, 3) := by decide +kernel
theorem d_Hasher_takeFirst_17 : decode b_Hasher_takeFirst 17 = .ok (.goto (-15), 3) := by decide +kernel
theorem d_Hasher_takeFirst_20 : decode b_Hasher_takeFirst 20 = .ok (.return_, 1) := by decide +kernel
theorem d_Hasher_takeAll_0 : decode b_Hasher_takeAll 0 = .ok (.aload_n 0, 1) := by decide +kernel
theorem d_Hasher_takeAll_1 : decode b_Hasher_takeAll 1 = .ok (.aload_n 1, 1) := by decide +kernel
theorem d_Hasher_takeAll_2 : decode b_Hasher_takeAll 2 = .ok (.aload_n 1, 1) := by decide +kernel
theorem d_Hasher_takeAll_3 : decode b_Hasher_takeAll 3 = .ok (.arraylength, 1) := by decide +kernel
theorem d_Hasher_takeAll_4 : decode b_Hasher_takeAll 4 = .ok (.invokevirtual 39, 3) := by decide +kernel
theorem d_Hasher_takeAll_7 : decode b_Hasher_takeAll 7 = .ok (.return_, 1) := by decide +kernel
theorem d_Hasher_takeLong_0 : decode b_Hasher_takeLong 0 = .ok (.iconst 0, 1) := by decide +kernel
theorem d_Hasher_takeLong_1 : decode b_Hasher_takeLong 1 = .ok (.istore_n 3, 1) := by decide +kernel
theorem d_Hasher_takeLong_2 : decode b_Hasher_takeLong 2 = .ok (.iload_n 3, 1) := by decide +kernel
theorem d_Hasher_takeLong_3 : decode b_Hasher_takeLong 3 = .ok (.bipush 8, 2) := by decide +kernel
theorem d_Hasher_takeLong_5 : decode b_Hasher_takeLong 5 = .ok (.if_icmp .ge 24, 3) := by decide +kernel
theorem d_Hasher_takeLong_8 : decode b_Hasher_takeLong 8 = .ok (.aload_n 0, 1) := by decide +kernel
theorem d_Hasher_takeLong_9 : decode b_Hasher_takeLong 9 = .ok (.lload_n 1, 1) := by decide +kernel
theorem d_Hasher_takeLong_10 : decode b_Hasher_takeLong 10 = .ok (.bipush 8, 2) := by decide +kernel
theorem d_Hasher_takeLong_12 : decode b_Hasher_takeLong 12 = .ok (.iload_n 3, 1) := by decide +kernel
theorem d_Hasher_takeLong_13 : decode b_Hasher_takeLong 13 = .ok (.imul, 1) := by decide +kernel
theorem d_Hasher_takeLong_14 : decode b_Hasher_takeLong 14 = .ok (.lushr, 1) := by decide +kernel
theorem d_Hasher_takeLong_15 : decode b_Hasher_takeLong 15 = .ok (.l2i, 1) := by decide +kernel
theorem d_Hasher_takeLong_16 : decode b_Hasher_takeLong 16 = .ok (.sipush 255, 3) := by decide +kernel
theorem d_Hasher_takeLong_19 : decode b_Hasher_takeLong 19 = .ok (.iand, 1) := by decide +kernel
theorem d_Hasher_takeLong_20 : decode b_Hasher_takeLong 20 = .ok (.invokevirtual 43, 3) := by decide +kernel
theorem d_Hasher_takeLong_23 : decode b_Hasher_takeLong 23 = .ok (.iinc 3 1, 3) := by decide +kernel
theorem d_Hasher_takeLong_26 : decode b_Hasher_takeLong 26 = .ok (.goto (-24), 3) := by decide +kernel
theorem d_Hasher_takeLong_29 : decode b_Hasher_takeLong 29 = .ok (.return_, 1) := by decide +kernel
theorem d_Hasher_mixColumns_0 : decode b_Hasher_mixColumns 0 = .ok (.iconst 0, 1) := by decide +kernel
theorem d_Hasher_mixColumns_1 : decode b_Hasher_mixColumns 1 = .ok (.istore_n 1, 1) := by decide +kernel
theorem d_Hasher_mixColumns_2 : decode b_Hasher_mixColumns 2 = .ok (.iload_n 1, 1) := by decide +kernel
theorem d_Hasher_mixColumns_3 : decode b_Hasher_mixColumns 3 = .ok (.iconst 5, 1) := by decide +kernel
theorem d_Hasher_mixColumns_4 : decode b_Hasher_mixColumns 4 = .ok (.if_icmp .ge 60, 3) := by decide +kernel
theorem d_Hasher_mixColumns_7 : decode b_Hasher_mixColumns 7 = .ok (.aload_n 0, 1) := by decide +kernel
theorem d_Hasher_mixColumns_8 : decode b_Hasher_mixColumns 8 = .ok (.getfield 18, 3) := by decide +kernel
theorem d_Hasher_mixColumns_11 : decode b_Hasher_mixColumns 11 = .ok (.iload_n 1, 1) := by decide +kernel
theorem d_Hasher_mixColumns_12 : decode b_Hasher_mixColumns 12 = .ok (.aload_n 0, 1) := by decide +kernel
theorem d_Hasher_mixColumns_13 : decode b_Hasher_mixColumns 13 = .ok (.getfield 11, 3) := by decide +kernel
theorem d_Hasher_mixColumns_16 : decode b_Hasher_mixColumns 16 = .ok (.iload_n 1, 1) := by decide +kernel
theorem d_Hasher_mixColumns_17 : decode b_Hasher_mixColumns 17 = .ok (.laload, 1) := by decide +kernel
theorem d_Hasher_mixColumns_18 : decode b_Hasher_mixColumns 18 = .ok (.aload_n 0, 1) := by decide +kernel
theorem d_Hasher_mixColumns_19 : decode b_Hasher_mixColumns 19 = .ok (.getfield 11, 3) := by decide +kernel
theorem d_Hasher_mixColumns_22 : decode b_Hasher_mixColumns 22 = .ok (.iload_n 1, 1) := by decide +kernel
theorem d_Hasher_mixColumns_23 : decode b_Hasher_mixColumns 23 = .ok (.iconst 5, 1) := by decide +kernel
theorem d_Hasher_mixColumns_24 : decode b_Hasher_mixColumns 24 = .ok (.iadd, 1) := by decide +kernel
theorem d_Hasher_mixColumns_25 : decode b_Hasher_mixColumns 25 = .ok (.laload, 1) := by decide +kernel
theorem d_Hasher_mixColumns_26 : decode b_Hasher_mixColumns 26 = .ok (.lxor, 1) := by decide +kernel
theorem d_Hasher_mixColumns_27 : decode b_Hasher_mixColumns 27 = .ok (.aload_n 0, 1) := by decide +kernel
theorem d_Hasher_mixColumns_28 : decode b_Hasher_mixColumns 28 = .ok (.getfield 11, 3) := by decide +kernel
theorem d_Hasher_mixColumns_31 : decode b_Hasher_mixColumns 31 = .ok (.iload_n 1, 1) := by decide +kernel
theorem d_Hasher_mixColumns_32 : decode b_Hasher_mixColumns 32 = .ok (.bipush 10, 2) := by decide +kernel
theorem d_Hasher_mixColumns_34 : decode b_Hasher_mixColumns 34 = .ok (.iadd, 1) := by decide +kernel
theorem d_Hasher_mixColumns_35 : decode b_Hasher_mixColumns 35 = .ok (.laload, 1) := by decide +kernel
theorem d_Hasher_mixColumns_36 : decode b_Hasher_mixColumns 36 = .ok (.lxor, 1) := by decide +kernel
theorem d_Hasher_mixColumns_37 : decode b_Hasher_mixColumns 37 = .ok (.aload_n 0, 1) := by decide +kernel
theorem d_Hasher_mixColumns_38 : decode b_Hasher_mixColumns 38 = .ok (.getfield 11, 3) := by decide +kernel
theorem d_Hasher_mixColumns_41 : decode b_Hasher_mixColumns 41 = .ok (.iload_n 1, 1) := by decide +kernel
theorem d_Hasher_mixColumns_42 : decode b_Hasher_mixColumns 42 = .ok (.bipush 15, 2) := by decide +kernel
theorem d_Hasher_mixColumns_44 : decode b_Hasher_mixColumns 44 = .ok (.iadd, 1) := by decide +kernel
theorem d_Hasher_mixColumns_45 : decode b_Hasher_mixColumns 45 = .ok (.laload, 1) := by decide +kernel
theorem d_Hasher_mixColumns_46 : decode b_Hasher_mixColumns 46 = .ok (.lxor, 1) := by decide +kernel
theorem d_Hasher_mixColumns_47 : decode b_Hasher_mixColumns 47 = .ok (.aload_n 0, 1) := by decide +kernel
theorem d_Hasher_mixColumns_48 : decode b_Hasher_mixColumns 48 = .ok (.getfield 11, 3) := by decide +kernel
theorem d_Hasher_mixColumns_51 : decode b_Hasher_mixColumns 51 = .ok (.iload_n 1, 1) := by decide +kernel
theorem d_Hasher_mixColumns_52 : decode b_Hasher_mixColumns 52 = .ok (.bipush 20, 2) := by decide +kernel
theorem d_Hasher_mixColumns_54 : decode b_Hasher_mixColumns 54 = .ok (.iadd, 1) := by decide +kernel
theorem d_Hasher_mixColumns_55 : decode b_Hasher_mixColumns 55 = .ok (.laload, 1) := by decide +kernel
theorem d_Hasher_mixColumns_56 : decode b_Hasher_mixColumns 56 = .ok (.lxor, 1) := by decide +kernel
theorem d_Hasher_mixColumns_57 : decode b_Hasher_mixColumns 57 = .ok (.lastore, 1) := by decide +kernel
theorem d_Hasher_mixColumns_58 : decode b_Hasher_mixColumns 58 = .ok (.iinc 1 1, 3) := by decide +kernel
theorem d_Hasher_mixColumns_61 : decode b_Hasher_mixColumns 61 = .ok (.goto (-59), 3) := by decide +kernel
theorem d_Hasher_mixColumns_64 : decode b_Hasher_mixColumns 64 = .ok (.iconst 0, 1) := by decide +kernel
theorem d_Hasher_mixColumns_65 : decode b_Hasher_mixColumns 65 = .ok (.istore_n 1, 1) := by decide +kernel
theorem d_Hasher_mixColumns_66 : decode b_Hasher_mixColumns 66 = .ok (.iload_n 1, 1) := by decide +kernel
theorem d_Hasher_mixColumns_67 : decode b_Hasher_mixColumns 67 = .ok (.bipush 25, 2) := by decide +kernel
theorem d_Hasher_mixColumns_69 : decode b_Hasher_mixColumns 69 = .ok (.if_icmp .ge 43, 3) := by decide +kernel
theorem d_Hasher_mixColumns_72 : decode b_Hasher_mixColumns 72 = .ok (.aload_n 0, 1) := by decide +kernel
theorem d_Hasher_mixColumns_73 : decode b_Hasher_mixColumns 73 = .ok (.getfield 11, 3) := by decide +kernel
theorem d_Hasher_mixColumns_76 : decode b_Hasher_mixColumns 76 = .ok (.iload_n 1, 1) := by decide +kernel
theorem d_Hasher_mixColumns_77 : decode b_Hasher_mixColumns 77 = .ok (.dup2, 1) := by decide +kernel
theorem d_Hasher_mixColumns_78 : decode b_Hasher_mixColumns 78 = .ok (.laload, 1) := by decide +kernel
theorem d_Hasher_mixColumns_79 : decode b_Hasher_mixColumns 79 = .ok (.aload_n 0, 1) := by decide +kernel
theorem d_Hasher_mixColumns_80 : decode b_Hasher_mixColumns 80 = .ok (.getfield 18, 3) := by decide +kernel
theorem d_Hasher_mixColumns_83 : decode b_Hasher_mixColumns 83 = .ok (.iload_n 1, 1) := by decide +kernel
theorem d_Hasher_mixColumns_84 : decode b_Hasher_mixColumns 84 = .ok (.iconst 4, 1) := by decide +kernel
theorem d_Hasher_mixColumns_85 : decode b_Hasher_mixColumns 85 = .ok (.iadd, 1) := by decide +kernel
theorem d_Hasher_mixColumns_86 : decode b_Hasher_mixColumns 86 = .ok (.iconst 5, 1) := by decide +kernel
theorem d_Hasher_mixColumns_87 : decode b_Hasher_mixColumns 87 = .ok (.irem, 1) := by decide +kernel
theorem d_Hasher_mixColumns_88 : decode b_Hasher_mixColumns 88 = .ok (.laload, 1) := by decide +kernel
theorem d_Hasher_mixColumns_89 : decode b_Hasher_mixColumns 89 = .ok (.aload_n 0, 1) := by decide +kernel
theorem d_Hasher_mixColumns_90 : decode b_Hasher_mixColumns 90 = .ok (.getfield 18, 3) := by decide +kernel
theorem d_Hasher_mixColumns_93 : decode b_Hasher_mixColumns 93 = .ok (.iload_n 1, 1) := by decide +kernel
theorem d_Hasher_mixColumns_94 : decode b_Hasher_mixColumns 94 = .ok (.iconst 1, 1) := by decide +kernel
theorem d_Hasher_mixColumns_95 : decode b_Hasher_mixColumns 95 = .ok (.iadd, 1) := by decide +kernel
theorem d_Hasher_mixColumns_96 : decode b_Hasher_mixColumns 96 = .ok (.iconst 5, 1) := by decide +kernel
theorem d_Hasher_mixColumns_97 : decode b_Hasher_mixColumns 97 = .ok (.irem, 1) := by decide +kernel
theorem d_Hasher_mixColumns_98 : decode b_Hasher_mixColumns 98 = .ok (.laload, 1) := by decide +kernel
theorem d_Hasher_mixColumns_99 : decode b_Hasher_mixColumns 99 = .ok (.iconst 1, 1) := by decide +kernel
theorem d_Hasher_mixColumns_100 : decode b_Hasher_mixColumns 100 = .ok (.invokestatic 59, 3) := by decide +kernel
theorem d_Hasher_mixColumns_103 : decode b_Hasher_mixColumns 103 = .ok (.lxor, 1) := by decide +kernel
theorem d_Hasher_mixColumns_104 : decode b_Hasher_mixColumns 104 = .ok (.lxor, 1) := by decide +kernel
theorem d_Hasher_mixColumns_105 : decode b_Hasher_mixColumns 105 = .ok (.lastore, 1) := by decide +kernel
theorem d_Hasher_mixColumns_106 : decode b_Hasher_mixColumns 106 = .ok (.iinc 1 1, 3) := by decide +kernel
theorem d_Hasher_mixColumns_109 : decode b_Hasher_mixColumns 109 = .ok (.goto (-43), 3) := by decide +kernel
theorem d_Hasher_mixColumns_112 : decode b_Hasher_mixColumns 112 = .ok (.return_, 1) := by decide +kernel
theorem d_Hasher_moveLanes_0 : decode b_Hasher_moveLanes 0 = .ok (.iconst 0, 1) := by decide +kernel
theorem d_Hasher_moveLanes_1 : decode b_Hasher_moveLanes 1 = .ok (.istore_n 1, 1) := by decide +kernel
theorem d_Hasher_moveLanes_2 : decode b_Hasher_moveLanes 2 = .ok (.iload_n 1, 1) := by decide +kernel
theorem d_Hasher_moveLanes_3 : decode b_Hasher_moveLanes 3 = .ok (.iconst 5, 1) := by decide +kernel
theorem d_Hasher_moveLanes_4 : decode b_Hasher_moveLanes 4 = .ok (.if_icmp .ge 60, 3) := by decide +kernel
theorem d_Hasher_moveLanes_7 : decode b_Hasher_moveLanes 7 = .ok (.iconst 0, 1) := by decide +kernel
theorem d_Hasher_moveLanes_8 : decode b_Hasher_moveLanes 8 = .ok (.istore_n 2, 1) := by decide +kernel
theorem d_Hasher_moveLanes_9 : decode b_Hasher_moveLanes 9 = .ok (.iload_n 2, 1) := by decide +kernel
theorem d_Hasher_moveLanes_10 : decode b_Hasher_moveLanes 10 = .ok (.iconst 5, 1) := by decide +kernel
theorem d_Hasher_moveLanes_11 : decode b_Hasher_moveLanes 11 = .ok (.if_icmp .ge 47, 3) := by decide +kernel
theorem d_Hasher_moveLanes_14 : decode b_Hasher_moveLanes 14 = .ok (.iload_n 2, 1) := by decide +kernel
theorem d_Hasher_moveLanes_15 : decode b_Hasher_moveLanes 15 = .ok (.iconst 5, 1) := by decide +kernel
theorem d_Hasher_moveLanes_16 : decode b_Hasher_moveLanes 16 = .ok (.iload_n 1, 1) := by decide +kernel
theorem d_Hasher_moveLanes_17 : decode b_Hasher_moveLanes 17 = .ok (.imul, 1) := by decide +kernel
theorem d_Hasher_moveLanes_18 : decode b_Hasher_moveLanes 18 = .ok (.iadd, 1) := by decide +kernel
theorem d_Hasher_moveLanes_19 : decode b_Hasher_moveLanes 19 = .ok (.istore_n 3, 1) := by decide +kernel
theorem d_Hasher_moveLanes_20 : decode b_Hasher_moveLanes 20 = .ok (.aload_n 0, 1) := by decide +kernel
theorem d_Hasher_moveLanes_21 : decode b_Hasher_moveLanes 21 = .ok (.getfield 15, 3) := by decide +kernel
theorem d_Hasher_moveLanes_24 : decode b_Hasher_moveLanes 24 = .ok (.iload_n 1, 1) := by decide +kernel
theorem d_Hasher_moveLanes_25 : decode b_Hasher_moveLanes 25 = .ok (.iconst 5, 1) := by decide +kernel
theorem d_Hasher_moveLanes_26 : decode b_Hasher_moveLanes 26 = .ok (.iconst 2, 1) := by decide +kernel
theorem d_Hasher_moveLanes_27 : decode b_Hasher_moveLanes 27 = .ok (.iload_n 2, 1) := by decide +kernel
theorem d_Hasher_moveLanes_28 : decode b_Hasher_moveLanes 28 = .ok (.imul, 1) := by decide +kernel
theorem d_Hasher_moveLanes_29 : decode b_Hasher_moveLanes 29 = .ok (.iconst 3, 1) := by decide +kernel
theorem d_Hasher_moveLanes_30 : decode b_Hasher_moveLanes 30 = .ok (.iload_n 1, 1) := by decide +kernel
theorem d_Hasher_moveLanes_31 : decode b_Hasher_moveLanes 31 = .ok (.imul, 1) := by decide +kernel
theorem d_Hasher_moveLanes_32 : decode b_Hasher_moveLanes 32 = .ok (.iadd, 1) := by decide +kernel
theorem d_Hasher_moveLanes_33 : decode b_Hasher_moveLanes 33 = .ok (.iconst 5, 1) := by decide +kernel
theorem d_Hasher_moveLanes_34 : decode b_Hasher_moveLanes 34 = .ok (.irem, 1) := by decide +kernel
theorem d_Hasher_moveLanes_35 : decode b_Hasher_moveLanes 35 = .ok (.imul, 1) := by decide +kernel
theorem d_Hasher_moveLanes_36 : decode b_Hasher_moveLanes 36 = .ok (.iadd, 1) := by decide +kernel
theorem d_Hasher_moveLanes_37 : decode b_Hasher_moveLanes 37 = .ok (.aload_n 0, 1) := by decide +kernel
theorem d_Hasher_moveLanes_38 : decode b_Hasher_moveLanes 38 = .ok (.getfield 11, 3) := by decide +kernel
theorem d_Hasher_moveLanes_41 : decode b_Hasher_moveLanes 41 = .ok (.iload_n 3, 1) := by decide +kernel
theorem d_Hasher_moveLanes_42 : decode b_Hasher_moveLanes 42 = .ok (.laload, 1) := by decide +kernel
theorem d_Hasher_moveLanes_43 : decode b_Hasher_moveLanes 43 = .ok (.getstatic 65, 3) := by decide +kernel
theorem d_Hasher_moveLanes_46 : decode b_Hasher_moveLanes 46 = .ok (.iload_n 3, 1) := by decide +kernel
theorem d_Hasher_moveLanes_47 : decode b_Hasher_moveLanes 47 = .ok (.iaload, 1) := by decide +kernel
theorem d_Hasher_moveLanes_48 : decode b_Hasher_moveLanes 48 = .ok (.invokestatic 59, 3) := by decide +kernel
theorem d_Hasher_moveLanes_51 : decode b_Hasher_moveLanes 51 = .ok (.lastore, 1) := by decide +kernel
theorem d_Hasher_moveLanes_52 : decode b_Hasher_moveLanes 52 = .ok (.iinc 2 1, 3) := by decide +kernel
theorem d_Hasher_moveLanes_55 : decode b_Hasher_moveLanes 55 = .ok (.goto (-46), 3) := by decide +kernel
theorem d_Hasher_moveLanes_58 : decode b_Hasher_moveLanes 58 = .ok (.iinc 1 1, 3) := by decide +kernel
theorem d_Hasher_moveLanes_61 : decode b_Hasher_moveLanes 61 = .ok (.goto (-59), 3) := by decide +kernel
theorem d_Hasher_moveLanes_64 : decode b_Hasher_moveLanes 64 = .ok (.return_, 1) := by decide +kernel
theorem d_Hasher_mixRows_0 : decode b_Hasher_mixRows 0 = .ok (.iconst 0, 1) := by decide +kernel
theorem d_Hasher_mixRows_1 : decode b_Hasher_mixRows 1 = .ok (.istore_n 1, 1) := by decide +kernel
theorem d_Hasher_mixRows_2 : decode b_Hasher_mixRows 2 = .ok (.iload_n 1, 1) := by decide +kernel
theorem d_Hasher_mixRows_3 : decode b_Hasher_mixRows 3 = .ok (.bipush 25, 2) := by decide +kernel
theorem d_Hasher_mixRows_5 : decode b_Hasher_mixRows 5 = .ok (.if_icmp .ge 68, 3) := by decide +kernel
theorem d_Hasher_mixRows_8 : decode b_Hasher_mixRows 8 = .ok (.iconst 0, 1) := by decide +kernel
theorem d_Hasher_mixRows_9 : decode b_Hasher_mixRows 9 = .ok (.istore_n 2, 1) := by decide +kernel
theorem d_Hasher_mixRows_10 : decode b_Hasher_mixRows 10 = .ok (.iload_n 2, 1) := by decide +kernel
theorem d_Hasher_mixRows_11 : decode b_Hasher_mixRows 11 = .ok (.iconst 5, 1) := by decide +kernel
theorem d_Hasher_mixRows_12 : decode b_Hasher_mixRows 12 = .ok (.if_icmp .ge 55, 3) := by decide +kernel
theorem d_Hasher_mixRows_15 : decode b_Hasher_mixRows 15 = .ok (.aload_n 0, 1) := by decide +kernel
theorem d_Hasher_mixRows_16 : decode b_Hasher_mixRows 16 = .ok (.getfield 11, 3) := by decide +kernel
theorem d_Hasher_mixRows_19 : decode b_Hasher_mixRows 19 = .ok (.iload_n 1, 1) := by decide +kernel
theorem d_Hasher_mixRows_20 : decode b_Hasher_mixRows 20 = .ok (.iload_n 2, 1) := by decide +kernel
theorem d_Hasher_mixRows_21 : decode b_Hasher_mixRows 21 = .ok (.iadd, 1) := by decide +kernel
theorem d_Hasher_mixRows_22 : decode b_Hasher_mixRows 22 = .ok (.aload_n 0, 1) := by decide +kernel
theorem d_Hasher_mixRows_23 : decode b_Hasher_mixRows 23 = .ok (.getfield 15, 3) := by decide +kernel
theorem d_Hasher_mixRows_26 : decode b_Hasher_mixRows 26 = .ok (.iload_n 1, 1) := by decide +kernel
theorem d_Hasher_mixRows_27 : decode b_Hasher_mixRows 27 = .ok (.iload_n 2, 1) := by decide +kernel
theorem d_Hasher_mixRows_28 : decode b_Hasher_mixRows 28 = .ok (.iadd, 1) := by decide +kernel
theorem d_Hasher_mixRows_29 : decode b_Hasher_mixRows 29 = .ok (.laload, 1) := by decide +kernel
theorem d_Hasher_mixRows_30 : decode b_Hasher_mixRows 30 = .ok (.aload_n 0, 1) := by decide +kernel
theorem d_Hasher_mixRows_31 : decode b_Hasher_mixRows 31 = .ok (.getfield 15, 3) := by decide +kernel
theorem d_Hasher_mixRows_34 : decode b_Hasher_mixRows 34 = .ok (.iload_n 1, 1) := by decide +kernel
theorem d_Hasher_mixRows_35 : decode b_Hasher_mixRows 35 = .ok (.iload_n 2, 1) := by decide +kernel
theorem d_Hasher_mixRows_36 : decode b_Hasher_mixRows 36 = .ok (.iconst 1, 1) := by decide +kernel
theorem d_Hasher_mixRows_37 : decode b_Hasher_mixRows 37 = .ok (.iadd, 1) := by decide +kernel
theorem d_Hasher_mixRows_38 : decode b_Hasher_mixRows 38 = .ok (.iconst 5, 1) := by decide +kernel
theorem d_Hasher_mixRows_39 : decode b_Hasher_mixRows 39 = .ok (.irem, 1) := by decide +kernel
theorem d_Hasher_mixRows_40 : decode b_Hasher_mixRows 40 = .ok (.iadd, 1) := by decide +kernel
theorem d_Hasher_mixRows_41 : decode b_Hasher_mixRows 41 = .ok (.laload, 1) := by decide +kernel
theorem d_Hasher_mixRows_42 : decode b_Hasher_mixRows 42 = .ok (.ldc2_w 68, 3) := by decide +kernel
theorem d_Hasher_mixRows_45 : decode b_Hasher_mixRows 45 = .ok (.lxor, 1) := by decide +kernel
theorem d_Hasher_mixRows_46 : decode b_Hasher_mixRows 46 = .ok (.aload_n 0, 1) := by decide +kernel
theorem d_Hasher_mixRows_47 : decode b_Hasher_mixRows 47 = .ok (.getfield 15, 3) := by decide +kernel
theorem d_Hasher_mixRows_50 : decode b_Hasher_mixRows 50 = .ok (.iload_n 1, 1) := by decide +kernel
theorem d_Hasher_mixRows_51 : decode b_Hasher_mixRows 51 = .ok (.iload_n 2, 1) := by decide +kernel
theorem d_Hasher_mixRows_52 : decode b_Hasher_mixRows 52 = .ok (.iconst 2, 1) := by decide +kernel
theorem d_Hasher_mixRows_53 : decode b_Hasher_mixRows 53 = .ok (.iadd, 1) := by decide +kernel
theorem d_Hasher_mixRows_54 : decode b_Hasher_mixRows 54 = .ok (.iconst 5, 1) := by decide +kernel
theorem d_Hasher_mixRows_55 : decode b_Hasher_mixRows 55 = .ok (.irem, 1) := by decide +kernel
theorem d_Hasher_mixRows_56 : decode b_Hasher_mixRows 56 = .ok (.iadd, 1) := by decide +kernel
theorem d_Hasher_mixRows_57 : decode b_Hasher_mixRows 57 = .ok (.laload, 1) := by decide +kernel
theorem d_Hasher_mixRows_58 : decode b_Hasher_mixRows 58 = .ok (.land, 1) := by decide +kernel
theorem d_Hasher_mixRows_59 : decode b_Hasher_mixRows 59 = .ok (.lxor, 1) := by decide +kernel
theorem d_Hasher_mixRows_60 : decode b_Hasher_mixRows 60 = .ok (.lastore, 1) := by decide +kernel
theorem d_Hasher_mixRows_61 : decode b_Hasher_mixRows 61 = .ok (.iinc 2 1, 3) := by decide +kernel
theorem d_Hasher_mixRows_64 : decode b_Hasher_mixRows 64 = .ok (.goto (-54), 3) := by decide +kernel
theorem d_Hasher_mixRows_67 : decode b_Hasher_mixRows 67 = .ok (.iinc 1 5, 3) := by decide +kernel
theorem d_Hasher_mixRows_70 : decode b_Hasher_mixRows 70 = .ok (.goto (-68), 3) := by decide +kernel
theorem d_Hasher_mixRows_73 : decode b_Hasher_mixRows 73 = .ok (.return_, 1) := by decide +kernel
theorem d_Hasher_finish_0 : decode b_Hasher_finish 0 = .ok (.aload_n 0, 1) := by decide +kernel
theorem d_Hasher_finish_1 : decode b_Hasher_finish 1 = .ok (.aload_n 0, 1) := by decide +kernel
theorem d_Hasher_finish_2 : decode b_Hasher_finish 2 = .ok (.getfield 31, 3) := by decide +kernel
theorem d_Hasher_finish_5 : decode b_Hasher_finish 5 = .ok (.bipush 31, 2) := by decide +kernel
theorem d_Hasher_finish_7 : decode b_Hasher_finish 7 = .ok (.invokevirtual 35, 3) := by decide +kernel
theorem d_Hasher_finish_10 : decode b_Hasher_finish 10 = .ok (.aload_n 0, 1) := by decide +kernel
theorem d_Hasher_finish_11 : decode b_Hasher_finish 11 = .ok (.sipush 135, 3) := by decide +kernel
theorem d_Hasher_finish_14 : decode b_Hasher_finish 14 = .ok (.sipush 128, 3) := by decide +kernel
theorem d_Hasher_finish_17 : decode b_Hasher_finish 17 = .ok (.invokevirtual 35, 3) := by decide +kernel
theorem d_Hasher_finish_20 : decode b_Hasher_finish 20 = .ok (.iconst 0, 1) := by decide +kernel
theorem d_Hasher_finish_21 : decode b_Hasher_finish 21 = .ok (.istore_n 1, 1) := by decide +kernel
theorem d_Hasher_finish_22 : decode b_Hasher_finish 22 = .ok (.iload_n 1, 1) := by decide +kernel
theorem d_Hasher_finish_23 : decode b_Hasher_finish 23 = .ok (.bipush 24, 2) := by decide +kernel
theorem d_Hasher_finish_25 : decode b_Hasher_finish 25 = .ok (.if_icmp .ge 35, 3) := by decide +kernel
theorem d_Hasher_finish_28 : decode b_Hasher_finish 28 = .ok (.aload_n 0, 1) := by decide +kernel
theorem d_Hasher_finish_29 : decode b_Hasher_finish 29 = .ok (.invokevirtual 47, 3) := by decide +kernel
theorem d_Hasher_finish_32 : decode b_Hasher_finish 32 = .ok (.aload_n 0, 1) := by decide +kernel
theorem d_Hasher_finish_33 : decode b_Hasher_finish 33 = .ok (.invokevirtual 50, 3) := by decide +kernel
theorem d_Hasher_finish_36 : decode b_Hasher_finish 36 = .ok (.aload_n 0, 1) := by decide +kernel
theorem d_Hasher_finish_37 : decode b_Hasher_finish 37 = .ok (.invokevirtual 53, 3) := by decide +kernel
theorem d_Hasher_finish_40 : decode b_Hasher_finish 40 = .ok (.aload_n 0, 1) := by decide +kernel
theorem d_Hasher_finish_41 : decode b_Hasher_finish 41 = .ok (.getfield 11, 3) := by decide +kernel
theorem d_Hasher_finish_44 : decode b_Hasher_finish 44 = .ok (.iconst 0, 1) := by decide +kernel
theorem d_Hasher_finish_45 : decode b_Hasher_finish 45 = .ok (.dup2, 1) := by decide +kernel
theorem d_Hasher_finish_46 : decode b_Hasher_finish 46 = .ok (.laload, 1) := by decide +kernel
theorem d_Hasher_finish_47 : decode b_Hasher_finish 47 = .ok (.getstatic 56, 3) := by decide +kernel
theorem d_Hasher_finish_50 : decode b_Hasher_finish 50 = .ok (.iload_n 1, 1) := by decide +kernel
theorem d_Hasher_finish_51 : decode b_Hasher_finish 51 = .ok (.laload, 1) := by decide +kernel
theorem d_Hasher_finish_52 : decode b_Hasher_finish 52 = .ok (.lxor, 1) := by decide +kernel
theorem d_Hasher_finish_53 : decode b_Hasher_finish 53 = .ok (.lastore, 1) := by decide +kernel
theorem d_Hasher_finish_54 : decode b_Hasher_finish 54 = .ok (.iinc 1 1, 3) := by decide +kernel
theorem d_Hasher_finish_57 : decode b_Hasher_finish 57 = .ok (.goto (-35), 3) := by decide +kernel
theorem d_Hasher_finish_60 : decode b_Hasher_finish 60 = .ok (.iconst 0, 1) := by decide +kernel
theorem d_Hasher_finish_61 : decode b_Hasher_finish 61 = .ok (.istore_n 1, 1) := by decide +kernel
theorem d_Hasher_finish_62 : decode b_Hasher_finish 62 = .ok (.iload_n 1, 1) := by decide +kernel
theorem d_Hasher_finish_63 : decode b_Hasher_finish 63 = .ok (.sipush 136, 3) := by decide +kernel
theorem d_Hasher_finish_66 : decode b_Hasher_finish 66 = .ok (.if_icmp .ge 37, 3) := by decide +kernel
theorem d_Hasher_finish_69 : decode b_Hasher_finish 69 = .ok (.aload_n 0, 1) := by decide +kernel
theorem d_Hasher_finish_70 : decode b_Hasher_finish 70 = .ok (.getfield 21, 3) := by decide +kernel
theorem d_Hasher_finish_73 : decode b_Hasher_finish 73 = .ok (.iload_n 1, 1) := by decide +kernel
theorem d_Hasher_finish_74 : decode b_Hasher_finish 74 = .ok (.aload_n 0, 1) := by decide +kernel
theorem d_Hasher_finish_75 : decode b_Hasher_finish 75 = .ok (.getfield 11, 3) := by decide +kernel
theorem d_Hasher_finish_78 : decode b_Hasher_finish 78 = .ok (.iload_n 1, 1) := by decide +kernel
theorem d_Hasher_finish_79 : decode b_Hasher_finish 79 = .ok (.bipush 8, 2) := by decide +kernel
theorem d_Hasher_finish_81 : decode b_Hasher_finish 81 = .ok (.idiv, 1) := by decide +kernel
theorem d_Hasher_finish_82 : decode b_Hasher_finish 82 = .ok (.laload, 1) := by decide +kernel
theorem d_Hasher_finish_83 : decode b_Hasher_finish 83 = .ok (.bipush 8, 2) := by decide +kernel
theorem d_Hasher_finish_85 : decode b_Hasher_finish 85 = .ok (.iload_n 1, 1) := by decide +kernel
theorem d_Hasher_finish_86 : decode b_Hasher_finish 86 = .ok (.bipush 8, 2) := by decide +kernel
theorem d_Hasher_finish_88 : decode b_Hasher_finish 88 = .ok (.irem, 1) := by decide +kernel
theorem d_Hasher_finish_89 : decode b_Hasher_finish 89 = .ok (.imul, 1) := by decide +kernel
theorem d_Hasher_finish_90 : decode b_Hasher_finish 90 = .ok (.lushr, 1) := by decide +kernel
theorem d_Hasher_finish_91 : decode b_Hasher_finish 91 = .ok (.l2i, 1) := by decide +kernel
theorem d_Hasher_finish_92 : decode b_Hasher_finish 92 = .ok (.sipush 255, 3) := by decide +kernel
theorem d_Hasher_finish_95 : decode b_Hasher_finish 95 = .ok (.iand, 1) := by decide +kernel
theorem d_Hasher_finish_96 : decode b_Hasher_finish 96 = .ok (.iastore, 1) := by decide +kernel
theorem d_Hasher_finish_97 : decode b_Hasher_finish 97 = .ok (.iinc 1 1, 3) := by decide +kernel
theorem d_Hasher_finish_100 : decode b_Hasher_finish 100 = .ok (.goto (-38), 3) := by decide +kernel
theorem d_Hasher_finish_103 : decode b_Hasher_finish 103 = .ok (.aload_n 0, 1) := by decide +kernel
theorem d_Hasher_finish_104 : decode b_Hasher_finish 104 = .ok (.getfield 21, 3) := by decide +kernel
theorem d_Hasher_finish_107 : decode b_Hasher_finish 107 = .ok (.areturn, 1) := by decide +kernel
