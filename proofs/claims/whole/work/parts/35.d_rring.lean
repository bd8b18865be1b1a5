theorem d_Md_clear_0 : decode b_Md_clear 0 = .ok (.iconst 0, 1) := by decide +kernel
theorem d_Md_clear_1 : decode b_Md_clear 1 = .ok (.istore_n 1, 1) := by decide +kernel
theorem d_Md_clear_2 : decode b_Md_clear 2 = .ok (.iload_n 1, 1) := by decide +kernel
theorem d_Md_clear_3 : decode b_Md_clear 3 = .ok (.bipush 16, 2) := by decide +kernel
theorem d_Md_clear_5 : decode b_Md_clear 5 = .ok (.if_icmp .ge 16, 3) := by decide +kernel
theorem d_Md_clear_8 : decode b_Md_clear 8 = .ok (.aload_n 0, 1) := by decide +kernel
theorem d_Md_clear_9 : decode b_Md_clear 9 = .ok (.getfield 104, 3) := by decide +kernel
theorem d_Md_clear_12 : decode b_Md_clear 12 = .ok (.iload_n 1, 1) := by decide +kernel
theorem d_Md_clear_13 : decode b_Md_clear 13 = .ok (.lconst 0, 1) := by decide +kernel
theorem d_Md_clear_14 : decode b_Md_clear 14 = .ok (.lastore, 1) := by decide +kernel
theorem d_Md_clear_15 : decode b_Md_clear 15 = .ok (.iinc 1 1, 3) := by decide +kernel
theorem d_Md_clear_18 : decode b_Md_clear 18 = .ok (.goto (-16), 3) := by decide +kernel
theorem d_Md_clear_21 : decode b_Md_clear 21 = .ok (.return_, 1) := by decide +kernel
theorem d_Md_add_0 : decode b_Md_add 0 = .ok (.iconst 0, 1) := by decide +kernel
theorem d_Md_add_1 : decode b_Md_add 1 = .ok (.istore 6, 2) := by decide +kernel
theorem d_Md_add_3 : decode b_Md_add 3 = .ok (.iload 6, 2) := by decide +kernel
theorem d_Md_add_5 : decode b_Md_add 5 = .ok (.bipush 16, 2) := by decide +kernel
theorem d_Md_add_7 : decode b_Md_add 7 = .ok (.if_icmp .ge 101, 3) := by decide +kernel
theorem d_Md_add_10 : decode b_Md_add 10 = .ok (.iconst 0, 1) := by decide +kernel
theorem d_Md_add_11 : decode b_Md_add 11 = .ok (.istore 7, 2) := by decide +kernel
theorem d_Md_add_13 : decode b_Md_add 13 = .ok (.iload 7, 2) := by decide +kernel
theorem d_Md_add_15 : decode b_Md_add 15 = .ok (.bipush 16, 2) := by decide +kernel
theorem d_Md_add_17 : decode b_Md_add 17 = .ok (.if_icmp .ge 85, 3) := by decide +kernel
theorem d_Md_add_20 : decode b_Md_add 20 = .ok (.aload_n 1, 1) := by decide +kernel
theorem d_Md_add_21 : decode b_Md_add 21 = .ok (.iload_n 2, 1) := by decide +kernel
theorem d_Md_add_22 : decode b_Md_add 22 = .ok (.iload 6, 2) := by decide +kernel
theorem d_Md_add_24 : decode b_Md_add 24 = .ok (.iadd, 1) := by decide +kernel
theorem d_Md_add_25 : decode b_Md_add 25 = .ok (.iaload, 1) := by decide +kernel
theorem d_Md_add_26 : decode b_Md_add 26 = .ok (.i2l, 1) := by decide +kernel
theorem d_Md_add_27 : decode b_Md_add 27 = .ok (.aload_n 3, 1) := by decide +kernel
theorem d_Md_add_28 : decode b_Md_add 28 = .ok (.iload 4, 2) := by decide +kernel
theorem d_Md_add_30 : decode b_Md_add 30 = .ok (.iload 7, 2) := by decide +kernel
theorem d_Md_add_32 : decode b_Md_add 32 = .ok (.iadd, 1) := by decide +kernel
theorem d_Md_add_33 : decode b_Md_add 33 = .ok (.iaload, 1) := by decide +kernel
theorem d_Md_add_34 : decode b_Md_add 34 = .ok (.i2l, 1) := by decide +kernel
theorem d_Md_add_35 : decode b_Md_add 35 = .ok (.lmul, 1) := by decide +kernel
theorem d_Md_add_36 : decode b_Md_add 36 = .ok (.ldc2_w 130, 3) := by decide +kernel
theorem d_Md_add_39 : decode b_Md_add 39 = .ok (.lrem, 1) := by decide +kernel
theorem d_Md_add_40 : decode b_Md_add 40 = .ok (.iload 5, 2) := by decide +kernel
theorem d_Md_add_42 : decode b_Md_add 42 = .ok (.i2l, 1) := by decide +kernel
theorem d_Md_add_43 : decode b_Md_add 43 = .ok (.lmul, 1) := by decide +kernel
theorem d_Md_add_44 : decode b_Md_add 44 = .ok (.lstore 8, 2) := by decide +kernel
theorem d_Md_add_46 : decode b_Md_add 46 = .ok (.iload 6, 2) := by decide +kernel
theorem d_Md_add_48 : decode b_Md_add 48 = .ok (.iload 7, 2) := by decide +kernel
theorem d_Md_add_50 : decode b_Md_add 50 = .ok (.iadd, 1) := by decide +kernel
theorem d_Md_add_51 : decode b_Md_add 51 = .ok (.bipush 16, 2) := by decide +kernel
theorem d_Md_add_53 : decode b_Md_add 53 = .ok (.irem, 1) := by decide +kernel
theorem d_Md_add_54 : decode b_Md_add 54 = .ok (.istore 10, 2) := by decide +kernel
theorem d_Md_add_56 : decode b_Md_add 56 = .ok (.aload_n 0, 1) := by decide +kernel
theorem d_Md_add_57 : decode b_Md_add 57 = .ok (.getfield 104, 3) := by decide +kernel
theorem d_Md_add_60 : decode b_Md_add 60 = .ok (.iload 10, 2) := by decide +kernel
theorem d_Md_add_62 : decode b_Md_add 62 = .ok (.iload 6, 2) := by decide +kernel
theorem d_Md_add_64 : decode b_Md_add 64 = .ok (.iload 7, 2) := by decide +kernel
theorem d_Md_add_66 : decode b_Md_add 66 = .ok (.iadd, 1) := by decide +kernel
theorem d_Md_add_67 : decode b_Md_add 67 = .ok (.bipush 16, 2) := by decide +kernel
theorem d_Md_add_69 : decode b_Md_add 69 = .ok (.if_icmp .ge 16, 3) := by decide +kernel
theorem d_Md_add_72 : decode b_Md_add 72 = .ok (.aload_n 0, 1) := by decide +kernel
theorem d_Md_add_73 : decode b_Md_add 73 = .ok (.getfield 104, 3) := by decide +kernel
theorem d_Md_add_76 : decode b_Md_add 76 = .ok (.iload 10, 2) := by decide +kernel
theorem d_Md_add_78 : decode b_Md_add 78 = .ok (.laload, 1) := by decide +kernel
theorem d_Md_add_79 : decode b_Md_add 79 = .ok (.lload 8, 2) := by decide +kernel
theorem d_Md_add_81 : decode b_Md_add 81 = .ok (.ladd, 1) := by decide +kernel
theorem d_Md_add_82 : decode b_Md_add 82 = .ok (.goto 13, 3) := by decide +kernel
theorem d_Md_add_85 : decode b_Md_add 85 = .ok (.aload_n 0, 1) := by decide +kernel
theorem d_Md_add_86 : decode b_Md_add 86 = .ok (.getfield 104, 3) := by decide +kernel
theorem d_Md_add_89 : decode b_Md_add 89 = .ok (.iload 10, 2) := by decide +kernel
theorem d_Md_add_91 : decode b_Md_add 91 = .ok (.laload, 1) := by decide +kernel
theorem d_Md_add_92 : decode b_Md_add 92 = .ok (.lload 8, 2) := by decide +kernel
theorem d_Md_add_94 : decode b_Md_add 94 = .ok (.lsub, 1) := by decide +kernel
theorem d_Md_add_95 : decode b_Md_add 95 = .ok (.lastore, 1) := by decide +kernel
theorem d_Md_add_96 : decode b_Md_add 96 = .ok (.iinc 7 1, 3) := by decide +kernel
theorem d_Md_add_99 : decode b_Md_add 99 = .ok (.goto (-86), 3) := by decide +kernel
theorem d_Md_add_102 : decode b_Md_add 102 = .ok (.iinc 6 1, 3) := by decide +kernel
theorem d_Md_add_105 : decode b_Md_add 105 = .ok (.goto (-102), 3) := by decide +kernel
theorem d_Md_add_108 : decode b_Md_add 108 = .ok (.return_, 1) := by decide +kernel
theorem d_Md_apply_0 : decode b_Md_apply 0 = .ok (.iconst 0, 1) := by decide +kernel
theorem d_Md_apply_1 : decode b_Md_apply 1 = .ok (.istore 4, 2) := by decide +kernel
theorem d_Md_apply_3 : decode b_Md_apply 3 = .ok (.iload 4, 2) := by decide +kernel
theorem d_Md_apply_5 : decode b_Md_apply 5 = .ok (.iconst 2, 1) := by decide +kernel
theorem d_Md_apply_6 : decode b_Md_apply 6 = .ok (.if_icmp .ge 79, 3) := by decide +kernel
theorem d_Md_apply_9 : decode b_Md_apply 9 = .ok (.aload_n 0, 1) := by decide +kernel
theorem d_Md_apply_10 : decode b_Md_apply 10 = .ok (.invokevirtual 149, 3) := by decide +kernel
theorem d_Md_apply_13 : decode b_Md_apply 13 = .ok (.aload_n 0, 1) := by decide +kernel
theorem d_Md_apply_14 : decode b_Md_apply 14 = .ok (.aload_n 1, 1) := by decide +kernel
theorem d_Md_apply_15 : decode b_Md_apply 15 = .ok (.bipush 32, 2) := by decide +kernel
theorem d_Md_apply_17 : decode b_Md_apply 17 = .ok (.iload 4, 2) := by decide +kernel
theorem d_Md_apply_19 : decode b_Md_apply 19 = .ok (.imul, 1) := by decide +kernel
theorem d_Md_apply_20 : decode b_Md_apply 20 = .ok (.aload_n 2, 1) := by decide +kernel
theorem d_Md_apply_21 : decode b_Md_apply 21 = .ok (.iconst 0, 1) := by decide +kernel
theorem d_Md_apply_22 : decode b_Md_apply 22 = .ok (.iconst 1, 1) := by decide +kernel
theorem d_Md_apply_23 : decode b_Md_apply 23 = .ok (.invokevirtual 152, 3) := by decide +kernel
theorem d_Md_apply_26 : decode b_Md_apply 26 = .ok (.aload_n 0, 1) := by decide +kernel
theorem d_Md_apply_27 : decode b_Md_apply 27 = .ok (.aload_n 1, 1) := by decide +kernel
theorem d_Md_apply_28 : decode b_Md_apply 28 = .ok (.bipush 32, 2) := by decide +kernel
theorem d_Md_apply_30 : decode b_Md_apply 30 = .ok (.iload 4, 2) := by decide +kernel
theorem d_Md_apply_32 : decode b_Md_apply 32 = .ok (.imul, 1) := by decide +kernel
theorem d_Md_apply_33 : decode b_Md_apply 33 = .ok (.bipush 16, 2) := by decide +kernel
theorem d_Md_apply_35 : decode b_Md_apply 35 = .ok (.iadd, 1) := by decide +kernel
theorem d_Md_apply_36 : decode b_Md_apply 36 = .ok (.aload_n 2, 1) := by decide +kernel
theorem d_Md_apply_37 : decode b_Md_apply 37 = .ok (.bipush 16, 2) := by decide +kernel
theorem d_Md_apply_39 : decode b_Md_apply 39 = .ok (.iconst 1, 1) := by decide +kernel
theorem d_Md_apply_40 : decode b_Md_apply 40 = .ok (.invokevirtual 152, 3) := by decide +kernel
theorem d_Md_apply_43 : decode b_Md_apply 43 = .ok (.iconst 0, 1) := by decide +kernel
theorem d_Md_apply_44 : decode b_Md_apply 44 = .ok (.istore 5, 2) := by decide +kernel
theorem d_Md_apply_46 : decode b_Md_apply 46 = .ok (.iload 5, 2) := by decide +kernel
theorem d_Md_apply_48 : decode b_Md_apply 48 = .ok (.bipush 16, 2) := by decide +kernel
theorem d_Md_apply_50 : decode b_Md_apply 50 = .ok (.if_icmp .ge 29, 3) := by decide +kernel
theorem d_Md_apply_53 : decode b_Md_apply 53 = .ok (.aload_n 3, 1) := by decide +kernel
theorem d_Md_apply_54 : decode b_Md_apply 54 = .ok (.bipush 16, 2) := by decide +kernel
theorem d_Md_apply_56 : decode b_Md_apply 56 = .ok (.iload 4, 2) := by decide +kernel
theorem d_Md_apply_58 : decode b_Md_apply 58 = .ok (.imul, 1) := by decide +kernel
theorem d_Md_apply_59 : decode b_Md_apply 59 = .ok (.iload 5, 2) := by decide +kernel
theorem d_Md_apply_61 : decode b_Md_apply 61 = .ok (.iadd, 1) := by decide +kernel
theorem d_Md_apply_62 : decode b_Md_apply 62 = .ok (.aload_n 0, 1) := by decide +kernel
theorem d_Md_apply_63 : decode b_Md_apply 63 = .ok (.getfield 104, 3) := by decide +kernel
theorem d_Md_apply_66 : decode b_Md_apply 66 = .ok (.iload 5, 2) := by decide +kernel
theorem d_Md_apply_68 : decode b_Md_apply 68 = .ok (.laload, 1) := by decide +kernel
theorem d_Md_apply_69 : decode b_Md_apply 69 = .ok (.invokestatic 142, 3) := by decide +kernel
theorem d_Md_apply_72 : decode b_Md_apply 72 = .ok (.iastore, 1) := by decide +kernel
theorem d_Md_apply_73 : decode b_Md_apply 73 = .ok (.iinc 5 1, 3) := by decide +kernel
theorem d_Md_apply_76 : decode b_Md_apply 76 = .ok (.goto (-30), 3) := by decide +kernel
theorem d_Md_apply_79 : decode b_Md_apply 79 = .ok (.iinc 4 1, 3) := by decide +kernel
theorem d_Md_apply_82 : decode b_Md_apply 82 = .ok (.goto (-79), 3) := by decide +kernel
theorem d_Md_apply_85 : decode b_Md_apply 85 = .ok (.return_, 1) := by decide +kernel
theorem d_Md_shift_0 : decode b_Md_shift 0 = .ok (.iconst 0, 1) := by decide +kernel
theorem d_Md_shift_1 : decode b_Md_shift 1 = .ok (.istore 5, 2) := by decide +kernel
theorem d_Md_shift_3 : decode b_Md_shift 3 = .ok (.iload 5, 2) := by decide +kernel
theorem d_Md_shift_5 : decode b_Md_shift 5 = .ok (.iconst 2, 1) := by decide +kernel
theorem d_Md_shift_6 : decode b_Md_shift 6 = .ok (.if_icmp .ge 78, 3) := by decide +kernel
theorem d_Md_shift_9 : decode b_Md_shift 9 = .ok (.aload_n 0, 1) := by decide +kernel
theorem d_Md_shift_10 : decode b_Md_shift 10 = .ok (.invokevirtual 149, 3) := by decide +kernel
theorem d_Md_shift_13 : decode b_Md_shift 13 = .ok (.aload_n 0, 1) := by decide +kernel
theorem d_Md_shift_14 : decode b_Md_shift 14 = .ok (.aload_n 0, 1) := by decide +kernel
theorem d_Md_shift_15 : decode b_Md_shift 15 = .ok (.getfield 95, 3) := by decide +kernel
theorem d_Md_shift_18 : decode b_Md_shift 18 = .ok (.iconst 0, 1) := by decide +kernel
theorem d_Md_shift_19 : decode b_Md_shift 19 = .ok (.aload_n 1, 1) := by decide +kernel
theorem d_Md_shift_20 : decode b_Md_shift 20 = .ok (.bipush 16, 2) := by decide +kernel
theorem d_Md_shift_22 : decode b_Md_shift 22 = .ok (.iload 5, 2) := by decide +kernel
theorem d_Md_shift_24 : decode b_Md_shift 24 = .ok (.imul, 1) := by decide +kernel
theorem d_Md_shift_25 : decode b_Md_shift 25 = .ok (.iload_n 2, 1) := by decide +kernel
theorem d_Md_shift_26 : decode b_Md_shift 26 = .ok (.invokevirtual 152, 3) := by decide +kernel
theorem d_Md_shift_29 : decode b_Md_shift 29 = .ok (.iconst 0, 1) := by decide +kernel
theorem d_Md_shift_30 : decode b_Md_shift 30 = .ok (.istore 6, 2) := by decide +kernel
theorem d_Md_shift_32 : decode b_Md_shift 32 = .ok (.iload 6, 2) := by decide +kernel
theorem d_Md_shift_34 : decode b_Md_shift 34 = .ok (.bipush 16, 2) := by decide +kernel
theorem d_Md_shift_36 : decode b_Md_shift 36 = .ok (.if_icmp .ge 42, 3) := by decide +kernel
theorem d_Md_shift_39 : decode b_Md_shift 39 = .ok (.aload 4, 2) := by decide +kernel
theorem d_Md_shift_41 : decode b_Md_shift 41 = .ok (.bipush 16, 2) := by decide +kernel
theorem d_Md_shift_43 : decode b_Md_shift 43 = .ok (.iload 5, 2) := by decide +kernel
theorem d_Md_shift_45 : decode b_Md_shift 45 = .ok (.imul, 1) := by decide +kernel
theorem d_Md_shift_46 : decode b_Md_shift 46 = .ok (.iload 6, 2) := by decide +kernel
theorem d_Md_shift_48 : decode b_Md_shift 48 = .ok (.iadd, 1) := by decide +kernel
theorem d_Md_shift_49 : decode b_Md_shift 49 = .ok (.aload_n 3, 1) := by decide +kernel
theorem d_Md_shift_50 : decode b_Md_shift 50 = .ok (.bipush 16, 2) := by decide +kernel
theorem d_Md_shift_52 : decode b_Md_shift 52 = .ok (.iload 5, 2) := by decide +kernel
theorem d_Md_shift_54 : decode b_Md_shift 54 = .ok (.imul, 1) := by decide +kernel
theorem d_Md_shift_55 : decode b_Md_shift 55 = .ok (.iload 6, 2) := by decide +kernel
theorem d_Md_shift_57 : decode b_Md_shift 57 = .ok (.iadd, 1) := by decide +kernel
theorem d_Md_shift_58 : decode b_Md_shift 58 = .ok (.iaload, 1) := by decide +kernel
theorem d_Md_shift_59 : decode b_Md_shift 59 = .ok (.i2l, 1) := by decide +kernel
theorem d_Md_shift_60 : decode b_Md_shift 60 = .ok (.aload_n 0, 1) := by decide +kernel
theorem d_Md_shift_61 : decode b_Md_shift 61 = .ok (.getfield 104, 3) := by decide +kernel
theorem d_Md_shift_64 : decode b_Md_shift 64 = .ok (.iload 6, 2) := by decide +kernel
theorem d_Md_shift_66 : decode b_Md_shift 66 = .ok (.laload, 1) := by decide +kernel
theorem d_Md_shift_67 : decode b_Md_shift 67 = .ok (.ladd, 1) := by decide +kernel
theorem d_Md_shift_68 : decode b_Md_shift 68 = .ok (.invokestatic 142, 3) := by decide +kernel
theorem d_Md_shift_71 : decode b_Md_shift 71 = .ok (.iastore, 1) := by decide +kernel
theorem d_Md_shift_72 : decode b_Md_shift 72 = .ok (.iinc 6 1, 3) := by decide +kernel
theorem d_Md_shift_75 : decode b_Md_shift 75 = .ok (.goto (-43), 3) := by decide +kernel
theorem d_Md_shift_78 : decode b_Md_shift 78 = .ok (.iinc 5 1, 3) := by decide +kernel
theorem d_Md_shift_81 : decode b_Md_shift 81 = .ok (.goto (-78), 3) := by decide +kernel
theorem d_Md_shift_84 : decode b_Md_shift 84 = .ok (.return_, 1) := by decide +kernel
theorem d_Md_wider_0 : decode b_Md_wider 0 = .ok (.iconst 0, 1) := by decide +kernel
theorem d_Md_wider_1 : decode b_Md_wider 1 = .ok (.istore_n 3, 1) := by decide +kernel
theorem d_Md_wider_2 : decode b_Md_wider 2 = .ok (.iconst 0, 1) := by decide +kernel
theorem d_Md_wider_3 : decode b_Md_wider 3 = .ok (.istore 4, 2) := by decide +kernel
theorem d_Md_wider_5 : decode b_Md_wider 5 = .ok (.iload 4, 2) := by decide +kernel
theorem d_Md_wider_7 : decode b_Md_wider 7 = .ok (.bipush 32, 2) := by decide +kernel
theorem d_Md_wider_9 : decode b_Md_wider 9 = .ok (.if_icmp .ge 41, 3) := by decide +kernel
theorem d_Md_wider_12 : decode b_Md_wider 12 = .ok (.aload_n 1, 1) := by decide +kernel
theorem d_Md_wider_13 : decode b_Md_wider 13 = .ok (.iload 4, 2) := by decide +kernel
theorem d_Md_wider_15 : decode b_Md_wider 15 = .ok (.iaload, 1) := by decide +kernel
theorem d_Md_wider_16 : decode b_Md_wider 16 = .ok (.invokestatic 156, 3) := by decide +kernel
theorem d_Md_wider_19 : decode b_Md_wider 19 = .ok (.istore 5, 2) := by decide +kernel
theorem d_Md_wider_21 : decode b_Md_wider 21 = .ok (.iload_n 3, 1) := by decide +kernel
theorem d_Md_wider_22 : decode b_Md_wider 22 = .ok (.ifCond .ne 16, 3) := by decide +kernel
theorem d_Md_wider_25 : decode b_Md_wider 25 = .ok (.iload 5, 2) := by decide +kernel
theorem d_Md_wider_27 : decode b_Md_wider 27 = .ok (.iload_n 2, 1) := by decide +kernel
theorem d_Md_wider_28 : decode b_Md_wider 28 = .ok (.if_icmp .ge 10, 3) := by decide +kernel
theorem d_Md_wider_31 : decode b_Md_wider 31 = .ok (.iload 5, 2) := by decide +kernel
theorem d_Md_wider_33 : decode b_Md_wider 33 = .ok (.iload_n 2, 1) := by decide +kernel
theorem d_Md_wider_34 : decode b_Md_wider 34 = .ok (.ineg, 1) := by decide +kernel
theorem d_Md_wider_35 : decode b_Md_wider 35 = .ok (.if_icmp .gt 7, 3) := by decide +kernel
theorem d_Md_wider_38 : decode b_Md_wider 38 = .ok (.iconst 1, 1) := by decide +kernel
theorem d_Md_wider_39 : decode b_Md_wider 39 = .ok (.goto 4, 3) := by decide +kernel
theorem d_Md_wider_42 : decode b_Md_wider 42 = .ok (.iconst 0, 1) := by decide +kernel
theorem d_Md_wider_43 : decode b_Md_wider 43 = .ok (.istore_n 3, 1) := by decide +kernel
theorem d_Md_wider_44 : decode b_Md_wider 44 = .ok (.iinc 4 1, 3) := by decide +kernel
theorem d_Md_wider_47 : decode b_Md_wider 47 = .ok (.goto (-42), 3) := by decide +kernel
theorem d_Md_wider_50 : decode b_Md_wider 50 = .ok (.iload_n 3, 1) := by decide +kernel
theorem d_Md_wider_51 : decode b_Md_wider 51 = .ok (.ireturn, 1) := by decide +kernel
