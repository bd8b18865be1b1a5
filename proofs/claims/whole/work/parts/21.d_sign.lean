theorem d_Signing_open_0 : decode b_Signing_open 0 = .ok (.aload_n 0, 1) := by decide +kernel
theorem d_Signing_open_1 : decode b_Signing_open 1 = .ok (.getfield 12, 3) := by decide +kernel
theorem d_Signing_open_4 : decode b_Signing_open 4 = .ok (.aload_n 1, 1) := by decide +kernel
theorem d_Signing_open_5 : decode b_Signing_open 5 = .ok (.aload_n 2, 1) := by decide +kernel
theorem d_Signing_open_6 : decode b_Signing_open 6 = .ok (.getfield 43, 3) := by decide +kernel
theorem d_Signing_open_9 : decode b_Signing_open 9 = .ok (.aload_n 3, 1) := by decide +kernel
theorem d_Signing_open_10 : decode b_Signing_open 10 = .ok (.invokevirtual 48, 3) := by decide +kernel
theorem d_Signing_open_13 : decode b_Signing_open 13 = .ok (.aload_n 1, 1) := by decide +kernel
theorem d_Signing_open_14 : decode b_Signing_open 14 = .ok (.invokevirtual 52, 3) := by decide +kernel
theorem d_Signing_open_17 : decode b_Signing_open 17 = .ok (.aload_n 1, 1) := by decide +kernel
theorem d_Signing_open_18 : decode b_Signing_open 18 = .ok (.aload_n 2, 1) := by decide +kernel
theorem d_Signing_open_19 : decode b_Signing_open 19 = .ok (.getfield 57, 3) := by decide +kernel
theorem d_Signing_open_22 : decode b_Signing_open 22 = .ok (.invokevirtual 60, 3) := by decide +kernel
theorem d_Signing_open_25 : decode b_Signing_open 25 = .ok (.aload_n 1, 1) := by decide +kernel
theorem d_Signing_open_26 : decode b_Signing_open 26 = .ok (.lload 4, 2) := by decide +kernel
theorem d_Signing_open_28 : decode b_Signing_open 28 = .ok (.invokevirtual 64, 3) := by decide +kernel
theorem d_Signing_open_31 : decode b_Signing_open 31 = .ok (.aload_n 1, 1) := by decide +kernel
theorem d_Signing_open_32 : decode b_Signing_open 32 = .ok (.aload_n 0, 1) := by decide +kernel
theorem d_Signing_open_33 : decode b_Signing_open 33 = .ok (.getfield 12, 3) := by decide +kernel
theorem d_Signing_open_36 : decode b_Signing_open 36 = .ok (.getfield 68, 3) := by decide +kernel
theorem d_Signing_open_39 : decode b_Signing_open 39 = .ok (.invokevirtual 60, 3) := by decide +kernel
theorem d_Signing_open_42 : decode b_Signing_open 42 = .ok (.aload_n 1, 1) := by decide +kernel
theorem d_Signing_open_43 : decode b_Signing_open 43 = .ok (.invokevirtual 71, 3) := by decide +kernel
theorem d_Signing_open_46 : decode b_Signing_open 46 = .ok (.iconst 0, 1) := by decide +kernel
theorem d_Signing_open_47 : decode b_Signing_open 47 = .ok (.aload_n 0, 1) := by decide +kernel
theorem d_Signing_open_48 : decode b_Signing_open 48 = .ok (.getfield 18, 3) := by decide +kernel
theorem d_Signing_open_51 : decode b_Signing_open 51 = .ok (.iconst 0, 1) := by decide +kernel
theorem d_Signing_open_52 : decode b_Signing_open 52 = .ok (.bipush 16, 2) := by decide +kernel
theorem d_Signing_open_54 : decode b_Signing_open 54 = .ok (.invokestatic 75, 3) := by decide +kernel
theorem d_Signing_open_57 : decode b_Signing_open 57 = .ok (.return_, 1) := by decide +kernel
theorem d_Signing_noteHighs_0 : decode b_Signing_noteHighs 0 = .ok (.iconst 0, 1) := by decide +kernel
theorem d_Signing_noteHighs_1 : decode b_Signing_noteHighs 1 = .ok (.istore_n 1, 1) := by decide +kernel
theorem d_Signing_noteHighs_2 : decode b_Signing_noteHighs 2 = .ok (.iload_n 1, 1) := by decide +kernel
theorem d_Signing_noteHighs_3 : decode b_Signing_noteHighs 3 = .ok (.bipush 32, 2) := by decide +kernel
theorem d_Signing_noteHighs_5 : decode b_Signing_noteHighs 5 = .ok (.if_icmp .ge 26, 3) := by decide +kernel
theorem d_Signing_noteHighs_8 : decode b_Signing_noteHighs 8 = .ok (.aload_n 0, 1) := by decide +kernel
theorem d_Signing_noteHighs_9 : decode b_Signing_noteHighs 9 = .ok (.getfield 12, 3) := by decide +kernel
theorem d_Signing_noteHighs_12 : decode b_Signing_noteHighs 12 = .ok (.iload_n 1, 1) := by decide +kernel
theorem d_Signing_noteHighs_13 : decode b_Signing_noteHighs 13 = .ok (.aload_n 0, 1) := by decide +kernel
theorem d_Signing_noteHighs_14 : decode b_Signing_noteHighs 14 = .ok (.getfield 25, 3) := by decide +kernel
theorem d_Signing_noteHighs_17 : decode b_Signing_noteHighs 17 = .ok (.iload_n 1, 1) := by decide +kernel
theorem d_Signing_noteHighs_18 : decode b_Signing_noteHighs 18 = .ok (.iaload, 1) := by decide +kernel
theorem d_Signing_noteHighs_19 : decode b_Signing_noteHighs 19 = .ok (.invokestatic 139, 3) := by decide +kernel
theorem d_Signing_noteHighs_22 : decode b_Signing_noteHighs 22 = .ok (.invokevirtual 145, 3) := by decide +kernel
theorem d_Signing_noteHighs_25 : decode b_Signing_noteHighs 25 = .ok (.iinc 1 1, 3) := by decide +kernel
theorem d_Signing_noteHighs_28 : decode b_Signing_noteHighs 28 = .ok (.goto (-26), 3) := by decide +kernel
theorem d_Signing_noteHighs_31 : decode b_Signing_noteHighs 31 = .ok (.return_, 1) := by decide +kernel
theorem d_Signing_answer_0 : decode b_Signing_answer 0 = .ok (.aload_n 0, 1) := by decide +kernel
theorem d_Signing_answer_1 : decode b_Signing_answer 1 = .ok (.getfield 28, 3) := by decide +kernel
theorem d_Signing_answer_4 : decode b_Signing_answer 4 = .ok (.aload_n 1, 1) := by decide +kernel
theorem d_Signing_answer_5 : decode b_Signing_answer 5 = .ok (.getfield 149, 3) := by decide +kernel
theorem d_Signing_answer_8 : decode b_Signing_answer 8 = .ok (.aload_n 0, 1) := by decide +kernel
theorem d_Signing_answer_9 : decode b_Signing_answer 9 = .ok (.getfield 31, 3) := by decide +kernel
theorem d_Signing_answer_12 : decode b_Signing_answer 12 = .ok (.invokestatic 152, 3) := by decide +kernel
theorem d_Signing_answer_15 : decode b_Signing_answer 15 = .ok (.aload_n 0, 1) := by decide +kernel
theorem d_Signing_answer_16 : decode b_Signing_answer 16 = .ok (.getfield 28, 3) := by decide +kernel
theorem d_Signing_answer_19 : decode b_Signing_answer 19 = .ok (.aload_n 1, 1) := by decide +kernel
theorem d_Signing_answer_20 : decode b_Signing_answer 20 = .ok (.getfield 155, 3) := by decide +kernel
theorem d_Signing_answer_23 : decode b_Signing_answer 23 = .ok (.aload_n 0, 1) := by decide +kernel
theorem d_Signing_answer_24 : decode b_Signing_answer 24 = .ok (.getfield 34, 3) := by decide +kernel
theorem d_Signing_answer_27 : decode b_Signing_answer 27 = .ok (.invokestatic 152, 3) := by decide +kernel
theorem d_Signing_answer_30 : decode b_Signing_answer 30 = .ok (.aload_n 0, 1) := by decide +kernel
theorem d_Signing_answer_31 : decode b_Signing_answer 31 = .ok (.getfield 28, 3) := by decide +kernel
theorem d_Signing_answer_34 : decode b_Signing_answer 34 = .ok (.aload_n 1, 1) := by decide +kernel
theorem d_Signing_answer_35 : decode b_Signing_answer 35 = .ok (.getfield 158, 3) := by decide +kernel
theorem d_Signing_answer_38 : decode b_Signing_answer 38 = .ok (.aload_n 0, 1) := by decide +kernel
theorem d_Signing_answer_39 : decode b_Signing_answer 39 = .ok (.getfield 37, 3) := by decide +kernel
theorem d_Signing_answer_42 : decode b_Signing_answer 42 = .ok (.invokestatic 152, 3) := by decide +kernel
theorem d_Signing_answer_45 : decode b_Signing_answer 45 = .ok (.iconst 0, 1) := by decide +kernel
theorem d_Signing_answer_46 : decode b_Signing_answer 46 = .ok (.istore_n 2, 1) := by decide +kernel
theorem d_Signing_answer_47 : decode b_Signing_answer 47 = .ok (.iload_n 2, 1) := by decide +kernel
theorem d_Signing_answer_48 : decode b_Signing_answer 48 = .ok (.bipush 32, 2) := by decide +kernel
theorem d_Signing_answer_50 : decode b_Signing_answer 50 = .ok (.if_icmp .ge 55, 3) := by decide +kernel
theorem d_Signing_answer_53 : decode b_Signing_answer 53 = .ok (.aload_n 0, 1) := by decide +kernel
theorem d_Signing_answer_54 : decode b_Signing_answer 54 = .ok (.getfield 31, 3) := by decide +kernel
theorem d_Signing_answer_57 : decode b_Signing_answer 57 = .ok (.iload_n 2, 1) := by decide +kernel
theorem d_Signing_answer_58 : decode b_Signing_answer 58 = .ok (.aload_n 0, 1) := by decide +kernel
theorem d_Signing_answer_59 : decode b_Signing_answer 59 = .ok (.getfield 22, 3) := by decide +kernel
theorem d_Signing_answer_62 : decode b_Signing_answer 62 = .ok (.iload_n 2, 1) := by decide +kernel
theorem d_Signing_answer_63 : decode b_Signing_answer 63 = .ok (.iaload, 1) := by decide +kernel
theorem d_Signing_answer_64 : decode b_Signing_answer 64 = .ok (.aload_n 0, 1) := by decide +kernel
theorem d_Signing_answer_65 : decode b_Signing_answer 65 = .ok (.getfield 31, 3) := by decide +kernel
theorem d_Signing_answer_68 : decode b_Signing_answer 68 = .ok (.iload_n 2, 1) := by decide +kernel
theorem d_Signing_answer_69 : decode b_Signing_answer 69 = .ok (.iaload, 1) := by decide +kernel
theorem d_Signing_answer_70 : decode b_Signing_answer 70 = .ok (.iadd, 1) := by decide +kernel
theorem d_Signing_answer_71 : decode b_Signing_answer 71 = .ok (.i2l, 1) := by decide +kernel
theorem d_Signing_answer_72 : decode b_Signing_answer 72 = .ok (.invokestatic 161, 3) := by decide +kernel
theorem d_Signing_answer_75 : decode b_Signing_answer 75 = .ok (.iastore, 1) := by decide +kernel
theorem d_Signing_answer_76 : decode b_Signing_answer 76 = .ok (.aload_n 0, 1) := by decide +kernel
theorem d_Signing_answer_77 : decode b_Signing_answer 77 = .ok (.getfield 34, 3) := by decide +kernel
theorem d_Signing_answer_80 : decode b_Signing_answer 80 = .ok (.iload_n 2, 1) := by decide +kernel
theorem d_Signing_answer_81 : decode b_Signing_answer 81 = .ok (.aload_n 0, 1) := by decide +kernel
theorem d_Signing_answer_82 : decode b_Signing_answer 82 = .ok (.getfield 25, 3) := by decide +kernel
theorem d_Signing_answer_85 : decode b_Signing_answer 85 = .ok (.iload_n 2, 1) := by decide +kernel
theorem d_Signing_answer_86 : decode b_Signing_answer 86 = .ok (.iaload, 1) := by decide +kernel
theorem d_Signing_answer_87 : decode b_Signing_answer 87 = .ok (.aload_n 0, 1) := by decide +kernel
theorem d_Signing_answer_88 : decode b_Signing_answer 88 = .ok (.getfield 34, 3) := by decide +kernel
theorem d_Signing_answer_91 : decode b_Signing_answer 91 = .ok (.iload_n 2, 1) := by decide +kernel
theorem d_Signing_answer_92 : decode b_Signing_answer 92 = .ok (.iaload, 1) := by decide +kernel
theorem d_Signing_answer_93 : decode b_Signing_answer 93 = .ok (.isub, 1) := by decide +kernel
theorem d_Signing_answer_94 : decode b_Signing_answer 94 = .ok (.i2l, 1) := by decide +kernel
theorem d_Signing_answer_95 : decode b_Signing_answer 95 = .ok (.invokestatic 161, 3) := by decide +kernel
theorem d_Signing_answer_98 : decode b_Signing_answer 98 = .ok (.iastore, 1) := by decide +kernel
theorem d_Signing_answer_99 : decode b_Signing_answer 99 = .ok (.iinc 2 1, 3) := by decide +kernel
theorem d_Signing_answer_102 : decode b_Signing_answer 102 = .ok (.goto (-55), 3) := by decide +kernel
theorem d_Signing_answer_105 : decode b_Signing_answer 105 = .ok (.return_, 1) := by decide +kernel
theorem d_Signing_lowsAreShort_0 : decode b_Signing_lowsAreShort 0 = .ok (.iconst 0, 1) := by decide +kernel
theorem d_Signing_lowsAreShort_1 : decode b_Signing_lowsAreShort 1 = .ok (.istore_n 1, 1) := by decide +kernel
theorem d_Signing_lowsAreShort_2 : decode b_Signing_lowsAreShort 2 = .ok (.iload_n 1, 1) := by decide +kernel
theorem d_Signing_lowsAreShort_3 : decode b_Signing_lowsAreShort 3 = .ok (.bipush 32, 2) := by decide +kernel
theorem d_Signing_lowsAreShort_5 : decode b_Signing_lowsAreShort 5 = .ok (.if_icmp .ge 29, 3) := by decide +kernel
theorem d_Signing_lowsAreShort_8 : decode b_Signing_lowsAreShort 8 = .ok (.aload_n 0, 1) := by decide +kernel
theorem d_Signing_lowsAreShort_9 : decode b_Signing_lowsAreShort 9 = .ok (.getfield 34, 3) := by decide +kernel
theorem d_Signing_lowsAreShort_12 : decode b_Signing_lowsAreShort 12 = .ok (.iload_n 1, 1) := by decide +kernel
theorem d_Signing_lowsAreShort_13 : decode b_Signing_lowsAreShort 13 = .ok (.iaload, 1) := by decide +kernel
theorem d_Signing_lowsAreShort_14 : decode b_Signing_lowsAreShort 14 = .ok (.invokestatic 164, 3) := by decide +kernel
theorem d_Signing_lowsAreShort_17 : decode b_Signing_lowsAreShort 17 = .ok (.invokestatic 167, 3) := by decide +kernel
theorem d_Signing_lowsAreShort_20 : decode b_Signing_lowsAreShort 20 = .ok (.sipush 1015, 3) := by decide +kernel
theorem d_Signing_lowsAreShort_23 : decode b_Signing_lowsAreShort 23 = .ok (.if_icmp .lt 5, 3) := by decide +kernel
theorem d_Signing_lowsAreShort_26 : decode b_Signing_lowsAreShort 26 = .ok (.iconst 0, 1) := by decide +kernel
theorem d_Signing_lowsAreShort_27 : decode b_Signing_lowsAreShort 27 = .ok (.ireturn, 1) := by decide +kernel
theorem d_Signing_lowsAreShort_28 : decode b_Signing_lowsAreShort 28 = .ok (.iinc 1 1, 3) := by decide +kernel
theorem d_Signing_lowsAreShort_31 : decode b_Signing_lowsAreShort 31 = .ok (.goto (-29), 3) := by decide +kernel
theorem d_Signing_lowsAreShort_34 : decode b_Signing_lowsAreShort 34 = .ok (.iconst 1, 1) := by decide +kernel
theorem d_Signing_lowsAreShort_35 : decode b_Signing_lowsAreShort 35 = .ok (.ireturn, 1) := by decide +kernel
theorem d_Signing_fillHints_0 : decode b_Signing_fillHints 0 = .ok (.iconst 0, 1) := by decide +kernel
theorem d_Signing_fillHints_1 : decode b_Signing_fillHints 1 = .ok (.istore_n 1, 1) := by decide +kernel
theorem d_Signing_fillHints_2 : decode b_Signing_fillHints 2 = .ok (.iconst 0, 1) := by decide +kernel
theorem d_Signing_fillHints_3 : decode b_Signing_fillHints 3 = .ok (.istore_n 2, 1) := by decide +kernel
theorem d_Signing_fillHints_4 : decode b_Signing_fillHints 4 = .ok (.iload_n 2, 1) := by decide +kernel
theorem d_Signing_fillHints_5 : decode b_Signing_fillHints 5 = .ok (.bipush 32, 2) := by decide +kernel
theorem d_Signing_fillHints_7 : decode b_Signing_fillHints 7 = .ok (.if_icmp .ge 52, 3) := by decide +kernel
theorem d_Signing_fillHints_10 : decode b_Signing_fillHints 10 = .ok (.aload_n 0, 1) := by decide +kernel
theorem d_Signing_fillHints_11 : decode b_Signing_fillHints 11 = .ok (.getfield 40, 3) := by decide +kernel
theorem d_Signing_fillHints_14 : decode b_Signing_fillHints 14 = .ok (.iload_n 2, 1) := by decide +kernel
theorem d_Signing_fillHints_15 : decode b_Signing_fillHints 15 = .ok (.aload_n 0, 1) := by decide +kernel
theorem d_Signing_fillHints_16 : decode b_Signing_fillHints 16 = .ok (.getfield 37, 3) := by decide +kernel
theorem d_Signing_fillHints_19 : decode b_Signing_fillHints 19 = .ok (.iload_n 2, 1) := by decide +kernel
theorem d_Signing_fillHints_20 : decode b_Signing_fillHints 20 = .ok (.iaload, 1) := by decide +kernel
theorem d_Signing_fillHints_21 : decode b_Signing_fillHints 21 = .ok (.ineg, 1) := by decide +kernel
theorem d_Signing_fillHints_22 : decode b_Signing_fillHints 22 = .ok (.i2l, 1) := by decide +kernel
theorem d_Signing_fillHints_23 : decode b_Signing_fillHints 23 = .ok (.aload_n 0, 1) := by decide +kernel
theorem d_Signing_fillHints_24 : decode b_Signing_fillHints 24 = .ok (.getfield 34, 3) := by decide +kernel
theorem d_Signing_fillHints_27 : decode b_Signing_fillHints 27 = .ok (.iload_n 2, 1) := by decide +kernel
theorem d_Signing_fillHints_28 : decode b_Signing_fillHints 28 = .ok (.iaload, 1) := by decide +kernel
theorem d_Signing_fillHints_29 : decode b_Signing_fillHints 29 = .ok (.aload_n 0, 1) := by decide +kernel
theorem d_Signing_fillHints_30 : decode b_Signing_fillHints 30 = .ok (.getfield 37, 3) := by decide +kernel
theorem d_Signing_fillHints_33 : decode b_Signing_fillHints 33 = .ok (.iload_n 2, 1) := by decide +kernel
theorem d_Signing_fillHints_34 : decode b_Signing_fillHints 34 = .ok (.iaload, 1) := by decide +kernel
theorem d_Signing_fillHints_35 : decode b_Signing_fillHints 35 = .ok (.iadd, 1) := by decide +kernel
theorem d_Signing_fillHints_36 : decode b_Signing_fillHints 36 = .ok (.i2l, 1) := by decide +kernel
theorem d_Signing_fillHints_37 : decode b_Signing_fillHints 37 = .ok (.invokestatic 161, 3) := by decide +kernel
theorem d_Signing_fillHints_40 : decode b_Signing_fillHints 40 = .ok (.invokestatic 172, 3) := by decide +kernel
theorem d_Signing_fillHints_43 : decode b_Signing_fillHints 43 = .ok (.iastore, 1) := by decide +kernel
theorem d_Signing_fillHints_44 : decode b_Signing_fillHints 44 = .ok (.iload_n 1, 1) := by decide +kernel
theorem d_Signing_fillHints_45 : decode b_Signing_fillHints 45 = .ok (.aload_n 0, 1) := by decide +kernel
theorem d_Signing_fillHints_46 : decode b_Signing_fillHints 46 = .ok (.getfield 40, 3) := by decide +kernel
theorem d_Signing_fillHints_49 : decode b_Signing_fillHints 49 = .ok (.iload_n 2, 1) := by decide +kernel
theorem d_Signing_fillHints_50 : decode b_Signing_fillHints 50 = .ok (.iaload, 1) := by decide +kernel
theorem d_Signing_fillHints_51 : decode b_Signing_fillHints 51 = .ok (.iadd, 1) := by decide +kernel
theorem d_Signing_fillHints_52 : decode b_Signing_fillHints 52 = .ok (.istore_n 1, 1) := by decide +kernel
theorem d_Signing_fillHints_53 : decode b_Signing_fillHints 53 = .ok (.iinc 2 1, 3) := by decide +kernel
theorem d_Signing_fillHints_56 : decode b_Signing_fillHints 56 = .ok (.goto (-52), 3) := by decide +kernel
theorem d_Signing_fillHints_59 : decode b_Signing_fillHints 59 = .ok (.iload_n 1, 1) := by decide +kernel
theorem d_Signing_fillHints_60 : decode b_Signing_fillHints 60 = .ok (.ireturn, 1) := by decide +kernel
theorem d_Signing_trySucceeds_0 : decode b_Signing_trySucceeds 0 = .ok (.aload_n 1, 1) := by decide +kernel
theorem d_Signing_trySucceeds_1 : decode b_Signing_trySucceeds 1 = .ok (.aload_n 0, 1) := by decide +kernel
theorem d_Signing_trySucceeds_2 : decode b_Signing_trySucceeds 2 = .ok (.getfield 18, 3) := by decide +kernel
theorem d_Signing_trySucceeds_5 : decode b_Signing_trySucceeds 5 = .ok (.iconst 2, 1) := by decide +kernel
theorem d_Signing_trySucceeds_6 : decode b_Signing_trySucceeds 6 = .ok (.iload_n 3, 1) := by decide +kernel
theorem d_Signing_trySucceeds_7 : decode b_Signing_trySucceeds 7 = .ok (.imul, 1) := by decide +kernel
theorem d_Signing_trySucceeds_8 : decode b_Signing_trySucceeds 8 = .ok (.aload_n 0, 1) := by decide +kernel
theorem d_Signing_trySucceeds_9 : decode b_Signing_trySucceeds 9 = .ok (.getfield 22, 3) := by decide +kernel
theorem d_Signing_trySucceeds_12 : decode b_Signing_trySucceeds 12 = .ok (.invokestatic 81, 3) := by decide +kernel
theorem d_Signing_trySucceeds_15 : decode b_Signing_trySucceeds 15 = .ok (.aload_n 2, 1) := by decide +kernel
theorem d_Signing_trySucceeds_16 : decode b_Signing_trySucceeds 16 = .ok (.getfield 87, 3) := by decide +kernel
theorem d_Signing_trySucceeds_19 : decode b_Signing_trySucceeds 19 = .ok (.aload_n 0, 1) := by decide +kernel
theorem d_Signing_trySucceeds_20 : decode b_Signing_trySucceeds 20 = .ok (.getfield 22, 3) := by decide +kernel
theorem d_Signing_trySucceeds_23 : decode b_Signing_trySucceeds 23 = .ok (.aload_n 0, 1) := by decide +kernel
theorem d_Signing_trySucceeds_24 : decode b_Signing_trySucceeds 24 = .ok (.getfield 25, 3) := by decide +kernel
theorem d_Signing_trySucceeds_27 : decode b_Signing_trySucceeds 27 = .ok (.invokestatic 90, 3) := by decide +kernel
theorem d_Signing_trySucceeds_30 : decode b_Signing_trySucceeds 30 = .ok (.aload_n 0, 1) := by decide +kernel
theorem d_Signing_trySucceeds_31 : decode b_Signing_trySucceeds 31 = .ok (.invokevirtual 96, 3) := by decide +kernel
theorem d_Signing_trySucceeds_34 : decode b_Signing_trySucceeds 34 = .ok (.aload_n 0, 1) := by decide +kernel
theorem d_Signing_trySucceeds_35 : decode b_Signing_trySucceeds 35 = .ok (.getfield 12, 3) := by decide +kernel
theorem d_Signing_trySucceeds_38 : decode b_Signing_trySucceeds 38 = .ok (.aload_n 1, 1) := by decide +kernel
theorem d_Signing_trySucceeds_39 : decode b_Signing_trySucceeds 39 = .ok (.invokevirtual 99, 3) := by decide +kernel
theorem d_Signing_trySucceeds_42 : decode b_Signing_trySucceeds 42 = .ok (.aload_n 1, 1) := by decide +kernel
theorem d_Signing_trySucceeds_43 : decode b_Signing_trySucceeds 43 = .ok (.aload_n 0, 1) := by decide +kernel
theorem d_Signing_trySucceeds_44 : decode b_Signing_trySucceeds 44 = .ok (.getfield 12, 3) := by decide +kernel
theorem d_Signing_trySucceeds_47 : decode b_Signing_trySucceeds 47 = .ok (.getfield 103, 3) := by decide +kernel
theorem d_Signing_trySucceeds_50 : decode b_Signing_trySucceeds 50 = .ok (.aload_n 0, 1) := by decide +kernel
theorem d_Signing_trySucceeds_51 : decode b_Signing_trySucceeds 51 = .ok (.getfield 28, 3) := by decide +kernel
theorem d_Signing_trySucceeds_54 : decode b_Signing_trySucceeds 54 = .ok (.invokestatic 106, 3) := by decide +kernel
theorem d_Signing_trySucceeds_57 : decode b_Signing_trySucceeds 57 = .ok (.aload_n 0, 1) := by decide +kernel
theorem d_Signing_trySucceeds_58 : decode b_Signing_trySucceeds 58 = .ok (.aload_n 2, 1) := by decide +kernel
theorem d_Signing_trySucceeds_59 : decode b_Signing_trySucceeds 59 = .ok (.invokevirtual 110, 3) := by decide +kernel
theorem d_Signing_trySucceeds_62 : decode b_Signing_trySucceeds 62 = .ok (.aload_n 0, 1) := by decide +kernel
theorem d_Signing_trySucceeds_63 : decode b_Signing_trySucceeds 63 = .ok (.getfield 31, 3) := by decide +kernel
theorem d_Signing_trySucceeds_66 : decode b_Signing_trySucceeds 66 = .ok (.invokestatic 114, 3) := by decide +kernel
theorem d_Signing_trySucceeds_69 : decode b_Signing_trySucceeds 69 = .ok (.sipush 504, 3) := by decide +kernel
theorem d_Signing_trySucceeds_72 : decode b_Signing_trySucceeds 72 = .ok (.if_icmp .ge 36, 3) := by decide +kernel
theorem d_Signing_trySucceeds_75 : decode b_Signing_trySucceeds 75 = .ok (.aload_n 0, 1) := by decide +kernel
theorem d_Signing_trySucceeds_76 : decode b_Signing_trySucceeds 76 = .ok (.invokevirtual 118, 3) := by decide +kernel
theorem d_Signing_trySucceeds_79 : decode b_Signing_trySucceeds 79 = .ok (.ifCond .eq 29, 3) := by decide +kernel
theorem d_Signing_trySucceeds_82 : decode b_Signing_trySucceeds 82 = .ok (.aload_n 0, 1) := by decide +kernel
theorem d_Signing_trySucceeds_83 : decode b_Signing_trySucceeds 83 = .ok (.getfield 37, 3) := by decide +kernel
theorem d_Signing_trySucceeds_86 : decode b_Signing_trySucceeds 86 = .ok (.invokestatic 114, 3) := by decide +kernel
theorem d_Signing_trySucceeds_89 : decode b_Signing_trySucceeds 89 = .ok (.sipush 1023, 3) := by decide +kernel
theorem d_Signing_trySucceeds_92 : decode b_Signing_trySucceeds 92 = .ok (.if_icmp .ge 16, 3) := by decide +kernel
theorem d_Signing_trySucceeds_95 : decode b_Signing_trySucceeds 95 = .ok (.aload_n 0, 1) := by decide +kernel
theorem d_Signing_trySucceeds_96 : decode b_Signing_trySucceeds 96 = .ok (.invokevirtual 122, 3) := by decide +kernel
theorem d_Signing_trySucceeds_99 : decode b_Signing_trySucceeds 99 = .ok (.bipush 12, 2) := by decide +kernel
theorem d_Signing_trySucceeds_101 : decode b_Signing_trySucceeds 101 = .ok (.if_icmp .gt 7, 3) := by decide +kernel
theorem d_Signing_trySucceeds_104 : decode b_Signing_trySucceeds 104 = .ok (.iconst 1, 1) := by decide +kernel
theorem d_Signing_trySucceeds_105 : decode b_Signing_trySucceeds 105 = .ok (.goto 4, 3) := by decide +kernel
theorem d_Signing_trySucceeds_108 : decode b_Signing_trySucceeds 108 = .ok (.iconst 0, 1) := by decide +kernel
theorem d_Signing_trySucceeds_109 : decode b_Signing_trySucceeds 109 = .ok (.ireturn, 1) := by decide +kernel
theorem d_Signing_writePlaces_0 : decode b_Signing_writePlaces 0 = .ok (.iload_n 2, 1) := by decide +kernel
theorem d_Signing_writePlaces_1 : decode b_Signing_writePlaces 1 = .ok (.istore 4, 2) := by decide +kernel
theorem d_Signing_writePlaces_3 : decode b_Signing_writePlaces 3 = .ok (.iconst 0, 1) := by decide +kernel
theorem d_Signing_writePlaces_4 : decode b_Signing_writePlaces 4 = .ok (.istore 5, 2) := by decide +kernel
theorem d_Signing_writePlaces_6 : decode b_Signing_writePlaces 6 = .ok (.iload 5, 2) := by decide +kernel
theorem d_Signing_writePlaces_8 : decode b_Signing_writePlaces 8 = .ok (.bipush 16, 2) := by decide +kernel
theorem d_Signing_writePlaces_10 : decode b_Signing_writePlaces 10 = .ok (.if_icmp .ge 41, 3) := by decide +kernel
theorem d_Signing_writePlaces_13 : decode b_Signing_writePlaces 13 = .ok (.iload 4, 2) := by decide +kernel
theorem d_Signing_writePlaces_15 : decode b_Signing_writePlaces 15 = .ok (.bipush 12, 2) := by decide +kernel
theorem d_Signing_writePlaces_17 : decode b_Signing_writePlaces 17 = .ok (.if_icmp .ge 34, 3) := by decide +kernel
theorem d_Signing_writePlaces_20 : decode b_Signing_writePlaces 20 = .ok (.aload_n 0, 1) := by decide +kernel
theorem d_Signing_writePlaces_21 : decode b_Signing_writePlaces 21 = .ok (.getfield 40, 3) := by decide +kernel
theorem d_Signing_writePlaces_24 : decode b_Signing_writePlaces 24 = .ok (.iload_n 3, 1) := by decide +kernel
theorem d_Signing_writePlaces_25 : decode b_Signing_writePlaces 25 = .ok (.iload 5, 2) := by decide +kernel
theorem d_Signing_writePlaces_27 : decode b_Signing_writePlaces 27 = .ok (.iadd, 1) := by decide +kernel
theorem d_Signing_writePlaces_28 : decode b_Signing_writePlaces 28 = .ok (.iaload, 1) := by decide +kernel
theorem d_Signing_writePlaces_29 : decode b_Signing_writePlaces 29 = .ok (.iconst 1, 1) := by decide +kernel
theorem d_Signing_writePlaces_30 : decode b_Signing_writePlaces 30 = .ok (.if_icmp .ne 15, 3) := by decide +kernel
theorem d_Signing_writePlaces_33 : decode b_Signing_writePlaces 33 = .ok (.aload_n 1, 1) := by decide +kernel
theorem d_Signing_writePlaces_34 : decode b_Signing_writePlaces 34 = .ok (.bipush 48, 2) := by decide +kernel
theorem d_Signing_writePlaces_36 : decode b_Signing_writePlaces 36 = .ok (.iload 4, 2) := by decide +kernel
theorem d_Signing_writePlaces_38 : decode b_Signing_writePlaces 38 = .ok (.iadd, 1) := by decide +kernel
theorem d_Signing_writePlaces_39 : decode b_Signing_writePlaces 39 = .ok (.iload 5, 2) := by decide +kernel
theorem d_Signing_writePlaces_41 : decode b_Signing_writePlaces 41 = .ok (.iastore, 1) := by decide +kernel
theorem d_Signing_writePlaces_42 : decode b_Signing_writePlaces 42 = .ok (.iinc 4 1, 3) := by decide +kernel
theorem d_Signing_writePlaces_45 : decode b_Signing_writePlaces 45 = .ok (.iinc 5 1, 3) := by decide +kernel
theorem d_Signing_writePlaces_48 : decode b_Signing_writePlaces 48 = .ok (.goto (-42), 3) := by decide +kernel
theorem d_Signing_writePlaces_51 : decode b_Signing_writePlaces 51 = .ok (.iload 4, 2) := by decide +kernel
theorem d_Signing_writePlaces_53 : decode b_Signing_writePlaces 53 = .ok (.ireturn, 1) := by decide +kernel
theorem d_Signing_writeHints_0 : decode b_Signing_writeHints 0 = .ok (.aload_n 0, 1) := by decide +kernel
theorem d_Signing_writeHints_1 : decode b_Signing_writeHints 1 = .ok (.aload_n 1, 1) := by decide +kernel
theorem d_Signing_writeHints_2 : decode b_Signing_writeHints 2 = .ok (.iconst 0, 1) := by decide +kernel
theorem d_Signing_writeHints_3 : decode b_Signing_writeHints 3 = .ok (.iconst 0, 1) := by decide +kernel
theorem d_Signing_writeHints_4 : decode b_Signing_writeHints 4 = .ok (.invokevirtual 176, 3) := by decide +kernel
theorem d_Signing_writeHints_7 : decode b_Signing_writeHints 7 = .ok (.istore_n 2, 1) := by decide +kernel
theorem d_Signing_writeHints_8 : decode b_Signing_writeHints 8 = .ok (.aload_n 0, 1) := by decide +kernel
theorem d_Signing_writeHints_9 : decode b_Signing_writeHints 9 = .ok (.aload_n 1, 1) := by decide +kernel
theorem d_Signing_writeHints_10 : decode b_Signing_writeHints 10 = .ok (.iload_n 2, 1) := by decide +kernel
theorem d_Signing_writeHints_11 : decode b_Signing_writeHints 11 = .ok (.bipush 16, 2) := by decide +kernel
theorem d_Signing_writeHints_13 : decode b_Signing_writeHints 13 = .ok (.invokevirtual 176, 3) := by decide +kernel
theorem d_Signing_writeHints_16 : decode b_Signing_writeHints 16 = .ok (.istore_n 3, 1) := by decide +kernel
theorem d_Signing_writeHints_17 : decode b_Signing_writeHints 17 = .ok (.aload_n 1, 1) := by decide +kernel
theorem d_Signing_writeHints_18 : decode b_Signing_writeHints 18 = .ok (.bipush 48, 2) := by decide +kernel
theorem d_Signing_writeHints_20 : decode b_Signing_writeHints 20 = .ok (.iload_n 3, 1) := by decide +kernel
theorem d_Signing_writeHints_21 : decode b_Signing_writeHints 21 = .ok (.bipush 12, 2) := by decide +kernel
theorem d_Signing_writeHints_23 : decode b_Signing_writeHints 23 = .ok (.invokestatic 180, 3) := by decide +kernel
theorem d_Signing_writeHints_26 : decode b_Signing_writeHints 26 = .ok (.aload_n 1, 1) := by decide +kernel
theorem d_Signing_writeHints_27 : decode b_Signing_writeHints 27 = .ok (.bipush 60, 2) := by decide +kernel
theorem d_Signing_writeHints_29 : decode b_Signing_writeHints 29 = .ok (.iload_n 2, 1) := by decide +kernel
theorem d_Signing_writeHints_30 : decode b_Signing_writeHints 30 = .ok (.iastore, 1) := by decide +kernel
theorem d_Signing_writeHints_31 : decode b_Signing_writeHints 31 = .ok (.aload_n 1, 1) := by decide +kernel
theorem d_Signing_writeHints_32 : decode b_Signing_writeHints 32 = .ok (.bipush 61, 2) := by decide +kernel
theorem d_Signing_writeHints_34 : decode b_Signing_writeHints 34 = .ok (.iload_n 3, 1) := by decide +kernel
theorem d_Signing_writeHints_35 : decode b_Signing_writeHints 35 = .ok (.iastore, 1) := by decide +kernel
theorem d_Signing_writeHints_36 : decode b_Signing_writeHints 36 = .ok (.return_, 1) := by decide +kernel
theorem d_Signing_writeTo_0 : decode b_Signing_writeTo 0 = .ok (.aload_n 0, 1) := by decide +kernel
theorem d_Signing_writeTo_1 : decode b_Signing_writeTo 1 = .ok (.getfield 12, 3) := by decide +kernel
theorem d_Signing_writeTo_4 : decode b_Signing_writeTo 4 = .ok (.getfield 103, 3) := by decide +kernel
theorem d_Signing_writeTo_7 : decode b_Signing_writeTo 7 = .ok (.iconst 0, 1) := by decide +kernel
theorem d_Signing_writeTo_8 : decode b_Signing_writeTo 8 = .ok (.aload_n 1, 1) := by decide +kernel
theorem d_Signing_writeTo_9 : decode b_Signing_writeTo 9 = .ok (.iconst 0, 1) := by decide +kernel
theorem d_Signing_writeTo_10 : decode b_Signing_writeTo 10 = .ok (.bipush 8, 2) := by decide +kernel
theorem d_Signing_writeTo_12 : decode b_Signing_writeTo 12 = .ok (.invokestatic 75, 3) := by decide +kernel
theorem d_Signing_writeTo_15 : decode b_Signing_writeTo 15 = .ok (.iconst 0, 1) := by decide +kernel
theorem d_Signing_writeTo_16 : decode b_Signing_writeTo 16 = .ok (.istore_n 2, 1) := by decide +kernel
theorem d_Signing_writeTo_17 : decode b_Signing_writeTo 17 = .ok (.iload_n 2, 1) := by decide +kernel
theorem d_Signing_writeTo_18 : decode b_Signing_writeTo 18 = .ok (.bipush 32, 2) := by decide +kernel
theorem d_Signing_writeTo_20 : decode b_Signing_writeTo 20 = .ok (.if_icmp .ge 32, 3) := by decide +kernel
theorem d_Signing_writeTo_23 : decode b_Signing_writeTo 23 = .ok (.aload_n 1, 1) := by decide +kernel
theorem d_Signing_writeTo_24 : decode b_Signing_writeTo 24 = .ok (.bipush 8, 2) := by decide +kernel
theorem d_Signing_writeTo_26 : decode b_Signing_writeTo 26 = .ok (.iload_n 2, 1) := by decide +kernel
theorem d_Signing_writeTo_27 : decode b_Signing_writeTo 27 = .ok (.bipush 10, 2) := by decide +kernel
theorem d_Signing_writeTo_29 : decode b_Signing_writeTo 29 = .ok (.sipush 512, 3) := by decide +kernel
theorem d_Signing_writeTo_32 : decode b_Signing_writeTo 32 = .ok (.aload_n 0, 1) := by decide +kernel
theorem d_Signing_writeTo_33 : decode b_Signing_writeTo 33 = .ok (.getfield 31, 3) := by decide +kernel
theorem d_Signing_writeTo_36 : decode b_Signing_writeTo 36 = .ok (.iload_n 2, 1) := by decide +kernel
theorem d_Signing_writeTo_37 : decode b_Signing_writeTo 37 = .ok (.iaload, 1) := by decide +kernel
theorem d_Signing_writeTo_38 : decode b_Signing_writeTo 38 = .ok (.i2l, 1) := by decide +kernel
theorem d_Signing_writeTo_39 : decode b_Signing_writeTo 39 = .ok (.invokestatic 126, 3) := by decide +kernel
theorem d_Signing_writeTo_42 : decode b_Signing_writeTo 42 = .ok (.isub, 1) := by decide +kernel
theorem d_Signing_writeTo_43 : decode b_Signing_writeTo 43 = .ok (.invokestatic 130, 3) := by decide +kernel
theorem d_Signing_writeTo_46 : decode b_Signing_writeTo 46 = .ok (.iinc 2 1, 3) := by decide +kernel
theorem d_Signing_writeTo_49 : decode b_Signing_writeTo 49 = .ok (.goto (-32), 3) := by decide +kernel
theorem d_Signing_writeTo_52 : decode b_Signing_writeTo 52 = .ok (.aload_n 0, 1) := by decide +kernel
theorem d_Signing_writeTo_53 : decode b_Signing_writeTo 53 = .ok (.aload_n 1, 1) := by decide +kernel
theorem d_Signing_writeTo_54 : decode b_Signing_writeTo 54 = .ok (.invokevirtual 136, 3) := by decide +kernel
theorem d_Signing_writeTo_57 : decode b_Signing_writeTo 57 = .ok (.return_, 1) := by decide +kernel
