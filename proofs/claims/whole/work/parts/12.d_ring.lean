theorem d_Ring_reduce_0 : decode b_Ring_reduce 0 = .ok (.lload_n 0, 1) := by decide +kernel
theorem d_Ring_reduce_1 : decode b_Ring_reduce 1 = .ok (.ldc2_w 9, 3) := by decide +kernel
theorem d_Ring_reduce_4 : decode b_Ring_reduce 4 = .ok (.lrem, 1) := by decide +kernel
theorem d_Ring_reduce_5 : decode b_Ring_reduce 5 = .ok (.lstore_n 2, 1) := by decide +kernel
theorem d_Ring_reduce_6 : decode b_Ring_reduce 6 = .ok (.lload_n 2, 1) := by decide +kernel
theorem d_Ring_reduce_7 : decode b_Ring_reduce 7 = .ok (.lconst 0, 1) := by decide +kernel
theorem d_Ring_reduce_8 : decode b_Ring_reduce 8 = .ok (.lcmp, 1) := by decide +kernel
theorem d_Ring_reduce_9 : decode b_Ring_reduce 9 = .ok (.ifCond .ge 11, 3) := by decide +kernel
theorem d_Ring_reduce_12 : decode b_Ring_reduce 12 = .ok (.lload_n 2, 1) := by decide +kernel
theorem d_Ring_reduce_13 : decode b_Ring_reduce 13 = .ok (.ldc2_w 9, 3) := by decide +kernel
theorem d_Ring_reduce_16 : decode b_Ring_reduce 16 = .ok (.ladd, 1) := by decide +kernel
theorem d_Ring_reduce_17 : decode b_Ring_reduce 17 = .ok (.goto 4, 3) := by decide +kernel
theorem d_Ring_reduce_20 : decode b_Ring_reduce 20 = .ok (.lload_n 2, 1) := by decide +kernel
theorem d_Ring_reduce_21 : decode b_Ring_reduce 21 = .ok (.l2i, 1) := by decide +kernel
theorem d_Ring_reduce_22 : decode b_Ring_reduce 22 = .ok (.ireturn, 1) := by decide +kernel
theorem d_Ring_centered_0 : decode b_Ring_centered 0 = .ok (.lload_n 0, 1) := by decide +kernel
theorem d_Ring_centered_1 : decode b_Ring_centered 1 = .ok (.invokestatic 11, 3) := by decide +kernel
theorem d_Ring_centered_4 : decode b_Ring_centered 4 = .ok (.istore_n 2, 1) := by decide +kernel
theorem d_Ring_centered_5 : decode b_Ring_centered 5 = .ok (.iload_n 2, 1) := by decide +kernel
theorem d_Ring_centered_6 : decode b_Ring_centered 6 = .ok (.ldc 17, 2) := by decide +kernel
theorem d_Ring_centered_8 : decode b_Ring_centered 8 = .ok (.if_icmp .le 10, 3) := by decide +kernel
theorem d_Ring_centered_11 : decode b_Ring_centered 11 = .ok (.iload_n 2, 1) := by decide +kernel
theorem d_Ring_centered_12 : decode b_Ring_centered 12 = .ok (.ldc 18, 2) := by decide +kernel
theorem d_Ring_centered_14 : decode b_Ring_centered 14 = .ok (.isub, 1) := by decide +kernel
theorem d_Ring_centered_15 : decode b_Ring_centered 15 = .ok (.goto 4, 3) := by decide +kernel
theorem d_Ring_centered_18 : decode b_Ring_centered 18 = .ok (.iload_n 2, 1) := by decide +kernel
theorem d_Ring_centered_19 : decode b_Ring_centered 19 = .ok (.ireturn, 1) := by decide +kernel
theorem d_Rounding_restOf_0 : decode b_Rounding_restOf 0 = .ok (.iload_n 0, 1) := by decide +kernel
theorem d_Rounding_restOf_1 : decode b_Rounding_restOf 1 = .ok (.iload_n 1, 1) := by decide +kernel
theorem d_Rounding_restOf_2 : decode b_Rounding_restOf 2 = .ok (.irem, 1) := by decide +kernel
theorem d_Rounding_restOf_3 : decode b_Rounding_restOf 3 = .ok (.istore_n 2, 1) := by decide +kernel
theorem d_Rounding_restOf_4 : decode b_Rounding_restOf 4 = .ok (.iload_n 2, 1) := by decide +kernel
theorem d_Rounding_restOf_5 : decode b_Rounding_restOf 5 = .ok (.iload_n 1, 1) := by decide +kernel
theorem d_Rounding_restOf_6 : decode b_Rounding_restOf 6 = .ok (.iconst 2, 1) := by decide +kernel
theorem d_Rounding_restOf_7 : decode b_Rounding_restOf 7 = .ok (.idiv, 1) := by decide +kernel
theorem d_Rounding_restOf_8 : decode b_Rounding_restOf 8 = .ok (.if_icmp .le 9, 3) := by decide +kernel
theorem d_Rounding_restOf_11 : decode b_Rounding_restOf 11 = .ok (.iload_n 2, 1) := by decide +kernel
theorem d_Rounding_restOf_12 : decode b_Rounding_restOf 12 = .ok (.iload_n 1, 1) := by decide +kernel
theorem d_Rounding_restOf_13 : decode b_Rounding_restOf 13 = .ok (.isub, 1) := by decide +kernel
theorem d_Rounding_restOf_14 : decode b_Rounding_restOf 14 = .ok (.goto 4, 3) := by decide +kernel
theorem d_Rounding_restOf_17 : decode b_Rounding_restOf 17 = .ok (.iload_n 2, 1) := by decide +kernel
theorem d_Rounding_restOf_18 : decode b_Rounding_restOf 18 = .ok (.ireturn, 1) := by decide +kernel
theorem d_Rounding_highOf_0 : decode b_Rounding_highOf 0 = .ok (.iload_n 0, 1) := by decide +kernel
theorem d_Rounding_highOf_1 : decode b_Rounding_highOf 1 = .ok (.sipush 2046, 3) := by decide +kernel
theorem d_Rounding_highOf_4 : decode b_Rounding_highOf 4 = .ok (.invokestatic 11, 3) := by decide +kernel
theorem d_Rounding_highOf_7 : decode b_Rounding_highOf 7 = .ok (.istore_n 1, 1) := by decide +kernel
theorem d_Rounding_highOf_8 : decode b_Rounding_highOf 8 = .ok (.iload_n 0, 1) := by decide +kernel
theorem d_Rounding_highOf_9 : decode b_Rounding_highOf 9 = .ok (.iload_n 1, 1) := by decide +kernel
theorem d_Rounding_highOf_10 : decode b_Rounding_highOf 10 = .ok (.isub, 1) := by decide +kernel
theorem d_Rounding_highOf_11 : decode b_Rounding_highOf 11 = .ok (.ldc 15, 2) := by decide +kernel
theorem d_Rounding_highOf_13 : decode b_Rounding_highOf 13 = .ok (.if_icmp .ne 7, 3) := by decide +kernel
theorem d_Rounding_highOf_16 : decode b_Rounding_highOf 16 = .ok (.iconst 0, 1) := by decide +kernel
theorem d_Rounding_highOf_17 : decode b_Rounding_highOf 17 = .ok (.goto 10, 3) := by decide +kernel
theorem d_Rounding_highOf_20 : decode b_Rounding_highOf 20 = .ok (.iload_n 0, 1) := by decide +kernel
theorem d_Rounding_highOf_21 : decode b_Rounding_highOf 21 = .ok (.iload_n 1, 1) := by decide +kernel
theorem d_Rounding_highOf_22 : decode b_Rounding_highOf 22 = .ok (.isub, 1) := by decide +kernel
theorem d_Rounding_highOf_23 : decode b_Rounding_highOf 23 = .ok (.sipush 2046, 3) := by decide +kernel
theorem d_Rounding_highOf_26 : decode b_Rounding_highOf 26 = .ok (.idiv, 1) := by decide +kernel
theorem d_Rounding_highOf_27 : decode b_Rounding_highOf 27 = .ok (.ireturn, 1) := by decide +kernel
theorem d_Rounding_lowOf_0 : decode b_Rounding_lowOf 0 = .ok (.iload_n 0, 1) := by decide +kernel
theorem d_Rounding_lowOf_1 : decode b_Rounding_lowOf 1 = .ok (.sipush 2046, 3) := by decide +kernel
theorem d_Rounding_lowOf_4 : decode b_Rounding_lowOf 4 = .ok (.invokestatic 11, 3) := by decide +kernel
theorem d_Rounding_lowOf_7 : decode b_Rounding_lowOf 7 = .ok (.istore_n 1, 1) := by decide +kernel
theorem d_Rounding_lowOf_8 : decode b_Rounding_lowOf 8 = .ok (.iload_n 0, 1) := by decide +kernel
theorem d_Rounding_lowOf_9 : decode b_Rounding_lowOf 9 = .ok (.iload_n 1, 1) := by decide +kernel
theorem d_Rounding_lowOf_10 : decode b_Rounding_lowOf 10 = .ok (.isub, 1) := by decide +kernel
theorem d_Rounding_lowOf_11 : decode b_Rounding_lowOf 11 = .ok (.ldc 15, 2) := by decide +kernel
theorem d_Rounding_lowOf_13 : decode b_Rounding_lowOf 13 = .ok (.if_icmp .ne 9, 3) := by decide +kernel
theorem d_Rounding_lowOf_16 : decode b_Rounding_lowOf 16 = .ok (.iload_n 1, 1) := by decide +kernel
theorem d_Rounding_lowOf_17 : decode b_Rounding_lowOf 17 = .ok (.iconst 1, 1) := by decide +kernel
theorem d_Rounding_lowOf_18 : decode b_Rounding_lowOf 18 = .ok (.isub, 1) := by decide +kernel
theorem d_Rounding_lowOf_19 : decode b_Rounding_lowOf 19 = .ok (.goto 4, 3) := by decide +kernel
theorem d_Rounding_lowOf_22 : decode b_Rounding_lowOf 22 = .ok (.iload_n 1, 1) := by decide +kernel
theorem d_Rounding_lowOf_23 : decode b_Rounding_lowOf 23 = .ok (.ireturn, 1) := by decide +kernel
theorem d_Rounding_lowerPart_0 : decode b_Rounding_lowerPart 0 = .ok (.iload_n 0, 1) := by decide +kernel
theorem d_Rounding_lowerPart_1 : decode b_Rounding_lowerPart 1 = .ok (.sipush 256, 3) := by decide +kernel
theorem d_Rounding_lowerPart_4 : decode b_Rounding_lowerPart 4 = .ok (.invokestatic 11, 3) := by decide +kernel
theorem d_Rounding_lowerPart_7 : decode b_Rounding_lowerPart 7 = .ok (.ireturn, 1) := by decide +kernel
theorem d_Rounding_hintOf_0 : decode b_Rounding_hintOf 0 = .ok (.iload_n 2, 1) := by decide +kernel
theorem d_Rounding_hintOf_1 : decode b_Rounding_hintOf 1 = .ok (.invokestatic 16, 3) := by decide +kernel
theorem d_Rounding_hintOf_4 : decode b_Rounding_hintOf 4 = .ok (.iload_n 2, 1) := by decide +kernel
theorem d_Rounding_hintOf_5 : decode b_Rounding_hintOf 5 = .ok (.i2l, 1) := by decide +kernel
theorem d_Rounding_hintOf_6 : decode b_Rounding_hintOf 6 = .ok (.lload_n 0, 1) := by decide +kernel
theorem d_Rounding_hintOf_7 : decode b_Rounding_hintOf 7 = .ok (.ladd, 1) := by decide +kernel
theorem d_Rounding_hintOf_8 : decode b_Rounding_hintOf 8 = .ok (.invokestatic 20, 3) := by decide +kernel
theorem d_Rounding_hintOf_11 : decode b_Rounding_hintOf 11 = .ok (.invokestatic 16, 3) := by decide +kernel
theorem d_Rounding_hintOf_14 : decode b_Rounding_hintOf 14 = .ok (.if_icmp .ne 7, 3) := by decide +kernel
theorem d_Rounding_hintOf_17 : decode b_Rounding_hintOf 17 = .ok (.iconst 0, 1) := by decide +kernel
theorem d_Rounding_hintOf_18 : decode b_Rounding_hintOf 18 = .ok (.goto 4, 3) := by decide +kernel
theorem d_Rounding_hintOf_21 : decode b_Rounding_hintOf 21 = .ok (.iconst 1, 1) := by decide +kernel
theorem d_Rounding_hintOf_22 : decode b_Rounding_hintOf 22 = .ok (.ireturn, 1) := by decide +kernel
theorem d_Rounding_correctedBy_0 : decode b_Rounding_correctedBy 0 = .ok (.iload_n 0, 1) := by decide +kernel
theorem d_Rounding_correctedBy_1 : decode b_Rounding_correctedBy 1 = .ok (.ifCond .ne 8, 3) := by decide +kernel
theorem d_Rounding_correctedBy_4 : decode b_Rounding_correctedBy 4 = .ok (.iload_n 1, 1) := by decide +kernel
theorem d_Rounding_correctedBy_5 : decode b_Rounding_correctedBy 5 = .ok (.invokestatic 16, 3) := by decide +kernel
theorem d_Rounding_correctedBy_8 : decode b_Rounding_correctedBy 8 = .ok (.ireturn, 1) := by decide +kernel
theorem d_Rounding_correctedBy_9 : decode b_Rounding_correctedBy 9 = .ok (.iload_n 1, 1) := by decide +kernel
theorem d_Rounding_correctedBy_10 : decode b_Rounding_correctedBy 10 = .ok (.invokestatic 26, 3) := by decide +kernel
theorem d_Rounding_correctedBy_13 : decode b_Rounding_correctedBy 13 = .ok (.ifCond .le 7, 3) := by decide +kernel
theorem d_Rounding_correctedBy_16 : decode b_Rounding_correctedBy 16 = .ok (.iconst 1, 1) := by decide +kernel
theorem d_Rounding_correctedBy_17 : decode b_Rounding_correctedBy 17 = .ok (.goto 6, 3) := by decide +kernel
theorem d_Rounding_correctedBy_20 : decode b_Rounding_correctedBy 20 = .ok (.sipush 4095, 3) := by decide +kernel
theorem d_Rounding_correctedBy_23 : decode b_Rounding_correctedBy 23 = .ok (.istore_n 2, 1) := by decide +kernel
theorem d_Rounding_correctedBy_24 : decode b_Rounding_correctedBy 24 = .ok (.iload_n 1, 1) := by decide +kernel
theorem d_Rounding_correctedBy_25 : decode b_Rounding_correctedBy 25 = .ok (.invokestatic 16, 3) := by decide +kernel
theorem d_Rounding_correctedBy_28 : decode b_Rounding_correctedBy 28 = .ok (.iload_n 2, 1) := by decide +kernel
theorem d_Rounding_correctedBy_29 : decode b_Rounding_correctedBy 29 = .ok (.iadd, 1) := by decide +kernel
theorem d_Rounding_correctedBy_30 : decode b_Rounding_correctedBy 30 = .ok (.sipush 4096, 3) := by decide +kernel
theorem d_Rounding_correctedBy_33 : decode b_Rounding_correctedBy 33 = .ok (.irem, 1) := by decide +kernel
theorem d_Rounding_correctedBy_34 : decode b_Rounding_correctedBy 34 = .ok (.ireturn, 1) := by decide +kernel
theorem d_Packing_write_0 : decode b_Packing_write 0 = .ok (.iconst 0, 1) := by decide +kernel
theorem d_Packing_write_1 : decode b_Packing_write 1 = .ok (.istore 5, 2) := by decide +kernel
theorem d_Packing_write_3 : decode b_Packing_write 3 = .ok (.iload 5, 2) := by decide +kernel
theorem d_Packing_write_5 : decode b_Packing_write 5 = .ok (.iload_n 3, 1) := by decide +kernel
theorem d_Packing_write_6 : decode b_Packing_write 6 = .ok (.if_icmp .ge 69, 3) := by decide +kernel
theorem d_Packing_write_9 : decode b_Packing_write 9 = .ok (.iload_n 2, 1) := by decide +kernel
theorem d_Packing_write_10 : decode b_Packing_write 10 = .ok (.iload_n 3, 1) := by decide +kernel
theorem d_Packing_write_11 : decode b_Packing_write 11 = .ok (.imul, 1) := by decide +kernel
theorem d_Packing_write_12 : decode b_Packing_write 12 = .ok (.iload 5, 2) := by decide +kernel
theorem d_Packing_write_14 : decode b_Packing_write 14 = .ok (.iadd, 1) := by decide +kernel
theorem d_Packing_write_15 : decode b_Packing_write 15 = .ok (.istore 6, 2) := by decide +kernel
theorem d_Packing_write_17 : decode b_Packing_write 17 = .ok (.iconst 1, 1) := by decide +kernel
theorem d_Packing_write_18 : decode b_Packing_write 18 = .ok (.iload 6, 2) := by decide +kernel
theorem d_Packing_write_20 : decode b_Packing_write 20 = .ok (.bipush 8, 2) := by decide +kernel
theorem d_Packing_write_22 : decode b_Packing_write 22 = .ok (.irem, 1) := by decide +kernel
theorem d_Packing_write_23 : decode b_Packing_write 23 = .ok (.ishl, 1) := by decide +kernel
theorem d_Packing_write_24 : decode b_Packing_write 24 = .ok (.istore 7, 2) := by decide +kernel
theorem d_Packing_write_26 : decode b_Packing_write 26 = .ok (.iload_n 1, 1) := by decide +kernel
theorem d_Packing_write_27 : decode b_Packing_write 27 = .ok (.iload 6, 2) := by decide +kernel
theorem d_Packing_write_29 : decode b_Packing_write 29 = .ok (.bipush 8, 2) := by decide +kernel
theorem d_Packing_write_31 : decode b_Packing_write 31 = .ok (.idiv, 1) := by decide +kernel
theorem d_Packing_write_32 : decode b_Packing_write 32 = .ok (.iadd, 1) := by decide +kernel
theorem d_Packing_write_33 : decode b_Packing_write 33 = .ok (.istore 8, 2) := by decide +kernel
theorem d_Packing_write_35 : decode b_Packing_write 35 = .ok (.aload_n 0, 1) := by decide +kernel
theorem d_Packing_write_36 : decode b_Packing_write 36 = .ok (.iload 8, 2) := by decide +kernel
theorem d_Packing_write_38 : decode b_Packing_write 38 = .ok (.iload 4, 2) := by decide +kernel
theorem d_Packing_write_40 : decode b_Packing_write 40 = .ok (.iload 5, 2) := by decide +kernel
theorem d_Packing_write_42 : decode b_Packing_write 42 = .ok (.ishr, 1) := by decide +kernel
theorem d_Packing_write_43 : decode b_Packing_write 43 = .ok (.iconst 1, 1) := by decide +kernel
theorem d_Packing_write_44 : decode b_Packing_write 44 = .ok (.iand, 1) := by decide +kernel
theorem d_Packing_write_45 : decode b_Packing_write 45 = .ok (.iconst 1, 1) := by decide +kernel
theorem d_Packing_write_46 : decode b_Packing_write 46 = .ok (.if_icmp .ne 13, 3) := by decide +kernel
theorem d_Packing_write_49 : decode b_Packing_write 49 = .ok (.aload_n 0, 1) := by decide +kernel
theorem d_Packing_write_50 : decode b_Packing_write 50 = .ok (.iload 8, 2) := by decide +kernel
theorem d_Packing_write_52 : decode b_Packing_write 52 = .ok (.iaload, 1) := by decide +kernel
theorem d_Packing_write_53 : decode b_Packing_write 53 = .ok (.iload 7, 2) := by decide +kernel
theorem d_Packing_write_55 : decode b_Packing_write 55 = .ok (.ior, 1) := by decide +kernel
theorem d_Packing_write_56 : decode b_Packing_write 56 = .ok (.goto 12, 3) := by decide +kernel
theorem d_Packing_write_59 : decode b_Packing_write 59 = .ok (.aload_n 0, 1) := by decide +kernel
theorem d_Packing_write_60 : decode b_Packing_write 60 = .ok (.iload 8, 2) := by decide +kernel
theorem d_Packing_write_62 : decode b_Packing_write 62 = .ok (.iaload, 1) := by decide +kernel
theorem d_Packing_write_63 : decode b_Packing_write 63 = .ok (.iload 7, 2) := by decide +kernel
theorem d_Packing_write_65 : decode b_Packing_write 65 = .ok (.iconst (-1), 1) := by decide +kernel
theorem d_Packing_write_66 : decode b_Packing_write 66 = .ok (.ixor, 1) := by decide +kernel
theorem d_Packing_write_67 : decode b_Packing_write 67 = .ok (.iand, 1) := by decide +kernel
theorem d_Packing_write_68 : decode b_Packing_write 68 = .ok (.iastore, 1) := by decide +kernel
theorem d_Packing_write_69 : decode b_Packing_write 69 = .ok (.iinc 5 1, 3) := by decide +kernel
theorem d_Packing_write_72 : decode b_Packing_write 72 = .ok (.goto (-69), 3) := by decide +kernel
theorem d_Packing_write_75 : decode b_Packing_write 75 = .ok (.return_, 1) := by decide +kernel
theorem d_Packing_read_0 : decode b_Packing_read 0 = .ok (.iconst 0, 1) := by decide +kernel
theorem d_Packing_read_1 : decode b_Packing_read 1 = .ok (.istore 4, 2) := by decide +kernel
theorem d_Packing_read_3 : decode b_Packing_read 3 = .ok (.iconst 0, 1) := by decide +kernel
theorem d_Packing_read_4 : decode b_Packing_read 4 = .ok (.istore 5, 2) := by decide +kernel
theorem d_Packing_read_6 : decode b_Packing_read 6 = .ok (.iload 5, 2) := by decide +kernel
theorem d_Packing_read_8 : decode b_Packing_read 8 = .ok (.iload_n 3, 1) := by decide +kernel
theorem d_Packing_read_9 : decode b_Packing_read 9 = .ok (.if_icmp .ge 42, 3) := by decide +kernel
theorem d_Packing_read_12 : decode b_Packing_read 12 = .ok (.iload_n 2, 1) := by decide +kernel
theorem d_Packing_read_13 : decode b_Packing_read 13 = .ok (.iload_n 3, 1) := by decide +kernel
theorem d_Packing_read_14 : decode b_Packing_read 14 = .ok (.imul, 1) := by decide +kernel
theorem d_Packing_read_15 : decode b_Packing_read 15 = .ok (.iload 5, 2) := by decide +kernel
theorem d_Packing_read_17 : decode b_Packing_read 17 = .ok (.iadd, 1) := by decide +kernel
theorem d_Packing_read_18 : decode b_Packing_read 18 = .ok (.istore 6, 2) := by decide +kernel
theorem d_Packing_read_20 : decode b_Packing_read 20 = .ok (.iload 4, 2) := by decide +kernel
theorem d_Packing_read_22 : decode b_Packing_read 22 = .ok (.aload_n 0, 1) := by decide +kernel
theorem d_Packing_read_23 : decode b_Packing_read 23 = .ok (.iload_n 1, 1) := by decide +kernel
theorem d_Packing_read_24 : decode b_Packing_read 24 = .ok (.iload 6, 2) := by decide +kernel
theorem d_Packing_read_26 : decode b_Packing_read 26 = .ok (.bipush 8, 2) := by decide +kernel
theorem d_Packing_read_28 : decode b_Packing_read 28 = .ok (.idiv, 1) := by decide +kernel
theorem d_Packing_read_29 : decode b_Packing_read 29 = .ok (.iadd, 1) := by decide +kernel
theorem d_Packing_read_30 : decode b_Packing_read 30 = .ok (.iaload, 1) := by decide +kernel
theorem d_Packing_read_31 : decode b_Packing_read 31 = .ok (.iload 6, 2) := by decide +kernel
theorem d_Packing_read_33 : decode b_Packing_read 33 = .ok (.bipush 8, 2) := by decide +kernel
theorem d_Packing_read_35 : decode b_Packing_read 35 = .ok (.irem, 1) := by decide +kernel
theorem d_Packing_read_36 : decode b_Packing_read 36 = .ok (.ishr, 1) := by decide +kernel
theorem d_Packing_read_37 : decode b_Packing_read 37 = .ok (.iconst 1, 1) := by decide +kernel
theorem d_Packing_read_38 : decode b_Packing_read 38 = .ok (.iand, 1) := by decide +kernel
theorem d_Packing_read_39 : decode b_Packing_read 39 = .ok (.iload 5, 2) := by decide +kernel
theorem d_Packing_read_41 : decode b_Packing_read 41 = .ok (.ishl, 1) := by decide +kernel
theorem d_Packing_read_42 : decode b_Packing_read 42 = .ok (.ior, 1) := by decide +kernel
theorem d_Packing_read_43 : decode b_Packing_read 43 = .ok (.istore 4, 2) := by decide +kernel
theorem d_Packing_read_45 : decode b_Packing_read 45 = .ok (.iinc 5 1, 3) := by decide +kernel
theorem d_Packing_read_48 : decode b_Packing_read 48 = .ok (.goto (-42), 3) := by decide +kernel
theorem d_Packing_read_51 : decode b_Packing_read 51 = .ok (.iload 4, 2) := by decide +kernel
theorem d_Packing_read_53 : decode b_Packing_read 53 = .ok (.ireturn, 1) := by decide +kernel
theorem d_Ring_productAt_0 : decode b_Ring_productAt 0 = .ok (.lconst 0, 1) := by decide +kernel
theorem d_Ring_productAt_1 : decode b_Ring_productAt 1 = .ok (.lstore 5, 2) := by decide +kernel
theorem d_Ring_productAt_3 : decode b_Ring_productAt 3 = .ok (.iconst 0, 1) := by decide +kernel
theorem d_Ring_productAt_4 : decode b_Ring_productAt 4 = .ok (.istore 7, 2) := by decide +kernel
theorem d_Ring_productAt_6 : decode b_Ring_productAt 6 = .ok (.iload 7, 2) := by decide +kernel
theorem d_Ring_productAt_8 : decode b_Ring_productAt 8 = .ok (.iload_n 0, 1) := by decide +kernel
theorem d_Ring_productAt_9 : decode b_Ring_productAt 9 = .ok (.if_icmp .gt 32, 3) := by decide +kernel
theorem d_Ring_productAt_12 : decode b_Ring_productAt 12 = .ok (.lload 5, 2) := by decide +kernel
theorem d_Ring_productAt_14 : decode b_Ring_productAt 14 = .ok (.aload_n 1, 1) := by decide +kernel
theorem d_Ring_productAt_15 : decode b_Ring_productAt 15 = .ok (.iload_n 2, 1) := by decide +kernel
theorem d_Ring_productAt_16 : decode b_Ring_productAt 16 = .ok (.iload 7, 2) := by decide +kernel
theorem d_Ring_productAt_18 : decode b_Ring_productAt 18 = .ok (.iadd, 1) := by decide +kernel
theorem d_Ring_productAt_19 : decode b_Ring_productAt 19 = .ok (.iaload, 1) := by decide +kernel
theorem d_Ring_productAt_20 : decode b_Ring_productAt 20 = .ok (.i2l, 1) := by decide +kernel
theorem d_Ring_productAt_21 : decode b_Ring_productAt 21 = .ok (.aload_n 3, 1) := by decide +kernel
theorem d_Ring_productAt_22 : decode b_Ring_productAt 22 = .ok (.iload 4, 2) := by decide +kernel
theorem d_Ring_productAt_24 : decode b_Ring_productAt 24 = .ok (.iload_n 0, 1) := by decide +kernel
theorem d_Ring_productAt_25 : decode b_Ring_productAt 25 = .ok (.iadd, 1) := by decide +kernel
theorem d_Ring_productAt_26 : decode b_Ring_productAt 26 = .ok (.iload 7, 2) := by decide +kernel
theorem d_Ring_productAt_28 : decode b_Ring_productAt 28 = .ok (.isub, 1) := by decide +kernel
theorem d_Ring_productAt_29 : decode b_Ring_productAt 29 = .ok (.iaload, 1) := by decide +kernel
theorem d_Ring_productAt_30 : decode b_Ring_productAt 30 = .ok (.i2l, 1) := by decide +kernel
theorem d_Ring_productAt_31 : decode b_Ring_productAt 31 = .ok (.lmul, 1) := by decide +kernel
theorem d_Ring_productAt_32 : decode b_Ring_productAt 32 = .ok (.ladd, 1) := by decide +kernel
theorem d_Ring_productAt_33 : decode b_Ring_productAt 33 = .ok (.lstore 5, 2) := by decide +kernel
theorem d_Ring_productAt_35 : decode b_Ring_productAt 35 = .ok (.iinc 7 1, 3) := by decide +kernel
theorem d_Ring_productAt_38 : decode b_Ring_productAt 38 = .ok (.goto (-32), 3) := by decide +kernel
theorem d_Ring_productAt_41 : decode b_Ring_productAt 41 = .ok (.iload_n 0, 1) := by decide +kernel
theorem d_Ring_productAt_42 : decode b_Ring_productAt 42 = .ok (.iconst 1, 1) := by decide +kernel
theorem d_Ring_productAt_43 : decode b_Ring_productAt 43 = .ok (.iadd, 1) := by decide +kernel
theorem d_Ring_productAt_44 : decode b_Ring_productAt 44 = .ok (.istore 7, 2) := by decide +kernel
theorem d_Ring_productAt_46 : decode b_Ring_productAt 46 = .ok (.iload 7, 2) := by decide +kernel
theorem d_Ring_productAt_48 : decode b_Ring_productAt 48 = .ok (.bipush 16, 2) := by decide +kernel
theorem d_Ring_productAt_50 : decode b_Ring_productAt 50 = .ok (.if_icmp .ge 35, 3) := by decide +kernel
theorem d_Ring_productAt_53 : decode b_Ring_productAt 53 = .ok (.lload 5, 2) := by decide +kernel
theorem d_Ring_productAt_55 : decode b_Ring_productAt 55 = .ok (.aload_n 1, 1) := by decide +kernel
theorem d_Ring_productAt_56 : decode b_Ring_productAt 56 = .ok (.iload_n 2, 1) := by decide +kernel
theorem d_Ring_productAt_57 : decode b_Ring_productAt 57 = .ok (.iload 7, 2) := by decide +kernel
theorem d_Ring_productAt_59 : decode b_Ring_productAt 59 = .ok (.iadd, 1) := by decide +kernel
theorem d_Ring_productAt_60 : decode b_Ring_productAt 60 = .ok (.iaload, 1) := by decide +kernel
theorem d_Ring_productAt_61 : decode b_Ring_productAt 61 = .ok (.i2l, 1) := by decide +kernel
theorem d_Ring_productAt_62 : decode b_Ring_productAt 62 = .ok (.aload_n 3, 1) := by decide +kernel
theorem d_Ring_productAt_63 : decode b_Ring_productAt 63 = .ok (.iload 4, 2) := by decide +kernel
theorem d_Ring_productAt_65 : decode b_Ring_productAt 65 = .ok (.bipush 16, 2) := by decide +kernel
theorem d_Ring_productAt_67 : decode b_Ring_productAt 67 = .ok (.iadd, 1) := by decide +kernel
theorem d_Ring_productAt_68 : decode b_Ring_productAt 68 = .ok (.iload_n 0, 1) := by decide +kernel
theorem d_Ring_productAt_69 : decode b_Ring_productAt 69 = .ok (.iadd, 1) := by decide +kernel
theorem d_Ring_productAt_70 : decode b_Ring_productAt 70 = .ok (.iload 7, 2) := by decide +kernel
theorem d_Ring_productAt_72 : decode b_Ring_productAt 72 = .ok (.isub, 1) := by decide +kernel
theorem d_Ring_productAt_73 : decode b_Ring_productAt 73 = .ok (.iaload, 1) := by decide +kernel
theorem d_Ring_productAt_74 : decode b_Ring_productAt 74 = .ok (.i2l, 1) := by decide +kernel
theorem d_Ring_productAt_75 : decode b_Ring_productAt 75 = .ok (.lmul, 1) := by decide +kernel
theorem d_Ring_productAt_76 : decode b_Ring_productAt 76 = .ok (.lsub, 1) := by decide +kernel
theorem d_Ring_productAt_77 : decode b_Ring_productAt 77 = .ok (.lstore 5, 2) := by decide +kernel
theorem d_Ring_productAt_79 : decode b_Ring_productAt 79 = .ok (.iinc 7 1, 3) := by decide +kernel
theorem d_Ring_productAt_82 : decode b_Ring_productAt 82 = .ok (.goto (-36), 3) := by decide +kernel
theorem d_Ring_productAt_85 : decode b_Ring_productAt 85 = .ok (.lload 5, 2) := by decide +kernel
theorem d_Ring_productAt_87 : decode b_Ring_productAt 87 = .ok (.lreturn, 1) := by decide +kernel
theorem d_Ring_applyMatrix_0 : decode b_Ring_applyMatrix 0 = .ok (.iconst 0, 1) := by decide +kernel
theorem d_Ring_applyMatrix_1 : decode b_Ring_applyMatrix 1 = .ok (.istore_n 3, 1) := by decide +kernel
theorem d_Ring_applyMatrix_2 : decode b_Ring_applyMatrix 2 = .ok (.iload_n 3, 1) := by decide +kernel
theorem d_Ring_applyMatrix_3 : decode b_Ring_applyMatrix 3 = .ok (.bipush 16, 2) := by decide +kernel
theorem d_Ring_applyMatrix_5 : decode b_Ring_applyMatrix 5 = .ok (.if_icmp .ge 63, 3) := by decide +kernel
theorem d_Ring_applyMatrix_8 : decode b_Ring_applyMatrix 8 = .ok (.aload_n 2, 1) := by decide +kernel
theorem d_Ring_applyMatrix_9 : decode b_Ring_applyMatrix 9 = .ok (.iload_n 3, 1) := by decide +kernel
theorem d_Ring_applyMatrix_10 : decode b_Ring_applyMatrix 10 = .ok (.iload_n 3, 1) := by decide +kernel
theorem d_Ring_applyMatrix_11 : decode b_Ring_applyMatrix 11 = .ok (.aload_n 0, 1) := by decide +kernel
theorem d_Ring_applyMatrix_12 : decode b_Ring_applyMatrix 12 = .ok (.iconst 0, 1) := by decide +kernel
theorem d_Ring_applyMatrix_13 : decode b_Ring_applyMatrix 13 = .ok (.aload_n 1, 1) := by decide +kernel
theorem d_Ring_applyMatrix_14 : decode b_Ring_applyMatrix 14 = .ok (.iconst 0, 1) := by decide +kernel
theorem d_Ring_applyMatrix_15 : decode b_Ring_applyMatrix 15 = .ok (.invokestatic 32, 3) := by decide +kernel
theorem d_Ring_applyMatrix_18 : decode b_Ring_applyMatrix 18 = .ok (.iload_n 3, 1) := by decide +kernel
theorem d_Ring_applyMatrix_19 : decode b_Ring_applyMatrix 19 = .ok (.aload_n 0, 1) := by decide +kernel
theorem d_Ring_applyMatrix_20 : decode b_Ring_applyMatrix 20 = .ok (.bipush 16, 2) := by decide +kernel
theorem d_Ring_applyMatrix_22 : decode b_Ring_applyMatrix 22 = .ok (.aload_n 1, 1) := by decide +kernel
theorem d_Ring_applyMatrix_23 : decode b_Ring_applyMatrix 23 = .ok (.bipush 16, 2) := by decide +kernel
theorem d_Ring_applyMatrix_25 : decode b_Ring_applyMatrix 25 = .ok (.invokestatic 32, 3) := by decide +kernel
theorem d_Ring_applyMatrix_28 : decode b_Ring_applyMatrix 28 = .ok (.ladd, 1) := by decide +kernel
theorem d_Ring_applyMatrix_29 : decode b_Ring_applyMatrix 29 = .ok (.invokestatic 11, 3) := by decide +kernel
theorem d_Ring_applyMatrix_32 : decode b_Ring_applyMatrix 32 = .ok (.iastore, 1) := by decide +kernel
theorem d_Ring_applyMatrix_33 : decode b_Ring_applyMatrix 33 = .ok (.aload_n 2, 1) := by decide +kernel
theorem d_Ring_applyMatrix_34 : decode b_Ring_applyMatrix 34 = .ok (.bipush 16, 2) := by decide +kernel
theorem d_Ring_applyMatrix_36 : decode b_Ring_applyMatrix 36 = .ok (.iload_n 3, 1) := by decide +kernel
theorem d_Ring_applyMatrix_37 : decode b_Ring_applyMatrix 37 = .ok (.iadd, 1) := by decide +kernel
theorem d_Ring_applyMatrix_38 : decode b_Ring_applyMatrix 38 = .ok (.iload_n 3, 1) := by decide +kernel
theorem d_Ring_applyMatrix_39 : decode b_Ring_applyMatrix 39 = .ok (.aload_n 0, 1) := by decide +kernel
theorem d_Ring_applyMatrix_40 : decode b_Ring_applyMatrix 40 = .ok (.bipush 32, 2) := by decide +kernel
theorem d_Ring_applyMatrix_42 : decode b_Ring_applyMatrix 42 = .ok (.aload_n 1, 1) := by decide +kernel
theorem d_Ring_applyMatrix_43 : decode b_Ring_applyMatrix 43 = .ok (.iconst 0, 1) := by decide +kernel
theorem d_Ring_applyMatrix_44 : decode b_Ring_applyMatrix 44 = .ok (.invokestatic 32, 3) := by decide +kernel
theorem d_Ring_applyMatrix_47 : decode b_Ring_applyMatrix 47 = .ok (.iload_n 3, 1) := by decide +kernel
theorem d_Ring_applyMatrix_48 : decode b_Ring_applyMatrix 48 = .ok (.aload_n 0, 1) := by decide +kernel
theorem d_Ring_applyMatrix_49 : decode b_Ring_applyMatrix 49 = .ok (.bipush 48, 2) := by decide +kernel
theorem d_Ring_applyMatrix_51 : decode b_Ring_applyMatrix 51 = .ok (.aload_n 1, 1) := by decide +kernel
theorem d_Ring_applyMatrix_52 : decode b_Ring_applyMatrix 52 = .ok (.bipush 16, 2) := by decide +kernel
theorem d_Ring_applyMatrix_54 : decode b_Ring_applyMatrix 54 = .ok (.invokestatic 32, 3) := by decide +kernel
theorem d_Ring_applyMatrix_57 : decode b_Ring_applyMatrix 57 = .ok (.ladd, 1) := by decide +kernel
theorem d_Ring_applyMatrix_58 : decode b_Ring_applyMatrix 58 = .ok (.invokestatic 11, 3) := by decide +kernel
theorem d_Ring_applyMatrix_61 : decode b_Ring_applyMatrix 61 = .ok (.iastore, 1) := by decide +kernel
theorem d_Ring_applyMatrix_62 : decode b_Ring_applyMatrix 62 = .ok (.iinc 3 1, 3) := by decide +kernel
theorem d_Ring_applyMatrix_65 : decode b_Ring_applyMatrix 65 = .ok (.goto (-63), 3) := by decide +kernel
theorem d_Ring_applyMatrix_68 : decode b_Ring_applyMatrix 68 = .ok (.return_, 1) := by decide +kernel
theorem d_Ring_applyPolynomial_0 : decode b_Ring_applyPolynomial 0 = .ok (.iconst 0, 1) := by decide +kernel
theorem d_Ring_applyPolynomial_1 : decode b_Ring_applyPolynomial 1 = .ok (.istore_n 3, 1) := by decide +kernel
theorem d_Ring_applyPolynomial_2 : decode b_Ring_applyPolynomial 2 = .ok (.iload_n 3, 1) := by decide +kernel
theorem d_Ring_applyPolynomial_3 : decode b_Ring_applyPolynomial 3 = .ok (.bipush 16, 2) := by decide +kernel
theorem d_Ring_applyPolynomial_5 : decode b_Ring_applyPolynomial 5 = .ok (.if_icmp .ge 41, 3) := by decide +kernel
theorem d_Ring_applyPolynomial_8 : decode b_Ring_applyPolynomial 8 = .ok (.aload_n 2, 1) := by decide +kernel
theorem d_Ring_applyPolynomial_9 : decode b_Ring_applyPolynomial 9 = .ok (.iload_n 3, 1) := by decide +kernel
theorem d_Ring_applyPolynomial_10 : decode b_Ring_applyPolynomial 10 = .ok (.iload_n 3, 1) := by decide +kernel
theorem d_Ring_applyPolynomial_11 : decode b_Ring_applyPolynomial 11 = .ok (.aload_n 0, 1) := by decide +kernel
theorem d_Ring_applyPolynomial_12 : decode b_Ring_applyPolynomial 12 = .ok (.iconst 0, 1) := by decide +kernel
theorem d_Ring_applyPolynomial_13 : decode b_Ring_applyPolynomial 13 = .ok (.aload_n 1, 1) := by decide +kernel
theorem d_Ring_applyPolynomial_14 : decode b_Ring_applyPolynomial 14 = .ok (.iconst 0, 1) := by decide +kernel
theorem d_Ring_applyPolynomial_15 : decode b_Ring_applyPolynomial 15 = .ok (.invokestatic 32, 3) := by decide +kernel
theorem d_Ring_applyPolynomial_18 : decode b_Ring_applyPolynomial 18 = .ok (.invokestatic 11, 3) := by decide +kernel
theorem d_Ring_applyPolynomial_21 : decode b_Ring_applyPolynomial 21 = .ok (.iastore, 1) := by decide +kernel
theorem d_Ring_applyPolynomial_22 : decode b_Ring_applyPolynomial 22 = .ok (.aload_n 2, 1) := by decide +kernel
theorem d_Ring_applyPolynomial_23 : decode b_Ring_applyPolynomial 23 = .ok (.bipush 16, 2) := by decide +kernel
theorem d_Ring_applyPolynomial_25 : decode b_Ring_applyPolynomial 25 = .ok (.iload_n 3, 1) := by decide +kernel
theorem d_Ring_applyPolynomial_26 : decode b_Ring_applyPolynomial 26 = .ok (.iadd, 1) := by decide +kernel
theorem d_Ring_applyPolynomial_27 : decode b_Ring_applyPolynomial 27 = .ok (.iload_n 3, 1) := by decide +kernel
theorem d_Ring_applyPolynomial_28 : decode b_Ring_applyPolynomial 28 = .ok (.aload_n 0, 1) := by decide +kernel
theorem d_Ring_applyPolynomial_29 : decode b_Ring_applyPolynomial 29 = .ok (.iconst 0, 1) := by decide +kernel
theorem d_Ring_applyPolynomial_30 : decode b_Ring_applyPolynomial 30 = .ok (.aload_n 1, 1) := by decide +kernel
theorem d_Ring_applyPolynomial_31 : decode b_Ring_applyPolynomial 31 = .ok (.bipush 16, 2) := by decide +kernel
theorem d_Ring_applyPolynomial_33 : decode b_Ring_applyPolynomial 33 = .ok (.invokestatic 32, 3) := by decide +kernel
theorem d_Ring_applyPolynomial_36 : decode b_Ring_applyPolynomial 36 = .ok (.invokestatic 11, 3) := by decide +kernel
theorem d_Ring_applyPolynomial_39 : decode b_Ring_applyPolynomial 39 = .ok (.iastore, 1) := by decide +kernel
theorem d_Ring_applyPolynomial_40 : decode b_Ring_applyPolynomial 40 = .ok (.iinc 3 1, 3) := by decide +kernel
theorem d_Ring_applyPolynomial_43 : decode b_Ring_applyPolynomial 43 = .ok (.goto (-41), 3) := by decide +kernel
theorem d_Ring_applyPolynomial_46 : decode b_Ring_applyPolynomial 46 = .ok (.return_, 1) := by decide +kernel
theorem d_Ring_size_0 : decode b_Ring_size 0 = .ok (.iconst 0, 1) := by decide +kernel
theorem d_Ring_size_1 : decode b_Ring_size 1 = .ok (.istore_n 1, 1) := by decide +kernel
theorem d_Ring_size_2 : decode b_Ring_size 2 = .ok (.iconst 0, 1) := by decide +kernel
theorem d_Ring_size_3 : decode b_Ring_size 3 = .ok (.istore_n 2, 1) := by decide +kernel
theorem d_Ring_size_4 : decode b_Ring_size 4 = .ok (.iload_n 2, 1) := by decide +kernel
theorem d_Ring_size_5 : decode b_Ring_size 5 = .ok (.bipush 32, 2) := by decide +kernel
theorem d_Ring_size_7 : decode b_Ring_size 7 = .ok (.if_icmp .ge 24, 3) := by decide +kernel
theorem d_Ring_size_10 : decode b_Ring_size 10 = .ok (.iload_n 1, 1) := by decide +kernel
theorem d_Ring_size_11 : decode b_Ring_size 11 = .ok (.aload_n 0, 1) := by decide +kernel
theorem d_Ring_size_12 : decode b_Ring_size 12 = .ok (.iload_n 2, 1) := by decide +kernel
theorem d_Ring_size_13 : decode b_Ring_size 13 = .ok (.iaload, 1) := by decide +kernel
theorem d_Ring_size_14 : decode b_Ring_size 14 = .ok (.i2l, 1) := by decide +kernel
theorem d_Ring_size_15 : decode b_Ring_size 15 = .ok (.invokestatic 19, 3) := by decide +kernel
theorem d_Ring_size_18 : decode b_Ring_size 18 = .ok (.invokestatic 22, 3) := by decide +kernel
theorem d_Ring_size_21 : decode b_Ring_size 21 = .ok (.invokestatic 28, 3) := by decide +kernel
theorem d_Ring_size_24 : decode b_Ring_size 24 = .ok (.istore_n 1, 1) := by decide +kernel
theorem d_Ring_size_25 : decode b_Ring_size 25 = .ok (.iinc 2 1, 3) := by decide +kernel
theorem d_Ring_size_28 : decode b_Ring_size 28 = .ok (.goto (-24), 3) := by decide +kernel
theorem d_Ring_size_31 : decode b_Ring_size 31 = .ok (.iload_n 1, 1) := by decide +kernel
theorem d_Ring_size_32 : decode b_Ring_size 32 = .ok (.ireturn, 1) := by decide +kernel
theorem d_SVS_isIndex_0 : decode b_SVS_isIndex 0 = .ok (.iload_n 0, 1) := by decide +kernel
theorem d_SVS_isIndex_1 : decode b_SVS_isIndex 1 = .ok (.ifCond .lt 12, 3) := by decide +kernel
theorem d_SVS_isIndex_4 : decode b_SVS_isIndex 4 = .ok (.iload_n 0, 1) := by decide +kernel
theorem d_SVS_isIndex_5 : decode b_SVS_isIndex 5 = .ok (.iload_n 1, 1) := by decide +kernel
theorem d_SVS_isIndex_6 : decode b_SVS_isIndex 6 = .ok (.if_icmp .ge 7, 3) := by decide +kernel
theorem d_SVS_isIndex_9 : decode b_SVS_isIndex 9 = .ok (.iconst 1, 1) := by decide +kernel
theorem d_SVS_isIndex_10 : decode b_SVS_isIndex 10 = .ok (.goto 4, 3) := by decide +kernel
theorem d_SVS_isIndex_13 : decode b_SVS_isIndex 13 = .ok (.iconst 0, 1) := by decide +kernel
theorem d_SVS_isIndex_14 : decode b_SVS_isIndex 14 = .ok (.ireturn, 1) := by decide +kernel
theorem d_SVS_isByte_0 : decode b_SVS_isByte 0 = .ok (.iload_n 0, 1) := by decide +kernel
theorem d_SVS_isByte_1 : decode b_SVS_isByte 1 = .ok (.ifCond .lt 14, 3) := by decide +kernel
theorem d_SVS_isByte_4 : decode b_SVS_isByte 4 = .ok (.iload_n 0, 1) := by decide +kernel
theorem d_SVS_isByte_5 : decode b_SVS_isByte 5 = .ok (.sipush 255, 3) := by decide +kernel
theorem d_SVS_isByte_8 : decode b_SVS_isByte 8 = .ok (.if_icmp .gt 7, 3) := by decide +kernel
theorem d_SVS_isByte_11 : decode b_SVS_isByte 11 = .ok (.iconst 1, 1) := by decide +kernel
theorem d_SVS_isByte_12 : decode b_SVS_isByte 12 = .ok (.goto 4, 3) := by decide +kernel
theorem d_SVS_isByte_15 : decode b_SVS_isByte 15 = .ok (.iconst 0, 1) := by decide +kernel
theorem d_SVS_isByte_16 : decode b_SVS_isByte 16 = .ok (.ireturn, 1) := by decide +kernel
theorem d_SVS_putByte_0 : decode b_SVS_putByte 0 = .ok (.iload_n 1, 1) := by decide +kernel
theorem d_SVS_putByte_1 : decode b_SVS_putByte 1 = .ok (.aload_n 0, 1) := by decide +kernel
theorem d_SVS_putByte_2 : decode b_SVS_putByte 2 = .ok (.arraylength, 1) := by decide +kernel
theorem d_SVS_putByte_3 : decode b_SVS_putByte 3 = .ok (.invokestatic 95, 3) := by decide +kernel
theorem d_SVS_putByte_6 : decode b_SVS_putByte 6 = .ok (.ifCond .eq 10, 3) := by decide +kernel
theorem d_SVS_putByte_9 : decode b_SVS_putByte 9 = .ok (.iload_n 2, 1) := by decide +kernel
theorem d_SVS_putByte_10 : decode b_SVS_putByte 10 = .ok (.invokestatic 69, 3) := by decide +kernel
theorem d_SVS_putByte_13 : decode b_SVS_putByte 13 = .ok (.ifCond .ne 5, 3) := by decide +kernel
theorem d_SVS_putByte_16 : decode b_SVS_putByte 16 = .ok (.iconst 0, 1) := by decide +kernel
theorem d_SVS_putByte_17 : decode b_SVS_putByte 17 = .ok (.ireturn, 1) := by decide +kernel
theorem d_SVS_putByte_18 : decode b_SVS_putByte 18 = .ok (.aload_n 0, 1) := by decide +kernel
theorem d_SVS_putByte_19 : decode b_SVS_putByte 19 = .ok (.iload_n 1, 1) := by decide +kernel
theorem d_SVS_putByte_20 : decode b_SVS_putByte 20 = .ok (.iload_n 2, 1) := by decide +kernel
theorem d_SVS_putByte_21 : decode b_SVS_putByte 21 = .ok (.iastore, 1) := by decide +kernel
theorem d_SVS_putByte_22 : decode b_SVS_putByte 22 = .ok (.iconst 1, 1) := by decide +kernel
theorem d_SVS_putByte_23 : decode b_SVS_putByte 23 = .ok (.ireturn, 1) := by decide +kernel
theorem d_SVS_clearRest_0 : decode b_SVS_clearRest 0 = .ok (.iload_n 2, 1) := by decide +kernel
theorem d_SVS_clearRest_1 : decode b_SVS_clearRest 1 = .ok (.istore 4, 2) := by decide +kernel
theorem d_SVS_clearRest_3 : decode b_SVS_clearRest 3 = .ok (.iload 4, 2) := by decide +kernel
theorem d_SVS_clearRest_5 : decode b_SVS_clearRest 5 = .ok (.iload_n 3, 1) := by decide +kernel
theorem d_SVS_clearRest_6 : decode b_SVS_clearRest 6 = .ok (.if_icmp .ge 16, 3) := by decide +kernel
theorem d_SVS_clearRest_9 : decode b_SVS_clearRest 9 = .ok (.aload_n 0, 1) := by decide +kernel
theorem d_SVS_clearRest_10 : decode b_SVS_clearRest 10 = .ok (.iload_n 1, 1) := by decide +kernel
theorem d_SVS_clearRest_11 : decode b_SVS_clearRest 11 = .ok (.iload 4, 2) := by decide +kernel
theorem d_SVS_clearRest_13 : decode b_SVS_clearRest 13 = .ok (.iadd, 1) := by decide +kernel
theorem d_SVS_clearRest_14 : decode b_SVS_clearRest 14 = .ok (.iconst 0, 1) := by decide +kernel
theorem d_SVS_clearRest_15 : decode b_SVS_clearRest 15 = .ok (.iastore, 1) := by decide +kernel
theorem d_SVS_clearRest_16 : decode b_SVS_clearRest 16 = .ok (.iinc 4 1, 3) := by decide +kernel
theorem d_SVS_clearRest_19 : decode b_SVS_clearRest 19 = .ok (.goto (-16), 3) := by decide +kernel
theorem d_SVS_clearRest_22 : decode b_SVS_clearRest 22 = .ok (.return_, 1) := by decide +kernel
theorem d_Message_add_0 : decode b_Message_add 0 = .ok (.aload_n 0, 1) := by decide +kernel
theorem d_Message_add_1 : decode b_Message_add 1 = .ok (.getfield 15, 3) := by decide +kernel
theorem d_Message_add_4 : decode b_Message_add 4 = .ok (.bipush 24, 2) := by decide +kernel
theorem d_Message_add_6 : decode b_Message_add 6 = .ok (.if_icmp .lt 5, 3) := by decide +kernel
theorem d_Message_add_9 : decode b_Message_add 9 = .ok (.iconst 0, 1) := by decide +kernel
theorem d_Message_add_10 : decode b_Message_add 10 = .ok (.ireturn, 1) := by decide +kernel
theorem d_Message_add_11 : decode b_Message_add 11 = .ok (.aload_n 0, 1) := by decide +kernel
theorem d_Message_add_12 : decode b_Message_add 12 = .ok (.getfield 9, 3) := by decide +kernel
theorem d_Message_add_15 : decode b_Message_add 15 = .ok (.aload_n 0, 1) := by decide +kernel
theorem d_Message_add_16 : decode b_Message_add 16 = .ok (.getfield 15, 3) := by decide +kernel
theorem d_Message_add_19 : decode b_Message_add 19 = .ok (.iload_n 1, 1) := by decide +kernel
theorem d_Message_add_20 : decode b_Message_add 20 = .ok (.iastore, 1) := by decide +kernel
theorem d_Message_add_21 : decode b_Message_add 21 = .ok (.aload_n 0, 1) := by decide +kernel
theorem d_Message_add_22 : decode b_Message_add 22 = .ok (.dup, 1) := by decide +kernel
theorem d_Message_add_23 : decode b_Message_add 23 = .ok (.getfield 15, 3) := by decide +kernel
theorem d_Message_add_26 : decode b_Message_add 26 = .ok (.iconst 1, 1) := by decide +kernel
theorem d_Message_add_27 : decode b_Message_add 27 = .ok (.iadd, 1) := by decide +kernel
theorem d_Message_add_28 : decode b_Message_add 28 = .ok (.putfield 15, 3) := by decide +kernel
theorem d_Message_add_31 : decode b_Message_add 31 = .ok (.iconst 1, 1) := by decide +kernel
theorem d_Message_add_32 : decode b_Message_add 32 = .ok (.ireturn, 1) := by decide +kernel
theorem d_Message_clear_0 : decode b_Message_clear 0 = .ok (.aload_n 0, 1) := by decide +kernel
theorem d_Message_clear_1 : decode b_Message_clear 1 = .ok (.iconst 0, 1) := by decide +kernel
theorem d_Message_clear_2 : decode b_Message_clear 2 = .ok (.putfield 15, 3) := by decide +kernel
theorem d_Message_clear_5 : decode b_Message_clear 5 = .ok (.return_, 1) := by decide +kernel
theorem d_Message_feed_0 : decode b_Message_feed 0 = .ok (.aload_n 1, 1) := by decide +kernel
theorem d_Message_feed_1 : decode b_Message_feed 1 = .ok (.aload_n 0, 1) := by decide +kernel
theorem d_Message_feed_2 : decode b_Message_feed 2 = .ok (.getfield 9, 3) := by decide +kernel
theorem d_Message_feed_5 : decode b_Message_feed 5 = .ok (.aload_n 0, 1) := by decide +kernel
theorem d_Message_feed_6 : decode b_Message_feed 6 = .ok (.getfield 15, 3) := by decide +kernel
theorem d_Message_feed_9 : decode b_Message_feed 9 = .ok (.invokevirtual 19, 3) := by decide +kernel
theorem d_Message_feed_12 : decode b_Message_feed 12 = .ok (.return_, 1) := by decide +kernel
