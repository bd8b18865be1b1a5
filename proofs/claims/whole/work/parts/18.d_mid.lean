theorem d_Samples_fillMatrix_0 : decode b_Samples_fillMatrix 0 = .ok (.iconst 0, 1) := by decide +kernel
theorem d_Samples_fillMatrix_1 : decode b_Samples_fillMatrix 1 = .ok (.istore_n 3, 1) := by decide +kernel
theorem d_Samples_fillMatrix_2 : decode b_Samples_fillMatrix 2 = .ok (.iload_n 3, 1) := by decide +kernel
theorem d_Samples_fillMatrix_3 : decode b_Samples_fillMatrix 3 = .ok (.iconst 4, 1) := by decide +kernel
theorem d_Samples_fillMatrix_4 : decode b_Samples_fillMatrix 4 = .ok (.if_icmp .ge 25, 3) := by decide +kernel
theorem d_Samples_fillMatrix_7 : decode b_Samples_fillMatrix 7 = .ok (.aload_n 0, 1) := by decide +kernel
theorem d_Samples_fillMatrix_8 : decode b_Samples_fillMatrix 8 = .ok (.aload_n 1, 1) := by decide +kernel
theorem d_Samples_fillMatrix_9 : decode b_Samples_fillMatrix 9 = .ok (.bipush 8, 2) := by decide +kernel
theorem d_Samples_fillMatrix_11 : decode b_Samples_fillMatrix 11 = .ok (.iload_n 3, 1) := by decide +kernel
theorem d_Samples_fillMatrix_12 : decode b_Samples_fillMatrix 12 = .ok (.invokestatic 9, 3) := by decide +kernel
theorem d_Samples_fillMatrix_15 : decode b_Samples_fillMatrix 15 = .ok (.aload_n 2, 1) := by decide +kernel
theorem d_Samples_fillMatrix_16 : decode b_Samples_fillMatrix 16 = .ok (.bipush 16, 2) := by decide +kernel
theorem d_Samples_fillMatrix_18 : decode b_Samples_fillMatrix 18 = .ok (.iload_n 3, 1) := by decide +kernel
theorem d_Samples_fillMatrix_19 : decode b_Samples_fillMatrix 19 = .ok (.imul, 1) := by decide +kernel
theorem d_Samples_fillMatrix_20 : decode b_Samples_fillMatrix 20 = .ok (.invokestatic 15, 3) := by decide +kernel
theorem d_Samples_fillMatrix_23 : decode b_Samples_fillMatrix 23 = .ok (.iinc 3 1, 3) := by decide +kernel
theorem d_Samples_fillMatrix_26 : decode b_Samples_fillMatrix 26 = .ok (.goto (-24), 3) := by decide +kernel
theorem d_Samples_fillMatrix_29 : decode b_Samples_fillMatrix 29 = .ok (.return_, 1) := by decide +kernel
theorem d_Samples_fillSmallVector_0 : decode b_Samples_fillSmallVector 0 = .ok (.aload_n 0, 1) := by decide +kernel
theorem d_Samples_fillSmallVector_1 : decode b_Samples_fillSmallVector 1 = .ok (.aload_n 1, 1) := by decide +kernel
theorem d_Samples_fillSmallVector_2 : decode b_Samples_fillSmallVector 2 = .ok (.bipush 8, 2) := by decide +kernel
theorem d_Samples_fillSmallVector_4 : decode b_Samples_fillSmallVector 4 = .ok (.iload_n 2, 1) := by decide +kernel
theorem d_Samples_fillSmallVector_5 : decode b_Samples_fillSmallVector 5 = .ok (.invokestatic 9, 3) := by decide +kernel
theorem d_Samples_fillSmallVector_8 : decode b_Samples_fillSmallVector 8 = .ok (.aload_n 3, 1) := by decide +kernel
theorem d_Samples_fillSmallVector_9 : decode b_Samples_fillSmallVector 9 = .ok (.iconst 0, 1) := by decide +kernel
theorem d_Samples_fillSmallVector_10 : decode b_Samples_fillSmallVector 10 = .ok (.invokestatic 19, 3) := by decide +kernel
theorem d_Samples_fillSmallVector_13 : decode b_Samples_fillSmallVector 13 = .ok (.aload_n 0, 1) := by decide +kernel
theorem d_Samples_fillSmallVector_14 : decode b_Samples_fillSmallVector 14 = .ok (.aload_n 1, 1) := by decide +kernel
theorem d_Samples_fillSmallVector_15 : decode b_Samples_fillSmallVector 15 = .ok (.bipush 8, 2) := by decide +kernel
theorem d_Samples_fillSmallVector_17 : decode b_Samples_fillSmallVector 17 = .ok (.iload_n 2, 1) := by decide +kernel
theorem d_Samples_fillSmallVector_18 : decode b_Samples_fillSmallVector 18 = .ok (.iconst 1, 1) := by decide +kernel
theorem d_Samples_fillSmallVector_19 : decode b_Samples_fillSmallVector 19 = .ok (.iadd, 1) := by decide +kernel
theorem d_Samples_fillSmallVector_20 : decode b_Samples_fillSmallVector 20 = .ok (.invokestatic 9, 3) := by decide +kernel
theorem d_Samples_fillSmallVector_23 : decode b_Samples_fillSmallVector 23 = .ok (.aload_n 3, 1) := by decide +kernel
theorem d_Samples_fillSmallVector_24 : decode b_Samples_fillSmallVector 24 = .ok (.bipush 16, 2) := by decide +kernel
theorem d_Samples_fillSmallVector_26 : decode b_Samples_fillSmallVector 26 = .ok (.invokestatic 19, 3) := by decide +kernel
theorem d_Samples_fillSmallVector_29 : decode b_Samples_fillSmallVector 29 = .ok (.return_, 1) := by decide +kernel
theorem d_Samples_fillWideVector_0 : decode b_Samples_fillWideVector 0 = .ok (.aload_n 0, 1) := by decide +kernel
theorem d_Samples_fillWideVector_1 : decode b_Samples_fillWideVector 1 = .ok (.aload_n 1, 1) := by decide +kernel
theorem d_Samples_fillWideVector_2 : decode b_Samples_fillWideVector 2 = .ok (.bipush 16, 2) := by decide +kernel
theorem d_Samples_fillWideVector_4 : decode b_Samples_fillWideVector 4 = .ok (.iload_n 2, 1) := by decide +kernel
theorem d_Samples_fillWideVector_5 : decode b_Samples_fillWideVector 5 = .ok (.invokestatic 9, 3) := by decide +kernel
theorem d_Samples_fillWideVector_8 : decode b_Samples_fillWideVector 8 = .ok (.aload_n 3, 1) := by decide +kernel
theorem d_Samples_fillWideVector_9 : decode b_Samples_fillWideVector 9 = .ok (.iconst 0, 1) := by decide +kernel
theorem d_Samples_fillWideVector_10 : decode b_Samples_fillWideVector 10 = .ok (.invokestatic 22, 3) := by decide +kernel
theorem d_Samples_fillWideVector_13 : decode b_Samples_fillWideVector 13 = .ok (.aload_n 0, 1) := by decide +kernel
theorem d_Samples_fillWideVector_14 : decode b_Samples_fillWideVector 14 = .ok (.aload_n 1, 1) := by decide +kernel
theorem d_Samples_fillWideVector_15 : decode b_Samples_fillWideVector 15 = .ok (.bipush 16, 2) := by decide +kernel
theorem d_Samples_fillWideVector_17 : decode b_Samples_fillWideVector 17 = .ok (.iload_n 2, 1) := by decide +kernel
theorem d_Samples_fillWideVector_18 : decode b_Samples_fillWideVector 18 = .ok (.iconst 1, 1) := by decide +kernel
theorem d_Samples_fillWideVector_19 : decode b_Samples_fillWideVector 19 = .ok (.iadd, 1) := by decide +kernel
theorem d_Samples_fillWideVector_20 : decode b_Samples_fillWideVector 20 = .ok (.invokestatic 9, 3) := by decide +kernel
theorem d_Samples_fillWideVector_23 : decode b_Samples_fillWideVector 23 = .ok (.aload_n 3, 1) := by decide +kernel
theorem d_Samples_fillWideVector_24 : decode b_Samples_fillWideVector 24 = .ok (.bipush 16, 2) := by decide +kernel
theorem d_Samples_fillWideVector_26 : decode b_Samples_fillWideVector 26 = .ok (.invokestatic 22, 3) := by decide +kernel
theorem d_Samples_fillWideVector_29 : decode b_Samples_fillWideVector 29 = .ok (.return_, 1) := by decide +kernel
theorem d_Samples_fillBall_0 : decode b_Samples_fillBall 0 = .ok (.aload_n 0, 1) := by decide +kernel
theorem d_Samples_fillBall_1 : decode b_Samples_fillBall 1 = .ok (.invokevirtual 25, 3) := by decide +kernel
theorem d_Samples_fillBall_4 : decode b_Samples_fillBall 4 = .ok (.aload_n 0, 1) := by decide +kernel
theorem d_Samples_fillBall_5 : decode b_Samples_fillBall 5 = .ok (.aload_n 1, 1) := by decide +kernel
theorem d_Samples_fillBall_6 : decode b_Samples_fillBall 6 = .ok (.bipush 8, 2) := by decide +kernel
theorem d_Samples_fillBall_8 : decode b_Samples_fillBall 8 = .ok (.invokevirtual 30, 3) := by decide +kernel
theorem d_Samples_fillBall_11 : decode b_Samples_fillBall 11 = .ok (.aload_n 0, 1) := by decide +kernel
theorem d_Samples_fillBall_12 : decode b_Samples_fillBall 12 = .ok (.invokevirtual 34, 3) := by decide +kernel
theorem d_Samples_fillBall_15 : decode b_Samples_fillBall 15 = .ok (.aload_n 2, 1) := by decide +kernel
theorem d_Samples_fillBall_16 : decode b_Samples_fillBall 16 = .ok (.invokestatic 38, 3) := by decide +kernel
theorem d_Samples_fillBall_19 : decode b_Samples_fillBall 19 = .ok (.return_, 1) := by decide +kernel
theorem d_SecretKey_fillTrace_0 : decode b_SecretKey_fillTrace 0 = .ok (.aload_n 0, 1) := by decide +kernel
theorem d_SecretKey_fillTrace_1 : decode b_SecretKey_fillTrace 1 = .ok (.invokevirtual 39, 3) := by decide +kernel
theorem d_SecretKey_fillTrace_4 : decode b_SecretKey_fillTrace 4 = .ok (.aload_n 0, 1) := by decide +kernel
theorem d_SecretKey_fillTrace_5 : decode b_SecretKey_fillTrace 5 = .ok (.aload_n 1, 1) := by decide +kernel
theorem d_SecretKey_fillTrace_6 : decode b_SecretKey_fillTrace 6 = .ok (.invokevirtual 96, 3) := by decide +kernel
theorem d_SecretKey_fillTrace_9 : decode b_SecretKey_fillTrace 9 = .ok (.aload_n 0, 1) := by decide +kernel
theorem d_SecretKey_fillTrace_10 : decode b_SecretKey_fillTrace 10 = .ok (.invokevirtual 48, 3) := by decide +kernel
theorem d_SecretKey_fillTrace_13 : decode b_SecretKey_fillTrace 13 = .ok (.iconst 0, 1) := by decide +kernel
theorem d_SecretKey_fillTrace_14 : decode b_SecretKey_fillTrace 14 = .ok (.aload_n 2, 1) := by decide +kernel
theorem d_SecretKey_fillTrace_15 : decode b_SecretKey_fillTrace 15 = .ok (.iconst 0, 1) := by decide +kernel
theorem d_SecretKey_fillTrace_16 : decode b_SecretKey_fillTrace 16 = .ok (.bipush 8, 2) := by decide +kernel
theorem d_SecretKey_fillTrace_18 : decode b_SecretKey_fillTrace 18 = .ok (.invokestatic 52, 3) := by decide +kernel
theorem d_SecretKey_fillTrace_21 : decode b_SecretKey_fillTrace 21 = .ok (.return_, 1) := by decide +kernel
theorem d_Transcript_open_0 : decode b_Transcript_open 0 = .ok (.aload_n 1, 1) := by decide +kernel
theorem d_Transcript_open_1 : decode b_Transcript_open 1 = .ok (.invokevirtual 21, 3) := by decide +kernel
theorem d_Transcript_open_4 : decode b_Transcript_open 4 = .ok (.aload_n 1, 1) := by decide +kernel
theorem d_Transcript_open_5 : decode b_Transcript_open 5 = .ok (.aload_n 2, 1) := by decide +kernel
theorem d_Transcript_open_6 : decode b_Transcript_open 6 = .ok (.invokevirtual 26, 3) := by decide +kernel
theorem d_Transcript_open_9 : decode b_Transcript_open 9 = .ok (.aload_n 3, 1) := by decide +kernel
theorem d_Transcript_open_10 : decode b_Transcript_open 10 = .ok (.aload_n 1, 1) := by decide +kernel
theorem d_Transcript_open_11 : decode b_Transcript_open 11 = .ok (.invokevirtual 30, 3) := by decide +kernel
theorem d_Transcript_open_14 : decode b_Transcript_open 14 = .ok (.aload_n 1, 1) := by decide +kernel
theorem d_Transcript_open_15 : decode b_Transcript_open 15 = .ok (.invokevirtual 36, 3) := by decide +kernel
theorem d_Transcript_open_18 : decode b_Transcript_open 18 = .ok (.iconst 0, 1) := by decide +kernel
theorem d_Transcript_open_19 : decode b_Transcript_open 19 = .ok (.aload_n 0, 1) := by decide +kernel
theorem d_Transcript_open_20 : decode b_Transcript_open 20 = .ok (.getfield 9, 3) := by decide +kernel
theorem d_Transcript_open_23 : decode b_Transcript_open 23 = .ok (.iconst 0, 1) := by decide +kernel
theorem d_Transcript_open_24 : decode b_Transcript_open 24 = .ok (.bipush 16, 2) := by decide +kernel
theorem d_Transcript_open_26 : decode b_Transcript_open 26 = .ok (.invokestatic 40, 3) := by decide +kernel
theorem d_Transcript_open_29 : decode b_Transcript_open 29 = .ok (.return_, 1) := by decide +kernel
theorem d_Transcript_setHigh_0 : decode b_Transcript_setHigh 0 = .ok (.aload_n 0, 1) := by decide +kernel
theorem d_Transcript_setHigh_1 : decode b_Transcript_setHigh 1 = .ok (.getfield 15, 3) := by decide +kernel
theorem d_Transcript_setHigh_4 : decode b_Transcript_setHigh 4 = .ok (.iconst 0, 1) := by decide +kernel
theorem d_Transcript_setHigh_5 : decode b_Transcript_setHigh 5 = .ok (.iload_n 1, 1) := by decide +kernel
theorem d_Transcript_setHigh_6 : decode b_Transcript_setHigh 6 = .ok (.bipush 12, 2) := by decide +kernel
theorem d_Transcript_setHigh_8 : decode b_Transcript_setHigh 8 = .ok (.iload_n 2, 1) := by decide +kernel
theorem d_Transcript_setHigh_9 : decode b_Transcript_setHigh 9 = .ok (.invokestatic 46, 3) := by decide +kernel
theorem d_Transcript_setHigh_12 : decode b_Transcript_setHigh 12 = .ok (.return_, 1) := by decide +kernel
theorem d_Transcript_close_0 : decode b_Transcript_close 0 = .ok (.aload_n 1, 1) := by decide +kernel
theorem d_Transcript_close_1 : decode b_Transcript_close 1 = .ok (.invokevirtual 21, 3) := by decide +kernel
theorem d_Transcript_close_4 : decode b_Transcript_close 4 = .ok (.aload_n 1, 1) := by decide +kernel
theorem d_Transcript_close_5 : decode b_Transcript_close 5 = .ok (.aload_n 0, 1) := by decide +kernel
theorem d_Transcript_close_6 : decode b_Transcript_close 6 = .ok (.getfield 9, 3) := by decide +kernel
theorem d_Transcript_close_9 : decode b_Transcript_close 9 = .ok (.invokevirtual 26, 3) := by decide +kernel
theorem d_Transcript_close_12 : decode b_Transcript_close 12 = .ok (.aload_n 1, 1) := by decide +kernel
theorem d_Transcript_close_13 : decode b_Transcript_close 13 = .ok (.aload_n 0, 1) := by decide +kernel
theorem d_Transcript_close_14 : decode b_Transcript_close 14 = .ok (.getfield 15, 3) := by decide +kernel
theorem d_Transcript_close_17 : decode b_Transcript_close 17 = .ok (.invokevirtual 26, 3) := by decide +kernel
theorem d_Transcript_close_20 : decode b_Transcript_close 20 = .ok (.aload_n 1, 1) := by decide +kernel
theorem d_Transcript_close_21 : decode b_Transcript_close 21 = .ok (.invokevirtual 36, 3) := by decide +kernel
theorem d_Transcript_close_24 : decode b_Transcript_close 24 = .ok (.iconst 0, 1) := by decide +kernel
theorem d_Transcript_close_25 : decode b_Transcript_close 25 = .ok (.aload_n 0, 1) := by decide +kernel
theorem d_Transcript_close_26 : decode b_Transcript_close 26 = .ok (.getfield 18, 3) := by decide +kernel
theorem d_Transcript_close_29 : decode b_Transcript_close 29 = .ok (.iconst 0, 1) := by decide +kernel
theorem d_Transcript_close_30 : decode b_Transcript_close 30 = .ok (.bipush 8, 2) := by decide +kernel
theorem d_Transcript_close_32 : decode b_Transcript_close 32 = .ok (.invokestatic 40, 3) := by decide +kernel
theorem d_Transcript_close_35 : decode b_Transcript_close 35 = .ok (.return_, 1) := by decide +kernel
theorem d_Transcript_hasSealOf_0 : decode b_Transcript_hasSealOf 0 = .ok (.iconst 0, 1) := by decide +kernel
theorem d_Transcript_hasSealOf_1 : decode b_Transcript_hasSealOf 1 = .ok (.istore_n 2, 1) := by decide +kernel
theorem d_Transcript_hasSealOf_2 : decode b_Transcript_hasSealOf 2 = .ok (.iload_n 2, 1) := by decide +kernel
theorem d_Transcript_hasSealOf_3 : decode b_Transcript_hasSealOf 3 = .ok (.bipush 8, 2) := by decide +kernel
theorem d_Transcript_hasSealOf_5 : decode b_Transcript_hasSealOf 5 = .ok (.if_icmp .ge 23, 3) := by decide +kernel
theorem d_Transcript_hasSealOf_8 : decode b_Transcript_hasSealOf 8 = .ok (.aload_n 0, 1) := by decide +kernel
theorem d_Transcript_hasSealOf_9 : decode b_Transcript_hasSealOf 9 = .ok (.getfield 18, 3) := by decide +kernel
theorem d_Transcript_hasSealOf_12 : decode b_Transcript_hasSealOf 12 = .ok (.iload_n 2, 1) := by decide +kernel
theorem d_Transcript_hasSealOf_13 : decode b_Transcript_hasSealOf 13 = .ok (.iaload, 1) := by decide +kernel
theorem d_Transcript_hasSealOf_14 : decode b_Transcript_hasSealOf 14 = .ok (.aload_n 1, 1) := by decide +kernel
theorem d_Transcript_hasSealOf_15 : decode b_Transcript_hasSealOf 15 = .ok (.iload_n 2, 1) := by decide +kernel
theorem d_Transcript_hasSealOf_16 : decode b_Transcript_hasSealOf 16 = .ok (.iaload, 1) := by decide +kernel
theorem d_Transcript_hasSealOf_17 : decode b_Transcript_hasSealOf 17 = .ok (.if_icmp .eq 5, 3) := by decide +kernel
theorem d_Transcript_hasSealOf_20 : decode b_Transcript_hasSealOf 20 = .ok (.iconst 0, 1) := by decide +kernel
theorem d_Transcript_hasSealOf_21 : decode b_Transcript_hasSealOf 21 = .ok (.ireturn, 1) := by decide +kernel
theorem d_Transcript_hasSealOf_22 : decode b_Transcript_hasSealOf 22 = .ok (.iinc 2 1, 3) := by decide +kernel
theorem d_Transcript_hasSealOf_25 : decode b_Transcript_hasSealOf 25 = .ok (.goto (-23), 3) := by decide +kernel
theorem d_Transcript_hasSealOf_28 : decode b_Transcript_hasSealOf 28 = .ok (.iconst 1, 1) := by decide +kernel
theorem d_Transcript_hasSealOf_29 : decode b_Transcript_hasSealOf 29 = .ok (.ireturn, 1) := by decide +kernel
theorem d_SecretKey_splitT_0 : decode b_SecretKey_splitT 0 = .ok (.aload_n 0, 1) := by decide +kernel
theorem d_SecretKey_splitT_1 : decode b_SecretKey_splitT 1 = .ok (.getfield 24, 3) := by decide +kernel
theorem d_SecretKey_splitT_4 : decode b_SecretKey_splitT 4 = .ok (.aload_n 0, 1) := by decide +kernel
theorem d_SecretKey_splitT_5 : decode b_SecretKey_splitT 5 = .ok (.getfield 27, 3) := by decide +kernel
theorem d_SecretKey_splitT_8 : decode b_SecretKey_splitT 8 = .ok (.aload_n 0, 1) := by decide +kernel
theorem d_SecretKey_splitT_9 : decode b_SecretKey_splitT 9 = .ok (.getfield 36, 3) := by decide +kernel
theorem d_SecretKey_splitT_12 : decode b_SecretKey_splitT 12 = .ok (.invokestatic 74, 3) := by decide +kernel
theorem d_SecretKey_splitT_15 : decode b_SecretKey_splitT 15 = .ok (.iconst 0, 1) := by decide +kernel
theorem d_SecretKey_splitT_16 : decode b_SecretKey_splitT 16 = .ok (.istore_n 1, 1) := by decide +kernel
theorem d_SecretKey_splitT_17 : decode b_SecretKey_splitT 17 = .ok (.iload_n 1, 1) := by decide +kernel
theorem d_SecretKey_splitT_18 : decode b_SecretKey_splitT 18 = .ok (.bipush 32, 2) := by decide +kernel
theorem d_SecretKey_splitT_20 : decode b_SecretKey_splitT 20 = .ok (.if_icmp .ge 61, 3) := by decide +kernel
theorem d_SecretKey_splitT_23 : decode b_SecretKey_splitT 23 = .ok (.aload_n 0, 1) := by decide +kernel
theorem d_SecretKey_splitT_24 : decode b_SecretKey_splitT 24 = .ok (.getfield 36, 3) := by decide +kernel
theorem d_SecretKey_splitT_27 : decode b_SecretKey_splitT 27 = .ok (.iload_n 1, 1) := by decide +kernel
theorem d_SecretKey_splitT_28 : decode b_SecretKey_splitT 28 = .ok (.iaload, 1) := by decide +kernel
theorem d_SecretKey_splitT_29 : decode b_SecretKey_splitT 29 = .ok (.aload_n 0, 1) := by decide +kernel
theorem d_SecretKey_splitT_30 : decode b_SecretKey_splitT 30 = .ok (.getfield 30, 3) := by decide +kernel
theorem d_SecretKey_splitT_33 : decode b_SecretKey_splitT 33 = .ok (.iload_n 1, 1) := by decide +kernel
theorem d_SecretKey_splitT_34 : decode b_SecretKey_splitT 34 = .ok (.iaload, 1) := by decide +kernel
theorem d_SecretKey_splitT_35 : decode b_SecretKey_splitT 35 = .ok (.iadd, 1) := by decide +kernel
theorem d_SecretKey_splitT_36 : decode b_SecretKey_splitT 36 = .ok (.i2l, 1) := by decide +kernel
theorem d_SecretKey_splitT_37 : decode b_SecretKey_splitT 37 = .ok (.invokestatic 80, 3) := by decide +kernel
theorem d_SecretKey_splitT_40 : decode b_SecretKey_splitT 40 = .ok (.istore_n 2, 1) := by decide +kernel
theorem d_SecretKey_splitT_41 : decode b_SecretKey_splitT 41 = .ok (.aload_n 0, 1) := by decide +kernel
theorem d_SecretKey_splitT_42 : decode b_SecretKey_splitT 42 = .ok (.getfield 33, 3) := by decide +kernel
theorem d_SecretKey_splitT_45 : decode b_SecretKey_splitT 45 = .ok (.iload_n 1, 1) := by decide +kernel
theorem d_SecretKey_splitT_46 : decode b_SecretKey_splitT 46 = .ok (.iload_n 2, 1) := by decide +kernel
theorem d_SecretKey_splitT_47 : decode b_SecretKey_splitT 47 = .ok (.invokestatic 84, 3) := by decide +kernel
theorem d_SecretKey_splitT_50 : decode b_SecretKey_splitT 50 = .ok (.iastore, 1) := by decide +kernel
theorem d_SecretKey_splitT_51 : decode b_SecretKey_splitT 51 = .ok (.aload_n 0, 1) := by decide +kernel
theorem d_SecretKey_splitT_52 : decode b_SecretKey_splitT 52 = .ok (.getfield 9, 3) := by decide +kernel
theorem d_SecretKey_splitT_55 : decode b_SecretKey_splitT 55 = .ok (.bipush 8, 2) := by decide +kernel
theorem d_SecretKey_splitT_57 : decode b_SecretKey_splitT 57 = .ok (.iload_n 1, 1) := by decide +kernel
theorem d_SecretKey_splitT_58 : decode b_SecretKey_splitT 58 = .ok (.bipush 15, 2) := by decide +kernel
theorem d_SecretKey_splitT_60 : decode b_SecretKey_splitT 60 = .ok (.iload_n 2, 1) := by decide +kernel
theorem d_SecretKey_splitT_61 : decode b_SecretKey_splitT 61 = .ok (.aload_n 0, 1) := by decide +kernel
theorem d_SecretKey_splitT_62 : decode b_SecretKey_splitT 62 = .ok (.getfield 33, 3) := by decide +kernel
theorem d_SecretKey_splitT_65 : decode b_SecretKey_splitT 65 = .ok (.iload_n 1, 1) := by decide +kernel
theorem d_SecretKey_splitT_66 : decode b_SecretKey_splitT 66 = .ok (.iaload, 1) := by decide +kernel
theorem d_SecretKey_splitT_67 : decode b_SecretKey_splitT 67 = .ok (.isub, 1) := by decide +kernel
theorem d_SecretKey_splitT_68 : decode b_SecretKey_splitT 68 = .ok (.sipush 256, 3) := by decide +kernel
theorem d_SecretKey_splitT_71 : decode b_SecretKey_splitT 71 = .ok (.idiv, 1) := by decide +kernel
theorem d_SecretKey_splitT_72 : decode b_SecretKey_splitT 72 = .ok (.invokestatic 90, 3) := by decide +kernel
theorem d_SecretKey_splitT_75 : decode b_SecretKey_splitT 75 = .ok (.iinc 1 1, 3) := by decide +kernel
theorem d_SecretKey_splitT_78 : decode b_SecretKey_splitT 78 = .ok (.goto (-61), 3) := by decide +kernel
theorem d_SecretKey_splitT_81 : decode b_SecretKey_splitT 81 = .ok (.return_, 1) := by decide +kernel
theorem d_SecretKey_derive_0 : decode b_SecretKey_derive 0 = .ok (.aload_n 1, 1) := by decide +kernel
theorem d_SecretKey_derive_1 : decode b_SecretKey_derive 1 = .ok (.invokevirtual 39, 3) := by decide +kernel
theorem d_SecretKey_derive_4 : decode b_SecretKey_derive 4 = .ok (.aload_n 1, 1) := by decide +kernel
theorem d_SecretKey_derive_5 : decode b_SecretKey_derive 5 = .ok (.lload_n 2, 1) := by decide +kernel
theorem d_SecretKey_derive_6 : decode b_SecretKey_derive 6 = .ok (.invokevirtual 44, 3) := by decide +kernel
theorem d_SecretKey_derive_9 : decode b_SecretKey_derive 9 = .ok (.aload_n 1, 1) := by decide +kernel
theorem d_SecretKey_derive_10 : decode b_SecretKey_derive 10 = .ok (.invokevirtual 48, 3) := by decide +kernel
theorem d_SecretKey_derive_13 : decode b_SecretKey_derive 13 = .ok (.astore 4, 2) := by decide +kernel
theorem d_SecretKey_derive_15 : decode b_SecretKey_derive 15 = .ok (.aload 4, 2) := by decide +kernel
theorem d_SecretKey_derive_17 : decode b_SecretKey_derive 17 = .ok (.iconst 0, 1) := by decide +kernel
theorem d_SecretKey_derive_18 : decode b_SecretKey_derive 18 = .ok (.aload_n 0, 1) := by decide +kernel
theorem d_SecretKey_derive_19 : decode b_SecretKey_derive 19 = .ok (.getfield 9, 3) := by decide +kernel
theorem d_SecretKey_derive_22 : decode b_SecretKey_derive 22 = .ok (.iconst 0, 1) := by decide +kernel
theorem d_SecretKey_derive_23 : decode b_SecretKey_derive 23 = .ok (.bipush 8, 2) := by decide +kernel
theorem d_SecretKey_derive_25 : decode b_SecretKey_derive 25 = .ok (.invokestatic 52, 3) := by decide +kernel
theorem d_SecretKey_derive_28 : decode b_SecretKey_derive 28 = .ok (.aload 4, 2) := by decide +kernel
theorem d_SecretKey_derive_30 : decode b_SecretKey_derive 30 = .ok (.bipush 8, 2) := by decide +kernel
theorem d_SecretKey_derive_32 : decode b_SecretKey_derive 32 = .ok (.aload_n 0, 1) := by decide +kernel
theorem d_SecretKey_derive_33 : decode b_SecretKey_derive 33 = .ok (.getfield 15, 3) := by decide +kernel
theorem d_SecretKey_derive_36 : decode b_SecretKey_derive 36 = .ok (.iconst 0, 1) := by decide +kernel
theorem d_SecretKey_derive_37 : decode b_SecretKey_derive 37 = .ok (.bipush 8, 2) := by decide +kernel
theorem d_SecretKey_derive_39 : decode b_SecretKey_derive 39 = .ok (.invokestatic 52, 3) := by decide +kernel
theorem d_SecretKey_derive_42 : decode b_SecretKey_derive 42 = .ok (.aload 4, 2) := by decide +kernel
theorem d_SecretKey_derive_44 : decode b_SecretKey_derive 44 = .ok (.bipush 16, 2) := by decide +kernel
theorem d_SecretKey_derive_46 : decode b_SecretKey_derive 46 = .ok (.aload_n 0, 1) := by decide +kernel
theorem d_SecretKey_derive_47 : decode b_SecretKey_derive 47 = .ok (.getfield 18, 3) := by decide +kernel
theorem d_SecretKey_derive_50 : decode b_SecretKey_derive 50 = .ok (.iconst 0, 1) := by decide +kernel
theorem d_SecretKey_derive_51 : decode b_SecretKey_derive 51 = .ok (.bipush 8, 2) := by decide +kernel
theorem d_SecretKey_derive_53 : decode b_SecretKey_derive 53 = .ok (.invokestatic 52, 3) := by decide +kernel
theorem d_SecretKey_derive_56 : decode b_SecretKey_derive 56 = .ok (.aload_n 1, 1) := by decide +kernel
theorem d_SecretKey_derive_57 : decode b_SecretKey_derive 57 = .ok (.aload_n 0, 1) := by decide +kernel
theorem d_SecretKey_derive_58 : decode b_SecretKey_derive 58 = .ok (.getfield 9, 3) := by decide +kernel
theorem d_SecretKey_derive_61 : decode b_SecretKey_derive 61 = .ok (.aload_n 0, 1) := by decide +kernel
theorem d_SecretKey_derive_62 : decode b_SecretKey_derive 62 = .ok (.getfield 24, 3) := by decide +kernel
theorem d_SecretKey_derive_65 : decode b_SecretKey_derive 65 = .ok (.invokestatic 58, 3) := by decide +kernel
theorem d_SecretKey_derive_68 : decode b_SecretKey_derive 68 = .ok (.aload_n 1, 1) := by decide +kernel
theorem d_SecretKey_derive_69 : decode b_SecretKey_derive 69 = .ok (.aload_n 0, 1) := by decide +kernel
theorem d_SecretKey_derive_70 : decode b_SecretKey_derive 70 = .ok (.getfield 15, 3) := by decide +kernel
theorem d_SecretKey_derive_73 : decode b_SecretKey_derive 73 = .ok (.iconst 0, 1) := by decide +kernel
theorem d_SecretKey_derive_74 : decode b_SecretKey_derive 74 = .ok (.aload_n 0, 1) := by decide +kernel
theorem d_SecretKey_derive_75 : decode b_SecretKey_derive 75 = .ok (.getfield 27, 3) := by decide +kernel
theorem d_SecretKey_derive_78 : decode b_SecretKey_derive 78 = .ok (.invokestatic 64, 3) := by decide +kernel
theorem d_SecretKey_derive_81 : decode b_SecretKey_derive 81 = .ok (.aload_n 1, 1) := by decide +kernel
theorem d_SecretKey_derive_82 : decode b_SecretKey_derive 82 = .ok (.aload_n 0, 1) := by decide +kernel
theorem d_SecretKey_derive_83 : decode b_SecretKey_derive 83 = .ok (.getfield 15, 3) := by decide +kernel
theorem d_SecretKey_derive_86 : decode b_SecretKey_derive 86 = .ok (.iconst 2, 1) := by decide +kernel
theorem d_SecretKey_derive_87 : decode b_SecretKey_derive 87 = .ok (.aload_n 0, 1) := by decide +kernel
theorem d_SecretKey_derive_88 : decode b_SecretKey_derive 88 = .ok (.getfield 30, 3) := by decide +kernel
theorem d_SecretKey_derive_91 : decode b_SecretKey_derive 91 = .ok (.invokestatic 64, 3) := by decide +kernel
theorem d_SecretKey_derive_94 : decode b_SecretKey_derive 94 = .ok (.aload_n 0, 1) := by decide +kernel
theorem d_SecretKey_derive_95 : decode b_SecretKey_derive 95 = .ok (.invokevirtual 68, 3) := by decide +kernel
theorem d_SecretKey_derive_98 : decode b_SecretKey_derive 98 = .ok (.aload_n 1, 1) := by decide +kernel
theorem d_SecretKey_derive_99 : decode b_SecretKey_derive 99 = .ok (.aload_n 0, 1) := by decide +kernel
theorem d_SecretKey_derive_100 : decode b_SecretKey_derive 100 = .ok (.getfield 9, 3) := by decide +kernel
theorem d_SecretKey_derive_103 : decode b_SecretKey_derive 103 = .ok (.aload_n 0, 1) := by decide +kernel
theorem d_SecretKey_derive_104 : decode b_SecretKey_derive 104 = .ok (.getfield 21, 3) := by decide +kernel
theorem d_SecretKey_derive_107 : decode b_SecretKey_derive 107 = .ok (.invokestatic 71, 3) := by decide +kernel
theorem d_SecretKey_derive_110 : decode b_SecretKey_derive 110 = .ok (.return_, 1) := by decide +kernel
theorem d_SecretKey_vectorOf_0 : decode b_SecretKey_vectorOf 0 = .ok (.iload_n 1, 1) := by decide +kernel
theorem d_SecretKey_vectorOf_1 : decode b_SecretKey_vectorOf 1 = .ok (.ifCond .ne 8, 3) := by decide +kernel
theorem d_SecretKey_vectorOf_4 : decode b_SecretKey_vectorOf 4 = .ok (.aload_n 0, 1) := by decide +kernel
theorem d_SecretKey_vectorOf_5 : decode b_SecretKey_vectorOf 5 = .ok (.getfield 27, 3) := by decide +kernel
theorem d_SecretKey_vectorOf_8 : decode b_SecretKey_vectorOf 8 = .ok (.areturn, 1) := by decide +kernel
theorem d_SecretKey_vectorOf_9 : decode b_SecretKey_vectorOf 9 = .ok (.iload_n 1, 1) := by decide +kernel
theorem d_SecretKey_vectorOf_10 : decode b_SecretKey_vectorOf 10 = .ok (.iconst 1, 1) := by decide +kernel
theorem d_SecretKey_vectorOf_11 : decode b_SecretKey_vectorOf 11 = .ok (.if_icmp .ne 10, 3) := by decide +kernel
theorem d_SecretKey_vectorOf_14 : decode b_SecretKey_vectorOf 14 = .ok (.aload_n 0, 1) := by decide +kernel
theorem d_SecretKey_vectorOf_15 : decode b_SecretKey_vectorOf 15 = .ok (.getfield 30, 3) := by decide +kernel
theorem d_SecretKey_vectorOf_18 : decode b_SecretKey_vectorOf 18 = .ok (.goto 7, 3) := by decide +kernel
theorem d_SecretKey_vectorOf_21 : decode b_SecretKey_vectorOf 21 = .ok (.aload_n 0, 1) := by decide +kernel
theorem d_SecretKey_vectorOf_22 : decode b_SecretKey_vectorOf 22 = .ok (.getfield 33, 3) := by decide +kernel
theorem d_SecretKey_vectorOf_25 : decode b_SecretKey_vectorOf 25 = .ok (.areturn, 1) := by decide +kernel
