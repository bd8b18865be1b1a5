theorem d_SVS_key_0 : decode b_SVS_key 0 = .ok (.aload_n 0, 1) := by decide +kernel
theorem d_SVS_key_1 : decode b_SVS_key 1 = .ok (.getfield 26, 3) := by decide +kernel
theorem d_SVS_key_4 : decode b_SVS_key 4 = .ok (.aload_n 0, 1) := by decide +kernel
theorem d_SVS_key_5 : decode b_SVS_key 5 = .ok (.getfield 12, 3) := by decide +kernel
theorem d_SVS_key_8 : decode b_SVS_key 8 = .ok (.lload_n 1, 1) := by decide +kernel
theorem d_SVS_key_9 : decode b_SVS_key 9 = .ok (.invokevirtual 58, 3) := by decide +kernel
theorem d_SVS_key_12 : decode b_SVS_key 12 = .ok (.aload_n 0, 1) := by decide +kernel
theorem d_SVS_key_13 : decode b_SVS_key 13 = .ok (.getfield 26, 3) := by decide +kernel
theorem d_SVS_key_16 : decode b_SVS_key 16 = .ok (.getfield 62, 3) := by decide +kernel
theorem d_SVS_key_19 : decode b_SVS_key 19 = .ok (.iconst 0, 1) := by decide +kernel
theorem d_SVS_key_20 : decode b_SVS_key 20 = .ok (.aload_n 0, 1) := by decide +kernel
theorem d_SVS_key_21 : decode b_SVS_key 21 = .ok (.getfield 44, 3) := by decide +kernel
theorem d_SVS_key_24 : decode b_SVS_key 24 = .ok (.iconst 0, 1) := by decide +kernel
theorem d_SVS_key_25 : decode b_SVS_key 25 = .ok (.bipush 68, 2) := by decide +kernel
theorem d_SVS_key_27 : decode b_SVS_key 27 = .ok (.invokestatic 63, 3) := by decide +kernel
theorem d_SVS_key_30 : decode b_SVS_key 30 = .ok (.aload_n 0, 1) := by decide +kernel
theorem d_SVS_key_31 : decode b_SVS_key 31 = .ok (.iconst 1, 1) := by decide +kernel
theorem d_SVS_key_32 : decode b_SVS_key 32 = .ok (.putfield 54, 3) := by decide +kernel
theorem d_SVS_key_35 : decode b_SVS_key 35 = .ok (.return_, 1) := by decide +kernel
theorem d_SVS_say_0 : decode b_SVS_say 0 = .ok (.iload_n 1, 1) := by decide +kernel
theorem d_SVS_say_1 : decode b_SVS_say 1 = .ok (.invokestatic 69, 3) := by decide +kernel
theorem d_SVS_say_4 : decode b_SVS_say 4 = .ok (.ifCond .eq 18, 3) := by decide +kernel
theorem d_SVS_say_7 : decode b_SVS_say 7 = .ok (.aload_n 0, 1) := by decide +kernel
theorem d_SVS_say_8 : decode b_SVS_say 8 = .ok (.getfield 19, 3) := by decide +kernel
theorem d_SVS_say_11 : decode b_SVS_say 11 = .ok (.iload_n 1, 1) := by decide +kernel
theorem d_SVS_say_12 : decode b_SVS_say 12 = .ok (.invokevirtual 73, 3) := by decide +kernel
theorem d_SVS_say_15 : decode b_SVS_say 15 = .ok (.ifCond .eq 7, 3) := by decide +kernel
theorem d_SVS_say_18 : decode b_SVS_say 18 = .ok (.iconst 1, 1) := by decide +kernel
theorem d_SVS_say_19 : decode b_SVS_say 19 = .ok (.goto 4, 3) := by decide +kernel
theorem d_SVS_say_22 : decode b_SVS_say 22 = .ok (.iconst 0, 1) := by decide +kernel
theorem d_SVS_say_23 : decode b_SVS_say 23 = .ok (.ireturn, 1) := by decide +kernel
theorem d_SVS_hush_0 : decode b_SVS_hush 0 = .ok (.aload_n 0, 1) := by decide +kernel
theorem d_SVS_hush_1 : decode b_SVS_hush 1 = .ok (.getfield 19, 3) := by decide +kernel
theorem d_SVS_hush_4 : decode b_SVS_hush 4 = .ok (.invokevirtual 76, 3) := by decide +kernel
theorem d_SVS_hush_7 : decode b_SVS_hush 7 = .ok (.return_, 1) := by decide +kernel
theorem d_SVS_sign_0 : decode b_SVS_sign 0 = .ok (.aload_n 0, 1) := by decide +kernel
theorem d_SVS_sign_1 : decode b_SVS_sign 1 = .ok (.getfield 54, 3) := by decide +kernel
theorem d_SVS_sign_4 : decode b_SVS_sign 4 = .ok (.ifCond .eq 14, 3) := by decide +kernel
theorem d_SVS_sign_7 : decode b_SVS_sign 7 = .ok (.iload_n 3, 1) := by decide +kernel
theorem d_SVS_sign_8 : decode b_SVS_sign 8 = .ok (.iconst 1, 1) := by decide +kernel
theorem d_SVS_sign_9 : decode b_SVS_sign 9 = .ok (.if_icmp .lt 9, 3) := by decide +kernel
theorem d_SVS_sign_12 : decode b_SVS_sign 12 = .ok (.iload_n 3, 1) := by decide +kernel
theorem d_SVS_sign_13 : decode b_SVS_sign 13 = .ok (.bipush 30, 2) := by decide +kernel
theorem d_SVS_sign_15 : decode b_SVS_sign 15 = .ok (.if_icmp .le 5, 3) := by decide +kernel
theorem d_SVS_sign_18 : decode b_SVS_sign 18 = .ok (.iconst (-1), 1) := by decide +kernel
theorem d_SVS_sign_19 : decode b_SVS_sign 19 = .ok (.ireturn, 1) := by decide +kernel
theorem d_SVS_sign_20 : decode b_SVS_sign 20 = .ok (.aload_n 0, 1) := by decide +kernel
theorem d_SVS_sign_21 : decode b_SVS_sign 21 = .ok (.getfield 33, 3) := by decide +kernel
theorem d_SVS_sign_24 : decode b_SVS_sign 24 = .ok (.aload_n 0, 1) := by decide +kernel
theorem d_SVS_sign_25 : decode b_SVS_sign 25 = .ok (.getfield 12, 3) := by decide +kernel
theorem d_SVS_sign_28 : decode b_SVS_sign 28 = .ok (.aload_n 0, 1) := by decide +kernel
theorem d_SVS_sign_29 : decode b_SVS_sign 29 = .ok (.getfield 26, 3) := by decide +kernel
theorem d_SVS_sign_32 : decode b_SVS_sign 32 = .ok (.aload_n 0, 1) := by decide +kernel
theorem d_SVS_sign_33 : decode b_SVS_sign 33 = .ok (.getfield 19, 3) := by decide +kernel
theorem d_SVS_sign_36 : decode b_SVS_sign 36 = .ok (.lload_n 1, 1) := by decide +kernel
theorem d_SVS_sign_37 : decode b_SVS_sign 37 = .ok (.invokevirtual 79, 3) := by decide +kernel
theorem d_SVS_sign_40 : decode b_SVS_sign 40 = .ok (.iconst 1, 1) := by decide +kernel
theorem d_SVS_sign_41 : decode b_SVS_sign 41 = .ok (.istore 4, 2) := by decide +kernel
theorem d_SVS_sign_43 : decode b_SVS_sign 43 = .ok (.iload 4, 2) := by decide +kernel
theorem d_SVS_sign_45 : decode b_SVS_sign 45 = .ok (.iload_n 3, 1) := by decide +kernel
theorem d_SVS_sign_46 : decode b_SVS_sign 46 = .ok (.if_icmp .gt 43, 3) := by decide +kernel
theorem d_SVS_sign_49 : decode b_SVS_sign 49 = .ok (.aload_n 0, 1) := by decide +kernel
theorem d_SVS_sign_50 : decode b_SVS_sign 50 = .ok (.getfield 33, 3) := by decide +kernel
theorem d_SVS_sign_53 : decode b_SVS_sign 53 = .ok (.aload_n 0, 1) := by decide +kernel
theorem d_SVS_sign_54 : decode b_SVS_sign 54 = .ok (.getfield 12, 3) := by decide +kernel
theorem d_SVS_sign_57 : decode b_SVS_sign 57 = .ok (.aload_n 0, 1) := by decide +kernel
theorem d_SVS_sign_58 : decode b_SVS_sign 58 = .ok (.getfield 26, 3) := by decide +kernel
theorem d_SVS_sign_61 : decode b_SVS_sign 61 = .ok (.iload 4, 2) := by decide +kernel
theorem d_SVS_sign_63 : decode b_SVS_sign 63 = .ok (.invokevirtual 83, 3) := by decide +kernel
theorem d_SVS_sign_66 : decode b_SVS_sign 66 = .ok (.ifCond .eq 17, 3) := by decide +kernel
theorem d_SVS_sign_69 : decode b_SVS_sign 69 = .ok (.aload_n 0, 1) := by decide +kernel
theorem d_SVS_sign_70 : decode b_SVS_sign 70 = .ok (.getfield 33, 3) := by decide +kernel
theorem d_SVS_sign_73 : decode b_SVS_sign 73 = .ok (.aload_n 0, 1) := by decide +kernel
theorem d_SVS_sign_74 : decode b_SVS_sign 74 = .ok (.getfield 48, 3) := by decide +kernel
theorem d_SVS_sign_77 : decode b_SVS_sign 77 = .ok (.invokevirtual 87, 3) := by decide +kernel
theorem d_SVS_sign_80 : decode b_SVS_sign 80 = .ok (.iload 4, 2) := by decide +kernel
theorem d_SVS_sign_82 : decode b_SVS_sign 82 = .ok (.ireturn, 1) := by decide +kernel
theorem d_SVS_sign_83 : decode b_SVS_sign 83 = .ok (.iinc 4 1, 3) := by decide +kernel
theorem d_SVS_sign_86 : decode b_SVS_sign 86 = .ok (.goto (-43), 3) := by decide +kernel
theorem d_SVS_sign_89 : decode b_SVS_sign 89 = .ok (.bipush (-2), 2) := by decide +kernel
theorem d_SVS_sign_91 : decode b_SVS_sign 91 = .ok (.ireturn, 1) := by decide +kernel
theorem d_SVS_verify_0 : decode b_SVS_verify 0 = .ok (.aload_n 0, 1) := by decide +kernel
theorem d_SVS_verify_1 : decode b_SVS_verify 1 = .ok (.getfield 40, 3) := by decide +kernel
theorem d_SVS_verify_4 : decode b_SVS_verify 4 = .ok (.aload_n 0, 1) := by decide +kernel
theorem d_SVS_verify_5 : decode b_SVS_verify 5 = .ok (.getfield 12, 3) := by decide +kernel
theorem d_SVS_verify_8 : decode b_SVS_verify 8 = .ok (.aload_n 0, 1) := by decide +kernel
theorem d_SVS_verify_9 : decode b_SVS_verify 9 = .ok (.getfield 44, 3) := by decide +kernel
theorem d_SVS_verify_12 : decode b_SVS_verify 12 = .ok (.aload_n 0, 1) := by decide +kernel
theorem d_SVS_verify_13 : decode b_SVS_verify 13 = .ok (.getfield 19, 3) := by decide +kernel
theorem d_SVS_verify_16 : decode b_SVS_verify 16 = .ok (.aload_n 0, 1) := by decide +kernel
theorem d_SVS_verify_17 : decode b_SVS_verify 17 = .ok (.getfield 48, 3) := by decide +kernel
theorem d_SVS_verify_20 : decode b_SVS_verify 20 = .ok (.invokevirtual 91, 3) := by decide +kernel
theorem d_SVS_verify_23 : decode b_SVS_verify 23 = .ok (.ireturn, 1) := by decide +kernel
theorem d_SVS_publicByte_0 : decode b_SVS_publicByte 0 = .ok (.iload_n 1, 1) := by decide +kernel
theorem d_SVS_publicByte_1 : decode b_SVS_publicByte 1 = .ok (.bipush 68, 2) := by decide +kernel
theorem d_SVS_publicByte_3 : decode b_SVS_publicByte 3 = .ok (.invokestatic 95, 3) := by decide +kernel
theorem d_SVS_publicByte_6 : decode b_SVS_publicByte 6 = .ok (.ifCond .eq 12, 3) := by decide +kernel
theorem d_SVS_publicByte_9 : decode b_SVS_publicByte 9 = .ok (.aload_n 0, 1) := by decide +kernel
theorem d_SVS_publicByte_10 : decode b_SVS_publicByte 10 = .ok (.getfield 44, 3) := by decide +kernel
theorem d_SVS_publicByte_13 : decode b_SVS_publicByte 13 = .ok (.iload_n 1, 1) := by decide +kernel
theorem d_SVS_publicByte_14 : decode b_SVS_publicByte 14 = .ok (.iaload, 1) := by decide +kernel
theorem d_SVS_publicByte_15 : decode b_SVS_publicByte 15 = .ok (.goto 4, 3) := by decide +kernel
theorem d_SVS_publicByte_18 : decode b_SVS_publicByte 18 = .ok (.iconst (-1), 1) := by decide +kernel
theorem d_SVS_publicByte_19 : decode b_SVS_publicByte 19 = .ok (.ireturn, 1) := by decide +kernel
theorem d_SVS_signatureByte_0 : decode b_SVS_signatureByte 0 = .ok (.iload_n 1, 1) := by decide +kernel
theorem d_SVS_signatureByte_1 : decode b_SVS_signatureByte 1 = .ok (.bipush 62, 2) := by decide +kernel
theorem d_SVS_signatureByte_3 : decode b_SVS_signatureByte 3 = .ok (.invokestatic 95, 3) := by decide +kernel
theorem d_SVS_signatureByte_6 : decode b_SVS_signatureByte 6 = .ok (.ifCond .eq 12, 3) := by decide +kernel
theorem d_SVS_signatureByte_9 : decode b_SVS_signatureByte 9 = .ok (.aload_n 0, 1) := by decide +kernel
theorem d_SVS_signatureByte_10 : decode b_SVS_signatureByte 10 = .ok (.getfield 48, 3) := by decide +kernel
theorem d_SVS_signatureByte_13 : decode b_SVS_signatureByte 13 = .ok (.iload_n 1, 1) := by decide +kernel
theorem d_SVS_signatureByte_14 : decode b_SVS_signatureByte 14 = .ok (.iaload, 1) := by decide +kernel
theorem d_SVS_signatureByte_15 : decode b_SVS_signatureByte 15 = .ok (.goto 4, 3) := by decide +kernel
theorem d_SVS_signatureByte_18 : decode b_SVS_signatureByte 18 = .ok (.iconst (-1), 1) := by decide +kernel
theorem d_SVS_signatureByte_19 : decode b_SVS_signatureByte 19 = .ok (.ireturn, 1) := by decide +kernel
theorem d_SVS_putPublic_0 : decode b_SVS_putPublic 0 = .ok (.aload_n 0, 1) := by decide +kernel
theorem d_SVS_putPublic_1 : decode b_SVS_putPublic 1 = .ok (.getfield 44, 3) := by decide +kernel
theorem d_SVS_putPublic_4 : decode b_SVS_putPublic 4 = .ok (.iload_n 1, 1) := by decide +kernel
theorem d_SVS_putPublic_5 : decode b_SVS_putPublic 5 = .ok (.iload_n 2, 1) := by decide +kernel
theorem d_SVS_putPublic_6 : decode b_SVS_putPublic 6 = .ok (.invokestatic 99, 3) := by decide +kernel
theorem d_SVS_putPublic_9 : decode b_SVS_putPublic 9 = .ok (.ireturn, 1) := by decide +kernel
theorem d_SVS_putSignature_0 : decode b_SVS_putSignature 0 = .ok (.aload_n 0, 1) := by decide +kernel
theorem d_SVS_putSignature_1 : decode b_SVS_putSignature 1 = .ok (.getfield 48, 3) := by decide +kernel
theorem d_SVS_putSignature_4 : decode b_SVS_putSignature 4 = .ok (.iload_n 1, 1) := by decide +kernel
theorem d_SVS_putSignature_5 : decode b_SVS_putSignature 5 = .ok (.iload_n 2, 1) := by decide +kernel
theorem d_SVS_putSignature_6 : decode b_SVS_putSignature 6 = .ok (.invokestatic 99, 3) := by decide +kernel
theorem d_SVS_putSignature_9 : decode b_SVS_putSignature 9 = .ok (.ireturn, 1) := by decide +kernel
theorem d_SVS_secret_0 : decode b_SVS_secret 0 = .ok (.aload_n 0, 1) := by decide +kernel
theorem d_SVS_secret_1 : decode b_SVS_secret 1 = .ok (.getfield 54, 3) := by decide +kernel
theorem d_SVS_secret_4 : decode b_SVS_secret 4 = .ok (.ifCond .eq 21, 3) := by decide +kernel
theorem d_SVS_secret_7 : decode b_SVS_secret 7 = .ok (.iload_n 1, 1) := by decide +kernel
theorem d_SVS_secret_8 : decode b_SVS_secret 8 = .ok (.bipush 6, 2) := by decide +kernel
theorem d_SVS_secret_10 : decode b_SVS_secret 10 = .ok (.invokestatic 95, 3) := by decide +kernel
theorem d_SVS_secret_13 : decode b_SVS_secret 13 = .ok (.ifCond .eq 12, 3) := by decide +kernel
theorem d_SVS_secret_16 : decode b_SVS_secret 16 = .ok (.iload_n 2, 1) := by decide +kernel
theorem d_SVS_secret_17 : decode b_SVS_secret 17 = .ok (.bipush 16, 2) := by decide +kernel
theorem d_SVS_secret_19 : decode b_SVS_secret 19 = .ok (.invokestatic 95, 3) := by decide +kernel
theorem d_SVS_secret_22 : decode b_SVS_secret 22 = .ok (.ifCond .ne 5, 3) := by decide +kernel
theorem d_SVS_secret_25 : decode b_SVS_secret 25 = .ok (.iconst 0, 1) := by decide +kernel
theorem d_SVS_secret_26 : decode b_SVS_secret 26 = .ok (.ireturn, 1) := by decide +kernel
theorem d_SVS_secret_27 : decode b_SVS_secret 27 = .ok (.aload_n 0, 1) := by decide +kernel
theorem d_SVS_secret_28 : decode b_SVS_secret 28 = .ok (.getfield 26, 3) := by decide +kernel
theorem d_SVS_secret_31 : decode b_SVS_secret 31 = .ok (.iload_n 1, 1) := by decide +kernel
theorem d_SVS_secret_32 : decode b_SVS_secret 32 = .ok (.iconst 2, 1) := by decide +kernel
theorem d_SVS_secret_33 : decode b_SVS_secret 33 = .ok (.idiv, 1) := by decide +kernel
theorem d_SVS_secret_34 : decode b_SVS_secret 34 = .ok (.invokevirtual 103, 3) := by decide +kernel
theorem d_SVS_secret_37 : decode b_SVS_secret 37 = .ok (.bipush 16, 2) := by decide +kernel
theorem d_SVS_secret_39 : decode b_SVS_secret 39 = .ok (.iload_n 1, 1) := by decide +kernel
theorem d_SVS_secret_40 : decode b_SVS_secret 40 = .ok (.iconst 2, 1) := by decide +kernel
theorem d_SVS_secret_41 : decode b_SVS_secret 41 = .ok (.irem, 1) := by decide +kernel
theorem d_SVS_secret_42 : decode b_SVS_secret 42 = .ok (.imul, 1) := by decide +kernel
theorem d_SVS_secret_43 : decode b_SVS_secret 43 = .ok (.iload_n 2, 1) := by decide +kernel
theorem d_SVS_secret_44 : decode b_SVS_secret 44 = .ok (.iadd, 1) := by decide +kernel
theorem d_SVS_secret_45 : decode b_SVS_secret 45 = .ok (.iaload, 1) := by decide +kernel
theorem d_SVS_secret_46 : decode b_SVS_secret 46 = .ok (.i2l, 1) := by decide +kernel
theorem d_SVS_secret_47 : decode b_SVS_secret 47 = .ok (.invokestatic 107, 3) := by decide +kernel
theorem d_SVS_secret_50 : decode b_SVS_secret 50 = .ok (.ireturn, 1) := by decide +kernel
theorem d_SVS_hash_0 : decode b_SVS_hash 0 = .ok (.iload_n 1, 1) := by decide +kernel
theorem d_SVS_hash_1 : decode b_SVS_hash 1 = .ok (.sipush 136, 3) := by decide +kernel
theorem d_SVS_hash_4 : decode b_SVS_hash 4 = .ok (.invokestatic 95, 3) := by decide +kernel
theorem d_SVS_hash_7 : decode b_SVS_hash 7 = .ok (.ifCond .ne 5, 3) := by decide +kernel
theorem d_SVS_hash_10 : decode b_SVS_hash 10 = .ok (.iconst (-1), 1) := by decide +kernel
theorem d_SVS_hash_11 : decode b_SVS_hash 11 = .ok (.ireturn, 1) := by decide +kernel
theorem d_SVS_hash_12 : decode b_SVS_hash 12 = .ok (.aload_n 0, 1) := by decide +kernel
theorem d_SVS_hash_13 : decode b_SVS_hash 13 = .ok (.getfield 12, 3) := by decide +kernel
theorem d_SVS_hash_16 : decode b_SVS_hash 16 = .ok (.invokevirtual 113, 3) := by decide +kernel
theorem d_SVS_hash_19 : decode b_SVS_hash 19 = .ok (.aload_n 0, 1) := by decide +kernel
theorem d_SVS_hash_20 : decode b_SVS_hash 20 = .ok (.getfield 19, 3) := by decide +kernel
theorem d_SVS_hash_23 : decode b_SVS_hash 23 = .ok (.aload_n 0, 1) := by decide +kernel
theorem d_SVS_hash_24 : decode b_SVS_hash 24 = .ok (.getfield 12, 3) := by decide +kernel
theorem d_SVS_hash_27 : decode b_SVS_hash 27 = .ok (.invokevirtual 116, 3) := by decide +kernel
theorem d_SVS_hash_30 : decode b_SVS_hash 30 = .ok (.aload_n 0, 1) := by decide +kernel
theorem d_SVS_hash_31 : decode b_SVS_hash 31 = .ok (.getfield 12, 3) := by decide +kernel
theorem d_SVS_hash_34 : decode b_SVS_hash 34 = .ok (.invokevirtual 120, 3) := by decide +kernel
theorem d_SVS_hash_37 : decode b_SVS_hash 37 = .ok (.iload_n 1, 1) := by decide +kernel
theorem d_SVS_hash_38 : decode b_SVS_hash 38 = .ok (.iaload, 1) := by decide +kernel
theorem d_SVS_hash_39 : decode b_SVS_hash 39 = .ok (.ireturn, 1) := by decide +kernel
theorem d_SVS_ball_0 : decode b_SVS_ball 0 = .ok (.iload_n 1, 1) := by decide +kernel
theorem d_SVS_ball_1 : decode b_SVS_ball 1 = .ok (.bipush 16, 2) := by decide +kernel
theorem d_SVS_ball_3 : decode b_SVS_ball 3 = .ok (.invokestatic 95, 3) := by decide +kernel
theorem d_SVS_ball_6 : decode b_SVS_ball 6 = .ok (.ifCond .ne 5, 3) := by decide +kernel
theorem d_SVS_ball_9 : decode b_SVS_ball 9 = .ok (.iconst 0, 1) := by decide +kernel
theorem d_SVS_ball_10 : decode b_SVS_ball 10 = .ok (.ireturn, 1) := by decide +kernel
theorem d_SVS_ball_11 : decode b_SVS_ball 11 = .ok (.aload_n 0, 1) := by decide +kernel
theorem d_SVS_ball_12 : decode b_SVS_ball 12 = .ok (.getfield 12, 3) := by decide +kernel
theorem d_SVS_ball_15 : decode b_SVS_ball 15 = .ok (.aload_n 0, 1) := by decide +kernel
theorem d_SVS_ball_16 : decode b_SVS_ball 16 = .ok (.getfield 48, 3) := by decide +kernel
theorem d_SVS_ball_19 : decode b_SVS_ball 19 = .ok (.aload_n 0, 1) := by decide +kernel
theorem d_SVS_ball_20 : decode b_SVS_ball 20 = .ok (.getfield 51, 3) := by decide +kernel
theorem d_SVS_ball_23 : decode b_SVS_ball 23 = .ok (.invokestatic 124, 3) := by decide +kernel
theorem d_SVS_ball_26 : decode b_SVS_ball 26 = .ok (.aload_n 0, 1) := by decide +kernel
theorem d_SVS_ball_27 : decode b_SVS_ball 27 = .ok (.getfield 51, 3) := by decide +kernel
theorem d_SVS_ball_30 : decode b_SVS_ball 30 = .ok (.iload_n 1, 1) := by decide +kernel
theorem d_SVS_ball_31 : decode b_SVS_ball 31 = .ok (.iaload, 1) := by decide +kernel
theorem d_SVS_ball_32 : decode b_SVS_ball 32 = .ok (.ireturn, 1) := by decide +kernel
theorem d_SVS_high_0 : decode b_SVS_high 0 = .ok (.iload_n 1, 1) := by decide +kernel
theorem d_SVS_high_1 : decode b_SVS_high 1 = .ok (.i2l, 1) := by decide +kernel
theorem d_SVS_high_2 : decode b_SVS_high 2 = .ok (.invokestatic 130, 3) := by decide +kernel
theorem d_SVS_high_5 : decode b_SVS_high 5 = .ok (.invokestatic 133, 3) := by decide +kernel
theorem d_SVS_high_8 : decode b_SVS_high 8 = .ok (.ireturn, 1) := by decide +kernel
theorem d_SVS_low_0 : decode b_SVS_low 0 = .ok (.iload_n 1, 1) := by decide +kernel
theorem d_SVS_low_1 : decode b_SVS_low 1 = .ok (.i2l, 1) := by decide +kernel
theorem d_SVS_low_2 : decode b_SVS_low 2 = .ok (.invokestatic 130, 3) := by decide +kernel
theorem d_SVS_low_5 : decode b_SVS_low 5 = .ok (.invokestatic 139, 3) := by decide +kernel
theorem d_SVS_low_8 : decode b_SVS_low 8 = .ok (.ireturn, 1) := by decide +kernel
theorem d_SVS_hint_0 : decode b_SVS_hint 0 = .ok (.iload_n 1, 1) := by decide +kernel
theorem d_SVS_hint_1 : decode b_SVS_hint 1 = .ok (.i2l, 1) := by decide +kernel
theorem d_SVS_hint_2 : decode b_SVS_hint 2 = .ok (.iload_n 2, 1) := by decide +kernel
theorem d_SVS_hint_3 : decode b_SVS_hint 3 = .ok (.i2l, 1) := by decide +kernel
theorem d_SVS_hint_4 : decode b_SVS_hint 4 = .ok (.invokestatic 130, 3) := by decide +kernel
theorem d_SVS_hint_7 : decode b_SVS_hint 7 = .ok (.invokestatic 142, 3) := by decide +kernel
theorem d_SVS_hint_10 : decode b_SVS_hint 10 = .ok (.ireturn, 1) := by decide +kernel
theorem d_SVS_corrected_0 : decode b_SVS_corrected 0 = .ok (.iload_n 1, 1) := by decide +kernel
theorem d_SVS_corrected_1 : decode b_SVS_corrected 1 = .ok (.iconst 1, 1) := by decide +kernel
theorem d_SVS_corrected_2 : decode b_SVS_corrected 2 = .ok (.iand, 1) := by decide +kernel
theorem d_SVS_corrected_3 : decode b_SVS_corrected 3 = .ok (.iload_n 2, 1) := by decide +kernel
theorem d_SVS_corrected_4 : decode b_SVS_corrected 4 = .ok (.i2l, 1) := by decide +kernel
theorem d_SVS_corrected_5 : decode b_SVS_corrected 5 = .ok (.invokestatic 130, 3) := by decide +kernel
theorem d_SVS_corrected_8 : decode b_SVS_corrected 8 = .ok (.invokestatic 146, 3) := by decide +kernel
theorem d_SVS_corrected_11 : decode b_SVS_corrected 11 = .ok (.ireturn, 1) := by decide +kernel
