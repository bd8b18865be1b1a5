theorem d_Md_publicByte_0 : decode b_Md_publicByte 0 = .ok (.iload_n 1, 1) := by decide +kernel
theorem d_Md_publicByte_1 : decode b_Md_publicByte 1 = .ok (.ifCond .lt 9, 3) := by decide +kernel
theorem d_Md_publicByte_4 : decode b_Md_publicByte 4 = .ok (.iload_n 1, 1) := by decide +kernel
theorem d_Md_publicByte_5 : decode b_Md_publicByte 5 = .ok (.bipush 67, 2) := by decide +kernel
theorem d_Md_publicByte_7 : decode b_Md_publicByte 7 = .ok (.if_icmp .le 7, 3) := by decide +kernel
theorem d_Md_publicByte_10 : decode b_Md_publicByte 10 = .ok (.iconst (-1), 1) := by decide +kernel
theorem d_Md_publicByte_11 : decode b_Md_publicByte 11 = .ok (.goto 9, 3) := by decide +kernel
theorem d_Md_publicByte_14 : decode b_Md_publicByte 14 = .ok (.aload_n 0, 1) := by decide +kernel
theorem d_Md_publicByte_15 : decode b_Md_publicByte 15 = .ok (.getfield 65, 3) := by decide +kernel
theorem d_Md_publicByte_18 : decode b_Md_publicByte 18 = .ok (.iload_n 1, 1) := by decide +kernel
theorem d_Md_publicByte_19 : decode b_Md_publicByte 19 = .ok (.iaload, 1) := by decide +kernel
theorem d_Md_publicByte_20 : decode b_Md_publicByte 20 = .ok (.ireturn, 1) := by decide +kernel
theorem d_Md_signatureByte_0 : decode b_Md_signatureByte 0 = .ok (.iload_n 1, 1) := by decide +kernel
theorem d_Md_signatureByte_1 : decode b_Md_signatureByte 1 = .ok (.ifCond .lt 9, 3) := by decide +kernel
theorem d_Md_signatureByte_4 : decode b_Md_signatureByte 4 = .ok (.iload_n 1, 1) := by decide +kernel
theorem d_Md_signatureByte_5 : decode b_Md_signatureByte 5 = .ok (.bipush 61, 2) := by decide +kernel
theorem d_Md_signatureByte_7 : decode b_Md_signatureByte 7 = .ok (.if_icmp .le 7, 3) := by decide +kernel
theorem d_Md_signatureByte_10 : decode b_Md_signatureByte 10 = .ok (.iconst (-1), 1) := by decide +kernel
theorem d_Md_signatureByte_11 : decode b_Md_signatureByte 11 = .ok (.goto 9, 3) := by decide +kernel
theorem d_Md_signatureByte_14 : decode b_Md_signatureByte 14 = .ok (.aload_n 0, 1) := by decide +kernel
theorem d_Md_signatureByte_15 : decode b_Md_signatureByte 15 = .ok (.getfield 68, 3) := by decide +kernel
theorem d_Md_signatureByte_18 : decode b_Md_signatureByte 18 = .ok (.iload_n 1, 1) := by decide +kernel
theorem d_Md_signatureByte_19 : decode b_Md_signatureByte 19 = .ok (.iaload, 1) := by decide +kernel
theorem d_Md_signatureByte_20 : decode b_Md_signatureByte 20 = .ok (.ireturn, 1) := by decide +kernel
theorem d_Md_putPublic_0 : decode b_Md_putPublic 0 = .ok (.iload_n 1, 1) := by decide +kernel
theorem d_Md_putPublic_1 : decode b_Md_putPublic 1 = .ok (.ifCond .lt 20, 3) := by decide +kernel
theorem d_Md_putPublic_4 : decode b_Md_putPublic 4 = .ok (.iload_n 1, 1) := by decide +kernel
theorem d_Md_putPublic_5 : decode b_Md_putPublic 5 = .ok (.bipush 67, 2) := by decide +kernel
theorem d_Md_putPublic_7 : decode b_Md_putPublic 7 = .ok (.if_icmp .gt 14, 3) := by decide +kernel
theorem d_Md_putPublic_10 : decode b_Md_putPublic 10 = .ok (.iload_n 2, 1) := by decide +kernel
theorem d_Md_putPublic_11 : decode b_Md_putPublic 11 = .ok (.ifCond .lt 10, 3) := by decide +kernel
theorem d_Md_putPublic_14 : decode b_Md_putPublic 14 = .ok (.iload_n 2, 1) := by decide +kernel
theorem d_Md_putPublic_15 : decode b_Md_putPublic 15 = .ok (.sipush 255, 3) := by decide +kernel
theorem d_Md_putPublic_18 : decode b_Md_putPublic 18 = .ok (.if_icmp .le 5, 3) := by decide +kernel
theorem d_Md_putPublic_21 : decode b_Md_putPublic 21 = .ok (.iconst 0, 1) := by decide +kernel
theorem d_Md_putPublic_22 : decode b_Md_putPublic 22 = .ok (.ireturn, 1) := by decide +kernel
theorem d_Md_putPublic_23 : decode b_Md_putPublic 23 = .ok (.aload_n 0, 1) := by decide +kernel
theorem d_Md_putPublic_24 : decode b_Md_putPublic 24 = .ok (.getfield 65, 3) := by decide +kernel
theorem d_Md_putPublic_27 : decode b_Md_putPublic 27 = .ok (.iload_n 1, 1) := by decide +kernel
theorem d_Md_putPublic_28 : decode b_Md_putPublic 28 = .ok (.iload_n 2, 1) := by decide +kernel
theorem d_Md_putPublic_29 : decode b_Md_putPublic 29 = .ok (.iastore, 1) := by decide +kernel
theorem d_Md_putPublic_30 : decode b_Md_putPublic 30 = .ok (.iconst 1, 1) := by decide +kernel
theorem d_Md_putPublic_31 : decode b_Md_putPublic 31 = .ok (.ireturn, 1) := by decide +kernel
theorem d_Md_putSignature_0 : decode b_Md_putSignature 0 = .ok (.iload_n 1, 1) := by decide +kernel
theorem d_Md_putSignature_1 : decode b_Md_putSignature 1 = .ok (.ifCond .lt 20, 3) := by decide +kernel
theorem d_Md_putSignature_4 : decode b_Md_putSignature 4 = .ok (.iload_n 1, 1) := by decide +kernel
theorem d_Md_putSignature_5 : decode b_Md_putSignature 5 = .ok (.bipush 61, 2) := by decide +kernel
theorem d_Md_putSignature_7 : decode b_Md_putSignature 7 = .ok (.if_icmp .gt 14, 3) := by decide +kernel
theorem d_Md_putSignature_10 : decode b_Md_putSignature 10 = .ok (.iload_n 2, 1) := by decide +kernel
theorem d_Md_putSignature_11 : decode b_Md_putSignature 11 = .ok (.ifCond .lt 10, 3) := by decide +kernel
theorem d_Md_putSignature_14 : decode b_Md_putSignature 14 = .ok (.iload_n 2, 1) := by decide +kernel
theorem d_Md_putSignature_15 : decode b_Md_putSignature 15 = .ok (.sipush 255, 3) := by decide +kernel
theorem d_Md_putSignature_18 : decode b_Md_putSignature 18 = .ok (.if_icmp .le 5, 3) := by decide +kernel
theorem d_Md_putSignature_21 : decode b_Md_putSignature 21 = .ok (.iconst 0, 1) := by decide +kernel
theorem d_Md_putSignature_22 : decode b_Md_putSignature 22 = .ok (.ireturn, 1) := by decide +kernel
theorem d_Md_putSignature_23 : decode b_Md_putSignature 23 = .ok (.aload_n 0, 1) := by decide +kernel
theorem d_Md_putSignature_24 : decode b_Md_putSignature 24 = .ok (.getfield 68, 3) := by decide +kernel
theorem d_Md_putSignature_27 : decode b_Md_putSignature 27 = .ok (.iload_n 1, 1) := by decide +kernel
theorem d_Md_putSignature_28 : decode b_Md_putSignature 28 = .ok (.iload_n 2, 1) := by decide +kernel
theorem d_Md_putSignature_29 : decode b_Md_putSignature 29 = .ok (.iastore, 1) := by decide +kernel
theorem d_Md_putSignature_30 : decode b_Md_putSignature 30 = .ok (.iconst 1, 1) := by decide +kernel
theorem d_Md_putSignature_31 : decode b_Md_putSignature 31 = .ok (.ireturn, 1) := by decide +kernel
theorem d_Md_secret_0 : decode b_Md_secret 0 = .ok (.aload_n 0, 1) := by decide +kernel
theorem d_Md_secret_1 : decode b_Md_secret 1 = .ok (.getfield 200, 3) := by decide +kernel
theorem d_Md_secret_4 : decode b_Md_secret 4 = .ok (.ifCond .eq 22, 3) := by decide +kernel
theorem d_Md_secret_7 : decode b_Md_secret 7 = .ok (.iload_n 1, 1) := by decide +kernel
theorem d_Md_secret_8 : decode b_Md_secret 8 = .ok (.ifCond .lt 18, 3) := by decide +kernel
theorem d_Md_secret_11 : decode b_Md_secret 11 = .ok (.iload_n 1, 1) := by decide +kernel
theorem d_Md_secret_12 : decode b_Md_secret 12 = .ok (.iconst 5, 1) := by decide +kernel
theorem d_Md_secret_13 : decode b_Md_secret 13 = .ok (.if_icmp .gt 13, 3) := by decide +kernel
theorem d_Md_secret_16 : decode b_Md_secret 16 = .ok (.iload_n 2, 1) := by decide +kernel
theorem d_Md_secret_17 : decode b_Md_secret 17 = .ok (.ifCond .lt 9, 3) := by decide +kernel
theorem d_Md_secret_20 : decode b_Md_secret 20 = .ok (.iload_n 2, 1) := by decide +kernel
theorem d_Md_secret_21 : decode b_Md_secret 21 = .ok (.bipush 15, 2) := by decide +kernel
theorem d_Md_secret_23 : decode b_Md_secret 23 = .ok (.if_icmp .le 5, 3) := by decide +kernel
theorem d_Md_secret_26 : decode b_Md_secret 26 = .ok (.iconst 0, 1) := by decide +kernel
theorem d_Md_secret_27 : decode b_Md_secret 27 = .ok (.ireturn, 1) := by decide +kernel
theorem d_Md_secret_28 : decode b_Md_secret 28 = .ok (.bipush 16, 2) := by decide +kernel
theorem d_Md_secret_30 : decode b_Md_secret 30 = .ok (.iload_n 1, 1) := by decide +kernel
theorem d_Md_secret_31 : decode b_Md_secret 31 = .ok (.iconst 2, 1) := by decide +kernel
theorem d_Md_secret_32 : decode b_Md_secret 32 = .ok (.irem, 1) := by decide +kernel
theorem d_Md_secret_33 : decode b_Md_secret 33 = .ok (.imul, 1) := by decide +kernel
theorem d_Md_secret_34 : decode b_Md_secret 34 = .ok (.iload_n 2, 1) := by decide +kernel
theorem d_Md_secret_35 : decode b_Md_secret 35 = .ok (.iadd, 1) := by decide +kernel
theorem d_Md_secret_36 : decode b_Md_secret 36 = .ok (.istore_n 3, 1) := by decide +kernel
theorem d_Md_secret_37 : decode b_Md_secret 37 = .ok (.iload_n 1, 1) := by decide +kernel
theorem d_Md_secret_38 : decode b_Md_secret 38 = .ok (.iconst 2, 1) := by decide +kernel
theorem d_Md_secret_39 : decode b_Md_secret 39 = .ok (.if_icmp .ge 12, 3) := by decide +kernel
theorem d_Md_secret_42 : decode b_Md_secret 42 = .ok (.aload_n 0, 1) := by decide +kernel
theorem d_Md_secret_43 : decode b_Md_secret 43 = .ok (.getfield 50, 3) := by decide +kernel
theorem d_Md_secret_46 : decode b_Md_secret 46 = .ok (.iload_n 3, 1) := by decide +kernel
theorem d_Md_secret_47 : decode b_Md_secret 47 = .ok (.iaload, 1) := by decide +kernel
theorem d_Md_secret_48 : decode b_Md_secret 48 = .ok (.goto 23, 3) := by decide +kernel
theorem d_Md_secret_51 : decode b_Md_secret 51 = .ok (.iload_n 1, 1) := by decide +kernel
theorem d_Md_secret_52 : decode b_Md_secret 52 = .ok (.iconst 4, 1) := by decide +kernel
theorem d_Md_secret_53 : decode b_Md_secret 53 = .ok (.if_icmp .ge 12, 3) := by decide +kernel
theorem d_Md_secret_56 : decode b_Md_secret 56 = .ok (.aload_n 0, 1) := by decide +kernel
theorem d_Md_secret_57 : decode b_Md_secret 57 = .ok (.getfield 53, 3) := by decide +kernel
theorem d_Md_secret_60 : decode b_Md_secret 60 = .ok (.iload_n 3, 1) := by decide +kernel
theorem d_Md_secret_61 : decode b_Md_secret 61 = .ok (.iaload, 1) := by decide +kernel
theorem d_Md_secret_62 : decode b_Md_secret 62 = .ok (.goto 9, 3) := by decide +kernel
theorem d_Md_secret_65 : decode b_Md_secret 65 = .ok (.aload_n 0, 1) := by decide +kernel
theorem d_Md_secret_66 : decode b_Md_secret 66 = .ok (.getfield 56, 3) := by decide +kernel
theorem d_Md_secret_69 : decode b_Md_secret 69 = .ok (.iload_n 3, 1) := by decide +kernel
theorem d_Md_secret_70 : decode b_Md_secret 70 = .ok (.iaload, 1) := by decide +kernel
theorem d_Md_secret_71 : decode b_Md_secret 71 = .ok (.invokestatic 156, 3) := by decide +kernel
theorem d_Md_secret_74 : decode b_Md_secret 74 = .ok (.ireturn, 1) := by decide +kernel
theorem d_Md_hash_0 : decode b_Md_hash 0 = .ok (.iload_n 1, 1) := by decide +kernel
theorem d_Md_hash_1 : decode b_Md_hash 1 = .ok (.ifCond .lt 10, 3) := by decide +kernel
theorem d_Md_hash_4 : decode b_Md_hash 4 = .ok (.iload_n 1, 1) := by decide +kernel
theorem d_Md_hash_5 : decode b_Md_hash 5 = .ok (.sipush 135, 3) := by decide +kernel
theorem d_Md_hash_8 : decode b_Md_hash 8 = .ok (.if_icmp .le 5, 3) := by decide +kernel
theorem d_Md_hash_11 : decode b_Md_hash 11 = .ok (.iconst (-1), 1) := by decide +kernel
theorem d_Md_hash_12 : decode b_Md_hash 12 = .ok (.ireturn, 1) := by decide +kernel
theorem d_Md_hash_13 : decode b_Md_hash 13 = .ok (.aload_n 0, 1) := by decide +kernel
theorem d_Md_hash_14 : decode b_Md_hash 14 = .ok (.aload_n 0, 1) := by decide +kernel
theorem d_Md_hash_15 : decode b_Md_hash 15 = .ok (.getfield 62, 3) := by decide +kernel
theorem d_Md_hash_18 : decode b_Md_hash 18 = .ok (.iconst 0, 1) := by decide +kernel
theorem d_Md_hash_19 : decode b_Md_hash 19 = .ok (.aload_n 0, 1) := by decide +kernel
theorem d_Md_hash_20 : decode b_Md_hash 20 = .ok (.getfield 204, 3) := by decide +kernel
theorem d_Md_hash_23 : decode b_Md_hash 23 = .ok (.invokevirtual 167, 3) := by decide +kernel
theorem d_Md_hash_26 : decode b_Md_hash 26 = .ok (.aload_n 0, 1) := by decide +kernel
theorem d_Md_hash_27 : decode b_Md_hash 27 = .ok (.invokevirtual 159, 3) := by decide +kernel
theorem d_Md_hash_30 : decode b_Md_hash 30 = .ok (.aload_n 0, 1) := by decide +kernel
theorem d_Md_hash_31 : decode b_Md_hash 31 = .ok (.getfield 29, 3) := by decide +kernel
theorem d_Md_hash_34 : decode b_Md_hash 34 = .ok (.iload_n 1, 1) := by decide +kernel
theorem d_Md_hash_35 : decode b_Md_hash 35 = .ok (.iaload, 1) := by decide +kernel
theorem d_Md_hash_36 : decode b_Md_hash 36 = .ok (.ireturn, 1) := by decide +kernel
theorem d_Md_ball_0 : decode b_Md_ball 0 = .ok (.iload_n 1, 1) := by decide +kernel
theorem d_Md_ball_1 : decode b_Md_ball 1 = .ok (.ifCond .lt 9, 3) := by decide +kernel
theorem d_Md_ball_4 : decode b_Md_ball 4 = .ok (.iload_n 1, 1) := by decide +kernel
theorem d_Md_ball_5 : decode b_Md_ball 5 = .ok (.bipush 15, 2) := by decide +kernel
theorem d_Md_ball_7 : decode b_Md_ball 7 = .ok (.if_icmp .le 5, 3) := by decide +kernel
theorem d_Md_ball_10 : decode b_Md_ball 10 = .ok (.iconst 0, 1) := by decide +kernel
theorem d_Md_ball_11 : decode b_Md_ball 11 = .ok (.ireturn, 1) := by decide +kernel
theorem d_Md_ball_12 : decode b_Md_ball 12 = .ok (.aload_n 0, 1) := by decide +kernel
theorem d_Md_ball_13 : decode b_Md_ball 13 = .ok (.aload_n 0, 1) := by decide +kernel
theorem d_Md_ball_14 : decode b_Md_ball 14 = .ok (.getfield 68, 3) := by decide +kernel
theorem d_Md_ball_17 : decode b_Md_ball 17 = .ok (.invokevirtual 213, 3) := by decide +kernel
theorem d_Md_ball_20 : decode b_Md_ball 20 = .ok (.aload_n 0, 1) := by decide +kernel
theorem d_Md_ball_21 : decode b_Md_ball 21 = .ok (.getfield 95, 3) := by decide +kernel
theorem d_Md_ball_24 : decode b_Md_ball 24 = .ok (.iload_n 1, 1) := by decide +kernel
theorem d_Md_ball_25 : decode b_Md_ball 25 = .ok (.iaload, 1) := by decide +kernel
theorem d_Md_ball_26 : decode b_Md_ball 26 = .ok (.ireturn, 1) := by decide +kernel
theorem d_Md_high_0 : decode b_Md_high 0 = .ok (.iload_n 1, 1) := by decide +kernel
theorem d_Md_high_1 : decode b_Md_high 1 = .ok (.i2l, 1) := by decide +kernel
theorem d_Md_high_2 : decode b_Md_high 2 = .ok (.invokestatic 142, 3) := by decide +kernel
theorem d_Md_high_5 : decode b_Md_high 5 = .ok (.invokestatic 139, 3) := by decide +kernel
theorem d_Md_high_8 : decode b_Md_high 8 = .ok (.ireturn, 1) := by decide +kernel
theorem d_Md_low_0 : decode b_Md_low 0 = .ok (.iload_n 1, 1) := by decide +kernel
theorem d_Md_low_1 : decode b_Md_low 1 = .ok (.i2l, 1) := by decide +kernel
theorem d_Md_low_2 : decode b_Md_low 2 = .ok (.invokestatic 142, 3) := by decide +kernel
theorem d_Md_low_5 : decode b_Md_low 5 = .ok (.invokestatic 146, 3) := by decide +kernel
theorem d_Md_low_8 : decode b_Md_low 8 = .ok (.ireturn, 1) := by decide +kernel
theorem d_Md_hint_0 : decode b_Md_hint 0 = .ok (.iload_n 1, 1) := by decide +kernel
theorem d_Md_hint_1 : decode b_Md_hint 1 = .ok (.i2l, 1) := by decide +kernel
theorem d_Md_hint_2 : decode b_Md_hint 2 = .ok (.iload_n 2, 1) := by decide +kernel
theorem d_Md_hint_3 : decode b_Md_hint 3 = .ok (.i2l, 1) := by decide +kernel
theorem d_Md_hint_4 : decode b_Md_hint 4 = .ok (.invokestatic 142, 3) := by decide +kernel
theorem d_Md_hint_7 : decode b_Md_hint 7 = .ok (.invokestatic 225, 3) := by decide +kernel
theorem d_Md_hint_10 : decode b_Md_hint 10 = .ok (.ireturn, 1) := by decide +kernel
theorem d_Md_corrected_0 : decode b_Md_corrected 0 = .ok (.iload_n 1, 1) := by decide +kernel
theorem d_Md_corrected_1 : decode b_Md_corrected 1 = .ok (.iconst 1, 1) := by decide +kernel
theorem d_Md_corrected_2 : decode b_Md_corrected 2 = .ok (.iand, 1) := by decide +kernel
theorem d_Md_corrected_3 : decode b_Md_corrected 3 = .ok (.iload_n 2, 1) := by decide +kernel
theorem d_Md_corrected_4 : decode b_Md_corrected 4 = .ok (.i2l, 1) := by decide +kernel
theorem d_Md_corrected_5 : decode b_Md_corrected 5 = .ok (.invokestatic 142, 3) := by decide +kernel
theorem d_Md_corrected_8 : decode b_Md_corrected 8 = .ok (.invokestatic 242, 3) := by decide +kernel
theorem d_Md_corrected_11 : decode b_Md_corrected 11 = .ok (.ireturn, 1) := by decide +kernel
