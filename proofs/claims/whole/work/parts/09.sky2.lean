theorem d_J6_bitCount_0 : decode (zmc m_J6_bitCount) 0 = .ok (.iload_n 0, 1) := by decide +kernel
theorem d_J6_bitCount_1 : decode (zmc m_J6_bitCount) 1 = .ok (.iload_n 0, 1) := by decide +kernel
theorem d_J6_bitCount_2 : decode (zmc m_J6_bitCount) 2 = .ok (.iconst 1, 1) := by decide +kernel
theorem d_J6_bitCount_3 : decode (zmc m_J6_bitCount) 3 = .ok (.iushr, 1) := by decide +kernel
theorem d_J6_bitCount_4 : decode (zmc m_J6_bitCount) 4 = .ok (.ldc_w 265, 3) := by decide +kernel
theorem d_J6_bitCount_7 : decode (zmc m_J6_bitCount) 7 = .ok (.iand, 1) := by decide +kernel
theorem d_J6_bitCount_8 : decode (zmc m_J6_bitCount) 8 = .ok (.isub, 1) := by decide +kernel
theorem d_J6_bitCount_9 : decode (zmc m_J6_bitCount) 9 = .ok (.istore_n 0, 1) := by decide +kernel
theorem d_J6_bitCount_10 : decode (zmc m_J6_bitCount) 10 = .ok (.iload_n 0, 1) := by decide +kernel
theorem d_J6_bitCount_11 : decode (zmc m_J6_bitCount) 11 = .ok (.ldc_w 266, 3) := by decide +kernel
theorem d_J6_bitCount_14 : decode (zmc m_J6_bitCount) 14 = .ok (.iand, 1) := by decide +kernel
theorem d_J6_bitCount_15 : decode (zmc m_J6_bitCount) 15 = .ok (.iload_n 0, 1) := by decide +kernel
theorem d_J6_bitCount_16 : decode (zmc m_J6_bitCount) 16 = .ok (.iconst 2, 1) := by decide +kernel
theorem d_J6_bitCount_17 : decode (zmc m_J6_bitCount) 17 = .ok (.iushr, 1) := by decide +kernel
theorem d_J6_bitCount_18 : decode (zmc m_J6_bitCount) 18 = .ok (.ldc_w 266, 3) := by decide +kernel
theorem d_J6_bitCount_21 : decode (zmc m_J6_bitCount) 21 = .ok (.iand, 1) := by decide +kernel
theorem d_J6_bitCount_22 : decode (zmc m_J6_bitCount) 22 = .ok (.iadd, 1) := by decide +kernel
theorem d_J6_bitCount_23 : decode (zmc m_J6_bitCount) 23 = .ok (.istore_n 0, 1) := by decide +kernel
theorem d_J6_bitCount_24 : decode (zmc m_J6_bitCount) 24 = .ok (.iload_n 0, 1) := by decide +kernel
theorem d_J6_bitCount_25 : decode (zmc m_J6_bitCount) 25 = .ok (.iload_n 0, 1) := by decide +kernel
theorem d_J6_bitCount_26 : decode (zmc m_J6_bitCount) 26 = .ok (.iconst 4, 1) := by decide +kernel
theorem d_J6_bitCount_27 : decode (zmc m_J6_bitCount) 27 = .ok (.iushr, 1) := by decide +kernel
theorem d_J6_bitCount_28 : decode (zmc m_J6_bitCount) 28 = .ok (.iadd, 1) := by decide +kernel
theorem d_J6_bitCount_29 : decode (zmc m_J6_bitCount) 29 = .ok (.ldc_w 267, 3) := by decide +kernel
theorem d_J6_bitCount_32 : decode (zmc m_J6_bitCount) 32 = .ok (.iand, 1) := by decide +kernel
theorem d_J6_bitCount_33 : decode (zmc m_J6_bitCount) 33 = .ok (.istore_n 0, 1) := by decide +kernel
theorem d_J6_bitCount_34 : decode (zmc m_J6_bitCount) 34 = .ok (.iload_n 0, 1) := by decide +kernel
theorem d_J6_bitCount_35 : decode (zmc m_J6_bitCount) 35 = .ok (.iload_n 0, 1) := by decide +kernel
theorem d_J6_bitCount_36 : decode (zmc m_J6_bitCount) 36 = .ok (.bipush 8, 2) := by decide +kernel
theorem d_J6_bitCount_38 : decode (zmc m_J6_bitCount) 38 = .ok (.iushr, 1) := by decide +kernel
theorem d_J6_bitCount_39 : decode (zmc m_J6_bitCount) 39 = .ok (.iadd, 1) := by decide +kernel
theorem d_J6_bitCount_40 : decode (zmc m_J6_bitCount) 40 = .ok (.istore_n 0, 1) := by decide +kernel
theorem d_J6_bitCount_41 : decode (zmc m_J6_bitCount) 41 = .ok (.iload_n 0, 1) := by decide +kernel
theorem d_J6_bitCount_42 : decode (zmc m_J6_bitCount) 42 = .ok (.iload_n 0, 1) := by decide +kernel
theorem d_J6_bitCount_43 : decode (zmc m_J6_bitCount) 43 = .ok (.bipush 16, 2) := by decide +kernel
theorem d_J6_bitCount_45 : decode (zmc m_J6_bitCount) 45 = .ok (.iushr, 1) := by decide +kernel
theorem d_J6_bitCount_46 : decode (zmc m_J6_bitCount) 46 = .ok (.iadd, 1) := by decide +kernel
theorem d_J6_bitCount_47 : decode (zmc m_J6_bitCount) 47 = .ok (.istore_n 0, 1) := by decide +kernel
theorem d_J6_bitCount_48 : decode (zmc m_J6_bitCount) 48 = .ok (.iload_n 0, 1) := by decide +kernel
theorem d_J6_bitCount_49 : decode (zmc m_J6_bitCount) 49 = .ok (.bipush 63, 2) := by decide +kernel
theorem d_J6_bitCount_51 : decode (zmc m_J6_bitCount) 51 = .ok (.iand, 1) := by decide +kernel
theorem d_J6_bitCount_52 : decode (zmc m_J6_bitCount) 52 = .ok (.ireturn, 1) := by decide +kernel
theorem d_X9_atHand_0 : decode (zmc m_X9_atHand) 0 = .ok (.iconst 1, 1) := by decide +kernel
theorem d_X9_atHand_1 : decode (zmc m_X9_atHand) 1 = .ok (.aload_n 0, 1) := by decide +kernel
theorem d_X9_atHand_2 : decode (zmc m_X9_atHand) 2 = .ok (.getfield 23, 3) := by decide +kernel
theorem d_X9_atHand_5 : decode (zmc m_X9_atHand) 5 = .ok (.ishl, 1) := by decide +kernel
theorem d_X9_atHand_6 : decode (zmc m_X9_atHand) 6 = .ok (.iconst 1, 1) := by decide +kernel
theorem d_X9_atHand_7 : decode (zmc m_X9_atHand) 7 = .ok (.isub, 1) := by decide +kernel
theorem d_X9_atHand_8 : decode (zmc m_X9_atHand) 8 = .ok (.aload_n 0, 1) := by decide +kernel
theorem d_X9_atHand_9 : decode (zmc m_X9_atHand) 9 = .ok (.iconst 5, 1) := by decide +kernel
theorem d_X9_atHand_10 : decode (zmc m_X9_atHand) 10 = .ok (.invokevirtual 61, 3) := by decide +kernel
theorem d_X9_atHand_13 : decode (zmc m_X9_atHand) 13 = .ok (.iconst (-1), 1) := by decide +kernel
theorem d_X9_atHand_14 : decode (zmc m_X9_atHand) 14 = .ok (.ixor, 1) := by decide +kernel
theorem d_X9_atHand_15 : decode (zmc m_X9_atHand) 15 = .ok (.iand, 1) := by decide +kernel
theorem d_X9_atHand_16 : decode (zmc m_X9_atHand) 16 = .ok (.ireturn, 1) := by decide +kernel
theorem d_X9_bits_0 : decode (zmc m_X9_bits) 0 = .ok (.iconst 0, 1) := by decide +kernel
theorem d_X9_bits_1 : decode (zmc m_X9_bits) 1 = .ok (.istore_n 2, 1) := by decide +kernel
theorem d_X9_bits_2 : decode (zmc m_X9_bits) 2 = .ok (.iconst 0, 1) := by decide +kernel
theorem d_X9_bits_3 : decode (zmc m_X9_bits) 3 = .ok (.istore_n 3, 1) := by decide +kernel
theorem d_X9_bits_4 : decode (zmc m_X9_bits) 4 = .ok (.iload_n 3, 1) := by decide +kernel
theorem d_X9_bits_5 : decode (zmc m_X9_bits) 5 = .ok (.aload_n 0, 1) := by decide +kernel
theorem d_X9_bits_6 : decode (zmc m_X9_bits) 6 = .ok (.getfield 23, 3) := by decide +kernel
theorem d_X9_bits_9 : decode (zmc m_X9_bits) 9 = .ok (.if_icmp .ge 24, 3) := by decide +kernel
theorem d_X9_bits_12 : decode (zmc m_X9_bits) 12 = .ok (.aload_n 0, 1) := by decide +kernel
theorem d_X9_bits_13 : decode (zmc m_X9_bits) 13 = .ok (.iload_n 1, 1) := by decide +kernel
theorem d_X9_bits_14 : decode (zmc m_X9_bits) 14 = .ok (.iload_n 3, 1) := by decide +kernel
theorem d_X9_bits_15 : decode (zmc m_X9_bits) 15 = .ok (.invokevirtual 57, 3) := by decide +kernel
theorem d_X9_bits_18 : decode (zmc m_X9_bits) 18 = .ok (.ifCond .eq 9, 3) := by decide +kernel
theorem d_X9_bits_21 : decode (zmc m_X9_bits) 21 = .ok (.iload_n 2, 1) := by decide +kernel
theorem d_X9_bits_22 : decode (zmc m_X9_bits) 22 = .ok (.iconst 1, 1) := by decide +kernel
theorem d_X9_bits_23 : decode (zmc m_X9_bits) 23 = .ok (.iload_n 3, 1) := by decide +kernel
theorem d_X9_bits_24 : decode (zmc m_X9_bits) 24 = .ok (.ishl, 1) := by decide +kernel
theorem d_X9_bits_25 : decode (zmc m_X9_bits) 25 = .ok (.ior, 1) := by decide +kernel
theorem d_X9_bits_26 : decode (zmc m_X9_bits) 26 = .ok (.istore_n 2, 1) := by decide +kernel
theorem d_X9_bits_27 : decode (zmc m_X9_bits) 27 = .ok (.iinc 3 1, 3) := by decide +kernel
theorem d_X9_bits_30 : decode (zmc m_X9_bits) 30 = .ok (.goto (-26), 3) := by decide +kernel
theorem d_X9_bits_33 : decode (zmc m_X9_bits) 33 = .ok (.iload_n 2, 1) := by decide +kernel
theorem d_X9_bits_34 : decode (zmc m_X9_bits) 34 = .ok (.ireturn, 1) := by decide +kernel
theorem d_X9_dropMinute_0 : decode (zmc m_X9_dropMinute) 0 = .ok (.aload_n 0, 1) := by decide +kernel
theorem d_X9_dropMinute_1 : decode (zmc m_X9_dropMinute) 1 = .ok (.bipush 10, 2) := by decide +kernel
theorem d_X9_dropMinute_3 : decode (zmc m_X9_dropMinute) 3 = .ok (.iconst 0, 1) := by decide +kernel
theorem d_X9_dropMinute_4 : decode (zmc m_X9_dropMinute) 4 = .ok (.invokevirtual 57, 3) := by decide +kernel
theorem d_X9_dropMinute_7 : decode (zmc m_X9_dropMinute) 7 = .ok (.iconst 3, 1) := by decide +kernel
theorem d_X9_dropMinute_8 : decode (zmc m_X9_dropMinute) 8 = .ok (.aload_n 0, 1) := by decide +kernel
theorem d_X9_dropMinute_9 : decode (zmc m_X9_dropMinute) 9 = .ok (.iconst 2, 1) := by decide +kernel
theorem d_X9_dropMinute_10 : decode (zmc m_X9_dropMinute) 10 = .ok (.iload_n 1, 1) := by decide +kernel
theorem d_X9_dropMinute_11 : decode (zmc m_X9_dropMinute) 11 = .ok (.invokevirtual 57, 3) := by decide +kernel
theorem d_X9_dropMinute_14 : decode (zmc m_X9_dropMinute) 14 = .ok (.imul, 1) := by decide +kernel
theorem d_X9_dropMinute_15 : decode (zmc m_X9_dropMinute) 15 = .ok (.iadd, 1) := by decide +kernel
theorem d_X9_dropMinute_16 : decode (zmc m_X9_dropMinute) 16 = .ok (.aload_n 0, 1) := by decide +kernel
theorem d_X9_dropMinute_17 : decode (zmc m_X9_dropMinute) 17 = .ok (.iconst 3, 1) := by decide +kernel
theorem d_X9_dropMinute_18 : decode (zmc m_X9_dropMinute) 18 = .ok (.iload_n 1, 1) := by decide +kernel
theorem d_X9_dropMinute_19 : decode (zmc m_X9_dropMinute) 19 = .ok (.invokevirtual 57, 3) := by decide +kernel
theorem d_X9_dropMinute_22 : decode (zmc m_X9_dropMinute) 22 = .ok (.iadd, 1) := by decide +kernel
theorem d_X9_dropMinute_23 : decode (zmc m_X9_dropMinute) 23 = .ok (.aload_n 0, 1) := by decide +kernel
theorem d_X9_dropMinute_24 : decode (zmc m_X9_dropMinute) 24 = .ok (.iconst 1, 1) := by decide +kernel
theorem d_X9_dropMinute_25 : decode (zmc m_X9_dropMinute) 25 = .ok (.iload_n 1, 1) := by decide +kernel
theorem d_X9_dropMinute_26 : decode (zmc m_X9_dropMinute) 26 = .ok (.invokevirtual 57, 3) := by decide +kernel
theorem d_X9_dropMinute_29 : decode (zmc m_X9_dropMinute) 29 = .ok (.isub, 1) := by decide +kernel
theorem d_X9_dropMinute_30 : decode (zmc m_X9_dropMinute) 30 = .ok (.istore_n 2, 1) := by decide +kernel
theorem d_X9_dropMinute_31 : decode (zmc m_X9_dropMinute) 31 = .ok (.iconst 0, 1) := by decide +kernel
theorem d_X9_dropMinute_32 : decode (zmc m_X9_dropMinute) 32 = .ok (.iload_n 2, 1) := by decide +kernel
theorem d_X9_dropMinute_33 : decode (zmc m_X9_dropMinute) 33 = .ok (.invokestatic 68, 3) := by decide +kernel
theorem d_X9_dropMinute_36 : decode (zmc m_X9_dropMinute) 36 = .ok (.ireturn, 1) := by decide +kernel
theorem d_X9_firstToDrop_0 : decode (zmc m_X9_firstToDrop) 0 = .ok (.bipush (-2), 2) := by decide +kernel
theorem d_X9_firstToDrop_2 : decode (zmc m_X9_firstToDrop) 2 = .ok (.istore_n 1, 1) := by decide +kernel
theorem d_X9_firstToDrop_3 : decode (zmc m_X9_firstToDrop) 3 = .ok (.iconst 0, 1) := by decide +kernel
theorem d_X9_firstToDrop_4 : decode (zmc m_X9_firstToDrop) 4 = .ok (.istore_n 2, 1) := by decide +kernel
theorem d_X9_firstToDrop_5 : decode (zmc m_X9_firstToDrop) 5 = .ok (.iload_n 2, 1) := by decide +kernel
theorem d_X9_firstToDrop_6 : decode (zmc m_X9_firstToDrop) 6 = .ok (.aload_n 0, 1) := by decide +kernel
theorem d_X9_firstToDrop_7 : decode (zmc m_X9_firstToDrop) 7 = .ok (.getfield 23, 3) := by decide +kernel
theorem d_X9_firstToDrop_10 : decode (zmc m_X9_firstToDrop) 10 = .ok (.if_icmp .ge 49, 3) := by decide +kernel
theorem d_X9_firstToDrop_13 : decode (zmc m_X9_firstToDrop) 13 = .ok (.iload_n 1, 1) := by decide +kernel
theorem d_X9_firstToDrop_14 : decode (zmc m_X9_firstToDrop) 14 = .ok (.bipush (-2), 2) := by decide +kernel
theorem d_X9_firstToDrop_16 : decode (zmc m_X9_firstToDrop) 16 = .ok (.if_icmp .eq 16, 3) := by decide +kernel
theorem d_X9_firstToDrop_19 : decode (zmc m_X9_firstToDrop) 19 = .ok (.aload_n 0, 1) := by decide +kernel
theorem d_X9_firstToDrop_20 : decode (zmc m_X9_firstToDrop) 20 = .ok (.iload_n 2, 1) := by decide +kernel
theorem d_X9_firstToDrop_21 : decode (zmc m_X9_firstToDrop) 21 = .ok (.invokevirtual 73, 3) := by decide +kernel
theorem d_X9_firstToDrop_24 : decode (zmc m_X9_firstToDrop) 24 = .ok (.aload_n 0, 1) := by decide +kernel
theorem d_X9_firstToDrop_25 : decode (zmc m_X9_firstToDrop) 25 = .ok (.iload_n 1, 1) := by decide +kernel
theorem d_X9_firstToDrop_26 : decode (zmc m_X9_firstToDrop) 26 = .ok (.invokevirtual 73, 3) := by decide +kernel
theorem d_X9_firstToDrop_29 : decode (zmc m_X9_firstToDrop) 29 = .ok (.if_icmp .ge 7, 3) := by decide +kernel
theorem d_X9_firstToDrop_32 : decode (zmc m_X9_firstToDrop) 32 = .ok (.iconst 1, 1) := by decide +kernel
theorem d_X9_firstToDrop_33 : decode (zmc m_X9_firstToDrop) 33 = .ok (.goto 4, 3) := by decide +kernel
theorem d_X9_firstToDrop_36 : decode (zmc m_X9_firstToDrop) 36 = .ok (.iconst 0, 1) := by decide +kernel
theorem d_X9_firstToDrop_37 : decode (zmc m_X9_firstToDrop) 37 = .ok (.istore_n 3, 1) := by decide +kernel
theorem d_X9_firstToDrop_38 : decode (zmc m_X9_firstToDrop) 38 = .ok (.aload_n 0, 1) := by decide +kernel
theorem d_X9_firstToDrop_39 : decode (zmc m_X9_firstToDrop) 39 = .ok (.iconst 4, 1) := by decide +kernel
theorem d_X9_firstToDrop_40 : decode (zmc m_X9_firstToDrop) 40 = .ok (.iload_n 2, 1) := by decide +kernel
theorem d_X9_firstToDrop_41 : decode (zmc m_X9_firstToDrop) 41 = .ok (.invokevirtual 57, 3) := by decide +kernel
theorem d_X9_firstToDrop_44 : decode (zmc m_X9_firstToDrop) 44 = .ok (.ifCond .eq 9, 3) := by decide +kernel
theorem d_X9_firstToDrop_47 : decode (zmc m_X9_firstToDrop) 47 = .ok (.iload_n 3, 1) := by decide +kernel
theorem d_X9_firstToDrop_48 : decode (zmc m_X9_firstToDrop) 48 = .ok (.ifCond .eq 5, 3) := by decide +kernel
theorem d_X9_firstToDrop_51 : decode (zmc m_X9_firstToDrop) 51 = .ok (.iload_n 2, 1) := by decide +kernel
theorem d_X9_firstToDrop_52 : decode (zmc m_X9_firstToDrop) 52 = .ok (.istore_n 1, 1) := by decide +kernel
theorem d_X9_firstToDrop_53 : decode (zmc m_X9_firstToDrop) 53 = .ok (.iinc 2 1, 3) := by decide +kernel
theorem d_X9_firstToDrop_56 : decode (zmc m_X9_firstToDrop) 56 = .ok (.goto (-51), 3) := by decide +kernel
theorem d_X9_firstToDrop_59 : decode (zmc m_X9_firstToDrop) 59 = .ok (.iload_n 1, 1) := by decide +kernel
theorem d_X9_firstToDrop_60 : decode (zmc m_X9_firstToDrop) 60 = .ok (.ireturn, 1) := by decide +kernel
theorem d_X9_goOn_0 : decode (zmc m_X9_goOn) 0 = .ok (.aload_n 0, 1) := by decide +kernel
theorem d_X9_goOn_1 : decode (zmc m_X9_goOn) 1 = .ok (.getfield 20, 3) := by decide +kernel
theorem d_X9_goOn_4 : decode (zmc m_X9_goOn) 4 = .ok (.iconst 4, 1) := by decide +kernel
theorem d_X9_goOn_5 : decode (zmc m_X9_goOn) 5 = .ok (.dup2, 1) := by decide +kernel
theorem d_X9_goOn_6 : decode (zmc m_X9_goOn) 6 = .ok (.iaload, 1) := by decide +kernel
theorem d_X9_goOn_7 : decode (zmc m_X9_goOn) 7 = .ok (.iload_n 1, 1) := by decide +kernel
theorem d_X9_goOn_8 : decode (zmc m_X9_goOn) 8 = .ok (.iadd, 1) := by decide +kernel
theorem d_X9_goOn_9 : decode (zmc m_X9_goOn) 9 = .ok (.iastore, 1) := by decide +kernel
theorem d_X9_goOn_10 : decode (zmc m_X9_goOn) 10 = .ok (.aload_n 0, 1) := by decide +kernel
theorem d_X9_goOn_11 : decode (zmc m_X9_goOn) 11 = .ok (.bipush 9, 2) := by decide +kernel
theorem d_X9_goOn_13 : decode (zmc m_X9_goOn) 13 = .ok (.iconst 0, 1) := by decide +kernel
theorem d_X9_goOn_14 : decode (zmc m_X9_goOn) 14 = .ok (.sipush 999, 3) := by decide +kernel
theorem d_X9_goOn_17 : decode (zmc m_X9_goOn) 17 = .ok (.aload_n 0, 1) := by decide +kernel
theorem d_X9_goOn_18 : decode (zmc m_X9_goOn) 18 = .ok (.bipush 9, 2) := by decide +kernel
theorem d_X9_goOn_20 : decode (zmc m_X9_goOn) 20 = .ok (.iconst 0, 1) := by decide +kernel
theorem d_X9_goOn_21 : decode (zmc m_X9_goOn) 21 = .ok (.invokevirtual 57, 3) := by decide +kernel
theorem d_X9_goOn_24 : decode (zmc m_X9_goOn) 24 = .ok (.iload_n 1, 1) := by decide +kernel
theorem d_X9_goOn_25 : decode (zmc m_X9_goOn) 25 = .ok (.iadd, 1) := by decide +kernel
theorem d_X9_goOn_26 : decode (zmc m_X9_goOn) 26 = .ok (.invokestatic 76, 3) := by decide +kernel
theorem d_X9_goOn_29 : decode (zmc m_X9_goOn) 29 = .ok (.invokevirtual 53, 3) := by decide +kernel
theorem d_X9_goOn_32 : decode (zmc m_X9_goOn) 32 = .ok (.return_, 1) := by decide +kernel
theorem d_X9_isTakenByOther_0 : decode (zmc m_X9_isTakenByOther) 0 = .ok (.aload_n 0, 1) := by decide +kernel
theorem d_X9_isTakenByOther_1 : decode (zmc m_X9_isTakenByOther) 1 = .ok (.iload_n 1, 1) := by decide +kernel
theorem d_X9_isTakenByOther_2 : decode (zmc m_X9_isTakenByOther) 2 = .ok (.invokevirtual 47, 3) := by decide +kernel
theorem d_X9_isTakenByOther_5 : decode (zmc m_X9_isTakenByOther) 5 = .ok (.istore_n 3, 1) := by decide +kernel
theorem d_X9_isTakenByOther_6 : decode (zmc m_X9_isTakenByOther) 6 = .ok (.iload_n 3, 1) := by decide +kernel
theorem d_X9_isTakenByOther_7 : decode (zmc m_X9_isTakenByOther) 7 = .ok (.bipush (-2), 2) := by decide +kernel
theorem d_X9_isTakenByOther_9 : decode (zmc m_X9_isTakenByOther) 9 = .ok (.if_icmp .eq 12, 3) := by decide +kernel
theorem d_X9_isTakenByOther_12 : decode (zmc m_X9_isTakenByOther) 12 = .ok (.iload_n 3, 1) := by decide +kernel
theorem d_X9_isTakenByOther_13 : decode (zmc m_X9_isTakenByOther) 13 = .ok (.iload_n 2, 1) := by decide +kernel
theorem d_X9_isTakenByOther_14 : decode (zmc m_X9_isTakenByOther) 14 = .ok (.if_icmp .eq 7, 3) := by decide +kernel
theorem d_X9_isTakenByOther_17 : decode (zmc m_X9_isTakenByOther) 17 = .ok (.iconst 1, 1) := by decide +kernel
theorem d_X9_isTakenByOther_18 : decode (zmc m_X9_isTakenByOther) 18 = .ok (.goto 4, 3) := by decide +kernel
theorem d_X9_isTakenByOther_21 : decode (zmc m_X9_isTakenByOther) 21 = .ok (.iconst 0, 1) := by decide +kernel
theorem d_X9_isTakenByOther_22 : decode (zmc m_X9_isTakenByOther) 22 = .ok (.ireturn, 1) := by decide +kernel
theorem d_X9_isThrow_0 : decode (zmc m_X9_isThrow) 0 = .ok (.iload_n 1, 1) := by decide +kernel
theorem d_X9_isThrow_1 : decode (zmc m_X9_isThrow) 1 = .ok (.ifCond .lt 32, 3) := by decide +kernel
theorem d_X9_isThrow_4 : decode (zmc m_X9_isThrow) 4 = .ok (.aload_n 0, 1) := by decide +kernel
theorem d_X9_isThrow_5 : decode (zmc m_X9_isThrow) 5 = .ok (.iconst 0, 1) := by decide +kernel
theorem d_X9_isThrow_6 : decode (zmc m_X9_isThrow) 6 = .ok (.iload_n 1, 1) := by decide +kernel
theorem d_X9_isThrow_7 : decode (zmc m_X9_isThrow) 7 = .ok (.bipush 10, 2) := by decide +kernel
theorem d_X9_isThrow_9 : decode (zmc m_X9_isThrow) 9 = .ok (.idiv, 1) := by decide +kernel
theorem d_X9_isThrow_10 : decode (zmc m_X9_isThrow) 10 = .ok (.invokevirtual 43, 3) := by decide +kernel
theorem d_X9_isThrow_13 : decode (zmc m_X9_isThrow) 13 = .ok (.ifCond .eq 20, 3) := by decide +kernel
theorem d_X9_isThrow_16 : decode (zmc m_X9_isThrow) 16 = .ok (.aload_n 0, 1) := by decide +kernel
theorem d_X9_isThrow_17 : decode (zmc m_X9_isThrow) 17 = .ok (.bipush 6, 2) := by decide +kernel
theorem d_X9_isThrow_19 : decode (zmc m_X9_isThrow) 19 = .ok (.iload_n 1, 1) := by decide +kernel
theorem d_X9_isThrow_20 : decode (zmc m_X9_isThrow) 20 = .ok (.bipush 10, 2) := by decide +kernel
theorem d_X9_isThrow_22 : decode (zmc m_X9_isThrow) 22 = .ok (.irem, 1) := by decide +kernel
theorem d_X9_isThrow_23 : decode (zmc m_X9_isThrow) 23 = .ok (.invokevirtual 43, 3) := by decide +kernel
theorem d_X9_isThrow_26 : decode (zmc m_X9_isThrow) 26 = .ok (.ifCond .eq 7, 3) := by decide +kernel
theorem d_X9_isThrow_29 : decode (zmc m_X9_isThrow) 29 = .ok (.iconst 1, 1) := by decide +kernel
theorem d_X9_isThrow_30 : decode (zmc m_X9_isThrow) 30 = .ok (.goto 4, 3) := by decide +kernel
theorem d_X9_isThrow_33 : decode (zmc m_X9_isThrow) 33 = .ok (.iconst 0, 1) := by decide +kernel
theorem d_X9_isThrow_34 : decode (zmc m_X9_isThrow) 34 = .ok (.ireturn, 1) := by decide +kernel
theorem d_X9_placeOnSand_0 : decode (zmc m_X9_placeOnSand) 0 = .ok (.iconst 3, 1) := by decide +kernel
theorem d_X9_placeOnSand_1 : decode (zmc m_X9_placeOnSand) 1 = .ok (.aload_n 0, 1) := by decide +kernel
theorem d_X9_placeOnSand_2 : decode (zmc m_X9_placeOnSand) 2 = .ok (.iconst 0, 1) := by decide +kernel
theorem d_X9_placeOnSand_3 : decode (zmc m_X9_placeOnSand) 3 = .ok (.iload_n 1, 1) := by decide +kernel
theorem d_X9_placeOnSand_4 : decode (zmc m_X9_placeOnSand) 4 = .ok (.invokevirtual 57, 3) := by decide +kernel
theorem d_X9_placeOnSand_7 : decode (zmc m_X9_placeOnSand) 7 = .ok (.bipush 8, 2) := by decide +kernel
theorem d_X9_placeOnSand_9 : decode (zmc m_X9_placeOnSand) 9 = .ok (.irem, 1) := by decide +kernel
theorem d_X9_placeOnSand_10 : decode (zmc m_X9_placeOnSand) 10 = .ok (.imul, 1) := by decide +kernel
theorem d_X9_placeOnSand_11 : decode (zmc m_X9_placeOnSand) 11 = .ok (.aload_n 0, 1) := by decide +kernel
theorem d_X9_placeOnSand_12 : decode (zmc m_X9_placeOnSand) 12 = .ok (.iconst 2, 1) := by decide +kernel
theorem d_X9_placeOnSand_13 : decode (zmc m_X9_placeOnSand) 13 = .ok (.iload_n 1, 1) := by decide +kernel
theorem d_X9_placeOnSand_14 : decode (zmc m_X9_placeOnSand) 14 = .ok (.invokevirtual 57, 3) := by decide +kernel
theorem d_X9_placeOnSand_17 : decode (zmc m_X9_placeOnSand) 17 = .ok (.iadd, 1) := by decide +kernel
theorem d_X9_placeOnSand_18 : decode (zmc m_X9_placeOnSand) 18 = .ok (.bipush 24, 2) := by decide +kernel
theorem d_X9_placeOnSand_20 : decode (zmc m_X9_placeOnSand) 20 = .ok (.irem, 1) := by decide +kernel
theorem d_X9_placeOnSand_21 : decode (zmc m_X9_placeOnSand) 21 = .ok (.ireturn, 1) := by decide +kernel
theorem d_X9_upAfter_0 : decode (zmc m_X9_upAfter) 0 = .ok (.aload_n 0, 1) := by decide +kernel
theorem d_X9_upAfter_1 : decode (zmc m_X9_upAfter) 1 = .ok (.iconst 4, 1) := by decide +kernel
theorem d_X9_upAfter_2 : decode (zmc m_X9_upAfter) 2 = .ok (.invokevirtual 61, 3) := by decide +kernel
theorem d_X9_upAfter_5 : decode (zmc m_X9_upAfter) 5 = .ok (.istore_n 2, 1) := by decide +kernel
theorem d_X9_upAfter_6 : decode (zmc m_X9_upAfter) 6 = .ok (.iconst 0, 1) := by decide +kernel
theorem d_X9_upAfter_7 : decode (zmc m_X9_upAfter) 7 = .ok (.istore_n 3, 1) := by decide +kernel
theorem d_X9_upAfter_8 : decode (zmc m_X9_upAfter) 8 = .ok (.iload_n 3, 1) := by decide +kernel
theorem d_X9_upAfter_9 : decode (zmc m_X9_upAfter) 9 = .ok (.aload_n 0, 1) := by decide +kernel
theorem d_X9_upAfter_10 : decode (zmc m_X9_upAfter) 10 = .ok (.getfield 23, 3) := by decide +kernel
theorem d_X9_upAfter_13 : decode (zmc m_X9_upAfter) 13 = .ok (.if_icmp .ge 26, 3) := by decide +kernel
theorem d_X9_upAfter_16 : decode (zmc m_X9_upAfter) 16 = .ok (.aload_n 0, 1) := by decide +kernel
theorem d_X9_upAfter_17 : decode (zmc m_X9_upAfter) 17 = .ok (.iload_n 3, 1) := by decide +kernel
theorem d_X9_upAfter_18 : decode (zmc m_X9_upAfter) 18 = .ok (.invokevirtual 73, 3) := by decide +kernel
theorem d_X9_upAfter_21 : decode (zmc m_X9_upAfter) 21 = .ok (.iload_n 1, 1) := by decide +kernel
theorem d_X9_upAfter_22 : decode (zmc m_X9_upAfter) 22 = .ok (.if_icmp .gt 11, 3) := by decide +kernel
theorem d_X9_upAfter_25 : decode (zmc m_X9_upAfter) 25 = .ok (.iload_n 2, 1) := by decide +kernel
theorem d_X9_upAfter_26 : decode (zmc m_X9_upAfter) 26 = .ok (.iconst 1, 1) := by decide +kernel
theorem d_X9_upAfter_27 : decode (zmc m_X9_upAfter) 27 = .ok (.iload_n 3, 1) := by decide +kernel
theorem d_X9_upAfter_28 : decode (zmc m_X9_upAfter) 28 = .ok (.ishl, 1) := by decide +kernel
theorem d_X9_upAfter_29 : decode (zmc m_X9_upAfter) 29 = .ok (.iconst (-1), 1) := by decide +kernel
theorem d_X9_upAfter_30 : decode (zmc m_X9_upAfter) 30 = .ok (.ixor, 1) := by decide +kernel
theorem d_X9_upAfter_31 : decode (zmc m_X9_upAfter) 31 = .ok (.iand, 1) := by decide +kernel
theorem d_X9_upAfter_32 : decode (zmc m_X9_upAfter) 32 = .ok (.istore_n 2, 1) := by decide +kernel
theorem d_X9_upAfter_33 : decode (zmc m_X9_upAfter) 33 = .ok (.iinc 3 1, 3) := by decide +kernel
theorem d_X9_upAfter_36 : decode (zmc m_X9_upAfter) 36 = .ok (.goto (-28), 3) := by decide +kernel
theorem d_X9_upAfter_39 : decode (zmc m_X9_upAfter) 39 = .ok (.iload_n 2, 1) := by decide +kernel
theorem d_X9_upAfter_40 : decode (zmc m_X9_upAfter) 40 = .ok (.ireturn, 1) := by decide +kernel
theorem d_X9_waiting_0 : decode (zmc m_X9_waiting) 0 = .ok (.aload_n 0, 1) := by decide +kernel
theorem d_X9_waiting_1 : decode (zmc m_X9_waiting) 1 = .ok (.invokevirtual 64, 3) := by decide +kernel
theorem d_X9_waiting_4 : decode (zmc m_X9_waiting) 4 = .ok (.aload_n 0, 1) := by decide +kernel
theorem d_X9_waiting_5 : decode (zmc m_X9_waiting) 5 = .ok (.iconst 4, 1) := by decide +kernel
theorem d_X9_waiting_6 : decode (zmc m_X9_waiting) 6 = .ok (.invokevirtual 61, 3) := by decide +kernel
theorem d_X9_waiting_9 : decode (zmc m_X9_waiting) 9 = .ok (.iconst (-1), 1) := by decide +kernel
theorem d_X9_waiting_10 : decode (zmc m_X9_waiting) 10 = .ok (.ixor, 1) := by decide +kernel
theorem d_X9_waiting_11 : decode (zmc m_X9_waiting) 11 = .ok (.iand, 1) := by decide +kernel
theorem d_X9_waiting_12 : decode (zmc m_X9_waiting) 12 = .ok (.ireturn, 1) := by decide +kernel
/-! THE SKY, ITS OTHER METHODS -/
theorem zHold_0 {ns nt nh : Nat} : zHold ns nt nh 0 = ns ∧ zHold ns nt nh 1 = ns ∧ zHold ns nt nh 2 = ns ∧ zHold ns nt nh 3 = ns ∧ zHold ns nt nh 4 = ns ∧ zHold ns nt nh 5 = ns ∧ zHold ns nt nh 6 = nt ∧ zHold ns nt nh 7 = nt ∧ zHold ns nt nh 8 = nh ∧ zHold ns nt nh 9 = 1 ∧ zHold ns nt nh 10 = 1 ∧ zHold ns nt nh 11 = 1 := ⟨rfl, rfl, rfl, rfl, rfl, rfl, rfl, rfl, rfl, rfl, rfl, rfl⟩
theorem zcl_lit : (0 : Int32).toNatClampNeg = 0 ∧ (1 : Int32).toNatClampNeg = 1 ∧ (2 : Int32).toNatClampNeg = 2 ∧ (3 : Int32).toNatClampNeg = 3 ∧ (4 : Int32).toNatClampNeg = 4 ∧ (5 : Int32).toNatClampNeg = 5 ∧ (6 : Int32).toNatClampNeg = 6 ∧ (7 : Int32).toNatClampNeg = 7 ∧ (8 : Int32).toNatClampNeg = 8 ∧ (9 : Int32).toNatClampNeg = 9 ∧ (10 : Int32).toNatClampNeg = 10 ∧ (11 : Int32).toNatClampNeg = 11 := ⟨rfl, rfl, rfl, rfl, rfl, rfl, rfl, rfl, rfl, rfl, rfl, rfl⟩
theorem zn_ge {k : Nat} (h : k < 2 ^ 31) : (0 : Int32) ≤ nI k := nI_pos' h
theorem zhas_n {k n : Nat} (h : k < n) (hn : n < 2 ^ 31) : (0 : Int32) ≤ nI k ∧ nI k < nI n := ⟨zn_ge (by omega), (nI_ltI (by omega) hn).mpr h⟩
theorem zGet_n {I : Nat → Nat → Int32} {ns nt nh k n : Nat} {what : Int32} (h : k < n) (hn : n < 2 ^ 31) (e : zHold ns nt nh what = n) : zGet I ns nt nh what (nI k) = I (3 + what.toNatClampNeg) k := by
  unfold zGet
  rw [e, if_pos (zhas_n h hn), zcl_n (by omega)]
theorem zSet_n {I : Nat → Nat → Int32} {ns nt nh k n : Nat} {what v : Int32} (h : k < n) (hn : n < 2 ^ 31) (e : zHold ns nt nh what = n) : zSetI I ns nt nh what (nI k) v = zup I (3 + what.toNatClampNeg) (zup (I (3 + what.toNatClampNeg)) k v) := by
  unfold zSetI
  rw [e, if_pos (zhas_n h hn), zcl_n (by omega)]
/-- what counts of the bits of a number, as the library counts -/
def zus (x y : Int32) : Int32 := (x.toUInt32 >>> (y.toUInt32 &&& Int32.toUInt32 31)).toInt32
def zbc (i : Int32) : Int32 :=
  let a := i - (zus i 1 &&& 1431655765)
  let b := (a &&& 858993459) + (zus a 2 &&& 858993459)
  let c := (b + zus b 4) &&& 252645135
  let e := c + zus c 8
  let f := e + zus e 16
  f &&& 63
/-- the bits of those k below n of which f says so -/
def zbits (f : Nat → Int32) (n : Nat) : Int32 := zfor (fun k s => if f k = 0 then s else s ||| ((1 : Int32) <<< (nI k &&& 31))) n 0 0
def zAtHand (I : Nat → Nat → Int32) (ns : Nat) : Int32 := ((1 : Int32) <<< (nI ns &&& 31) - 1) &&& (zbits (I 8) ns ^^^ (-1))
def zWait (I : Nat → Nat → Int32) (ns : Nat) : Int32 := zAtHand I ns &&& (zbits (I 7) ns ^^^ (-1))
def zDrop (I : Nat → Nat → Int32) (k : Nat) : Int32 := let m := I 13 0 + 3 * I 5 k + I 6 k - I 4 k; if 0 < m then m else 0
def zFirst (I : Nat → Nat → Int32) (ns : Nat) : Int32 := zfor (fun k s => if (s = -2 ∨ zDrop I k < zDrop I s.toNatClampNeg) ∧ ¬ I 7 k = 0 then nI k else s) ns 0 (-2)
def zUpAf (I : Nat → Nat → Int32) (ns : Nat) (m : Int32) : Int32 := zfor (fun k s => if m < zDrop I k then s else s &&& (((1 : Int32) <<< (nI k &&& 31)) ^^^ (-1))) ns 0 (zbits (I 7) ns)
def zPlace (I : Nat → Nat → Int32) (k : Nat) : Int32 := let z := 3 * (I 3 k - I 3 k / 8 * 8) + I 5 k; z - z / 24 * 24
def zGoOn (I : Nat → Nat → Int32) (m : Int32) : Nat → Nat → Int32 := zup (zup I 15 (zup (I 15) 4 (I 15 4 + m))) 12 (zup (I 12) 0 (if I 12 0 + m < 999 then I 12 0 + m else 999))
def zDue (I : Nat → Nat → Int32) (ns : Nat) : Int32 := zbits (I 7) ns &&& (zUpAf I ns (I 12 0) ^^^ (-1))
def zDownUp (due : Int32) (f : Nat → Int32) (ns k : Nat) : Nat → Int32 := zfor (fun k f => if (due >>> (nI k &&& 31)) &&& 1 = 0 then f else zup f k 0) ns k f
def zStarI (I : Nat → Nat → Int32) (ns : Nat) (cell bright sticky : Int32) : Nat → Nat → Int32 := zup (zup (zup (zup (zup I 1 (zup (I 1) 3 (nI (ns + 1)))) 3 (zup (I 3) ns cell)) 4 (zup (I 4) ns bright)) 5 (zup (I 5) ns sticky)) 6 (zup (I 6) ns 5)
theorem zup_zup {α : Type} {f : Nat → α} {k : Nat} {x y : α} : zup (zup f k x) k y = zup f k y := by
  funext j; unfold zup; split <;> rfl
section S9
variable {g : zG} {l : Launch} {d : Nat} {I : Nat → Nat → Int32} {L : Nat → Nat → Int64} {fs : Nat × Nat × Option Nat} {ns nt nh : Nat}
theorem sp_J6_bitCount (hd : 1 ≤ d) {x : Int32} : zPure g l d m_J6_bitCount [.int x] I L fs (.int (zbc x)) := by
  refine zSp_of (lv := [(0, .int x)]) k_J6_bitCount rfl (Nat.le_of_ble_eq_true rfl) ?_
  refine zIloadN d_J6_bitCount_0 rfl rfl (q := 1) rfl ?_
  refine zIloadN d_J6_bitCount_1 rfl rfl (q := 2) rfl ?_
  refine zIconst d_J6_bitCount_2 (v := 1) ic_1 (q := 3) rfl ?_
  refine zIushr d_J6_bitCount_3 (q := 4) rfl ?_
  refine zLdcw d_J6_bitCount_4 co_J6_265 (q := 7) rfl ?_
  refine zIand d_J6_bitCount_7 (q := 8) rfl ?_
  refine zIsub d_J6_bitCount_8 (q := 9) rfl ?_
  refine zIstoreN d_J6_bitCount_9 rfl (by decide) rfl (q := 10) rfl ?_
  refine zIloadN d_J6_bitCount_10 rfl rfl (q := 11) rfl ?_
  refine zLdcw d_J6_bitCount_11 co_J6_266 (q := 14) rfl ?_
  refine zIand d_J6_bitCount_14 (q := 15) rfl ?_
  refine zIloadN d_J6_bitCount_15 rfl rfl (q := 16) rfl ?_
  refine zIconst d_J6_bitCount_16 (v := 2) ic_2 (q := 17) rfl ?_
  refine zIushr d_J6_bitCount_17 (q := 18) rfl ?_
  refine zLdcw d_J6_bitCount_18 co_J6_266 (q := 21) rfl ?_
  refine zIand d_J6_bitCount_21 (q := 22) rfl ?_
  refine zIadd d_J6_bitCount_22 (q := 23) rfl ?_
  refine zIstoreN d_J6_bitCount_23 rfl (by decide) rfl (q := 24) rfl ?_
  refine zIloadN d_J6_bitCount_24 rfl rfl (q := 25) rfl ?_
  refine zIloadN d_J6_bitCount_25 rfl rfl (q := 26) rfl ?_
  refine zIconst d_J6_bitCount_26 (v := 4) ic_4 (q := 27) rfl ?_
  refine zIushr d_J6_bitCount_27 (q := 28) rfl ?_
  refine zIadd d_J6_bitCount_28 (q := 29) rfl ?_
  refine zLdcw d_J6_bitCount_29 co_J6_267 (q := 32) rfl ?_
  refine zIand d_J6_bitCount_32 (q := 33) rfl ?_
  refine zIstoreN d_J6_bitCount_33 rfl (by decide) rfl (q := 34) rfl ?_
  refine zIloadN d_J6_bitCount_34 rfl rfl (q := 35) rfl ?_
  refine zIloadN d_J6_bitCount_35 rfl rfl (q := 36) rfl ?_
  refine zBipush d_J6_bitCount_36 (v := 8) bc_8 (q := 38) rfl ?_
  refine zIushr d_J6_bitCount_38 (q := 39) rfl ?_
  refine zIadd d_J6_bitCount_39 (q := 40) rfl ?_
  refine zIstoreN d_J6_bitCount_40 rfl (by decide) rfl (q := 41) rfl ?_
  refine zIloadN d_J6_bitCount_41 rfl rfl (q := 42) rfl ?_
  refine zIloadN d_J6_bitCount_42 rfl rfl (q := 43) rfl ?_
  refine zBipush d_J6_bitCount_43 (v := 16) bc_16 (q := 45) rfl ?_
  refine zIushr d_J6_bitCount_45 (q := 46) rfl ?_
  refine zIadd d_J6_bitCount_46 (q := 47) rfl ?_
  refine zIstoreN d_J6_bitCount_47 rfl (by decide) rfl (q := 48) rfl ?_
  refine zIloadN d_J6_bitCount_48 rfl rfl (q := 49) rfl ?_
  refine zBipush d_J6_bitCount_49 (v := 63) bc_63 (q := 51) rfl ?_
  refine zIand d_J6_bitCount_51 (q := 52) rfl ?_
  refine zIret d_J6_bitCount_52 rfl rfl rfl ?_
  exact zPi rfl
theorem sp_get0 (hd : 3 ≤ d) (hK : zSky I ns nt nh) {k : Nat} (h : k < ns) : zPure g l d m_X9_get [.ref 1, .int 0, .int (nI k)] I L fs (.int (I 3 k)) := (zGet_n (I := I) (what := 0) h (by have := hK.2; omega) zHold_0.1) ▸ sp_X9_get hd hK
theorem sp_get1 (hd : 3 ≤ d) (hK : zSky I ns nt nh) {k : Nat} (h : k < ns) : zPure g l d m_X9_get [.ref 1, .int 1, .int (nI k)] I L fs (.int (I 4 k)) := (zGet_n (I := I) (what := 1) h (by have := hK.2; omega) rfl) ▸ sp_X9_get hd hK
theorem sp_get2 (hd : 3 ≤ d) (hK : zSky I ns nt nh) {k : Nat} (h : k < ns) : zPure g l d m_X9_get [.ref 1, .int 2, .int (nI k)] I L fs (.int (I 5 k)) := (zGet_n (I := I) (what := 2) h (by have := hK.2; omega) rfl) ▸ sp_X9_get hd hK
theorem sp_get3 (hd : 3 ≤ d) (hK : zSky I ns nt nh) {k : Nat} (h : k < ns) : zPure g l d m_X9_get [.ref 1, .int 3, .int (nI k)] I L fs (.int (I 6 k)) := (zGet_n (I := I) (what := 3) h (by have := hK.2; omega) rfl) ▸ sp_X9_get hd hK
theorem sp_get4 (hd : 3 ≤ d) (hK : zSky I ns nt nh) {k : Nat} (h : k < ns) : zPure g l d m_X9_get [.ref 1, .int 4, .int (nI k)] I L fs (.int (I 7 k)) := (zGet_n (I := I) (what := 4) h (by have := hK.2; omega) rfl) ▸ sp_X9_get hd hK
theorem sp_get5 (hd : 3 ≤ d) (hK : zSky I ns nt nh) {k : Nat} (h : k < ns) : zPure g l d m_X9_get [.ref 1, .int 5, .int (nI k)] I L fs (.int (I 8 k)) := (zGet_n (I := I) (what := 5) h (by have := hK.2; omega) rfl) ▸ sp_X9_get hd hK
theorem sp_get6 (hd : 3 ≤ d) (hK : zSky I ns nt nh) {k : Nat} (h : k < nt) : zPure g l d m_X9_get [.ref 1, .int 6, .int (nI k)] I L fs (.int (I 9 k)) := (zGet_n (I := I) (what := 6) h (by have := hK.2; omega) rfl) ▸ sp_X9_get hd hK
theorem sp_get7 (hd : 3 ≤ d) (hK : zSky I ns nt nh) {k : Nat} (h : k < nt) : zPure g l d m_X9_get [.ref 1, .int 7, .int (nI k)] I L fs (.int (I 10 k)) := (zGet_n (I := I) (what := 7) h (by have := hK.2; omega) rfl) ▸ sp_X9_get hd hK
theorem sp_get9 (hd : 3 ≤ d) (hK : zSky I ns nt nh) : zPure g l d m_X9_get [.ref 1, .int 9, .int 0] I L fs (.int (I 12 0)) := (zGet_n (I := I) (what := 9) (k := 0) (n := 1) (by omega) (by omega) rfl) ▸ sp_X9_get (number := 0) hd hK
theorem sp_get10 (hd : 3 ≤ d) (hK : zSky I ns nt nh) : zPure g l d m_X9_get [.ref 1, .int 10, .int 0] I L fs (.int (I 13 0)) := (zGet_n (I := I) (what := 10) (k := 0) (n := 1) (by omega) (by omega) rfl) ▸ sp_X9_get (number := 0) hd hK
theorem sp_get11 (hd : 3 ≤ d) (hK : zSky I ns nt nh) : zPure g l d m_X9_get [.ref 1, .int 11, .int 0] I L fs (.int (I 14 0)) := (zGet_n (I := I) (what := 11) (k := 0) (n := 1) (by omega) (by omega) rfl) ▸ sp_X9_get (number := 0) hd hK
theorem sp_set0 (hd : 3 ≤ d) (hK : zSky I ns nt nh) {k : Nat} {v : Int32} (h : k < ns) : zSp g l d 100 m_X9_set [.ref 1, .int 0, .int (nI k), .int v] (zU I L fs) (zV (fun w => w = zU (zup I 3 (zup (I 3) k v)) L fs)) := (zSet_n (I := I) (v := v) (what := 0) h (by have := hK.2; omega) zHold_0.1) ▸ sp_X9_set hd hK
theorem sp_set1 (hd : 3 ≤ d) (hK : zSky I ns nt nh) {k : Nat} {v : Int32} (h : k < ns) : zSp g l d 100 m_X9_set [.ref 1, .int 1, .int (nI k), .int v] (zU I L fs) (zV (fun w => w = zU (zup I 4 (zup (I 4) k v)) L fs)) := (zSet_n (I := I) (v := v) (what := 1) h (by have := hK.2; omega) rfl) ▸ sp_X9_set hd hK
theorem sp_set2 (hd : 3 ≤ d) (hK : zSky I ns nt nh) {k : Nat} {v : Int32} (h : k < ns) : zSp g l d 100 m_X9_set [.ref 1, .int 2, .int (nI k), .int v] (zU I L fs) (zV (fun w => w = zU (zup I 5 (zup (I 5) k v)) L fs)) := (zSet_n (I := I) (v := v) (what := 2) h (by have := hK.2; omega) rfl) ▸ sp_X9_set hd hK
theorem sp_set3 (hd : 3 ≤ d) (hK : zSky I ns nt nh) {k : Nat} {v : Int32} (h : k < ns) : zSp g l d 100 m_X9_set [.ref 1, .int 3, .int (nI k), .int v] (zU I L fs) (zV (fun w => w = zU (zup I 6 (zup (I 6) k v)) L fs)) := (zSet_n (I := I) (v := v) (what := 3) h (by have := hK.2; omega) rfl) ▸ sp_X9_set hd hK
theorem sp_set4 (hd : 3 ≤ d) (hK : zSky I ns nt nh) {k : Nat} {v : Int32} (h : k < ns) : zSp g l d 100 m_X9_set [.ref 1, .int 4, .int (nI k), .int v] (zU I L fs) (zV (fun w => w = zU (zup I 7 (zup (I 7) k v)) L fs)) := (zSet_n (I := I) (v := v) (what := 4) h (by have := hK.2; omega) rfl) ▸ sp_X9_set hd hK
theorem sp_set5 (hd : 3 ≤ d) (hK : zSky I ns nt nh) {k : Nat} {v : Int32} (h : k < ns) : zSp g l d 100 m_X9_set [.ref 1, .int 5, .int (nI k), .int v] (zU I L fs) (zV (fun w => w = zU (zup I 8 (zup (I 8) k v)) L fs)) := (zSet_n (I := I) (v := v) (what := 5) h (by have := hK.2; omega) rfl) ▸ sp_X9_set hd hK
theorem sp_set6 (hd : 3 ≤ d) (hK : zSky I ns nt nh) {k : Nat} {v : Int32} (h : k < nt) : zSp g l d 100 m_X9_set [.ref 1, .int 6, .int (nI k), .int v] (zU I L fs) (zV (fun w => w = zU (zup I 9 (zup (I 9) k v)) L fs)) := (zSet_n (I := I) (v := v) (what := 6) h (by have := hK.2; omega) rfl) ▸ sp_X9_set hd hK
theorem sp_set7 (hd : 3 ≤ d) (hK : zSky I ns nt nh) {k : Nat} {v : Int32} (h : k < nt) : zSp g l d 100 m_X9_set [.ref 1, .int 7, .int (nI k), .int v] (zU I L fs) (zV (fun w => w = zU (zup I 10 (zup (I 10) k v)) L fs)) := (zSet_n (I := I) (v := v) (what := 7) h (by have := hK.2; omega) rfl) ▸ sp_X9_set hd hK
theorem sp_set8 (hd : 3 ≤ d) (hK : zSky I ns nt nh) {k : Nat} {v : Int32} (h : k < nh) : zSp g l d 100 m_X9_set [.ref 1, .int 8, .int (nI k), .int v] (zU I L fs) (zV (fun w => w = zU (zup I 11 (zup (I 11) k v)) L fs)) := (zSet_n (I := I) (v := v) (what := 8) h (by have := hK.2; omega) rfl) ▸ sp_X9_set hd hK
theorem sp_set9 (hd : 3 ≤ d) (hK : zSky I ns nt nh) {v : Int32} : zSp g l d 100 m_X9_set [.ref 1, .int 9, .int 0, .int v] (zU I L fs) (zV (fun w => w = zU (zup I 12 (zup (I 12) 0 v)) L fs)) := (zSet_n (I := I) (v := v) (what := 9) (k := 0) (n := 1) (by omega) (by omega) rfl) ▸ sp_X9_set (number := 0) hd hK
theorem sp_set11 (hd : 3 ≤ d) (hK : zSky I ns nt nh) {v : Int32} : zSp g l d 100 m_X9_set [.ref 1, .int 11, .int 0, .int v] (zU I L fs) (zV (fun w => w = zU (zup I 14 (zup (I 14) 0 v)) L fs)) := (zSet_n (I := I) (v := v) (what := 11) (k := 0) (n := 1) (by omega) (by omega) rfl) ▸ sp_X9_set (number := 0) hd hK
theorem zSky_up {a : Nat} {f : Nat → Int32} (hK : zSky I ns nt nh) (h : a ≠ 1) : zSky (zup I a f) ns nt nh := by
  unfold zSky
  rw [zup_ne (f := I) (Ne.symm h)]
  exact hK
theorem sp_X9_isThrow (hd : 3 ≤ d) (hK : zSky I ns nt nh) {st : Int32} : zPure g l d m_X9_isThrow [.ref 1, .int st] I L fs (.int (bi (0 ≤ st ∧ st / 10 < nI ns ∧ st - st / 10 * 10 < nI nt))) := by
  have e0 : zHold ns nt nh 0 = ns := rfl
  have e6 : zHold ns nt nh 6 = nt := rfl
  refine zSp_of (lv := [(0, .ref 1), (1, .int st)]) k_X9_isThrow rfl (Nat.le_of_ble_eq_true rfl) ?_
  refine zIloadN d_X9_isThrow_0 rfl rfl (q := 1) rfl ?_
  refine zIf_lt d_X9_isThrow_1 (tgt := 33) (q := 4) (by decide) rfl (fun h1 => ?_) (fun h1 => ?_)
  · refine zIconst d_X9_isThrow_33 (v := 0) ic_0 (q := 34) rfl ?_
    refine zIret d_X9_isThrow_34 rfl rfl rfl ?_
    first | exact zPi (bi_t ⟨zn_ge hj, (bi_n0.mp h13).2, (bi_n0.mp h26).2⟩).symm | exact zPi (bi_f (fun q => bi_0.mp h26 ⟨hr0, q.2.2⟩)).symm | exact zPi (bi_f (fun q => bi_0.mp h13 ⟨hq0, q.2.1⟩)).symm | exact zPi (bi_f (fun q => by have := q.1; grind)).symm
  · obtain ⟨j, hj, rfl⟩ := zn0 h1
    have hq : nI j / 10 = nI (j / 10) := pk_div hj (by decide) (by decide)
    have hr : nI j - nI j / 10 * 10 = nI (j % 10) := pk_rem hj (by decide) (by decide)
    have hq0 : (0 : Int32) ≤ nI j / 10 := by rw [hq]; exact zn_ge (by omega)
    have hr0 : (0 : Int32) ≤ nI j - nI j / 10 * 10 := by rw [hr]; exact zn_ge (by omega)
    refine zAloadN d_X9_isThrow_4 rfl rfl (q := 5) rfl ?_
    refine zIconst d_X9_isThrow_5 (v := 0) ic_0 (q := 6) rfl ?_
    refine zIloadN d_X9_isThrow_6 rfl rfl (q := 7) rfl ?_
    refine zBipush d_X9_isThrow_7 (v := 10) bc_10 (q := 9) rfl ?_
    refine zIdiv d_X9_isThrow_9 (by decide) (q := 10) rfl ?_
    refine zCallVP d_X9_isThrow_10 ml_X9_43 k_X9_has ki_X9_has ks_X9_has (sp_X9_has (d := d - 1) (by omega) hK) rfl rfl sh_1 (by decide) rfl (by decide) (Nat.le_of_ble_eq_true rfl) (by decide) (by omega) zns100 (q := 13) rfl ?_
    refine zIf_eq d_X9_isThrow_13 (tgt := 33) (q := 16) (by decide) rfl (fun h13 => ?_) (fun h13 => ?_)
    · refine zIconst d_X9_isThrow_33 (v := 0) ic_0 (q := 34) rfl ?_
      refine zIret d_X9_isThrow_34 rfl rfl rfl ?_
      first | exact zPi (bi_t ⟨zn_ge hj, (bi_n0.mp h13).2, (bi_n0.mp h26).2⟩).symm | exact zPi (bi_f (fun q => bi_0.mp h26 ⟨hr0, q.2.2⟩)).symm | exact zPi (bi_f (fun q => bi_0.mp h13 ⟨hq0, q.2.1⟩)).symm | exact zPi (bi_f (fun q => by have := q.1; grind)).symm
    · refine zAloadN d_X9_isThrow_16 rfl rfl (q := 17) rfl ?_
      refine zBipush d_X9_isThrow_17 (v := 6) bc_6 (q := 19) rfl ?_
      refine zIloadN d_X9_isThrow_19 rfl rfl (q := 20) rfl ?_
      refine zBipush d_X9_isThrow_20 (v := 10) bc_10 (q := 22) rfl ?_
      refine zIrem d_X9_isThrow_22 (by decide) (q := 23) rfl ?_
      refine zCallVP d_X9_isThrow_23 ml_X9_43 k_X9_has ki_X9_has ks_X9_has (sp_X9_has (d := d - 1) (by omega) hK) rfl rfl sh_1 (by decide) rfl (by decide) (Nat.le_of_ble_eq_true rfl) (by decide) (by omega) zns100 (q := 26) rfl ?_
      refine zIf_eq d_X9_isThrow_26 (tgt := 33) (q := 29) (by decide) rfl (fun h26 => ?_) (fun h26 => ?_)
      · refine zIconst d_X9_isThrow_33 (v := 0) ic_0 (q := 34) rfl ?_
        refine zIret d_X9_isThrow_34 rfl rfl rfl ?_
        first | exact zPi (bi_t ⟨zn_ge hj, (bi_n0.mp h13).2, (bi_n0.mp h26).2⟩).symm | exact zPi (bi_f (fun q => bi_0.mp h26 ⟨hr0, q.2.2⟩)).symm | exact zPi (bi_f (fun q => bi_0.mp h13 ⟨hq0, q.2.1⟩)).symm | exact zPi (bi_f (fun q => by have := q.1; grind)).symm
      · refine zIconst d_X9_isThrow_29 (v := 1) ic_1 (q := 30) rfl ?_
        refine zGoto d_X9_isThrow_30 (q := 34) (by decide) ?_
        refine zIret d_X9_isThrow_34 rfl rfl rfl ?_
        first | exact zPi (bi_t ⟨zn_ge hj, (bi_n0.mp h13).2, (bi_n0.mp h26).2⟩).symm | exact zPi (bi_f (fun q => bi_0.mp h26 ⟨hr0, q.2.2⟩)).symm | exact zPi (bi_f (fun q => bi_0.mp h13 ⟨hq0, q.2.1⟩)).symm | exact zPi (bi_f (fun q => by have := q.1; grind)).symm
theorem sp_X9_isTakenByOther (hd : 2 ≤ d) (hK : zSky I ns nt nh) {cell star : Int32} : zPure g l d m_X9_isTakenByOther [.ref 1, .int cell, .int star] I L fs (.int (bi (¬ zfind (I 3) cell ns 0 = -2 ∧ ¬ zfind (I 3) cell ns 0 = star))) := by
  refine zSp_of (lv := [(0, .ref 1), (1, .int cell), (2, .int star)]) k_X9_isTakenByOther rfl (Nat.le_of_ble_eq_true rfl) ?_
  refine zAloadN d_X9_isTakenByOther_0 rfl rfl (q := 1) rfl ?_
  refine zIloadN d_X9_isTakenByOther_1 rfl rfl (q := 2) rfl ?_
  refine zCallVP d_X9_isTakenByOther_2 ml_X9_47 k_X9_starIn ki_X9_starIn ks_X9_starIn (sp_X9_starIn (d := d - 1) (by omega) hK) rfl rfl sh_1 (by decide) rfl (by decide) (Nat.le_of_ble_eq_true rfl) (by decide) (by omega) zns100 (q := 5) rfl ?_
  refine zIstoreN d_X9_isTakenByOther_5 rfl (by decide) rfl (q := 6) rfl ?_
  refine zIloadN d_X9_isTakenByOther_6 rfl rfl (q := 7) rfl ?_
  refine zBipush d_X9_isTakenByOther_7 (v := -2) bc_m2 (q := 9) rfl ?_
  refine zIcmp_eq d_X9_isTakenByOther_9 (tgt := 21) (q := 12) (by decide) rfl (fun h9 => ?_) (fun h9 => ?_)
  · refine zIconst d_X9_isTakenByOther_21 (v := 0) ic_0 (q := 22) rfl ?_
    refine zIret d_X9_isTakenByOther_22 rfl rfl rfl ?_
    exact zPi (by unfold bi; grind)
  · refine zIloadN d_X9_isTakenByOther_12 rfl rfl (q := 13) rfl ?_
    refine zIloadN d_X9_isTakenByOther_13 rfl rfl (q := 14) rfl ?_
    refine zIcmp_eq d_X9_isTakenByOther_14 (tgt := 21) (q := 17) (by decide) rfl (fun h14 => ?_) (fun h14 => ?_)
    · refine zIconst d_X9_isTakenByOther_21 (v := 0) ic_0 (q := 22) rfl ?_
      refine zIret d_X9_isTakenByOther_22 rfl rfl rfl ?_
      exact zPi (by unfold bi; grind)
    · refine zIconst d_X9_isTakenByOther_17 (v := 1) ic_1 (q := 18) rfl ?_
      refine zGoto d_X9_isTakenByOther_18 (q := 22) (by decide) ?_
      refine zIret d_X9_isTakenByOther_22 rfl rfl rfl ?_
      exact zPi (by unfold bi; grind)
theorem sp_X9_bits4 (hd : 4 ≤ d) (hK : zSky I ns nt nh) : zPure g l d m_X9_bits [.ref 1, .int 4] I L fs (.int (zbits (I 7) ns)) := by
  have hn := hK.2.1
  have loop : ∀ k, k ≤ ns → ∀ s, zfor (fun k s => if I 7 k = 0 then s else s ||| ((1 : Int32) <<< (nI k &&& 31))) ns k s = zbits (I 7) ns → zA g l d m_X9_bits I L fs 4 [(3, .int (nI k)), (2, .int s), (0, .ref 1), (1, .int 4)] (zP (.int (zbits (I 7) ns)) (zU I L fs)) := by
    refine zloop ns (fun k hk ih s hx => ?_)
    refine zIloadN d_X9_bits_4 rfl rfl (q := 5) rfl ?_
    refine zAloadN d_X9_bits_5 rfl rfl (q := 6) rfl ?_
    refine zGetI d_X9_bits_6 ff_X9_23 sh_1 (by decide) (q := 9) rfl ?_
    refine zIcmp_ge d_X9_bits_9 (tgt := 33) (q := 12) (by decide) rfl (fun h9 => ?_) (fun h9 => ?_)
    · have e := nle (hK.1.1 ▸ h9)
      refine zIloadN d_X9_bits_33 rfl rfl (q := 34) rfl ?_
      refine zIret d_X9_bits_34 rfl rfl rfl ?_
      exact zPi (by rw [← hx, zfor_end e])
    · have hlt := nnle (hK.1.1 ▸ h9)
      rw [zfor_step hlt] at hx
      refine zAloadN d_X9_bits_12 rfl rfl (q := 13) rfl ?_
      refine zIloadN d_X9_bits_13 rfl rfl (q := 14) rfl ?_
      refine zIloadN d_X9_bits_14 rfl rfl (q := 15) rfl ?_
      refine zCallVP d_X9_bits_15 ml_X9_57 k_X9_get ki_X9_get ks_X9_get (sp_get4 (d := d - 1) (by omega) hK hlt) rfl rfl sh_1 (by decide) rfl (by decide) (Nat.le_of_ble_eq_true rfl) (by decide) (by omega) zns100 (q := 18) rfl ?_
      refine zIf_eq d_X9_bits_18 (tgt := 27) (q := 21) (by decide) rfl (fun h18 => ?_) (fun h18 => ?_)
      · refine zIinc d_X9_bits_27 rfl (zinc _) (by decide) rfl (q := 30) rfl ?_
        refine zGoto d_X9_bits_30 (q := 4) (by decide) ?_
        refine zSub [0, 1, 2, 3] rfl ?_
        exact ih hlt _ (by rw [← hx]; congr 1; simp_all)
      · refine zIloadN d_X9_bits_21 rfl rfl (q := 22) rfl ?_
        refine zIconst d_X9_bits_22 (v := 1) ic_1 (q := 23) rfl ?_
        refine zIloadN d_X9_bits_23 rfl rfl (q := 24) rfl ?_
        refine zIshl d_X9_bits_24 (q := 25) rfl ?_
        refine zIor d_X9_bits_25 (q := 26) rfl ?_
        refine zIstoreN d_X9_bits_26 rfl (by decide) rfl (q := 27) rfl ?_
        refine zIinc d_X9_bits_27 rfl (zinc _) (by decide) rfl (q := 30) rfl ?_
        refine zGoto d_X9_bits_30 (q := 4) (by decide) ?_
        refine zSub [0, 1, 2, 3] rfl ?_
        exact ih hlt _ (by rw [← hx]; congr 1; simp_all)
  refine zSp_of (lv := [(0, .ref 1), (1, .int 4)]) k_X9_bits rfl (Nat.le_of_ble_eq_true rfl) ?_
  refine zIconst d_X9_bits_0 (v := 0) ic_0 (q := 1) rfl ?_
  refine zIstoreN d_X9_bits_1 rfl (by decide) rfl (q := 2) rfl ?_
  refine zIconst d_X9_bits_2 (v := 0) ic_0 (q := 3) rfl ?_
  refine zIstoreN d_X9_bits_3 rfl (by decide) rfl (q := 4) rfl ?_
  refine zSub [0, 1, 2, 3] rfl ?_
  exact loop 0 (Nat.zero_le _) 0 rfl
theorem sp_X9_bits5 (hd : 4 ≤ d) (hK : zSky I ns nt nh) : zPure g l d m_X9_bits [.ref 1, .int 5] I L fs (.int (zbits (I 8) ns)) := by
  have hn := hK.2.1
  have loop : ∀ k, k ≤ ns → ∀ s, zfor (fun k s => if I 8 k = 0 then s else s ||| ((1 : Int32) <<< (nI k &&& 31))) ns k s = zbits (I 8) ns → zA g l d m_X9_bits I L fs 4 [(3, .int (nI k)), (2, .int s), (0, .ref 1), (1, .int 5)] (zP (.int (zbits (I 8) ns)) (zU I L fs)) := by
    refine zloop ns (fun k hk ih s hx => ?_)
    refine zIloadN d_X9_bits_4 rfl rfl (q := 5) rfl ?_
    refine zAloadN d_X9_bits_5 rfl rfl (q := 6) rfl ?_
    refine zGetI d_X9_bits_6 ff_X9_23 sh_1 (by decide) (q := 9) rfl ?_
    refine zIcmp_ge d_X9_bits_9 (tgt := 33) (q := 12) (by decide) rfl (fun h9 => ?_) (fun h9 => ?_)
    · have e := nle (hK.1.1 ▸ h9)
      refine zIloadN d_X9_bits_33 rfl rfl (q := 34) rfl ?_
      refine zIret d_X9_bits_34 rfl rfl rfl ?_
      exact zPi (by rw [← hx, zfor_end e])
    · have hlt := nnle (hK.1.1 ▸ h9)
      rw [zfor_step hlt] at hx
      refine zAloadN d_X9_bits_12 rfl rfl (q := 13) rfl ?_
      refine zIloadN d_X9_bits_13 rfl rfl (q := 14) rfl ?_
      refine zIloadN d_X9_bits_14 rfl rfl (q := 15) rfl ?_
      refine zCallVP d_X9_bits_15 ml_X9_57 k_X9_get ki_X9_get ks_X9_get (sp_get5 (d := d - 1) (by omega) hK hlt) rfl rfl sh_1 (by decide) rfl (by decide) (Nat.le_of_ble_eq_true rfl) (by decide) (by omega) zns100 (q := 18) rfl ?_
      refine zIf_eq d_X9_bits_18 (tgt := 27) (q := 21) (by decide) rfl (fun h18 => ?_) (fun h18 => ?_)
      · refine zIinc d_X9_bits_27 rfl (zinc _) (by decide) rfl (q := 30) rfl ?_
        refine zGoto d_X9_bits_30 (q := 4) (by decide) ?_
        refine zSub [0, 1, 2, 3] rfl ?_
        exact ih hlt _ (by rw [← hx]; congr 1; simp_all)
      · refine zIloadN d_X9_bits_21 rfl rfl (q := 22) rfl ?_
        refine zIconst d_X9_bits_22 (v := 1) ic_1 (q := 23) rfl ?_
        refine zIloadN d_X9_bits_23 rfl rfl (q := 24) rfl ?_
        refine zIshl d_X9_bits_24 (q := 25) rfl ?_
        refine zIor d_X9_bits_25 (q := 26) rfl ?_
        refine zIstoreN d_X9_bits_26 rfl (by decide) rfl (q := 27) rfl ?_
        refine zIinc d_X9_bits_27 rfl (zinc _) (by decide) rfl (q := 30) rfl ?_
        refine zGoto d_X9_bits_30 (q := 4) (by decide) ?_
        refine zSub [0, 1, 2, 3] rfl ?_
        exact ih hlt _ (by rw [← hx]; congr 1; simp_all)
  refine zSp_of (lv := [(0, .ref 1), (1, .int 5)]) k_X9_bits rfl (Nat.le_of_ble_eq_true rfl) ?_
  refine zIconst d_X9_bits_0 (v := 0) ic_0 (q := 1) rfl ?_
  refine zIstoreN d_X9_bits_1 rfl (by decide) rfl (q := 2) rfl ?_
  refine zIconst d_X9_bits_2 (v := 0) ic_0 (q := 3) rfl ?_
  refine zIstoreN d_X9_bits_3 rfl (by decide) rfl (q := 4) rfl ?_
  refine zSub [0, 1, 2, 3] rfl ?_
  exact loop 0 (Nat.zero_le _) 0 rfl
theorem sp_X9_atHand (hd : 5 ≤ d) (hK : zSky I ns nt nh) : zPure g l d m_X9_atHand [.ref 1] I L fs (.int (zAtHand I ns)) := by
  refine zSp_of (lv := [(0, .ref 1)]) k_X9_atHand rfl (Nat.le_of_ble_eq_true rfl) ?_
  refine zIconst d_X9_atHand_0 (v := 1) ic_1 (q := 1) rfl ?_
  refine zAloadN d_X9_atHand_1 rfl rfl (q := 2) rfl ?_
  refine zGetI d_X9_atHand_2 ff_X9_23 sh_1 (by decide) (q := 5) rfl ?_
  refine zIshl d_X9_atHand_5 (q := 6) rfl ?_
  refine zIconst d_X9_atHand_6 (v := 1) ic_1 (q := 7) rfl ?_
  refine zIsub d_X9_atHand_7 (q := 8) rfl ?_
  refine zAloadN d_X9_atHand_8 rfl rfl (q := 9) rfl ?_
  refine zIconst d_X9_atHand_9 (v := 5) ic_5 (q := 10) rfl ?_
  refine zCallVP d_X9_atHand_10 ml_X9_61 k_X9_bits ki_X9_bits ks_X9_bits (sp_X9_bits5 (d := d - 1) (by omega) hK) rfl rfl sh_1 (by decide) rfl (by decide) (Nat.le_of_ble_eq_true rfl) (by decide) (by omega) zns100 (q := 13) rfl ?_
  refine zIconst d_X9_atHand_13 (v := -1) ic_m1 (q := 14) rfl ?_
  refine zIxor d_X9_atHand_14 (q := 15) rfl ?_
  refine zIand d_X9_atHand_15 (q := 16) rfl ?_
  refine zIret d_X9_atHand_16 rfl rfl rfl ?_
  exact zPi (by rw [hK.1.1]; rfl)
theorem sp_X9_waiting (hd : 6 ≤ d) (hK : zSky I ns nt nh) : zPure g l d m_X9_waiting [.ref 1] I L fs (.int (zWait I ns)) := by
  refine zSp_of (lv := [(0, .ref 1)]) k_X9_waiting rfl (Nat.le_of_ble_eq_true rfl) ?_
  refine zAloadN d_X9_waiting_0 rfl rfl (q := 1) rfl ?_
  refine zCallVP d_X9_waiting_1 ml_X9_64 k_X9_atHand ki_X9_atHand ks_X9_atHand (sp_X9_atHand (d := d - 1) (by omega) hK) rfl rfl sh_1 (by decide) rfl (by decide) (Nat.le_of_ble_eq_true rfl) (by decide) (by omega) zns100 (q := 4) rfl ?_
  refine zAloadN d_X9_waiting_4 rfl rfl (q := 5) rfl ?_
  refine zIconst d_X9_waiting_5 (v := 4) ic_4 (q := 6) rfl ?_
  refine zCallVP d_X9_waiting_6 ml_X9_61 k_X9_bits ki_X9_bits ks_X9_bits (sp_X9_bits4 (d := d - 1) (by omega) hK) rfl rfl sh_1 (by decide) rfl (by decide) (Nat.le_of_ble_eq_true rfl) (by decide) (by omega) zns100 (q := 9) rfl ?_
  refine zIconst d_X9_waiting_9 (v := -1) ic_m1 (q := 10) rfl ?_
  refine zIxor d_X9_waiting_10 (q := 11) rfl ?_
  refine zIand d_X9_waiting_11 (q := 12) rfl ?_
  refine zIret d_X9_waiting_12 rfl rfl rfl ?_
  exact zPi rfl
theorem sp_X9_dropMinute (hd : 4 ≤ d) (hK : zSky I ns nt nh) {k : Nat} (h : k < ns) : zPure g l d m_X9_dropMinute [.ref 1, .int (nI k)] I L fs (.int (zDrop I k)) := by
  refine zSp_of (lv := [(0, .ref 1), (1, .int (nI k))]) k_X9_dropMinute rfl (Nat.le_of_ble_eq_true rfl) ?_
  refine zAloadN d_X9_dropMinute_0 rfl rfl (q := 1) rfl ?_
  refine zBipush d_X9_dropMinute_1 (v := 10) bc_10 (q := 3) rfl ?_
  refine zIconst d_X9_dropMinute_3 (v := 0) ic_0 (q := 4) rfl ?_
  refine zCallVP d_X9_dropMinute_4 ml_X9_57 k_X9_get ki_X9_get ks_X9_get (sp_get10 (d := d - 1) (by omega) hK) rfl rfl sh_1 (by decide) rfl (by decide) (Nat.le_of_ble_eq_true rfl) (by decide) (by omega) zns100 (q := 7) rfl ?_
  refine zIconst d_X9_dropMinute_7 (v := 3) ic_3 (q := 8) rfl ?_
  refine zAloadN d_X9_dropMinute_8 rfl rfl (q := 9) rfl ?_
  refine zIconst d_X9_dropMinute_9 (v := 2) ic_2 (q := 10) rfl ?_
  refine zIloadN d_X9_dropMinute_10 rfl rfl (q := 11) rfl ?_
  refine zCallVP d_X9_dropMinute_11 ml_X9_57 k_X9_get ki_X9_get ks_X9_get (sp_get2 (d := d - 1) (by omega) hK h) rfl rfl sh_1 (by decide) rfl (by decide) (Nat.le_of_ble_eq_true rfl) (by decide) (by omega) zns100 (q := 14) rfl ?_
  refine zImul d_X9_dropMinute_14 (q := 15) rfl ?_
  refine zIadd d_X9_dropMinute_15 (q := 16) rfl ?_
  refine zAloadN d_X9_dropMinute_16 rfl rfl (q := 17) rfl ?_
  refine zIconst d_X9_dropMinute_17 (v := 3) ic_3 (q := 18) rfl ?_
  refine zIloadN d_X9_dropMinute_18 rfl rfl (q := 19) rfl ?_
  refine zCallVP d_X9_dropMinute_19 ml_X9_57 k_X9_get ki_X9_get ks_X9_get (sp_get3 (d := d - 1) (by omega) hK h) rfl rfl sh_1 (by decide) rfl (by decide) (Nat.le_of_ble_eq_true rfl) (by decide) (by omega) zns100 (q := 22) rfl ?_
  refine zIadd d_X9_dropMinute_22 (q := 23) rfl ?_
  refine zAloadN d_X9_dropMinute_23 rfl rfl (q := 24) rfl ?_
  refine zIconst d_X9_dropMinute_24 (v := 1) ic_1 (q := 25) rfl ?_
  refine zIloadN d_X9_dropMinute_25 rfl rfl (q := 26) rfl ?_
  refine zCallVP d_X9_dropMinute_26 ml_X9_57 k_X9_get ki_X9_get ks_X9_get (sp_get1 (d := d - 1) (by omega) hK h) rfl rfl sh_1 (by decide) rfl (by decide) (Nat.le_of_ble_eq_true rfl) (by decide) (by omega) zns100 (q := 29) rfl ?_
  refine zIsub d_X9_dropMinute_29 (q := 30) rfl ?_
  refine zIstoreN d_X9_dropMinute_30 rfl (by decide) rfl (q := 31) rfl ?_
  refine zIconst d_X9_dropMinute_31 (v := 0) ic_0 (q := 32) rfl ?_
  refine zIloadN d_X9_dropMinute_32 rfl rfl (q := 33) rfl ?_
  refine zMax d_X9_dropMinute_33 ml_X9_68 (by omega) (Nat.le_of_ble_eq_true rfl) ⟨Nat.le_refl _, Nat.le_refl _⟩ (q := 36) rfl ?_
  refine zIret d_X9_dropMinute_36 rfl rfl rfl ?_
  exact zPi rfl
theorem sp_X9_placeOnSand (hd : 4 ≤ d) (hK : zSky I ns nt nh) {k : Nat} (h : k < ns) : zPure g l d m_X9_placeOnSand [.ref 1, .int (nI k)] I L fs (.int (zPlace I k)) := by
  refine zSp_of (lv := [(0, .ref 1), (1, .int (nI k))]) k_X9_placeOnSand rfl (Nat.le_of_ble_eq_true rfl) ?_
  refine zIconst d_X9_placeOnSand_0 (v := 3) ic_3 (q := 1) rfl ?_
  refine zAloadN d_X9_placeOnSand_1 rfl rfl (q := 2) rfl ?_
  refine zIconst d_X9_placeOnSand_2 (v := 0) ic_0 (q := 3) rfl ?_
  refine zIloadN d_X9_placeOnSand_3 rfl rfl (q := 4) rfl ?_
  refine zCallVP d_X9_placeOnSand_4 ml_X9_57 k_X9_get ki_X9_get ks_X9_get (sp_get0 (d := d - 1) (by omega) hK h) rfl rfl sh_1 (by decide) rfl (by decide) (Nat.le_of_ble_eq_true rfl) (by decide) (by omega) zns100 (q := 7) rfl ?_
  refine zBipush d_X9_placeOnSand_7 (v := 8) bc_8 (q := 9) rfl ?_
  refine zIrem d_X9_placeOnSand_9 (by decide) (q := 10) rfl ?_
  refine zImul d_X9_placeOnSand_10 (q := 11) rfl ?_
  refine zAloadN d_X9_placeOnSand_11 rfl rfl (q := 12) rfl ?_
  refine zIconst d_X9_placeOnSand_12 (v := 2) ic_2 (q := 13) rfl ?_
  refine zIloadN d_X9_placeOnSand_13 rfl rfl (q := 14) rfl ?_
  refine zCallVP d_X9_placeOnSand_14 ml_X9_57 k_X9_get ki_X9_get ks_X9_get (sp_get2 (d := d - 1) (by omega) hK h) rfl rfl sh_1 (by decide) rfl (by decide) (Nat.le_of_ble_eq_true rfl) (by decide) (by omega) zns100 (q := 17) rfl ?_
  refine zIadd d_X9_placeOnSand_17 (q := 18) rfl ?_
  refine zBipush d_X9_placeOnSand_18 (v := 24) bc_24 (q := 20) rfl ?_
  refine zIrem d_X9_placeOnSand_20 (by decide) (q := 21) rfl ?_
  refine zIret d_X9_placeOnSand_21 rfl rfl rfl ?_
  exact zPi rfl
theorem sp_X9_firstToDrop (hd : 5 ≤ d) (hK : zSky I ns nt nh) : zPure g l d m_X9_firstToDrop [.ref 1] I L fs (.int (zFirst I ns)) := by
  have hn := hK.2.1
  have loop : ∀ k, k ≤ ns → ∀ s, (s = -2 ∨ ∃ j, j < ns ∧ s = nI j) → zfor (fun k s => if (s = -2 ∨ zDrop I k < zDrop I s.toNatClampNeg) ∧ ¬ I 7 k = 0 then nI k else s) ns k s = zFirst I ns → zA g l d m_X9_firstToDrop I L fs 5 [(2, .int (nI k)), (1, .int s), (0, .ref 1)] (zP (.int (zFirst I ns)) (zU I L fs)) := by
    refine zloop ns (fun k hk ih s hs hx => ?_)
    refine zIloadN d_X9_firstToDrop_5 rfl rfl (q := 6) rfl ?_
    refine zAloadN d_X9_firstToDrop_6 rfl rfl (q := 7) rfl ?_
    refine zGetI d_X9_firstToDrop_7 ff_X9_23 sh_1 (by decide) (q := 10) rfl ?_
    refine zIcmp_ge d_X9_firstToDrop_10 (tgt := 59) (q := 13) (by decide) rfl (fun h10 => ?_) (fun h10 => ?_)
    · have e := nle (hK.1.1 ▸ h10)
      refine zIloadN d_X9_firstToDrop_59 rfl rfl (q := 60) rfl ?_
      refine zIret d_X9_firstToDrop_60 rfl rfl rfl ?_
      exact zPi (by rw [← hx, zfor_end e])
    · have hlt := nnle (hK.1.1 ▸ h10)
      rw [zfor_step hlt] at hx
      refine zIloadN d_X9_firstToDrop_13 rfl rfl (q := 14) rfl ?_
      refine zBipush d_X9_firstToDrop_14 (v := -2) bc_m2 (q := 16) rfl ?_
      refine zIcmp_eq d_X9_firstToDrop_16 (tgt := 32) (q := 19) (by decide) rfl (fun h16 => ?_) (fun h16 => ?_)
      · refine zIconst d_X9_firstToDrop_32 (v := 1) ic_1 (q := 33) rfl ?_
        refine zGoto d_X9_firstToDrop_33 (q := 37) (by decide) ?_
        refine zIstoreN d_X9_firstToDrop_37 rfl (by decide) rfl (q := 38) rfl ?_
        refine zAloadN d_X9_firstToDrop_38 rfl rfl (q := 39) rfl ?_
        refine zIconst d_X9_firstToDrop_39 (v := 4) ic_4 (q := 40) rfl ?_
        refine zIloadN d_X9_firstToDrop_40 rfl rfl (q := 41) rfl ?_
        refine zCallVP d_X9_firstToDrop_41 ml_X9_57 k_X9_get ki_X9_get ks_X9_get (sp_get4 (d := d - 1) (by omega) hK hlt) rfl rfl sh_1 (by decide) rfl (by decide) (Nat.le_of_ble_eq_true rfl) (by decide) (by omega) zns100 (q := 44) rfl ?_
        refine zIf_eq d_X9_firstToDrop_44 (tgt := 53) (q := 47) (by decide) rfl (fun h44 => ?_) (fun h44 => ?_)
        · refine zIinc d_X9_firstToDrop_53 rfl (zinc _) (by decide) rfl (q := 56) rfl ?_
          refine zGoto d_X9_firstToDrop_56 (q := 5) (by decide) ?_
          refine zSub [0, 2, 3] rfl ?_
          refine ih hlt _ (by first | exact hs | exact Or.inr ⟨_, hlt, rfl⟩ | exact Or.inr ⟨_, hj, rfl⟩) (by rw [← hx]; congr 1; grind)
        · refine zIloadN d_X9_firstToDrop_47 rfl rfl (q := 48) rfl ?_
          refine zIf_eq d_X9_firstToDrop_48 (tgt := 53) (q := 51) (by decide) rfl (fun h48 => ?_) (fun h48 => ?_)
          · refine zIinc d_X9_firstToDrop_53 rfl (zinc _) (by decide) rfl (q := 56) rfl ?_
            refine zGoto d_X9_firstToDrop_56 (q := 5) (by decide) ?_
            refine zSub [0, 2, 3] rfl ?_
            refine ih hlt _ (by first | exact hs | exact Or.inr ⟨_, hlt, rfl⟩ | exact Or.inr ⟨_, hj, rfl⟩) (by rw [← hx]; congr 1; grind)
          · refine zIloadN d_X9_firstToDrop_51 rfl rfl (q := 52) rfl ?_
            refine zIstoreN d_X9_firstToDrop_52 rfl (by decide) rfl (q := 53) rfl ?_
            refine zIinc d_X9_firstToDrop_53 rfl (zinc _) (by decide) rfl (q := 56) rfl ?_
            refine zGoto d_X9_firstToDrop_56 (q := 5) (by decide) ?_
            refine zSub [0, 1, 3] rfl ?_
            refine ih hlt _ (by first | exact hs | exact Or.inr ⟨_, hlt, rfl⟩ | exact Or.inr ⟨_, hj, rfl⟩) (by rw [← hx]; congr 1; grind)
      · obtain ⟨j, hj, rfl⟩ := hs.resolve_left h16
        have ej : (nI j).toNatClampNeg = j := zcl_n (by omega)
        refine zAloadN d_X9_firstToDrop_19 rfl rfl (q := 20) rfl ?_
        refine zIloadN d_X9_firstToDrop_20 rfl rfl (q := 21) rfl ?_
        refine zCallVP d_X9_firstToDrop_21 ml_X9_73 k_X9_dropMinute ki_X9_dropMinute ks_X9_dropMinute (sp_X9_dropMinute (d := d - 1) (by omega) hK hlt) rfl rfl sh_1 (by decide) rfl (by decide) (Nat.le_of_ble_eq_true rfl) (by decide) (by omega) zns100 (q := 24) rfl ?_
        refine zAloadN d_X9_firstToDrop_24 rfl rfl (q := 25) rfl ?_
        refine zIloadN d_X9_firstToDrop_25 rfl rfl (q := 26) rfl ?_
        refine zCallVP d_X9_firstToDrop_26 ml_X9_73 k_X9_dropMinute ki_X9_dropMinute ks_X9_dropMinute (sp_X9_dropMinute (d := d - 1) (by omega) hK hj) rfl rfl sh_1 (by decide) rfl (by decide) (Nat.le_of_ble_eq_true rfl) (by decide) (by omega) zns100 (q := 29) rfl ?_
        refine zIcmp_ge d_X9_firstToDrop_29 (tgt := 36) (q := 32) (by decide) rfl (fun h29 => ?_) (fun h29 => ?_)
        · refine zIconst d_X9_firstToDrop_36 (v := 0) ic_0 (q := 37) rfl ?_
          refine zIstoreN d_X9_firstToDrop_37 rfl (by decide) rfl (q := 38) rfl ?_
          refine zAloadN d_X9_firstToDrop_38 rfl rfl (q := 39) rfl ?_
          refine zIconst d_X9_firstToDrop_39 (v := 4) ic_4 (q := 40) rfl ?_
          refine zIloadN d_X9_firstToDrop_40 rfl rfl (q := 41) rfl ?_
          refine zCallVP d_X9_firstToDrop_41 ml_X9_57 k_X9_get ki_X9_get ks_X9_get (sp_get4 (d := d - 1) (by omega) hK hlt) rfl rfl sh_1 (by decide) rfl (by decide) (Nat.le_of_ble_eq_true rfl) (by decide) (by omega) zns100 (q := 44) rfl ?_
          refine zIf_eq d_X9_firstToDrop_44 (tgt := 53) (q := 47) (by decide) rfl (fun h44 => ?_) (fun h44 => ?_)
          · refine zIinc d_X9_firstToDrop_53 rfl (zinc _) (by decide) rfl (q := 56) rfl ?_
            refine zGoto d_X9_firstToDrop_56 (q := 5) (by decide) ?_
            refine zSub [0, 2, 3] rfl ?_
            refine ih hlt _ (by first | exact hs | exact Or.inr ⟨_, hlt, rfl⟩ | exact Or.inr ⟨_, hj, rfl⟩) (by rw [← hx]; congr 1; grind)
          · refine zIloadN d_X9_firstToDrop_47 rfl rfl (q := 48) rfl ?_
            refine zIf_eq d_X9_firstToDrop_48 (tgt := 53) (q := 51) (by decide) rfl (fun h48 => ?_) (fun h48 => ?_)
            · refine zIinc d_X9_firstToDrop_53 rfl (zinc _) (by decide) rfl (q := 56) rfl ?_
              refine zGoto d_X9_firstToDrop_56 (q := 5) (by decide) ?_
              refine zSub [0, 2, 3] rfl ?_
              refine ih hlt _ (by first | exact hs | exact Or.inr ⟨_, hlt, rfl⟩ | exact Or.inr ⟨_, hj, rfl⟩) (by rw [← hx]; congr 1; grind)
            · refine zIloadN d_X9_firstToDrop_51 rfl rfl (q := 52) rfl ?_
              refine zIstoreN d_X9_firstToDrop_52 rfl (by decide) rfl (q := 53) rfl ?_
              refine zIinc d_X9_firstToDrop_53 rfl (zinc _) (by decide) rfl (q := 56) rfl ?_
              refine zGoto d_X9_firstToDrop_56 (q := 5) (by decide) ?_
              refine zSub [0, 1, 3] rfl ?_
              refine ih hlt _ (by first | exact hs | exact Or.inr ⟨_, hlt, rfl⟩ | exact Or.inr ⟨_, hj, rfl⟩) (by rw [← hx]; congr 1; grind)
        · refine zIconst d_X9_firstToDrop_32 (v := 1) ic_1 (q := 33) rfl ?_
          refine zGoto d_X9_firstToDrop_33 (q := 37) (by decide) ?_
          refine zIstoreN d_X9_firstToDrop_37 rfl (by decide) rfl (q := 38) rfl ?_
          refine zAloadN d_X9_firstToDrop_38 rfl rfl (q := 39) rfl ?_
          refine zIconst d_X9_firstToDrop_39 (v := 4) ic_4 (q := 40) rfl ?_
          refine zIloadN d_X9_firstToDrop_40 rfl rfl (q := 41) rfl ?_
          refine zCallVP d_X9_firstToDrop_41 ml_X9_57 k_X9_get ki_X9_get ks_X9_get (sp_get4 (d := d - 1) (by omega) hK hlt) rfl rfl sh_1 (by decide) rfl (by decide) (Nat.le_of_ble_eq_true rfl) (by decide) (by omega) zns100 (q := 44) rfl ?_
          refine zIf_eq d_X9_firstToDrop_44 (tgt := 53) (q := 47) (by decide) rfl (fun h44 => ?_) (fun h44 => ?_)
          · refine zIinc d_X9_firstToDrop_53 rfl (zinc _) (by decide) rfl (q := 56) rfl ?_
            refine zGoto d_X9_firstToDrop_56 (q := 5) (by decide) ?_
            refine zSub [0, 2, 3] rfl ?_
            refine ih hlt _ (by first | exact hs | exact Or.inr ⟨_, hlt, rfl⟩ | exact Or.inr ⟨_, hj, rfl⟩) (by rw [← hx]; congr 1; grind)
          · refine zIloadN d_X9_firstToDrop_47 rfl rfl (q := 48) rfl ?_
            refine zIf_eq d_X9_firstToDrop_48 (tgt := 53) (q := 51) (by decide) rfl (fun h48 => ?_) (fun h48 => ?_)
            · refine zIinc d_X9_firstToDrop_53 rfl (zinc _) (by decide) rfl (q := 56) rfl ?_
              refine zGoto d_X9_firstToDrop_56 (q := 5) (by decide) ?_
              refine zSub [0, 2, 3] rfl ?_
              refine ih hlt _ (by first | exact hs | exact Or.inr ⟨_, hlt, rfl⟩ | exact Or.inr ⟨_, hj, rfl⟩) (by rw [← hx]; congr 1; grind)
            · refine zIloadN d_X9_firstToDrop_51 rfl rfl (q := 52) rfl ?_
              refine zIstoreN d_X9_firstToDrop_52 rfl (by decide) rfl (q := 53) rfl ?_
              refine zIinc d_X9_firstToDrop_53 rfl (zinc _) (by decide) rfl (q := 56) rfl ?_
              refine zGoto d_X9_firstToDrop_56 (q := 5) (by decide) ?_
              refine zSub [0, 1, 3] rfl ?_
              refine ih hlt _ (by first | exact hs | exact Or.inr ⟨_, hlt, rfl⟩ | exact Or.inr ⟨_, hj, rfl⟩) (by rw [← hx]; congr 1; grind)
  refine zSp_of (lv := [(0, .ref 1)]) k_X9_firstToDrop rfl (Nat.le_of_ble_eq_true rfl) ?_
  refine zBipush d_X9_firstToDrop_0 (v := -2) bc_m2 (q := 2) rfl ?_
  refine zIstoreN d_X9_firstToDrop_2 rfl (by decide) rfl (q := 3) rfl ?_
  refine zIconst d_X9_firstToDrop_3 (v := 0) ic_0 (q := 4) rfl ?_
  refine zIstoreN d_X9_firstToDrop_4 rfl (by decide) rfl (q := 5) rfl ?_
  refine zSub [0, 1, 2] rfl ?_
  exact loop 0 (Nat.zero_le _) (-2) (Or.inl rfl) rfl
theorem sp_X9_upAfter (hd : 5 ≤ d) (hK : zSky I ns nt nh) {m : Int32} : zPure g l d m_X9_upAfter [.ref 1, .int m] I L fs (.int (zUpAf I ns m)) := by
  have hn := hK.2.1
  have loop : ∀ k, k ≤ ns → ∀ s, zfor (fun k s => if m < zDrop I k then s else s &&& (((1 : Int32) <<< (nI k &&& 31)) ^^^ (-1))) ns k s = zUpAf I ns m → zA g l d m_X9_upAfter I L fs 8 [(3, .int (nI k)), (2, .int s), (0, .ref 1), (1, .int m)] (zP (.int (zUpAf I ns m)) (zU I L fs)) := by
    refine zloop ns (fun k hk ih s hx => ?_)
    refine zIloadN d_X9_upAfter_8 rfl rfl (q := 9) rfl ?_
    refine zAloadN d_X9_upAfter_9 rfl rfl (q := 10) rfl ?_
    refine zGetI d_X9_upAfter_10 ff_X9_23 sh_1 (by decide) (q := 13) rfl ?_
    refine zIcmp_ge d_X9_upAfter_13 (tgt := 39) (q := 16) (by decide) rfl (fun h13 => ?_) (fun h13 => ?_)
    · have e := nle (hK.1.1 ▸ h13)
      refine zIloadN d_X9_upAfter_39 rfl rfl (q := 40) rfl ?_
      refine zIret d_X9_upAfter_40 rfl rfl rfl ?_
      exact zPi (by rw [← hx, zfor_end e])
    · have hlt := nnle (hK.1.1 ▸ h13)
      rw [zfor_step hlt] at hx
      refine zAloadN d_X9_upAfter_16 rfl rfl (q := 17) rfl ?_
      refine zIloadN d_X9_upAfter_17 rfl rfl (q := 18) rfl ?_
      refine zCallVP d_X9_upAfter_18 ml_X9_73 k_X9_dropMinute ki_X9_dropMinute ks_X9_dropMinute (sp_X9_dropMinute (d := d - 1) (by omega) hK hlt) rfl rfl sh_1 (by decide) rfl (by decide) (Nat.le_of_ble_eq_true rfl) (by decide) (by omega) zns100 (q := 21) rfl ?_
      refine zIloadN d_X9_upAfter_21 rfl rfl (q := 22) rfl ?_
      refine zIcmp_gt d_X9_upAfter_22 (tgt := 33) (q := 25) (by decide) rfl (fun h22 => ?_) (fun h22 => ?_)
      · refine zIinc d_X9_upAfter_33 rfl (zinc _) (by decide) rfl (q := 36) rfl ?_
        refine zGoto d_X9_upAfter_36 (q := 8) (by decide) ?_
        refine zSub [0, 1, 2, 3] rfl ?_
        exact ih hlt _ (by rw [← hx]; congr 1; first | exact (if_pos h22).symm | exact (if_neg h22).symm)
      · refine zIloadN d_X9_upAfter_25 rfl rfl (q := 26) rfl ?_
        refine zIconst d_X9_upAfter_26 (v := 1) ic_1 (q := 27) rfl ?_
        refine zIloadN d_X9_upAfter_27 rfl rfl (q := 28) rfl ?_
        refine zIshl d_X9_upAfter_28 (q := 29) rfl ?_
        refine zIconst d_X9_upAfter_29 (v := -1) ic_m1 (q := 30) rfl ?_
        refine zIxor d_X9_upAfter_30 (q := 31) rfl ?_
        refine zIand d_X9_upAfter_31 (q := 32) rfl ?_
        refine zIstoreN d_X9_upAfter_32 rfl (by decide) rfl (q := 33) rfl ?_
        refine zIinc d_X9_upAfter_33 rfl (zinc _) (by decide) rfl (q := 36) rfl ?_
        refine zGoto d_X9_upAfter_36 (q := 8) (by decide) ?_
        refine zSub [0, 1, 2, 3] rfl ?_
        exact ih hlt _ (by rw [← hx]; congr 1; first | exact (if_pos h22).symm | exact (if_neg h22).symm)
  refine zSp_of (lv := [(0, .ref 1), (1, .int m)]) k_X9_upAfter rfl (Nat.le_of_ble_eq_true rfl) ?_
  refine zAloadN d_X9_upAfter_0 rfl rfl (q := 1) rfl ?_
  refine zIconst d_X9_upAfter_1 (v := 4) ic_4 (q := 2) rfl ?_
  refine zCallVP d_X9_upAfter_2 ml_X9_61 k_X9_bits ki_X9_bits ks_X9_bits (sp_X9_bits4 (d := d - 1) (by omega) hK) rfl rfl sh_1 (by decide) rfl (by decide) (Nat.le_of_ble_eq_true rfl) (by decide) (by omega) zns100 (q := 5) rfl ?_
  refine zIstoreN d_X9_upAfter_5 rfl (by decide) rfl (q := 6) rfl ?_
  refine zIconst d_X9_upAfter_6 (v := 0) ic_0 (q := 7) rfl ?_
  refine zIstoreN d_X9_upAfter_7 rfl (by decide) rfl (q := 8) rfl ?_
  refine zSub [0, 1, 2, 3] rfl ?_
  exact loop 0 (Nat.zero_le _) _ rfl
theorem sp_X9_goOn (hd : 4 ≤ d) (hK : zSky I ns nt nh) {m : Int32} : zSp g l d 100 m_X9_goOn [.ref 1, .int m] (zU I L fs) (zV (fun w => w = zU (zGoOn I m) L fs)) := by
  have hK2 := zSky_up (a := 15) (f := zup (I 15) 4 (I 15 4 + m)) hK (by decide)
  refine zSp_of (lv := [(0, .ref 1), (1, .int m)]) k_X9_goOn rfl (Nat.le_of_ble_eq_true rfl) ?_
  refine zAloadN d_X9_goOn_0 rfl rfl (q := 1) rfl ?_
  refine zGetR d_X9_goOn_1 ff_X9_20 sh_1 (by decide) r_1_2 (q := 4) rfl ?_
  refine zIconst d_X9_goOn_4 (v := 4) ic_4 (q := 5) rfl ?_
  refine zDup2 d_X9_goOn_5 rfl rfl (q := 6) rfl ?_
  refine zIald d_X9_goOn_6 sh_15 (by decide) (j := 4) rfl (by decide) (q := 7) rfl ?_
  refine zIloadN d_X9_goOn_7 rfl rfl (q := 8) rfl ?_
  refine zIadd d_X9_goOn_8 (q := 9) rfl ?_
  refine zIast d_X9_goOn_9 sh_15 (by decide) (j := 4) rfl (by decide) (q := 10) rfl ?_
  refine zAloadN d_X9_goOn_10 rfl rfl (q := 11) rfl ?_
  refine zBipush d_X9_goOn_11 (v := 9) bc_9 (q := 13) rfl ?_
  refine zIconst d_X9_goOn_13 (v := 0) ic_0 (q := 14) rfl ?_
  refine zSipush d_X9_goOn_14 (v := 999) sc_999 (q := 17) rfl ?_
  refine zAloadN d_X9_goOn_17 rfl rfl (q := 18) rfl ?_
  refine zBipush d_X9_goOn_18 (v := 9) bc_9 (q := 20) rfl ?_
  refine zIconst d_X9_goOn_20 (v := 0) ic_0 (q := 21) rfl ?_
  refine zCallVP d_X9_goOn_21 ml_X9_57 k_X9_get ki_X9_get ks_X9_get (sp_get9 (d := d - 1) (by omega) hK2) rfl rfl sh_1 (by decide) rfl (by decide) (Nat.le_of_ble_eq_true rfl) (by decide) (by omega) zns100 (q := 24) rfl ?_
  refine zIloadN d_X9_goOn_24 rfl rfl (q := 25) rfl ?_
  refine zIadd d_X9_goOn_25 (q := 26) rfl ?_
  refine zMin d_X9_goOn_26 ml_X9_76 (by omega) (Nat.le_of_ble_eq_true rfl) ⟨Nat.le_refl _, Nat.le_refl _⟩ (q := 29) rfl ?_
  refine zCallVV d_X9_goOn_29 ml_X9_53 k_X9_set ki_X9_set ks_X9_set (sp_set9 (d := d - 1) (by omega) hK2) rfl rfl sh_1 (by decide) rfl (by decide) (Nat.le_of_ble_eq_true rfl) (by decide) (by omega) zns100 (q := 32) rfl (fun w' hw' => ?_)
  subst hw'
  refine zVret d_X9_goOn_32 rfl rfl ?_
  exact ⟨rfl, by unfold zGoOn; rw [zup_ne (f := I) (show (12 : Nat) ≠ 15 by decide)]⟩
end S9

