theorem d_X12_dropping_0 : decode (zmc m_X12_dropping) 0 = .ok (.aload_n 0, 1) := by decide +kernel
theorem d_X12_dropping_1 : decode (zmc m_X12_dropping) 1 = .ok (.getfield 101, 3) := by decide +kernel
theorem d_X12_dropping_4 : decode (zmc m_X12_dropping) 4 = .ok (.iload_n 1, 1) := by decide +kernel
theorem d_X12_dropping_5 : decode (zmc m_X12_dropping) 5 = .ok (.iaload, 1) := by decide +kernel
theorem d_X12_dropping_6 : decode (zmc m_X12_dropping) 6 = .ok (.iconst 3, 1) := by decide +kernel
theorem d_X12_dropping_7 : decode (zmc m_X12_dropping) 7 = .ok (.invokestatic 388, 3) := by decide +kernel
theorem d_X12_dropping_10 : decode (zmc m_X12_dropping) 10 = .ok (.ifCond .eq 18, 3) := by decide +kernel
theorem d_X12_dropping_13 : decode (zmc m_X12_dropping) 13 = .ok (.aload_n 0, 1) := by decide +kernel
theorem d_X12_dropping_14 : decode (zmc m_X12_dropping) 14 = .ok (.bipush 41, 2) := by decide +kernel
theorem d_X12_dropping_16 : decode (zmc m_X12_dropping) 16 = .ok (.invokevirtual 382, 3) := by decide +kernel
theorem d_X12_dropping_19 : decode (zmc m_X12_dropping) 19 = .ok (.aload_n 0, 1) := by decide +kernel
theorem d_X12_dropping_20 : decode (zmc m_X12_dropping) 20 = .ok (.iload_n 1, 1) := by decide +kernel
theorem d_X12_dropping_21 : decode (zmc m_X12_dropping) 21 = .ok (.iload_n 2, 1) := by decide +kernel
theorem d_X12_dropping_22 : decode (zmc m_X12_dropping) 22 = .ok (.iconst 1, 1) := by decide +kernel
theorem d_X12_dropping_23 : decode (zmc m_X12_dropping) 23 = .ok (.iadd, 1) := by decide +kernel
theorem d_X12_dropping_24 : decode (zmc m_X12_dropping) 24 = .ok (.invokevirtual 400, 3) := by decide +kernel
theorem d_X12_dropping_27 : decode (zmc m_X12_dropping) 27 = .ok (.ireturn, 1) := by decide +kernel
theorem d_X12_dropping_28 : decode (zmc m_X12_dropping) 28 = .ok (.aload_n 0, 1) := by decide +kernel
theorem d_X12_dropping_29 : decode (zmc m_X12_dropping) 29 = .ok (.getfield 101, 3) := by decide +kernel
theorem d_X12_dropping_32 : decode (zmc m_X12_dropping) 32 = .ok (.iload_n 1, 1) := by decide +kernel
theorem d_X12_dropping_33 : decode (zmc m_X12_dropping) 33 = .ok (.iaload, 1) := by decide +kernel
theorem d_X12_dropping_34 : decode (zmc m_X12_dropping) 34 = .ok (.bipush 7, 2) := by decide +kernel
theorem d_X12_dropping_36 : decode (zmc m_X12_dropping) 36 = .ok (.if_icmp .ne 25, 3) := by decide +kernel
theorem d_X12_dropping_39 : decode (zmc m_X12_dropping) 39 = .ok (.aload_n 0, 1) := by decide +kernel
theorem d_X12_dropping_40 : decode (zmc m_X12_dropping) 40 = .ok (.bipush 80, 2) := by decide +kernel
theorem d_X12_dropping_42 : decode (zmc m_X12_dropping) 42 = .ok (.invokevirtual 382, 3) := by decide +kernel
theorem d_X12_dropping_45 : decode (zmc m_X12_dropping) 45 = .ok (.aload_n 0, 1) := by decide +kernel
theorem d_X12_dropping_46 : decode (zmc m_X12_dropping) 46 = .ok (.iload_n 1, 1) := by decide +kernel
theorem d_X12_dropping_47 : decode (zmc m_X12_dropping) 47 = .ok (.iload_n 2, 1) := by decide +kernel
theorem d_X12_dropping_48 : decode (zmc m_X12_dropping) 48 = .ok (.invokevirtual 397, 3) := by decide +kernel
theorem d_X12_dropping_51 : decode (zmc m_X12_dropping) 51 = .ok (.istore_n 3, 1) := by decide +kernel
theorem d_X12_dropping_52 : decode (zmc m_X12_dropping) 52 = .ok (.iload_n 3, 1) := by decide +kernel
theorem d_X12_dropping_53 : decode (zmc m_X12_dropping) 53 = .ok (.aload_n 0, 1) := by decide +kernel
theorem d_X12_dropping_54 : decode (zmc m_X12_dropping) 54 = .ok (.iload_n 1, 1) := by decide +kernel
theorem d_X12_dropping_55 : decode (zmc m_X12_dropping) 55 = .ok (.iconst 2, 1) := by decide +kernel
theorem d_X12_dropping_56 : decode (zmc m_X12_dropping) 56 = .ok (.invokevirtual 403, 3) := by decide +kernel
theorem d_X12_dropping_59 : decode (zmc m_X12_dropping) 59 = .ok (.iadd, 1) := by decide +kernel
theorem d_X12_dropping_60 : decode (zmc m_X12_dropping) 60 = .ok (.ireturn, 1) := by decide +kernel
theorem d_X12_dropping_61 : decode (zmc m_X12_dropping) 61 = .ok (.aload_n 0, 1) := by decide +kernel
theorem d_X12_dropping_62 : decode (zmc m_X12_dropping) 62 = .ok (.getfield 101, 3) := by decide +kernel
theorem d_X12_dropping_65 : decode (zmc m_X12_dropping) 65 = .ok (.iload_n 1, 1) := by decide +kernel
theorem d_X12_dropping_66 : decode (zmc m_X12_dropping) 66 = .ok (.iaload, 1) := by decide +kernel
theorem d_X12_dropping_67 : decode (zmc m_X12_dropping) 67 = .ok (.iconst 2, 1) := by decide +kernel
theorem d_X12_dropping_68 : decode (zmc m_X12_dropping) 68 = .ok (.if_icmp .ne 12, 3) := by decide +kernel
theorem d_X12_dropping_71 : decode (zmc m_X12_dropping) 71 = .ok (.aload_n 0, 1) := by decide +kernel
theorem d_X12_dropping_72 : decode (zmc m_X12_dropping) 72 = .ok (.iload_n 1, 1) := by decide +kernel
theorem d_X12_dropping_73 : decode (zmc m_X12_dropping) 73 = .ok (.iload_n 2, 1) := by decide +kernel
theorem d_X12_dropping_74 : decode (zmc m_X12_dropping) 74 = .ok (.invokevirtual 400, 3) := by decide +kernel
theorem d_X12_dropping_77 : decode (zmc m_X12_dropping) 77 = .ok (.goto 9, 3) := by decide +kernel
theorem d_X12_dropping_80 : decode (zmc m_X12_dropping) 80 = .ok (.aload_n 0, 1) := by decide +kernel
theorem d_X12_dropping_81 : decode (zmc m_X12_dropping) 81 = .ok (.iload_n 1, 1) := by decide +kernel
theorem d_X12_dropping_82 : decode (zmc m_X12_dropping) 82 = .ok (.iload_n 2, 1) := by decide +kernel
theorem d_X12_dropping_83 : decode (zmc m_X12_dropping) 83 = .ok (.invokevirtual 397, 3) := by decide +kernel
theorem d_X12_dropping_86 : decode (zmc m_X12_dropping) 86 = .ok (.ireturn, 1) := by decide +kernel
theorem d_X12_flingLies_0 : decode (zmc m_X12_flingLies) 0 = .ok (.aload_n 0, 1) := by decide +kernel
theorem d_X12_flingLies_1 : decode (zmc m_X12_flingLies) 1 = .ok (.bipush 40, 2) := by decide +kernel
theorem d_X12_flingLies_3 : decode (zmc m_X12_flingLies) 3 = .ok (.invokevirtual 382, 3) := by decide +kernel
theorem d_X12_flingLies_6 : decode (zmc m_X12_flingLies) 6 = .ok (.aload_n 0, 1) := by decide +kernel
theorem d_X12_flingLies_7 : decode (zmc m_X12_flingLies) 7 = .ok (.iload_n 1, 1) := by decide +kernel
theorem d_X12_flingLies_8 : decode (zmc m_X12_flingLies) 8 = .ok (.iload_n 2, 1) := by decide +kernel
theorem d_X12_flingLies_9 : decode (zmc m_X12_flingLies) 9 = .ok (.invokevirtual 406, 3) := by decide +kernel
theorem d_X12_flingLies_12 : decode (zmc m_X12_flingLies) 12 = .ok (.iconst 3, 1) := by decide +kernel
theorem d_X12_flingLies_13 : decode (zmc m_X12_flingLies) 13 = .ok (.imul, 1) := by decide +kernel
theorem d_X12_flingLies_14 : decode (zmc m_X12_flingLies) 14 = .ok (.ireturn, 1) := by decide +kernel
theorem d_X12_gooleSticks_0 : decode (zmc m_X12_gooleSticks) 0 = .ok (.aload_n 0, 1) := by decide +kernel
theorem d_X12_gooleSticks_1 : decode (zmc m_X12_gooleSticks) 1 = .ok (.bipush 70, 2) := by decide +kernel
theorem d_X12_gooleSticks_3 : decode (zmc m_X12_gooleSticks) 3 = .ok (.invokevirtual 382, 3) := by decide +kernel
theorem d_X12_gooleSticks_6 : decode (zmc m_X12_gooleSticks) 6 = .ok (.aload_n 0, 1) := by decide +kernel
theorem d_X12_gooleSticks_7 : decode (zmc m_X12_gooleSticks) 7 = .ok (.iload_n 1, 1) := by decide +kernel
theorem d_X12_gooleSticks_8 : decode (zmc m_X12_gooleSticks) 8 = .ok (.iload_n 2, 1) := by decide +kernel
theorem d_X12_gooleSticks_9 : decode (zmc m_X12_gooleSticks) 9 = .ok (.invokevirtual 385, 3) := by decide +kernel
theorem d_X12_gooleSticks_12 : decode (zmc m_X12_gooleSticks) 12 = .ok (.iconst 2, 1) := by decide +kernel
theorem d_X12_gooleSticks_13 : decode (zmc m_X12_gooleSticks) 13 = .ok (.imul, 1) := by decide +kernel
theorem d_X12_gooleSticks_14 : decode (zmc m_X12_gooleSticks) 14 = .ok (.ireturn, 1) := by decide +kernel
theorem d_X12_heapDrops_0 : decode (zmc m_X12_heapDrops) 0 = .ok (.aload_n 0, 1) := by decide +kernel
theorem d_X12_heapDrops_1 : decode (zmc m_X12_heapDrops) 1 = .ok (.bipush 30, 2) := by decide +kernel
theorem d_X12_heapDrops_3 : decode (zmc m_X12_heapDrops) 3 = .ok (.invokevirtual 382, 3) := by decide +kernel
theorem d_X12_heapDrops_6 : decode (zmc m_X12_heapDrops) 6 = .ok (.aload_n 0, 1) := by decide +kernel
theorem d_X12_heapDrops_7 : decode (zmc m_X12_heapDrops) 7 = .ok (.iload_n 1, 1) := by decide +kernel
theorem d_X12_heapDrops_8 : decode (zmc m_X12_heapDrops) 8 = .ok (.iload_n 2, 1) := by decide +kernel
theorem d_X12_heapDrops_9 : decode (zmc m_X12_heapDrops) 9 = .ok (.invokevirtual 397, 3) := by decide +kernel
theorem d_X12_heapDrops_12 : decode (zmc m_X12_heapDrops) 12 = .ok (.ineg, 1) := by decide +kernel
theorem d_X12_heapDrops_13 : decode (zmc m_X12_heapDrops) 13 = .ok (.ireturn, 1) := by decide +kernel
theorem d_X12_isUnder_0 : decode (zmc m_X12_isUnder) 0 = .ok (.iload_n 1, 1) := by decide +kernel
theorem d_X12_isUnder_1 : decode (zmc m_X12_isUnder) 1 = .ok (.ifCond .eq 55, 3) := by decide +kernel
theorem d_X12_isUnder_4 : decode (zmc m_X12_isUnder) 4 = .ok (.iload_n 0, 1) := by decide +kernel
theorem d_X12_isUnder_5 : decode (zmc m_X12_isUnder) 5 = .ok (.iload_n 1, 1) := by decide +kernel
theorem d_X12_isUnder_6 : decode (zmc m_X12_isUnder) 6 = .ok (.if_icmp .eq 50, 3) := by decide +kernel
theorem d_X12_isUnder_9 : decode (zmc m_X12_isUnder) 9 = .ok (.iload_n 1, 1) := by decide +kernel
theorem d_X12_isUnder_10 : decode (zmc m_X12_isUnder) 10 = .ok (.iconst 1, 1) := by decide +kernel
theorem d_X12_isUnder_11 : decode (zmc m_X12_isUnder) 11 = .ok (.if_icmp .ne 8, 3) := by decide +kernel
theorem d_X12_isUnder_14 : decode (zmc m_X12_isUnder) 14 = .ok (.iload_n 0, 1) := by decide +kernel
theorem d_X12_isUnder_15 : decode (zmc m_X12_isUnder) 15 = .ok (.iconst 4, 1) := by decide +kernel
theorem d_X12_isUnder_16 : decode (zmc m_X12_isUnder) 16 = .ok (.if_icmp .eq 40, 3) := by decide +kernel
theorem d_X12_isUnder_19 : decode (zmc m_X12_isUnder) 19 = .ok (.iload_n 1, 1) := by decide +kernel
theorem d_X12_isUnder_20 : decode (zmc m_X12_isUnder) 20 = .ok (.iconst 2, 1) := by decide +kernel
theorem d_X12_isUnder_21 : decode (zmc m_X12_isUnder) 21 = .ok (.if_icmp .ne 13, 3) := by decide +kernel
theorem d_X12_isUnder_24 : decode (zmc m_X12_isUnder) 24 = .ok (.iload_n 0, 1) := by decide +kernel
theorem d_X12_isUnder_25 : decode (zmc m_X12_isUnder) 25 = .ok (.iconst 3, 1) := by decide +kernel
theorem d_X12_isUnder_26 : decode (zmc m_X12_isUnder) 26 = .ok (.if_icmp .eq 30, 3) := by decide +kernel
theorem d_X12_isUnder_29 : decode (zmc m_X12_isUnder) 29 = .ok (.iload_n 0, 1) := by decide +kernel
theorem d_X12_isUnder_30 : decode (zmc m_X12_isUnder) 30 = .ok (.iconst 5, 1) := by decide +kernel
theorem d_X12_isUnder_31 : decode (zmc m_X12_isUnder) 31 = .ok (.if_icmp .eq 25, 3) := by decide +kernel
theorem d_X12_isUnder_34 : decode (zmc m_X12_isUnder) 34 = .ok (.iload_n 1, 1) := by decide +kernel
theorem d_X12_isUnder_35 : decode (zmc m_X12_isUnder) 35 = .ok (.iconst 3, 1) := by decide +kernel
theorem d_X12_isUnder_36 : decode (zmc m_X12_isUnder) 36 = .ok (.if_icmp .ne 8, 3) := by decide +kernel
theorem d_X12_isUnder_39 : decode (zmc m_X12_isUnder) 39 = .ok (.iload_n 0, 1) := by decide +kernel
theorem d_X12_isUnder_40 : decode (zmc m_X12_isUnder) 40 = .ok (.iconst 5, 1) := by decide +kernel
theorem d_X12_isUnder_41 : decode (zmc m_X12_isUnder) 41 = .ok (.if_icmp .eq 15, 3) := by decide +kernel
theorem d_X12_isUnder_44 : decode (zmc m_X12_isUnder) 44 = .ok (.iload_n 1, 1) := by decide +kernel
theorem d_X12_isUnder_45 : decode (zmc m_X12_isUnder) 45 = .ok (.bipush 6, 2) := by decide +kernel
theorem d_X12_isUnder_47 : decode (zmc m_X12_isUnder) 47 = .ok (.if_icmp .ne 13, 3) := by decide +kernel
theorem d_X12_isUnder_50 : decode (zmc m_X12_isUnder) 50 = .ok (.iload_n 0, 1) := by decide +kernel
theorem d_X12_isUnder_51 : decode (zmc m_X12_isUnder) 51 = .ok (.bipush 7, 2) := by decide +kernel
theorem d_X12_isUnder_53 : decode (zmc m_X12_isUnder) 53 = .ok (.if_icmp .ne 7, 3) := by decide +kernel
theorem d_X12_isUnder_56 : decode (zmc m_X12_isUnder) 56 = .ok (.iconst 1, 1) := by decide +kernel
theorem d_X12_isUnder_57 : decode (zmc m_X12_isUnder) 57 = .ok (.goto 4, 3) := by decide +kernel
theorem d_X12_isUnder_60 : decode (zmc m_X12_isUnder) 60 = .ok (.iconst 0, 1) := by decide +kernel
theorem d_X12_isUnder_61 : decode (zmc m_X12_isUnder) 61 = .ok (.ireturn, 1) := by decide +kernel
theorem d_X12_lying_0 : decode (zmc m_X12_lying) 0 = .ok (.aload_n 0, 1) := by decide +kernel
theorem d_X12_lying_1 : decode (zmc m_X12_lying) 1 = .ok (.getfield 101, 3) := by decide +kernel
theorem d_X12_lying_4 : decode (zmc m_X12_lying) 4 = .ok (.iload_n 1, 1) := by decide +kernel
theorem d_X12_lying_5 : decode (zmc m_X12_lying) 5 = .ok (.iaload, 1) := by decide +kernel
theorem d_X12_lying_6 : decode (zmc m_X12_lying) 6 = .ok (.iconst 5, 1) := by decide +kernel
theorem d_X12_lying_7 : decode (zmc m_X12_lying) 7 = .ok (.if_icmp .ne 25, 3) := by decide +kernel
theorem d_X12_lying_10 : decode (zmc m_X12_lying) 10 = .ok (.aload_n 0, 1) := by decide +kernel
theorem d_X12_lying_11 : decode (zmc m_X12_lying) 11 = .ok (.bipush 60, 2) := by decide +kernel
theorem d_X12_lying_13 : decode (zmc m_X12_lying) 13 = .ok (.invokevirtual 382, 3) := by decide +kernel
theorem d_X12_lying_16 : decode (zmc m_X12_lying) 16 = .ok (.aload_n 0, 1) := by decide +kernel
theorem d_X12_lying_17 : decode (zmc m_X12_lying) 17 = .ok (.iload_n 1, 1) := by decide +kernel
theorem d_X12_lying_18 : decode (zmc m_X12_lying) 18 = .ok (.iload_n 2, 1) := by decide +kernel
theorem d_X12_lying_19 : decode (zmc m_X12_lying) 19 = .ok (.invokevirtual 409, 3) := by decide +kernel
theorem d_X12_lying_22 : decode (zmc m_X12_lying) 22 = .ok (.istore_n 3, 1) := by decide +kernel
theorem d_X12_lying_23 : decode (zmc m_X12_lying) 23 = .ok (.iload_n 3, 1) := by decide +kernel
theorem d_X12_lying_24 : decode (zmc m_X12_lying) 24 = .ok (.aload_n 0, 1) := by decide +kernel
theorem d_X12_lying_25 : decode (zmc m_X12_lying) 25 = .ok (.iload_n 1, 1) := by decide +kernel
theorem d_X12_lying_26 : decode (zmc m_X12_lying) 26 = .ok (.iconst 2, 1) := by decide +kernel
theorem d_X12_lying_27 : decode (zmc m_X12_lying) 27 = .ok (.invokevirtual 394, 3) := by decide +kernel
theorem d_X12_lying_30 : decode (zmc m_X12_lying) 30 = .ok (.isub, 1) := by decide +kernel
theorem d_X12_lying_31 : decode (zmc m_X12_lying) 31 = .ok (.ireturn, 1) := by decide +kernel
theorem d_X12_lying_32 : decode (zmc m_X12_lying) 32 = .ok (.aload_n 0, 1) := by decide +kernel
theorem d_X12_lying_33 : decode (zmc m_X12_lying) 33 = .ok (.getfield 101, 3) := by decide +kernel
theorem d_X12_lying_36 : decode (zmc m_X12_lying) 36 = .ok (.iload_n 1, 1) := by decide +kernel
theorem d_X12_lying_37 : decode (zmc m_X12_lying) 37 = .ok (.iaload, 1) := by decide +kernel
theorem d_X12_lying_38 : decode (zmc m_X12_lying) 38 = .ok (.iconst 3, 1) := by decide +kernel
theorem d_X12_lying_39 : decode (zmc m_X12_lying) 39 = .ok (.if_icmp .ne 12, 3) := by decide +kernel
theorem d_X12_lying_42 : decode (zmc m_X12_lying) 42 = .ok (.aload_n 0, 1) := by decide +kernel
theorem d_X12_lying_43 : decode (zmc m_X12_lying) 43 = .ok (.iload_n 1, 1) := by decide +kernel
theorem d_X12_lying_44 : decode (zmc m_X12_lying) 44 = .ok (.iload_n 2, 1) := by decide +kernel
theorem d_X12_lying_45 : decode (zmc m_X12_lying) 45 = .ok (.invokevirtual 409, 3) := by decide +kernel
theorem d_X12_lying_48 : decode (zmc m_X12_lying) 48 = .ok (.goto 9, 3) := by decide +kernel
theorem d_X12_lying_51 : decode (zmc m_X12_lying) 51 = .ok (.aload_n 0, 1) := by decide +kernel
theorem d_X12_lying_52 : decode (zmc m_X12_lying) 52 = .ok (.iload_n 1, 1) := by decide +kernel
theorem d_X12_lying_53 : decode (zmc m_X12_lying) 53 = .ok (.iload_n 2, 1) := by decide +kernel
theorem d_X12_lying_54 : decode (zmc m_X12_lying) 54 = .ok (.invokevirtual 406, 3) := by decide +kernel
theorem d_X12_lying_57 : decode (zmc m_X12_lying) 57 = .ok (.ireturn, 1) := by decide +kernel
theorem d_X12_plainDrops_0 : decode (zmc m_X12_plainDrops) 0 = .ok (.aload_n 0, 1) := by decide +kernel
theorem d_X12_plainDrops_1 : decode (zmc m_X12_plainDrops) 1 = .ok (.bipush 10, 2) := by decide +kernel
theorem d_X12_plainDrops_3 : decode (zmc m_X12_plainDrops) 3 = .ok (.invokevirtual 382, 3) := by decide +kernel
theorem d_X12_plainDrops_6 : decode (zmc m_X12_plainDrops) 6 = .ok (.aload_n 0, 1) := by decide +kernel
theorem d_X12_plainDrops_7 : decode (zmc m_X12_plainDrops) 7 = .ok (.iload_n 1, 1) := by decide +kernel
theorem d_X12_plainDrops_8 : decode (zmc m_X12_plainDrops) 8 = .ok (.iload_n 2, 1) := by decide +kernel
theorem d_X12_plainDrops_9 : decode (zmc m_X12_plainDrops) 9 = .ok (.invokevirtual 394, 3) := by decide +kernel
theorem d_X12_plainDrops_12 : decode (zmc m_X12_plainDrops) 12 = .ok (.iconst 2, 1) := by decide +kernel
theorem d_X12_plainDrops_13 : decode (zmc m_X12_plainDrops) 13 = .ok (.imul, 1) := by decide +kernel
theorem d_X12_plainDrops_14 : decode (zmc m_X12_plainDrops) 14 = .ok (.ireturn, 1) := by decide +kernel
theorem d_X12_plainLies_0 : decode (zmc m_X12_plainLies) 0 = .ok (.aload_n 0, 1) := by decide +kernel
theorem d_X12_plainLies_1 : decode (zmc m_X12_plainLies) 1 = .ok (.bipush 11, 2) := by decide +kernel
theorem d_X12_plainLies_3 : decode (zmc m_X12_plainLies) 3 = .ok (.invokevirtual 382, 3) := by decide +kernel
theorem d_X12_plainLies_6 : decode (zmc m_X12_plainLies) 6 = .ok (.iload_n 2, 1) := by decide +kernel
theorem d_X12_plainLies_7 : decode (zmc m_X12_plainLies) 7 = .ok (.iload_n 1, 1) := by decide +kernel
theorem d_X12_plainLies_8 : decode (zmc m_X12_plainLies) 8 = .ok (.ixor, 1) := by decide +kernel
theorem d_X12_plainLies_9 : decode (zmc m_X12_plainLies) 9 = .ok (.ireturn, 1) := by decide +kernel
theorem d_X12_plainSticks_0 : decode (zmc m_X12_plainSticks) 0 = .ok (.aload_n 0, 1) := by decide +kernel
theorem d_X12_plainSticks_1 : decode (zmc m_X12_plainSticks) 1 = .ok (.iconst 1, 1) := by decide +kernel
theorem d_X12_plainSticks_2 : decode (zmc m_X12_plainSticks) 2 = .ok (.invokevirtual 382, 3) := by decide +kernel
theorem d_X12_plainSticks_5 : decode (zmc m_X12_plainSticks) 5 = .ok (.iload_n 2, 1) := by decide +kernel
theorem d_X12_plainSticks_6 : decode (zmc m_X12_plainSticks) 6 = .ok (.iload_n 1, 1) := by decide +kernel
theorem d_X12_plainSticks_7 : decode (zmc m_X12_plainSticks) 7 = .ok (.iadd, 1) := by decide +kernel
theorem d_X12_plainSticks_8 : decode (zmc m_X12_plainSticks) 8 = .ok (.ireturn, 1) := by decide +kernel
theorem d_X12_plainTells_0 : decode (zmc m_X12_plainTells) 0 = .ok (.aload_n 0, 1) := by decide +kernel
theorem d_X12_plainTells_1 : decode (zmc m_X12_plainTells) 1 = .ok (.iconst 2, 1) := by decide +kernel
theorem d_X12_plainTells_2 : decode (zmc m_X12_plainTells) 2 = .ok (.invokevirtual 382, 3) := by decide +kernel
theorem d_X12_plainTells_5 : decode (zmc m_X12_plainTells) 5 = .ok (.aload_n 0, 1) := by decide +kernel
theorem d_X12_plainTells_6 : decode (zmc m_X12_plainTells) 6 = .ok (.iload_n 1, 1) := by decide +kernel
theorem d_X12_plainTells_7 : decode (zmc m_X12_plainTells) 7 = .ok (.iload_n 2, 1) := by decide +kernel
theorem d_X12_plainTells_8 : decode (zmc m_X12_plainTells) 8 = .ok (.invokevirtual 412, 3) := by decide +kernel
theorem d_X12_plainTells_11 : decode (zmc m_X12_plainTells) 11 = .ok (.istore_n 3, 1) := by decide +kernel
theorem d_X12_plainTells_12 : decode (zmc m_X12_plainTells) 12 = .ok (.iload_n 3, 1) := by decide +kernel
theorem d_X12_plainTells_13 : decode (zmc m_X12_plainTells) 13 = .ok (.aload_n 0, 1) := by decide +kernel
theorem d_X12_plainTells_14 : decode (zmc m_X12_plainTells) 14 = .ok (.iload_n 1, 1) := by decide +kernel
theorem d_X12_plainTells_15 : decode (zmc m_X12_plainTells) 15 = .ok (.iconst 1, 1) := by decide +kernel
theorem d_X12_plainTells_16 : decode (zmc m_X12_plainTells) 16 = .ok (.invokevirtual 403, 3) := by decide +kernel
theorem d_X12_plainTells_19 : decode (zmc m_X12_plainTells) 19 = .ok (.isub, 1) := by decide +kernel
theorem d_X12_plainTells_20 : decode (zmc m_X12_plainTells) 20 = .ok (.ireturn, 1) := by decide +kernel
theorem d_X12_ran_0 : decode (zmc m_X12_ran) 0 = .ok (.aload_n 0, 1) := by decide +kernel
theorem d_X12_ran_1 : decode (zmc m_X12_ran) 1 = .ok (.getfield 379, 3) := by decide +kernel
theorem d_X12_ran_4 : decode (zmc m_X12_ran) 4 = .ok (.bipush 24, 2) := by decide +kernel
theorem d_X12_ran_6 : decode (zmc m_X12_ran) 6 = .ok (.if_icmp .ge 13, 3) := by decide +kernel
theorem d_X12_ran_9 : decode (zmc m_X12_ran) 9 = .ok (.aload_n 0, 1) := by decide +kernel
theorem d_X12_ran_10 : decode (zmc m_X12_ran) 10 = .ok (.getfield 104, 3) := by decide +kernel
theorem d_X12_ran_13 : decode (zmc m_X12_ran) 13 = .ok (.aload_n 0, 1) := by decide +kernel
theorem d_X12_ran_14 : decode (zmc m_X12_ran) 14 = .ok (.getfield 379, 3) := by decide +kernel
theorem d_X12_ran_17 : decode (zmc m_X12_ran) 17 = .ok (.iload_n 1, 1) := by decide +kernel
theorem d_X12_ran_18 : decode (zmc m_X12_ran) 18 = .ok (.iastore, 1) := by decide +kernel
theorem d_X12_ran_19 : decode (zmc m_X12_ran) 19 = .ok (.aload_n 0, 1) := by decide +kernel
theorem d_X12_ran_20 : decode (zmc m_X12_ran) 20 = .ok (.dup, 1) := by decide +kernel
theorem d_X12_ran_21 : decode (zmc m_X12_ran) 21 = .ok (.getfield 379, 3) := by decide +kernel
theorem d_X12_ran_24 : decode (zmc m_X12_ran) 24 = .ok (.iconst 1, 1) := by decide +kernel
theorem d_X12_ran_25 : decode (zmc m_X12_ran) 25 = .ok (.iadd, 1) := by decide +kernel
theorem d_X12_ran_26 : decode (zmc m_X12_ran) 26 = .ok (.putfield 379, 3) := by decide +kernel
theorem d_X12_ran_29 : decode (zmc m_X12_ran) 29 = .ok (.return_, 1) := by decide +kernel
theorem d_X12_sticking_0 : decode (zmc m_X12_sticking) 0 = .ok (.aload_n 0, 1) := by decide +kernel
theorem d_X12_sticking_1 : decode (zmc m_X12_sticking) 1 = .ok (.getfield 101, 3) := by decide +kernel
theorem d_X12_sticking_4 : decode (zmc m_X12_sticking) 4 = .ok (.iload_n 1, 1) := by decide +kernel
theorem d_X12_sticking_5 : decode (zmc m_X12_sticking) 5 = .ok (.iaload, 1) := by decide +kernel
theorem d_X12_sticking_6 : decode (zmc m_X12_sticking) 6 = .ok (.iconst 1, 1) := by decide +kernel
theorem d_X12_sticking_7 : decode (zmc m_X12_sticking) 7 = .ok (.invokestatic 388, 3) := by decide +kernel
theorem d_X12_sticking_10 : decode (zmc m_X12_sticking) 10 = .ok (.ifCond .eq 18, 3) := by decide +kernel
theorem d_X12_sticking_13 : decode (zmc m_X12_sticking) 13 = .ok (.aload_n 0, 1) := by decide +kernel
theorem d_X12_sticking_14 : decode (zmc m_X12_sticking) 14 = .ok (.bipush 20, 2) := by decide +kernel
theorem d_X12_sticking_16 : decode (zmc m_X12_sticking) 16 = .ok (.invokevirtual 382, 3) := by decide +kernel
theorem d_X12_sticking_19 : decode (zmc m_X12_sticking) 19 = .ok (.aload_n 0, 1) := by decide +kernel
theorem d_X12_sticking_20 : decode (zmc m_X12_sticking) 20 = .ok (.iload_n 1, 1) := by decide +kernel
theorem d_X12_sticking_21 : decode (zmc m_X12_sticking) 21 = .ok (.iload_n 2, 1) := by decide +kernel
theorem d_X12_sticking_22 : decode (zmc m_X12_sticking) 22 = .ok (.invokevirtual 385, 3) := by decide +kernel
theorem d_X12_sticking_25 : decode (zmc m_X12_sticking) 25 = .ok (.iconst 3, 1) := by decide +kernel
theorem d_X12_sticking_26 : decode (zmc m_X12_sticking) 26 = .ok (.iadd, 1) := by decide +kernel
theorem d_X12_sticking_27 : decode (zmc m_X12_sticking) 27 = .ok (.ireturn, 1) := by decide +kernel
theorem d_X12_sticking_28 : decode (zmc m_X12_sticking) 28 = .ok (.aload_n 0, 1) := by decide +kernel
theorem d_X12_sticking_29 : decode (zmc m_X12_sticking) 29 = .ok (.getfield 101, 3) := by decide +kernel
theorem d_X12_sticking_32 : decode (zmc m_X12_sticking) 32 = .ok (.iload_n 1, 1) := by decide +kernel
theorem d_X12_sticking_33 : decode (zmc m_X12_sticking) 33 = .ok (.iaload, 1) := by decide +kernel
theorem d_X12_sticking_34 : decode (zmc m_X12_sticking) 34 = .ok (.bipush 7, 2) := by decide +kernel
theorem d_X12_sticking_36 : decode (zmc m_X12_sticking) 36 = .ok (.if_icmp .ne 18, 3) := by decide +kernel
theorem d_X12_sticking_39 : decode (zmc m_X12_sticking) 39 = .ok (.aload_n 0, 1) := by decide +kernel
theorem d_X12_sticking_40 : decode (zmc m_X12_sticking) 40 = .ok (.bipush 81, 2) := by decide +kernel
theorem d_X12_sticking_42 : decode (zmc m_X12_sticking) 42 = .ok (.invokevirtual 382, 3) := by decide +kernel
theorem d_X12_sticking_45 : decode (zmc m_X12_sticking) 45 = .ok (.aload_n 0, 1) := by decide +kernel
theorem d_X12_sticking_46 : decode (zmc m_X12_sticking) 46 = .ok (.iload_n 1, 1) := by decide +kernel
theorem d_X12_sticking_47 : decode (zmc m_X12_sticking) 47 = .ok (.iload_n 2, 1) := by decide +kernel
theorem d_X12_sticking_48 : decode (zmc m_X12_sticking) 48 = .ok (.invokevirtual 391, 3) := by decide +kernel
theorem d_X12_sticking_51 : decode (zmc m_X12_sticking) 51 = .ok (.iconst 1, 1) := by decide +kernel
theorem d_X12_sticking_52 : decode (zmc m_X12_sticking) 52 = .ok (.isub, 1) := by decide +kernel
theorem d_X12_sticking_53 : decode (zmc m_X12_sticking) 53 = .ok (.ireturn, 1) := by decide +kernel
theorem d_X12_sticking_54 : decode (zmc m_X12_sticking) 54 = .ok (.aload_n 0, 1) := by decide +kernel
theorem d_X12_sticking_55 : decode (zmc m_X12_sticking) 55 = .ok (.getfield 101, 3) := by decide +kernel
theorem d_X12_sticking_58 : decode (zmc m_X12_sticking) 58 = .ok (.iload_n 1, 1) := by decide +kernel
theorem d_X12_sticking_59 : decode (zmc m_X12_sticking) 59 = .ok (.iaload, 1) := by decide +kernel
theorem d_X12_sticking_60 : decode (zmc m_X12_sticking) 60 = .ok (.bipush 6, 2) := by decide +kernel
theorem d_X12_sticking_62 : decode (zmc m_X12_sticking) 62 = .ok (.if_icmp .ne 12, 3) := by decide +kernel
theorem d_X12_sticking_65 : decode (zmc m_X12_sticking) 65 = .ok (.aload_n 0, 1) := by decide +kernel
theorem d_X12_sticking_66 : decode (zmc m_X12_sticking) 66 = .ok (.iload_n 1, 1) := by decide +kernel
theorem d_X12_sticking_67 : decode (zmc m_X12_sticking) 67 = .ok (.iload_n 2, 1) := by decide +kernel
theorem d_X12_sticking_68 : decode (zmc m_X12_sticking) 68 = .ok (.invokevirtual 391, 3) := by decide +kernel
theorem d_X12_sticking_71 : decode (zmc m_X12_sticking) 71 = .ok (.goto 9, 3) := by decide +kernel
theorem d_X12_sticking_74 : decode (zmc m_X12_sticking) 74 = .ok (.aload_n 0, 1) := by decide +kernel
theorem d_X12_sticking_75 : decode (zmc m_X12_sticking) 75 = .ok (.iload_n 1, 1) := by decide +kernel
theorem d_X12_sticking_76 : decode (zmc m_X12_sticking) 76 = .ok (.iload_n 2, 1) := by decide +kernel
theorem d_X12_sticking_77 : decode (zmc m_X12_sticking) 77 = .ok (.invokevirtual 385, 3) := by decide +kernel
theorem d_X12_sticking_80 : decode (zmc m_X12_sticking) 80 = .ok (.ireturn, 1) := by decide +kernel
theorem d_X12_telling_0 : decode (zmc m_X12_telling) 0 = .ok (.aload_n 0, 1) := by decide +kernel
theorem d_X12_telling_1 : decode (zmc m_X12_telling) 1 = .ok (.getfield 101, 3) := by decide +kernel
theorem d_X12_telling_4 : decode (zmc m_X12_telling) 4 = .ok (.iload_n 1, 1) := by decide +kernel
theorem d_X12_telling_5 : decode (zmc m_X12_telling) 5 = .ok (.iaload, 1) := by decide +kernel
theorem d_X12_telling_6 : decode (zmc m_X12_telling) 6 = .ok (.iconst 4, 1) := by decide +kernel
theorem d_X12_telling_7 : decode (zmc m_X12_telling) 7 = .ok (.if_icmp .ne 18, 3) := by decide +kernel
theorem d_X12_telling_10 : decode (zmc m_X12_telling) 10 = .ok (.aload_n 0, 1) := by decide +kernel
theorem d_X12_telling_11 : decode (zmc m_X12_telling) 11 = .ok (.bipush 50, 2) := by decide +kernel
theorem d_X12_telling_13 : decode (zmc m_X12_telling) 13 = .ok (.invokevirtual 382, 3) := by decide +kernel
theorem d_X12_telling_16 : decode (zmc m_X12_telling) 16 = .ok (.aload_n 0, 1) := by decide +kernel
theorem d_X12_telling_17 : decode (zmc m_X12_telling) 17 = .ok (.iload_n 1, 1) := by decide +kernel
theorem d_X12_telling_18 : decode (zmc m_X12_telling) 18 = .ok (.iload_n 2, 1) := by decide +kernel
theorem d_X12_telling_19 : decode (zmc m_X12_telling) 19 = .ok (.invokevirtual 415, 3) := by decide +kernel
theorem d_X12_telling_22 : decode (zmc m_X12_telling) 22 = .ok (.iconst 5, 1) := by decide +kernel
theorem d_X12_telling_23 : decode (zmc m_X12_telling) 23 = .ok (.ixor, 1) := by decide +kernel
theorem d_X12_telling_24 : decode (zmc m_X12_telling) 24 = .ok (.ireturn, 1) := by decide +kernel
theorem d_X12_telling_25 : decode (zmc m_X12_telling) 25 = .ok (.aload_n 0, 1) := by decide +kernel
theorem d_X12_telling_26 : decode (zmc m_X12_telling) 26 = .ok (.getfield 101, 3) := by decide +kernel
theorem d_X12_telling_29 : decode (zmc m_X12_telling) 29 = .ok (.iload_n 1, 1) := by decide +kernel
theorem d_X12_telling_30 : decode (zmc m_X12_telling) 30 = .ok (.iaload, 1) := by decide +kernel
theorem d_X12_telling_31 : decode (zmc m_X12_telling) 31 = .ok (.iconst 5, 1) := by decide +kernel
theorem d_X12_telling_32 : decode (zmc m_X12_telling) 32 = .ok (.if_icmp .ne 18, 3) := by decide +kernel
theorem d_X12_telling_35 : decode (zmc m_X12_telling) 35 = .ok (.aload_n 0, 1) := by decide +kernel
theorem d_X12_telling_36 : decode (zmc m_X12_telling) 36 = .ok (.bipush 61, 2) := by decide +kernel
theorem d_X12_telling_38 : decode (zmc m_X12_telling) 38 = .ok (.invokevirtual 382, 3) := by decide +kernel
theorem d_X12_telling_41 : decode (zmc m_X12_telling) 41 = .ok (.aload_n 0, 1) := by decide +kernel
theorem d_X12_telling_42 : decode (zmc m_X12_telling) 42 = .ok (.iload_n 1, 1) := by decide +kernel
theorem d_X12_telling_43 : decode (zmc m_X12_telling) 43 = .ok (.iload_n 2, 1) := by decide +kernel
theorem d_X12_telling_44 : decode (zmc m_X12_telling) 44 = .ok (.invokevirtual 415, 3) := by decide +kernel
theorem d_X12_telling_47 : decode (zmc m_X12_telling) 47 = .ok (.iconst 1, 1) := by decide +kernel
theorem d_X12_telling_48 : decode (zmc m_X12_telling) 48 = .ok (.iadd, 1) := by decide +kernel
theorem d_X12_telling_49 : decode (zmc m_X12_telling) 49 = .ok (.ireturn, 1) := by decide +kernel
theorem d_X12_telling_50 : decode (zmc m_X12_telling) 50 = .ok (.aload_n 0, 1) := by decide +kernel
theorem d_X12_telling_51 : decode (zmc m_X12_telling) 51 = .ok (.iload_n 1, 1) := by decide +kernel
theorem d_X12_telling_52 : decode (zmc m_X12_telling) 52 = .ok (.iload_n 2, 1) := by decide +kernel
theorem d_X12_telling_53 : decode (zmc m_X12_telling) 53 = .ok (.invokevirtual 415, 3) := by decide +kernel
theorem d_X12_telling_56 : decode (zmc m_X12_telling) 56 = .ok (.ireturn, 1) := by decide +kernel
/-! THE REFERENCE: bodies and their acts -/
abbrev yUn (k u : Int32) : Prop := u = 0 ∨ k = u ∨ (u = 1 ∧ k = 4) ∨ (u = 2 ∧ (k = 3 ∨ k = 5)) ∨ (u = 3 ∧ k = 5) ∨ (u = 6 ∧ k = 7)
abbrev yAn : Type := Int32 × List Int32
def yPS (n x : Int32) : yAn := (x + n, [1])
def yGS (n x : Int32) : yAn := ((yPS n x).1 * 2, 70 :: (yPS n x).2)
def ySt (K n x : Int32) : yAn := if yUn K 1 then ((yPS n x).1 + 3, 20 :: (yPS n x).2) else if K = 7 then ((yGS n x).1 - 1, 81 :: (yGS n x).2) else if K = 6 then yGS n x else yPS n x
def yPD (K n x : Int32) : yAn := ((ySt K n x).1 * 2, 10 :: (ySt K n x).2)
def yHD (K n x : Int32) : yAn := (-(yPD K n x).1, 30 :: (yPD K n x).2)
def yPL (n x : Int32) : yAn := (x ^^^ n, [11])
def yFL (n x : Int32) : yAn := ((yPL n x).1 * 3, 40 :: (yPL n x).2)
def yLi (K n x : Int32) : yAn := if K = 5 then ((yFL n x).1 - (ySt K n 2).1, 60 :: ((yFL n x).2 ++ (ySt K n 2).2)) else if K = 3 then yFL n x else yPL n x
def yDr (K n x : Int32) : yAn := if yUn K 3 then ((yHD K n (x + 1)).1, 41 :: (yHD K n (x + 1)).2) else if K = 7 then ((yPD K n x).1 + (yLi K n 2).1, 80 :: ((yPD K n x).2 ++ (yLi K n 2).2)) else if K = 2 then yHD K n x else yPD K n x
def yPT (K n x : Int32) : yAn := ((yDr K n x).1 - (yLi K n 1).1, 2 :: ((yDr K n x).2 ++ (yLi K n 1).2))
def yTe (K n x : Int32) : yAn := if K = 4 then ((yPT K n x).1 ^^^ 5, 50 :: (yPT K n x).2) else if K = 5 then ((yPT K n x).1 + 1, 61 :: (yPT K n x).2) else yPT K n x
def zTrJ (I : Nat → Nat → Int32) (r : Nat) (t : List Int32) : Nat → Nat → Int32 := zup (zup I 95 (zTrF (I 95) r t)) 64 (zup (I 64) 51 (nI (r + t.length)))
theorem zTrJ_app (I : Nat → Nat → Int32) (r : Nat) (t u : List Int32) : zTrJ (zTrJ I r t) (r + t.length) u = zTrJ I r (t ++ u) := by
  unfold zTrJ
  rw [zTrF_app, List.length_append, ← Nat.add_assoc]
  rw [zup_eq, zup_zup, zup_ne (f := zup I 95 _) (show (95 : Nat) ≠ 64 by decide), zup_eq]
  rw [zup_3 (show (95 : Nat) ≠ 64 by decide), zup_zup]
def zTJ (I : Nat → Nat → Int32) (L : Nat → Nat → Int64) (fs : Nat × Nat × Option Nat) (r : Nat) (p : yAn) : Int32 → zW → Prop := fun y w => y = p.1 ∧ w = zU (zTrJ I r p.2) L fs
section S44
variable {g : zG} {l : Launch} {d : Nat} {I V : Nat → Nat → Int32} {L : Nat → Nat → Int64} {fs : Nat × Nat × Option Nat} {r q : Nat} {K x : Int32}
theorem sp_X12_ran (hd : 1 ≤ d) (hr : I 64 51 = nI r) (hl : r < 1000) {o : Int32} : zSp g l d 100 m_X12_ran [.ref 64, .int o] (zU I L fs) (zV (fun w => w = zU (zTrJ I r [o]) L fs)) := by
  have e1 : I 64 51 + 1 = nI (r + 1) := by rw [hr, nI_1]
  refine zSp_of (lv := [(0, .ref 64), (1, .int o)]) k_X12_ran rfl (Nat.le_of_ble_eq_true rfl) ?_
  refine zAloadN d_X12_ran_0 rfl rfl (q := 1) rfl ?_
  refine zGetI d_X12_ran_1 ff_X12_379 sh_64 (by decide) (q := 4) rfl ?_
  refine zBipush d_X12_ran_4 (v := 24) bc_24 (q := 6) rfl ?_
  refine zIcmp_ge d_X12_ran_6 (tgt := 19) (q := 9) (by decide) rfl (fun h6 => ?_) (fun h6 => ?_)
  · have hlt : ¬ r < 24 := by rw [hr] at h6; exact Nat.not_lt.mpr (nle (b := 24) h6)
    refine zAloadN d_X12_ran_19 rfl rfl (q := 20) rfl ?_
    refine zDup d_X12_ran_20 rfl (q := 21) rfl ?_
    refine zGetI d_X12_ran_21 ff_X12_379 sh_64 (by decide) (q := 24) rfl ?_
    refine zIconst d_X12_ran_24 (v := 1) ic_1 (q := 25) rfl ?_
    refine zIadd d_X12_ran_25 (q := 26) rfl ?_
    refine zPutI d_X12_ran_26 ff_X12_379 rfl rfl rfl sh_64 (by decide) (q := 29) rfl ?_
    refine zVret d_X12_ran_29 rfl rfl ?_
    refine ⟨rfl, ?_⟩
    unfold zTrJ
    first
    | (rw [show (zup I 95 (zup (I 95) r o)) 64 51 + 1 = nI (r + 1) from e1, show zTrF (I 95) r [o] = (if r < 24 then zup (I 95) r o else I 95) from rfl, if_pos hlt]; rfl)
    | (rw [e1, show zTrF (I 95) r [o] = (if r < 24 then zup (I 95) r o else I 95) from rfl, if_neg hlt, zup_self]; rfl)
  · have hlt : r < 24 := by rw [hr] at h6; exact nnle (b := 24) h6
    refine zAloadN d_X12_ran_9 rfl rfl (q := 10) rfl ?_
    refine zGetR d_X12_ran_10 ff_X12_104 sh_64 (by decide) r_64_52 (q := 13) rfl ?_
    refine zAloadN d_X12_ran_13 rfl rfl (q := 14) rfl ?_
    refine zGetI d_X12_ran_14 ff_X12_379 sh_64 (by decide) (q := 17) rfl ?_
    refine zIloadN d_X12_ran_17 rfl rfl (q := 18) rfl ?_
    refine zIast d_X12_ran_18 sh_95 (by decide) hr (by omega) (q := 19) rfl ?_
    refine zAloadN d_X12_ran_19 rfl rfl (q := 20) rfl ?_
    refine zDup d_X12_ran_20 rfl (q := 21) rfl ?_
    refine zGetI d_X12_ran_21 ff_X12_379 sh_64 (by decide) (q := 24) rfl ?_
    refine zIconst d_X12_ran_24 (v := 1) ic_1 (q := 25) rfl ?_
    refine zIadd d_X12_ran_25 (q := 26) rfl ?_
    refine zPutI d_X12_ran_26 ff_X12_379 rfl rfl rfl sh_64 (by decide) (q := 29) rfl ?_
    refine zVret d_X12_ran_29 rfl rfl ?_
    refine ⟨rfl, ?_⟩
    unfold zTrJ
    first
    | (rw [show (zup I 95 (zup (I 95) r o)) 64 51 + 1 = nI (r + 1) from e1, show zTrF (I 95) r [o] = (if r < 24 then zup (I 95) r o else I 95) from rfl, if_pos hlt]; rfl)
    | (rw [e1, show zTrF (I 95) r [o] = (if r < 24 then zup (I 95) r o else I 95) from rfl, if_neg hlt, zup_self]; rfl)
theorem sp_X12_isUnder (hd : 1 ≤ d) {k u : Int32} : zPure g l d m_X12_isUnder [.int k, .int u] I L fs (.int (bi (yUn k u))) := by
  refine zSp_of (lv := [(0, .int k), (1, .int u)]) k_X12_isUnder rfl (Nat.le_of_ble_eq_true rfl) ?_
  refine zIloadN d_X12_isUnder_0 rfl rfl (q := 1) rfl ?_
  refine zIf_eq d_X12_isUnder_1 (tgt := 56) (q := 4) (by decide) rfl (fun h1 => ?_) (fun h1 => ?_)
  · refine zIconst d_X12_isUnder_56 (v := 1) ic_1 (q := 57) rfl ?_
    refine zGoto d_X12_isUnder_57 (q := 61) (by decide) ?_
    refine zIret d_X12_isUnder_61 rfl (by first | exact zn_bi | rfl) rfl ?_
    exact zPi (by unfold bi; grind)
  · refine zIloadN d_X12_isUnder_4 rfl rfl (q := 5) rfl ?_
    refine zIloadN d_X12_isUnder_5 rfl rfl (q := 6) rfl ?_
    refine zIcmp_eq d_X12_isUnder_6 (tgt := 56) (q := 9) (by decide) rfl (fun h6 => ?_) (fun h6 => ?_)
    · refine zIconst d_X12_isUnder_56 (v := 1) ic_1 (q := 57) rfl ?_
      refine zGoto d_X12_isUnder_57 (q := 61) (by decide) ?_
      refine zIret d_X12_isUnder_61 rfl (by first | exact zn_bi | rfl) rfl ?_
      exact zPi (by unfold bi; grind)
    · refine zIloadN d_X12_isUnder_9 rfl rfl (q := 10) rfl ?_
      refine zIconst d_X12_isUnder_10 (v := 1) ic_1 (q := 11) rfl ?_
      refine zIcmp_ne d_X12_isUnder_11 (tgt := 19) (q := 14) (by decide) rfl (fun h11 => ?_) (fun h11 => ?_)
      · refine zIloadN d_X12_isUnder_19 rfl rfl (q := 20) rfl ?_
        refine zIconst d_X12_isUnder_20 (v := 2) ic_2 (q := 21) rfl ?_
        refine zIcmp_ne d_X12_isUnder_21 (tgt := 34) (q := 24) (by decide) rfl (fun h21 => ?_) (fun h21 => ?_)
        · refine zIloadN d_X12_isUnder_34 rfl rfl (q := 35) rfl ?_
          refine zIconst d_X12_isUnder_35 (v := 3) ic_3 (q := 36) rfl ?_
          refine zIcmp_ne d_X12_isUnder_36 (tgt := 44) (q := 39) (by decide) rfl (fun h36 => ?_) (fun h36 => ?_)
          · refine zIloadN d_X12_isUnder_44 rfl rfl (q := 45) rfl ?_
            refine zBipush d_X12_isUnder_45 (v := 6) bc_6 (q := 47) rfl ?_
            refine zIcmp_ne d_X12_isUnder_47 (tgt := 60) (q := 50) (by decide) rfl (fun h47 => ?_) (fun h47 => ?_)
            · refine zIconst d_X12_isUnder_60 (v := 0) ic_0 (q := 61) rfl ?_
              refine zIret d_X12_isUnder_61 rfl (by first | exact zn_bi | rfl) rfl ?_
              exact zPi (by unfold bi; grind)
            · refine zIloadN d_X12_isUnder_50 rfl rfl (q := 51) rfl ?_
              refine zBipush d_X12_isUnder_51 (v := 7) bc_7 (q := 53) rfl ?_
              refine zIcmp_ne d_X12_isUnder_53 (tgt := 60) (q := 56) (by decide) rfl (fun h53 => ?_) (fun h53 => ?_)
              · refine zIconst d_X12_isUnder_60 (v := 0) ic_0 (q := 61) rfl ?_
                refine zIret d_X12_isUnder_61 rfl (by first | exact zn_bi | rfl) rfl ?_
                exact zPi (by unfold bi; grind)
              · refine zIconst d_X12_isUnder_56 (v := 1) ic_1 (q := 57) rfl ?_
                refine zGoto d_X12_isUnder_57 (q := 61) (by decide) ?_
                refine zIret d_X12_isUnder_61 rfl (by first | exact zn_bi | rfl) rfl ?_
                exact zPi (by unfold bi; grind)
          · refine zIloadN d_X12_isUnder_39 rfl rfl (q := 40) rfl ?_
            refine zIconst d_X12_isUnder_40 (v := 5) ic_5 (q := 41) rfl ?_
            refine zIcmp_eq d_X12_isUnder_41 (tgt := 56) (q := 44) (by decide) rfl (fun h41 => ?_) (fun h41 => ?_)
            · refine zIconst d_X12_isUnder_56 (v := 1) ic_1 (q := 57) rfl ?_
              refine zGoto d_X12_isUnder_57 (q := 61) (by decide) ?_
              refine zIret d_X12_isUnder_61 rfl (by first | exact zn_bi | rfl) rfl ?_
              exact zPi (by unfold bi; grind)
            · refine zIloadN d_X12_isUnder_44 rfl rfl (q := 45) rfl ?_
              refine zBipush d_X12_isUnder_45 (v := 6) bc_6 (q := 47) rfl ?_
              refine zIcmp_ne d_X12_isUnder_47 (tgt := 60) (q := 50) (by decide) rfl (fun h47 => ?_) (fun h47 => ?_)
              · refine zIconst d_X12_isUnder_60 (v := 0) ic_0 (q := 61) rfl ?_
                refine zIret d_X12_isUnder_61 rfl (by first | exact zn_bi | rfl) rfl ?_
                exact zPi (by unfold bi; grind)
              · refine zIloadN d_X12_isUnder_50 rfl rfl (q := 51) rfl ?_
                refine zBipush d_X12_isUnder_51 (v := 7) bc_7 (q := 53) rfl ?_
                refine zIcmp_ne d_X12_isUnder_53 (tgt := 60) (q := 56) (by decide) rfl (fun h53 => ?_) (fun h53 => ?_)
                · refine zIconst d_X12_isUnder_60 (v := 0) ic_0 (q := 61) rfl ?_
                  refine zIret d_X12_isUnder_61 rfl (by first | exact zn_bi | rfl) rfl ?_
                  exact zPi (by unfold bi; grind)
                · refine zIconst d_X12_isUnder_56 (v := 1) ic_1 (q := 57) rfl ?_
                  refine zGoto d_X12_isUnder_57 (q := 61) (by decide) ?_
                  refine zIret d_X12_isUnder_61 rfl (by first | exact zn_bi | rfl) rfl ?_
                  exact zPi (by unfold bi; grind)
        · refine zIloadN d_X12_isUnder_24 rfl rfl (q := 25) rfl ?_
          refine zIconst d_X12_isUnder_25 (v := 3) ic_3 (q := 26) rfl ?_
          refine zIcmp_eq d_X12_isUnder_26 (tgt := 56) (q := 29) (by decide) rfl (fun h26 => ?_) (fun h26 => ?_)
          · refine zIconst d_X12_isUnder_56 (v := 1) ic_1 (q := 57) rfl ?_
            refine zGoto d_X12_isUnder_57 (q := 61) (by decide) ?_
            refine zIret d_X12_isUnder_61 rfl (by first | exact zn_bi | rfl) rfl ?_
            exact zPi (by unfold bi; grind)
          · refine zIloadN d_X12_isUnder_29 rfl rfl (q := 30) rfl ?_
            refine zIconst d_X12_isUnder_30 (v := 5) ic_5 (q := 31) rfl ?_
            refine zIcmp_eq d_X12_isUnder_31 (tgt := 56) (q := 34) (by decide) rfl (fun h31 => ?_) (fun h31 => ?_)
            · refine zIconst d_X12_isUnder_56 (v := 1) ic_1 (q := 57) rfl ?_
              refine zGoto d_X12_isUnder_57 (q := 61) (by decide) ?_
              refine zIret d_X12_isUnder_61 rfl (by first | exact zn_bi | rfl) rfl ?_
              exact zPi (by unfold bi; grind)
            · refine zIloadN d_X12_isUnder_34 rfl rfl (q := 35) rfl ?_
              refine zIconst d_X12_isUnder_35 (v := 3) ic_3 (q := 36) rfl ?_
              refine zIcmp_ne d_X12_isUnder_36 (tgt := 44) (q := 39) (by decide) rfl (fun h36 => ?_) (fun h36 => ?_)
              · refine zIloadN d_X12_isUnder_44 rfl rfl (q := 45) rfl ?_
                refine zBipush d_X12_isUnder_45 (v := 6) bc_6 (q := 47) rfl ?_
                refine zIcmp_ne d_X12_isUnder_47 (tgt := 60) (q := 50) (by decide) rfl (fun h47 => ?_) (fun h47 => ?_)
                · refine zIconst d_X12_isUnder_60 (v := 0) ic_0 (q := 61) rfl ?_
                  refine zIret d_X12_isUnder_61 rfl (by first | exact zn_bi | rfl) rfl ?_
                  exact zPi (by unfold bi; grind)
                · refine zIloadN d_X12_isUnder_50 rfl rfl (q := 51) rfl ?_
                  refine zBipush d_X12_isUnder_51 (v := 7) bc_7 (q := 53) rfl ?_
                  refine zIcmp_ne d_X12_isUnder_53 (tgt := 60) (q := 56) (by decide) rfl (fun h53 => ?_) (fun h53 => ?_)
                  · refine zIconst d_X12_isUnder_60 (v := 0) ic_0 (q := 61) rfl ?_
                    refine zIret d_X12_isUnder_61 rfl (by first | exact zn_bi | rfl) rfl ?_
                    exact zPi (by unfold bi; grind)
                  · refine zIconst d_X12_isUnder_56 (v := 1) ic_1 (q := 57) rfl ?_
                    refine zGoto d_X12_isUnder_57 (q := 61) (by decide) ?_
                    refine zIret d_X12_isUnder_61 rfl (by first | exact zn_bi | rfl) rfl ?_
                    exact zPi (by unfold bi; grind)
              · refine zIloadN d_X12_isUnder_39 rfl rfl (q := 40) rfl ?_
                refine zIconst d_X12_isUnder_40 (v := 5) ic_5 (q := 41) rfl ?_
                refine zIcmp_eq d_X12_isUnder_41 (tgt := 56) (q := 44) (by decide) rfl (fun h41 => ?_) (fun h41 => ?_)
                · refine zIconst d_X12_isUnder_56 (v := 1) ic_1 (q := 57) rfl ?_
                  refine zGoto d_X12_isUnder_57 (q := 61) (by decide) ?_
                  refine zIret d_X12_isUnder_61 rfl (by first | exact zn_bi | rfl) rfl ?_
                  exact zPi (by unfold bi; grind)
                · refine zIloadN d_X12_isUnder_44 rfl rfl (q := 45) rfl ?_
                  refine zBipush d_X12_isUnder_45 (v := 6) bc_6 (q := 47) rfl ?_
                  refine zIcmp_ne d_X12_isUnder_47 (tgt := 60) (q := 50) (by decide) rfl (fun h47 => ?_) (fun h47 => ?_)
                  · refine zIconst d_X12_isUnder_60 (v := 0) ic_0 (q := 61) rfl ?_
                    refine zIret d_X12_isUnder_61 rfl (by first | exact zn_bi | rfl) rfl ?_
                    exact zPi (by unfold bi; grind)
                  · refine zIloadN d_X12_isUnder_50 rfl rfl (q := 51) rfl ?_
                    refine zBipush d_X12_isUnder_51 (v := 7) bc_7 (q := 53) rfl ?_
                    refine zIcmp_ne d_X12_isUnder_53 (tgt := 60) (q := 56) (by decide) rfl (fun h53 => ?_) (fun h53 => ?_)
                    · refine zIconst d_X12_isUnder_60 (v := 0) ic_0 (q := 61) rfl ?_
                      refine zIret d_X12_isUnder_61 rfl (by first | exact zn_bi | rfl) rfl ?_
                      exact zPi (by unfold bi; grind)
                    · refine zIconst d_X12_isUnder_56 (v := 1) ic_1 (q := 57) rfl ?_
                      refine zGoto d_X12_isUnder_57 (q := 61) (by decide) ?_
                      refine zIret d_X12_isUnder_61 rfl (by first | exact zn_bi | rfl) rfl ?_
                      exact zPi (by unfold bi; grind)
      · refine zIloadN d_X12_isUnder_14 rfl rfl (q := 15) rfl ?_
        refine zIconst d_X12_isUnder_15 (v := 4) ic_4 (q := 16) rfl ?_
        refine zIcmp_eq d_X12_isUnder_16 (tgt := 56) (q := 19) (by decide) rfl (fun h16 => ?_) (fun h16 => ?_)
        · refine zIconst d_X12_isUnder_56 (v := 1) ic_1 (q := 57) rfl ?_
          refine zGoto d_X12_isUnder_57 (q := 61) (by decide) ?_
          refine zIret d_X12_isUnder_61 rfl (by first | exact zn_bi | rfl) rfl ?_
          exact zPi (by unfold bi; grind)
        · refine zIloadN d_X12_isUnder_19 rfl rfl (q := 20) rfl ?_
          refine zIconst d_X12_isUnder_20 (v := 2) ic_2 (q := 21) rfl ?_
          refine zIcmp_ne d_X12_isUnder_21 (tgt := 34) (q := 24) (by decide) rfl (fun h21 => ?_) (fun h21 => ?_)
          · refine zIloadN d_X12_isUnder_34 rfl rfl (q := 35) rfl ?_
            refine zIconst d_X12_isUnder_35 (v := 3) ic_3 (q := 36) rfl ?_
            refine zIcmp_ne d_X12_isUnder_36 (tgt := 44) (q := 39) (by decide) rfl (fun h36 => ?_) (fun h36 => ?_)
            · refine zIloadN d_X12_isUnder_44 rfl rfl (q := 45) rfl ?_
              refine zBipush d_X12_isUnder_45 (v := 6) bc_6 (q := 47) rfl ?_
              refine zIcmp_ne d_X12_isUnder_47 (tgt := 60) (q := 50) (by decide) rfl (fun h47 => ?_) (fun h47 => ?_)
              · refine zIconst d_X12_isUnder_60 (v := 0) ic_0 (q := 61) rfl ?_
                refine zIret d_X12_isUnder_61 rfl (by first | exact zn_bi | rfl) rfl ?_
                exact zPi (by unfold bi; grind)
              · refine zIloadN d_X12_isUnder_50 rfl rfl (q := 51) rfl ?_
                refine zBipush d_X12_isUnder_51 (v := 7) bc_7 (q := 53) rfl ?_
                refine zIcmp_ne d_X12_isUnder_53 (tgt := 60) (q := 56) (by decide) rfl (fun h53 => ?_) (fun h53 => ?_)
                · refine zIconst d_X12_isUnder_60 (v := 0) ic_0 (q := 61) rfl ?_
                  refine zIret d_X12_isUnder_61 rfl (by first | exact zn_bi | rfl) rfl ?_
                  exact zPi (by unfold bi; grind)
                · refine zIconst d_X12_isUnder_56 (v := 1) ic_1 (q := 57) rfl ?_
                  refine zGoto d_X12_isUnder_57 (q := 61) (by decide) ?_
                  refine zIret d_X12_isUnder_61 rfl (by first | exact zn_bi | rfl) rfl ?_
                  exact zPi (by unfold bi; grind)
            · refine zIloadN d_X12_isUnder_39 rfl rfl (q := 40) rfl ?_
              refine zIconst d_X12_isUnder_40 (v := 5) ic_5 (q := 41) rfl ?_
              refine zIcmp_eq d_X12_isUnder_41 (tgt := 56) (q := 44) (by decide) rfl (fun h41 => ?_) (fun h41 => ?_)
              · refine zIconst d_X12_isUnder_56 (v := 1) ic_1 (q := 57) rfl ?_
                refine zGoto d_X12_isUnder_57 (q := 61) (by decide) ?_
                refine zIret d_X12_isUnder_61 rfl (by first | exact zn_bi | rfl) rfl ?_
                exact zPi (by unfold bi; grind)
              · refine zIloadN d_X12_isUnder_44 rfl rfl (q := 45) rfl ?_
                refine zBipush d_X12_isUnder_45 (v := 6) bc_6 (q := 47) rfl ?_
                refine zIcmp_ne d_X12_isUnder_47 (tgt := 60) (q := 50) (by decide) rfl (fun h47 => ?_) (fun h47 => ?_)
                · refine zIconst d_X12_isUnder_60 (v := 0) ic_0 (q := 61) rfl ?_
                  refine zIret d_X12_isUnder_61 rfl (by first | exact zn_bi | rfl) rfl ?_
                  exact zPi (by unfold bi; grind)
                · refine zIloadN d_X12_isUnder_50 rfl rfl (q := 51) rfl ?_
                  refine zBipush d_X12_isUnder_51 (v := 7) bc_7 (q := 53) rfl ?_
                  refine zIcmp_ne d_X12_isUnder_53 (tgt := 60) (q := 56) (by decide) rfl (fun h53 => ?_) (fun h53 => ?_)
                  · refine zIconst d_X12_isUnder_60 (v := 0) ic_0 (q := 61) rfl ?_
                    refine zIret d_X12_isUnder_61 rfl (by first | exact zn_bi | rfl) rfl ?_
                    exact zPi (by unfold bi; grind)
                  · refine zIconst d_X12_isUnder_56 (v := 1) ic_1 (q := 57) rfl ?_
                    refine zGoto d_X12_isUnder_57 (q := 61) (by decide) ?_
                    refine zIret d_X12_isUnder_61 rfl (by first | exact zn_bi | rfl) rfl ?_
                    exact zPi (by unfold bi; grind)
          · refine zIloadN d_X12_isUnder_24 rfl rfl (q := 25) rfl ?_
            refine zIconst d_X12_isUnder_25 (v := 3) ic_3 (q := 26) rfl ?_
            refine zIcmp_eq d_X12_isUnder_26 (tgt := 56) (q := 29) (by decide) rfl (fun h26 => ?_) (fun h26 => ?_)
            · refine zIconst d_X12_isUnder_56 (v := 1) ic_1 (q := 57) rfl ?_
              refine zGoto d_X12_isUnder_57 (q := 61) (by decide) ?_
              refine zIret d_X12_isUnder_61 rfl (by first | exact zn_bi | rfl) rfl ?_
              exact zPi (by unfold bi; grind)
            · refine zIloadN d_X12_isUnder_29 rfl rfl (q := 30) rfl ?_
              refine zIconst d_X12_isUnder_30 (v := 5) ic_5 (q := 31) rfl ?_
              refine zIcmp_eq d_X12_isUnder_31 (tgt := 56) (q := 34) (by decide) rfl (fun h31 => ?_) (fun h31 => ?_)
              · refine zIconst d_X12_isUnder_56 (v := 1) ic_1 (q := 57) rfl ?_
                refine zGoto d_X12_isUnder_57 (q := 61) (by decide) ?_
                refine zIret d_X12_isUnder_61 rfl (by first | exact zn_bi | rfl) rfl ?_
                exact zPi (by unfold bi; grind)
              · refine zIloadN d_X12_isUnder_34 rfl rfl (q := 35) rfl ?_
                refine zIconst d_X12_isUnder_35 (v := 3) ic_3 (q := 36) rfl ?_
                refine zIcmp_ne d_X12_isUnder_36 (tgt := 44) (q := 39) (by decide) rfl (fun h36 => ?_) (fun h36 => ?_)
                · refine zIloadN d_X12_isUnder_44 rfl rfl (q := 45) rfl ?_
                  refine zBipush d_X12_isUnder_45 (v := 6) bc_6 (q := 47) rfl ?_
                  refine zIcmp_ne d_X12_isUnder_47 (tgt := 60) (q := 50) (by decide) rfl (fun h47 => ?_) (fun h47 => ?_)
                  · refine zIconst d_X12_isUnder_60 (v := 0) ic_0 (q := 61) rfl ?_
                    refine zIret d_X12_isUnder_61 rfl (by first | exact zn_bi | rfl) rfl ?_
                    exact zPi (by unfold bi; grind)
                  · refine zIloadN d_X12_isUnder_50 rfl rfl (q := 51) rfl ?_
                    refine zBipush d_X12_isUnder_51 (v := 7) bc_7 (q := 53) rfl ?_
                    refine zIcmp_ne d_X12_isUnder_53 (tgt := 60) (q := 56) (by decide) rfl (fun h53 => ?_) (fun h53 => ?_)
                    · refine zIconst d_X12_isUnder_60 (v := 0) ic_0 (q := 61) rfl ?_
                      refine zIret d_X12_isUnder_61 rfl (by first | exact zn_bi | rfl) rfl ?_
                      exact zPi (by unfold bi; grind)
                    · refine zIconst d_X12_isUnder_56 (v := 1) ic_1 (q := 57) rfl ?_
                      refine zGoto d_X12_isUnder_57 (q := 61) (by decide) ?_
                      refine zIret d_X12_isUnder_61 rfl (by first | exact zn_bi | rfl) rfl ?_
                      exact zPi (by unfold bi; grind)
                · refine zIloadN d_X12_isUnder_39 rfl rfl (q := 40) rfl ?_
                  refine zIconst d_X12_isUnder_40 (v := 5) ic_5 (q := 41) rfl ?_
                  refine zIcmp_eq d_X12_isUnder_41 (tgt := 56) (q := 44) (by decide) rfl (fun h41 => ?_) (fun h41 => ?_)
                  · refine zIconst d_X12_isUnder_56 (v := 1) ic_1 (q := 57) rfl ?_
                    refine zGoto d_X12_isUnder_57 (q := 61) (by decide) ?_
                    refine zIret d_X12_isUnder_61 rfl (by first | exact zn_bi | rfl) rfl ?_
                    exact zPi (by unfold bi; grind)
                  · refine zIloadN d_X12_isUnder_44 rfl rfl (q := 45) rfl ?_
                    refine zBipush d_X12_isUnder_45 (v := 6) bc_6 (q := 47) rfl ?_
                    refine zIcmp_ne d_X12_isUnder_47 (tgt := 60) (q := 50) (by decide) rfl (fun h47 => ?_) (fun h47 => ?_)
                    · refine zIconst d_X12_isUnder_60 (v := 0) ic_0 (q := 61) rfl ?_
                      refine zIret d_X12_isUnder_61 rfl (by first | exact zn_bi | rfl) rfl ?_
                      exact zPi (by unfold bi; grind)
                    · refine zIloadN d_X12_isUnder_50 rfl rfl (q := 51) rfl ?_
                      refine zBipush d_X12_isUnder_51 (v := 7) bc_7 (q := 53) rfl ?_
                      refine zIcmp_ne d_X12_isUnder_53 (tgt := 60) (q := 56) (by decide) rfl (fun h53 => ?_) (fun h53 => ?_)
                      · refine zIconst d_X12_isUnder_60 (v := 0) ic_0 (q := 61) rfl ?_
                        refine zIret d_X12_isUnder_61 rfl (by first | exact zn_bi | rfl) rfl ?_
                        exact zPi (by unfold bi; grind)
                      · refine zIconst d_X12_isUnder_56 (v := 1) ic_1 (q := 57) rfl ?_
                        refine zGoto d_X12_isUnder_57 (q := 61) (by decide) ?_
                        refine zIret d_X12_isUnder_61 rfl (by first | exact zn_bi | rfl) rfl ?_
                        exact zPi (by unfold bi; grind)
theorem sp_X12_plainSticks (hd : 2 ≤ d) (hq : q < 50) (hK : I 94 q = K) (hr : I 64 51 = nI r) (hl : r + (yPS (nI q) x).2.length < 1000) : zSp g l d 100 m_X12_plainSticks [.ref 64, .int (nI q), .int x] (zU I L fs) (zX (zTJ I L fs r (yPS (nI q) x))) := by
  have hl : r + 1 < 1000 := hl
  refine zSp_of (lv := [(0, .ref 64), (1, .int (nI q)), (2, .int x)]) k_X12_plainSticks rfl (Nat.le_of_ble_eq_true rfl) ?_
  refine zAloadN d_X12_plainSticks_0 rfl rfl (q := 1) rfl ?_
  refine zIconst d_X12_plainSticks_1 (v := 1) ic_1 (q := 2) rfl ?_
  refine zCallVV d_X12_plainSticks_2 ml_X12_382 k_X12_ran ki_X12_ran ks_X12_ran (sp_X12_ran (d := d - 1) (by omega) hr (by omega)) rfl rfl sh_64 (by decide) rfl (by decide) (Nat.le_of_ble_eq_true rfl) (by decide) (by omega) zns100 (q := 5) rfl (fun w' hw' => ?_)
  subst hw'
  refine zIloadN d_X12_plainSticks_5 rfl rfl (q := 6) rfl ?_
  refine zIloadN d_X12_plainSticks_6 rfl rfl (q := 7) rfl ?_
  refine zIadd d_X12_plainSticks_7 (q := 8) rfl ?_
  refine zIret d_X12_plainSticks_8 rfl rfl rfl ?_
  exact ⟨_, rfl, rfl, rfl⟩
theorem sp_X12_gooleSticks (hd : 3 ≤ d) (hq : q < 50) (hK : I 94 q = K) (hr : I 64 51 = nI r) (hl : r + (yGS (nI q) x).2.length < 1000) : zSp g l d 100 m_X12_gooleSticks [.ref 64, .int (nI q), .int x] (zU I L fs) (zX (zTJ I L fs r (yGS (nI q) x))) := by
  have hl : r + ((yPS (nI q) x).2.length + 1) < 1000 := hl
  refine zSp_of (lv := [(0, .ref 64), (1, .int (nI q)), (2, .int x)]) k_X12_gooleSticks rfl (Nat.le_of_ble_eq_true rfl) ?_
  refine zAloadN d_X12_gooleSticks_0 rfl rfl (q := 1) rfl ?_
  refine zBipush d_X12_gooleSticks_1 (v := 70) bc_70 (q := 3) rfl ?_
  refine zCallVV d_X12_gooleSticks_3 ml_X12_382 k_X12_ran ki_X12_ran ks_X12_ran (sp_X12_ran (d := d - 1) (by omega) hr (by omega)) rfl rfl sh_64 (by decide) rfl (by decide) (Nat.le_of_ble_eq_true rfl) (by decide) (by omega) zns100 (q := 6) rfl (fun w' hw' => ?_)
  subst hw'
  refine zAloadN d_X12_gooleSticks_6 rfl rfl (q := 7) rfl ?_
  refine zIloadN d_X12_gooleSticks_7 rfl rfl (q := 8) rfl ?_
  refine zIloadN d_X12_gooleSticks_8 rfl rfl (q := 9) rfl ?_
  refine zCallVX d_X12_gooleSticks_9 ml_X12_385 k_X12_plainSticks ki_X12_plainSticks ks_X12_plainSticks (sp_X12_plainSticks (d := d - 1) (by omega) hq hK (I := zTrJ I r [70]) (r := r + 1) rfl (by omega)) rfl rfl sh_64 (by decide) rfl (by decide) (Nat.le_of_ble_eq_true rfl) (by decide) (by omega) zns100 (q := 12) rfl (fun y w' hw' => ?_)
  obtain ⟨rfl, rfl⟩ := hw'
  rw [show zTrJ (zTrJ I r [70]) (r + 1) (yPS (nI q) x).2 = zTrJ I r (70 :: (yPS (nI q) x).2) from zTrJ_app I r [70] (yPS (nI q) x).2]
  refine zIconst d_X12_gooleSticks_12 (v := 2) ic_2 (q := 13) rfl ?_
  refine zImul d_X12_gooleSticks_13 (q := 14) rfl ?_
  refine zIret d_X12_gooleSticks_14 rfl rfl rfl ?_
  exact ⟨_, rfl, rfl, rfl⟩
theorem sp_X12_sticking (hd : 4 ≤ d) (hq : q < 50) (hK : I 94 q = K) (hr : I 64 51 = nI r) (hl : r + (ySt K (nI q) x).2.length < 1000) : zSp g l d 100 m_X12_sticking [.ref 64, .int (nI q), .int x] (zU I L fs) (zX (zTJ I L fs r (ySt K (nI q) x))) := by
  refine zSp_of (lv := [(0, .ref 64), (1, .int (nI q)), (2, .int x)]) k_X12_sticking rfl (Nat.le_of_ble_eq_true rfl) ?_
  refine zAloadN d_X12_sticking_0 rfl rfl (q := 1) rfl ?_
  refine zGetR d_X12_sticking_1 ff_X12_101 sh_64 (by decide) r_64_50 (q := 4) rfl ?_
  refine zIloadN d_X12_sticking_4 rfl rfl (q := 5) rfl ?_
  refine zIald d_X12_sticking_5 sh_94 (by decide) rfl hq (q := 6) rfl ?_
  rw [hK]
  refine zIconst d_X12_sticking_6 (v := 1) ic_1 (q := 7) rfl ?_
  refine zCallSP d_X12_sticking_7 ml_X12_388 k_X12_isUnder kt_X12_isUnder (sp_X12_isUnder (d := d - 1) (by omega) ) rfl rfl (Nat.le_of_ble_eq_true rfl) (by decide) (by omega) zns100 (q := 10) rfl ?_
  refine zIf_eq d_X12_sticking_10 (tgt := 28) (q := 13) (by decide) rfl (fun h10 => ?_) (fun h10 => ?_)
  · have c := bi_0.mp h10
    refine zAloadN d_X12_sticking_28 rfl rfl (q := 29) rfl ?_
    refine zGetR d_X12_sticking_29 ff_X12_101 sh_64 (by decide) r_64_50 (q := 32) rfl ?_
    refine zIloadN d_X12_sticking_32 rfl rfl (q := 33) rfl ?_
    refine zIald d_X12_sticking_33 sh_94 (by decide) rfl hq (q := 34) rfl ?_
    rw [hK]
    refine zBipush d_X12_sticking_34 (v := 7) bc_7 (q := 36) rfl ?_
    refine zIcmp_ne d_X12_sticking_36 (tgt := 54) (q := 39) (by decide) rfl (fun h36 => ?_) (fun h36 => ?_)
    · refine zAloadN d_X12_sticking_54 rfl rfl (q := 55) rfl ?_
      refine zGetR d_X12_sticking_55 ff_X12_101 sh_64 (by decide) r_64_50 (q := 58) rfl ?_
      refine zIloadN d_X12_sticking_58 rfl rfl (q := 59) rfl ?_
      refine zIald d_X12_sticking_59 sh_94 (by decide) rfl hq (q := 60) rfl ?_
      rw [hK]
      refine zBipush d_X12_sticking_60 (v := 6) bc_6 (q := 62) rfl ?_
      refine zIcmp_ne d_X12_sticking_62 (tgt := 74) (q := 65) (by decide) rfl (fun h62 => ?_) (fun h62 => ?_)
      · have e : ySt K (nI q) x = yPS (nI q) x := by unfold ySt; rw [if_neg c, if_neg h36, if_neg h62]
        rw [e] at hl ⊢
        refine zAloadN d_X12_sticking_74 rfl rfl (q := 75) rfl ?_
        refine zIloadN d_X12_sticking_75 rfl rfl (q := 76) rfl ?_
        refine zIloadN d_X12_sticking_76 rfl rfl (q := 77) rfl ?_
        refine zCallVX d_X12_sticking_77 ml_X12_385 k_X12_plainSticks ki_X12_plainSticks ks_X12_plainSticks (sp_X12_plainSticks (d := d - 1) (by omega) hq hK hr hl) rfl rfl sh_64 (by decide) rfl (by decide) (Nat.le_of_ble_eq_true rfl) (by decide) (by omega) zns100 (q := 80) rfl (fun y w' hw' => ?_)
        obtain ⟨rfl, rfl⟩ := hw'
        refine zIret d_X12_sticking_80 rfl rfl rfl ?_
        exact ⟨_, rfl, rfl, rfl⟩
      · have e : ySt K (nI q) x = yGS (nI q) x := by unfold ySt; rw [if_neg c, if_neg h36, if_pos h62]
        rw [e] at hl ⊢
        refine zAloadN d_X12_sticking_65 rfl rfl (q := 66) rfl ?_
        refine zIloadN d_X12_sticking_66 rfl rfl (q := 67) rfl ?_
        refine zIloadN d_X12_sticking_67 rfl rfl (q := 68) rfl ?_
        refine zCallVX d_X12_sticking_68 ml_X12_391 k_X12_gooleSticks ki_X12_gooleSticks ks_X12_gooleSticks (sp_X12_gooleSticks (d := d - 1) (by omega) hq hK hr hl) rfl rfl sh_64 (by decide) rfl (by decide) (Nat.le_of_ble_eq_true rfl) (by decide) (by omega) zns100 (q := 71) rfl (fun y w' hw' => ?_)
        obtain ⟨rfl, rfl⟩ := hw'
        refine zGoto d_X12_sticking_71 (q := 80) (by decide) ?_
        refine zIret d_X12_sticking_80 rfl rfl rfl ?_
        exact ⟨_, rfl, rfl, rfl⟩
    · have e : ySt K (nI q) x = ((yGS (nI q) x).1 - 1, 81 :: (yGS (nI q) x).2) := by unfold ySt; rw [if_neg c, if_pos h36]
      rw [e] at hl ⊢
      have hl : r + ((yGS (nI q) x).2.length + 1) < 1000 := hl
      refine zAloadN d_X12_sticking_39 rfl rfl (q := 40) rfl ?_
      refine zBipush d_X12_sticking_40 (v := 81) bc_81 (q := 42) rfl ?_
      refine zCallVV d_X12_sticking_42 ml_X12_382 k_X12_ran ki_X12_ran ks_X12_ran (sp_X12_ran (d := d - 1) (by omega) hr (by omega)) rfl rfl sh_64 (by decide) rfl (by decide) (Nat.le_of_ble_eq_true rfl) (by decide) (by omega) zns100 (q := 45) rfl (fun w' hw' => ?_)
      subst hw'
      refine zAloadN d_X12_sticking_45 rfl rfl (q := 46) rfl ?_
      refine zIloadN d_X12_sticking_46 rfl rfl (q := 47) rfl ?_
      refine zIloadN d_X12_sticking_47 rfl rfl (q := 48) rfl ?_
      refine zCallVX d_X12_sticking_48 ml_X12_391 k_X12_gooleSticks ki_X12_gooleSticks ks_X12_gooleSticks (sp_X12_gooleSticks (d := d - 1) (by omega) hq hK (I := zTrJ I r [81]) (r := r + 1) rfl (by omega)) rfl rfl sh_64 (by decide) rfl (by decide) (Nat.le_of_ble_eq_true rfl) (by decide) (by omega) zns100 (q := 51) rfl (fun y w' hw' => ?_)
      obtain ⟨rfl, rfl⟩ := hw'
      rw [show zTrJ (zTrJ I r [81]) (r + 1) (yGS (nI q) x).2 = zTrJ I r (81 :: (yGS (nI q) x).2) from zTrJ_app I r [81] (yGS (nI q) x).2]
      refine zIconst d_X12_sticking_51 (v := 1) ic_1 (q := 52) rfl ?_
      refine zIsub d_X12_sticking_52 (q := 53) rfl ?_
      refine zIret d_X12_sticking_53 rfl rfl rfl ?_
      exact ⟨_, rfl, rfl, rfl⟩
  · have c := bi_n0.mp h10
    have e : ySt K (nI q) x = ((yPS (nI q) x).1 + 3, 20 :: (yPS (nI q) x).2) := if_pos c
    rw [e] at hl ⊢
    have hl : r + ((yPS (nI q) x).2.length + 1) < 1000 := hl
    refine zAloadN d_X12_sticking_13 rfl rfl (q := 14) rfl ?_
    refine zBipush d_X12_sticking_14 (v := 20) bc_20 (q := 16) rfl ?_
    refine zCallVV d_X12_sticking_16 ml_X12_382 k_X12_ran ki_X12_ran ks_X12_ran (sp_X12_ran (d := d - 1) (by omega) hr (by omega)) rfl rfl sh_64 (by decide) rfl (by decide) (Nat.le_of_ble_eq_true rfl) (by decide) (by omega) zns100 (q := 19) rfl (fun w' hw' => ?_)
    subst hw'
    refine zAloadN d_X12_sticking_19 rfl rfl (q := 20) rfl ?_
    refine zIloadN d_X12_sticking_20 rfl rfl (q := 21) rfl ?_
    refine zIloadN d_X12_sticking_21 rfl rfl (q := 22) rfl ?_
    refine zCallVX d_X12_sticking_22 ml_X12_385 k_X12_plainSticks ki_X12_plainSticks ks_X12_plainSticks (sp_X12_plainSticks (d := d - 1) (by omega) hq hK (I := zTrJ I r [20]) (r := r + 1) rfl (by omega)) rfl rfl sh_64 (by decide) rfl (by decide) (Nat.le_of_ble_eq_true rfl) (by decide) (by omega) zns100 (q := 25) rfl (fun y w' hw' => ?_)
    obtain ⟨rfl, rfl⟩ := hw'
    rw [show zTrJ (zTrJ I r [20]) (r + 1) (yPS (nI q) x).2 = zTrJ I r (20 :: (yPS (nI q) x).2) from zTrJ_app I r [20] (yPS (nI q) x).2]
    refine zIconst d_X12_sticking_25 (v := 3) ic_3 (q := 26) rfl ?_
    refine zIadd d_X12_sticking_26 (q := 27) rfl ?_
    refine zIret d_X12_sticking_27 rfl rfl rfl ?_
    exact ⟨_, rfl, rfl, rfl⟩
theorem sp_X12_plainDrops (hd : 5 ≤ d) (hq : q < 50) (hK : I 94 q = K) (hr : I 64 51 = nI r) (hl : r + (yPD K (nI q) x).2.length < 1000) : zSp g l d 100 m_X12_plainDrops [.ref 64, .int (nI q), .int x] (zU I L fs) (zX (zTJ I L fs r (yPD K (nI q) x))) := by
  have hl : r + ((ySt K (nI q) x).2.length + 1) < 1000 := hl
  refine zSp_of (lv := [(0, .ref 64), (1, .int (nI q)), (2, .int x)]) k_X12_plainDrops rfl (Nat.le_of_ble_eq_true rfl) ?_
  refine zAloadN d_X12_plainDrops_0 rfl rfl (q := 1) rfl ?_
  refine zBipush d_X12_plainDrops_1 (v := 10) bc_10 (q := 3) rfl ?_
  refine zCallVV d_X12_plainDrops_3 ml_X12_382 k_X12_ran ki_X12_ran ks_X12_ran (sp_X12_ran (d := d - 1) (by omega) hr (by omega)) rfl rfl sh_64 (by decide) rfl (by decide) (Nat.le_of_ble_eq_true rfl) (by decide) (by omega) zns100 (q := 6) rfl (fun w' hw' => ?_)
  subst hw'
  refine zAloadN d_X12_plainDrops_6 rfl rfl (q := 7) rfl ?_
  refine zIloadN d_X12_plainDrops_7 rfl rfl (q := 8) rfl ?_
  refine zIloadN d_X12_plainDrops_8 rfl rfl (q := 9) rfl ?_
  refine zCallVX d_X12_plainDrops_9 ml_X12_394 k_X12_sticking ki_X12_sticking ks_X12_sticking (sp_X12_sticking (d := d - 1) (by omega) hq hK (I := zTrJ I r [10]) (r := r + 1) rfl (by omega)) rfl rfl sh_64 (by decide) rfl (by decide) (Nat.le_of_ble_eq_true rfl) (by decide) (by omega) zns100 (q := 12) rfl (fun y w' hw' => ?_)
  obtain ⟨rfl, rfl⟩ := hw'
  rw [show zTrJ (zTrJ I r [10]) (r + 1) (ySt K (nI q) x).2 = zTrJ I r (10 :: (ySt K (nI q) x).2) from zTrJ_app I r [10] (ySt K (nI q) x).2]
  refine zIconst d_X12_plainDrops_12 (v := 2) ic_2 (q := 13) rfl ?_
  refine zImul d_X12_plainDrops_13 (q := 14) rfl ?_
  refine zIret d_X12_plainDrops_14 rfl rfl rfl ?_
  exact ⟨_, rfl, rfl, rfl⟩
theorem sp_X12_heapDrops (hd : 6 ≤ d) (hq : q < 50) (hK : I 94 q = K) (hr : I 64 51 = nI r) (hl : r + (yHD K (nI q) x).2.length < 1000) : zSp g l d 100 m_X12_heapDrops [.ref 64, .int (nI q), .int x] (zU I L fs) (zX (zTJ I L fs r (yHD K (nI q) x))) := by
  have hl : r + ((yPD K (nI q) x).2.length + 1) < 1000 := hl
  refine zSp_of (lv := [(0, .ref 64), (1, .int (nI q)), (2, .int x)]) k_X12_heapDrops rfl (Nat.le_of_ble_eq_true rfl) ?_
  refine zAloadN d_X12_heapDrops_0 rfl rfl (q := 1) rfl ?_
  refine zBipush d_X12_heapDrops_1 (v := 30) bc_30 (q := 3) rfl ?_
  refine zCallVV d_X12_heapDrops_3 ml_X12_382 k_X12_ran ki_X12_ran ks_X12_ran (sp_X12_ran (d := d - 1) (by omega) hr (by omega)) rfl rfl sh_64 (by decide) rfl (by decide) (Nat.le_of_ble_eq_true rfl) (by decide) (by omega) zns100 (q := 6) rfl (fun w' hw' => ?_)
  subst hw'
  refine zAloadN d_X12_heapDrops_6 rfl rfl (q := 7) rfl ?_
  refine zIloadN d_X12_heapDrops_7 rfl rfl (q := 8) rfl ?_
  refine zIloadN d_X12_heapDrops_8 rfl rfl (q := 9) rfl ?_
  refine zCallVX d_X12_heapDrops_9 ml_X12_397 k_X12_plainDrops ki_X12_plainDrops ks_X12_plainDrops (sp_X12_plainDrops (d := d - 1) (by omega) hq hK (I := zTrJ I r [30]) (r := r + 1) rfl (by omega)) rfl rfl sh_64 (by decide) rfl (by decide) (Nat.le_of_ble_eq_true rfl) (by decide) (by omega) zns100 (q := 12) rfl (fun y w' hw' => ?_)
  obtain ⟨rfl, rfl⟩ := hw'
  rw [show zTrJ (zTrJ I r [30]) (r + 1) (yPD K (nI q) x).2 = zTrJ I r (30 :: (yPD K (nI q) x).2) from zTrJ_app I r [30] (yPD K (nI q) x).2]
  refine zIneg d_X12_heapDrops_12 (q := 13) rfl ?_
  refine zIret d_X12_heapDrops_13 rfl rfl rfl ?_
  exact ⟨_, rfl, rfl, rfl⟩
theorem sp_X12_plainLies (hd : 2 ≤ d) (hq : q < 50) (hK : I 94 q = K) (hr : I 64 51 = nI r) (hl : r + (yPL (nI q) x).2.length < 1000) : zSp g l d 100 m_X12_plainLies [.ref 64, .int (nI q), .int x] (zU I L fs) (zX (zTJ I L fs r (yPL (nI q) x))) := by
  have hl : r + 1 < 1000 := hl
  refine zSp_of (lv := [(0, .ref 64), (1, .int (nI q)), (2, .int x)]) k_X12_plainLies rfl (Nat.le_of_ble_eq_true rfl) ?_
  refine zAloadN d_X12_plainLies_0 rfl rfl (q := 1) rfl ?_
  refine zBipush d_X12_plainLies_1 (v := 11) bc_11 (q := 3) rfl ?_
  refine zCallVV d_X12_plainLies_3 ml_X12_382 k_X12_ran ki_X12_ran ks_X12_ran (sp_X12_ran (d := d - 1) (by omega) hr (by omega)) rfl rfl sh_64 (by decide) rfl (by decide) (Nat.le_of_ble_eq_true rfl) (by decide) (by omega) zns100 (q := 6) rfl (fun w' hw' => ?_)
  subst hw'
  refine zIloadN d_X12_plainLies_6 rfl rfl (q := 7) rfl ?_
  refine zIloadN d_X12_plainLies_7 rfl rfl (q := 8) rfl ?_
  refine zIxor d_X12_plainLies_8 (q := 9) rfl ?_
  refine zIret d_X12_plainLies_9 rfl rfl rfl ?_
  exact ⟨_, rfl, rfl, rfl⟩
theorem sp_X12_flingLies (hd : 3 ≤ d) (hq : q < 50) (hK : I 94 q = K) (hr : I 64 51 = nI r) (hl : r + (yFL (nI q) x).2.length < 1000) : zSp g l d 100 m_X12_flingLies [.ref 64, .int (nI q), .int x] (zU I L fs) (zX (zTJ I L fs r (yFL (nI q) x))) := by
  have hl : r + ((yPL (nI q) x).2.length + 1) < 1000 := hl
  refine zSp_of (lv := [(0, .ref 64), (1, .int (nI q)), (2, .int x)]) k_X12_flingLies rfl (Nat.le_of_ble_eq_true rfl) ?_
  refine zAloadN d_X12_flingLies_0 rfl rfl (q := 1) rfl ?_
  refine zBipush d_X12_flingLies_1 (v := 40) bc_40 (q := 3) rfl ?_
  refine zCallVV d_X12_flingLies_3 ml_X12_382 k_X12_ran ki_X12_ran ks_X12_ran (sp_X12_ran (d := d - 1) (by omega) hr (by omega)) rfl rfl sh_64 (by decide) rfl (by decide) (Nat.le_of_ble_eq_true rfl) (by decide) (by omega) zns100 (q := 6) rfl (fun w' hw' => ?_)
  subst hw'
  refine zAloadN d_X12_flingLies_6 rfl rfl (q := 7) rfl ?_
  refine zIloadN d_X12_flingLies_7 rfl rfl (q := 8) rfl ?_
  refine zIloadN d_X12_flingLies_8 rfl rfl (q := 9) rfl ?_
  refine zCallVX d_X12_flingLies_9 ml_X12_406 k_X12_plainLies ki_X12_plainLies ks_X12_plainLies (sp_X12_plainLies (d := d - 1) (by omega) hq hK (I := zTrJ I r [40]) (r := r + 1) rfl (by omega)) rfl rfl sh_64 (by decide) rfl (by decide) (Nat.le_of_ble_eq_true rfl) (by decide) (by omega) zns100 (q := 12) rfl (fun y w' hw' => ?_)
  obtain ⟨rfl, rfl⟩ := hw'
  rw [show zTrJ (zTrJ I r [40]) (r + 1) (yPL (nI q) x).2 = zTrJ I r (40 :: (yPL (nI q) x).2) from zTrJ_app I r [40] (yPL (nI q) x).2]
  refine zIconst d_X12_flingLies_12 (v := 3) ic_3 (q := 13) rfl ?_
  refine zImul d_X12_flingLies_13 (q := 14) rfl ?_
  refine zIret d_X12_flingLies_14 rfl rfl rfl ?_
  exact ⟨_, rfl, rfl, rfl⟩
theorem sp_X12_lying (hd : 6 ≤ d) (hq : q < 50) (hK : I 94 q = K) (hr : I 64 51 = nI r) (hl : r + (yLi K (nI q) x).2.length < 1000) : zSp g l d 100 m_X12_lying [.ref 64, .int (nI q), .int x] (zU I L fs) (zX (zTJ I L fs r (yLi K (nI q) x))) := by
  refine zSp_of (lv := [(0, .ref 64), (1, .int (nI q)), (2, .int x)]) k_X12_lying rfl (Nat.le_of_ble_eq_true rfl) ?_
  refine zAloadN d_X12_lying_0 rfl rfl (q := 1) rfl ?_
  refine zGetR d_X12_lying_1 ff_X12_101 sh_64 (by decide) r_64_50 (q := 4) rfl ?_
  refine zIloadN d_X12_lying_4 rfl rfl (q := 5) rfl ?_
  refine zIald d_X12_lying_5 sh_94 (by decide) rfl hq (q := 6) rfl ?_
  rw [hK]
  refine zIconst d_X12_lying_6 (v := 5) ic_5 (q := 7) rfl ?_
  refine zIcmp_ne d_X12_lying_7 (tgt := 32) (q := 10) (by decide) rfl (fun h7 => ?_) (fun h7 => ?_)
  · refine zAloadN d_X12_lying_32 rfl rfl (q := 33) rfl ?_
    refine zGetR d_X12_lying_33 ff_X12_101 sh_64 (by decide) r_64_50 (q := 36) rfl ?_
    refine zIloadN d_X12_lying_36 rfl rfl (q := 37) rfl ?_
    refine zIald d_X12_lying_37 sh_94 (by decide) rfl hq (q := 38) rfl ?_
    rw [hK]
    refine zIconst d_X12_lying_38 (v := 3) ic_3 (q := 39) rfl ?_
    refine zIcmp_ne d_X12_lying_39 (tgt := 51) (q := 42) (by decide) rfl (fun h39 => ?_) (fun h39 => ?_)
    · have e : yLi K (nI q) x = yPL (nI q) x := by unfold yLi; rw [if_neg h7, if_neg h39]
      rw [e] at hl ⊢
      refine zAloadN d_X12_lying_51 rfl rfl (q := 52) rfl ?_
      refine zIloadN d_X12_lying_52 rfl rfl (q := 53) rfl ?_
      refine zIloadN d_X12_lying_53 rfl rfl (q := 54) rfl ?_
      refine zCallVX d_X12_lying_54 ml_X12_406 k_X12_plainLies ki_X12_plainLies ks_X12_plainLies (sp_X12_plainLies (d := d - 1) (by omega) hq hK hr hl) rfl rfl sh_64 (by decide) rfl (by decide) (Nat.le_of_ble_eq_true rfl) (by decide) (by omega) zns100 (q := 57) rfl (fun y w' hw' => ?_)
      obtain ⟨rfl, rfl⟩ := hw'
      refine zIret d_X12_lying_57 rfl rfl rfl ?_
      exact ⟨_, rfl, rfl, rfl⟩
    · have e : yLi K (nI q) x = yFL (nI q) x := by unfold yLi; rw [if_neg h7, if_pos h39]
      rw [e] at hl ⊢
      refine zAloadN d_X12_lying_42 rfl rfl (q := 43) rfl ?_
      refine zIloadN d_X12_lying_43 rfl rfl (q := 44) rfl ?_
      refine zIloadN d_X12_lying_44 rfl rfl (q := 45) rfl ?_
      refine zCallVX d_X12_lying_45 ml_X12_409 k_X12_flingLies ki_X12_flingLies ks_X12_flingLies (sp_X12_flingLies (d := d - 1) (by omega) hq hK hr hl) rfl rfl sh_64 (by decide) rfl (by decide) (Nat.le_of_ble_eq_true rfl) (by decide) (by omega) zns100 (q := 48) rfl (fun y w' hw' => ?_)
      obtain ⟨rfl, rfl⟩ := hw'
      refine zGoto d_X12_lying_48 (q := 57) (by decide) ?_
      refine zIret d_X12_lying_57 rfl rfl rfl ?_
      exact ⟨_, rfl, rfl, rfl⟩
  · have e : yLi K (nI q) x = ((yFL (nI q) x).1 - (ySt K (nI q) 2).1, 60 :: ((yFL (nI q) x).2 ++ (ySt K (nI q) 2).2)) := if_pos h7
    rw [e] at hl ⊢
    have hl : r + (((yFL (nI q) x).2 ++ (ySt K (nI q) 2).2).length + 1) < 1000 := hl
    rw [List.length_append] at hl
    refine zAloadN d_X12_lying_10 rfl rfl (q := 11) rfl ?_
    refine zBipush d_X12_lying_11 (v := 60) bc_60 (q := 13) rfl ?_
    refine zCallVV d_X12_lying_13 ml_X12_382 k_X12_ran ki_X12_ran ks_X12_ran (sp_X12_ran (d := d - 1) (by omega) hr (by omega)) rfl rfl sh_64 (by decide) rfl (by decide) (Nat.le_of_ble_eq_true rfl) (by decide) (by omega) zns100 (q := 16) rfl (fun w' hw' => ?_)
    subst hw'
    refine zAloadN d_X12_lying_16 rfl rfl (q := 17) rfl ?_
    refine zIloadN d_X12_lying_17 rfl rfl (q := 18) rfl ?_
    refine zIloadN d_X12_lying_18 rfl rfl (q := 19) rfl ?_
    refine zCallVX d_X12_lying_19 ml_X12_409 k_X12_flingLies ki_X12_flingLies ks_X12_flingLies (sp_X12_flingLies (d := d - 1) (by omega) hq hK (I := zTrJ I r [60]) (r := r + 1) rfl (by omega)) rfl rfl sh_64 (by decide) rfl (by decide) (Nat.le_of_ble_eq_true rfl) (by decide) (by omega) zns100 (q := 22) rfl (fun y w' hw' => ?_)
    obtain ⟨rfl, rfl⟩ := hw'
    rw [show zTrJ (zTrJ I r [60]) (r + 1) (yFL (nI q) x).2 = zTrJ I r (60 :: (yFL (nI q) x).2) from zTrJ_app I r [60] (yFL (nI q) x).2]
    refine zIstoreN d_X12_lying_22 rfl (by decide) rfl (q := 23) rfl ?_
    refine zIloadN d_X12_lying_23 rfl rfl (q := 24) rfl ?_
    refine zAloadN d_X12_lying_24 rfl rfl (q := 25) rfl ?_
    refine zIloadN d_X12_lying_25 rfl rfl (q := 26) rfl ?_
    refine zIconst d_X12_lying_26 (v := 2) ic_2 (q := 27) rfl ?_
    refine zCallVX d_X12_lying_27 ml_X12_394 k_X12_sticking ki_X12_sticking ks_X12_sticking (sp_X12_sticking (d := d - 1) (by omega) hq hK (I := zTrJ I r (60 :: (yFL (nI q) x).2)) (x := 2) (r := r + (60 :: (yFL (nI q) x).2).length) rfl (by show r + ((yFL (nI q) x).2.length + 1) + (ySt K (nI q) 2).2.length < 1000; omega)) rfl rfl sh_64 (by decide) rfl (by decide) (Nat.le_of_ble_eq_true rfl) (by decide) (by omega) zns100 (q := 30) rfl (fun y w' hw' => ?_)
    obtain ⟨rfl, rfl⟩ := hw'
    rw [show zTrJ (zTrJ I r (60 :: (yFL (nI q) x).2)) (r + (60 :: (yFL (nI q) x).2).length) (ySt K (nI q) 2).2 = zTrJ I r (60 :: ((yFL (nI q) x).2 ++ (ySt K (nI q) 2).2)) from zTrJ_app I r (60 :: (yFL (nI q) x).2) (ySt K (nI q) 2).2]
    refine zIsub d_X12_lying_30 (q := 31) rfl ?_
    refine zIret d_X12_lying_31 rfl rfl rfl ?_
    exact ⟨_, rfl, rfl, rfl⟩
theorem sp_X12_dropping (hd : 8 ≤ d) (hq : q < 50) (hK : I 94 q = K) (hr : I 64 51 = nI r) (hl : r + (yDr K (nI q) x).2.length < 1000) : zSp g l d 100 m_X12_dropping [.ref 64, .int (nI q), .int x] (zU I L fs) (zX (zTJ I L fs r (yDr K (nI q) x))) := by
  refine zSp_of (lv := [(0, .ref 64), (1, .int (nI q)), (2, .int x)]) k_X12_dropping rfl (Nat.le_of_ble_eq_true rfl) ?_
  refine zAloadN d_X12_dropping_0 rfl rfl (q := 1) rfl ?_
  refine zGetR d_X12_dropping_1 ff_X12_101 sh_64 (by decide) r_64_50 (q := 4) rfl ?_
  refine zIloadN d_X12_dropping_4 rfl rfl (q := 5) rfl ?_
  refine zIald d_X12_dropping_5 sh_94 (by decide) rfl hq (q := 6) rfl ?_
  rw [hK]
  refine zIconst d_X12_dropping_6 (v := 3) ic_3 (q := 7) rfl ?_
  refine zCallSP d_X12_dropping_7 ml_X12_388 k_X12_isUnder kt_X12_isUnder (sp_X12_isUnder (d := d - 1) (by omega) ) rfl rfl (Nat.le_of_ble_eq_true rfl) (by decide) (by omega) zns100 (q := 10) rfl ?_
  refine zIf_eq d_X12_dropping_10 (tgt := 28) (q := 13) (by decide) rfl (fun h10 => ?_) (fun h10 => ?_)
  · have c := bi_0.mp h10
    refine zAloadN d_X12_dropping_28 rfl rfl (q := 29) rfl ?_
    refine zGetR d_X12_dropping_29 ff_X12_101 sh_64 (by decide) r_64_50 (q := 32) rfl ?_
    refine zIloadN d_X12_dropping_32 rfl rfl (q := 33) rfl ?_
    refine zIald d_X12_dropping_33 sh_94 (by decide) rfl hq (q := 34) rfl ?_
    rw [hK]
    refine zBipush d_X12_dropping_34 (v := 7) bc_7 (q := 36) rfl ?_
    refine zIcmp_ne d_X12_dropping_36 (tgt := 61) (q := 39) (by decide) rfl (fun h36 => ?_) (fun h36 => ?_)
    · refine zAloadN d_X12_dropping_61 rfl rfl (q := 62) rfl ?_
      refine zGetR d_X12_dropping_62 ff_X12_101 sh_64 (by decide) r_64_50 (q := 65) rfl ?_
      refine zIloadN d_X12_dropping_65 rfl rfl (q := 66) rfl ?_
      refine zIald d_X12_dropping_66 sh_94 (by decide) rfl hq (q := 67) rfl ?_
      rw [hK]
      refine zIconst d_X12_dropping_67 (v := 2) ic_2 (q := 68) rfl ?_
      refine zIcmp_ne d_X12_dropping_68 (tgt := 80) (q := 71) (by decide) rfl (fun h68 => ?_) (fun h68 => ?_)
      · have e : yDr K (nI q) x = yPD K (nI q) x := by unfold yDr; rw [if_neg c, if_neg h36, if_neg h68]
        rw [e] at hl ⊢
        refine zAloadN d_X12_dropping_80 rfl rfl (q := 81) rfl ?_
        refine zIloadN d_X12_dropping_81 rfl rfl (q := 82) rfl ?_
        refine zIloadN d_X12_dropping_82 rfl rfl (q := 83) rfl ?_
        refine zCallVX d_X12_dropping_83 ml_X12_397 k_X12_plainDrops ki_X12_plainDrops ks_X12_plainDrops (sp_X12_plainDrops (d := d - 1) (by omega) hq hK hr hl) rfl rfl sh_64 (by decide) rfl (by decide) (Nat.le_of_ble_eq_true rfl) (by decide) (by omega) zns100 (q := 86) rfl (fun y w' hw' => ?_)
        obtain ⟨rfl, rfl⟩ := hw'
        refine zIret d_X12_dropping_86 rfl rfl rfl ?_
        exact ⟨_, rfl, rfl, rfl⟩
      · have e : yDr K (nI q) x = yHD K (nI q) x := by unfold yDr; rw [if_neg c, if_neg h36, if_pos h68]
        rw [e] at hl ⊢
        refine zAloadN d_X12_dropping_71 rfl rfl (q := 72) rfl ?_
        refine zIloadN d_X12_dropping_72 rfl rfl (q := 73) rfl ?_
        refine zIloadN d_X12_dropping_73 rfl rfl (q := 74) rfl ?_
        refine zCallVX d_X12_dropping_74 ml_X12_400 k_X12_heapDrops ki_X12_heapDrops ks_X12_heapDrops (sp_X12_heapDrops (d := d - 1) (by omega) hq hK hr hl) rfl rfl sh_64 (by decide) rfl (by decide) (Nat.le_of_ble_eq_true rfl) (by decide) (by omega) zns100 (q := 77) rfl (fun y w' hw' => ?_)
        obtain ⟨rfl, rfl⟩ := hw'
        refine zGoto d_X12_dropping_77 (q := 86) (by decide) ?_
        refine zIret d_X12_dropping_86 rfl rfl rfl ?_
        exact ⟨_, rfl, rfl, rfl⟩
    · have e : yDr K (nI q) x = ((yPD K (nI q) x).1 + (yLi K (nI q) 2).1, 80 :: ((yPD K (nI q) x).2 ++ (yLi K (nI q) 2).2)) := by unfold yDr; rw [if_neg c, if_pos h36]
      rw [e] at hl ⊢
      have hl : r + (((yPD K (nI q) x).2 ++ (yLi K (nI q) 2).2).length + 1) < 1000 := hl
      rw [List.length_append] at hl
      refine zAloadN d_X12_dropping_39 rfl rfl (q := 40) rfl ?_
      refine zBipush d_X12_dropping_40 (v := 80) bc_80 (q := 42) rfl ?_
      refine zCallVV d_X12_dropping_42 ml_X12_382 k_X12_ran ki_X12_ran ks_X12_ran (sp_X12_ran (d := d - 1) (by omega) hr (by omega)) rfl rfl sh_64 (by decide) rfl (by decide) (Nat.le_of_ble_eq_true rfl) (by decide) (by omega) zns100 (q := 45) rfl (fun w' hw' => ?_)
      subst hw'
      refine zAloadN d_X12_dropping_45 rfl rfl (q := 46) rfl ?_
      refine zIloadN d_X12_dropping_46 rfl rfl (q := 47) rfl ?_
      refine zIloadN d_X12_dropping_47 rfl rfl (q := 48) rfl ?_
      refine zCallVX d_X12_dropping_48 ml_X12_397 k_X12_plainDrops ki_X12_plainDrops ks_X12_plainDrops (sp_X12_plainDrops (d := d - 1) (by omega) hq hK (I := zTrJ I r [80]) (r := r + 1) rfl (by omega)) rfl rfl sh_64 (by decide) rfl (by decide) (Nat.le_of_ble_eq_true rfl) (by decide) (by omega) zns100 (q := 51) rfl (fun y w' hw' => ?_)
      obtain ⟨rfl, rfl⟩ := hw'
      rw [show zTrJ (zTrJ I r [80]) (r + 1) (yPD K (nI q) x).2 = zTrJ I r (80 :: (yPD K (nI q) x).2) from zTrJ_app I r [80] (yPD K (nI q) x).2]
      refine zIstoreN d_X12_dropping_51 rfl (by decide) rfl (q := 52) rfl ?_
      refine zIloadN d_X12_dropping_52 rfl rfl (q := 53) rfl ?_
      refine zAloadN d_X12_dropping_53 rfl rfl (q := 54) rfl ?_
      refine zIloadN d_X12_dropping_54 rfl rfl (q := 55) rfl ?_
      refine zIconst d_X12_dropping_55 (v := 2) ic_2 (q := 56) rfl ?_
      refine zCallVX d_X12_dropping_56 ml_X12_403 k_X12_lying ki_X12_lying ks_X12_lying (sp_X12_lying (d := d - 1) (by omega) hq hK (I := zTrJ I r (80 :: (yPD K (nI q) x).2)) (x := 2) (r := r + (80 :: (yPD K (nI q) x).2).length) rfl (by show r + ((yPD K (nI q) x).2.length + 1) + (yLi K (nI q) 2).2.length < 1000; omega)) rfl rfl sh_64 (by decide) rfl (by decide) (Nat.le_of_ble_eq_true rfl) (by decide) (by omega) zns100 (q := 59) rfl (fun y w' hw' => ?_)
      obtain ⟨rfl, rfl⟩ := hw'
      rw [show zTrJ (zTrJ I r (80 :: (yPD K (nI q) x).2)) (r + (80 :: (yPD K (nI q) x).2).length) (yLi K (nI q) 2).2 = zTrJ I r (80 :: ((yPD K (nI q) x).2 ++ (yLi K (nI q) 2).2)) from zTrJ_app I r (80 :: (yPD K (nI q) x).2) (yLi K (nI q) 2).2]
      refine zIadd d_X12_dropping_59 (q := 60) rfl ?_
      refine zIret d_X12_dropping_60 rfl rfl rfl ?_
      exact ⟨_, rfl, rfl, rfl⟩
  · have c := bi_n0.mp h10
    have e : yDr K (nI q) x = ((yHD K (nI q) (x + 1)).1, 41 :: (yHD K (nI q) (x + 1)).2) := if_pos c
    rw [e] at hl ⊢
    have hl : r + ((yHD K (nI q) (x + 1)).2.length + 1) < 1000 := hl
    refine zAloadN d_X12_dropping_13 rfl rfl (q := 14) rfl ?_
    refine zBipush d_X12_dropping_14 (v := 41) bc_41 (q := 16) rfl ?_
    refine zCallVV d_X12_dropping_16 ml_X12_382 k_X12_ran ki_X12_ran ks_X12_ran (sp_X12_ran (d := d - 1) (by omega) hr (by omega)) rfl rfl sh_64 (by decide) rfl (by decide) (Nat.le_of_ble_eq_true rfl) (by decide) (by omega) zns100 (q := 19) rfl (fun w' hw' => ?_)
    subst hw'
    refine zAloadN d_X12_dropping_19 rfl rfl (q := 20) rfl ?_
    refine zIloadN d_X12_dropping_20 rfl rfl (q := 21) rfl ?_
    refine zIloadN d_X12_dropping_21 rfl rfl (q := 22) rfl ?_
    refine zIconst d_X12_dropping_22 (v := 1) ic_1 (q := 23) rfl ?_
    refine zIadd d_X12_dropping_23 (q := 24) rfl ?_
    refine zCallVX d_X12_dropping_24 ml_X12_400 k_X12_heapDrops ki_X12_heapDrops ks_X12_heapDrops (sp_X12_heapDrops (d := d - 1) (by omega) hq hK (I := zTrJ I r [41]) (r := r + 1) (x := x + 1) rfl (by omega)) rfl rfl sh_64 (by decide) rfl (by decide) (Nat.le_of_ble_eq_true rfl) (by decide) (by omega) zns100 (q := 27) rfl (fun y w' hw' => ?_)
    obtain ⟨rfl, rfl⟩ := hw'
    rw [show zTrJ (zTrJ I r [41]) (r + 1) (yHD K (nI q) (x + 1)).2 = zTrJ I r (41 :: (yHD K (nI q) (x + 1)).2) from zTrJ_app I r [41] (yHD K (nI q) (x + 1)).2]
    refine zIret d_X12_dropping_27 rfl rfl rfl ?_
    exact ⟨_, rfl, rfl, rfl⟩
theorem sp_X12_plainTells (hd : 9 ≤ d) (hq : q < 50) (hK : I 94 q = K) (hr : I 64 51 = nI r) (hl : r + (yPT K (nI q) x).2.length < 1000) : zSp g l d 100 m_X12_plainTells [.ref 64, .int (nI q), .int x] (zU I L fs) (zX (zTJ I L fs r (yPT K (nI q) x))) := by
  have hl : r + (((yDr K (nI q) x).2 ++ (yLi K (nI q) 1).2).length + 1) < 1000 := hl
  rw [List.length_append] at hl
  refine zSp_of (lv := [(0, .ref 64), (1, .int (nI q)), (2, .int x)]) k_X12_plainTells rfl (Nat.le_of_ble_eq_true rfl) ?_
  refine zAloadN d_X12_plainTells_0 rfl rfl (q := 1) rfl ?_
  refine zIconst d_X12_plainTells_1 (v := 2) ic_2 (q := 2) rfl ?_
  refine zCallVV d_X12_plainTells_2 ml_X12_382 k_X12_ran ki_X12_ran ks_X12_ran (sp_X12_ran (d := d - 1) (by omega) hr (by omega)) rfl rfl sh_64 (by decide) rfl (by decide) (Nat.le_of_ble_eq_true rfl) (by decide) (by omega) zns100 (q := 5) rfl (fun w' hw' => ?_)
  subst hw'
  refine zAloadN d_X12_plainTells_5 rfl rfl (q := 6) rfl ?_
  refine zIloadN d_X12_plainTells_6 rfl rfl (q := 7) rfl ?_
  refine zIloadN d_X12_plainTells_7 rfl rfl (q := 8) rfl ?_
  refine zCallVX d_X12_plainTells_8 ml_X12_412 k_X12_dropping ki_X12_dropping ks_X12_dropping (sp_X12_dropping (d := d - 1) (by omega) hq hK (I := zTrJ I r [2]) (r := r + 1) rfl (by omega)) rfl rfl sh_64 (by decide) rfl (by decide) (Nat.le_of_ble_eq_true rfl) (by decide) (by omega) zns100 (q := 11) rfl (fun y w' hw' => ?_)
  obtain ⟨rfl, rfl⟩ := hw'
  rw [show zTrJ (zTrJ I r [2]) (r + 1) (yDr K (nI q) x).2 = zTrJ I r (2 :: (yDr K (nI q) x).2) from zTrJ_app I r [2] (yDr K (nI q) x).2]
  refine zIstoreN d_X12_plainTells_11 rfl (by decide) rfl (q := 12) rfl ?_
  refine zIloadN d_X12_plainTells_12 rfl rfl (q := 13) rfl ?_
  refine zAloadN d_X12_plainTells_13 rfl rfl (q := 14) rfl ?_
  refine zIloadN d_X12_plainTells_14 rfl rfl (q := 15) rfl ?_
  refine zIconst d_X12_plainTells_15 (v := 1) ic_1 (q := 16) rfl ?_
  refine zCallVX d_X12_plainTells_16 ml_X12_403 k_X12_lying ki_X12_lying ks_X12_lying (sp_X12_lying (d := d - 1) (by omega) hq hK (I := zTrJ I r (2 :: (yDr K (nI q) x).2)) (x := 1) (r := r + (2 :: (yDr K (nI q) x).2).length) rfl (by show r + ((yDr K (nI q) x).2.length + 1) + (yLi K (nI q) 1).2.length < 1000; omega)) rfl rfl sh_64 (by decide) rfl (by decide) (Nat.le_of_ble_eq_true rfl) (by decide) (by omega) zns100 (q := 19) rfl (fun y w' hw' => ?_)
  obtain ⟨rfl, rfl⟩ := hw'
  rw [show zTrJ (zTrJ I r (2 :: (yDr K (nI q) x).2)) (r + (2 :: (yDr K (nI q) x).2).length) (yLi K (nI q) 1).2 = zTrJ I r (2 :: ((yDr K (nI q) x).2 ++ (yLi K (nI q) 1).2)) from zTrJ_app I r (2 :: (yDr K (nI q) x).2) (yLi K (nI q) 1).2]
  refine zIsub d_X12_plainTells_19 (q := 20) rfl ?_
  refine zIret d_X12_plainTells_20 rfl rfl rfl ?_
  exact ⟨_, rfl, rfl, rfl⟩
theorem sp_X12_telling (hd : 10 ≤ d) (hq : q < 50) (hK : I 94 q = K) (hr : I 64 51 = nI r) (hl : r + (yTe K (nI q) x).2.length < 1000) : zSp g l d 100 m_X12_telling [.ref 64, .int (nI q), .int x] (zU I L fs) (zX (zTJ I L fs r (yTe K (nI q) x))) := by
  refine zSp_of (lv := [(0, .ref 64), (1, .int (nI q)), (2, .int x)]) k_X12_telling rfl (Nat.le_of_ble_eq_true rfl) ?_
  refine zAloadN d_X12_telling_0 rfl rfl (q := 1) rfl ?_
  refine zGetR d_X12_telling_1 ff_X12_101 sh_64 (by decide) r_64_50 (q := 4) rfl ?_
  refine zIloadN d_X12_telling_4 rfl rfl (q := 5) rfl ?_
  refine zIald d_X12_telling_5 sh_94 (by decide) rfl hq (q := 6) rfl ?_
  rw [hK]
  refine zIconst d_X12_telling_6 (v := 4) ic_4 (q := 7) rfl ?_
  refine zIcmp_ne d_X12_telling_7 (tgt := 25) (q := 10) (by decide) rfl (fun h7 => ?_) (fun h7 => ?_)
  · refine zAloadN d_X12_telling_25 rfl rfl (q := 26) rfl ?_
    refine zGetR d_X12_telling_26 ff_X12_101 sh_64 (by decide) r_64_50 (q := 29) rfl ?_
    refine zIloadN d_X12_telling_29 rfl rfl (q := 30) rfl ?_
    refine zIald d_X12_telling_30 sh_94 (by decide) rfl hq (q := 31) rfl ?_
    rw [hK]
    refine zIconst d_X12_telling_31 (v := 5) ic_5 (q := 32) rfl ?_
    refine zIcmp_ne d_X12_telling_32 (tgt := 50) (q := 35) (by decide) rfl (fun h32 => ?_) (fun h32 => ?_)
    · have e : yTe K (nI q) x = yPT K (nI q) x := by unfold yTe; rw [if_neg h7, if_neg h32]
      rw [e] at hl ⊢
      refine zAloadN d_X12_telling_50 rfl rfl (q := 51) rfl ?_
      refine zIloadN d_X12_telling_51 rfl rfl (q := 52) rfl ?_
      refine zIloadN d_X12_telling_52 rfl rfl (q := 53) rfl ?_
      refine zCallVX d_X12_telling_53 ml_X12_415 k_X12_plainTells ki_X12_plainTells ks_X12_plainTells (sp_X12_plainTells (d := d - 1) (by omega) hq hK hr hl) rfl rfl sh_64 (by decide) rfl (by decide) (Nat.le_of_ble_eq_true rfl) (by decide) (by omega) zns100 (q := 56) rfl (fun y w' hw' => ?_)
      obtain ⟨rfl, rfl⟩ := hw'
      refine zIret d_X12_telling_56 rfl rfl rfl ?_
      exact ⟨_, rfl, rfl, rfl⟩
    · have e : yTe K (nI q) x = ((yPT K (nI q) x).1 + 1, 61 :: (yPT K (nI q) x).2) := by unfold yTe; rw [if_neg h7, if_pos h32]
      rw [e] at hl ⊢
      have hl : r + ((yPT K (nI q) x).2.length + 1) < 1000 := hl
      refine zAloadN d_X12_telling_35 rfl rfl (q := 36) rfl ?_
      refine zBipush d_X12_telling_36 (v := 61) bc_61 (q := 38) rfl ?_
      refine zCallVV d_X12_telling_38 ml_X12_382 k_X12_ran ki_X12_ran ks_X12_ran (sp_X12_ran (d := d - 1) (by omega) hr (by omega)) rfl rfl sh_64 (by decide) rfl (by decide) (Nat.le_of_ble_eq_true rfl) (by decide) (by omega) zns100 (q := 41) rfl (fun w' hw' => ?_)
      subst hw'
      refine zAloadN d_X12_telling_41 rfl rfl (q := 42) rfl ?_
      refine zIloadN d_X12_telling_42 rfl rfl (q := 43) rfl ?_
      refine zIloadN d_X12_telling_43 rfl rfl (q := 44) rfl ?_
      refine zCallVX d_X12_telling_44 ml_X12_415 k_X12_plainTells ki_X12_plainTells ks_X12_plainTells (sp_X12_plainTells (d := d - 1) (by omega) hq hK (I := zTrJ I r [61]) (r := r + 1) rfl (by omega)) rfl rfl sh_64 (by decide) rfl (by decide) (Nat.le_of_ble_eq_true rfl) (by decide) (by omega) zns100 (q := 47) rfl (fun y w' hw' => ?_)
      obtain ⟨rfl, rfl⟩ := hw'
      rw [show zTrJ (zTrJ I r [61]) (r + 1) (yPT K (nI q) x).2 = zTrJ I r (61 :: (yPT K (nI q) x).2) from zTrJ_app I r [61] (yPT K (nI q) x).2]
      refine zIconst d_X12_telling_47 (v := 1) ic_1 (q := 48) rfl ?_
      refine zIadd d_X12_telling_48 (q := 49) rfl ?_
      refine zIret d_X12_telling_49 rfl rfl rfl ?_
      exact ⟨_, rfl, rfl, rfl⟩
  · have e : yTe K (nI q) x = ((yPT K (nI q) x).1 ^^^ 5, 50 :: (yPT K (nI q) x).2) := if_pos h7
    rw [e] at hl ⊢
    have hl : r + ((yPT K (nI q) x).2.length + 1) < 1000 := hl
    refine zAloadN d_X12_telling_10 rfl rfl (q := 11) rfl ?_
    refine zBipush d_X12_telling_11 (v := 50) bc_50 (q := 13) rfl ?_
    refine zCallVV d_X12_telling_13 ml_X12_382 k_X12_ran ki_X12_ran ks_X12_ran (sp_X12_ran (d := d - 1) (by omega) hr (by omega)) rfl rfl sh_64 (by decide) rfl (by decide) (Nat.le_of_ble_eq_true rfl) (by decide) (by omega) zns100 (q := 16) rfl (fun w' hw' => ?_)
    subst hw'
    refine zAloadN d_X12_telling_16 rfl rfl (q := 17) rfl ?_
    refine zIloadN d_X12_telling_17 rfl rfl (q := 18) rfl ?_
    refine zIloadN d_X12_telling_18 rfl rfl (q := 19) rfl ?_
    refine zCallVX d_X12_telling_19 ml_X12_415 k_X12_plainTells ki_X12_plainTells ks_X12_plainTells (sp_X12_plainTells (d := d - 1) (by omega) hq hK (I := zTrJ I r [50]) (r := r + 1) rfl (by omega)) rfl rfl sh_64 (by decide) rfl (by decide) (Nat.le_of_ble_eq_true rfl) (by decide) (by omega) zns100 (q := 22) rfl (fun y w' hw' => ?_)
    obtain ⟨rfl, rfl⟩ := hw'
    rw [show zTrJ (zTrJ I r [50]) (r + 1) (yPT K (nI q) x).2 = zTrJ I r (50 :: (yPT K (nI q) x).2) from zTrJ_app I r [50] (yPT K (nI q) x).2]
    refine zIconst d_X12_telling_22 (v := 5) ic_5 (q := 23) rfl ?_
    refine zIxor d_X12_telling_23 (q := 24) rfl ?_
    refine zIret d_X12_telling_24 rfl rfl rfl ?_
    exact ⟨_, rfl, rfl, rfl⟩
end S44

