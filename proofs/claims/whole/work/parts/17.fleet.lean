theorem d_X4_allIsSo_0 : decode (zmc m_X4_allIsSo) 0 = .ok (.aload_n 0, 1) := by decide +kernel
theorem d_X4_allIsSo_1 : decode (zmc m_X4_allIsSo) 1 = .ok (.iload_n 1, 1) := by decide +kernel
theorem d_X4_allIsSo_2 : decode (zmc m_X4_allIsSo) 2 = .ok (.invokevirtual 67, 3) := by decide +kernel
theorem d_X4_allIsSo_5 : decode (zmc m_X4_allIsSo) 5 = .ok (.istore_n 2, 1) := by decide +kernel
theorem d_X4_allIsSo_6 : decode (zmc m_X4_allIsSo) 6 = .ok (.iconst 0, 1) := by decide +kernel
theorem d_X4_allIsSo_7 : decode (zmc m_X4_allIsSo) 7 = .ok (.istore_n 3, 1) := by decide +kernel
theorem d_X4_allIsSo_8 : decode (zmc m_X4_allIsSo) 8 = .ok (.iload_n 3, 1) := by decide +kernel
theorem d_X4_allIsSo_9 : decode (zmc m_X4_allIsSo) 9 = .ok (.aload_n 0, 1) := by decide +kernel
theorem d_X4_allIsSo_10 : decode (zmc m_X4_allIsSo) 10 = .ok (.getfield 43, 3) := by decide +kernel
theorem d_X4_allIsSo_13 : decode (zmc m_X4_allIsSo) 13 = .ok (.if_icmp .ge 30, 3) := by decide +kernel
theorem d_X4_allIsSo_16 : decode (zmc m_X4_allIsSo) 16 = .ok (.iload_n 2, 1) := by decide +kernel
theorem d_X4_allIsSo_17 : decode (zmc m_X4_allIsSo) 17 = .ok (.aload_n 0, 1) := by decide +kernel
theorem d_X4_allIsSo_18 : decode (zmc m_X4_allIsSo) 18 = .ok (.getfield 9, 3) := by decide +kernel
theorem d_X4_allIsSo_21 : decode (zmc m_X4_allIsSo) 21 = .ok (.iload_n 3, 1) := by decide +kernel
theorem d_X4_allIsSo_22 : decode (zmc m_X4_allIsSo) 22 = .ok (.iaload, 1) := by decide +kernel
theorem d_X4_allIsSo_23 : decode (zmc m_X4_allIsSo) 23 = .ok (.ishr, 1) := by decide +kernel
theorem d_X4_allIsSo_24 : decode (zmc m_X4_allIsSo) 24 = .ok (.iconst 1, 1) := by decide +kernel
theorem d_X4_allIsSo_25 : decode (zmc m_X4_allIsSo) 25 = .ok (.iand, 1) := by decide +kernel
theorem d_X4_allIsSo_26 : decode (zmc m_X4_allIsSo) 26 = .ok (.aload_n 0, 1) := by decide +kernel
theorem d_X4_allIsSo_27 : decode (zmc m_X4_allIsSo) 27 = .ok (.getfield 13, 3) := by decide +kernel
theorem d_X4_allIsSo_30 : decode (zmc m_X4_allIsSo) 30 = .ok (.iload_n 3, 1) := by decide +kernel
theorem d_X4_allIsSo_31 : decode (zmc m_X4_allIsSo) 31 = .ok (.iaload, 1) := by decide +kernel
theorem d_X4_allIsSo_32 : decode (zmc m_X4_allIsSo) 32 = .ok (.if_icmp .eq 5, 3) := by decide +kernel
theorem d_X4_allIsSo_35 : decode (zmc m_X4_allIsSo) 35 = .ok (.iconst 0, 1) := by decide +kernel
theorem d_X4_allIsSo_36 : decode (zmc m_X4_allIsSo) 36 = .ok (.ireturn, 1) := by decide +kernel
theorem d_X4_allIsSo_37 : decode (zmc m_X4_allIsSo) 37 = .ok (.iinc 3 1, 3) := by decide +kernel
theorem d_X4_allIsSo_40 : decode (zmc m_X4_allIsSo) 40 = .ok (.goto (-32), 3) := by decide +kernel
theorem d_X4_allIsSo_43 : decode (zmc m_X4_allIsSo) 43 = .ok (.iconst 1, 1) := by decide +kernel
theorem d_X4_allIsSo_44 : decode (zmc m_X4_allIsSo) 44 = .ok (.ireturn, 1) := by decide +kernel
theorem d_X4_fewestFor_0 : decode (zmc m_X4_fewestFor) 0 = .ok (.aload_n 0, 1) := by decide +kernel
theorem d_X4_fewestFor_1 : decode (zmc m_X4_fewestFor) 1 = .ok (.getfield 16, 3) := by decide +kernel
theorem d_X4_fewestFor_4 : decode (zmc m_X4_fewestFor) 4 = .ok (.invokevirtual 29, 3) := by decide +kernel
theorem d_X4_fewestFor_7 : decode (zmc m_X4_fewestFor) 7 = .ok (.istore_n 2, 1) := by decide +kernel
theorem d_X4_fewestFor_8 : decode (zmc m_X4_fewestFor) 8 = .ok (.iconst (-1), 1) := by decide +kernel
theorem d_X4_fewestFor_9 : decode (zmc m_X4_fewestFor) 9 = .ok (.istore_n 3, 1) := by decide +kernel
theorem d_X4_fewestFor_10 : decode (zmc m_X4_fewestFor) 10 = .ok (.iconst 0, 1) := by decide +kernel
theorem d_X4_fewestFor_11 : decode (zmc m_X4_fewestFor) 11 = .ok (.istore 4, 2) := by decide +kernel
theorem d_X4_fewestFor_13 : decode (zmc m_X4_fewestFor) 13 = .ok (.iload 4, 2) := by decide +kernel
theorem d_X4_fewestFor_15 : decode (zmc m_X4_fewestFor) 15 = .ok (.iload_n 2, 1) := by decide +kernel
theorem d_X4_fewestFor_16 : decode (zmc m_X4_fewestFor) 16 = .ok (.if_icmp .gt 59, 3) := by decide +kernel
theorem d_X4_fewestFor_19 : decode (zmc m_X4_fewestFor) 19 = .ok (.iload_n 3, 1) := by decide +kernel
theorem d_X4_fewestFor_20 : decode (zmc m_X4_fewestFor) 20 = .ok (.ifCond .lt 15, 3) := by decide +kernel
theorem d_X4_fewestFor_23 : decode (zmc m_X4_fewestFor) 23 = .ok (.iload 4, 2) := by decide +kernel
theorem d_X4_fewestFor_25 : decode (zmc m_X4_fewestFor) 25 = .ok (.invokestatic 33, 3) := by decide +kernel
theorem d_X4_fewestFor_28 : decode (zmc m_X4_fewestFor) 28 = .ok (.iload_n 3, 1) := by decide +kernel
theorem d_X4_fewestFor_29 : decode (zmc m_X4_fewestFor) 29 = .ok (.invokestatic 33, 3) := by decide +kernel
theorem d_X4_fewestFor_32 : decode (zmc m_X4_fewestFor) 32 = .ok (.if_icmp .ge 7, 3) := by decide +kernel
theorem d_X4_fewestFor_35 : decode (zmc m_X4_fewestFor) 35 = .ok (.iconst 1, 1) := by decide +kernel
theorem d_X4_fewestFor_36 : decode (zmc m_X4_fewestFor) 36 = .ok (.goto 4, 3) := by decide +kernel
theorem d_X4_fewestFor_39 : decode (zmc m_X4_fewestFor) 39 = .ok (.iconst 0, 1) := by decide +kernel
theorem d_X4_fewestFor_40 : decode (zmc m_X4_fewestFor) 40 = .ok (.istore 5, 2) := by decide +kernel
theorem d_X4_fewestFor_42 : decode (zmc m_X4_fewestFor) 42 = .ok (.iload 4, 2) := by decide +kernel
theorem d_X4_fewestFor_44 : decode (zmc m_X4_fewestFor) 44 = .ok (.iload_n 2, 1) := by decide +kernel
theorem d_X4_fewestFor_45 : decode (zmc m_X4_fewestFor) 45 = .ok (.iconst (-1), 1) := by decide +kernel
theorem d_X4_fewestFor_46 : decode (zmc m_X4_fewestFor) 46 = .ok (.ixor, 1) := by decide +kernel
theorem d_X4_fewestFor_47 : decode (zmc m_X4_fewestFor) 47 = .ok (.iand, 1) := by decide +kernel
theorem d_X4_fewestFor_48 : decode (zmc m_X4_fewestFor) 48 = .ok (.ifCond .ne 21, 3) := by decide +kernel
theorem d_X4_fewestFor_51 : decode (zmc m_X4_fewestFor) 51 = .ok (.iload 5, 2) := by decide +kernel
theorem d_X4_fewestFor_53 : decode (zmc m_X4_fewestFor) 53 = .ok (.ifCond .eq 16, 3) := by decide +kernel
theorem d_X4_fewestFor_56 : decode (zmc m_X4_fewestFor) 56 = .ok (.aload_n 0, 1) := by decide +kernel
theorem d_X4_fewestFor_57 : decode (zmc m_X4_fewestFor) 57 = .ok (.iload 4, 2) := by decide +kernel
theorem d_X4_fewestFor_59 : decode (zmc m_X4_fewestFor) 59 = .ok (.iload_n 1, 1) := by decide +kernel
theorem d_X4_fewestFor_60 : decode (zmc m_X4_fewestFor) 60 = .ok (.invokevirtual 39, 3) := by decide +kernel
theorem d_X4_fewestFor_63 : decode (zmc m_X4_fewestFor) 63 = .ok (.ifCond .eq 6, 3) := by decide +kernel
theorem d_X4_fewestFor_66 : decode (zmc m_X4_fewestFor) 66 = .ok (.iload 4, 2) := by decide +kernel
theorem d_X4_fewestFor_68 : decode (zmc m_X4_fewestFor) 68 = .ok (.istore_n 3, 1) := by decide +kernel
theorem d_X4_fewestFor_69 : decode (zmc m_X4_fewestFor) 69 = .ok (.iinc 4 1, 3) := by decide +kernel
theorem d_X4_fewestFor_72 : decode (zmc m_X4_fewestFor) 72 = .ok (.goto (-59), 3) := by decide +kernel
theorem d_X4_fewestFor_75 : decode (zmc m_X4_fewestFor) 75 = .ok (.iload_n 3, 1) := by decide +kernel
theorem d_X4_fewestFor_76 : decode (zmc m_X4_fewestFor) 76 = .ok (.ireturn, 1) := by decide +kernel
theorem d_X4_findWrong_0 : decode (zmc m_X4_findWrong) 0 = .ok (.aload_n 0, 1) := by decide +kernel
theorem d_X4_findWrong_1 : decode (zmc m_X4_findWrong) 1 = .ok (.getfield 16, 3) := by decide +kernel
theorem d_X4_findWrong_4 : decode (zmc m_X4_findWrong) 4 = .ok (.iconst 4, 1) := by decide +kernel
theorem d_X4_findWrong_5 : decode (zmc m_X4_findWrong) 5 = .ok (.invokevirtual 54, 3) := by decide +kernel
theorem d_X4_findWrong_8 : decode (zmc m_X4_findWrong) 8 = .ok (.istore_n 1, 1) := by decide +kernel
theorem d_X4_findWrong_9 : decode (zmc m_X4_findWrong) 9 = .ok (.aload_n 0, 1) := by decide +kernel
theorem d_X4_findWrong_10 : decode (zmc m_X4_findWrong) 10 = .ok (.iconst 0, 1) := by decide +kernel
theorem d_X4_findWrong_11 : decode (zmc m_X4_findWrong) 11 = .ok (.putfield 57, 3) := by decide +kernel
theorem d_X4_findWrong_14 : decode (zmc m_X4_findWrong) 14 = .ok (.aload_n 0, 1) := by decide +kernel
theorem d_X4_findWrong_15 : decode (zmc m_X4_findWrong) 15 = .ok (.iconst 0, 1) := by decide +kernel
theorem d_X4_findWrong_16 : decode (zmc m_X4_findWrong) 16 = .ok (.putfield 60, 3) := by decide +kernel
theorem d_X4_findWrong_19 : decode (zmc m_X4_findWrong) 19 = .ok (.iconst 0, 1) := by decide +kernel
theorem d_X4_findWrong_20 : decode (zmc m_X4_findWrong) 20 = .ok (.istore_n 2, 1) := by decide +kernel
theorem d_X4_findWrong_21 : decode (zmc m_X4_findWrong) 21 = .ok (.iload_n 2, 1) := by decide +kernel
theorem d_X4_findWrong_22 : decode (zmc m_X4_findWrong) 22 = .ok (.iload_n 1, 1) := by decide +kernel
theorem d_X4_findWrong_23 : decode (zmc m_X4_findWrong) 23 = .ok (.if_icmp .gt 68, 3) := by decide +kernel
theorem d_X4_findWrong_26 : decode (zmc m_X4_findWrong) 26 = .ok (.iload_n 2, 1) := by decide +kernel
theorem d_X4_findWrong_27 : decode (zmc m_X4_findWrong) 27 = .ok (.iload_n 1, 1) := by decide +kernel
theorem d_X4_findWrong_28 : decode (zmc m_X4_findWrong) 28 = .ok (.iconst (-1), 1) := by decide +kernel
theorem d_X4_findWrong_29 : decode (zmc m_X4_findWrong) 29 = .ok (.ixor, 1) := by decide +kernel
theorem d_X4_findWrong_30 : decode (zmc m_X4_findWrong) 30 = .ok (.iand, 1) := by decide +kernel
theorem d_X4_findWrong_31 : decode (zmc m_X4_findWrong) 31 = .ok (.ifCond .ne 54, 3) := by decide +kernel
theorem d_X4_findWrong_34 : decode (zmc m_X4_findWrong) 34 = .ok (.aload_n 0, 1) := by decide +kernel
theorem d_X4_findWrong_35 : decode (zmc m_X4_findWrong) 35 = .ok (.iload_n 1, 1) := by decide +kernel
theorem d_X4_findWrong_36 : decode (zmc m_X4_findWrong) 36 = .ok (.iload_n 2, 1) := by decide +kernel
theorem d_X4_findWrong_37 : decode (zmc m_X4_findWrong) 37 = .ok (.iconst (-1), 1) := by decide +kernel
theorem d_X4_findWrong_38 : decode (zmc m_X4_findWrong) 38 = .ok (.ixor, 1) := by decide +kernel
theorem d_X4_findWrong_39 : decode (zmc m_X4_findWrong) 39 = .ok (.iand, 1) := by decide +kernel
theorem d_X4_findWrong_40 : decode (zmc m_X4_findWrong) 40 = .ok (.invokevirtual 63, 3) := by decide +kernel
theorem d_X4_findWrong_43 : decode (zmc m_X4_findWrong) 43 = .ok (.ifCond .ne 6, 3) := by decide +kernel
theorem d_X4_findWrong_46 : decode (zmc m_X4_findWrong) 46 = .ok (.goto 39, 3) := by decide +kernel
theorem d_X4_findWrong_49 : decode (zmc m_X4_findWrong) 49 = .ok (.aload_n 0, 1) := by decide +kernel
theorem d_X4_findWrong_50 : decode (zmc m_X4_findWrong) 50 = .ok (.getfield 57, 3) := by decide +kernel
theorem d_X4_findWrong_53 : decode (zmc m_X4_findWrong) 53 = .ok (.ifCond .eq 17, 3) := by decide +kernel
theorem d_X4_findWrong_56 : decode (zmc m_X4_findWrong) 56 = .ok (.iload_n 2, 1) := by decide +kernel
theorem d_X4_findWrong_57 : decode (zmc m_X4_findWrong) 57 = .ok (.invokestatic 33, 3) := by decide +kernel
theorem d_X4_findWrong_60 : decode (zmc m_X4_findWrong) 60 = .ok (.aload_n 0, 1) := by decide +kernel
theorem d_X4_findWrong_61 : decode (zmc m_X4_findWrong) 61 = .ok (.getfield 60, 3) := by decide +kernel
theorem d_X4_findWrong_64 : decode (zmc m_X4_findWrong) 64 = .ok (.invokestatic 33, 3) := by decide +kernel
theorem d_X4_findWrong_67 : decode (zmc m_X4_findWrong) 67 = .ok (.if_icmp .ge 8, 3) := by decide +kernel
theorem d_X4_findWrong_70 : decode (zmc m_X4_findWrong) 70 = .ok (.aload_n 0, 1) := by decide +kernel
theorem d_X4_findWrong_71 : decode (zmc m_X4_findWrong) 71 = .ok (.iload_n 2, 1) := by decide +kernel
theorem d_X4_findWrong_72 : decode (zmc m_X4_findWrong) 72 = .ok (.putfield 60, 3) := by decide +kernel
theorem d_X4_findWrong_75 : decode (zmc m_X4_findWrong) 75 = .ok (.aload_n 0, 1) := by decide +kernel
theorem d_X4_findWrong_76 : decode (zmc m_X4_findWrong) 76 = .ok (.dup, 1) := by decide +kernel
theorem d_X4_findWrong_77 : decode (zmc m_X4_findWrong) 77 = .ok (.getfield 57, 3) := by decide +kernel
theorem d_X4_findWrong_80 : decode (zmc m_X4_findWrong) 80 = .ok (.iconst 1, 1) := by decide +kernel
theorem d_X4_findWrong_81 : decode (zmc m_X4_findWrong) 81 = .ok (.iadd, 1) := by decide +kernel
theorem d_X4_findWrong_82 : decode (zmc m_X4_findWrong) 82 = .ok (.putfield 57, 3) := by decide +kernel
theorem d_X4_findWrong_85 : decode (zmc m_X4_findWrong) 85 = .ok (.iinc 2 1, 3) := by decide +kernel
theorem d_X4_findWrong_88 : decode (zmc m_X4_findWrong) 88 = .ok (.goto (-67), 3) := by decide +kernel
theorem d_X4_findWrong_91 : decode (zmc m_X4_findWrong) 91 = .ok (.return_, 1) := by decide +kernel
theorem d_X4_readHomes_0 : decode (zmc m_X4_readHomes) 0 = .ok (.aload_n 0, 1) := by decide +kernel
theorem d_X4_readHomes_1 : decode (zmc m_X4_readHomes) 1 = .ok (.iconst 0, 1) := by decide +kernel
theorem d_X4_readHomes_2 : decode (zmc m_X4_readHomes) 2 = .ok (.putfield 43, 3) := by decide +kernel
theorem d_X4_readHomes_5 : decode (zmc m_X4_readHomes) 5 = .ok (.iconst 0, 1) := by decide +kernel
theorem d_X4_readHomes_6 : decode (zmc m_X4_readHomes) 6 = .ok (.istore_n 2, 1) := by decide +kernel
theorem d_X4_readHomes_7 : decode (zmc m_X4_readHomes) 7 = .ok (.iload_n 2, 1) := by decide +kernel
theorem d_X4_readHomes_8 : decode (zmc m_X4_readHomes) 8 = .ok (.bipush 12, 2) := by decide +kernel
theorem d_X4_readHomes_10 : decode (zmc m_X4_readHomes) 10 = .ok (.if_icmp .ge 75, 3) := by decide +kernel
theorem d_X4_readHomes_13 : decode (zmc m_X4_readHomes) 13 = .ok (.aload_n 1, 1) := by decide +kernel
theorem d_X4_readHomes_14 : decode (zmc m_X4_readHomes) 14 = .ok (.iconst 2, 1) := by decide +kernel
theorem d_X4_readHomes_15 : decode (zmc m_X4_readHomes) 15 = .ok (.iload_n 2, 1) := by decide +kernel
theorem d_X4_readHomes_16 : decode (zmc m_X4_readHomes) 16 = .ok (.imul, 1) := by decide +kernel
theorem d_X4_readHomes_17 : decode (zmc m_X4_readHomes) 17 = .ok (.invokevirtual 46, 3) := by decide +kernel
theorem d_X4_readHomes_20 : decode (zmc m_X4_readHomes) 20 = .ok (.istore_n 3, 1) := by decide +kernel
theorem d_X4_readHomes_21 : decode (zmc m_X4_readHomes) 21 = .ok (.aload_n 1, 1) := by decide +kernel
theorem d_X4_readHomes_22 : decode (zmc m_X4_readHomes) 22 = .ok (.iconst 2, 1) := by decide +kernel
theorem d_X4_readHomes_23 : decode (zmc m_X4_readHomes) 23 = .ok (.iload_n 2, 1) := by decide +kernel
theorem d_X4_readHomes_24 : decode (zmc m_X4_readHomes) 24 = .ok (.imul, 1) := by decide +kernel
theorem d_X4_readHomes_25 : decode (zmc m_X4_readHomes) 25 = .ok (.iconst 1, 1) := by decide +kernel
theorem d_X4_readHomes_26 : decode (zmc m_X4_readHomes) 26 = .ok (.iadd, 1) := by decide +kernel
theorem d_X4_readHomes_27 : decode (zmc m_X4_readHomes) 27 = .ok (.invokevirtual 46, 3) := by decide +kernel
theorem d_X4_readHomes_30 : decode (zmc m_X4_readHomes) 30 = .ok (.istore 4, 2) := by decide +kernel
theorem d_X4_readHomes_32 : decode (zmc m_X4_readHomes) 32 = .ok (.aload_n 0, 1) := by decide +kernel
theorem d_X4_readHomes_33 : decode (zmc m_X4_readHomes) 33 = .ok (.getfield 16, 3) := by decide +kernel
theorem d_X4_readHomes_36 : decode (zmc m_X4_readHomes) 36 = .ok (.bipush 8, 2) := by decide +kernel
theorem d_X4_readHomes_38 : decode (zmc m_X4_readHomes) 38 = .ok (.iload_n 3, 1) := by decide +kernel
theorem d_X4_readHomes_39 : decode (zmc m_X4_readHomes) 39 = .ok (.invokevirtual 51, 3) := by decide +kernel
theorem d_X4_readHomes_42 : decode (zmc m_X4_readHomes) 42 = .ok (.ifCond .eq 14, 3) := by decide +kernel
theorem d_X4_readHomes_45 : decode (zmc m_X4_readHomes) 45 = .ok (.iload 4, 2) := by decide +kernel
theorem d_X4_readHomes_47 : decode (zmc m_X4_readHomes) 47 = .ok (.ifCond .lt 9, 3) := by decide +kernel
theorem d_X4_readHomes_50 : decode (zmc m_X4_readHomes) 50 = .ok (.iload 4, 2) := by decide +kernel
theorem d_X4_readHomes_52 : decode (zmc m_X4_readHomes) 52 = .ok (.iconst 1, 1) := by decide +kernel
theorem d_X4_readHomes_53 : decode (zmc m_X4_readHomes) 53 = .ok (.if_icmp .le 4, 3) := by decide +kernel
theorem d_X4_readHomes_56 : decode (zmc m_X4_readHomes) 56 = .ok (.return_, 1) := by decide +kernel
theorem d_X4_readHomes_57 : decode (zmc m_X4_readHomes) 57 = .ok (.aload_n 0, 1) := by decide +kernel
theorem d_X4_readHomes_58 : decode (zmc m_X4_readHomes) 58 = .ok (.getfield 9, 3) := by decide +kernel
theorem d_X4_readHomes_61 : decode (zmc m_X4_readHomes) 61 = .ok (.iload_n 2, 1) := by decide +kernel
theorem d_X4_readHomes_62 : decode (zmc m_X4_readHomes) 62 = .ok (.iload_n 3, 1) := by decide +kernel
theorem d_X4_readHomes_63 : decode (zmc m_X4_readHomes) 63 = .ok (.iastore, 1) := by decide +kernel
theorem d_X4_readHomes_64 : decode (zmc m_X4_readHomes) 64 = .ok (.aload_n 0, 1) := by decide +kernel
theorem d_X4_readHomes_65 : decode (zmc m_X4_readHomes) 65 = .ok (.getfield 13, 3) := by decide +kernel
theorem d_X4_readHomes_68 : decode (zmc m_X4_readHomes) 68 = .ok (.iload_n 2, 1) := by decide +kernel
theorem d_X4_readHomes_69 : decode (zmc m_X4_readHomes) 69 = .ok (.iload 4, 2) := by decide +kernel
theorem d_X4_readHomes_71 : decode (zmc m_X4_readHomes) 71 = .ok (.iastore, 1) := by decide +kernel
theorem d_X4_readHomes_72 : decode (zmc m_X4_readHomes) 72 = .ok (.aload_n 0, 1) := by decide +kernel
theorem d_X4_readHomes_73 : decode (zmc m_X4_readHomes) 73 = .ok (.iload_n 2, 1) := by decide +kernel
theorem d_X4_readHomes_74 : decode (zmc m_X4_readHomes) 74 = .ok (.iconst 1, 1) := by decide +kernel
theorem d_X4_readHomes_75 : decode (zmc m_X4_readHomes) 75 = .ok (.iadd, 1) := by decide +kernel
theorem d_X4_readHomes_76 : decode (zmc m_X4_readHomes) 76 = .ok (.putfield 43, 3) := by decide +kernel
theorem d_X4_readHomes_79 : decode (zmc m_X4_readHomes) 79 = .ok (.iinc 2 1, 3) := by decide +kernel
theorem d_X4_readHomes_82 : decode (zmc m_X4_readHomes) 82 = .ok (.goto (-75), 3) := by decide +kernel
theorem d_X4_readHomes_85 : decode (zmc m_X4_readHomes) 85 = .ok (.return_, 1) := by decide +kernel
theorem d_X4_serves_0 : decode (zmc m_X4_serves) 0 = .ok (.iconst 0, 1) := by decide +kernel
theorem d_X4_serves_1 : decode (zmc m_X4_serves) 1 = .ok (.istore_n 3, 1) := by decide +kernel
theorem d_X4_serves_2 : decode (zmc m_X4_serves) 2 = .ok (.iload_n 3, 1) := by decide +kernel
theorem d_X4_serves_3 : decode (zmc m_X4_serves) 3 = .ok (.aload_n 0, 1) := by decide +kernel
theorem d_X4_serves_4 : decode (zmc m_X4_serves) 4 = .ok (.getfield 16, 3) := by decide +kernel
theorem d_X4_serves_7 : decode (zmc m_X4_serves) 7 = .ok (.getfield 20, 3) := by decide +kernel
theorem d_X4_serves_10 : decode (zmc m_X4_serves) 10 = .ok (.if_icmp .ge 29, 3) := by decide +kernel
theorem d_X4_serves_13 : decode (zmc m_X4_serves) 13 = .ok (.aload_n 0, 1) := by decide +kernel
theorem d_X4_serves_14 : decode (zmc m_X4_serves) 14 = .ok (.getfield 16, 3) := by decide +kernel
theorem d_X4_serves_17 : decode (zmc m_X4_serves) 17 = .ok (.getfield 26, 3) := by decide +kernel
theorem d_X4_serves_20 : decode (zmc m_X4_serves) 20 = .ok (.iload_n 3, 1) := by decide +kernel
theorem d_X4_serves_21 : decode (zmc m_X4_serves) 21 = .ok (.iaload, 1) := by decide +kernel
theorem d_X4_serves_22 : decode (zmc m_X4_serves) 22 = .ok (.iload_n 1, 1) := by decide +kernel
theorem d_X4_serves_23 : decode (zmc m_X4_serves) 23 = .ok (.iand, 1) := by decide +kernel
theorem d_X4_serves_24 : decode (zmc m_X4_serves) 24 = .ok (.invokestatic 33, 3) := by decide +kernel
theorem d_X4_serves_27 : decode (zmc m_X4_serves) 27 = .ok (.iload_n 2, 1) := by decide +kernel
theorem d_X4_serves_28 : decode (zmc m_X4_serves) 28 = .ok (.if_icmp .ge 5, 3) := by decide +kernel
theorem d_X4_serves_31 : decode (zmc m_X4_serves) 31 = .ok (.iconst 0, 1) := by decide +kernel
theorem d_X4_serves_32 : decode (zmc m_X4_serves) 32 = .ok (.ireturn, 1) := by decide +kernel
theorem d_X4_serves_33 : decode (zmc m_X4_serves) 33 = .ok (.iinc 3 1, 3) := by decide +kernel
theorem d_X4_serves_36 : decode (zmc m_X4_serves) 36 = .ok (.goto (-34), 3) := by decide +kernel
theorem d_X4_serves_39 : decode (zmc m_X4_serves) 39 = .ok (.iconst 1, 1) := by decide +kernel
theorem d_X4_serves_40 : decode (zmc m_X4_serves) 40 = .ok (.ireturn, 1) := by decide +kernel
theorem d_X4_steering_0 : decode (zmc m_X4_steering) 0 = .ok (.iconst 0, 1) := by decide +kernel
theorem d_X4_steering_1 : decode (zmc m_X4_steering) 1 = .ok (.istore_n 2, 1) := by decide +kernel
theorem d_X4_steering_2 : decode (zmc m_X4_steering) 2 = .ok (.iconst 0, 1) := by decide +kernel
theorem d_X4_steering_3 : decode (zmc m_X4_steering) 3 = .ok (.istore_n 3, 1) := by decide +kernel
theorem d_X4_steering_4 : decode (zmc m_X4_steering) 4 = .ok (.iload_n 3, 1) := by decide +kernel
theorem d_X4_steering_5 : decode (zmc m_X4_steering) 5 = .ok (.aload_n 0, 1) := by decide +kernel
theorem d_X4_steering_6 : decode (zmc m_X4_steering) 6 = .ok (.getfield 16, 3) := by decide +kernel
theorem d_X4_steering_9 : decode (zmc m_X4_steering) 9 = .ok (.getfield 20, 3) := by decide +kernel
theorem d_X4_steering_12 : decode (zmc m_X4_steering) 12 = .ok (.if_icmp .ge 29, 3) := by decide +kernel
theorem d_X4_steering_15 : decode (zmc m_X4_steering) 15 = .ok (.aload_n 0, 1) := by decide +kernel
theorem d_X4_steering_16 : decode (zmc m_X4_steering) 16 = .ok (.getfield 16, 3) := by decide +kernel
theorem d_X4_steering_19 : decode (zmc m_X4_steering) 19 = .ok (.getfield 26, 3) := by decide +kernel
theorem d_X4_steering_22 : decode (zmc m_X4_steering) 22 = .ok (.iload_n 3, 1) := by decide +kernel
theorem d_X4_steering_23 : decode (zmc m_X4_steering) 23 = .ok (.iaload, 1) := by decide +kernel
theorem d_X4_steering_24 : decode (zmc m_X4_steering) 24 = .ok (.iload_n 1, 1) := by decide +kernel
theorem d_X4_steering_25 : decode (zmc m_X4_steering) 25 = .ok (.iand, 1) := by decide +kernel
theorem d_X4_steering_26 : decode (zmc m_X4_steering) 26 = .ok (.ifCond .eq 9, 3) := by decide +kernel
theorem d_X4_steering_29 : decode (zmc m_X4_steering) 29 = .ok (.iload_n 2, 1) := by decide +kernel
theorem d_X4_steering_30 : decode (zmc m_X4_steering) 30 = .ok (.iconst 1, 1) := by decide +kernel
theorem d_X4_steering_31 : decode (zmc m_X4_steering) 31 = .ok (.iload_n 3, 1) := by decide +kernel
theorem d_X4_steering_32 : decode (zmc m_X4_steering) 32 = .ok (.ishl, 1) := by decide +kernel
theorem d_X4_steering_33 : decode (zmc m_X4_steering) 33 = .ok (.ior, 1) := by decide +kernel
theorem d_X4_steering_34 : decode (zmc m_X4_steering) 34 = .ok (.istore_n 2, 1) := by decide +kernel
theorem d_X4_steering_35 : decode (zmc m_X4_steering) 35 = .ok (.iinc 3 1, 3) := by decide +kernel
theorem d_X4_steering_38 : decode (zmc m_X4_steering) 38 = .ok (.goto (-34), 3) := by decide +kernel
theorem d_X4_steering_41 : decode (zmc m_X4_steering) 41 = .ok (.iload_n 2, 1) := by decide +kernel
theorem d_X4_steering_42 : decode (zmc m_X4_steering) 42 = .ok (.ireturn, 1) := by decide +kernel
/-! THE FLEET -/
theorem zor (a b : Nat) : nI a ||| nI b = nI (a ||| b) := by
  unfold nI
  apply Int32.toBitVec_inj.mp
  rw [Int32.toBitVec_or]
  show BitVec.ofNat 32 a ||| BitVec.ofNat 32 b = BitVec.ofNat 32 (a ||| b)
  exact (BitVec.ofNat_or (w := 32) ..).symm
theorem zpow : ∀ k, k < 31 → (1 : Int32) <<< (nI k &&& 31) = nI (2 ^ k) := by decide +kernel
theorem zbits_lt {f : Nat → Int32} {n : Nat} (hn : n ≤ 30) : ∃ j : Nat, j < 2 ^ n ∧ zbits f n = nI j := by
  have key : ∀ k, k ≤ n → ∀ i : Nat, i < 2 ^ k → ∃ j : Nat, j < 2 ^ n ∧ zfor (fun k s => if f k = 0 then s else s ||| ((1 : Int32) <<< (nI k &&& 31))) n k (nI i) = nI j := by
    refine zloop n (fun k hk ih i hi => ?_)
    rcases Nat.eq_or_lt_of_le hk with e | hlt
    · subst e
      exact ⟨i, hi, zfor_end (Nat.le_refl _)⟩
    · rw [zfor_step hlt]
      by_cases e : f k = 0
      · rw [if_pos e]
        exact ih hlt i (Nat.lt_of_lt_of_le hi (Nat.pow_le_pow_right (by decide) (Nat.le_succ k)))
      · rw [if_neg e, zpow k (by omega), zor]
        exact ih hlt _ (Nat.or_lt_two_pow (Nat.lt_of_lt_of_le hi (Nat.pow_le_pow_right (by decide) (Nat.le_succ k))) (Nat.pow_lt_pow_right (by decide) (Nat.lt_succ_self k)))
  exact key 0 (Nat.zero_le _) 0 (by decide)
theorem zmask : ∀ n, n ≤ 10 → ((1 : Int32) <<< (nI n &&& 31) - 1).toBitVec.toNat = 2 ^ n - 1 := by decide +kernel
theorem zAtHand_lt {I : Nat → Nat → Int32} {ns : Nat} (h : ns ≤ 10) : ∃ j : Nat, j < 2 ^ ns ∧ zAtHand I ns = nI j := by
  obtain ⟨j, h1, h2⟩ := pk_andE (zbits (I 8) ns ^^^ (-1)) ns (zmask ns h)
  refine ⟨j, h1, ?_⟩
  rw [← h2]
  unfold zAtHand
  rw [Int32.and_comm]
theorem zp10 {n : Nat} (h : n ≤ 10) : 2 ^ n ≤ 1024 := Nat.pow_le_pow_right (n := 2) (by decide) h
def zSteer (I : Nat → Nat → Int32) (nh : Nat) (up : Int32) : Int32 := zfor (fun k s => if I 11 k &&& up = 0 then s else s ||| ((1 : Int32) <<< (nI k &&& 31))) nh 0 0
abbrev zServ (I : Nat → Nat → Int32) (nh : Nat) (b e : Int32) : Prop := zrun (fun k => decide (e ≤ zbc (I 11 k &&& b))) nh 0 = nh
def zFewS (I : Nat → Nat → Int32) (nh : Nat) (ah e : Int32) (k : Nat) (s : Int32) : Int32 := if (s < 0 ∨ zbc (nI k) < zbc s) ∧ (nI k &&& (ah ^^^ (-1)) = 0) ∧ zServ I nh (nI k) e then nI k else s
def zFew (I : Nat → Nat → Int32) (ns nh : Nat) (e : Int32) : Int32 := zfor (zFewS I nh (zAtHand I ns) e) ((zAtHand I ns).toNatClampNeg + 1) 0 (-1)
def zHomB (I : Nat → Nat → Int32) (L : Nat → Nat → Int64) (ns nt nh h : Nat) (i : Nat) : Bool := decide ((0 ≤ zTold I L h (nI (2 * i)) ∧ zTold I L h (nI (2 * i)) < nI (zHold ns nt nh 8)) ∧ (0 ≤ zTold I L h (nI (2 * i + 1)) ∧ zTold I L h (nI (2 * i + 1)) ≤ 1))
def zHomN (I : Nat → Nat → Int32) (L : Nat → Nat → Int64) (ns nt nh h : Nat) : Nat := zrun (zHomB I L ns nt nh h) 12 0
abbrev zAllSo (I : Nat → Nat → Int32) (nh : Nat) (X Y : Nat → Int32) (n : Nat) (r : Int32) : Prop := zrun (fun i => decide ((zSteer I nh r >>> (X i &&& 31)) &&& 1 = Y i)) n 0 = n
def zWrS (I : Nat → Nat → Int32) (nh : Nat) (X Y : Nat → Int32) (n : Nat) (up : Int32) (k : Nat) (s : Int32 × Int32) : Int32 × Int32 := if (nI k &&& (up ^^^ (-1)) = 0) ∧ zAllSo I nh X Y n (up &&& (nI k ^^^ (-1))) then (s.1 + 1, if s.1 = 0 ∨ zbc (nI k) < zbc s.2 then nI k else s.2) else s
def zWr (I : Nat → Nat → Int32) (ns nh : Nat) (X Y : Nat → Int32) (n : Nat) : Int32 × Int32 := zfor (zWrS I nh X Y n (zbits (I 7) ns)) ((zbits (I 7) ns).toNatClampNeg + 1) 0 (0, 0)
section S17
variable {g : zG} {l : Launch} {d : Nat} {I : Nat → Nat → Int32} {L : Nat → Nat → Int64} {fs : Nat × Nat × Option Nat} {ns nt nh h : Nat}
theorem sp_X4_steering (hd : 1 ≤ d) (hK : zSky I ns nt nh) {up : Int32} : zPure g l d m_X4_steering [.ref 16, .int up] I L fs (.int (zSteer I nh up)) := by
  have hn := hK.2.2.2
  have loop : ∀ k, k ≤ nh → ∀ s, zfor (fun k s => if I 11 k &&& up = 0 then s else s ||| ((1 : Int32) <<< (nI k &&& 31))) nh k s = zSteer I nh up → zA g l d m_X4_steering I L fs 4 [(3, .int (nI k)), (2, .int s), (0, .ref 16), (1, .int up)] (zP (.int (zSteer I nh up)) (zU I L fs)) := by
    refine zloop nh (fun k hk ih s hx => ?_)
    refine zIloadN d_X4_steering_4 rfl rfl (q := 5) rfl ?_
    refine zAloadN d_X4_steering_5 rfl rfl (q := 6) rfl ?_
    refine zGetR d_X4_steering_6 ff_X4_16 sh_16 (by decide) r_16_0 (q := 9) rfl ?_
    refine zGetI d_X4_steering_9 ff_X4_20 sh_1 (by decide) (q := 12) rfl ?_
    refine zIcmp_ge d_X4_steering_12 (tgt := 41) (q := 15) (by decide) rfl (fun h12 => ?_) (fun h12 => ?_)
    · have e := nle (hK.1.2.2 ▸ h12)
      refine zIloadN d_X4_steering_41 rfl rfl (q := 42) rfl ?_
      refine zIret d_X4_steering_42 rfl rfl rfl ?_
      exact zPi (by rw [← hx, zfor_end e])
    · have hlt := nnle (hK.1.2.2 ▸ h12)
      rw [zfor_step hlt] at hx
      refine zAloadN d_X4_steering_15 rfl rfl (q := 16) rfl ?_
      refine zGetR d_X4_steering_16 ff_X4_16 sh_16 (by decide) r_16_0 (q := 19) rfl ?_
      refine zGetR d_X4_steering_19 ff_X4_26 sh_1 (by decide) r_1_1 (q := 22) rfl ?_
      refine zIloadN d_X4_steering_22 rfl rfl (q := 23) rfl ?_
      refine zIald d_X4_steering_23 sh_11 (by decide) rfl (by omega) (q := 24) rfl ?_
      refine zIloadN d_X4_steering_24 rfl rfl (q := 25) rfl ?_
      refine zIand d_X4_steering_25 (q := 26) rfl ?_
      refine zIf_eq d_X4_steering_26 (tgt := 35) (q := 29) (by decide) rfl (fun h26 => ?_) (fun h26 => ?_)
      · refine zIinc d_X4_steering_35 rfl (zinc _) (by decide) rfl (q := 38) rfl ?_
        refine zGoto d_X4_steering_38 (q := 4) (by decide) ?_
        refine zSub [0, 1, 2, 3] rfl ?_
        exact ih hlt _ (by rw [← hx]; congr 1; first | exact (if_pos h26).symm | exact (if_neg h26).symm)
      · refine zIloadN d_X4_steering_29 rfl rfl (q := 30) rfl ?_
        refine zIconst d_X4_steering_30 (v := 1) ic_1 (q := 31) rfl ?_
        refine zIloadN d_X4_steering_31 rfl rfl (q := 32) rfl ?_
        refine zIshl d_X4_steering_32 (q := 33) rfl ?_
        refine zIor d_X4_steering_33 (q := 34) rfl ?_
        refine zIstoreN d_X4_steering_34 rfl (by decide) rfl (q := 35) rfl ?_
        refine zIinc d_X4_steering_35 rfl (zinc _) (by decide) rfl (q := 38) rfl ?_
        refine zGoto d_X4_steering_38 (q := 4) (by decide) ?_
        refine zSub [0, 1, 2, 3] rfl ?_
        exact ih hlt _ (by rw [← hx]; congr 1; first | exact (if_pos h26).symm | exact (if_neg h26).symm)
  refine zSp_of (lv := [(0, .ref 16), (1, .int up)]) k_X4_steering rfl (Nat.le_of_ble_eq_true rfl) ?_
  refine zIconst d_X4_steering_0 (v := 0) ic_0 (q := 1) rfl ?_
  refine zIstoreN d_X4_steering_1 rfl (by decide) rfl (q := 2) rfl ?_
  refine zIconst d_X4_steering_2 (v := 0) ic_0 (q := 3) rfl ?_
  refine zIstoreN d_X4_steering_3 rfl (by decide) rfl (q := 4) rfl ?_
  refine zSub [0, 1, 2, 3] rfl ?_
  exact loop 0 (Nat.zero_le _) 0 rfl
theorem sp_X4_serves (hd : 2 ≤ d) (hK : zSky I ns nt nh) {b e : Int32} : zPure g l d m_X4_serves [.ref 16, .int b, .int e] I L fs (.int (bi (zServ I nh b e))) := by
  have hn := hK.2.2.2
  have loop : ∀ k, k ≤ nh → zrun (fun k => decide (e ≤ zbc (I 11 k &&& b))) nh k = zrun (fun k => decide (e ≤ zbc (I 11 k &&& b))) nh 0 → zA g l d m_X4_serves I L fs 2 [(3, .int (nI k)), (0, .ref 16), (1, .int b), (2, .int e)] (zP (.int (bi (zServ I nh b e))) (zU I L fs)) := by
    refine zloop nh (fun k hk ih hx => ?_)
    refine zIloadN d_X4_serves_2 rfl rfl (q := 3) rfl ?_
    refine zAloadN d_X4_serves_3 rfl rfl (q := 4) rfl ?_
    refine zGetR d_X4_serves_4 ff_X4_16 sh_16 (by decide) r_16_0 (q := 7) rfl ?_
    refine zGetI d_X4_serves_7 ff_X4_20 sh_1 (by decide) (q := 10) rfl ?_
    refine zIcmp_ge d_X4_serves_10 (tgt := 39) (q := 13) (by decide) rfl (fun h10 => ?_) (fun h10 => ?_)
    · have ek := nle (hK.1.2.2 ▸ h10)
      refine zIconst d_X4_serves_39 (v := 1) ic_1 (q := 40) rfl ?_
      refine zIret d_X4_serves_40 rfl rfl rfl ?_
      exact zPi (bi_t (by show zrun _ nh 0 = nh; rw [← hx, zrun_end ek]; omega)).symm
    · have hlt := nnle (hK.1.2.2 ▸ h10)
      refine zAloadN d_X4_serves_13 rfl rfl (q := 14) rfl ?_
      refine zGetR d_X4_serves_14 ff_X4_16 sh_16 (by decide) r_16_0 (q := 17) rfl ?_
      refine zGetR d_X4_serves_17 ff_X4_26 sh_1 (by decide) r_1_1 (q := 20) rfl ?_
      refine zIloadN d_X4_serves_20 rfl rfl (q := 21) rfl ?_
      refine zIald d_X4_serves_21 sh_11 (by decide) rfl (by omega) (q := 22) rfl ?_
      refine zIloadN d_X4_serves_22 rfl rfl (q := 23) rfl ?_
      refine zIand d_X4_serves_23 (q := 24) rfl ?_
      refine zCallSP d_X4_serves_24 ml_X4_33 k_J6_bitCount kt_J6_bitCount (sp_J6_bitCount (d := d - 1) (by omega) ) rfl rfl (Nat.le_of_ble_eq_true rfl) (by decide) (by omega) zns100 (q := 27) rfl ?_
      refine zIloadN d_X4_serves_27 rfl rfl (q := 28) rfl ?_
      refine zIcmp_ge d_X4_serves_28 (tgt := 33) (q := 31) (by decide) rfl (fun h28 => ?_) (fun h28 => ?_)
      · refine zIinc d_X4_serves_33 rfl (zinc _) (by decide) rfl (q := 36) rfl ?_
        refine zGoto d_X4_serves_36 (q := 2) (by decide) ?_
        refine zSub [0, 1, 2, 3] rfl ?_
        exact ih hlt (by rw [← hx, zrun_t hlt (by rw [decide_eq_true_eq]; exact h28)])
      · refine zIconst d_X4_serves_31 (v := 0) ic_0 (q := 32) rfl ?_
        refine zIret d_X4_serves_32 rfl rfl rfl ?_
        have hr := zrun_f (p := fun k => decide (e ≤ zbc (I 11 k &&& b))) (n := nh) (k := k) (by rw [decide_eq_true_eq]; exact h28)
        exact zPi (bi_f (fun q => by rw [hr] at hx; have q' : zrun (fun k => decide (e ≤ zbc (I 11 k &&& b))) nh 0 = nh := q; omega)).symm
  refine zSp_of (lv := [(0, .ref 16), (1, .int b), (2, .int e)]) k_X4_serves rfl (Nat.le_of_ble_eq_true rfl) ?_
  refine zIconst d_X4_serves_0 (v := 0) ic_0 (q := 1) rfl ?_
  refine zIstoreN d_X4_serves_1 rfl (by decide) rfl (q := 2) rfl ?_
  refine zSub [0, 1, 2, 3] rfl ?_
  exact loop 0 (Nat.zero_le _) rfl
theorem sp_X4_fewestFor (hd : 6 ≤ d) (hK : zSky I ns nt nh) {e : Int32} : zPure g l d m_X4_fewestFor [.ref 16, .int e] I L fs (.int (zFew I ns nh e)) := by
  obtain ⟨A, hA1, hA⟩ := zAtHand_lt (I := I) hK.2.1
  have hA2 := zp10 hK.2.1
  have hF : zFew I ns nh e = zfor (zFewS I nh (nI A) e) (A + 1) 0 (-1) := by unfold zFew; rw [hA, zcl_n (by omega)]
  have loop : ∀ k, k ≤ A + 1 → ∀ s, zfor (zFewS I nh (nI A) e) (A + 1) k s = zFew I ns nh e → zA g l d m_X4_fewestFor I L fs 13 [(4, .int (nI k)), (3, .int s), (2, .int (nI A)), (0, .ref 16), (1, .int e)] (zP (.int (zFew I ns nh e)) (zU I L fs)) := by
    refine zloop (A + 1) (fun k hk ih s hx => ?_)
    refine zIload d_X4_fewestFor_13 rfl (q := 15) rfl ?_
    refine zIloadN d_X4_fewestFor_15 rfl rfl (q := 16) rfl ?_
    refine zIcmp_gt d_X4_fewestFor_16 (tgt := 75) (q := 19) (by decide) rfl (fun h16 => ?_) (fun h16 => ?_)
    · have ek := nlt h16
      refine zIloadN d_X4_fewestFor_75 rfl rfl (q := 76) rfl ?_
      refine zIret d_X4_fewestFor_76 rfl rfl rfl ?_
      exact zPi (by rw [← hx, zfor_end (by omega)])
    · have hlt := nnlt h16
      rw [zfor_step (by omega)] at hx
      refine zIloadN d_X4_fewestFor_19 rfl rfl (q := 20) rfl ?_
      refine zIf_lt d_X4_fewestFor_20 (tgt := 35) (q := 23) (by decide) rfl (fun h20 => ?_) (fun h20 => ?_)
      · have hcc : s < 0 ∨ zbc (nI k) < zbc s := Or.inl h20
        refine zIconst d_X4_fewestFor_35 (v := 1) ic_1 (q := 36) rfl ?_
        refine zGoto d_X4_fewestFor_36 (q := 40) (by decide) ?_
        refine zIstore d_X4_fewestFor_40 (by decide) rfl (q := 42) rfl ?_
        refine zIload d_X4_fewestFor_42 rfl (q := 44) rfl ?_
        refine zIloadN d_X4_fewestFor_44 rfl rfl (q := 45) rfl ?_
        refine zIconst d_X4_fewestFor_45 (v := -1) ic_m1 (q := 46) rfl ?_
        refine zIxor d_X4_fewestFor_46 (q := 47) rfl ?_
        refine zIand d_X4_fewestFor_47 (q := 48) rfl ?_
        refine zIf_ne d_X4_fewestFor_48 (tgt := 69) (q := 51) (by decide) rfl (fun h48 => ?_) (fun h48 => ?_)
        · refine zIinc d_X4_fewestFor_69 rfl (zinc _) (by decide) rfl (q := 72) rfl ?_
          refine zGoto d_X4_fewestFor_72 (q := 13) (by decide) ?_
          refine zSub [0, 2, 3, 4, 5] rfl ?_
          refine ih (by omega) _ ?_
          rw [← hx]
          congr 1
          unfold zFewS
          first | exact (if_neg (fun q => hn32 q.1)).symm | exact (if_neg (fun q => h48 q.2.1)).symm | exact (if_neg (fun q => bi_0.mp h63 q.2.2)).symm | exact (if_pos (And.intro hcc (And.intro h48 (bi_n0.mp h63)))).symm
        · refine zIload d_X4_fewestFor_51 rfl (q := 53) rfl ?_
          refine zIf_eq d_X4_fewestFor_53 (tgt := 69) (q := 56) (by decide) rfl (fun h => absurd h (by decide)) (fun _ => ?_)
          refine zAloadN d_X4_fewestFor_56 rfl rfl (q := 57) rfl ?_
          refine zIload d_X4_fewestFor_57 rfl (q := 59) rfl ?_
          refine zIloadN d_X4_fewestFor_59 rfl rfl (q := 60) rfl ?_
          refine zCallVP d_X4_fewestFor_60 ml_X4_39 k_X4_serves ki_X4_serves ks_X4_serves (sp_X4_serves (d := d - 1) (by omega) hK) rfl rfl sh_16 (by decide) rfl (by decide) (Nat.le_of_ble_eq_true rfl) (by decide) (by omega) zns100 (q := 63) rfl ?_
          refine zIf_eq d_X4_fewestFor_63 (tgt := 69) (q := 66) (by decide) rfl (fun h63 => ?_) (fun h63 => ?_)
          · refine zIinc d_X4_fewestFor_69 rfl (zinc _) (by decide) rfl (q := 72) rfl ?_
            refine zGoto d_X4_fewestFor_72 (q := 13) (by decide) ?_
            refine zSub [0, 2, 3, 4, 5] rfl ?_
            refine ih (by omega) _ ?_
            rw [← hx]
            congr 1
            unfold zFewS
            first | exact (if_neg (fun q => hn32 q.1)).symm | exact (if_neg (fun q => h48 q.2.1)).symm | exact (if_neg (fun q => bi_0.mp h63 q.2.2)).symm | exact (if_pos (And.intro hcc (And.intro h48 (bi_n0.mp h63)))).symm
          · refine zIload d_X4_fewestFor_66 rfl (q := 68) rfl ?_
            refine zIstoreN d_X4_fewestFor_68 rfl (by decide) rfl (q := 69) rfl ?_
            refine zIinc d_X4_fewestFor_69 rfl (zinc _) (by decide) rfl (q := 72) rfl ?_
            refine zGoto d_X4_fewestFor_72 (q := 13) (by decide) ?_
            refine zSub [0, 1, 3, 4, 5] rfl ?_
            refine ih (by omega) _ ?_
            rw [← hx]
            congr 1
            unfold zFewS
            first | exact (if_neg (fun q => hn32 q.1)).symm | exact (if_neg (fun q => h48 q.2.1)).symm | exact (if_neg (fun q => bi_0.mp h63 q.2.2)).symm | exact (if_pos (And.intro hcc (And.intro h48 (bi_n0.mp h63)))).symm
      · refine zIload d_X4_fewestFor_23 rfl (q := 25) rfl ?_
        refine zCallSP d_X4_fewestFor_25 ml_X4_33 k_J6_bitCount kt_J6_bitCount (sp_J6_bitCount (d := d - 1) (by omega) ) rfl rfl (Nat.le_of_ble_eq_true rfl) (by decide) (by omega) zns100 (q := 28) rfl ?_
        refine zIloadN d_X4_fewestFor_28 rfl rfl (q := 29) rfl ?_
        refine zCallSP d_X4_fewestFor_29 ml_X4_33 k_J6_bitCount kt_J6_bitCount (sp_J6_bitCount (d := d - 1) (by omega) ) rfl rfl (Nat.le_of_ble_eq_true rfl) (by decide) (by omega) zns100 (q := 32) rfl ?_
        refine zIcmp_ge d_X4_fewestFor_32 (tgt := 39) (q := 35) (by decide) rfl (fun h32 => ?_) (fun h32 => ?_)
        · have hn32 : ¬ (s < 0 ∨ zbc (nI k) < zbc s) := by rintro (q | q); exact h20 q; exact absurd h32 (Int32.not_le.mpr q)
          refine zIconst d_X4_fewestFor_39 (v := 0) ic_0 (q := 40) rfl ?_
          refine zIstore d_X4_fewestFor_40 (by decide) rfl (q := 42) rfl ?_
          refine zIload d_X4_fewestFor_42 rfl (q := 44) rfl ?_
          refine zIloadN d_X4_fewestFor_44 rfl rfl (q := 45) rfl ?_
          refine zIconst d_X4_fewestFor_45 (v := -1) ic_m1 (q := 46) rfl ?_
          refine zIxor d_X4_fewestFor_46 (q := 47) rfl ?_
          refine zIand d_X4_fewestFor_47 (q := 48) rfl ?_
          refine zIf_ne d_X4_fewestFor_48 (tgt := 69) (q := 51) (by decide) rfl (fun h48 => ?_) (fun h48 => ?_)
          · refine zIinc d_X4_fewestFor_69 rfl (zinc _) (by decide) rfl (q := 72) rfl ?_
            refine zGoto d_X4_fewestFor_72 (q := 13) (by decide) ?_
            refine zSub [0, 2, 3, 4, 5] rfl ?_
            refine ih (by omega) _ ?_
            rw [← hx]
            congr 1
            unfold zFewS
            first | exact (if_neg (fun q => hn32 q.1)).symm | exact (if_neg (fun q => h48 q.2.1)).symm | exact (if_neg (fun q => bi_0.mp h63 q.2.2)).symm | exact (if_pos (And.intro hcc (And.intro h48 (bi_n0.mp h63)))).symm
          · refine zIload d_X4_fewestFor_51 rfl (q := 53) rfl ?_
            refine zIf_eq d_X4_fewestFor_53 (tgt := 69) (q := 56) (by decide) rfl (fun _ => ?_) (fun h => absurd h (by decide))
            refine zIinc d_X4_fewestFor_69 rfl (zinc _) (by decide) rfl (q := 72) rfl ?_
            refine zGoto d_X4_fewestFor_72 (q := 13) (by decide) ?_
            refine zSub [0, 2, 3, 4, 5] rfl ?_
            refine ih (by omega) _ ?_
            rw [← hx]
            congr 1
            unfold zFewS
            first | exact (if_neg (fun q => hn32 q.1)).symm | exact (if_neg (fun q => h48 q.2.1)).symm | exact (if_neg (fun q => bi_0.mp h63 q.2.2)).symm | exact (if_pos (And.intro hcc (And.intro h48 (bi_n0.mp h63)))).symm
        · have hcc : s < 0 ∨ zbc (nI k) < zbc s := Or.inr (Int32.not_le.mp h32)
          refine zIconst d_X4_fewestFor_35 (v := 1) ic_1 (q := 36) rfl ?_
          refine zGoto d_X4_fewestFor_36 (q := 40) (by decide) ?_
          refine zIstore d_X4_fewestFor_40 (by decide) rfl (q := 42) rfl ?_
          refine zIload d_X4_fewestFor_42 rfl (q := 44) rfl ?_
          refine zIloadN d_X4_fewestFor_44 rfl rfl (q := 45) rfl ?_
          refine zIconst d_X4_fewestFor_45 (v := -1) ic_m1 (q := 46) rfl ?_
          refine zIxor d_X4_fewestFor_46 (q := 47) rfl ?_
          refine zIand d_X4_fewestFor_47 (q := 48) rfl ?_
          refine zIf_ne d_X4_fewestFor_48 (tgt := 69) (q := 51) (by decide) rfl (fun h48 => ?_) (fun h48 => ?_)
          · refine zIinc d_X4_fewestFor_69 rfl (zinc _) (by decide) rfl (q := 72) rfl ?_
            refine zGoto d_X4_fewestFor_72 (q := 13) (by decide) ?_
            refine zSub [0, 2, 3, 4, 5] rfl ?_
            refine ih (by omega) _ ?_
            rw [← hx]
            congr 1
            unfold zFewS
            first | exact (if_neg (fun q => hn32 q.1)).symm | exact (if_neg (fun q => h48 q.2.1)).symm | exact (if_neg (fun q => bi_0.mp h63 q.2.2)).symm | exact (if_pos (And.intro hcc (And.intro h48 (bi_n0.mp h63)))).symm
          · refine zIload d_X4_fewestFor_51 rfl (q := 53) rfl ?_
            refine zIf_eq d_X4_fewestFor_53 (tgt := 69) (q := 56) (by decide) rfl (fun h => absurd h (by decide)) (fun _ => ?_)
            refine zAloadN d_X4_fewestFor_56 rfl rfl (q := 57) rfl ?_
            refine zIload d_X4_fewestFor_57 rfl (q := 59) rfl ?_
            refine zIloadN d_X4_fewestFor_59 rfl rfl (q := 60) rfl ?_
            refine zCallVP d_X4_fewestFor_60 ml_X4_39 k_X4_serves ki_X4_serves ks_X4_serves (sp_X4_serves (d := d - 1) (by omega) hK) rfl rfl sh_16 (by decide) rfl (by decide) (Nat.le_of_ble_eq_true rfl) (by decide) (by omega) zns100 (q := 63) rfl ?_
            refine zIf_eq d_X4_fewestFor_63 (tgt := 69) (q := 66) (by decide) rfl (fun h63 => ?_) (fun h63 => ?_)
            · refine zIinc d_X4_fewestFor_69 rfl (zinc _) (by decide) rfl (q := 72) rfl ?_
              refine zGoto d_X4_fewestFor_72 (q := 13) (by decide) ?_
              refine zSub [0, 2, 3, 4, 5] rfl ?_
              refine ih (by omega) _ ?_
              rw [← hx]
              congr 1
              unfold zFewS
              first | exact (if_neg (fun q => hn32 q.1)).symm | exact (if_neg (fun q => h48 q.2.1)).symm | exact (if_neg (fun q => bi_0.mp h63 q.2.2)).symm | exact (if_pos (And.intro hcc (And.intro h48 (bi_n0.mp h63)))).symm
            · refine zIload d_X4_fewestFor_66 rfl (q := 68) rfl ?_
              refine zIstoreN d_X4_fewestFor_68 rfl (by decide) rfl (q := 69) rfl ?_
              refine zIinc d_X4_fewestFor_69 rfl (zinc _) (by decide) rfl (q := 72) rfl ?_
              refine zGoto d_X4_fewestFor_72 (q := 13) (by decide) ?_
              refine zSub [0, 1, 3, 4, 5] rfl ?_
              refine ih (by omega) _ ?_
              rw [← hx]
              congr 1
              unfold zFewS
              first | exact (if_neg (fun q => hn32 q.1)).symm | exact (if_neg (fun q => h48 q.2.1)).symm | exact (if_neg (fun q => bi_0.mp h63 q.2.2)).symm | exact (if_pos (And.intro hcc (And.intro h48 (bi_n0.mp h63)))).symm
  refine zSp_of (lv := [(0, .ref 16), (1, .int e)]) k_X4_fewestFor rfl (Nat.le_of_ble_eq_true rfl) ?_
  refine zAloadN d_X4_fewestFor_0 rfl rfl (q := 1) rfl ?_
  refine zGetR d_X4_fewestFor_1 ff_X4_16 sh_16 (by decide) r_16_0 (q := 4) rfl ?_
  refine zCallVP d_X4_fewestFor_4 ml_X4_29 k_X9_atHand ki_X9_atHand ks_X9_atHand (sp_X9_atHand (d := d - 1) (by omega) hK) rfl rfl sh_1 (by decide) rfl (by decide) (Nat.le_of_ble_eq_true rfl) (by decide) (by omega) zns100 (q := 7) rfl ?_
  rw [hA]
  refine zIstoreN d_X4_fewestFor_7 rfl (by decide) rfl (q := 8) rfl ?_
  refine zIconst d_X4_fewestFor_8 (v := -1) ic_m1 (q := 9) rfl ?_
  refine zIstoreN d_X4_fewestFor_9 rfl (by decide) rfl (q := 10) rfl ?_
  refine zIconst d_X4_fewestFor_10 (v := 0) ic_0 (q := 11) rfl ?_
  refine zIstore d_X4_fewestFor_11 (by decide) rfl (q := 13) rfl ?_
  refine zSub [0, 1, 2, 3, 4] rfl ?_
  exact loop 0 (Nat.zero_le _) (-1) hF.symm
theorem sp_X4_readHomes (hd : 4 ≤ d) (hK : zSky I ns nt nh) (hh : zShf h) (hne : 42 ≤ h) {n : Nat} (hn : I h 2 = nI n) (hn2 : n ≤ 60) : zSp g l d 100 m_X4_readHomes [.ref 16, .ref h] (zU I L fs) (zV (fun w => ∃ X Y, w = zU (zup (zup (zup I 17 X) 18 Y) 16 (zup (I 16) 3 (nI (zHomN I L ns nt nh h)))) L fs ∧ ∀ i, i < zHomN I L ns nt nh h → X i = zTold I L h (nI (2 * i)) ∧ Y i = zTold I L h (nI (2 * i + 1)))) := by
  have loop : ∀ k, k ≤ 12 → ∀ X Y, (∀ i, i < k → X i = zTold I L h (nI (2 * i)) ∧ Y i = zTold I L h (nI (2 * i + 1))) → zrun (zHomB I L ns nt nh h) 12 k = zHomN I L ns nt nh h → zA g l d m_X4_readHomes (zup (zup (zup I 17 X) 18 Y) 16 (zup (I 16) 3 (nI k))) L fs 7 [(2, .int (nI k)), (0, .ref 16), (1, .ref h)] (zV (fun w => ∃ X Y, w = zU (zup (zup (zup I 17 X) 18 Y) 16 (zup (I 16) 3 (nI (zHomN I L ns nt nh h)))) L fs ∧ ∀ i, i < zHomN I L ns nt nh h → X i = zTold I L h (nI (2 * i)) ∧ Y i = zTold I L h (nI (2 * i + 1)))) := by
    refine zloop 12 (fun k hk ih X Y hXY hx => ?_)
    have hK1 : zSky (zup (zup (zup I 17 X) 18 Y) 16 (zup (I 16) 3 (nI k))) ns nt nh := zSky_up (zSky_up (zSky_up hK (by decide)) (by decide)) (by decide)
    have eh : (zup (zup (zup I 17 X) 18 Y) 16 (zup (I 16) 3 (nI k))) h = I h := by rw [zup_ne (by omega), zup_ne (by omega), zup_ne (by omega)]
    have et : ∀ i, zTold (zup (zup (zup I 17 X) 18 Y) 16 (zup (I 16) 3 (nI k))) L h i = zTold I L h i := fun i => by unfold zTold; rw [eh]
    have e2 : (2 : Int32) * nI k = nI (2 * k) := by rw [← pk_mul]; rfl
    refine zIloadN d_X4_readHomes_7 rfl rfl (q := 8) rfl ?_
    refine zBipush d_X4_readHomes_8 (v := 12) bc_12 (q := 10) rfl ?_
    refine zIcmp_ge d_X4_readHomes_10 (tgt := 85) (q := 13) (by decide) rfl (fun h10 => ?_) (fun h10 => ?_)
    · have e := nle (b := 12) h10
      have ek : k = zHomN I L ns nt nh h := by rw [← hx, zrun_end e]
      refine zVret d_X4_readHomes_85 rfl rfl ?_
      exact ⟨rfl, X, Y, by rw [← ek], fun i hi => hXY i (by omega)⟩
    · have hlt := nnle (b := 12) h10
      refine zAloadN d_X4_readHomes_13 rfl rfl (q := 14) rfl ?_
      refine zIconst d_X4_readHomes_14 (v := 2) ic_2 (q := 15) rfl ?_
      refine zIloadN d_X4_readHomes_15 rfl rfl (q := 16) rfl ?_
      refine zImul d_X4_readHomes_16 (q := 17) rfl ?_
      refine zCallVP d_X4_readHomes_17 ml_X4_46 k_X8_told ki_X8_told ks_X8_told (sp_X8_told (d := d - 1) (by omega) hh (by rw [eh]; exact hn) hn2) rfl rfl hh.1 (by decide) rfl (Nat.lt_of_succ_lt hh.2.2.1) (Nat.le_of_ble_eq_true rfl) (by decide) (by omega) zns100 (q := 20) rfl ?_
      rw [et, e2]
      refine zIstoreN d_X4_readHomes_20 rfl (by decide) rfl (q := 21) rfl ?_
      refine zAloadN d_X4_readHomes_21 rfl rfl (q := 22) rfl ?_
      refine zIconst d_X4_readHomes_22 (v := 2) ic_2 (q := 23) rfl ?_
      refine zIloadN d_X4_readHomes_23 rfl rfl (q := 24) rfl ?_
      refine zImul d_X4_readHomes_24 (q := 25) rfl ?_
      refine zIconst d_X4_readHomes_25 (v := 1) ic_1 (q := 26) rfl ?_
      refine zIadd d_X4_readHomes_26 (q := 27) rfl ?_
      refine zCallVP d_X4_readHomes_27 ml_X4_46 k_X8_told ki_X8_told ks_X8_told (sp_X8_told (d := d - 1) (by omega) hh (by rw [eh]; exact hn) hn2) rfl rfl hh.1 (by decide) rfl (Nat.lt_of_succ_lt hh.2.2.1) (Nat.le_of_ble_eq_true rfl) (by decide) (by omega) zns100 (q := 30) rfl ?_
      rw [et, e2, nI_1]
      refine zIstore d_X4_readHomes_30 (by decide) rfl (q := 32) rfl ?_
      refine zAloadN d_X4_readHomes_32 rfl rfl (q := 33) rfl ?_
      refine zGetR d_X4_readHomes_33 ff_X4_16 sh_16 (by decide) r_16_0 (q := 36) rfl ?_
      refine zBipush d_X4_readHomes_36 (v := 8) bc_8 (q := 38) rfl ?_
      refine zIloadN d_X4_readHomes_38 rfl rfl (q := 39) rfl ?_
      refine zCallVP d_X4_readHomes_39 ml_X4_51 k_X9_has ki_X9_has ks_X9_has (sp_X9_has (d := d - 1) (by omega) hK1) rfl rfl sh_1 (by decide) rfl (by decide) (Nat.le_of_ble_eq_true rfl) (by decide) (by omega) zns100 (q := 42) rfl ?_
      refine zIf_eq d_X4_readHomes_42 (tgt := 56) (q := 45) (by decide) rfl (fun h42 => ?_) (fun h42 => ?_)
      · have hc : ¬ zHomB I L ns nt nh h k = true := by unfold zHomB; rw [decide_eq_true_eq]; exact fun q => bi_0.mp h42 q.1
        have ek : k = zHomN I L ns nt nh h := by rw [← hx, zrun_f hc]
        refine zVret d_X4_readHomes_56 rfl rfl ?_
        exact ⟨rfl, X, Y, by rw [← ek], fun i hi => hXY i (by omega)⟩
      · refine zIload d_X4_readHomes_45 rfl (q := 47) rfl ?_
        refine zIf_lt d_X4_readHomes_47 (tgt := 56) (q := 50) (by decide) rfl (fun h47 => ?_) (fun h47 => ?_)
        · have hc : ¬ zHomB I L ns nt nh h k = true := by unfold zHomB; rw [decide_eq_true_eq]; exact fun q => by have := q.2.1; grind
          have ek : k = zHomN I L ns nt nh h := by rw [← hx, zrun_f hc]
          refine zVret d_X4_readHomes_56 rfl rfl ?_
          exact ⟨rfl, X, Y, by rw [← ek], fun i hi => hXY i (by omega)⟩
        · refine zIload d_X4_readHomes_50 rfl (q := 52) rfl ?_
          refine zIconst d_X4_readHomes_52 (v := 1) ic_1 (q := 53) rfl ?_
          refine zIcmp_le d_X4_readHomes_53 (tgt := 57) (q := 56) (by decide) rfl (fun h53 => ?_) (fun h53 => ?_)
          · have hc : zHomB I L ns nt nh h k = true := by unfold zHomB; rw [decide_eq_true_eq]; exact ⟨bi_n0.mp h42, by grind, h53⟩
            rw [zrun_t hlt hc] at hx
            refine zAloadN d_X4_readHomes_57 rfl rfl (q := 58) rfl ?_
            refine zGetR d_X4_readHomes_58 ff_X4_9 sh_16 (by decide) r_16_1 (q := 61) rfl ?_
            refine zIloadN d_X4_readHomes_61 rfl rfl (q := 62) rfl ?_
            refine zIloadN d_X4_readHomes_62 rfl rfl (q := 63) rfl ?_
            refine zIast d_X4_readHomes_63 sh_17 (by decide) rfl (by omega) (q := 64) rfl ?_
            refine zAloadN d_X4_readHomes_64 rfl rfl (q := 65) rfl ?_
            refine zGetR d_X4_readHomes_65 ff_X4_13 sh_16 (by decide) r_16_2 (q := 68) rfl ?_
            refine zIloadN d_X4_readHomes_68 rfl rfl (q := 69) rfl ?_
            refine zIload d_X4_readHomes_69 rfl (q := 71) rfl ?_
            refine zIast d_X4_readHomes_71 sh_18 (by decide) rfl (by omega) (q := 72) rfl ?_
            refine zAloadN d_X4_readHomes_72 rfl rfl (q := 73) rfl ?_
            refine zIloadN d_X4_readHomes_73 rfl rfl (q := 74) rfl ?_
            refine zIconst d_X4_readHomes_74 (v := 1) ic_1 (q := 75) rfl ?_
            refine zIadd d_X4_readHomes_75 (q := 76) rfl ?_
            refine zPutI d_X4_readHomes_76 ff_X4_43 rfl rfl rfl sh_16 (by decide) (q := 79) rfl ?_
            refine zIinc d_X4_readHomes_79 rfl (zinc _) (by decide) rfl (q := 82) rfl ?_
            refine zGoto d_X4_readHomes_82 (q := 7) (by decide) ?_
            refine zSub [0, 3, 4] rfl ?_
            rw [nI_1]
            have key := ih hlt (zup X k (zTold I L h (nI (2 * k)))) (zup Y k (zTold I L h (nI (2 * k + 1)))) (fun i hi => by
              by_cases q : i = k
              · subst q; exact ⟨zup_eq, zup_eq⟩
              · rw [zup_ne q, zup_ne q]; exact hXY i (by omega)) hx
            refine zCastI ?_ key
            funext a
            by_cases a19 : a = 16
            · subst a19
              exact (zup_zup (f := I 16) (k := 3) (x := nI k) (y := nI (k + 1))).symm
            · by_cases a20 : a = 17
              · subst a20
                rfl
              · by_cases a21 : a = 18
                · subst a21
                  rfl
                · simp [zup, a19, a20, a21]
          · have hc : ¬ zHomB I L ns nt nh h k = true := by unfold zHomB; rw [decide_eq_true_eq]; exact fun q => h53 q.2.2
            have ek : k = zHomN I L ns nt nh h := by rw [← hx, zrun_f hc]
            refine zVret d_X4_readHomes_56 rfl rfl ?_
            exact ⟨rfl, X, Y, by rw [← ek], fun i hi => hXY i (by omega)⟩
  have e0 : zup (zup (zup I 17 (I 17)) 18 (I 18)) 16 (zup (I 16) 3 (nI 0)) = zup I 16 (zup (I 16) 3 0) := by rw [zup_self, zup_self]; rfl
  have h0 := loop 0 (Nat.zero_le _) (I 17) (I 18) (fun i hi => by omega) rfl
  rw [e0] at h0
  refine zSp_of (lv := [(0, .ref 16), (1, .ref h)]) k_X4_readHomes rfl (Nat.le_of_ble_eq_true rfl) ?_
  refine zAloadN d_X4_readHomes_0 rfl rfl (q := 1) rfl ?_
  refine zIconst d_X4_readHomes_1 (v := 0) ic_0 (q := 2) rfl ?_
  refine zPutI d_X4_readHomes_2 ff_X4_43 rfl rfl rfl sh_16 (by decide) (q := 5) rfl ?_
  refine zIconst d_X4_readHomes_5 (v := 0) ic_0 (q := 6) rfl ?_
  refine zIstoreN d_X4_readHomes_6 rfl (by decide) rfl (q := 7) rfl ?_
  refine zSub [0, 1, 2] rfl ?_
  exact h0
theorem sp_X4_allIsSo (hd : 2 ≤ d) (hK : zSky I ns nt nh) {n : Nat} (hn : I 16 3 = nI n) (h12 : n ≤ 12) {r : Int32} : zPure g l d m_X4_allIsSo [.ref 16, .int r] I L fs (.int (bi (zAllSo I nh (I 17) (I 18) n r))) := by
  have loop : ∀ k, k ≤ n → zrun (fun i => decide ((zSteer I nh r >>> (I 17 i &&& 31)) &&& 1 = I 18 i)) n k = zrun (fun i => decide ((zSteer I nh r >>> (I 17 i &&& 31)) &&& 1 = I 18 i)) n 0 → zA g l d m_X4_allIsSo I L fs 8 [(3, .int (nI k)), (2, .int (zSteer I nh r)), (0, .ref 16), (1, .int r)] (zP (.int (bi (zAllSo I nh (I 17) (I 18) n r))) (zU I L fs)) := by
    refine zloop n (fun k hk ih hx => ?_)
    refine zIloadN d_X4_allIsSo_8 rfl rfl (q := 9) rfl ?_
    refine zAloadN d_X4_allIsSo_9 rfl rfl (q := 10) rfl ?_
    refine zGetI d_X4_allIsSo_10 ff_X4_43 sh_16 (by decide) (q := 13) rfl ?_
    refine zIcmp_ge d_X4_allIsSo_13 (tgt := 43) (q := 16) (by decide) rfl (fun h13 => ?_) (fun h13 => ?_)
    · have ek := nle (hn ▸ h13)
      refine zIconst d_X4_allIsSo_43 (v := 1) ic_1 (q := 44) rfl ?_
      refine zIret d_X4_allIsSo_44 rfl rfl rfl ?_
      exact zPi (bi_t (by show zrun _ n 0 = n; rw [← hx, zrun_end ek]; omega)).symm
    · have hlt := nnle (hn ▸ h13)
      refine zIloadN d_X4_allIsSo_16 rfl rfl (q := 17) rfl ?_
      refine zAloadN d_X4_allIsSo_17 rfl rfl (q := 18) rfl ?_
      refine zGetR d_X4_allIsSo_18 ff_X4_9 sh_16 (by decide) r_16_1 (q := 21) rfl ?_
      refine zIloadN d_X4_allIsSo_21 rfl rfl (q := 22) rfl ?_
      refine zIald d_X4_allIsSo_22 sh_17 (by decide) rfl (by omega) (q := 23) rfl ?_
      refine zIshr d_X4_allIsSo_23 (q := 24) rfl ?_
      refine zIconst d_X4_allIsSo_24 (v := 1) ic_1 (q := 25) rfl ?_
      refine zIand d_X4_allIsSo_25 (q := 26) rfl ?_
      refine zAloadN d_X4_allIsSo_26 rfl rfl (q := 27) rfl ?_
      refine zGetR d_X4_allIsSo_27 ff_X4_13 sh_16 (by decide) r_16_2 (q := 30) rfl ?_
      refine zIloadN d_X4_allIsSo_30 rfl rfl (q := 31) rfl ?_
      refine zIald d_X4_allIsSo_31 sh_18 (by decide) rfl (by omega) (q := 32) rfl ?_
      refine zIcmp_eq d_X4_allIsSo_32 (tgt := 37) (q := 35) (by decide) rfl (fun h32 => ?_) (fun h32 => ?_)
      · refine zIinc d_X4_allIsSo_37 rfl (zinc _) (by decide) rfl (q := 40) rfl ?_
        refine zGoto d_X4_allIsSo_40 (q := 8) (by decide) ?_
        refine zSub [0, 1, 2, 3] rfl ?_
        exact ih hlt (by rw [← hx, zrun_t hlt (by rw [decide_eq_true_eq]; exact h32)])
      · refine zIconst d_X4_allIsSo_35 (v := 0) ic_0 (q := 36) rfl ?_
        refine zIret d_X4_allIsSo_36 rfl rfl rfl ?_
        have hr := zrun_f (p := fun i => decide ((zSteer I nh r >>> (I 17 i &&& 31)) &&& 1 = I 18 i)) (n := n) (k := k) (by rw [decide_eq_true_eq]; exact h32)
        exact zPi (bi_f (fun q => by rw [hr] at hx; have q' : zrun (fun i => decide ((zSteer I nh r >>> (I 17 i &&& 31)) &&& 1 = I 18 i)) n 0 = n := q; omega)).symm
  refine zSp_of (lv := [(0, .ref 16), (1, .int r)]) k_X4_allIsSo rfl (Nat.le_of_ble_eq_true rfl) ?_
  refine zAloadN d_X4_allIsSo_0 rfl rfl (q := 1) rfl ?_
  refine zIloadN d_X4_allIsSo_1 rfl rfl (q := 2) rfl ?_
  refine zCallVP d_X4_allIsSo_2 ml_X4_67 k_X4_steering ki_X4_steering ks_X4_steering (sp_X4_steering (d := d - 1) (by omega) hK) rfl rfl sh_16 (by decide) rfl (by decide) (Nat.le_of_ble_eq_true rfl) (by decide) (by omega) zns100 (q := 5) rfl ?_
  refine zIstoreN d_X4_allIsSo_5 rfl (by decide) rfl (q := 6) rfl ?_
  refine zIconst d_X4_allIsSo_6 (v := 0) ic_0 (q := 7) rfl ?_
  refine zIstoreN d_X4_allIsSo_7 rfl (by decide) rfl (q := 8) rfl ?_
  refine zSub [0, 1, 2, 3] rfl ?_
  exact loop 0 (Nat.zero_le _) rfl
def zWrU (I : Nat → Nat → Int32) (s : Int32 × Int32) : Nat → Nat → Int32 := zup I 16 (zup (zup (I 16) 4 s.1) 5 s.2)
theorem sp_X4_findWrong (hd : 5 ≤ d) (hK : zSky I ns nt nh) {n : Nat} (hn : I 16 3 = nI n) (h12 : n ≤ 12) : zSp g l d 100 m_X4_findWrong [.ref 16] (zU I L fs) (zV (fun w => w = zU (zWrU I (zWr I ns nh (I 17) (I 18) n)) L fs)) := by
  obtain ⟨U, hU1, hU⟩ := zbits_lt (f := I 7) (n := ns) (by have := hK.2.1; omega)
  have hU2 := zp10 hK.2.1
  have hF : zWr I ns nh (I 17) (I 18) n = zfor (zWrS I nh (I 17) (I 18) n (nI U)) (U + 1) 0 (0, 0) := by unfold zWr; rw [hU, zcl_n (by omega)]
  have hAll : ∀ (s : Int32 × Int32) (r : Int32), zPure g l (d - 1) m_X4_allIsSo [.ref 16, .int r] (zWrU I s) L fs (.int (bi (zAllSo I nh (I 17) (I 18) n r))) := fun s r =>
    sp_X4_allIsSo (g := g) (l := l) (L := L) (fs := fs) (d := d - 1) (by omega) (zSky_up (a := 16) (f := zup (zup (I 16) 4 s.1) 5 s.2) hK (by decide)) (n := n) hn h12 (r := r)
  have loop : ∀ k, k ≤ U + 1 → ∀ s, zfor (zWrS I nh (I 17) (I 18) n (nI U)) (U + 1) k s = zWr I ns nh (I 17) (I 18) n → zA g l d m_X4_findWrong (zWrU I s) L fs 21 [(2, .int (nI k)), (1, .int (nI U)), (0, .ref 16)] (zV (fun w => w = zU (zWrU I (zWr I ns nh (I 17) (I 18) n)) L fs)) := by
    refine zloop (U + 1) (fun k hk ih s hx => ?_)
    refine zIloadN d_X4_findWrong_21 rfl rfl (q := 22) rfl ?_
    refine zIloadN d_X4_findWrong_22 rfl rfl (q := 23) rfl ?_
    refine zIcmp_gt d_X4_findWrong_23 (tgt := 91) (q := 26) (by decide) rfl (fun h23 => ?_) (fun h23 => ?_)
    · have ek := nlt h23
      rw [zfor_end (by omega)] at hx
      refine zVret d_X4_findWrong_91 rfl rfl ?_
      exact ⟨rfl, by rw [hx]⟩
    · have hlt := nnlt h23
      rw [zfor_step (by omega)] at hx
      refine zIloadN d_X4_findWrong_26 rfl rfl (q := 27) rfl ?_
      refine zIloadN d_X4_findWrong_27 rfl rfl (q := 28) rfl ?_
      refine zIconst d_X4_findWrong_28 (v := -1) ic_m1 (q := 29) rfl ?_
      refine zIxor d_X4_findWrong_29 (q := 30) rfl ?_
      refine zIand d_X4_findWrong_30 (q := 31) rfl ?_
      refine zIf_ne d_X4_findWrong_31 (tgt := 85) (q := 34) (by decide) rfl (fun h31 => ?_) (fun h31 => ?_)
      · refine zIinc d_X4_findWrong_85 rfl (zinc _) (by decide) rfl (q := 88) rfl ?_
        refine zGoto d_X4_findWrong_88 (q := 21) (by decide) ?_
        refine zSub [0, 1, 2] rfl ?_
        first
        | exact ih (by omega) s (by rw [← hx]; unfold zWrS; first | rw [if_neg (fun q => h31 q.1)] | rw [if_neg (fun q => bi_0.mp h43 q.2)])
        | (have hc : (nI k &&& (nI U ^^^ (-1)) = 0) ∧ zAllSo I nh (I 17) (I 18) n (nI U &&& (nI k ^^^ (-1))) := ⟨h31, bi_n0.mp h43⟩
           have key := ih (by omega) (s.1 + 1, if s.1 = 0 ∨ zbc (nI k) < zbc s.2 then nI k else s.2) (by rw [← hx]; unfold zWrS; rw [if_pos hc])
           have h53' : s.1 = 0 := h53
           rw [if_pos (Or.inl h53')] at key
           refine zCastI ?_ key
           unfold zWrU
           rw [zup_zup, zup_zup, zup_eq, zup_eq, zup_zup, zup_3 (show (4 : Nat) ≠ 5 by decide)]
           rfl)
        | (have hc : (nI k &&& (nI U ^^^ (-1)) = 0) ∧ zAllSo I nh (I 17) (I 18) n (nI U &&& (nI k ^^^ (-1))) := ⟨h31, bi_n0.mp h43⟩
           have key := ih (by omega) (s.1 + 1, if s.1 = 0 ∨ zbc (nI k) < zbc s.2 then nI k else s.2) (by rw [← hx]; unfold zWrS; rw [if_pos hc])
           have h53' : ¬ s.1 = 0 := h53
           have h67' : zbc s.2 ≤ zbc (nI k) := h67
           rw [if_neg (by rintro (q | q); exact h53' q; grind)] at key
           refine zCastI ?_ key
           unfold zWrU
           rw [zup_zup, zup_eq, zup_3 (show (4 : Nat) ≠ 5 by decide)]
           rfl)
        | (have hc : (nI k &&& (nI U ^^^ (-1)) = 0) ∧ zAllSo I nh (I 17) (I 18) n (nI U &&& (nI k ^^^ (-1))) := ⟨h31, bi_n0.mp h43⟩
           have key := ih (by omega) (s.1 + 1, if s.1 = 0 ∨ zbc (nI k) < zbc s.2 then nI k else s.2) (by rw [← hx]; unfold zWrS; rw [if_pos hc])
           have h67' : ¬ zbc s.2 ≤ zbc (nI k) := h67
           rw [if_pos (Or.inr (by grind))] at key
           refine zCastI ?_ key
           unfold zWrU
           rw [zup_zup, zup_zup, zup_eq, zup_eq, zup_zup, zup_3 (show (4 : Nat) ≠ 5 by decide)]
           rfl)
      · refine zAloadN d_X4_findWrong_34 rfl rfl (q := 35) rfl ?_
        refine zIloadN d_X4_findWrong_35 rfl rfl (q := 36) rfl ?_
        refine zIloadN d_X4_findWrong_36 rfl rfl (q := 37) rfl ?_
        refine zIconst d_X4_findWrong_37 (v := -1) ic_m1 (q := 38) rfl ?_
        refine zIxor d_X4_findWrong_38 (q := 39) rfl ?_
        refine zIand d_X4_findWrong_39 (q := 40) rfl ?_
        refine zCallVP d_X4_findWrong_40 ml_X4_63 k_X4_allIsSo ki_X4_allIsSo ks_X4_allIsSo (hAll _ _) rfl rfl sh_16 (by decide) rfl (by decide) (Nat.le_of_ble_eq_true rfl) (by decide) (by omega) zns100 (q := 43) rfl ?_
        refine zIf_ne d_X4_findWrong_43 (tgt := 49) (q := 46) (by decide) rfl (fun h43 => ?_) (fun h43 => ?_)
        · refine zAloadN d_X4_findWrong_49 rfl rfl (q := 50) rfl ?_
          refine zGetI d_X4_findWrong_50 ff_X4_57 sh_16 (by decide) (q := 53) rfl ?_
          refine zIf_eq d_X4_findWrong_53 (tgt := 70) (q := 56) (by decide) rfl (fun h53 => ?_) (fun h53 => ?_)
          · refine zAloadN d_X4_findWrong_70 rfl rfl (q := 71) rfl ?_
            refine zIloadN d_X4_findWrong_71 rfl rfl (q := 72) rfl ?_
            refine zPutI d_X4_findWrong_72 ff_X4_60 rfl rfl rfl sh_16 (by decide) (q := 75) rfl ?_
            refine zAloadN d_X4_findWrong_75 rfl rfl (q := 76) rfl ?_
            refine zDup d_X4_findWrong_76 rfl (q := 77) rfl ?_
            refine zGetI d_X4_findWrong_77 ff_X4_57 sh_16 (by decide) (q := 80) rfl ?_
            refine zIconst d_X4_findWrong_80 (v := 1) ic_1 (q := 81) rfl ?_
            refine zIadd d_X4_findWrong_81 (q := 82) rfl ?_
            refine zPutI d_X4_findWrong_82 ff_X4_57 rfl rfl rfl sh_16 (by decide) (q := 85) rfl ?_
            refine zIinc d_X4_findWrong_85 rfl (zinc _) (by decide) rfl (q := 88) rfl ?_
            refine zGoto d_X4_findWrong_88 (q := 21) (by decide) ?_
            refine zSub [0, 1, 2] rfl ?_
            first
            | exact ih (by omega) s (by rw [← hx]; unfold zWrS; first | rw [if_neg (fun q => h31 q.1)] | rw [if_neg (fun q => bi_0.mp h43 q.2)])
            | (have hc : (nI k &&& (nI U ^^^ (-1)) = 0) ∧ zAllSo I nh (I 17) (I 18) n (nI U &&& (nI k ^^^ (-1))) := ⟨h31, bi_n0.mp h43⟩
               have key := ih (by omega) (s.1 + 1, if s.1 = 0 ∨ zbc (nI k) < zbc s.2 then nI k else s.2) (by rw [← hx]; unfold zWrS; rw [if_pos hc])
               have h53' : s.1 = 0 := h53
               rw [if_pos (Or.inl h53')] at key
               refine zCastI ?_ key
               unfold zWrU
               rw [zup_zup, zup_zup, zup_eq, zup_eq, zup_zup, zup_3 (show (4 : Nat) ≠ 5 by decide)]
               rfl)
            | (have hc : (nI k &&& (nI U ^^^ (-1)) = 0) ∧ zAllSo I nh (I 17) (I 18) n (nI U &&& (nI k ^^^ (-1))) := ⟨h31, bi_n0.mp h43⟩
               have key := ih (by omega) (s.1 + 1, if s.1 = 0 ∨ zbc (nI k) < zbc s.2 then nI k else s.2) (by rw [← hx]; unfold zWrS; rw [if_pos hc])
               have h53' : ¬ s.1 = 0 := h53
               have h67' : zbc s.2 ≤ zbc (nI k) := h67
               rw [if_neg (by rintro (q | q); exact h53' q; grind)] at key
               refine zCastI ?_ key
               unfold zWrU
               rw [zup_zup, zup_eq, zup_3 (show (4 : Nat) ≠ 5 by decide)]
               rfl)
            | (have hc : (nI k &&& (nI U ^^^ (-1)) = 0) ∧ zAllSo I nh (I 17) (I 18) n (nI U &&& (nI k ^^^ (-1))) := ⟨h31, bi_n0.mp h43⟩
               have key := ih (by omega) (s.1 + 1, if s.1 = 0 ∨ zbc (nI k) < zbc s.2 then nI k else s.2) (by rw [← hx]; unfold zWrS; rw [if_pos hc])
               have h67' : ¬ zbc s.2 ≤ zbc (nI k) := h67
               rw [if_pos (Or.inr (by grind))] at key
               refine zCastI ?_ key
               unfold zWrU
               rw [zup_zup, zup_zup, zup_eq, zup_eq, zup_zup, zup_3 (show (4 : Nat) ≠ 5 by decide)]
               rfl)
          · refine zIloadN d_X4_findWrong_56 rfl rfl (q := 57) rfl ?_
            refine zCallSP d_X4_findWrong_57 ml_X4_33 k_J6_bitCount kt_J6_bitCount (sp_J6_bitCount (d := d - 1) (by omega) ) rfl rfl (Nat.le_of_ble_eq_true rfl) (by decide) (by omega) zns100 (q := 60) rfl ?_
            refine zAloadN d_X4_findWrong_60 rfl rfl (q := 61) rfl ?_
            refine zGetI d_X4_findWrong_61 ff_X4_60 sh_16 (by decide) (q := 64) rfl ?_
            refine zCallSP d_X4_findWrong_64 ml_X4_33 k_J6_bitCount kt_J6_bitCount (sp_J6_bitCount (d := d - 1) (by omega) ) rfl rfl (Nat.le_of_ble_eq_true rfl) (by decide) (by omega) zns100 (q := 67) rfl ?_
            refine zIcmp_ge d_X4_findWrong_67 (tgt := 75) (q := 70) (by decide) rfl (fun h67 => ?_) (fun h67 => ?_)
            · refine zAloadN d_X4_findWrong_75 rfl rfl (q := 76) rfl ?_
              refine zDup d_X4_findWrong_76 rfl (q := 77) rfl ?_
              refine zGetI d_X4_findWrong_77 ff_X4_57 sh_16 (by decide) (q := 80) rfl ?_
              refine zIconst d_X4_findWrong_80 (v := 1) ic_1 (q := 81) rfl ?_
              refine zIadd d_X4_findWrong_81 (q := 82) rfl ?_
              refine zPutI d_X4_findWrong_82 ff_X4_57 rfl rfl rfl sh_16 (by decide) (q := 85) rfl ?_
              refine zIinc d_X4_findWrong_85 rfl (zinc _) (by decide) rfl (q := 88) rfl ?_
              refine zGoto d_X4_findWrong_88 (q := 21) (by decide) ?_
              refine zSub [0, 1, 2] rfl ?_
              first
              | exact ih (by omega) s (by rw [← hx]; unfold zWrS; first | rw [if_neg (fun q => h31 q.1)] | rw [if_neg (fun q => bi_0.mp h43 q.2)])
              | (have hc : (nI k &&& (nI U ^^^ (-1)) = 0) ∧ zAllSo I nh (I 17) (I 18) n (nI U &&& (nI k ^^^ (-1))) := ⟨h31, bi_n0.mp h43⟩
                 have key := ih (by omega) (s.1 + 1, if s.1 = 0 ∨ zbc (nI k) < zbc s.2 then nI k else s.2) (by rw [← hx]; unfold zWrS; rw [if_pos hc])
                 have h53' : s.1 = 0 := h53
                 rw [if_pos (Or.inl h53')] at key
                 refine zCastI ?_ key
                 unfold zWrU
                 rw [zup_zup, zup_zup, zup_eq, zup_eq, zup_zup, zup_3 (show (4 : Nat) ≠ 5 by decide)]
                 rfl)
              | (have hc : (nI k &&& (nI U ^^^ (-1)) = 0) ∧ zAllSo I nh (I 17) (I 18) n (nI U &&& (nI k ^^^ (-1))) := ⟨h31, bi_n0.mp h43⟩
                 have key := ih (by omega) (s.1 + 1, if s.1 = 0 ∨ zbc (nI k) < zbc s.2 then nI k else s.2) (by rw [← hx]; unfold zWrS; rw [if_pos hc])
                 have h53' : ¬ s.1 = 0 := h53
                 have h67' : zbc s.2 ≤ zbc (nI k) := h67
                 rw [if_neg (by rintro (q | q); exact h53' q; grind)] at key
                 refine zCastI ?_ key
                 unfold zWrU
                 rw [zup_zup, zup_eq, zup_3 (show (4 : Nat) ≠ 5 by decide)]
                 rfl)
              | (have hc : (nI k &&& (nI U ^^^ (-1)) = 0) ∧ zAllSo I nh (I 17) (I 18) n (nI U &&& (nI k ^^^ (-1))) := ⟨h31, bi_n0.mp h43⟩
                 have key := ih (by omega) (s.1 + 1, if s.1 = 0 ∨ zbc (nI k) < zbc s.2 then nI k else s.2) (by rw [← hx]; unfold zWrS; rw [if_pos hc])
                 have h67' : ¬ zbc s.2 ≤ zbc (nI k) := h67
                 rw [if_pos (Or.inr (by grind))] at key
                 refine zCastI ?_ key
                 unfold zWrU
                 rw [zup_zup, zup_zup, zup_eq, zup_eq, zup_zup, zup_3 (show (4 : Nat) ≠ 5 by decide)]
                 rfl)
            · refine zAloadN d_X4_findWrong_70 rfl rfl (q := 71) rfl ?_
              refine zIloadN d_X4_findWrong_71 rfl rfl (q := 72) rfl ?_
              refine zPutI d_X4_findWrong_72 ff_X4_60 rfl rfl rfl sh_16 (by decide) (q := 75) rfl ?_
              refine zAloadN d_X4_findWrong_75 rfl rfl (q := 76) rfl ?_
              refine zDup d_X4_findWrong_76 rfl (q := 77) rfl ?_
              refine zGetI d_X4_findWrong_77 ff_X4_57 sh_16 (by decide) (q := 80) rfl ?_
              refine zIconst d_X4_findWrong_80 (v := 1) ic_1 (q := 81) rfl ?_
              refine zIadd d_X4_findWrong_81 (q := 82) rfl ?_
              refine zPutI d_X4_findWrong_82 ff_X4_57 rfl rfl rfl sh_16 (by decide) (q := 85) rfl ?_
              refine zIinc d_X4_findWrong_85 rfl (zinc _) (by decide) rfl (q := 88) rfl ?_
              refine zGoto d_X4_findWrong_88 (q := 21) (by decide) ?_
              refine zSub [0, 1, 2] rfl ?_
              first
              | exact ih (by omega) s (by rw [← hx]; unfold zWrS; first | rw [if_neg (fun q => h31 q.1)] | rw [if_neg (fun q => bi_0.mp h43 q.2)])
              | (have hc : (nI k &&& (nI U ^^^ (-1)) = 0) ∧ zAllSo I nh (I 17) (I 18) n (nI U &&& (nI k ^^^ (-1))) := ⟨h31, bi_n0.mp h43⟩
                 have key := ih (by omega) (s.1 + 1, if s.1 = 0 ∨ zbc (nI k) < zbc s.2 then nI k else s.2) (by rw [← hx]; unfold zWrS; rw [if_pos hc])
                 have h53' : s.1 = 0 := h53
                 rw [if_pos (Or.inl h53')] at key
                 refine zCastI ?_ key
                 unfold zWrU
                 rw [zup_zup, zup_zup, zup_eq, zup_eq, zup_zup, zup_3 (show (4 : Nat) ≠ 5 by decide)]
                 rfl)
              | (have hc : (nI k &&& (nI U ^^^ (-1)) = 0) ∧ zAllSo I nh (I 17) (I 18) n (nI U &&& (nI k ^^^ (-1))) := ⟨h31, bi_n0.mp h43⟩
                 have key := ih (by omega) (s.1 + 1, if s.1 = 0 ∨ zbc (nI k) < zbc s.2 then nI k else s.2) (by rw [← hx]; unfold zWrS; rw [if_pos hc])
                 have h53' : ¬ s.1 = 0 := h53
                 have h67' : zbc s.2 ≤ zbc (nI k) := h67
                 rw [if_neg (by rintro (q | q); exact h53' q; grind)] at key
                 refine zCastI ?_ key
                 unfold zWrU
                 rw [zup_zup, zup_eq, zup_3 (show (4 : Nat) ≠ 5 by decide)]
                 rfl)
              | (have hc : (nI k &&& (nI U ^^^ (-1)) = 0) ∧ zAllSo I nh (I 17) (I 18) n (nI U &&& (nI k ^^^ (-1))) := ⟨h31, bi_n0.mp h43⟩
                 have key := ih (by omega) (s.1 + 1, if s.1 = 0 ∨ zbc (nI k) < zbc s.2 then nI k else s.2) (by rw [← hx]; unfold zWrS; rw [if_pos hc])
                 have h67' : ¬ zbc s.2 ≤ zbc (nI k) := h67
                 rw [if_pos (Or.inr (by grind))] at key
                 refine zCastI ?_ key
                 unfold zWrU
                 rw [zup_zup, zup_zup, zup_eq, zup_eq, zup_zup, zup_3 (show (4 : Nat) ≠ 5 by decide)]
                 rfl)
        · refine zGoto d_X4_findWrong_46 (q := 85) (by decide) ?_
          refine zIinc d_X4_findWrong_85 rfl (zinc _) (by decide) rfl (q := 88) rfl ?_
          refine zGoto d_X4_findWrong_88 (q := 21) (by decide) ?_
          refine zSub [0, 1, 2] rfl ?_
          first
          | exact ih (by omega) s (by rw [← hx]; unfold zWrS; first | rw [if_neg (fun q => h31 q.1)] | rw [if_neg (fun q => bi_0.mp h43 q.2)])
          | (have hc : (nI k &&& (nI U ^^^ (-1)) = 0) ∧ zAllSo I nh (I 17) (I 18) n (nI U &&& (nI k ^^^ (-1))) := ⟨h31, bi_n0.mp h43⟩
             have key := ih (by omega) (s.1 + 1, if s.1 = 0 ∨ zbc (nI k) < zbc s.2 then nI k else s.2) (by rw [← hx]; unfold zWrS; rw [if_pos hc])
             have h53' : s.1 = 0 := h53
             rw [if_pos (Or.inl h53')] at key
             refine zCastI ?_ key
             unfold zWrU
             rw [zup_zup, zup_zup, zup_eq, zup_eq, zup_zup, zup_3 (show (4 : Nat) ≠ 5 by decide)]
             rfl)
          | (have hc : (nI k &&& (nI U ^^^ (-1)) = 0) ∧ zAllSo I nh (I 17) (I 18) n (nI U &&& (nI k ^^^ (-1))) := ⟨h31, bi_n0.mp h43⟩
             have key := ih (by omega) (s.1 + 1, if s.1 = 0 ∨ zbc (nI k) < zbc s.2 then nI k else s.2) (by rw [← hx]; unfold zWrS; rw [if_pos hc])
             have h53' : ¬ s.1 = 0 := h53
             have h67' : zbc s.2 ≤ zbc (nI k) := h67
             rw [if_neg (by rintro (q | q); exact h53' q; grind)] at key
             refine zCastI ?_ key
             unfold zWrU
             rw [zup_zup, zup_eq, zup_3 (show (4 : Nat) ≠ 5 by decide)]
             rfl)
          | (have hc : (nI k &&& (nI U ^^^ (-1)) = 0) ∧ zAllSo I nh (I 17) (I 18) n (nI U &&& (nI k ^^^ (-1))) := ⟨h31, bi_n0.mp h43⟩
             have key := ih (by omega) (s.1 + 1, if s.1 = 0 ∨ zbc (nI k) < zbc s.2 then nI k else s.2) (by rw [← hx]; unfold zWrS; rw [if_pos hc])
             have h67' : ¬ zbc s.2 ≤ zbc (nI k) := h67
             rw [if_pos (Or.inr (by grind))] at key
             refine zCastI ?_ key
             unfold zWrU
             rw [zup_zup, zup_zup, zup_eq, zup_eq, zup_zup, zup_3 (show (4 : Nat) ≠ 5 by decide)]
             rfl)
  have h0 := loop 0 (Nat.zero_le _) (0, 0) hF.symm
  have e0 : zWrU I (0, 0) = zup (zup I 16 (zup (I 16) 4 0)) 16 (zup ((zup I 16 (zup (I 16) 4 0)) 16) 5 0) := by unfold zWrU; rw [zup_zup, zup_eq]
  rw [e0] at h0
  refine zSp_of (lv := [(0, .ref 16)]) k_X4_findWrong rfl (Nat.le_of_ble_eq_true rfl) ?_
  refine zAloadN d_X4_findWrong_0 rfl rfl (q := 1) rfl ?_
  refine zGetR d_X4_findWrong_1 ff_X4_16 sh_16 (by decide) r_16_0 (q := 4) rfl ?_
  refine zIconst d_X4_findWrong_4 (v := 4) ic_4 (q := 5) rfl ?_
  refine zCallVP d_X4_findWrong_5 ml_X4_54 k_X9_bits ki_X9_bits ks_X9_bits (sp_X9_bits4 (d := d - 1) (by omega) hK) rfl rfl sh_1 (by decide) rfl (by decide) (Nat.le_of_ble_eq_true rfl) (by decide) (by omega) zns100 (q := 8) rfl ?_
  rw [hU]
  refine zIstoreN d_X4_findWrong_8 rfl (by decide) rfl (q := 9) rfl ?_
  refine zAloadN d_X4_findWrong_9 rfl rfl (q := 10) rfl ?_
  refine zIconst d_X4_findWrong_10 (v := 0) ic_0 (q := 11) rfl ?_
  refine zPutI d_X4_findWrong_11 ff_X4_57 rfl rfl rfl sh_16 (by decide) (q := 14) rfl ?_
  refine zAloadN d_X4_findWrong_14 rfl rfl (q := 15) rfl ?_
  refine zIconst d_X4_findWrong_15 (v := 0) ic_0 (q := 16) rfl ?_
  refine zPutI d_X4_findWrong_16 ff_X4_60 rfl rfl rfl sh_16 (by decide) (q := 19) rfl ?_
  refine zIconst d_X4_findWrong_19 (v := 0) ic_0 (q := 20) rfl ?_
  refine zIstoreN d_X4_findWrong_20 rfl (by decide) rfl (q := 21) rfl ?_
  refine zSub [0, 1, 2] rfl ?_
  exact h0
end S17

