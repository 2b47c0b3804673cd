theorem d_X11_fling_0 : decode (zmc m_X11_fling) 0 = .ok (.aload_n 0, 1) := by decide +kernel
theorem d_X11_fling_1 : decode (zmc m_X11_fling) 1 = .ok (.getfield 10, 3) := by decide +kernel
theorem d_X11_fling_4 : decode (zmc m_X11_fling) 4 = .ok (.iload_n 1, 1) := by decide +kernel
theorem d_X11_fling_5 : decode (zmc m_X11_fling) 5 = .ok (.invokevirtual 152, 3) := by decide +kernel
theorem d_X11_fling_8 : decode (zmc m_X11_fling) 8 = .ok (.ifCond .ne 5, 3) := by decide +kernel
theorem d_X11_fling_11 : decode (zmc m_X11_fling) 11 = .ok (.iconst (-1), 1) := by decide +kernel
theorem d_X11_fling_12 : decode (zmc m_X11_fling) 12 = .ok (.ireturn, 1) := by decide +kernel
theorem d_X11_fling_13 : decode (zmc m_X11_fling) 13 = .ok (.iload_n 1, 1) := by decide +kernel
theorem d_X11_fling_14 : decode (zmc m_X11_fling) 14 = .ok (.bipush 10, 2) := by decide +kernel
theorem d_X11_fling_16 : decode (zmc m_X11_fling) 16 = .ok (.idiv, 1) := by decide +kernel
theorem d_X11_fling_17 : decode (zmc m_X11_fling) 17 = .ok (.istore_n 2, 1) := by decide +kernel
theorem d_X11_fling_18 : decode (zmc m_X11_fling) 18 = .ok (.iload_n 1, 1) := by decide +kernel
theorem d_X11_fling_19 : decode (zmc m_X11_fling) 19 = .ok (.bipush 10, 2) := by decide +kernel
theorem d_X11_fling_21 : decode (zmc m_X11_fling) 21 = .ok (.irem, 1) := by decide +kernel
theorem d_X11_fling_22 : decode (zmc m_X11_fling) 22 = .ok (.istore_n 3, 1) := by decide +kernel
theorem d_X11_fling_23 : decode (zmc m_X11_fling) 23 = .ok (.aload_n 0, 1) := by decide +kernel
theorem d_X11_fling_24 : decode (zmc m_X11_fling) 24 = .ok (.getfield 10, 3) := by decide +kernel
theorem d_X11_fling_27 : decode (zmc m_X11_fling) 27 = .ok (.iconst 4, 1) := by decide +kernel
theorem d_X11_fling_28 : decode (zmc m_X11_fling) 28 = .ok (.iload_n 2, 1) := by decide +kernel
theorem d_X11_fling_29 : decode (zmc m_X11_fling) 29 = .ok (.invokevirtual 128, 3) := by decide +kernel
theorem d_X11_fling_32 : decode (zmc m_X11_fling) 32 = .ok (.ifCond .ne 15, 3) := by decide +kernel
theorem d_X11_fling_35 : decode (zmc m_X11_fling) 35 = .ok (.aload_n 0, 1) := by decide +kernel
theorem d_X11_fling_36 : decode (zmc m_X11_fling) 36 = .ok (.getfield 10, 3) := by decide +kernel
theorem d_X11_fling_39 : decode (zmc m_X11_fling) 39 = .ok (.iconst 5, 1) := by decide +kernel
theorem d_X11_fling_40 : decode (zmc m_X11_fling) 40 = .ok (.iload_n 2, 1) := by decide +kernel
theorem d_X11_fling_41 : decode (zmc m_X11_fling) 41 = .ok (.invokevirtual 128, 3) := by decide +kernel
theorem d_X11_fling_44 : decode (zmc m_X11_fling) 44 = .ok (.ifCond .eq 6, 3) := by decide +kernel
theorem d_X11_fling_47 : decode (zmc m_X11_fling) 47 = .ok (.bipush (-5), 2) := by decide +kernel
theorem d_X11_fling_49 : decode (zmc m_X11_fling) 49 = .ok (.ireturn, 1) := by decide +kernel
theorem d_X11_fling_50 : decode (zmc m_X11_fling) 50 = .ok (.aload_n 0, 1) := by decide +kernel
theorem d_X11_fling_51 : decode (zmc m_X11_fling) 51 = .ok (.iload_n 2, 1) := by decide +kernel
theorem d_X11_fling_52 : decode (zmc m_X11_fling) 52 = .ok (.iload_n 3, 1) := by decide +kernel
theorem d_X11_fling_53 : decode (zmc m_X11_fling) 53 = .ok (.invokevirtual 156, 3) := by decide +kernel
theorem d_X11_fling_56 : decode (zmc m_X11_fling) 56 = .ok (.istore 4, 2) := by decide +kernel
theorem d_X11_fling_58 : decode (zmc m_X11_fling) 58 = .ok (.aload_n 0, 1) := by decide +kernel
theorem d_X11_fling_59 : decode (zmc m_X11_fling) 59 = .ok (.getfield 10, 3) := by decide +kernel
theorem d_X11_fling_62 : decode (zmc m_X11_fling) 62 = .ok (.bipush 11, 2) := by decide +kernel
theorem d_X11_fling_64 : decode (zmc m_X11_fling) 64 = .ok (.iconst 0, 1) := by decide +kernel
theorem d_X11_fling_65 : decode (zmc m_X11_fling) 65 = .ok (.invokevirtual 128, 3) := by decide +kernel
theorem d_X11_fling_68 : decode (zmc m_X11_fling) 68 = .ok (.invokestatic 278, 3) := by decide +kernel
theorem d_X11_fling_71 : decode (zmc m_X11_fling) 71 = .ok (.istore 5, 2) := by decide +kernel
theorem d_X11_fling_73 : decode (zmc m_X11_fling) 73 = .ok (.iload 5, 2) := by decide +kernel
theorem d_X11_fling_75 : decode (zmc m_X11_fling) 75 = .ok (.iload 4, 2) := by decide +kernel
theorem d_X11_fling_77 : decode (zmc m_X11_fling) 77 = .ok (.invokestatic 281, 3) := by decide +kernel
theorem d_X11_fling_80 : decode (zmc m_X11_fling) 80 = .ok (.ifCond .eq 7, 3) := by decide +kernel
theorem d_X11_fling_83 : decode (zmc m_X11_fling) 83 = .ok (.iconst 1, 1) := by decide +kernel
theorem d_X11_fling_84 : decode (zmc m_X11_fling) 84 = .ok (.goto 4, 3) := by decide +kernel
theorem d_X11_fling_87 : decode (zmc m_X11_fling) 87 = .ok (.iconst 0, 1) := by decide +kernel
theorem d_X11_fling_88 : decode (zmc m_X11_fling) 88 = .ok (.istore 6, 2) := by decide +kernel
theorem d_X11_fling_90 : decode (zmc m_X11_fling) 90 = .ok (.aload_n 0, 1) := by decide +kernel
theorem d_X11_fling_91 : decode (zmc m_X11_fling) 91 = .ok (.getfield 10, 3) := by decide +kernel
theorem d_X11_fling_94 : decode (zmc m_X11_fling) 94 = .ok (.bipush 11, 2) := by decide +kernel
theorem d_X11_fling_96 : decode (zmc m_X11_fling) 96 = .ok (.iconst 0, 1) := by decide +kernel
theorem d_X11_fling_97 : decode (zmc m_X11_fling) 97 = .ok (.iload 5, 2) := by decide +kernel
theorem d_X11_fling_99 : decode (zmc m_X11_fling) 99 = .ok (.invokevirtual 132, 3) := by decide +kernel
theorem d_X11_fling_102 : decode (zmc m_X11_fling) 102 = .ok (.aload_n 0, 1) := by decide +kernel
theorem d_X11_fling_103 : decode (zmc m_X11_fling) 103 = .ok (.getfield 10, 3) := by decide +kernel
theorem d_X11_fling_106 : decode (zmc m_X11_fling) 106 = .ok (.iconst 4, 1) := by decide +kernel
theorem d_X11_fling_107 : decode (zmc m_X11_fling) 107 = .ok (.iload_n 2, 1) := by decide +kernel
theorem d_X11_fling_108 : decode (zmc m_X11_fling) 108 = .ok (.iload 6, 2) := by decide +kernel
theorem d_X11_fling_110 : decode (zmc m_X11_fling) 110 = .ok (.invokevirtual 132, 3) := by decide +kernel
theorem d_X11_fling_113 : decode (zmc m_X11_fling) 113 = .ok (.aload_n 0, 1) := by decide +kernel
theorem d_X11_fling_114 : decode (zmc m_X11_fling) 114 = .ok (.getfield 10, 3) := by decide +kernel
theorem d_X11_fling_117 : decode (zmc m_X11_fling) 117 = .ok (.getfield 284, 3) := by decide +kernel
theorem d_X11_fling_120 : decode (zmc m_X11_fling) 120 = .ok (.iconst 0, 1) := by decide +kernel
theorem d_X11_fling_121 : decode (zmc m_X11_fling) 121 = .ok (.dup2, 1) := by decide +kernel
theorem d_X11_fling_122 : decode (zmc m_X11_fling) 122 = .ok (.iaload, 1) := by decide +kernel
theorem d_X11_fling_123 : decode (zmc m_X11_fling) 123 = .ok (.iconst 1, 1) := by decide +kernel
theorem d_X11_fling_124 : decode (zmc m_X11_fling) 124 = .ok (.iadd, 1) := by decide +kernel
theorem d_X11_fling_125 : decode (zmc m_X11_fling) 125 = .ok (.iastore, 1) := by decide +kernel
theorem d_X11_fling_126 : decode (zmc m_X11_fling) 126 = .ok (.aload_n 0, 1) := by decide +kernel
theorem d_X11_fling_127 : decode (zmc m_X11_fling) 127 = .ok (.getfield 10, 3) := by decide +kernel
theorem d_X11_fling_130 : decode (zmc m_X11_fling) 130 = .ok (.getfield 284, 3) := by decide +kernel
theorem d_X11_fling_133 : decode (zmc m_X11_fling) 133 = .ok (.iconst 1, 1) := by decide +kernel
theorem d_X11_fling_134 : decode (zmc m_X11_fling) 134 = .ok (.dup2, 1) := by decide +kernel
theorem d_X11_fling_135 : decode (zmc m_X11_fling) 135 = .ok (.iaload, 1) := by decide +kernel
theorem d_X11_fling_136 : decode (zmc m_X11_fling) 136 = .ok (.iload 6, 2) := by decide +kernel
theorem d_X11_fling_138 : decode (zmc m_X11_fling) 138 = .ok (.iadd, 1) := by decide +kernel
theorem d_X11_fling_139 : decode (zmc m_X11_fling) 139 = .ok (.iastore, 1) := by decide +kernel
theorem d_X11_fling_140 : decode (zmc m_X11_fling) 140 = .ok (.aload_n 0, 1) := by decide +kernel
theorem d_X11_fling_141 : decode (zmc m_X11_fling) 141 = .ok (.getfield 10, 3) := by decide +kernel
theorem d_X11_fling_144 : decode (zmc m_X11_fling) 144 = .ok (.aload_n 0, 1) := by decide +kernel
theorem d_X11_fling_145 : decode (zmc m_X11_fling) 145 = .ok (.getfield 10, 3) := by decide +kernel
theorem d_X11_fling_148 : decode (zmc m_X11_fling) 148 = .ok (.bipush 7, 2) := by decide +kernel
theorem d_X11_fling_150 : decode (zmc m_X11_fling) 150 = .ok (.iload_n 3, 1) := by decide +kernel
theorem d_X11_fling_151 : decode (zmc m_X11_fling) 151 = .ok (.invokevirtual 128, 3) := by decide +kernel
theorem d_X11_fling_154 : decode (zmc m_X11_fling) 154 = .ok (.invokevirtual 287, 3) := by decide +kernel
theorem d_X11_fling_157 : decode (zmc m_X11_fling) 157 = .ok (.iload 6, 2) := by decide +kernel
theorem d_X11_fling_159 : decode (zmc m_X11_fling) 159 = .ok (.ireturn, 1) := by decide +kernel
theorem d_X11_likely_0 : decode (zmc m_X11_likely) 0 = .ok (.aload_n 0, 1) := by decide +kernel
theorem d_X11_likely_1 : decode (zmc m_X11_likely) 1 = .ok (.iload_n 1, 1) := by decide +kernel
theorem d_X11_likely_2 : decode (zmc m_X11_likely) 2 = .ok (.invokevirtual 95, 3) := by decide +kernel
theorem d_X11_likely_5 : decode (zmc m_X11_likely) 5 = .ok (.astore_n 3, 1) := by decide +kernel
theorem d_X11_likely_6 : decode (zmc m_X11_likely) 6 = .ok (.aload_n 3, 1) := by decide +kernel
theorem d_X11_likely_7 : decode (zmc m_X11_likely) 7 = .ok (.ifnull 19, 3) := by decide +kernel
theorem d_X11_likely_10 : decode (zmc m_X11_likely) 10 = .ok (.aload_n 3, 1) := by decide +kernel
theorem d_X11_likely_11 : decode (zmc m_X11_likely) 11 = .ok (.invokevirtual 103, 3) := by decide +kernel
theorem d_X11_likely_14 : decode (zmc m_X11_likely) 14 = .ok (.ifCond .eq 12, 3) := by decide +kernel
theorem d_X11_likely_17 : decode (zmc m_X11_likely) 17 = .ok (.iload_n 2, 1) := by decide +kernel
theorem d_X11_likely_18 : decode (zmc m_X11_likely) 18 = .ok (.ifCond .lt 8, 3) := by decide +kernel
theorem d_X11_likely_21 : decode (zmc m_X11_likely) 21 = .ok (.iload_n 2, 1) := by decide +kernel
theorem d_X11_likely_22 : decode (zmc m_X11_likely) 22 = .ok (.iconst 1, 1) := by decide +kernel
theorem d_X11_likely_23 : decode (zmc m_X11_likely) 23 = .ok (.if_icmp .le 7, 3) := by decide +kernel
theorem d_X11_likely_26 : decode (zmc m_X11_likely) 26 = .ok (.ldc2_w 178, 3) := by decide +kernel
theorem d_X11_likely_29 : decode (zmc m_X11_likely) 29 = .ok (.lreturn, 1) := by decide +kernel
theorem d_X11_likely_30 : decode (zmc m_X11_likely) 30 = .ok (.aload_n 0, 1) := by decide +kernel
theorem d_X11_likely_31 : decode (zmc m_X11_likely) 31 = .ok (.getfield 42, 3) := by decide +kernel
theorem d_X11_likely_34 : decode (zmc m_X11_likely) 34 = .ok (.aload_n 3, 1) := by decide +kernel
theorem d_X11_likely_35 : decode (zmc m_X11_likely) 35 = .ok (.aload_n 0, 1) := by decide +kernel
theorem d_X11_likely_36 : decode (zmc m_X11_likely) 36 = .ok (.getfield 10, 3) := by decide +kernel
theorem d_X11_likely_39 : decode (zmc m_X11_likely) 39 = .ok (.aload_n 0, 1) := by decide +kernel
theorem d_X11_likely_40 : decode (zmc m_X11_likely) 40 = .ok (.getfield 84, 3) := by decide +kernel
theorem d_X11_likely_43 : decode (zmc m_X11_likely) 43 = .ok (.invokevirtual 163, 3) := by decide +kernel
theorem d_X11_likely_46 : decode (zmc m_X11_likely) 46 = .ok (.lconst 1, 1) := by decide +kernel
theorem d_X11_likely_47 : decode (zmc m_X11_likely) 47 = .ok (.lstore 4, 2) := by decide +kernel
theorem d_X11_likely_49 : decode (zmc m_X11_likely) 49 = .ok (.lconst 1, 1) := by decide +kernel
theorem d_X11_likely_50 : decode (zmc m_X11_likely) 50 = .ok (.lstore 6, 2) := by decide +kernel
theorem d_X11_likely_52 : decode (zmc m_X11_likely) 52 = .ok (.iconst 0, 1) := by decide +kernel
theorem d_X11_likely_53 : decode (zmc m_X11_likely) 53 = .ok (.istore 8, 2) := by decide +kernel
theorem d_X11_likely_55 : decode (zmc m_X11_likely) 55 = .ok (.iload 8, 2) := by decide +kernel
theorem d_X11_likely_57 : decode (zmc m_X11_likely) 57 = .ok (.aload_n 0, 1) := by decide +kernel
theorem d_X11_likely_58 : decode (zmc m_X11_likely) 58 = .ok (.getfield 42, 3) := by decide +kernel
theorem d_X11_likely_61 : decode (zmc m_X11_likely) 61 = .ok (.getfield 171, 3) := by decide +kernel
theorem d_X11_likely_64 : decode (zmc m_X11_likely) 64 = .ok (.if_icmp .ge 33, 3) := by decide +kernel
theorem d_X11_likely_67 : decode (zmc m_X11_likely) 67 = .ok (.lload 4, 2) := by decide +kernel
theorem d_X11_likely_69 : decode (zmc m_X11_likely) 69 = .ok (.aload_n 0, 1) := by decide +kernel
theorem d_X11_likely_70 : decode (zmc m_X11_likely) 70 = .ok (.getfield 42, 3) := by decide +kernel
theorem d_X11_likely_73 : decode (zmc m_X11_likely) 73 = .ok (.getfield 180, 3) := by decide +kernel
theorem d_X11_likely_76 : decode (zmc m_X11_likely) 76 = .ok (.iload 8, 2) := by decide +kernel
theorem d_X11_likely_78 : decode (zmc m_X11_likely) 78 = .ok (.iaload, 1) := by decide +kernel
theorem d_X11_likely_79 : decode (zmc m_X11_likely) 79 = .ok (.i2l, 1) := by decide +kernel
theorem d_X11_likely_80 : decode (zmc m_X11_likely) 80 = .ok (.lmul, 1) := by decide +kernel
theorem d_X11_likely_81 : decode (zmc m_X11_likely) 81 = .ok (.lstore 4, 2) := by decide +kernel
theorem d_X11_likely_83 : decode (zmc m_X11_likely) 83 = .ok (.lload 6, 2) := by decide +kernel
theorem d_X11_likely_85 : decode (zmc m_X11_likely) 85 = .ok (.ldc2_w 183, 3) := by decide +kernel
theorem d_X11_likely_88 : decode (zmc m_X11_likely) 88 = .ok (.lmul, 1) := by decide +kernel
theorem d_X11_likely_89 : decode (zmc m_X11_likely) 89 = .ok (.lstore 6, 2) := by decide +kernel
theorem d_X11_likely_91 : decode (zmc m_X11_likely) 91 = .ok (.iinc 8 1, 3) := by decide +kernel
theorem d_X11_likely_94 : decode (zmc m_X11_likely) 94 = .ok (.goto (-39), 3) := by decide +kernel
theorem d_X11_likely_97 : decode (zmc m_X11_likely) 97 = .ok (.lload 4, 2) := by decide +kernel
theorem d_X11_likely_99 : decode (zmc m_X11_likely) 99 = .ok (.lload 6, 2) := by decide +kernel
theorem d_X11_likely_101 : decode (zmc m_X11_likely) 101 = .ok (.iload_n 2, 1) := by decide +kernel
theorem d_X11_likely_102 : decode (zmc m_X11_likely) 102 = .ok (.invokestatic 185, 3) := by decide +kernel
theorem d_X11_likely_105 : decode (zmc m_X11_likely) 105 = .ok (.lreturn, 1) := by decide +kernel
theorem d_X11_mean_0 : decode (zmc m_X11_mean) 0 = .ok (.aload_n 0, 1) := by decide +kernel
theorem d_X11_mean_1 : decode (zmc m_X11_mean) 1 = .ok (.iload_n 1, 1) := by decide +kernel
theorem d_X11_mean_2 : decode (zmc m_X11_mean) 2 = .ok (.invokevirtual 95, 3) := by decide +kernel
theorem d_X11_mean_5 : decode (zmc m_X11_mean) 5 = .ok (.astore_n 3, 1) := by decide +kernel
theorem d_X11_mean_6 : decode (zmc m_X11_mean) 6 = .ok (.aload_n 3, 1) := by decide +kernel
theorem d_X11_mean_7 : decode (zmc m_X11_mean) 7 = .ok (.ifnull 19, 3) := by decide +kernel
theorem d_X11_mean_10 : decode (zmc m_X11_mean) 10 = .ok (.aload_n 3, 1) := by decide +kernel
theorem d_X11_mean_11 : decode (zmc m_X11_mean) 11 = .ok (.invokevirtual 103, 3) := by decide +kernel
theorem d_X11_mean_14 : decode (zmc m_X11_mean) 14 = .ok (.ifCond .eq 12, 3) := by decide +kernel
theorem d_X11_mean_17 : decode (zmc m_X11_mean) 17 = .ok (.iload_n 2, 1) := by decide +kernel
theorem d_X11_mean_18 : decode (zmc m_X11_mean) 18 = .ok (.ifCond .lt 8, 3) := by decide +kernel
theorem d_X11_mean_21 : decode (zmc m_X11_mean) 21 = .ok (.iload_n 2, 1) := by decide +kernel
theorem d_X11_mean_22 : decode (zmc m_X11_mean) 22 = .ok (.iconst 1, 1) := by decide +kernel
theorem d_X11_mean_23 : decode (zmc m_X11_mean) 23 = .ok (.if_icmp .le 7, 3) := by decide +kernel
theorem d_X11_mean_26 : decode (zmc m_X11_mean) 26 = .ok (.ldc2_w 178, 3) := by decide +kernel
theorem d_X11_mean_29 : decode (zmc m_X11_mean) 29 = .ok (.lreturn, 1) := by decide +kernel
theorem d_X11_mean_30 : decode (zmc m_X11_mean) 30 = .ok (.aload_n 0, 1) := by decide +kernel
theorem d_X11_mean_31 : decode (zmc m_X11_mean) 31 = .ok (.getfield 42, 3) := by decide +kernel
theorem d_X11_mean_34 : decode (zmc m_X11_mean) 34 = .ok (.aload_n 3, 1) := by decide +kernel
theorem d_X11_mean_35 : decode (zmc m_X11_mean) 35 = .ok (.aload_n 0, 1) := by decide +kernel
theorem d_X11_mean_36 : decode (zmc m_X11_mean) 36 = .ok (.getfield 10, 3) := by decide +kernel
theorem d_X11_mean_39 : decode (zmc m_X11_mean) 39 = .ok (.aload_n 0, 1) := by decide +kernel
theorem d_X11_mean_40 : decode (zmc m_X11_mean) 40 = .ok (.getfield 84, 3) := by decide +kernel
theorem d_X11_mean_43 : decode (zmc m_X11_mean) 43 = .ok (.invokevirtual 163, 3) := by decide +kernel
theorem d_X11_mean_46 : decode (zmc m_X11_mean) 46 = .ok (.lconst 0, 1) := by decide +kernel
theorem d_X11_mean_47 : decode (zmc m_X11_mean) 47 = .ok (.lstore 4, 2) := by decide +kernel
theorem d_X11_mean_49 : decode (zmc m_X11_mean) 49 = .ok (.iconst 0, 1) := by decide +kernel
theorem d_X11_mean_50 : decode (zmc m_X11_mean) 50 = .ok (.istore 6, 2) := by decide +kernel
theorem d_X11_mean_52 : decode (zmc m_X11_mean) 52 = .ok (.iload 6, 2) := by decide +kernel
theorem d_X11_mean_54 : decode (zmc m_X11_mean) 54 = .ok (.aload_n 0, 1) := by decide +kernel
theorem d_X11_mean_55 : decode (zmc m_X11_mean) 55 = .ok (.getfield 42, 3) := by decide +kernel
theorem d_X11_mean_58 : decode (zmc m_X11_mean) 58 = .ok (.getfield 171, 3) := by decide +kernel
theorem d_X11_mean_61 : decode (zmc m_X11_mean) 61 = .ok (.if_icmp .ge 25, 3) := by decide +kernel
theorem d_X11_mean_64 : decode (zmc m_X11_mean) 64 = .ok (.lload 4, 2) := by decide +kernel
theorem d_X11_mean_66 : decode (zmc m_X11_mean) 66 = .ok (.aload_n 0, 1) := by decide +kernel
theorem d_X11_mean_67 : decode (zmc m_X11_mean) 67 = .ok (.getfield 42, 3) := by decide +kernel
theorem d_X11_mean_70 : decode (zmc m_X11_mean) 70 = .ok (.getfield 180, 3) := by decide +kernel
theorem d_X11_mean_73 : decode (zmc m_X11_mean) 73 = .ok (.iload 6, 2) := by decide +kernel
theorem d_X11_mean_75 : decode (zmc m_X11_mean) 75 = .ok (.iaload, 1) := by decide +kernel
theorem d_X11_mean_76 : decode (zmc m_X11_mean) 76 = .ok (.i2l, 1) := by decide +kernel
theorem d_X11_mean_77 : decode (zmc m_X11_mean) 77 = .ok (.ladd, 1) := by decide +kernel
theorem d_X11_mean_78 : decode (zmc m_X11_mean) 78 = .ok (.lstore 4, 2) := by decide +kernel
theorem d_X11_mean_80 : decode (zmc m_X11_mean) 80 = .ok (.iinc 6 1, 3) := by decide +kernel
theorem d_X11_mean_83 : decode (zmc m_X11_mean) 83 = .ok (.goto (-31), 3) := by decide +kernel
theorem d_X11_mean_86 : decode (zmc m_X11_mean) 86 = .ok (.lload 4, 2) := by decide +kernel
theorem d_X11_mean_88 : decode (zmc m_X11_mean) 88 = .ok (.ldc2_w 183, 3) := by decide +kernel
theorem d_X11_mean_91 : decode (zmc m_X11_mean) 91 = .ok (.iload_n 2, 1) := by decide +kernel
theorem d_X11_mean_92 : decode (zmc m_X11_mean) 92 = .ok (.invokestatic 185, 3) := by decide +kernel
theorem d_X11_mean_95 : decode (zmc m_X11_mean) 95 = .ok (.lreturn, 1) := by decide +kernel
/-! WHAT A WATCH ANSWERS, PLANS AND NIGHTS -/
section S35
variable {g : zG} {l : Launch} {d : Nat} {I : Nat → Nat → Int32} {L : Nat → Nat → Int64} {fs : Nat × Nat × Option Nat} {ns nt nh h h2 : Nat} {o : Option Nat}
theorem zMul_congr {O P : Nat → Int32} {n : Nat} (e : ∀ i, i < n → O i = P i) : zMul O n = zMul P n := by
  unfold zMul
  exact zfor_congr (fun j t _ hj => by rw [e j hj])
theorem zSum_congr {O P : Nat → Int32} {n : Nat} (e : ∀ i, i < n → O i = P i) : zSum O n = zSum P n := by
  unfold zSum
  exact zfor_congr (fun j t _ hj => by rw [e j hj])
theorem sp_X11_likely0 {i w0 : Int32} (hd : 2 ≤ d) (hi : ¬ (0 ≤ i ∧ i < 6)) : zPure g l d m_X11_likely [.ref 0, .int i, .int w0] I L fs (.long (-9223372036854775808)) := by
  refine zSp_of (lv := [(0, .ref 0), (1, .int i), (2, .int w0)]) k_X11_likely rfl (Nat.le_of_ble_eq_true rfl) ?_
  refine zAloadN d_X11_likely_0 rfl rfl (q := 1) rfl ?_
  refine zIloadN d_X11_likely_1 rfl rfl (q := 2) rfl ?_
  refine zCallVP d_X11_likely_2 ml_X11_95 k_X11_shelfAt ki_X11_shelfAt ks_X11_shelfAt (sp_shelf0 (d := d - 1) (by omega) hi) rfl rfl sh_0 (by decide) rfl (by decide) (Nat.le_of_ble_eq_true rfl) (by decide) (by omega) zns100 (q := 5) rfl ?_
  refine zAstoreNN d_X11_likely_5 rfl (by decide) rfl (q := 6) rfl ?_
  refine zAloadNN d_X11_likely_6 rfl rfl (q := 7) rfl ?_
  refine zIfnull0 d_X11_likely_7 (q := 26) (by decide) ?_
  refine zLdc2 d_X11_likely_26 co_X11_178 (q := 29) rfl ?_
  refine zLret d_X11_likely_29 rfl rfl ?_
  exact ⟨rfl, rfl⟩
theorem sp_X11_likely {k m : Nat} {w0 : Int32} (hd : 7 ≤ d) (hK : zSky I ns nt nh) (hk : k < 6) (hm : I (42 + 2 * k) 2 = nI m) (hm2 : m ≤ 60) (hh : h = 54 ∨ h = 59) {pg : Option (List zLine)} (hlw : zLawOk I h pg) : zSp g l d 100 m_X11_likely [.ref 0, .int (nI k), .int w0] (zU I L (h, h2, o)) (fun v w =>
    (¬ (I (42 + 2 * k) 1 = 0 ∧ 0 ≤ w0 ∧ w0 ≤ 1) ∧ v = some (.long (-9223372036854775808)) ∧ w = zU I L (h, h2, o)) ∨
    ((I (42 + 2 * k) 1 = 0 ∧ 0 ≤ w0 ∧ w0 ≤ 1) ∧ v = some (.long (zPart (zMul (zPod I L ns (42 + 2 * k) pg) (zPn I L ns nt nh (42 + 2 * k))) (zTwl (zPn I L ns nt nh (42 + 2 * k))) w0)) ∧ ∃ J, w = zU J L (h, h2, o) ∧ zPJ I L ns (42 + 2 * k) h pg (zPn I L ns nt nh (42 + 2 * k)) J)) := by
  have hsh := zshf hk
  obtain ⟨n, hn⟩ : ∃ n, n = zPn I L ns nt nh (42 + 2 * k) := ⟨_, rfl⟩
  have hn10 : n ≤ 10 := by rw [hn]; exact (zrun_spec (zPok I L ns nt nh (42 + 2 * k)) 10 0 (Nat.zero_le _)).2.1
  have loop : ∀ J, zPJ I L ns (42 + 2 * k) h pg n J → (I (42 + 2 * k) 1 = 0 ∧ 0 ≤ w0 ∧ w0 ≤ 1) → ∀ i, i ≤ n → ∀ s t : Int64, zfor (fun k s => s * (J 27 k).toInt64) n i s = zMul (J 27) n → zfor (fun _ s => s * 12) n i t = zTwl n → zA g l d m_X11_likely J L (h, h2, o) 55 [(8, .int (nI i)), (6, .long t), (4, .long s), (0, .ref 0), (2, .int w0)] (fun v w =>
    (¬ (I (42 + 2 * k) 1 = 0 ∧ 0 ≤ w0 ∧ w0 ≤ 1) ∧ v = some (.long (-9223372036854775808)) ∧ w = zU I L (h, h2, o)) ∨
    ((I (42 + 2 * k) 1 = 0 ∧ 0 ≤ w0 ∧ w0 ≤ 1) ∧ v = some (.long (zPart (zMul (zPod I L ns (42 + 2 * k) pg) n) (zTwl n) w0)) ∧ ∃ J, w = zU J L (h, h2, o) ∧ zPJ I L ns (42 + 2 * k) h pg n J)) := by
    intro J hJ hc
    have hJ0 := hJ
    obtain ⟨hJo, ⟨hJ4, hJ5, hJ6⟩, hJf, hJi⟩ := hJ0
    have eO : zMul (J 27) n = zMul (zPod I L ns (42 + 2 * k) pg) n := zMul_congr (fun i hi => (hJi i hi).2.2)
    refine zloop n (fun i hi ih s t hs ht => ?_)
    refine zIload d_X11_likely_55 rfl (q := 57) rfl ?_
    refine zAloadN d_X11_likely_57 rfl rfl (q := 58) rfl ?_
    refine zGetR d_X11_likely_58 ff_X11_42 sh_0 (by decide) r_0_4 (q := 61) rfl ?_
    refine zGetI d_X11_likely_61 ff_X11_171 sh_24 (by decide) (q := 64) rfl ?_
    rw [hJ4]
    refine zIcmp_ge d_X11_likely_64 (tgt := 97) (q := 67) (by decide) rfl (fun h64 => ?_) (fun h64 => ?_)
    · have e := nle h64
      rw [zfor_end e] at hs ht
      refine zLload d_X11_likely_97 rfl (q := 99) rfl ?_
      refine zLload d_X11_likely_99 rfl (q := 101) rfl ?_
      refine zIloadN d_X11_likely_101 rfl rfl (q := 102) rfl ?_
      refine zCallSP d_X11_likely_102 ml_X11_185 k_X11_partOf kt_X11_partOf (sp_X11_partOf (d := d - 1) (by omega) ) rfl rfl (Nat.le_of_ble_eq_true rfl) (by decide) (by omega) zns100 (q := 105) rfl ?_
      refine zLret d_X11_likely_105 rfl rfl ?_
      exact Or.inr ⟨hc, by rw [hs, ht, eO], J, rfl, hJ⟩
    · have hlt := nnle h64
      rw [zfor_step hlt] at hs ht
      refine zLload d_X11_likely_67 rfl (q := 69) rfl ?_
      refine zAloadN d_X11_likely_69 rfl rfl (q := 70) rfl ?_
      refine zGetR d_X11_likely_70 ff_X11_42 sh_0 (by decide) r_0_4 (q := 73) rfl ?_
      refine zGetR d_X11_likely_73 ff_X11_180 sh_24 (by decide) r_24_2 (q := 76) rfl ?_
      refine zIload d_X11_likely_76 rfl (q := 78) rfl ?_
      refine zIald d_X11_likely_78 sh_27 (by decide) rfl (by omega) (q := 79) rfl ?_
      refine zI2l d_X11_likely_79 (q := 80) rfl ?_
      refine zLmul d_X11_likely_80 (q := 81) rfl ?_
      refine zLstore d_X11_likely_81 (by decide) rfl (q := 83) rfl ?_
      refine zLload d_X11_likely_83 rfl (q := 85) rfl ?_
      refine zLdc2 d_X11_likely_85 co_X11_183 (q := 88) rfl ?_
      refine zLmul d_X11_likely_88 (q := 89) rfl ?_
      refine zLstore d_X11_likely_89 (by decide) rfl (q := 91) rfl ?_
      refine zIinc d_X11_likely_91 rfl (zinc _) (by decide) rfl (q := 94) rfl ?_
      refine zGoto d_X11_likely_94 (q := 55) (by decide) ?_
      refine zSub [0, 1, 2, 3, 4] rfl ?_
      exact ih hlt _ _ hs ht
  rw [← hn]
  refine zSp_of (lv := [(0, .ref 0), (1, .int (nI k)), (2, .int w0)]) k_X11_likely rfl (Nat.le_of_ble_eq_true rfl) ?_
  refine zAloadN d_X11_likely_0 rfl rfl (q := 1) rfl ?_
  refine zIloadN d_X11_likely_1 rfl rfl (q := 2) rfl ?_
  refine zCallVP d_X11_likely_2 ml_X11_95 k_X11_shelfAt ki_X11_shelfAt ks_X11_shelfAt (sp_shelf (d := d - 1) (by omega) hk) rfl rfl sh_0 (by decide) rfl (by decide) (Nat.le_of_ble_eq_true rfl) (by decide) (by omega) zns100 (q := 5) rfl ?_
  refine zAstoreN d_X11_likely_5 rfl (by decide) rfl (q := 6) rfl ?_
  refine zAloadN d_X11_likely_6 rfl rfl (q := 7) rfl ?_
  refine zIfnull d_X11_likely_7 (q := 10) rfl ?_
  refine zAloadN d_X11_likely_10 rfl rfl (q := 11) rfl ?_
  refine zCallVP d_X11_likely_11 ml_X11_103 k_X8_isBytes ki_X8_isBytes ks_X8_isBytes (sp_X8_isBytes (d := d - 1) (by omega) hsh) rfl rfl hsh.1 (by decide) rfl (Nat.lt_of_succ_lt hsh.2.2.1) (Nat.le_of_ble_eq_true rfl) (by decide) (by omega) zns100 (q := 14) rfl ?_
  refine zIf_eq d_X11_likely_14 (tgt := 26) (q := 17) (by decide) rfl (fun h14 => ?_) (fun h14 => ?_)
  · have hno : ¬ (I (42 + 2 * k) 1 = 0 ∧ 0 ≤ w0 ∧ w0 ≤ 1) := fun q => bi_0.mp h14 q.1
    refine zLdc2 d_X11_likely_26 co_X11_178 (q := 29) rfl ?_
    refine zLret d_X11_likely_29 rfl rfl ?_
    exact Or.inl ⟨hno, rfl, rfl⟩
  · refine zIloadN d_X11_likely_17 rfl rfl (q := 18) rfl ?_
    refine zIf_lt d_X11_likely_18 (tgt := 26) (q := 21) (by decide) rfl (fun h18 => ?_) (fun h18 => ?_)
    · have hno : ¬ (I (42 + 2 * k) 1 = 0 ∧ 0 ≤ w0 ∧ w0 ≤ 1) := fun q => Int32.not_lt.mpr q.2.1 h18
      refine zLdc2 d_X11_likely_26 co_X11_178 (q := 29) rfl ?_
      refine zLret d_X11_likely_29 rfl rfl ?_
      exact Or.inl ⟨hno, rfl, rfl⟩
    · refine zIloadN d_X11_likely_21 rfl rfl (q := 22) rfl ?_
      refine zIconst d_X11_likely_22 (v := 1) ic_1 (q := 23) rfl ?_
      refine zIcmp_le d_X11_likely_23 (tgt := 30) (q := 26) (by decide) rfl (fun h23 => ?_) (fun h23 => ?_)
      · have hyes : I (42 + 2 * k) 1 = 0 ∧ 0 ≤ w0 ∧ w0 ≤ 1 := And.intro (bi_n0.mp h14) (And.intro (Int32.not_lt.mp h18) h23)
        refine zAloadN d_X11_likely_30 rfl rfl (q := 31) rfl ?_
        refine zGetR d_X11_likely_31 ff_X11_42 sh_0 (by decide) r_0_4 (q := 34) rfl ?_
        refine zAloadN d_X11_likely_34 rfl rfl (q := 35) rfl ?_
        refine zAloadN d_X11_likely_35 rfl rfl (q := 36) rfl ?_
        refine zGetR d_X11_likely_36 ff_X11_10 sh_0 (by decide) r_0_0 (q := 39) rfl ?_
        refine zAloadN d_X11_likely_39 rfl rfl (q := 40) rfl ?_
        refine zGetR d_X11_likely_40 ff_X11_84 sh_0 (by decide) rfl (q := 43) rfl ?_
        refine zCallVV d_X11_likely_43 ml_X11_163 k_X7_read ki_X7_read ks_X7_read (sp_X7_read (d := d - 1) (by omega) hK hsh (by omega) (by omega) hm hm2 hh hlw) rfl rfl sh_24 (by decide) rfl (by decide) (Nat.le_of_ble_eq_true rfl) (by decide) (by omega) zns100 (q := 46) rfl (fun w' hw' => ?_)
        obtain ⟨J, rfl, hJ⟩ := hw'
        rw [← hn] at hJ
        refine zLconst d_X11_likely_46 (v := 1) rfl (q := 47) rfl ?_
        refine zLstore d_X11_likely_47 (by decide) rfl (q := 49) rfl ?_
        refine zLconst d_X11_likely_49 (v := 1) rfl (q := 50) rfl ?_
        refine zLstore d_X11_likely_50 (by decide) rfl (q := 52) rfl ?_
        refine zIconst d_X11_likely_52 (v := 0) ic_0 (q := 53) rfl ?_
        refine zIstore d_X11_likely_53 (by decide) rfl (q := 55) rfl ?_
        refine zSub [0, 1, 2, 4, 6] rfl ?_
        exact loop J hJ hyes 0 (Nat.zero_le _) 1 1 rfl rfl
      · have hno : ¬ (I (42 + 2 * k) 1 = 0 ∧ 0 ≤ w0 ∧ w0 ≤ 1) := fun q => h23 q.2.2
        refine zLdc2 d_X11_likely_26 co_X11_178 (q := 29) rfl ?_
        refine zLret d_X11_likely_29 rfl rfl ?_
        exact Or.inl ⟨hno, rfl, rfl⟩
theorem sp_X11_mean0 {i w0 : Int32} (hd : 2 ≤ d) (hi : ¬ (0 ≤ i ∧ i < 6)) : zPure g l d m_X11_mean [.ref 0, .int i, .int w0] I L fs (.long (-9223372036854775808)) := by
  refine zSp_of (lv := [(0, .ref 0), (1, .int i), (2, .int w0)]) k_X11_mean rfl (Nat.le_of_ble_eq_true rfl) ?_
  refine zAloadN d_X11_mean_0 rfl rfl (q := 1) rfl ?_
  refine zIloadN d_X11_mean_1 rfl rfl (q := 2) rfl ?_
  refine zCallVP d_X11_mean_2 ml_X11_95 k_X11_shelfAt ki_X11_shelfAt ks_X11_shelfAt (sp_shelf0 (d := d - 1) (by omega) hi) rfl rfl sh_0 (by decide) rfl (by decide) (Nat.le_of_ble_eq_true rfl) (by decide) (by omega) zns100 (q := 5) rfl ?_
  refine zAstoreNN d_X11_mean_5 rfl (by decide) rfl (q := 6) rfl ?_
  refine zAloadNN d_X11_mean_6 rfl rfl (q := 7) rfl ?_
  refine zIfnull0 d_X11_mean_7 (q := 26) (by decide) ?_
  refine zLdc2 d_X11_mean_26 co_X11_178 (q := 29) rfl ?_
  refine zLret d_X11_mean_29 rfl rfl ?_
  exact ⟨rfl, rfl⟩
theorem sp_X11_mean {k m : Nat} {w0 : Int32} (hd : 7 ≤ d) (hK : zSky I ns nt nh) (hk : k < 6) (hm : I (42 + 2 * k) 2 = nI m) (hm2 : m ≤ 60) (hh : h = 54 ∨ h = 59) {pg : Option (List zLine)} (hlw : zLawOk I h pg) : zSp g l d 100 m_X11_mean [.ref 0, .int (nI k), .int w0] (zU I L (h, h2, o)) (fun v w =>
    (¬ (I (42 + 2 * k) 1 = 0 ∧ 0 ≤ w0 ∧ w0 ≤ 1) ∧ v = some (.long (-9223372036854775808)) ∧ w = zU I L (h, h2, o)) ∨
    ((I (42 + 2 * k) 1 = 0 ∧ 0 ≤ w0 ∧ w0 ≤ 1) ∧ v = some (.long (zPart (zSum (zPod I L ns (42 + 2 * k) pg) (zPn I L ns nt nh (42 + 2 * k))) 12 w0)) ∧ ∃ J, w = zU J L (h, h2, o) ∧ zPJ I L ns (42 + 2 * k) h pg (zPn I L ns nt nh (42 + 2 * k)) J)) := by
  have hsh := zshf hk
  obtain ⟨n, hn⟩ : ∃ n, n = zPn I L ns nt nh (42 + 2 * k) := ⟨_, rfl⟩
  have hn10 : n ≤ 10 := by rw [hn]; exact (zrun_spec (zPok I L ns nt nh (42 + 2 * k)) 10 0 (Nat.zero_le _)).2.1
  have loop : ∀ J, zPJ I L ns (42 + 2 * k) h pg n J → (I (42 + 2 * k) 1 = 0 ∧ 0 ≤ w0 ∧ w0 ≤ 1) → ∀ i, i ≤ n → ∀ s : Int64, zfor (fun k s => s + (J 27 k).toInt64) n i s = zSum (J 27) n → zA g l d m_X11_mean J L (h, h2, o) 52 [(6, .int (nI i)), (4, .long s), (0, .ref 0), (2, .int w0)] (fun v w =>
    (¬ (I (42 + 2 * k) 1 = 0 ∧ 0 ≤ w0 ∧ w0 ≤ 1) ∧ v = some (.long (-9223372036854775808)) ∧ w = zU I L (h, h2, o)) ∨
    ((I (42 + 2 * k) 1 = 0 ∧ 0 ≤ w0 ∧ w0 ≤ 1) ∧ v = some (.long (zPart (zSum (zPod I L ns (42 + 2 * k) pg) n) 12 w0)) ∧ ∃ J, w = zU J L (h, h2, o) ∧ zPJ I L ns (42 + 2 * k) h pg n J)) := by
    intro J hJ hc
    have hJ0 := hJ
    obtain ⟨hJo, ⟨hJ4, hJ5, hJ6⟩, hJf, hJi⟩ := hJ0
    have eO : zSum (J 27) n = zSum (zPod I L ns (42 + 2 * k) pg) n := zSum_congr (fun i hi => (hJi i hi).2.2)
    refine zloop n (fun i hi ih s hs => ?_)
    refine zIload d_X11_mean_52 rfl (q := 54) rfl ?_
    refine zAloadN d_X11_mean_54 rfl rfl (q := 55) rfl ?_
    refine zGetR d_X11_mean_55 ff_X11_42 sh_0 (by decide) r_0_4 (q := 58) rfl ?_
    refine zGetI d_X11_mean_58 ff_X11_171 sh_24 (by decide) (q := 61) rfl ?_
    rw [hJ4]
    refine zIcmp_ge d_X11_mean_61 (tgt := 86) (q := 64) (by decide) rfl (fun h61 => ?_) (fun h61 => ?_)
    · have e := nle h61
      rw [zfor_end e] at hs
      refine zLload d_X11_mean_86 rfl (q := 88) rfl ?_
      refine zLdc2 d_X11_mean_88 co_X11_183 (q := 91) rfl ?_
      refine zIloadN d_X11_mean_91 rfl rfl (q := 92) rfl ?_
      refine zCallSP d_X11_mean_92 ml_X11_185 k_X11_partOf kt_X11_partOf (sp_X11_partOf (d := d - 1) (by omega) ) rfl rfl (Nat.le_of_ble_eq_true rfl) (by decide) (by omega) zns100 (q := 95) rfl ?_
      refine zLret d_X11_mean_95 rfl rfl ?_
      exact Or.inr ⟨hc, by rw [hs, eO], J, rfl, hJ⟩
    · have hlt := nnle h61
      rw [zfor_step hlt] at hs
      refine zLload d_X11_mean_64 rfl (q := 66) rfl ?_
      refine zAloadN d_X11_mean_66 rfl rfl (q := 67) rfl ?_
      refine zGetR d_X11_mean_67 ff_X11_42 sh_0 (by decide) r_0_4 (q := 70) rfl ?_
      refine zGetR d_X11_mean_70 ff_X11_180 sh_24 (by decide) r_24_2 (q := 73) rfl ?_
      refine zIload d_X11_mean_73 rfl (q := 75) rfl ?_
      refine zIald d_X11_mean_75 sh_27 (by decide) rfl (by omega) (q := 76) rfl ?_
      refine zI2l d_X11_mean_76 (q := 77) rfl ?_
      refine zLadd d_X11_mean_77 (q := 78) rfl ?_
      refine zLstore d_X11_mean_78 (by decide) rfl (q := 80) rfl ?_
      refine zIinc d_X11_mean_80 rfl (zinc _) (by decide) rfl (q := 83) rfl ?_
      refine zGoto d_X11_mean_83 (q := 52) (by decide) ?_
      refine zSub [0, 1, 2, 3] rfl ?_
      exact ih hlt _ hs
  rw [← hn]
  refine zSp_of (lv := [(0, .ref 0), (1, .int (nI k)), (2, .int w0)]) k_X11_mean rfl (Nat.le_of_ble_eq_true rfl) ?_
  refine zAloadN d_X11_mean_0 rfl rfl (q := 1) rfl ?_
  refine zIloadN d_X11_mean_1 rfl rfl (q := 2) rfl ?_
  refine zCallVP d_X11_mean_2 ml_X11_95 k_X11_shelfAt ki_X11_shelfAt ks_X11_shelfAt (sp_shelf (d := d - 1) (by omega) hk) rfl rfl sh_0 (by decide) rfl (by decide) (Nat.le_of_ble_eq_true rfl) (by decide) (by omega) zns100 (q := 5) rfl ?_
  refine zAstoreN d_X11_mean_5 rfl (by decide) rfl (q := 6) rfl ?_
  refine zAloadN d_X11_mean_6 rfl rfl (q := 7) rfl ?_
  refine zIfnull d_X11_mean_7 (q := 10) rfl ?_
  refine zAloadN d_X11_mean_10 rfl rfl (q := 11) rfl ?_
  refine zCallVP d_X11_mean_11 ml_X11_103 k_X8_isBytes ki_X8_isBytes ks_X8_isBytes (sp_X8_isBytes (d := d - 1) (by omega) hsh) rfl rfl hsh.1 (by decide) rfl (Nat.lt_of_succ_lt hsh.2.2.1) (Nat.le_of_ble_eq_true rfl) (by decide) (by omega) zns100 (q := 14) rfl ?_
  refine zIf_eq d_X11_mean_14 (tgt := 26) (q := 17) (by decide) rfl (fun h14 => ?_) (fun h14 => ?_)
  · have hno : ¬ (I (42 + 2 * k) 1 = 0 ∧ 0 ≤ w0 ∧ w0 ≤ 1) := fun q => bi_0.mp h14 q.1
    refine zLdc2 d_X11_mean_26 co_X11_178 (q := 29) rfl ?_
    refine zLret d_X11_mean_29 rfl rfl ?_
    exact Or.inl ⟨hno, rfl, rfl⟩
  · refine zIloadN d_X11_mean_17 rfl rfl (q := 18) rfl ?_
    refine zIf_lt d_X11_mean_18 (tgt := 26) (q := 21) (by decide) rfl (fun h18 => ?_) (fun h18 => ?_)
    · have hno : ¬ (I (42 + 2 * k) 1 = 0 ∧ 0 ≤ w0 ∧ w0 ≤ 1) := fun q => Int32.not_lt.mpr q.2.1 h18
      refine zLdc2 d_X11_mean_26 co_X11_178 (q := 29) rfl ?_
      refine zLret d_X11_mean_29 rfl rfl ?_
      exact Or.inl ⟨hno, rfl, rfl⟩
    · refine zIloadN d_X11_mean_21 rfl rfl (q := 22) rfl ?_
      refine zIconst d_X11_mean_22 (v := 1) ic_1 (q := 23) rfl ?_
      refine zIcmp_le d_X11_mean_23 (tgt := 30) (q := 26) (by decide) rfl (fun h23 => ?_) (fun h23 => ?_)
      · have hyes : I (42 + 2 * k) 1 = 0 ∧ 0 ≤ w0 ∧ w0 ≤ 1 := And.intro (bi_n0.mp h14) (And.intro (Int32.not_lt.mp h18) h23)
        refine zAloadN d_X11_mean_30 rfl rfl (q := 31) rfl ?_
        refine zGetR d_X11_mean_31 ff_X11_42 sh_0 (by decide) r_0_4 (q := 34) rfl ?_
        refine zAloadN d_X11_mean_34 rfl rfl (q := 35) rfl ?_
        refine zAloadN d_X11_mean_35 rfl rfl (q := 36) rfl ?_
        refine zGetR d_X11_mean_36 ff_X11_10 sh_0 (by decide) r_0_0 (q := 39) rfl ?_
        refine zAloadN d_X11_mean_39 rfl rfl (q := 40) rfl ?_
        refine zGetR d_X11_mean_40 ff_X11_84 sh_0 (by decide) rfl (q := 43) rfl ?_
        refine zCallVV d_X11_mean_43 ml_X11_163 k_X7_read ki_X7_read ks_X7_read (sp_X7_read (d := d - 1) (by omega) hK hsh (by omega) (by omega) hm hm2 hh hlw) rfl rfl sh_24 (by decide) rfl (by decide) (Nat.le_of_ble_eq_true rfl) (by decide) (by omega) zns100 (q := 46) rfl (fun w' hw' => ?_)
        obtain ⟨J, rfl, hJ⟩ := hw'
        rw [← hn] at hJ
        refine zLconst d_X11_mean_46 (v := 0) rfl (q := 47) rfl ?_
        refine zLstore d_X11_mean_47 (by decide) rfl (q := 49) rfl ?_
        refine zIconst d_X11_mean_49 (v := 0) ic_0 (q := 50) rfl ?_
        refine zIstore d_X11_mean_50 (by decide) rfl (q := 52) rfl ?_
        refine zSub [0, 1, 3, 5] rfl ?_
        exact loop J hJ hyes 0 (Nat.zero_le _) 0 rfl
      · have hno : ¬ (I (42 + 2 * k) 1 = 0 ∧ 0 ≤ w0 ∧ w0 ≤ 1) := fun q => h23 q.2.2
        refine zLdc2 d_X11_mean_26 co_X11_178 (q := 29) rfl ?_
        refine zLret d_X11_mean_29 rfl rfl ?_
        exact Or.inl ⟨hno, rfl, rfl⟩
/-- a throw flung by someone to a star, at odds o -/
def zFlI (I : Nat → Nat → Int32) (s t : Nat) (x z : Int32) : Nat → Nat → Int32 :=
  let A := zup I 14 (zup (I 14) 0 z)
  let B := zup A 7 (zup (A 7) s x)
  let C := zup B 15 (zup (B 15) 0 (B 15 0 + 1))
  let D := zup C 15 (zup (C 15) 1 (C 15 1 + x))
  zGoOn D (D 10 t)
theorem sp_X11_fling0 (hd : 4 ≤ d) (hK : zSky I ns nt nh) {st : Int32} (hc : ¬ zThr ns nt st) : zPure g l d m_X11_fling [.ref 0, .int st] I L fs (.int (-1)) := by
  refine zSp_of (lv := [(0, .ref 0), (1, .int st)]) k_X11_fling rfl (Nat.le_of_ble_eq_true rfl) ?_
  refine zAloadN d_X11_fling_0 rfl rfl (q := 1) rfl ?_
  refine zGetR d_X11_fling_1 ff_X11_10 sh_0 (by decide) r_0_0 (q := 4) rfl ?_
  refine zIloadN d_X11_fling_4 rfl rfl (q := 5) rfl ?_
  refine zCallVP d_X11_fling_5 ml_X11_152 k_X9_isThrow ki_X9_isThrow ks_X9_isThrow (sp_X9_isThrow (d := d - 1) (by omega) hK) rfl rfl sh_1 (by decide) rfl (by decide) (Nat.le_of_ble_eq_true rfl) (by decide) (by omega) zns100 (q := 8) rfl ?_
  refine zIf_ne d_X11_fling_8 (tgt := 13) (q := 11) (by decide) rfl (fun h => absurd h (fun q => hc (bi_n0.mp q))) (fun h8 => ?_)
  refine zIconst d_X11_fling_11 (v := -1) ic_m1 (q := 12) rfl ?_
  refine zIret d_X11_fling_12 rfl rfl rfl ?_
  exact zPi rfl
theorem sp_X11_fling (hd : 7 ≤ d) (hK : zSky I ns nt nh) (hh : h = 54 ∨ h = 59) {pg : Option (List zLine)} (hlw : zLawOk I h pg) {st : Int32} (hc : zThr ns nt st) {s t : Nat} (hs : s < ns) (ht : t < nt) (e1 : st / 10 = nI s) (e2 : st - st / 10 * 10 = nI t) : zSp g l d 100 m_X11_fling [.ref 0, .int st] (zU I L (h, h2, o)) (zX (fun x w =>
      (¬ (I 7 s = 0 ∧ I 8 s = 0) ∧ x = -5 ∧ w = zU I L (h, h2, o)) ∨ ((I 7 s = 0 ∧ I 8 s = 0) ∧ x = bi (zDraw (zNx (I 14 0)) < zOdds pg (zEn I s t (I 12 0))) ∧
        ∃ K, (∀ a, a ≠ h + 4 → a ≠ h + 3 → K a = I a) ∧ w = zU (zFlI K s t x (zNx (I 14 0))) L (h, h2, o)))) := by
  have hw : zLwf h := by rcases hh with rfl | rfl; exact zlw54; exact zlw59
  have hh54 : 54 ≤ h := by omega
  refine zSp_of (lv := [(0, .ref 0), (1, .int st)]) k_X11_fling rfl (Nat.le_of_ble_eq_true rfl) ?_
  refine zAloadN d_X11_fling_0 rfl rfl (q := 1) rfl ?_
  refine zGetR d_X11_fling_1 ff_X11_10 sh_0 (by decide) r_0_0 (q := 4) rfl ?_
  refine zIloadN d_X11_fling_4 rfl rfl (q := 5) rfl ?_
  refine zCallVP d_X11_fling_5 ml_X11_152 k_X9_isThrow ki_X9_isThrow ks_X9_isThrow (sp_X9_isThrow (d := d - 1) (by omega) hK) rfl rfl sh_1 (by decide) rfl (by decide) (Nat.le_of_ble_eq_true rfl) (by decide) (by omega) zns100 (q := 8) rfl ?_
  refine zIf_ne d_X11_fling_8 (tgt := 13) (q := 11) (by decide) rfl (fun h8 => ?_) (fun h => absurd h (fun q => bi_0.mp q hc))
  refine zIloadN d_X11_fling_13 rfl rfl (q := 14) rfl ?_
  refine zBipush d_X11_fling_14 (v := 10) bc_10 (q := 16) rfl ?_
  refine zIdiv d_X11_fling_16 (by decide) (q := 17) rfl ?_
  rw [e1]
  refine zIstoreN d_X11_fling_17 rfl (by decide) rfl (q := 18) rfl ?_
  refine zIloadN d_X11_fling_18 rfl rfl (q := 19) rfl ?_
  refine zBipush d_X11_fling_19 (v := 10) bc_10 (q := 21) rfl ?_
  refine zIrem d_X11_fling_21 (by decide) (q := 22) rfl ?_
  rw [e2]
  refine zIstoreN d_X11_fling_22 rfl (by decide) rfl (q := 23) rfl ?_
  refine zAloadN d_X11_fling_23 rfl rfl (q := 24) rfl ?_
  refine zGetR d_X11_fling_24 ff_X11_10 sh_0 (by decide) r_0_0 (q := 27) rfl ?_
  refine zIconst d_X11_fling_27 (v := 4) ic_4 (q := 28) rfl ?_
  refine zIloadN d_X11_fling_28 rfl rfl (q := 29) rfl ?_
  refine zCallVP d_X11_fling_29 ml_X11_128 k_X9_get ki_X9_get ks_X9_get (sp_get4 (d := d - 1) (by omega) hK hs) rfl rfl sh_1 (by decide) rfl (by decide) (Nat.le_of_ble_eq_true rfl) (by decide) (by omega) zns100 (q := 32) rfl ?_
  refine zIf_ne d_X11_fling_32 (tgt := 47) (q := 35) (by decide) rfl (fun h32 => ?_) (fun h32 => ?_)
  · have hno : ¬ (I 7 s = 0 ∧ I 8 s = 0) := fun q => h32 q.1
    refine zBipush d_X11_fling_47 (v := -5) bc_m5 (q := 49) rfl ?_
    refine zIret d_X11_fling_49 rfl rfl rfl ?_
    exact ⟨_, rfl, Or.inl ⟨hno, rfl, rfl⟩⟩
  · refine zAloadN d_X11_fling_35 rfl rfl (q := 36) rfl ?_
    refine zGetR d_X11_fling_36 ff_X11_10 sh_0 (by decide) r_0_0 (q := 39) rfl ?_
    refine zIconst d_X11_fling_39 (v := 5) ic_5 (q := 40) rfl ?_
    refine zIloadN d_X11_fling_40 rfl rfl (q := 41) rfl ?_
    refine zCallVP d_X11_fling_41 ml_X11_128 k_X9_get ki_X9_get ks_X9_get (sp_get5 (d := d - 1) (by omega) hK hs) rfl rfl sh_1 (by decide) rfl (by decide) (Nat.le_of_ble_eq_true rfl) (by decide) (by omega) zns100 (q := 44) rfl ?_
    refine zIf_eq d_X11_fling_44 (tgt := 50) (q := 47) (by decide) rfl (fun h44 => ?_) (fun h44 => ?_)
    · have hyes : I 7 s = 0 ∧ I 8 s = 0 := And.intro (by simpa using h32) h44
      refine zAloadN d_X11_fling_50 rfl rfl (q := 51) rfl ?_
      refine zIloadN d_X11_fling_51 rfl rfl (q := 52) rfl ?_
      refine zIloadN d_X11_fling_52 rfl rfl (q := 53) rfl ?_
      refine zCallVX d_X11_fling_53 ml_X11_156 k_X11_oddsNow ki_X11_oddsNow ks_X11_oddsNow (sp_X11_oddsNow (d := d - 1) (by omega) hK hw hlw hs ht) rfl rfl sh_0 (by decide) rfl (by decide) (Nat.le_of_ble_eq_true rfl) (by decide) (by omega) zns100 (q := 56) rfl (fun x w' hw' => ?_)
      obtain ⟨hx, F, G, rfl⟩ := hw'
      obtain ⟨K, hKe⟩ : ∃ K, K = zup (zup I (h + 4) F) (h + 3) G := ⟨_, rfl⟩
      refine zCastI hKe ?_
      have hKf : ∀ a, a ≠ h + 4 → a ≠ h + 3 → K a = I a := fun a q1 q2 => by rw [hKe, zup_ne q2, zup_ne q1]
      have hK1 : zSky K ns nt nh := zSky_of (hKf 1 (by omega) (by omega)) hK
      refine zIstore d_X11_fling_56 (by decide) rfl (q := 58) rfl ?_
      refine zAloadN d_X11_fling_58 rfl rfl (q := 59) rfl ?_
      refine zGetR d_X11_fling_59 ff_X11_10 sh_0 (by decide) r_0_0 (q := 62) rfl ?_
      refine zBipush d_X11_fling_62 (v := 11) bc_11 (q := 64) rfl ?_
      refine zIconst d_X11_fling_64 (v := 0) ic_0 (q := 65) rfl ?_
      refine zCallVP d_X11_fling_65 ml_X11_128 k_X9_get ki_X9_get ks_X9_get (sp_get11 (d := d - 1) (by omega) hK1) rfl rfl sh_1 (by decide) rfl (by decide) (Nat.le_of_ble_eq_true rfl) (by decide) (by omega) zns100 (q := 68) rfl ?_
      refine zCallSP d_X11_fling_68 ml_X11_278 k_X7_next kt_X7_next (sp_X7_next (d := d - 1) (by omega) ) rfl rfl (Nat.le_of_ble_eq_true rfl) (by decide) (by omega) zns100 (q := 71) rfl ?_
      rw [hKf 14 (by omega) (by omega)]
      refine zIstore d_X11_fling_71 (by decide) rfl (q := 73) rfl ?_
      refine zIload d_X11_fling_73 rfl (q := 75) rfl ?_
      refine zIload d_X11_fling_75 rfl (q := 77) rfl ?_
      refine zCallSP d_X11_fling_77 ml_X11_281 k_X7_sticks kt_X7_sticks (sp_X7_sticks (d := d - 1) (by omega) ) rfl rfl (Nat.le_of_ble_eq_true rfl) (by decide) (by omega) zns100 (q := 80) rfl ?_
      refine zIf_eq d_X11_fling_80 (tgt := 87) (q := 83) (by decide) rfl (fun h80 => ?_) (fun h80 => ?_)
      · have hxx : (0 : Int32) = bi (zDraw (zNx (I 14 0)) < zOdds pg (zEn I s t (I 12 0))) := by rw [← hx, h80]
        refine zIconst d_X11_fling_87 (v := 0) ic_0 (q := 88) rfl ?_
        refine zIstore d_X11_fling_88 (by decide) rfl (q := 90) rfl ?_
        refine zAloadN d_X11_fling_90 rfl rfl (q := 91) rfl ?_
        refine zGetR d_X11_fling_91 ff_X11_10 sh_0 (by decide) r_0_0 (q := 94) rfl ?_
        refine zBipush d_X11_fling_94 (v := 11) bc_11 (q := 96) rfl ?_
        refine zIconst d_X11_fling_96 (v := 0) ic_0 (q := 97) rfl ?_
        refine zIload d_X11_fling_97 rfl (q := 99) rfl ?_
        refine zCallVV d_X11_fling_99 ml_X11_132 k_X9_set ki_X9_set ks_X9_set (sp_set11 (d := d - 1) (by omega) hK1) rfl rfl sh_1 (by decide) rfl (by decide) (Nat.le_of_ble_eq_true rfl) (by decide) (by omega) zns100 (q := 102) rfl (fun w' hw' => ?_)
        subst hw'
        refine zAloadN d_X11_fling_102 rfl rfl (q := 103) rfl ?_
        refine zGetR d_X11_fling_103 ff_X11_10 sh_0 (by decide) r_0_0 (q := 106) rfl ?_
        refine zIconst d_X11_fling_106 (v := 4) ic_4 (q := 107) rfl ?_
        refine zIloadN d_X11_fling_107 rfl rfl (q := 108) rfl ?_
        refine zIload d_X11_fling_108 rfl (q := 110) rfl ?_
        refine zCallVV d_X11_fling_110 ml_X11_132 k_X9_set ki_X9_set ks_X9_set (sp_set4 (d := d - 1) (by omega) (zSky_up (a := 14) hK1 (by decide)) hs) rfl rfl sh_1 (by decide) rfl (by decide) (Nat.le_of_ble_eq_true rfl) (by decide) (by omega) zns100 (q := 113) rfl (fun w' hw' => ?_)
        subst hw'
        refine zAloadN d_X11_fling_113 rfl rfl (q := 114) rfl ?_
        refine zGetR d_X11_fling_114 ff_X11_10 sh_0 (by decide) r_0_0 (q := 117) rfl ?_
        refine zGetR d_X11_fling_117 ff_X11_284 sh_1 (by decide) r_1_2 (q := 120) rfl ?_
        refine zIconst d_X11_fling_120 (v := 0) ic_0 (q := 121) rfl ?_
        refine zDup2 d_X11_fling_121 rfl rfl (q := 122) rfl ?_
        refine zIald d_X11_fling_122 sh_15 (by decide) (j := 0) rfl (by decide) (q := 123) rfl ?_
        refine zIconst d_X11_fling_123 (v := 1) ic_1 (q := 124) rfl ?_
        refine zIadd d_X11_fling_124 (q := 125) rfl ?_
        refine zIast d_X11_fling_125 sh_15 (by decide) (j := 0) rfl (by decide) (q := 126) rfl ?_
        refine zAloadN d_X11_fling_126 rfl rfl (q := 127) rfl ?_
        refine zGetR d_X11_fling_127 ff_X11_10 sh_0 (by decide) r_0_0 (q := 130) rfl ?_
        refine zGetR d_X11_fling_130 ff_X11_284 sh_1 (by decide) r_1_2 (q := 133) rfl ?_
        refine zIconst d_X11_fling_133 (v := 1) ic_1 (q := 134) rfl ?_
        refine zDup2 d_X11_fling_134 rfl rfl (q := 135) rfl ?_
        refine zIald d_X11_fling_135 sh_15 (by decide) (j := 1) rfl (by decide) (q := 136) rfl ?_
        refine zIload d_X11_fling_136 rfl (q := 138) rfl ?_
        refine zIadd d_X11_fling_138 (q := 139) rfl ?_
        refine zIast d_X11_fling_139 sh_15 (by decide) (j := 1) rfl (by decide) (q := 140) rfl ?_
        refine zAloadN d_X11_fling_140 rfl rfl (q := 141) rfl ?_
        refine zGetR d_X11_fling_141 ff_X11_10 sh_0 (by decide) r_0_0 (q := 144) rfl ?_
        refine zAloadN d_X11_fling_144 rfl rfl (q := 145) rfl ?_
        refine zGetR d_X11_fling_145 ff_X11_10 sh_0 (by decide) r_0_0 (q := 148) rfl ?_
        refine zBipush d_X11_fling_148 (v := 7) bc_7 (q := 150) rfl ?_
        refine zIloadN d_X11_fling_150 rfl rfl (q := 151) rfl ?_
        refine zCallVP d_X11_fling_151 ml_X11_128 k_X9_get ki_X9_get ks_X9_get (sp_get7 (d := d - 1) (by omega) (zSky_up (zSky_up (zSky_up (zSky_up (a := 14) hK1 (by decide)) (by decide)) (by decide)) (by decide)) ht) rfl rfl sh_1 (by decide) rfl (by decide) (Nat.le_of_ble_eq_true rfl) (by decide) (by omega) zns100 (q := 154) rfl ?_
        refine zCallVV d_X11_fling_154 ml_X11_287 k_X9_goOn ki_X9_goOn ks_X9_goOn (sp_X9_goOn (d := d - 1) (by omega) (zSky_up (zSky_up (zSky_up (zSky_up (a := 14) hK1 (by decide)) (by decide)) (by decide)) (by decide))) rfl rfl sh_1 (by decide) rfl (by decide) (Nat.le_of_ble_eq_true rfl) (by decide) (by omega) zns100 (q := 157) rfl (fun w' hw' => ?_)
        subst hw'
        refine zIload d_X11_fling_157 rfl (q := 159) rfl ?_
        refine zIret d_X11_fling_159 rfl rfl rfl ?_
        exact ⟨_, rfl, Or.inr ⟨hyes, hxx, K, hKf, rfl⟩⟩
      · have hxx : (1 : Int32) = bi (zDraw (zNx (I 14 0)) < zOdds pg (zEn I s t (I 12 0))) := by rw [← hx]; exact (bi_t (bi_n0.mp h80)).symm
        refine zIconst d_X11_fling_83 (v := 1) ic_1 (q := 84) rfl ?_
        refine zGoto d_X11_fling_84 (q := 88) (by decide) ?_
        refine zIstore d_X11_fling_88 (by decide) rfl (q := 90) rfl ?_
        refine zAloadN d_X11_fling_90 rfl rfl (q := 91) rfl ?_
        refine zGetR d_X11_fling_91 ff_X11_10 sh_0 (by decide) r_0_0 (q := 94) rfl ?_
        refine zBipush d_X11_fling_94 (v := 11) bc_11 (q := 96) rfl ?_
        refine zIconst d_X11_fling_96 (v := 0) ic_0 (q := 97) rfl ?_
        refine zIload d_X11_fling_97 rfl (q := 99) rfl ?_
        refine zCallVV d_X11_fling_99 ml_X11_132 k_X9_set ki_X9_set ks_X9_set (sp_set11 (d := d - 1) (by omega) hK1) rfl rfl sh_1 (by decide) rfl (by decide) (Nat.le_of_ble_eq_true rfl) (by decide) (by omega) zns100 (q := 102) rfl (fun w' hw' => ?_)
        subst hw'
        refine zAloadN d_X11_fling_102 rfl rfl (q := 103) rfl ?_
        refine zGetR d_X11_fling_103 ff_X11_10 sh_0 (by decide) r_0_0 (q := 106) rfl ?_
        refine zIconst d_X11_fling_106 (v := 4) ic_4 (q := 107) rfl ?_
        refine zIloadN d_X11_fling_107 rfl rfl (q := 108) rfl ?_
        refine zIload d_X11_fling_108 rfl (q := 110) rfl ?_
        refine zCallVV d_X11_fling_110 ml_X11_132 k_X9_set ki_X9_set ks_X9_set (sp_set4 (d := d - 1) (by omega) (zSky_up (a := 14) hK1 (by decide)) hs) rfl rfl sh_1 (by decide) rfl (by decide) (Nat.le_of_ble_eq_true rfl) (by decide) (by omega) zns100 (q := 113) rfl (fun w' hw' => ?_)
        subst hw'
        refine zAloadN d_X11_fling_113 rfl rfl (q := 114) rfl ?_
        refine zGetR d_X11_fling_114 ff_X11_10 sh_0 (by decide) r_0_0 (q := 117) rfl ?_
        refine zGetR d_X11_fling_117 ff_X11_284 sh_1 (by decide) r_1_2 (q := 120) rfl ?_
        refine zIconst d_X11_fling_120 (v := 0) ic_0 (q := 121) rfl ?_
        refine zDup2 d_X11_fling_121 rfl rfl (q := 122) rfl ?_
        refine zIald d_X11_fling_122 sh_15 (by decide) (j := 0) rfl (by decide) (q := 123) rfl ?_
        refine zIconst d_X11_fling_123 (v := 1) ic_1 (q := 124) rfl ?_
        refine zIadd d_X11_fling_124 (q := 125) rfl ?_
        refine zIast d_X11_fling_125 sh_15 (by decide) (j := 0) rfl (by decide) (q := 126) rfl ?_
        refine zAloadN d_X11_fling_126 rfl rfl (q := 127) rfl ?_
        refine zGetR d_X11_fling_127 ff_X11_10 sh_0 (by decide) r_0_0 (q := 130) rfl ?_
        refine zGetR d_X11_fling_130 ff_X11_284 sh_1 (by decide) r_1_2 (q := 133) rfl ?_
        refine zIconst d_X11_fling_133 (v := 1) ic_1 (q := 134) rfl ?_
        refine zDup2 d_X11_fling_134 rfl rfl (q := 135) rfl ?_
        refine zIald d_X11_fling_135 sh_15 (by decide) (j := 1) rfl (by decide) (q := 136) rfl ?_
        refine zIload d_X11_fling_136 rfl (q := 138) rfl ?_
        refine zIadd d_X11_fling_138 (q := 139) rfl ?_
        refine zIast d_X11_fling_139 sh_15 (by decide) (j := 1) rfl (by decide) (q := 140) rfl ?_
        refine zAloadN d_X11_fling_140 rfl rfl (q := 141) rfl ?_
        refine zGetR d_X11_fling_141 ff_X11_10 sh_0 (by decide) r_0_0 (q := 144) rfl ?_
        refine zAloadN d_X11_fling_144 rfl rfl (q := 145) rfl ?_
        refine zGetR d_X11_fling_145 ff_X11_10 sh_0 (by decide) r_0_0 (q := 148) rfl ?_
        refine zBipush d_X11_fling_148 (v := 7) bc_7 (q := 150) rfl ?_
        refine zIloadN d_X11_fling_150 rfl rfl (q := 151) rfl ?_
        refine zCallVP d_X11_fling_151 ml_X11_128 k_X9_get ki_X9_get ks_X9_get (sp_get7 (d := d - 1) (by omega) (zSky_up (zSky_up (zSky_up (zSky_up (a := 14) hK1 (by decide)) (by decide)) (by decide)) (by decide)) ht) rfl rfl sh_1 (by decide) rfl (by decide) (Nat.le_of_ble_eq_true rfl) (by decide) (by omega) zns100 (q := 154) rfl ?_
        refine zCallVV d_X11_fling_154 ml_X11_287 k_X9_goOn ki_X9_goOn ks_X9_goOn (sp_X9_goOn (d := d - 1) (by omega) (zSky_up (zSky_up (zSky_up (zSky_up (a := 14) hK1 (by decide)) (by decide)) (by decide)) (by decide))) rfl rfl sh_1 (by decide) rfl (by decide) (Nat.le_of_ble_eq_true rfl) (by decide) (by omega) zns100 (q := 157) rfl (fun w' hw' => ?_)
        subst hw'
        refine zIload d_X11_fling_157 rfl (q := 159) rfl ?_
        refine zIret d_X11_fling_159 rfl rfl rfl ?_
        exact ⟨_, rfl, Or.inr ⟨hyes, hxx, K, hKf, rfl⟩⟩
    · have hno : ¬ (I 7 s = 0 ∧ I 8 s = 0) := fun q => h44 q.2
      refine zBipush d_X11_fling_47 (v := -5) bc_m5 (q := 49) rfl ?_
      refine zIret d_X11_fling_49 rfl rfl rfl ?_
      exact ⟨_, rfl, Or.inl ⟨hno, rfl, rfl⟩⟩
end S35

