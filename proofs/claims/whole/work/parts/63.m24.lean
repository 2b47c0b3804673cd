theorem d_X12_drawn_0 : decode (zmc m_X12_drawn) 0 = .ok (.iload_n 2, 1) := by decide +kernel
theorem d_X12_drawn_1 : decode (zmc m_X12_drawn) 1 = .ok (.invokestatic 152, 3) := by decide +kernel
theorem d_X12_drawn_4 : decode (zmc m_X12_drawn) 4 = .ok (.ifCond .eq 28, 3) := by decide +kernel
theorem d_X12_drawn_7 : decode (zmc m_X12_drawn) 7 = .ok (.iload_n 3, 1) := by decide +kernel
theorem d_X12_drawn_8 : decode (zmc m_X12_drawn) 8 = .ok (.iconst 1, 1) := by decide +kernel
theorem d_X12_drawn_9 : decode (zmc m_X12_drawn) 9 = .ok (.bipush 30, 2) := by decide +kernel
theorem d_X12_drawn_11 : decode (zmc m_X12_drawn) 11 = .ok (.invokestatic 127, 3) := by decide +kernel
theorem d_X12_drawn_14 : decode (zmc m_X12_drawn) 14 = .ok (.ifCond .eq 18, 3) := by decide +kernel
theorem d_X12_drawn_17 : decode (zmc m_X12_drawn) 17 = .ok (.iload 4, 2) := by decide +kernel
theorem d_X12_drawn_19 : decode (zmc m_X12_drawn) 19 = .ok (.iconst (-1), 1) := by decide +kernel
theorem d_X12_drawn_20 : decode (zmc m_X12_drawn) 20 = .ok (.if_icmp .eq 14, 3) := by decide +kernel
theorem d_X12_drawn_23 : decode (zmc m_X12_drawn) 23 = .ok (.aload_n 0, 1) := by decide +kernel
theorem d_X12_drawn_24 : decode (zmc m_X12_drawn) 24 = .ok (.iload 4, 2) := by decide +kernel
theorem d_X12_drawn_26 : decode (zmc m_X12_drawn) 26 = .ok (.invokevirtual 134, 3) := by decide +kernel
theorem d_X12_drawn_29 : decode (zmc m_X12_drawn) 29 = .ok (.ifCond .ne 5, 3) := by decide +kernel
theorem d_X12_drawn_32 : decode (zmc m_X12_drawn) 32 = .ok (.iconst (-1), 1) := by decide +kernel
theorem d_X12_drawn_33 : decode (zmc m_X12_drawn) 33 = .ok (.ireturn, 1) := by decide +kernel
theorem d_X12_drawn_34 : decode (zmc m_X12_drawn) 34 = .ok (.aload_n 0, 1) := by decide +kernel
theorem d_X12_drawn_35 : decode (zmc m_X12_drawn) 35 = .ok (.iload_n 2, 1) := by decide +kernel
theorem d_X12_drawn_36 : decode (zmc m_X12_drawn) 36 = .ok (.invokevirtual 279, 3) := by decide +kernel
theorem d_X12_drawn_39 : decode (zmc m_X12_drawn) 39 = .ok (.ifCond .ge 9, 3) := by decide +kernel
theorem d_X12_drawn_42 : decode (zmc m_X12_drawn) 42 = .ok (.aload_n 0, 1) := by decide +kernel
theorem d_X12_drawn_43 : decode (zmc m_X12_drawn) 43 = .ok (.iload_n 2, 1) := by decide +kernel
theorem d_X12_drawn_44 : decode (zmc m_X12_drawn) 44 = .ok (.invokevirtual 279, 3) := by decide +kernel
theorem d_X12_drawn_47 : decode (zmc m_X12_drawn) 47 = .ok (.ireturn, 1) := by decide +kernel
theorem d_X12_drawn_48 : decode (zmc m_X12_drawn) 48 = .ok (.aload_n 0, 1) := by decide +kernel
theorem d_X12_drawn_49 : decode (zmc m_X12_drawn) 49 = .ok (.iload_n 2, 1) := by decide +kernel
theorem d_X12_drawn_50 : decode (zmc m_X12_drawn) 50 = .ok (.invokevirtual 282, 3) := by decide +kernel
theorem d_X12_drawn_53 : decode (zmc m_X12_drawn) 53 = .ok (.iload_n 1, 1) := by decide +kernel
theorem d_X12_drawn_54 : decode (zmc m_X12_drawn) 54 = .ok (.istore 5, 2) := by decide +kernel
theorem d_X12_drawn_56 : decode (zmc m_X12_drawn) 56 = .ok (.iconst 0, 1) := by decide +kernel
theorem d_X12_drawn_57 : decode (zmc m_X12_drawn) 57 = .ok (.istore 6, 2) := by decide +kernel
theorem d_X12_drawn_59 : decode (zmc m_X12_drawn) 59 = .ok (.iconst 0, 1) := by decide +kernel
theorem d_X12_drawn_60 : decode (zmc m_X12_drawn) 60 = .ok (.istore 7, 2) := by decide +kernel
theorem d_X12_drawn_62 : decode (zmc m_X12_drawn) 62 = .ok (.iload 7, 2) := by decide +kernel
theorem d_X12_drawn_64 : decode (zmc m_X12_drawn) 64 = .ok (.iload_n 3, 1) := by decide +kernel
theorem d_X12_drawn_65 : decode (zmc m_X12_drawn) 65 = .ok (.if_icmp .ge 105, 3) := by decide +kernel
theorem d_X12_drawn_68 : decode (zmc m_X12_drawn) 68 = .ok (.aload_n 0, 1) := by decide +kernel
theorem d_X12_drawn_69 : decode (zmc m_X12_drawn) 69 = .ok (.invokevirtual 321, 3) := by decide +kernel
theorem d_X12_drawn_72 : decode (zmc m_X12_drawn) 72 = .ok (.istore 8, 2) := by decide +kernel
theorem d_X12_drawn_74 : decode (zmc m_X12_drawn) 74 = .ok (.iconst 0, 1) := by decide +kernel
theorem d_X12_drawn_75 : decode (zmc m_X12_drawn) 75 = .ok (.istore 9, 2) := by decide +kernel
theorem d_X12_drawn_77 : decode (zmc m_X12_drawn) 77 = .ok (.iload 9, 2) := by decide +kernel
theorem d_X12_drawn_79 : decode (zmc m_X12_drawn) 79 = .ok (.aload_n 0, 1) := by decide +kernel
theorem d_X12_drawn_80 : decode (zmc m_X12_drawn) 80 = .ok (.getfield 270, 3) := by decide +kernel
theorem d_X12_drawn_83 : decode (zmc m_X12_drawn) 83 = .ok (.if_icmp .ge 52, 3) := by decide +kernel
theorem d_X12_drawn_86 : decode (zmc m_X12_drawn) 86 = .ok (.iload 5, 2) := by decide +kernel
theorem d_X12_drawn_88 : decode (zmc m_X12_drawn) 88 = .ok (.ldc_w 354, 3) := by decide +kernel
theorem d_X12_drawn_91 : decode (zmc m_X12_drawn) 91 = .ok (.imul, 1) := by decide +kernel
theorem d_X12_drawn_92 : decode (zmc m_X12_drawn) 92 = .ok (.sipush 12345, 3) := by decide +kernel
theorem d_X12_drawn_95 : decode (zmc m_X12_drawn) 95 = .ok (.iadd, 1) := by decide +kernel
theorem d_X12_drawn_96 : decode (zmc m_X12_drawn) 96 = .ok (.istore 5, 2) := by decide +kernel
theorem d_X12_drawn_98 : decode (zmc m_X12_drawn) 98 = .ok (.iload 5, 2) := by decide +kernel
theorem d_X12_drawn_100 : decode (zmc m_X12_drawn) 100 = .ok (.bipush 8, 2) := by decide +kernel
theorem d_X12_drawn_102 : decode (zmc m_X12_drawn) 102 = .ok (.iushr, 1) := by decide +kernel
theorem d_X12_drawn_103 : decode (zmc m_X12_drawn) 103 = .ok (.bipush 12, 2) := by decide +kernel
theorem d_X12_drawn_105 : decode (zmc m_X12_drawn) 105 = .ok (.irem, 1) := by decide +kernel
theorem d_X12_drawn_106 : decode (zmc m_X12_drawn) 106 = .ok (.aload_n 0, 1) := by decide +kernel
theorem d_X12_drawn_107 : decode (zmc m_X12_drawn) 107 = .ok (.iload 9, 2) := by decide +kernel
theorem d_X12_drawn_109 : decode (zmc m_X12_drawn) 109 = .ok (.invokevirtual 288, 3) := by decide +kernel
theorem d_X12_drawn_112 : decode (zmc m_X12_drawn) 112 = .ok (.if_icmp .ge 17, 3) := by decide +kernel
theorem d_X12_drawn_115 : decode (zmc m_X12_drawn) 115 = .ok (.iload 8, 2) := by decide +kernel
theorem d_X12_drawn_117 : decode (zmc m_X12_drawn) 117 = .ok (.iconst 1, 1) := by decide +kernel
theorem d_X12_drawn_118 : decode (zmc m_X12_drawn) 118 = .ok (.aload_n 0, 1) := by decide +kernel
theorem d_X12_drawn_119 : decode (zmc m_X12_drawn) 119 = .ok (.getfield 80, 3) := by decide +kernel
theorem d_X12_drawn_122 : decode (zmc m_X12_drawn) 122 = .ok (.iload 9, 2) := by decide +kernel
theorem d_X12_drawn_124 : decode (zmc m_X12_drawn) 124 = .ok (.iaload, 1) := by decide +kernel
theorem d_X12_drawn_125 : decode (zmc m_X12_drawn) 125 = .ok (.ishl, 1) := by decide +kernel
theorem d_X12_drawn_126 : decode (zmc m_X12_drawn) 126 = .ok (.ior, 1) := by decide +kernel
theorem d_X12_drawn_127 : decode (zmc m_X12_drawn) 127 = .ok (.istore 8, 2) := by decide +kernel
theorem d_X12_drawn_129 : decode (zmc m_X12_drawn) 129 = .ok (.iinc 9 1, 3) := by decide +kernel
theorem d_X12_drawn_132 : decode (zmc m_X12_drawn) 132 = .ok (.goto (-55), 3) := by decide +kernel
theorem d_X12_drawn_135 : decode (zmc m_X12_drawn) 135 = .ok (.iload 6, 2) := by decide +kernel
theorem d_X12_drawn_137 : decode (zmc m_X12_drawn) 137 = .ok (.iload 4, 2) := by decide +kernel
theorem d_X12_drawn_139 : decode (zmc m_X12_drawn) 139 = .ok (.ifCond .ge 15, 3) := by decide +kernel
theorem d_X12_drawn_142 : decode (zmc m_X12_drawn) 142 = .ok (.aload_n 0, 1) := by decide +kernel
theorem d_X12_drawn_143 : decode (zmc m_X12_drawn) 143 = .ok (.iload 8, 2) := by decide +kernel
theorem d_X12_drawn_145 : decode (zmc m_X12_drawn) 145 = .ok (.invokevirtual 324, 3) := by decide +kernel
theorem d_X12_drawn_148 : decode (zmc m_X12_drawn) 148 = .ok (.invokestatic 312, 3) := by decide +kernel
theorem d_X12_drawn_151 : decode (zmc m_X12_drawn) 151 = .ok (.goto 10, 3) := by decide +kernel
theorem d_X12_drawn_154 : decode (zmc m_X12_drawn) 154 = .ok (.iload 8, 2) := by decide +kernel
theorem d_X12_drawn_156 : decode (zmc m_X12_drawn) 156 = .ok (.iload 4, 2) := by decide +kernel
theorem d_X12_drawn_158 : decode (zmc m_X12_drawn) 158 = .ok (.ishr, 1) := by decide +kernel
theorem d_X12_drawn_159 : decode (zmc m_X12_drawn) 159 = .ok (.iconst 1, 1) := by decide +kernel
theorem d_X12_drawn_160 : decode (zmc m_X12_drawn) 160 = .ok (.iand, 1) := by decide +kernel
theorem d_X12_drawn_161 : decode (zmc m_X12_drawn) 161 = .ok (.iadd, 1) := by decide +kernel
theorem d_X12_drawn_162 : decode (zmc m_X12_drawn) 162 = .ok (.istore 6, 2) := by decide +kernel
theorem d_X12_drawn_164 : decode (zmc m_X12_drawn) 164 = .ok (.iinc 7 1, 3) := by decide +kernel
theorem d_X12_drawn_167 : decode (zmc m_X12_drawn) 167 = .ok (.goto (-105), 3) := by decide +kernel
theorem d_X12_drawn_170 : decode (zmc m_X12_drawn) 170 = .ok (.iload 6, 2) := by decide +kernel
theorem d_X12_drawn_172 : decode (zmc m_X12_drawn) 172 = .ok (.ireturn, 1) := by decide +kernel
theorem d_X12_flung_0 : decode (zmc m_X12_flung) 0 = .ok (.iload_n 1, 1) := by decide +kernel
theorem d_X12_flung_1 : decode (zmc m_X12_flung) 1 = .ok (.invokestatic 152, 3) := by decide +kernel
theorem d_X12_flung_4 : decode (zmc m_X12_flung) 4 = .ok (.ifCond .eq 8, 3) := by decide +kernel
theorem d_X12_flung_7 : decode (zmc m_X12_flung) 7 = .ok (.iload_n 2, 1) := by decide +kernel
theorem d_X12_flung_8 : decode (zmc m_X12_flung) 8 = .ok (.iconst (-1), 1) := by decide +kernel
theorem d_X12_flung_9 : decode (zmc m_X12_flung) 9 = .ok (.if_icmp .ge 5, 3) := by decide +kernel
theorem d_X12_flung_12 : decode (zmc m_X12_flung) 12 = .ok (.iconst (-1), 1) := by decide +kernel
theorem d_X12_flung_13 : decode (zmc m_X12_flung) 13 = .ok (.ireturn, 1) := by decide +kernel
theorem d_X12_flung_14 : decode (zmc m_X12_flung) 14 = .ok (.aload_n 0, 1) := by decide +kernel
theorem d_X12_flung_15 : decode (zmc m_X12_flung) 15 = .ok (.iload_n 1, 1) := by decide +kernel
theorem d_X12_flung_16 : decode (zmc m_X12_flung) 16 = .ok (.invokevirtual 279, 3) := by decide +kernel
theorem d_X12_flung_19 : decode (zmc m_X12_flung) 19 = .ok (.ifCond .ge 9, 3) := by decide +kernel
theorem d_X12_flung_22 : decode (zmc m_X12_flung) 22 = .ok (.aload_n 0, 1) := by decide +kernel
theorem d_X12_flung_23 : decode (zmc m_X12_flung) 23 = .ok (.iload_n 1, 1) := by decide +kernel
theorem d_X12_flung_24 : decode (zmc m_X12_flung) 24 = .ok (.invokevirtual 279, 3) := by decide +kernel
theorem d_X12_flung_27 : decode (zmc m_X12_flung) 27 = .ok (.ireturn, 1) := by decide +kernel
theorem d_X12_flung_28 : decode (zmc m_X12_flung) 28 = .ok (.aload_n 0, 1) := by decide +kernel
theorem d_X12_flung_29 : decode (zmc m_X12_flung) 29 = .ok (.iload_n 1, 1) := by decide +kernel
theorem d_X12_flung_30 : decode (zmc m_X12_flung) 30 = .ok (.invokevirtual 282, 3) := by decide +kernel
theorem d_X12_flung_33 : decode (zmc m_X12_flung) 33 = .ok (.iload_n 2, 1) := by decide +kernel
theorem d_X12_flung_34 : decode (zmc m_X12_flung) 34 = .ok (.ifCond .ge 10, 3) := by decide +kernel
theorem d_X12_flung_37 : decode (zmc m_X12_flung) 37 = .ok (.aload_n 0, 1) := by decide +kernel
theorem d_X12_flung_38 : decode (zmc m_X12_flung) 38 = .ok (.getfield 273, 3) := by decide +kernel
theorem d_X12_flung_41 : decode (zmc m_X12_flung) 41 = .ok (.goto 22, 3) := by decide +kernel
theorem d_X12_flung_44 : decode (zmc m_X12_flung) 44 = .ok (.iload_n 2, 1) := by decide +kernel
theorem d_X12_flung_45 : decode (zmc m_X12_flung) 45 = .ok (.aload_n 0, 1) := by decide +kernel
theorem d_X12_flung_46 : decode (zmc m_X12_flung) 46 = .ok (.getfield 270, 3) := by decide +kernel
theorem d_X12_flung_49 : decode (zmc m_X12_flung) 49 = .ok (.if_icmp .ge 12, 3) := by decide +kernel
theorem d_X12_flung_52 : decode (zmc m_X12_flung) 52 = .ok (.aload_n 0, 1) := by decide +kernel
theorem d_X12_flung_53 : decode (zmc m_X12_flung) 53 = .ok (.getfield 86, 3) := by decide +kernel
theorem d_X12_flung_56 : decode (zmc m_X12_flung) 56 = .ok (.iload_n 2, 1) := by decide +kernel
theorem d_X12_flung_57 : decode (zmc m_X12_flung) 57 = .ok (.iaload, 1) := by decide +kernel
theorem d_X12_flung_58 : decode (zmc m_X12_flung) 58 = .ok (.goto 5, 3) := by decide +kernel
theorem d_X12_flung_61 : decode (zmc m_X12_flung) 61 = .ok (.bipush (-2), 2) := by decide +kernel
theorem d_X12_flung_63 : decode (zmc m_X12_flung) 63 = .ok (.ireturn, 1) := by decide +kernel
theorem d_X12_likely_0 : decode (zmc m_X12_likely) 0 = .ok (.iload_n 1, 1) := by decide +kernel
theorem d_X12_likely_1 : decode (zmc m_X12_likely) 1 = .ok (.invokestatic 152, 3) := by decide +kernel
theorem d_X12_likely_4 : decode (zmc m_X12_likely) 4 = .ok (.ifCond .eq 20, 3) := by decide +kernel
theorem d_X12_likely_7 : decode (zmc m_X12_likely) 7 = .ok (.iload_n 2, 1) := by decide +kernel
theorem d_X12_likely_8 : decode (zmc m_X12_likely) 8 = .ok (.iconst 0, 1) := by decide +kernel
theorem d_X12_likely_9 : decode (zmc m_X12_likely) 9 = .ok (.iconst 1, 1) := by decide +kernel
theorem d_X12_likely_10 : decode (zmc m_X12_likely) 10 = .ok (.invokestatic 127, 3) := by decide +kernel
theorem d_X12_likely_13 : decode (zmc m_X12_likely) 13 = .ok (.ifCond .eq 11, 3) := by decide +kernel
theorem d_X12_likely_16 : decode (zmc m_X12_likely) 16 = .ok (.aload_n 0, 1) := by decide +kernel
theorem d_X12_likely_17 : decode (zmc m_X12_likely) 17 = .ok (.iload_n 1, 1) := by decide +kernel
theorem d_X12_likely_18 : decode (zmc m_X12_likely) 18 = .ok (.invokevirtual 279, 3) := by decide +kernel
theorem d_X12_likely_21 : decode (zmc m_X12_likely) 21 = .ok (.ifCond .ge 7, 3) := by decide +kernel
theorem d_X12_likely_24 : decode (zmc m_X12_likely) 24 = .ok (.ldc2_w 286, 3) := by decide +kernel
theorem d_X12_likely_27 : decode (zmc m_X12_likely) 27 = .ok (.lreturn, 1) := by decide +kernel
theorem d_X12_likely_28 : decode (zmc m_X12_likely) 28 = .ok (.aload_n 0, 1) := by decide +kernel
theorem d_X12_likely_29 : decode (zmc m_X12_likely) 29 = .ok (.iload_n 1, 1) := by decide +kernel
theorem d_X12_likely_30 : decode (zmc m_X12_likely) 30 = .ok (.invokevirtual 282, 3) := by decide +kernel
theorem d_X12_likely_33 : decode (zmc m_X12_likely) 33 = .ok (.lconst 1, 1) := by decide +kernel
theorem d_X12_likely_34 : decode (zmc m_X12_likely) 34 = .ok (.lstore_n 3, 1) := by decide +kernel
theorem d_X12_likely_35 : decode (zmc m_X12_likely) 35 = .ok (.lconst 1, 1) := by decide +kernel
theorem d_X12_likely_36 : decode (zmc m_X12_likely) 36 = .ok (.lstore 5, 2) := by decide +kernel
theorem d_X12_likely_38 : decode (zmc m_X12_likely) 38 = .ok (.iconst 0, 1) := by decide +kernel
theorem d_X12_likely_39 : decode (zmc m_X12_likely) 39 = .ok (.istore 7, 2) := by decide +kernel
theorem d_X12_likely_41 : decode (zmc m_X12_likely) 41 = .ok (.iload 7, 2) := by decide +kernel
theorem d_X12_likely_43 : decode (zmc m_X12_likely) 43 = .ok (.aload_n 0, 1) := by decide +kernel
theorem d_X12_likely_44 : decode (zmc m_X12_likely) 44 = .ok (.getfield 270, 3) := by decide +kernel
theorem d_X12_likely_47 : decode (zmc m_X12_likely) 47 = .ok (.if_icmp .ge 27, 3) := by decide +kernel
theorem d_X12_likely_50 : decode (zmc m_X12_likely) 50 = .ok (.lload_n 3, 1) := by decide +kernel
theorem d_X12_likely_51 : decode (zmc m_X12_likely) 51 = .ok (.aload_n 0, 1) := by decide +kernel
theorem d_X12_likely_52 : decode (zmc m_X12_likely) 52 = .ok (.iload 7, 2) := by decide +kernel
theorem d_X12_likely_54 : decode (zmc m_X12_likely) 54 = .ok (.invokevirtual 288, 3) := by decide +kernel
theorem d_X12_likely_57 : decode (zmc m_X12_likely) 57 = .ok (.i2l, 1) := by decide +kernel
theorem d_X12_likely_58 : decode (zmc m_X12_likely) 58 = .ok (.lmul, 1) := by decide +kernel
theorem d_X12_likely_59 : decode (zmc m_X12_likely) 59 = .ok (.lstore_n 3, 1) := by decide +kernel
theorem d_X12_likely_60 : decode (zmc m_X12_likely) 60 = .ok (.lload 5, 2) := by decide +kernel
theorem d_X12_likely_62 : decode (zmc m_X12_likely) 62 = .ok (.ldc2_w 291, 3) := by decide +kernel
theorem d_X12_likely_65 : decode (zmc m_X12_likely) 65 = .ok (.lmul, 1) := by decide +kernel
theorem d_X12_likely_66 : decode (zmc m_X12_likely) 66 = .ok (.lstore 5, 2) := by decide +kernel
theorem d_X12_likely_68 : decode (zmc m_X12_likely) 68 = .ok (.iinc 7 1, 3) := by decide +kernel
theorem d_X12_likely_71 : decode (zmc m_X12_likely) 71 = .ok (.goto (-30), 3) := by decide +kernel
theorem d_X12_likely_74 : decode (zmc m_X12_likely) 74 = .ok (.lload_n 3, 1) := by decide +kernel
theorem d_X12_likely_75 : decode (zmc m_X12_likely) 75 = .ok (.lload 5, 2) := by decide +kernel
theorem d_X12_likely_77 : decode (zmc m_X12_likely) 77 = .ok (.iload_n 2, 1) := by decide +kernel
theorem d_X12_likely_78 : decode (zmc m_X12_likely) 78 = .ok (.invokestatic 293, 3) := by decide +kernel
theorem d_X12_likely_81 : decode (zmc m_X12_likely) 81 = .ok (.lreturn, 1) := by decide +kernel
theorem d_X12_mean_0 : decode (zmc m_X12_mean) 0 = .ok (.iload_n 1, 1) := by decide +kernel
theorem d_X12_mean_1 : decode (zmc m_X12_mean) 1 = .ok (.invokestatic 152, 3) := by decide +kernel
theorem d_X12_mean_4 : decode (zmc m_X12_mean) 4 = .ok (.ifCond .eq 20, 3) := by decide +kernel
theorem d_X12_mean_7 : decode (zmc m_X12_mean) 7 = .ok (.iload_n 2, 1) := by decide +kernel
theorem d_X12_mean_8 : decode (zmc m_X12_mean) 8 = .ok (.iconst 0, 1) := by decide +kernel
theorem d_X12_mean_9 : decode (zmc m_X12_mean) 9 = .ok (.iconst 1, 1) := by decide +kernel
theorem d_X12_mean_10 : decode (zmc m_X12_mean) 10 = .ok (.invokestatic 127, 3) := by decide +kernel
theorem d_X12_mean_13 : decode (zmc m_X12_mean) 13 = .ok (.ifCond .eq 11, 3) := by decide +kernel
theorem d_X12_mean_16 : decode (zmc m_X12_mean) 16 = .ok (.aload_n 0, 1) := by decide +kernel
theorem d_X12_mean_17 : decode (zmc m_X12_mean) 17 = .ok (.iload_n 1, 1) := by decide +kernel
theorem d_X12_mean_18 : decode (zmc m_X12_mean) 18 = .ok (.invokevirtual 279, 3) := by decide +kernel
theorem d_X12_mean_21 : decode (zmc m_X12_mean) 21 = .ok (.ifCond .ge 7, 3) := by decide +kernel
theorem d_X12_mean_24 : decode (zmc m_X12_mean) 24 = .ok (.ldc2_w 286, 3) := by decide +kernel
theorem d_X12_mean_27 : decode (zmc m_X12_mean) 27 = .ok (.lreturn, 1) := by decide +kernel
theorem d_X12_mean_28 : decode (zmc m_X12_mean) 28 = .ok (.aload_n 0, 1) := by decide +kernel
theorem d_X12_mean_29 : decode (zmc m_X12_mean) 29 = .ok (.iload_n 1, 1) := by decide +kernel
theorem d_X12_mean_30 : decode (zmc m_X12_mean) 30 = .ok (.invokevirtual 282, 3) := by decide +kernel
theorem d_X12_mean_33 : decode (zmc m_X12_mean) 33 = .ok (.lconst 0, 1) := by decide +kernel
theorem d_X12_mean_34 : decode (zmc m_X12_mean) 34 = .ok (.lstore_n 3, 1) := by decide +kernel
theorem d_X12_mean_35 : decode (zmc m_X12_mean) 35 = .ok (.iconst 0, 1) := by decide +kernel
theorem d_X12_mean_36 : decode (zmc m_X12_mean) 36 = .ok (.istore 5, 2) := by decide +kernel
theorem d_X12_mean_38 : decode (zmc m_X12_mean) 38 = .ok (.iload 5, 2) := by decide +kernel
theorem d_X12_mean_40 : decode (zmc m_X12_mean) 40 = .ok (.aload_n 0, 1) := by decide +kernel
theorem d_X12_mean_41 : decode (zmc m_X12_mean) 41 = .ok (.getfield 270, 3) := by decide +kernel
theorem d_X12_mean_44 : decode (zmc m_X12_mean) 44 = .ok (.if_icmp .ge 19, 3) := by decide +kernel
theorem d_X12_mean_47 : decode (zmc m_X12_mean) 47 = .ok (.lload_n 3, 1) := by decide +kernel
theorem d_X12_mean_48 : decode (zmc m_X12_mean) 48 = .ok (.aload_n 0, 1) := by decide +kernel
theorem d_X12_mean_49 : decode (zmc m_X12_mean) 49 = .ok (.iload 5, 2) := by decide +kernel
theorem d_X12_mean_51 : decode (zmc m_X12_mean) 51 = .ok (.invokevirtual 288, 3) := by decide +kernel
theorem d_X12_mean_54 : decode (zmc m_X12_mean) 54 = .ok (.i2l, 1) := by decide +kernel
theorem d_X12_mean_55 : decode (zmc m_X12_mean) 55 = .ok (.ladd, 1) := by decide +kernel
theorem d_X12_mean_56 : decode (zmc m_X12_mean) 56 = .ok (.lstore_n 3, 1) := by decide +kernel
theorem d_X12_mean_57 : decode (zmc m_X12_mean) 57 = .ok (.iinc 5 1, 3) := by decide +kernel
theorem d_X12_mean_60 : decode (zmc m_X12_mean) 60 = .ok (.goto (-22), 3) := by decide +kernel
theorem d_X12_mean_63 : decode (zmc m_X12_mean) 63 = .ok (.lload_n 3, 1) := by decide +kernel
theorem d_X12_mean_64 : decode (zmc m_X12_mean) 64 = .ok (.ldc2_w 291, 3) := by decide +kernel
theorem d_X12_mean_67 : decode (zmc m_X12_mean) 67 = .ok (.iload_n 2, 1) := by decide +kernel
theorem d_X12_mean_68 : decode (zmc m_X12_mean) 68 = .ok (.invokestatic 293, 3) := by decide +kernel
theorem d_X12_mean_71 : decode (zmc m_X12_mean) 71 = .ok (.lreturn, 1) := by decide +kernel
/-! THE REFERENCE: plans, the answers -/
section S63
variable {g : zG} {l : Launch} {d : Nat} {I V : Nat → Nat → Int32} {L K : Nat → Nat → Int64} {fs : Nat × Nat × Option Nat} {ns nt nh nb : Nat} {pg : Option (List zLine)}
theorem sp_X12_flung0 {i w0 : Int32} (hd : 3 ≤ d) (hi : ¬ (0 ≤ i ∧ i < 6)) : zPure g l d m_X12_flung [.ref 64, .int i, .int w0] I L fs (.int (-1)) := by
  refine zSp_of (lv := [(0, .ref 64), (1, .int i), (2, .int w0)]) k_X12_flung rfl (Nat.le_of_ble_eq_true rfl) ?_
  refine zIloadN d_X12_flung_0 rfl rfl (q := 1) rfl ?_
  refine zCallSP d_X12_flung_1 ml_X12_152 k_X12_isShelf kt_X12_isShelf (sp_X12_isShelf (d := d - 1) (by omega) ) rfl rfl (Nat.le_of_ble_eq_true rfl) (by decide) (by omega) zns100 (q := 4) rfl ?_
  refine zIf_eq d_X12_flung_4 (tgt := 12) (q := 7) (by decide) rfl (fun h4 => ?_) (fun h => absurd (zshelf_out hi) h)
  refine zIconst d_X12_flung_12 (v := -1) ic_m1 (q := 13) rfl ?_
  refine zIret d_X12_flung_13 rfl rfl rfl ?_
  exact zPi rfl
theorem sp_X12_flung (hd : 5 ≤ d) (hM : zMs I V) (hK : zSky V ns nt nh) (hB : zBd V ns nt nh) (hH : zMh I V L K) (hBh : zBh V nb) (hn50 : nb ≤ 50) {q m : Nat} (hq : q < 6) (hm : V (42 + 2 * q) 2 = nI m) (hm2 : m ≤ 60) {w0 : Int32} : zSp g l d 100 m_X12_flung [.ref 64, .int (nI q), .int w0] (zU I L fs) (zX (fun x w =>
    (w0 < -1 ∧ x = -1 ∧ w = zU I L fs) ∨ (¬ w0 < -1 ∧ ¬ V (42 + 2 * q) 1 = 0 ∧ x = (if V (42 + 2 * q) 1 = -1 then -11 else -12) ∧ w = zU I L fs) ∨
    (¬ w0 < -1 ∧ V (42 + 2 * q) 1 = 0 ∧ x = (if w0 = -1 then (zPst V K ns (42 + 2 * q) (zPn V K ns nt nh (42 + 2 * q))).2.2 else if w0 < nI (zPn V K ns nt nh (42 + 2 * q)) then zPmin V K ns (42 + 2 * q) w0.toNatClampNeg else -2) ∧ ∃ J, w = zU J L fs ∧ zScr I J))) := by
  have hn10 := zPn_le (V := V) (K := K) (ns := ns) (nt := nt) (nh := nh) (r := 42 + 2 * q)
  obtain ⟨N, eN⟩ : ∃ N, N = zPn V K ns nt nh (42 + 2 * q) := ⟨_, rfl⟩
  rw [← eN] at hn10 ⊢
  refine zSp_of (lv := [(0, .ref 64), (1, .int (nI q)), (2, .int w0)]) k_X12_flung rfl (Nat.le_of_ble_eq_true rfl) ?_
  refine zIloadN d_X12_flung_0 rfl rfl (q := 1) rfl ?_
  refine zCallSP d_X12_flung_1 ml_X12_152 k_X12_isShelf kt_X12_isShelf (sp_X12_isShelf (d := d - 1) (by omega) ) rfl rfl (Nat.le_of_ble_eq_true rfl) (by decide) (by omega) zns100 (q := 4) rfl ?_
  refine zIf_eq d_X12_flung_4 (tgt := 12) (q := 7) (by decide) rfl (fun h => absurd h (zshelf_in hq)) (fun h4 => ?_)
  refine zIloadN d_X12_flung_7 rfl rfl (q := 8) rfl ?_
  refine zIconst d_X12_flung_8 (v := -1) ic_m1 (q := 9) rfl ?_
  refine zIcmp_ge d_X12_flung_9 (tgt := 14) (q := 12) (by decide) rfl (fun h9 => ?_) (fun h9 => ?_)
  · have hc : ¬ w0 < -1 := by grind
    refine zAloadN d_X12_flung_14 rfl rfl (q := 15) rfl ?_
    refine zIloadN d_X12_flung_15 rfl rfl (q := 16) rfl ?_
    refine zCallVP d_X12_flung_16 ml_X12_279 k_X12_rowFault ki_X12_rowFault ks_X12_rowFault (sp_X12_rowFault (d := d - 1) (by omega) hH hBh hn50 hq) rfl rfl sh_64 (by decide) rfl (by decide) (Nat.le_of_ble_eq_true rfl) (by decide) (by omega) zns100 (q := 19) rfl ?_
    refine zIf_ge d_X12_flung_19 (tgt := 28) (q := 22) (by decide) rfl (fun h19 => ?_) (fun h19 => ?_)
    · have hv : V (42 + 2 * q) 1 = 0 := Decidable.byContradiction (fun z => by rw [if_neg z] at h19; revert h19; split <;> decide)
      refine zAloadN d_X12_flung_28 rfl rfl (q := 29) rfl ?_
      refine zIloadN d_X12_flung_29 rfl rfl (q := 30) rfl ?_
      refine zCallVV d_X12_flung_30 ml_X12_282 k_X12_layPlan ki_X12_layPlan ks_X12_layPlan (sp_X12_layPlan (d := d - 1) (by omega) hM hK hB hH hq hm hm2) rfl rfl sh_64 (by decide) rfl (by decide) (Nat.le_of_ble_eq_true rfl) (by decide) (by omega) zns100 (q := 33) rfl (fun w' hw' => ?_)
      obtain ⟨J, rfl, hJ⟩ := hw'
      rw [← eN] at hJ
      obtain ⟨hsc, ⟨j34, j39⟩, -, jp⟩ := hJ
      refine zIloadN d_X12_flung_33 rfl rfl (q := 34) rfl ?_
      refine zIf_ge d_X12_flung_34 (tgt := 44) (q := 37) (by decide) rfl (fun h34 => ?_) (fun h34 => ?_)
      · refine zIloadN d_X12_flung_44 rfl rfl (q := 45) rfl ?_
        refine zAloadN d_X12_flung_45 rfl rfl (q := 46) rfl ?_
        refine zGetI d_X12_flung_46 ff_X12_270 sh_64 (by decide) (q := 49) rfl ?_
        rw [j34]
        refine zIcmp_ge d_X12_flung_49 (tgt := 61) (q := 52) (by decide) rfl (fun h49 => ?_) (fun h49 => ?_)
        · refine zBipush d_X12_flung_61 (v := -2) bc_m2 (q := 63) rfl ?_
          refine zIret d_X12_flung_63 rfl rfl rfl ?_
          refine ⟨_, rfl, Or.inr (Or.inr ⟨hc, hv, ?_, J, rfl, hsc⟩)⟩
          first
          | (rw [if_pos (by grind)]; exact j39)
          | (rw [if_neg (by grind), if_neg (by grind)])
          | (rw [if_neg (by grind), if_pos (by grind), zcl_n (by omega)])
        · obtain ⟨k, hk, rfl⟩ := zn1 (x := w0) (n := N) (by omega) (by grind) (by grind)
          have e3 := (jp k hk).2.2
          refine zAloadN d_X12_flung_52 rfl rfl (q := 53) rfl ?_
          refine zGetR d_X12_flung_53 ff_X12_86 sh_64 (by decide) r_64_37 (q := 56) rfl ?_
          refine zIloadN d_X12_flung_56 rfl rfl (q := 57) rfl ?_
          refine zIald d_X12_flung_57 sh_89 (by decide) rfl (by omega) (q := 58) rfl ?_
          rw [e3]
          refine zGoto d_X12_flung_58 (q := 63) (by decide) ?_
          refine zIret d_X12_flung_63 rfl rfl rfl ?_
          refine ⟨_, rfl, Or.inr (Or.inr ⟨hc, hv, ?_, J, rfl, hsc⟩)⟩
          first
          | (rw [if_pos (by grind)]; exact j39)
          | (rw [if_neg (by grind), if_neg (by grind)])
          | (rw [if_neg (by grind), if_pos (by grind), zcl_n (by omega)])
      · refine zAloadN d_X12_flung_37 rfl rfl (q := 38) rfl ?_
        refine zGetI d_X12_flung_38 ff_X12_273 sh_64 (by decide) (q := 41) rfl ?_
        refine zGoto d_X12_flung_41 (q := 63) (by decide) ?_
        refine zIret d_X12_flung_63 rfl rfl rfl ?_
        refine ⟨_, rfl, Or.inr (Or.inr ⟨hc, hv, ?_, J, rfl, hsc⟩)⟩
        first
        | (rw [if_pos (by grind)]; exact j39)
        | (rw [if_neg (by grind), if_neg (by grind)])
        | (rw [if_neg (by grind), if_pos (by grind), zcl_n (by omega)])
    · have hv : ¬ V (42 + 2 * q) 1 = 0 := fun z => h19 (by rw [z]; decide)
      refine zAloadN d_X12_flung_22 rfl rfl (q := 23) rfl ?_
      refine zIloadN d_X12_flung_23 rfl rfl (q := 24) rfl ?_
      refine zCallVP d_X12_flung_24 ml_X12_279 k_X12_rowFault ki_X12_rowFault ks_X12_rowFault (sp_X12_rowFault (d := d - 1) (by omega) hH hBh hn50 hq) rfl rfl sh_64 (by decide) rfl (by decide) (Nat.le_of_ble_eq_true rfl) (by decide) (by omega) zns100 (q := 27) rfl ?_
      refine zIret d_X12_flung_27 rfl rfl rfl ?_
      refine ⟨_, rfl, Or.inr (Or.inl ⟨hc, hv, ?_, rfl⟩)⟩
      rw [if_neg hv]
  · have hc : w0 < -1 := by grind
    refine zIconst d_X12_flung_12 (v := -1) ic_m1 (q := 13) rfl ?_
    refine zIret d_X12_flung_13 rfl rfl rfl ?_
    exact ⟨_, rfl, Or.inl ⟨hc, rfl, rfl⟩⟩
theorem sp_X12_likely0 {i w0 : Int32} (hd : 3 ≤ d) (hi : ¬ (0 ≤ i ∧ i < 6)) : zPure g l d m_X12_likely [.ref 64, .int i, .int w0] I L fs (.long (-9223372036854775808)) := by
  refine zSp_of (lv := [(0, .ref 64), (1, .int i), (2, .int w0)]) k_X12_likely rfl (Nat.le_of_ble_eq_true rfl) ?_
  refine zIloadN d_X12_likely_0 rfl rfl (q := 1) rfl ?_
  refine zCallSP d_X12_likely_1 ml_X12_152 k_X12_isShelf kt_X12_isShelf (sp_X12_isShelf (d := d - 1) (by omega) ) rfl rfl (Nat.le_of_ble_eq_true rfl) (by decide) (by omega) zns100 (q := 4) rfl ?_
  refine zIf_eq d_X12_likely_4 (tgt := 24) (q := 7) (by decide) rfl (fun h4 => ?_) (fun h => absurd (zshelf_out hi) h)
  refine zLdc2 d_X12_likely_24 co_X12_286 (q := 27) rfl ?_
  refine zLret d_X12_likely_27 rfl rfl ?_
  exact zPl rfl
theorem sp_X12_mean0 {i w0 : Int32} (hd : 3 ≤ d) (hi : ¬ (0 ≤ i ∧ i < 6)) : zPure g l d m_X12_mean [.ref 64, .int i, .int w0] I L fs (.long (-9223372036854775808)) := by
  refine zSp_of (lv := [(0, .ref 64), (1, .int i), (2, .int w0)]) k_X12_mean rfl (Nat.le_of_ble_eq_true rfl) ?_
  refine zIloadN d_X12_mean_0 rfl rfl (q := 1) rfl ?_
  refine zCallSP d_X12_mean_1 ml_X12_152 k_X12_isShelf kt_X12_isShelf (sp_X12_isShelf (d := d - 1) (by omega) ) rfl rfl (Nat.le_of_ble_eq_true rfl) (by decide) (by omega) zns100 (q := 4) rfl ?_
  refine zIf_eq d_X12_mean_4 (tgt := 24) (q := 7) (by decide) rfl (fun h4 => ?_) (fun h => absurd (zshelf_out hi) h)
  refine zLdc2 d_X12_mean_24 co_X12_286 (q := 27) rfl ?_
  refine zLret d_X12_mean_27 rfl rfl ?_
  exact zPl rfl
theorem sp_X12_likely (hd : 6 ≤ d) (hM : zMs I V) (hK : zSky V ns nt nh) (hB : zBd V ns nt nh) (hH : zMh I V L K) (hBh : zBh V nb) (hn50 : nb ≤ 50) (hl : zMl I pg) {q m : Nat} (hq : q < 6) (hm : V (42 + 2 * q) 2 = nI m) (hm2 : m ≤ 60) {w0 : Int32} : zSp g l d 100 m_X12_likely [.ref 64, .int (nI q), .int w0] (zU I L fs) (fun v w =>
    (¬ (V (42 + 2 * q) 1 = 0 ∧ 0 ≤ w0 ∧ w0 ≤ 1) ∧ v = some (.long (-9223372036854775808)) ∧ w = zU I L fs) ∨
    ((V (42 + 2 * q) 1 = 0 ∧ 0 ≤ w0 ∧ w0 ≤ 1) ∧ v = some (.long (zPart (zMul (zPod V K ns (42 + 2 * q) pg) (zPn V K ns nt nh (42 + 2 * q))) (zTwl (zPn V K ns nt nh (42 + 2 * q))) w0)) ∧ ∃ J, w = zU J L fs ∧ zScr I J)) := by
  have hn10 := zPn_le (V := V) (K := K) (ns := ns) (nt := nt) (nh := nh) (r := 42 + 2 * q)
  have hok := zPn_ok (V := V) (K := K) (ns := ns) (nt := nt) (nh := nh) (r := 42 + 2 * q)
  obtain ⟨N, eN⟩ : ∃ N, N = zPn V K ns nt nh (42 + 2 * q) := ⟨_, rfl⟩
  rw [← eN] at hn10 hok ⊢
  obtain ⟨a, ha, ea⟩ := zMul_N (O := zPod V K ns (42 + 2 * q) pg) (fun k => zPod_in) N 0 (Nat.zero_le _) 1 (by decide)
  have eb := zTwl_N N 0 (Nat.zero_le _)
  have b12 : 12 ^ N ≤ 12 ^ 10 := Nat.pow_le_pow_right (by decide) hn10
  have b0 : 0 < 12 ^ N := Nat.pow_pos (by decide)
  have ea1 : zMul (zPod V K ns (42 + 2 * q) pg) N = lN a := ea
  have eb1 : zTwl N = lN (12 ^ N) := eb
  rw [ea1, eb1]
  have loop : ∀ (_ : V (42 + 2 * q) 1 = 0 ∧ 0 ≤ w0 ∧ w0 ≤ 1), ∀ i, i ≤ N → ∀ J, yPJ I V K ns nt (42 + 2 * q) N J → ∀ s t : Int64, zfor (fun k s => s * (zPod V K ns (42 + 2 * q) pg k).toInt64) N i s = lN a → zfor (fun _ s => s * (12 : Int64)) N i t = lN (12 ^ N) → zA g l d m_X12_likely J L fs 41 [(7, .int (nI i)), (5, .long t), (3, .long s), (0, .ref 64), (2, .int w0)] (fun v w =>
    (¬ (V (42 + 2 * q) 1 = 0 ∧ 0 ≤ w0 ∧ w0 ≤ 1) ∧ v = some (.long (-9223372036854775808)) ∧ w = zU I L fs) ∨
    ((V (42 + 2 * q) 1 = 0 ∧ 0 ≤ w0 ∧ w0 ≤ 1) ∧ v = some (.long (zPart (lN a) (lN (12 ^ N)) w0)) ∧ ∃ J, w = zU J L fs ∧ zScr I J)) := by
    intro hc
    refine zloop N (fun i hi ih J hJ s t hs ht => ?_)
    have j34 := hJ.2.1.1
    refine zIload d_X12_likely_41 rfl (q := 43) rfl ?_
    refine zAloadN d_X12_likely_43 rfl rfl (q := 44) rfl ?_
    refine zGetI d_X12_likely_44 ff_X12_270 sh_64 (by decide) (q := 47) rfl ?_
    rw [j34]
    refine zIcmp_ge d_X12_likely_47 (tgt := 74) (q := 50) (by decide) rfl (fun h47 => ?_) (fun h47 => ?_)
    · have e := nle h47
      rw [zfor_end e] at hs ht
      subst hs ht
      refine zLloadN d_X12_likely_74 rfl rfl (q := 75) rfl ?_
      refine zLload d_X12_likely_75 rfl (q := 77) rfl ?_
      refine zIloadN d_X12_likely_77 rfl rfl (q := 78) rfl ?_
      refine zCallSP d_X12_likely_78 ml_X12_293 k_X12_asPart kt_X12_asPart (sp_X12_asPart (d := d - 1) (by omega) (by omega) (by omega) b0 (z01 hc.2)) rfl rfl (Nat.le_of_ble_eq_true rfl) (by decide) (by omega) zns100 (q := 81) rfl ?_
      refine zLret d_X12_likely_81 rfl rfl ?_
      exact Or.inr ⟨hc, rfl, J, rfl, hJ.1⟩
    · have hlt := nnle h47
      rw [zfor_step hlt] at hs ht
      refine zLloadN d_X12_likely_50 rfl rfl (q := 51) rfl ?_
      refine zAloadN d_X12_likely_51 rfl rfl (q := 52) rfl ?_
      refine zIload d_X12_likely_52 rfl (q := 54) rfl ?_
      refine zCallVX d_X12_likely_54 ml_X12_288 k_X12_planOdds ki_X12_planOdds ks_X12_planOdds (sp_X12_planOdds (d := d - 1) (by omega) hM hK hl hJ hn10 hlt (hok i hlt)) rfl rfl sh_64 (by decide) rfl (by decide) (Nat.le_of_ble_eq_true rfl) (by decide) (by omega) zns100 (q := 57) rfl (fun x w' hw' => ?_)
      obtain ⟨rfl, J', rfl, hJ'⟩ := hw'
      refine zI2l d_X12_likely_57 (q := 58) rfl ?_
      refine zLmul d_X12_likely_58 (q := 59) rfl ?_
      refine zLstoreN d_X12_likely_59 rfl (by decide) rfl (q := 60) rfl ?_
      refine zLload d_X12_likely_60 rfl (q := 62) rfl ?_
      refine zLdc2 d_X12_likely_62 co_X12_291 (q := 65) rfl ?_
      refine zLmul d_X12_likely_65 (q := 66) rfl ?_
      refine zLstore d_X12_likely_66 (by decide) rfl (q := 68) rfl ?_
      refine zIinc d_X12_likely_68 rfl (zinc _) (by decide) rfl (q := 71) rfl ?_
      refine zGoto d_X12_likely_71 (q := 41) (by decide) ?_
      refine zSub [0, 1, 2, 3, 4] rfl ?_
      exact ih hlt J' hJ' _ _ hs ht
  refine zSp_of (lv := [(0, .ref 64), (1, .int (nI q)), (2, .int w0)]) k_X12_likely rfl (Nat.le_of_ble_eq_true rfl) ?_
  refine zIloadN d_X12_likely_0 rfl rfl (q := 1) rfl ?_
  refine zCallSP d_X12_likely_1 ml_X12_152 k_X12_isShelf kt_X12_isShelf (sp_X12_isShelf (d := d - 1) (by omega) ) rfl rfl (Nat.le_of_ble_eq_true rfl) (by decide) (by omega) zns100 (q := 4) rfl ?_
  refine zIf_eq d_X12_likely_4 (tgt := 24) (q := 7) (by decide) rfl (fun h => absurd h (zshelf_in hq)) (fun h4 => ?_)
  refine zIloadN d_X12_likely_7 rfl rfl (q := 8) rfl ?_
  refine zIconst d_X12_likely_8 (v := 0) ic_0 (q := 9) rfl ?_
  refine zIconst d_X12_likely_9 (v := 1) ic_1 (q := 10) rfl ?_
  refine zCallSP d_X12_likely_10 ml_X12_127 k_X12_in kt_X12_in (sp_X12_in (d := d - 1) (by omega) ) rfl rfl (Nat.le_of_ble_eq_true rfl) (by decide) (by omega) zns100 (q := 13) rfl ?_
  refine zIf_eq d_X12_likely_13 (tgt := 24) (q := 16) (by decide) rfl (fun h13 => ?_) (fun h13 => ?_)
  · have hno : ¬ (V (42 + 2 * q) 1 = 0 ∧ 0 ≤ w0 ∧ w0 ≤ 1) := fun z => bi_0.mp h13 z.2
    refine zLdc2 d_X12_likely_24 co_X12_286 (q := 27) rfl ?_
    refine zLret d_X12_likely_27 rfl rfl ?_
    exact Or.inl ⟨hno, rfl, rfl⟩
  · refine zAloadN d_X12_likely_16 rfl rfl (q := 17) rfl ?_
    refine zIloadN d_X12_likely_17 rfl rfl (q := 18) rfl ?_
    refine zCallVP d_X12_likely_18 ml_X12_279 k_X12_rowFault ki_X12_rowFault ks_X12_rowFault (sp_X12_rowFault (d := d - 1) (by omega) hH hBh hn50 hq) rfl rfl sh_64 (by decide) rfl (by decide) (Nat.le_of_ble_eq_true rfl) (by decide) (by omega) zns100 (q := 21) rfl ?_
    refine zIf_ge d_X12_likely_21 (tgt := 28) (q := 24) (by decide) rfl (fun h21 => ?_) (fun h21 => ?_)
    · have hv : V (42 + 2 * q) 1 = 0 := Decidable.byContradiction (fun z => by rw [if_neg z] at h21; revert h21; split <;> decide)
      have hyes : V (42 + 2 * q) 1 = 0 ∧ 0 ≤ w0 ∧ w0 ≤ 1 := And.intro hv (bi_n0.mp h13)
      refine zAloadN d_X12_likely_28 rfl rfl (q := 29) rfl ?_
      refine zIloadN d_X12_likely_29 rfl rfl (q := 30) rfl ?_
      refine zCallVV d_X12_likely_30 ml_X12_282 k_X12_layPlan ki_X12_layPlan ks_X12_layPlan (sp_X12_layPlan (d := d - 1) (by omega) hM hK hB hH hq hm hm2) rfl rfl sh_64 (by decide) rfl (by decide) (Nat.le_of_ble_eq_true rfl) (by decide) (by omega) zns100 (q := 33) rfl (fun w' hw' => ?_)
      obtain ⟨J, rfl, hJ⟩ := hw'
      rw [← eN] at hJ
      refine zLconst d_X12_likely_33 (v := 1) rfl (q := 34) rfl ?_
      refine zLstoreN d_X12_likely_34 rfl (by decide) rfl (q := 35) rfl ?_
      refine zLconst d_X12_likely_35 (v := 1) rfl (q := 36) rfl ?_
      refine zLstore d_X12_likely_36 (by decide) rfl (q := 38) rfl ?_
      refine zIconst d_X12_likely_38 (v := 0) ic_0 (q := 39) rfl ?_
      refine zIstore d_X12_likely_39 (by decide) rfl (q := 41) rfl ?_
      refine zSub [0, 1, 2, 3, 5] rfl ?_
      exact loop hyes 0 (Nat.zero_le _) J hJ 1 1 ea eb
    · have hno : ¬ (V (42 + 2 * q) 1 = 0 ∧ 0 ≤ w0 ∧ w0 ≤ 1) := fun z => h21 (by rw [z.1]; decide)
      refine zLdc2 d_X12_likely_24 co_X12_286 (q := 27) rfl ?_
      refine zLret d_X12_likely_27 rfl rfl ?_
      exact Or.inl ⟨hno, rfl, rfl⟩
theorem sp_X12_mean (hd : 6 ≤ d) (hM : zMs I V) (hK : zSky V ns nt nh) (hB : zBd V ns nt nh) (hH : zMh I V L K) (hBh : zBh V nb) (hn50 : nb ≤ 50) (hl : zMl I pg) {q m : Nat} (hq : q < 6) (hm : V (42 + 2 * q) 2 = nI m) (hm2 : m ≤ 60) {w0 : Int32} : zSp g l d 100 m_X12_mean [.ref 64, .int (nI q), .int w0] (zU I L fs) (fun v w =>
    (¬ (V (42 + 2 * q) 1 = 0 ∧ 0 ≤ w0 ∧ w0 ≤ 1) ∧ v = some (.long (-9223372036854775808)) ∧ w = zU I L fs) ∨
    ((V (42 + 2 * q) 1 = 0 ∧ 0 ≤ w0 ∧ w0 ≤ 1) ∧ v = some (.long (zPart (zSum (zPod V K ns (42 + 2 * q) pg) (zPn V K ns nt nh (42 + 2 * q))) 12 w0)) ∧ ∃ J, w = zU J L fs ∧ zScr I J)) := by
  have hn10 := zPn_le (V := V) (K := K) (ns := ns) (nt := nt) (nh := nh) (r := 42 + 2 * q)
  have hok := zPn_ok (V := V) (K := K) (ns := ns) (nt := nt) (nh := nh) (r := 42 + 2 * q)
  obtain ⟨N, eN⟩ : ∃ N, N = zPn V K ns nt nh (42 + 2 * q) := ⟨_, rfl⟩
  rw [← eN] at hn10 hok ⊢
  obtain ⟨a, ha, ea⟩ := zSum_N (O := zPod V K ns (42 + 2 * q) pg) (fun k => zPod_in) N 0 (Nat.zero_le _) 0 (by decide)
  have ea1 : zSum (zPod V K ns (42 + 2 * q) pg) N = lN a := ea
  rw [ea1, show (12 : Int64) = lN 12 from rfl]
  have loop : ∀ (_ : V (42 + 2 * q) 1 = 0 ∧ 0 ≤ w0 ∧ w0 ≤ 1), ∀ i, i ≤ N → ∀ J, yPJ I V K ns nt (42 + 2 * q) N J → ∀ s : Int64, zfor (fun k s => s + (zPod V K ns (42 + 2 * q) pg k).toInt64) N i s = lN a → zA g l d m_X12_mean J L fs 38 [(5, .int (nI i)), (3, .long s), (0, .ref 64), (2, .int w0)] (fun v w =>
    (¬ (V (42 + 2 * q) 1 = 0 ∧ 0 ≤ w0 ∧ w0 ≤ 1) ∧ v = some (.long (-9223372036854775808)) ∧ w = zU I L fs) ∨
    ((V (42 + 2 * q) 1 = 0 ∧ 0 ≤ w0 ∧ w0 ≤ 1) ∧ v = some (.long (zPart (lN a) (lN 12) w0)) ∧ ∃ J, w = zU J L fs ∧ zScr I J)) := by
    intro hc
    refine zloop N (fun i hi ih J hJ s hs => ?_)
    have j34 := hJ.2.1.1
    refine zIload d_X12_mean_38 rfl (q := 40) rfl ?_
    refine zAloadN d_X12_mean_40 rfl rfl (q := 41) rfl ?_
    refine zGetI d_X12_mean_41 ff_X12_270 sh_64 (by decide) (q := 44) rfl ?_
    rw [j34]
    refine zIcmp_ge d_X12_mean_44 (tgt := 63) (q := 47) (by decide) rfl (fun h44 => ?_) (fun h44 => ?_)
    · have e := nle h44
      rw [zfor_end e] at hs
      subst hs
      refine zLloadN d_X12_mean_63 rfl rfl (q := 64) rfl ?_
      refine zLdc2 d_X12_mean_64 co_X12_291 (q := 67) rfl ?_
      refine zIloadN d_X12_mean_67 rfl rfl (q := 68) rfl ?_
      refine zCallSP d_X12_mean_68 ml_X12_293 k_X12_asPart kt_X12_asPart (sp_X12_asPart (d := d - 1) (by omega) (p := a) (q := 12) (by omega) (by decide) (by decide) (z01 hc.2)) rfl rfl (Nat.le_of_ble_eq_true rfl) (by decide) (by omega) zns100 (q := 71) rfl ?_
      refine zLret d_X12_mean_71 rfl rfl ?_
      exact Or.inr ⟨hc, rfl, J, rfl, hJ.1⟩
    · have hlt := nnle h44
      rw [zfor_step hlt] at hs
      refine zLloadN d_X12_mean_47 rfl rfl (q := 48) rfl ?_
      refine zAloadN d_X12_mean_48 rfl rfl (q := 49) rfl ?_
      refine zIload d_X12_mean_49 rfl (q := 51) rfl ?_
      refine zCallVX d_X12_mean_51 ml_X12_288 k_X12_planOdds ki_X12_planOdds ks_X12_planOdds (sp_X12_planOdds (d := d - 1) (by omega) hM hK hl hJ hn10 hlt (hok i hlt)) rfl rfl sh_64 (by decide) rfl (by decide) (Nat.le_of_ble_eq_true rfl) (by decide) (by omega) zns100 (q := 54) rfl (fun x w' hw' => ?_)
      obtain ⟨rfl, J', rfl, hJ'⟩ := hw'
      refine zI2l d_X12_mean_54 (q := 55) rfl ?_
      refine zLadd d_X12_mean_55 (q := 56) rfl ?_
      refine zLstoreN d_X12_mean_56 rfl (by decide) rfl (q := 57) rfl ?_
      refine zIinc d_X12_mean_57 rfl (zinc _) (by decide) rfl (q := 60) rfl ?_
      refine zGoto d_X12_mean_60 (q := 38) (by decide) ?_
      refine zSub [0, 1, 2, 3] rfl ?_
      exact ih hlt J' hJ' _ hs
  refine zSp_of (lv := [(0, .ref 64), (1, .int (nI q)), (2, .int w0)]) k_X12_mean rfl (Nat.le_of_ble_eq_true rfl) ?_
  refine zIloadN d_X12_mean_0 rfl rfl (q := 1) rfl ?_
  refine zCallSP d_X12_mean_1 ml_X12_152 k_X12_isShelf kt_X12_isShelf (sp_X12_isShelf (d := d - 1) (by omega) ) rfl rfl (Nat.le_of_ble_eq_true rfl) (by decide) (by omega) zns100 (q := 4) rfl ?_
  refine zIf_eq d_X12_mean_4 (tgt := 24) (q := 7) (by decide) rfl (fun h => absurd h (zshelf_in hq)) (fun h4 => ?_)
  refine zIloadN d_X12_mean_7 rfl rfl (q := 8) rfl ?_
  refine zIconst d_X12_mean_8 (v := 0) ic_0 (q := 9) rfl ?_
  refine zIconst d_X12_mean_9 (v := 1) ic_1 (q := 10) rfl ?_
  refine zCallSP d_X12_mean_10 ml_X12_127 k_X12_in kt_X12_in (sp_X12_in (d := d - 1) (by omega) ) rfl rfl (Nat.le_of_ble_eq_true rfl) (by decide) (by omega) zns100 (q := 13) rfl ?_
  refine zIf_eq d_X12_mean_13 (tgt := 24) (q := 16) (by decide) rfl (fun h13 => ?_) (fun h13 => ?_)
  · have hno : ¬ (V (42 + 2 * q) 1 = 0 ∧ 0 ≤ w0 ∧ w0 ≤ 1) := fun z => bi_0.mp h13 z.2
    refine zLdc2 d_X12_mean_24 co_X12_286 (q := 27) rfl ?_
    refine zLret d_X12_mean_27 rfl rfl ?_
    exact Or.inl ⟨hno, rfl, rfl⟩
  · refine zAloadN d_X12_mean_16 rfl rfl (q := 17) rfl ?_
    refine zIloadN d_X12_mean_17 rfl rfl (q := 18) rfl ?_
    refine zCallVP d_X12_mean_18 ml_X12_279 k_X12_rowFault ki_X12_rowFault ks_X12_rowFault (sp_X12_rowFault (d := d - 1) (by omega) hH hBh hn50 hq) rfl rfl sh_64 (by decide) rfl (by decide) (Nat.le_of_ble_eq_true rfl) (by decide) (by omega) zns100 (q := 21) rfl ?_
    refine zIf_ge d_X12_mean_21 (tgt := 28) (q := 24) (by decide) rfl (fun h21 => ?_) (fun h21 => ?_)
    · have hv : V (42 + 2 * q) 1 = 0 := Decidable.byContradiction (fun z => by rw [if_neg z] at h21; revert h21; split <;> decide)
      have hyes : V (42 + 2 * q) 1 = 0 ∧ 0 ≤ w0 ∧ w0 ≤ 1 := And.intro hv (bi_n0.mp h13)
      refine zAloadN d_X12_mean_28 rfl rfl (q := 29) rfl ?_
      refine zIloadN d_X12_mean_29 rfl rfl (q := 30) rfl ?_
      refine zCallVV d_X12_mean_30 ml_X12_282 k_X12_layPlan ki_X12_layPlan ks_X12_layPlan (sp_X12_layPlan (d := d - 1) (by omega) hM hK hB hH hq hm hm2) rfl rfl sh_64 (by decide) rfl (by decide) (Nat.le_of_ble_eq_true rfl) (by decide) (by omega) zns100 (q := 33) rfl (fun w' hw' => ?_)
      obtain ⟨J, rfl, hJ⟩ := hw'
      rw [← eN] at hJ
      refine zLconst d_X12_mean_33 (v := 0) rfl (q := 34) rfl ?_
      refine zLstoreN d_X12_mean_34 rfl (by decide) rfl (q := 35) rfl ?_
      refine zIconst d_X12_mean_35 (v := 0) ic_0 (q := 36) rfl ?_
      refine zIstore d_X12_mean_36 (by decide) rfl (q := 38) rfl ?_
      refine zSub [0, 1, 2, 4] rfl ?_
      exact loop hyes 0 (Nat.zero_le _) J hJ 0 ea
    · have hno : ¬ (V (42 + 2 * q) 1 = 0 ∧ 0 ≤ w0 ∧ w0 ≤ 1) := fun z => h21 (by rw [z.1]; decide)
      refine zLdc2 d_X12_mean_24 co_X12_286 (q := 27) rfl ?_
      refine zLret d_X12_mean_27 rfl rfl ?_
      exact Or.inl ⟨hno, rfl, rfl⟩
theorem sp_X12_drawn0 {z i n star : Int32} (hd : 3 ≤ d) (hi : ¬ (0 ≤ i ∧ i < 6)) : zPure g l d m_X12_drawn [.ref 64, .int z, .int i, .int n, .int star] I L fs (.int (-1)) := by
  refine zSp_of (lv := [(0, .ref 64), (1, .int z), (2, .int i), (3, .int n), (4, .int star)]) k_X12_drawn rfl (Nat.le_of_ble_eq_true rfl) ?_
  refine zIloadN d_X12_drawn_0 rfl rfl (q := 1) rfl ?_
  refine zCallSP d_X12_drawn_1 ml_X12_152 k_X12_isShelf kt_X12_isShelf (sp_X12_isShelf (d := d - 1) (by omega) ) rfl rfl (Nat.le_of_ble_eq_true rfl) (by decide) (by omega) zns100 (q := 4) rfl ?_
  refine zIf_eq d_X12_drawn_4 (tgt := 32) (q := 7) (by decide) rfl (fun h4 => ?_) (fun h => absurd (zshelf_out hi) h)
  refine zIconst d_X12_drawn_32 (v := -1) ic_m1 (q := 33) rfl ?_
  refine zIret d_X12_drawn_33 rfl rfl rfl ?_
  exact zPi rfl
theorem sp_X12_drawn (hd : 6 ≤ d) (hM : zMs I V) (hK : zSky V ns nt nh) (hB : zBd V ns nt nh) (hH : zMh I V L K) (hBh : zBh V nb) (hn50 : nb ≤ 50) (hl : zMl I pg) {q m : Nat} (hq : q < 6) (hm : V (42 + 2 * q) 2 = nI m) (hm2 : m ≤ 60) {z n star : Int32} : zSp g l d 100 m_X12_drawn [.ref 64, .int z, .int (nI q), .int n, .int star] (zU I L fs) (zX (fun x w =>
    (¬ ((1 ≤ n ∧ n ≤ 30) ∧ (star = -1 ∨ 0 ≤ star ∧ star < nI ns)) ∧ x = -1 ∧ w = zU I L fs) ∨ (((1 ≤ n ∧ n ≤ 30) ∧ (star = -1 ∨ 0 ≤ star ∧ star < nI ns)) ∧ ¬ V (42 + 2 * q) 1 = 0 ∧ x = (if V (42 + 2 * q) 1 = -1 then -11 else -12) ∧ w = zU I L fs) ∨
    (((1 ≤ n ∧ n ≤ 30) ∧ (star = -1 ∨ 0 ≤ star ∧ star < nI ns)) ∧ V (42 + 2 * q) 1 = 0 ∧ x = (zfor (fun _ s => zDrS V ns nh (zPw V K (42 + 2 * q)) (zPod V K ns (42 + 2 * q) pg) (zPn V K ns nt nh (42 + 2 * q)) star s) n.toNatClampNeg 0 (0, z)).1 ∧ ∃ J, w = zU J L fs ∧ zScr I J))) := by
  have hnh := hK.2.2.2
  have hn10 := zPn_le (V := V) (K := K) (ns := ns) (nt := nt) (nh := nh) (r := 42 + 2 * q)
  have hok := zPn_ok (V := V) (K := K) (ns := ns) (nt := nt) (nh := nh) (r := 42 + 2 * q)
  obtain ⟨N, eN⟩ : ∃ N, N = zPn V K ns nt nh (42 + 2 * q) := ⟨_, rfl⟩
  rw [← eN] at hn10 hok ⊢
  obtain ⟨S, eS⟩ : ∃ S, S = zPw V K (42 + 2 * q) := ⟨_, rfl⟩
  obtain ⟨O, eO⟩ : ∃ O, O = zPod V K ns (42 + 2 * q) pg := ⟨_, rfl⟩
  rw [← eS, ← eO]
  have loop : ∀ (_ : V (42 + 2 * q) 1 = 0) (n : Nat) (_ : (1 ≤ nI n ∧ nI n ≤ 30) ∧ (star = -1 ∨ 0 ≤ star ∧ star < nI ns)) (_ : n < 31), ∀ i, i ≤ n → ∀ J, yPJ I V K ns nt (42 + 2 * q) N J → ∀ s : Int32 × Int32, zA g l d m_X12_drawn J L fs 62 [(7, .int (nI i)), (6, .int s.1), (5, .int s.2), (0, .ref 64), (3, .int (nI n)), (4, .int star)] (zX (fun x w =>
    (¬ ((1 ≤ nI n ∧ nI n ≤ 30) ∧ (star = -1 ∨ 0 ≤ star ∧ star < nI ns)) ∧ x = -1 ∧ w = zU I L fs) ∨ (((1 ≤ nI n ∧ nI n ≤ 30) ∧ (star = -1 ∨ 0 ≤ star ∧ star < nI ns)) ∧ ¬ V (42 + 2 * q) 1 = 0 ∧ x = (if V (42 + 2 * q) 1 = -1 then -11 else -12) ∧ w = zU I L fs) ∨
    (((1 ≤ nI n ∧ nI n ≤ 30) ∧ (star = -1 ∨ 0 ≤ star ∧ star < nI ns)) ∧ V (42 + 2 * q) 1 = 0 ∧ x = (zfor (fun _ s => zDrS V ns nh S O N star s) n i s).1 ∧ ∃ J, w = zU J L fs ∧ zScr I J))) := by
    intro hv n hc hn31
    refine zloop n (fun i hi ih J hJ s => ?_)
    have inner : i < n → ∀ k, k ≤ N → ∀ J, yPJ I V K ns nt (42 + 2 * q) N J → ∀ u : Int32 × Int32, zfor (fun k s => (if zDraw (zNx s.2) < O k then s.1 ||| ((1 : Int32) <<< (S k &&& 31)) else s.1, zNx s.2)) N k u = zNt S O N (zbits (V 7) ns, s.2) → zA g l d m_X12_drawn J L fs 77 [(9, .int (nI k)), (8, .int u.1), (7, .int (nI i)), (6, .int s.1), (5, .int u.2), (0, .ref 64), (3, .int (nI n)), (4, .int star)] (zX (fun x w =>
    (¬ ((1 ≤ nI n ∧ nI n ≤ 30) ∧ (star = -1 ∨ 0 ≤ star ∧ star < nI ns)) ∧ x = -1 ∧ w = zU I L fs) ∨ (((1 ≤ nI n ∧ nI n ≤ 30) ∧ (star = -1 ∨ 0 ≤ star ∧ star < nI ns)) ∧ ¬ V (42 + 2 * q) 1 = 0 ∧ x = (if V (42 + 2 * q) 1 = -1 then -11 else -12) ∧ w = zU I L fs) ∨
    (((1 ≤ nI n ∧ nI n ≤ 30) ∧ (star = -1 ∨ 0 ≤ star ∧ star < nI ns)) ∧ V (42 + 2 * q) 1 = 0 ∧ x = (zfor (fun _ s => zDrS V ns nh S O N star s) n i s).1 ∧ ∃ J, w = zU J L fs ∧ zScr I J))) := by
      intro hin
      refine zloop N (fun k hk ih2 J hJ u hx => ?_)
      have j34 := hJ.2.1.1
      refine zIload d_X12_drawn_77 rfl (q := 79) rfl ?_
      refine zAloadN d_X12_drawn_79 rfl rfl (q := 80) rfl ?_
      refine zGetI d_X12_drawn_80 ff_X12_270 sh_64 (by decide) (q := 83) rfl ?_
      rw [j34]
      refine zIcmp_ge d_X12_drawn_83 (tgt := 135) (q := 86) (by decide) rfl (fun h83 => ?_) (fun h83 => ?_)
      · have e := nle h83
        rw [zfor_end e] at hx
        rw [zfor_step hin]
        have eD : zDrS V ns nh S O N star s = (s.1 + (if star = -1 then zbc (zSteer V nh u.1) else (u.1 >>> (star &&& 31)) &&& 1), u.2) := by unfold zDrS; rw [← hx]
        rw [eD]
        refine zIload d_X12_drawn_135 rfl (q := 137) rfl ?_
        refine zIload d_X12_drawn_137 rfl (q := 139) rfl ?_
        refine zIf_ge d_X12_drawn_139 (tgt := 154) (q := 142) (by decide) rfl (fun h139 => ?_) (fun h139 => ?_)
        · have es : ¬ star = -1 := fun y => by rw [y] at h139; exact absurd h139 (by decide)
          rw [if_neg es]
          refine zIload d_X12_drawn_154 rfl (q := 156) rfl ?_
          refine zIload d_X12_drawn_156 rfl (q := 158) rfl ?_
          refine zIshr d_X12_drawn_158 (q := 159) rfl ?_
          refine zIconst d_X12_drawn_159 (v := 1) ic_1 (q := 160) rfl ?_
          refine zIand d_X12_drawn_160 (q := 161) rfl ?_
          refine zIadd d_X12_drawn_161 (q := 162) rfl ?_
          refine zIstore d_X12_drawn_162 (by decide) rfl (q := 164) rfl ?_
          refine zIinc d_X12_drawn_164 rfl (zinc _) (by decide) rfl (q := 167) rfl ?_
          refine zGoto d_X12_drawn_167 (q := 62) (by decide) ?_
          refine zSub [0, 1, 4, 5, 6, 7] rfl ?_
          first
          | exact ih hin J hJ (s.1 + zbc (nI (zN (fun k => decide (¬ V 11 k &&& u.1 = 0)) nh)), u.2)
          | exact ih hin J hJ (s.1 + ((u.1 >>> (star &&& 31)) &&& 1), u.2)
        · have es : star = -1 := by rcases hc.2 with y | y; exact y; exact absurd y.1 h139
          rw [if_pos es]
          refine zAloadN d_X12_drawn_142 rfl rfl (q := 143) rfl ?_
          refine zIload d_X12_drawn_143 rfl (q := 145) rfl ?_
          refine zCallVP d_X12_drawn_145 ml_X12_324 k_X12_steerBy ki_X12_steerBy ks_X12_steerBy (sp_X12_steerBy (d := d - 1) (by omega) (zScr_s hJ.1 hM) hK) rfl rfl sh_64 (by decide) rfl (by decide) (Nat.le_of_ble_eq_true rfl) (by decide) (by omega) zns100 (q := 148) rfl ?_
          rw [zsteer_N (by omega)]
          refine zCallSP d_X12_drawn_148 ml_X12_312 k_X12_bitsOf kt_X12_bitsOf (sp_X12_bitsOf (d := d - 1) (by omega) (zN_1024 (by omega))) rfl rfl (Nat.le_of_ble_eq_true rfl) (by decide) (by omega) zns100 (q := 151) rfl ?_
          refine zGoto d_X12_drawn_151 (q := 161) (by decide) ?_
          refine zIadd d_X12_drawn_161 (q := 162) rfl ?_
          refine zIstore d_X12_drawn_162 (by decide) rfl (q := 164) rfl ?_
          refine zIinc d_X12_drawn_164 rfl (zinc _) (by decide) rfl (q := 167) rfl ?_
          refine zGoto d_X12_drawn_167 (q := 62) (by decide) ?_
          refine zSub [0, 1, 4, 5, 6, 7] rfl ?_
          first
          | exact ih hin J hJ (s.1 + zbc (nI (zN (fun k => decide (¬ V 11 k &&& u.1 = 0)) nh)), u.2)
          | exact ih hin J hJ (s.1 + ((u.1 >>> (star &&& 31)) &&& 1), u.2)
      · have hlt := nnle h83
        rw [zfor_step hlt] at hx
        refine zIload d_X12_drawn_86 rfl (q := 88) rfl ?_
        refine zLdcw d_X12_drawn_88 co_X12_354 (q := 91) rfl ?_
        refine zImul d_X12_drawn_91 (q := 92) rfl ?_
        refine zSipush d_X12_drawn_92 (v := 12345) sc_12345 (q := 95) rfl ?_
        refine zIadd d_X12_drawn_95 (q := 96) rfl ?_
        refine zIstore d_X12_drawn_96 (by decide) rfl (q := 98) rfl ?_
        refine zIload d_X12_drawn_98 rfl (q := 100) rfl ?_
        refine zBipush d_X12_drawn_100 (v := 8) bc_8 (q := 102) rfl ?_
        refine zIushr d_X12_drawn_102 (q := 103) rfl ?_
        refine zBipush d_X12_drawn_103 (v := 12) bc_12 (q := 105) rfl ?_
        refine zIrem d_X12_drawn_105 (by decide) (q := 106) rfl ?_
        refine zAloadN d_X12_drawn_106 rfl rfl (q := 107) rfl ?_
        refine zIload d_X12_drawn_107 rfl (q := 109) rfl ?_
        refine zCallVX d_X12_drawn_109 ml_X12_288 k_X12_planOdds ki_X12_planOdds ks_X12_planOdds (sp_X12_planOdds (d := d - 1) (by omega) hM hK hl hJ hn10 hlt (hok k hlt)) rfl rfl sh_64 (by decide) rfl (by decide) (Nat.le_of_ble_eq_true rfl) (by decide) (by omega) zns100 (q := 112) rfl (fun x w' hw' => ?_)
        obtain ⟨rfl, J', rfl, hJ'⟩ := hw'
        rw [← eO]
        rw [show u.2 * 1103515245 + 12345 = zNx u.2 from rfl]
        refine zIcmp_ge d_X12_drawn_112 (tgt := 129) (q := 115) (by decide) rfl (fun h112 => ?_) (fun h112 => ?_)
        · have h112' : ¬ zDraw (zNx u.2) < O k := Int32.not_lt.mpr h112
          refine zIinc d_X12_drawn_129 rfl (zinc _) (by decide) rfl (q := 132) rfl ?_
          refine zGoto d_X12_drawn_132 (q := 77) (by decide) ?_
          refine zSub [0, 2, 3, 4, 1, 5, 6, 7] rfl ?_
          first
          | exact ih2 hlt J' hJ' (u.1, zNx u.2) (by rw [← hx]; congr 1; exact congrArg (fun y => (y, zNx u.2)) (if_neg h112').symm)
          | exact ih2 hlt J' hJ' (u.1 ||| ((1 : Int32) <<< (S k &&& 31)), zNx u.2) (by rw [← hx]; congr 1; exact congrArg (fun y => (y, zNx u.2)) (if_pos h112').symm)
        · have h112' : zDraw (zNx u.2) < O k := Int32.not_le.mp h112
          refine zIload d_X12_drawn_115 rfl (q := 117) rfl ?_
          refine zIconst d_X12_drawn_117 (v := 1) ic_1 (q := 118) rfl ?_
          refine zAloadN d_X12_drawn_118 rfl rfl (q := 119) rfl ?_
          refine zGetR d_X12_drawn_119 ff_X12_80 sh_64 (by decide) r_64_35 (q := 122) rfl ?_
          refine zIload d_X12_drawn_122 rfl (q := 124) rfl ?_
          refine zIald d_X12_drawn_124 sh_87 (by decide) rfl (by omega) (q := 125) rfl ?_
          rw [show J' 87 k = S k by rw [eS]; exact (hJ'.2.2.2 k hlt).1]
          refine zIshl d_X12_drawn_125 (q := 126) rfl ?_
          refine zIor d_X12_drawn_126 (q := 127) rfl ?_
          refine zIstore d_X12_drawn_127 (by decide) rfl (q := 129) rfl ?_
          refine zIinc d_X12_drawn_129 rfl (zinc _) (by decide) rfl (q := 132) rfl ?_
          refine zGoto d_X12_drawn_132 (q := 77) (by decide) ?_
          refine zSub [0, 1, 3, 4, 2, 5, 6, 7] rfl ?_
          first
          | exact ih2 hlt J' hJ' (u.1, zNx u.2) (by rw [← hx]; congr 1; exact congrArg (fun y => (y, zNx u.2)) (if_neg h112').symm)
          | exact ih2 hlt J' hJ' (u.1 ||| ((1 : Int32) <<< (S k &&& 31)), zNx u.2) (by rw [← hx]; congr 1; exact congrArg (fun y => (y, zNx u.2)) (if_pos h112').symm)
    refine zIload d_X12_drawn_62 rfl (q := 64) rfl ?_
    refine zIloadN d_X12_drawn_64 rfl rfl (q := 65) rfl ?_
    refine zIcmp_ge d_X12_drawn_65 (tgt := 170) (q := 68) (by decide) rfl (fun h65 => ?_) (fun h65 => ?_)
    · have e := nle h65
      rw [zfor_end e]
      refine zIload d_X12_drawn_170 rfl (q := 172) rfl ?_
      refine zIret d_X12_drawn_172 rfl rfl rfl ?_
      exact ⟨_, rfl, Or.inr (Or.inr ⟨hc, hv, rfl, J, rfl, hJ.1⟩)⟩
    · have hlt := nnle h65
      refine zAloadN d_X12_drawn_68 rfl rfl (q := 69) rfl ?_
      refine zCallVP d_X12_drawn_69 ml_X12_321 k_X12_upNow ki_X12_upNow ks_X12_upNow (sp_X12_upNow (d := d - 1) (by omega) (zScr_s hJ.1 hM) hK hB) rfl rfl sh_64 (by decide) rfl (by decide) (Nat.le_of_ble_eq_true rfl) (by decide) (by omega) zns100 (q := 72) rfl ?_
      refine zIstore d_X12_drawn_72 (by decide) rfl (q := 74) rfl ?_
      refine zIconst d_X12_drawn_74 (v := 0) ic_0 (q := 75) rfl ?_
      refine zIstore d_X12_drawn_75 (by decide) rfl (q := 77) rfl ?_
      refine zSub [0, 1, 2, 3, 4, 5, 6, 7] rfl ?_
      exact inner hlt 0 (Nat.zero_le _) J hJ (zbits (V 7) ns, s.2) rfl
  refine zSp_of (lv := [(0, .ref 64), (1, .int z), (2, .int (nI q)), (3, .int n), (4, .int star)]) k_X12_drawn rfl (Nat.le_of_ble_eq_true rfl) ?_
  refine zIloadN d_X12_drawn_0 rfl rfl (q := 1) rfl ?_
  refine zCallSP d_X12_drawn_1 ml_X12_152 k_X12_isShelf kt_X12_isShelf (sp_X12_isShelf (d := d - 1) (by omega) ) rfl rfl (Nat.le_of_ble_eq_true rfl) (by decide) (by omega) zns100 (q := 4) rfl ?_
  refine zIf_eq d_X12_drawn_4 (tgt := 32) (q := 7) (by decide) rfl (fun h => absurd h (zshelf_in hq)) (fun h4 => ?_)
  refine zIloadN d_X12_drawn_7 rfl rfl (q := 8) rfl ?_
  refine zIconst d_X12_drawn_8 (v := 1) ic_1 (q := 9) rfl ?_
  refine zBipush d_X12_drawn_9 (v := 30) bc_30 (q := 11) rfl ?_
  refine zCallSP d_X12_drawn_11 ml_X12_127 k_X12_in kt_X12_in (sp_X12_in (d := d - 1) (by omega) ) rfl rfl (Nat.le_of_ble_eq_true rfl) (by decide) (by omega) zns100 (q := 14) rfl ?_
  refine zIf_eq d_X12_drawn_14 (tgt := 32) (q := 17) (by decide) rfl (fun h14 => ?_) (fun h14 => ?_)
  · have hc : ¬ ((1 ≤ n ∧ n ≤ 30) ∧ (star = -1 ∨ 0 ≤ star ∧ star < nI ns)) := fun y => bi_0.mp h14 y.1
    refine zIconst d_X12_drawn_32 (v := -1) ic_m1 (q := 33) rfl ?_
    refine zIret d_X12_drawn_33 rfl rfl rfl ?_
    exact ⟨_, rfl, Or.inl ⟨hc, rfl, rfl⟩⟩
  · refine zIload d_X12_drawn_17 rfl (q := 19) rfl ?_
    refine zIconst d_X12_drawn_19 (v := -1) ic_m1 (q := 20) rfl ?_
    refine zIcmp_eq d_X12_drawn_20 (tgt := 34) (q := 23) (by decide) rfl (fun h20 => ?_) (fun h20 => ?_)
    · have hc : (1 ≤ n ∧ n ≤ 30) ∧ (star = -1 ∨ 0 ≤ star ∧ star < nI ns) := And.intro (bi_n0.mp h14) (Or.inl h20)
      refine zAloadN d_X12_drawn_34 rfl rfl (q := 35) rfl ?_
      refine zIloadN d_X12_drawn_35 rfl rfl (q := 36) rfl ?_
      refine zCallVP d_X12_drawn_36 ml_X12_279 k_X12_rowFault ki_X12_rowFault ks_X12_rowFault (sp_X12_rowFault (d := d - 1) (by omega) hH hBh hn50 hq) rfl rfl sh_64 (by decide) rfl (by decide) (Nat.le_of_ble_eq_true rfl) (by decide) (by omega) zns100 (q := 39) rfl ?_
      refine zIf_ge d_X12_drawn_39 (tgt := 48) (q := 42) (by decide) rfl (fun h39 => ?_) (fun h39 => ?_)
      · have hv : V (42 + 2 * q) 1 = 0 := Decidable.byContradiction (fun z => by rw [if_neg z] at h39; revert h39; split <;> decide)
        obtain ⟨k, hk, rfl⟩ := zn1 (x := n) (n := 31) (by omega) (by have := hc.1.1; grind) (by have := hc.1.2; have e31 : nI 31 = 31 := rfl; grind)
        rw [zcl_n (by omega)]
        refine zAloadN d_X12_drawn_48 rfl rfl (q := 49) rfl ?_
        refine zIloadN d_X12_drawn_49 rfl rfl (q := 50) rfl ?_
        refine zCallVV d_X12_drawn_50 ml_X12_282 k_X12_layPlan ki_X12_layPlan ks_X12_layPlan (sp_X12_layPlan (d := d - 1) (by omega) hM hK hB hH hq hm hm2) rfl rfl sh_64 (by decide) rfl (by decide) (Nat.le_of_ble_eq_true rfl) (by decide) (by omega) zns100 (q := 53) rfl (fun w' hw' => ?_)
        obtain ⟨J, rfl, hJ⟩ := hw'
        rw [← eN] at hJ
        refine zIloadN d_X12_drawn_53 rfl rfl (q := 54) rfl ?_
        refine zIstore d_X12_drawn_54 (by decide) rfl (q := 56) rfl ?_
        refine zIconst d_X12_drawn_56 (v := 0) ic_0 (q := 57) rfl ?_
        refine zIstore d_X12_drawn_57 (by decide) rfl (q := 59) rfl ?_
        refine zIconst d_X12_drawn_59 (v := 0) ic_0 (q := 60) rfl ?_
        refine zIstore d_X12_drawn_60 (by decide) rfl (q := 62) rfl ?_
        refine zSub [0, 1, 2, 3, 6, 7] rfl ?_
        exact loop hv k hc hk 0 (Nat.zero_le _) J hJ (0, z)
      · have hv : ¬ V (42 + 2 * q) 1 = 0 := fun z => h39 (by rw [z]; decide)
        refine zAloadN d_X12_drawn_42 rfl rfl (q := 43) rfl ?_
        refine zIloadN d_X12_drawn_43 rfl rfl (q := 44) rfl ?_
        refine zCallVP d_X12_drawn_44 ml_X12_279 k_X12_rowFault ki_X12_rowFault ks_X12_rowFault (sp_X12_rowFault (d := d - 1) (by omega) hH hBh hn50 hq) rfl rfl sh_64 (by decide) rfl (by decide) (Nat.le_of_ble_eq_true rfl) (by decide) (by omega) zns100 (q := 47) rfl ?_
        refine zIret d_X12_drawn_47 rfl rfl rfl ?_
        refine ⟨_, rfl, Or.inr (Or.inl ⟨hc, hv, ?_, rfl⟩)⟩
        rw [if_neg hv]
    · refine zAloadN d_X12_drawn_23 rfl rfl (q := 24) rfl ?_
      refine zIload d_X12_drawn_24 rfl (q := 26) rfl ?_
      refine zCallVP d_X12_drawn_26 ml_X12_134 k_X12_isStar ki_X12_isStar ks_X12_isStar (sp_X12_isStar (d := d - 1) (by omega) hM hK) rfl rfl sh_64 (by decide) rfl (by decide) (Nat.le_of_ble_eq_true rfl) (by decide) (by omega) zns100 (q := 29) rfl ?_
      refine zIf_ne d_X12_drawn_29 (tgt := 34) (q := 32) (by decide) rfl (fun h29 => ?_) (fun h29 => ?_)
      · have hc : (1 ≤ n ∧ n ≤ 30) ∧ (star = -1 ∨ 0 ≤ star ∧ star < nI ns) := And.intro (bi_n0.mp h14) (Or.inr (bi_n0.mp h29))
        refine zAloadN d_X12_drawn_34 rfl rfl (q := 35) rfl ?_
        refine zIloadN d_X12_drawn_35 rfl rfl (q := 36) rfl ?_
        refine zCallVP d_X12_drawn_36 ml_X12_279 k_X12_rowFault ki_X12_rowFault ks_X12_rowFault (sp_X12_rowFault (d := d - 1) (by omega) hH hBh hn50 hq) rfl rfl sh_64 (by decide) rfl (by decide) (Nat.le_of_ble_eq_true rfl) (by decide) (by omega) zns100 (q := 39) rfl ?_
        refine zIf_ge d_X12_drawn_39 (tgt := 48) (q := 42) (by decide) rfl (fun h39 => ?_) (fun h39 => ?_)
        · have hv : V (42 + 2 * q) 1 = 0 := Decidable.byContradiction (fun z => by rw [if_neg z] at h39; revert h39; split <;> decide)
          obtain ⟨k, hk, rfl⟩ := zn1 (x := n) (n := 31) (by omega) (by have := hc.1.1; grind) (by have := hc.1.2; have e31 : nI 31 = 31 := rfl; grind)
          rw [zcl_n (by omega)]
          refine zAloadN d_X12_drawn_48 rfl rfl (q := 49) rfl ?_
          refine zIloadN d_X12_drawn_49 rfl rfl (q := 50) rfl ?_
          refine zCallVV d_X12_drawn_50 ml_X12_282 k_X12_layPlan ki_X12_layPlan ks_X12_layPlan (sp_X12_layPlan (d := d - 1) (by omega) hM hK hB hH hq hm hm2) rfl rfl sh_64 (by decide) rfl (by decide) (Nat.le_of_ble_eq_true rfl) (by decide) (by omega) zns100 (q := 53) rfl (fun w' hw' => ?_)
          obtain ⟨J, rfl, hJ⟩ := hw'
          rw [← eN] at hJ
          refine zIloadN d_X12_drawn_53 rfl rfl (q := 54) rfl ?_
          refine zIstore d_X12_drawn_54 (by decide) rfl (q := 56) rfl ?_
          refine zIconst d_X12_drawn_56 (v := 0) ic_0 (q := 57) rfl ?_
          refine zIstore d_X12_drawn_57 (by decide) rfl (q := 59) rfl ?_
          refine zIconst d_X12_drawn_59 (v := 0) ic_0 (q := 60) rfl ?_
          refine zIstore d_X12_drawn_60 (by decide) rfl (q := 62) rfl ?_
          refine zSub [0, 1, 2, 3, 6, 7] rfl ?_
          exact loop hv k hc hk 0 (Nat.zero_le _) J hJ (0, z)
        · have hv : ¬ V (42 + 2 * q) 1 = 0 := fun z => h39 (by rw [z]; decide)
          refine zAloadN d_X12_drawn_42 rfl rfl (q := 43) rfl ?_
          refine zIloadN d_X12_drawn_43 rfl rfl (q := 44) rfl ?_
          refine zCallVP d_X12_drawn_44 ml_X12_279 k_X12_rowFault ki_X12_rowFault ks_X12_rowFault (sp_X12_rowFault (d := d - 1) (by omega) hH hBh hn50 hq) rfl rfl sh_64 (by decide) rfl (by decide) (Nat.le_of_ble_eq_true rfl) (by decide) (by omega) zns100 (q := 47) rfl ?_
          refine zIret d_X12_drawn_47 rfl rfl rfl ?_
          refine ⟨_, rfl, Or.inr (Or.inl ⟨hc, hv, ?_, rfl⟩)⟩
          rw [if_neg hv]
      · have hc : ¬ ((1 ≤ n ∧ n ≤ 30) ∧ (star = -1 ∨ 0 ≤ star ∧ star < nI ns)) := fun y => y.2.elim h20 (bi_0.mp h29)
        refine zIconst d_X12_drawn_32 (v := -1) ic_m1 (q := 33) rfl ?_
        refine zIret d_X12_drawn_33 rfl rfl rfl ?_
        exact ⟨_, rfl, Or.inl ⟨hc, rfl, rfl⟩⟩
end S63

