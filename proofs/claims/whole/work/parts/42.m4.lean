theorem d_X12_changes_0 : decode (zmc m_X12_changes) 0 = .ok (.aload_n 0, 1) := by decide +kernel
theorem d_X12_changes_1 : decode (zmc m_X12_changes) 1 = .ok (.iload_n 1, 1) := by decide +kernel
theorem d_X12_changes_2 : decode (zmc m_X12_changes) 2 = .ok (.iload_n 2, 1) := by decide +kernel
theorem d_X12_changes_3 : decode (zmc m_X12_changes) 3 = .ok (.invokevirtual 164, 3) := by decide +kernel
theorem d_X12_changes_6 : decode (zmc m_X12_changes) 6 = .ok (.istore 4, 2) := by decide +kernel
theorem d_X12_changes_8 : decode (zmc m_X12_changes) 8 = .ok (.iload 4, 2) := by decide +kernel
theorem d_X12_changes_10 : decode (zmc m_X12_changes) 10 = .ok (.iload_n 3, 1) := by decide +kernel
theorem d_X12_changes_11 : decode (zmc m_X12_changes) 11 = .ok (.if_icmp .ne 6, 3) := by decide +kernel
theorem d_X12_changes_14 : decode (zmc m_X12_changes) 14 = .ok (.iload 4, 2) := by decide +kernel
theorem d_X12_changes_16 : decode (zmc m_X12_changes) 16 = .ok (.ireturn, 1) := by decide +kernel
theorem d_X12_changes_17 : decode (zmc m_X12_changes) 17 = .ok (.aload_n 0, 1) := by decide +kernel
theorem d_X12_changes_18 : decode (zmc m_X12_changes) 18 = .ok (.iconst 0, 1) := by decide +kernel
theorem d_X12_changes_19 : decode (zmc m_X12_changes) 19 = .ok (.putfield 168, 3) := by decide +kernel
theorem d_X12_changes_22 : decode (zmc m_X12_changes) 22 = .ok (.aload_n 0, 1) := by decide +kernel
theorem d_X12_changes_23 : decode (zmc m_X12_changes) 23 = .ok (.getfield 171, 3) := by decide +kernel
theorem d_X12_changes_26 : decode (zmc m_X12_changes) 26 = .ok (.bipush 40, 2) := by decide +kernel
theorem d_X12_changes_28 : decode (zmc m_X12_changes) 28 = .ok (.if_icmp .ne 93, 3) := by decide +kernel
theorem d_X12_changes_31 : decode (zmc m_X12_changes) 31 = .ok (.iconst 1, 1) := by decide +kernel
theorem d_X12_changes_32 : decode (zmc m_X12_changes) 32 = .ok (.istore 5, 2) := by decide +kernel
theorem d_X12_changes_34 : decode (zmc m_X12_changes) 34 = .ok (.iload 5, 2) := by decide +kernel
theorem d_X12_changes_36 : decode (zmc m_X12_changes) 36 = .ok (.bipush 40, 2) := by decide +kernel
theorem d_X12_changes_38 : decode (zmc m_X12_changes) 38 = .ok (.if_icmp .ge 73, 3) := by decide +kernel
theorem d_X12_changes_41 : decode (zmc m_X12_changes) 41 = .ok (.aload_n 0, 1) := by decide +kernel
theorem d_X12_changes_42 : decode (zmc m_X12_changes) 42 = .ok (.getfield 42, 3) := by decide +kernel
theorem d_X12_changes_45 : decode (zmc m_X12_changes) 45 = .ok (.iload 5, 2) := by decide +kernel
theorem d_X12_changes_47 : decode (zmc m_X12_changes) 47 = .ok (.iconst 1, 1) := by decide +kernel
theorem d_X12_changes_48 : decode (zmc m_X12_changes) 48 = .ok (.isub, 1) := by decide +kernel
theorem d_X12_changes_49 : decode (zmc m_X12_changes) 49 = .ok (.aload_n 0, 1) := by decide +kernel
theorem d_X12_changes_50 : decode (zmc m_X12_changes) 50 = .ok (.getfield 42, 3) := by decide +kernel
theorem d_X12_changes_53 : decode (zmc m_X12_changes) 53 = .ok (.iload 5, 2) := by decide +kernel
theorem d_X12_changes_55 : decode (zmc m_X12_changes) 55 = .ok (.iaload, 1) := by decide +kernel
theorem d_X12_changes_56 : decode (zmc m_X12_changes) 56 = .ok (.iastore, 1) := by decide +kernel
theorem d_X12_changes_57 : decode (zmc m_X12_changes) 57 = .ok (.aload_n 0, 1) := by decide +kernel
theorem d_X12_changes_58 : decode (zmc m_X12_changes) 58 = .ok (.getfield 45, 3) := by decide +kernel
theorem d_X12_changes_61 : decode (zmc m_X12_changes) 61 = .ok (.iload 5, 2) := by decide +kernel
theorem d_X12_changes_63 : decode (zmc m_X12_changes) 63 = .ok (.iconst 1, 1) := by decide +kernel
theorem d_X12_changes_64 : decode (zmc m_X12_changes) 64 = .ok (.isub, 1) := by decide +kernel
theorem d_X12_changes_65 : decode (zmc m_X12_changes) 65 = .ok (.aload_n 0, 1) := by decide +kernel
theorem d_X12_changes_66 : decode (zmc m_X12_changes) 66 = .ok (.getfield 45, 3) := by decide +kernel
theorem d_X12_changes_69 : decode (zmc m_X12_changes) 69 = .ok (.iload 5, 2) := by decide +kernel
theorem d_X12_changes_71 : decode (zmc m_X12_changes) 71 = .ok (.iaload, 1) := by decide +kernel
theorem d_X12_changes_72 : decode (zmc m_X12_changes) 72 = .ok (.iastore, 1) := by decide +kernel
theorem d_X12_changes_73 : decode (zmc m_X12_changes) 73 = .ok (.aload_n 0, 1) := by decide +kernel
theorem d_X12_changes_74 : decode (zmc m_X12_changes) 74 = .ok (.getfield 48, 3) := by decide +kernel
theorem d_X12_changes_77 : decode (zmc m_X12_changes) 77 = .ok (.iload 5, 2) := by decide +kernel
theorem d_X12_changes_79 : decode (zmc m_X12_changes) 79 = .ok (.iconst 1, 1) := by decide +kernel
theorem d_X12_changes_80 : decode (zmc m_X12_changes) 80 = .ok (.isub, 1) := by decide +kernel
theorem d_X12_changes_81 : decode (zmc m_X12_changes) 81 = .ok (.aload_n 0, 1) := by decide +kernel
theorem d_X12_changes_82 : decode (zmc m_X12_changes) 82 = .ok (.getfield 48, 3) := by decide +kernel
theorem d_X12_changes_85 : decode (zmc m_X12_changes) 85 = .ok (.iload 5, 2) := by decide +kernel
theorem d_X12_changes_87 : decode (zmc m_X12_changes) 87 = .ok (.iaload, 1) := by decide +kernel
theorem d_X12_changes_88 : decode (zmc m_X12_changes) 88 = .ok (.iastore, 1) := by decide +kernel
theorem d_X12_changes_89 : decode (zmc m_X12_changes) 89 = .ok (.aload_n 0, 1) := by decide +kernel
theorem d_X12_changes_90 : decode (zmc m_X12_changes) 90 = .ok (.getfield 51, 3) := by decide +kernel
theorem d_X12_changes_93 : decode (zmc m_X12_changes) 93 = .ok (.iload 5, 2) := by decide +kernel
theorem d_X12_changes_95 : decode (zmc m_X12_changes) 95 = .ok (.iconst 1, 1) := by decide +kernel
theorem d_X12_changes_96 : decode (zmc m_X12_changes) 96 = .ok (.isub, 1) := by decide +kernel
theorem d_X12_changes_97 : decode (zmc m_X12_changes) 97 = .ok (.aload_n 0, 1) := by decide +kernel
theorem d_X12_changes_98 : decode (zmc m_X12_changes) 98 = .ok (.getfield 51, 3) := by decide +kernel
theorem d_X12_changes_101 : decode (zmc m_X12_changes) 101 = .ok (.iload 5, 2) := by decide +kernel
theorem d_X12_changes_103 : decode (zmc m_X12_changes) 103 = .ok (.iaload, 1) := by decide +kernel
theorem d_X12_changes_104 : decode (zmc m_X12_changes) 104 = .ok (.iastore, 1) := by decide +kernel
theorem d_X12_changes_105 : decode (zmc m_X12_changes) 105 = .ok (.iinc 5 1, 3) := by decide +kernel
theorem d_X12_changes_108 : decode (zmc m_X12_changes) 108 = .ok (.goto (-74), 3) := by decide +kernel
theorem d_X12_changes_111 : decode (zmc m_X12_changes) 111 = .ok (.aload_n 0, 1) := by decide +kernel
theorem d_X12_changes_112 : decode (zmc m_X12_changes) 112 = .ok (.dup, 1) := by decide +kernel
theorem d_X12_changes_113 : decode (zmc m_X12_changes) 113 = .ok (.getfield 171, 3) := by decide +kernel
theorem d_X12_changes_116 : decode (zmc m_X12_changes) 116 = .ok (.iconst 1, 1) := by decide +kernel
theorem d_X12_changes_117 : decode (zmc m_X12_changes) 117 = .ok (.isub, 1) := by decide +kernel
theorem d_X12_changes_118 : decode (zmc m_X12_changes) 118 = .ok (.putfield 171, 3) := by decide +kernel
theorem d_X12_changes_121 : decode (zmc m_X12_changes) 121 = .ok (.aload_n 0, 1) := by decide +kernel
theorem d_X12_changes_122 : decode (zmc m_X12_changes) 122 = .ok (.getfield 42, 3) := by decide +kernel
theorem d_X12_changes_125 : decode (zmc m_X12_changes) 125 = .ok (.aload_n 0, 1) := by decide +kernel
theorem d_X12_changes_126 : decode (zmc m_X12_changes) 126 = .ok (.getfield 171, 3) := by decide +kernel
theorem d_X12_changes_129 : decode (zmc m_X12_changes) 129 = .ok (.iload_n 1, 1) := by decide +kernel
theorem d_X12_changes_130 : decode (zmc m_X12_changes) 130 = .ok (.iastore, 1) := by decide +kernel
theorem d_X12_changes_131 : decode (zmc m_X12_changes) 131 = .ok (.aload_n 0, 1) := by decide +kernel
theorem d_X12_changes_132 : decode (zmc m_X12_changes) 132 = .ok (.getfield 45, 3) := by decide +kernel
theorem d_X12_changes_135 : decode (zmc m_X12_changes) 135 = .ok (.aload_n 0, 1) := by decide +kernel
theorem d_X12_changes_136 : decode (zmc m_X12_changes) 136 = .ok (.getfield 171, 3) := by decide +kernel
theorem d_X12_changes_139 : decode (zmc m_X12_changes) 139 = .ok (.iload_n 2, 1) := by decide +kernel
theorem d_X12_changes_140 : decode (zmc m_X12_changes) 140 = .ok (.iastore, 1) := by decide +kernel
theorem d_X12_changes_141 : decode (zmc m_X12_changes) 141 = .ok (.aload_n 0, 1) := by decide +kernel
theorem d_X12_changes_142 : decode (zmc m_X12_changes) 142 = .ok (.getfield 48, 3) := by decide +kernel
theorem d_X12_changes_145 : decode (zmc m_X12_changes) 145 = .ok (.aload_n 0, 1) := by decide +kernel
theorem d_X12_changes_146 : decode (zmc m_X12_changes) 146 = .ok (.getfield 171, 3) := by decide +kernel
theorem d_X12_changes_149 : decode (zmc m_X12_changes) 149 = .ok (.iload 4, 2) := by decide +kernel
theorem d_X12_changes_151 : decode (zmc m_X12_changes) 151 = .ok (.iastore, 1) := by decide +kernel
theorem d_X12_changes_152 : decode (zmc m_X12_changes) 152 = .ok (.aload_n 0, 1) := by decide +kernel
theorem d_X12_changes_153 : decode (zmc m_X12_changes) 153 = .ok (.getfield 51, 3) := by decide +kernel
theorem d_X12_changes_156 : decode (zmc m_X12_changes) 156 = .ok (.aload_n 0, 1) := by decide +kernel
theorem d_X12_changes_157 : decode (zmc m_X12_changes) 157 = .ok (.getfield 171, 3) := by decide +kernel
theorem d_X12_changes_160 : decode (zmc m_X12_changes) 160 = .ok (.iload_n 3, 1) := by decide +kernel
theorem d_X12_changes_161 : decode (zmc m_X12_changes) 161 = .ok (.iastore, 1) := by decide +kernel
theorem d_X12_changes_162 : decode (zmc m_X12_changes) 162 = .ok (.aload_n 0, 1) := by decide +kernel
theorem d_X12_changes_163 : decode (zmc m_X12_changes) 163 = .ok (.dup, 1) := by decide +kernel
theorem d_X12_changes_164 : decode (zmc m_X12_changes) 164 = .ok (.getfield 171, 3) := by decide +kernel
theorem d_X12_changes_167 : decode (zmc m_X12_changes) 167 = .ok (.iconst 1, 1) := by decide +kernel
theorem d_X12_changes_168 : decode (zmc m_X12_changes) 168 = .ok (.iadd, 1) := by decide +kernel
theorem d_X12_changes_169 : decode (zmc m_X12_changes) 169 = .ok (.putfield 171, 3) := by decide +kernel
theorem d_X12_changes_172 : decode (zmc m_X12_changes) 172 = .ok (.aload_n 0, 1) := by decide +kernel
theorem d_X12_changes_173 : decode (zmc m_X12_changes) 173 = .ok (.iload_n 1, 1) := by decide +kernel
theorem d_X12_changes_174 : decode (zmc m_X12_changes) 174 = .ok (.iload_n 2, 1) := by decide +kernel
theorem d_X12_changes_175 : decode (zmc m_X12_changes) 175 = .ok (.iload_n 3, 1) := by decide +kernel
theorem d_X12_changes_176 : decode (zmc m_X12_changes) 176 = .ok (.invokevirtual 174, 3) := by decide +kernel
theorem d_X12_changes_179 : decode (zmc m_X12_changes) 179 = .ok (.iload 4, 2) := by decide +kernel
theorem d_X12_changes_181 : decode (zmc m_X12_changes) 181 = .ok (.ireturn, 1) := by decide +kernel
theorem d_X12_isPlace_0 : decode (zmc m_X12_isPlace) 0 = .ok (.iload_n 2, 1) := by decide +kernel
theorem d_X12_isPlace_1 : decode (zmc m_X12_isPlace) 1 = .ok (.iconst 0, 1) := by decide +kernel
theorem d_X12_isPlace_2 : decode (zmc m_X12_isPlace) 2 = .ok (.iconst 5, 1) := by decide +kernel
theorem d_X12_isPlace_3 : decode (zmc m_X12_isPlace) 3 = .ok (.invokestatic 127, 3) := by decide +kernel
theorem d_X12_isPlace_6 : decode (zmc m_X12_isPlace) 6 = .ok (.ifCond .eq 11, 3) := by decide +kernel
theorem d_X12_isPlace_9 : decode (zmc m_X12_isPlace) 9 = .ok (.aload_n 0, 1) := by decide +kernel
theorem d_X12_isPlace_10 : decode (zmc m_X12_isPlace) 10 = .ok (.iload_n 1, 1) := by decide +kernel
theorem d_X12_isPlace_11 : decode (zmc m_X12_isPlace) 11 = .ok (.invokevirtual 134, 3) := by decide +kernel
theorem d_X12_isPlace_14 : decode (zmc m_X12_isPlace) 14 = .ok (.goto 62, 3) := by decide +kernel
theorem d_X12_isPlace_17 : decode (zmc m_X12_isPlace) 17 = .ok (.iload_n 2, 1) := by decide +kernel
theorem d_X12_isPlace_18 : decode (zmc m_X12_isPlace) 18 = .ok (.bipush 6, 2) := by decide +kernel
theorem d_X12_isPlace_20 : decode (zmc m_X12_isPlace) 20 = .ok (.bipush 7, 2) := by decide +kernel
theorem d_X12_isPlace_22 : decode (zmc m_X12_isPlace) 22 = .ok (.invokestatic 127, 3) := by decide +kernel
theorem d_X12_isPlace_25 : decode (zmc m_X12_isPlace) 25 = .ok (.ifCond .eq 11, 3) := by decide +kernel
theorem d_X12_isPlace_28 : decode (zmc m_X12_isPlace) 28 = .ok (.aload_n 0, 1) := by decide +kernel
theorem d_X12_isPlace_29 : decode (zmc m_X12_isPlace) 29 = .ok (.iload_n 1, 1) := by decide +kernel
theorem d_X12_isPlace_30 : decode (zmc m_X12_isPlace) 30 = .ok (.invokevirtual 138, 3) := by decide +kernel
theorem d_X12_isPlace_33 : decode (zmc m_X12_isPlace) 33 = .ok (.goto 43, 3) := by decide +kernel
theorem d_X12_isPlace_36 : decode (zmc m_X12_isPlace) 36 = .ok (.iload_n 2, 1) := by decide +kernel
theorem d_X12_isPlace_37 : decode (zmc m_X12_isPlace) 37 = .ok (.bipush 8, 2) := by decide +kernel
theorem d_X12_isPlace_39 : decode (zmc m_X12_isPlace) 39 = .ok (.if_icmp .ne 17, 3) := by decide +kernel
theorem d_X12_isPlace_42 : decode (zmc m_X12_isPlace) 42 = .ok (.iload_n 1, 1) := by decide +kernel
theorem d_X12_isPlace_43 : decode (zmc m_X12_isPlace) 43 = .ok (.iconst 0, 1) := by decide +kernel
theorem d_X12_isPlace_44 : decode (zmc m_X12_isPlace) 44 = .ok (.aload_n 0, 1) := by decide +kernel
theorem d_X12_isPlace_45 : decode (zmc m_X12_isPlace) 45 = .ok (.getfield 157, 3) := by decide +kernel
theorem d_X12_isPlace_48 : decode (zmc m_X12_isPlace) 48 = .ok (.iconst 1, 1) := by decide +kernel
theorem d_X12_isPlace_49 : decode (zmc m_X12_isPlace) 49 = .ok (.isub, 1) := by decide +kernel
theorem d_X12_isPlace_50 : decode (zmc m_X12_isPlace) 50 = .ok (.invokestatic 127, 3) := by decide +kernel
theorem d_X12_isPlace_53 : decode (zmc m_X12_isPlace) 53 = .ok (.goto 23, 3) := by decide +kernel
theorem d_X12_isPlace_56 : decode (zmc m_X12_isPlace) 56 = .ok (.iload_n 2, 1) := by decide +kernel
theorem d_X12_isPlace_57 : decode (zmc m_X12_isPlace) 57 = .ok (.bipush 9, 2) := by decide +kernel
theorem d_X12_isPlace_59 : decode (zmc m_X12_isPlace) 59 = .ok (.bipush 11, 2) := by decide +kernel
theorem d_X12_isPlace_61 : decode (zmc m_X12_isPlace) 61 = .ok (.invokestatic 127, 3) := by decide +kernel
theorem d_X12_isPlace_64 : decode (zmc m_X12_isPlace) 64 = .ok (.ifCond .eq 11, 3) := by decide +kernel
theorem d_X12_isPlace_67 : decode (zmc m_X12_isPlace) 67 = .ok (.iload_n 1, 1) := by decide +kernel
theorem d_X12_isPlace_68 : decode (zmc m_X12_isPlace) 68 = .ok (.ifCond .ne 7, 3) := by decide +kernel
theorem d_X12_isPlace_71 : decode (zmc m_X12_isPlace) 71 = .ok (.iconst 1, 1) := by decide +kernel
theorem d_X12_isPlace_72 : decode (zmc m_X12_isPlace) 72 = .ok (.goto 4, 3) := by decide +kernel
theorem d_X12_isPlace_75 : decode (zmc m_X12_isPlace) 75 = .ok (.iconst 0, 1) := by decide +kernel
theorem d_X12_isPlace_76 : decode (zmc m_X12_isPlace) 76 = .ok (.ireturn, 1) := by decide +kernel
theorem d_X12_mayHave_0 : decode (zmc m_X12_mayHave) 0 = .ok (.iload_n 2, 1) := by decide +kernel
theorem d_X12_mayHave_1 : decode (zmc m_X12_mayHave) 1 = .ok (.tableswitch 120 0 11 #[63, 85, 120, 120, 93, 93, 120, 85, 100, 109, 109, 118], 63) := by decide +kernel
theorem d_X12_mayHave_64 : decode (zmc m_X12_mayHave) 64 = .ok (.iload_n 3, 1) := by decide +kernel
theorem d_X12_mayHave_65 : decode (zmc m_X12_mayHave) 65 = .ok (.invokestatic 145, 3) := by decide +kernel
theorem d_X12_mayHave_68 : decode (zmc m_X12_mayHave) 68 = .ok (.ifCond .eq 16, 3) := by decide +kernel
theorem d_X12_mayHave_71 : decode (zmc m_X12_mayHave) 71 = .ok (.aload_n 0, 1) := by decide +kernel
theorem d_X12_mayHave_72 : decode (zmc m_X12_mayHave) 72 = .ok (.iload_n 3, 1) := by decide +kernel
theorem d_X12_mayHave_73 : decode (zmc m_X12_mayHave) 73 = .ok (.iload_n 1, 1) := by decide +kernel
theorem d_X12_mayHave_74 : decode (zmc m_X12_mayHave) 74 = .ok (.invokevirtual 160, 3) := by decide +kernel
theorem d_X12_mayHave_77 : decode (zmc m_X12_mayHave) 77 = .ok (.ifCond .eq 7, 3) := by decide +kernel
theorem d_X12_mayHave_80 : decode (zmc m_X12_mayHave) 80 = .ok (.iconst 1, 1) := by decide +kernel
theorem d_X12_mayHave_81 : decode (zmc m_X12_mayHave) 81 = .ok (.goto 4, 3) := by decide +kernel
theorem d_X12_mayHave_84 : decode (zmc m_X12_mayHave) 84 = .ok (.iconst 0, 1) := by decide +kernel
theorem d_X12_mayHave_85 : decode (zmc m_X12_mayHave) 85 = .ok (.ireturn, 1) := by decide +kernel
theorem d_X12_mayHave_86 : decode (zmc m_X12_mayHave) 86 = .ok (.iload_n 3, 1) := by decide +kernel
theorem d_X12_mayHave_87 : decode (zmc m_X12_mayHave) 87 = .ok (.iconst 1, 1) := by decide +kernel
theorem d_X12_mayHave_88 : decode (zmc m_X12_mayHave) 88 = .ok (.bipush 9, 2) := by decide +kernel
theorem d_X12_mayHave_90 : decode (zmc m_X12_mayHave) 90 = .ok (.invokestatic 127, 3) := by decide +kernel
theorem d_X12_mayHave_93 : decode (zmc m_X12_mayHave) 93 = .ok (.ireturn, 1) := by decide +kernel
theorem d_X12_mayHave_94 : decode (zmc m_X12_mayHave) 94 = .ok (.iload_n 3, 1) := by decide +kernel
theorem d_X12_mayHave_95 : decode (zmc m_X12_mayHave) 95 = .ok (.iconst 0, 1) := by decide +kernel
theorem d_X12_mayHave_96 : decode (zmc m_X12_mayHave) 96 = .ok (.iconst 1, 1) := by decide +kernel
theorem d_X12_mayHave_97 : decode (zmc m_X12_mayHave) 97 = .ok (.invokestatic 127, 3) := by decide +kernel
theorem d_X12_mayHave_100 : decode (zmc m_X12_mayHave) 100 = .ok (.ireturn, 1) := by decide +kernel
theorem d_X12_mayHave_101 : decode (zmc m_X12_mayHave) 101 = .ok (.iload_n 3, 1) := by decide +kernel
theorem d_X12_mayHave_102 : decode (zmc m_X12_mayHave) 102 = .ok (.iconst 1, 1) := by decide +kernel
theorem d_X12_mayHave_103 : decode (zmc m_X12_mayHave) 103 = .ok (.sipush 1023, 3) := by decide +kernel
theorem d_X12_mayHave_106 : decode (zmc m_X12_mayHave) 106 = .ok (.invokestatic 127, 3) := by decide +kernel
theorem d_X12_mayHave_109 : decode (zmc m_X12_mayHave) 109 = .ok (.ireturn, 1) := by decide +kernel
theorem d_X12_mayHave_110 : decode (zmc m_X12_mayHave) 110 = .ok (.iload_n 3, 1) := by decide +kernel
theorem d_X12_mayHave_111 : decode (zmc m_X12_mayHave) 111 = .ok (.iconst 0, 1) := by decide +kernel
theorem d_X12_mayHave_112 : decode (zmc m_X12_mayHave) 112 = .ok (.sipush 999, 3) := by decide +kernel
theorem d_X12_mayHave_115 : decode (zmc m_X12_mayHave) 115 = .ok (.invokestatic 127, 3) := by decide +kernel
theorem d_X12_mayHave_118 : decode (zmc m_X12_mayHave) 118 = .ok (.ireturn, 1) := by decide +kernel
theorem d_X12_mayHave_119 : decode (zmc m_X12_mayHave) 119 = .ok (.iconst 1, 1) := by decide +kernel
theorem d_X12_mayHave_120 : decode (zmc m_X12_mayHave) 120 = .ok (.ireturn, 1) := by decide +kernel
theorem d_X12_mayHave_121 : decode (zmc m_X12_mayHave) 121 = .ok (.iload_n 3, 1) := by decide +kernel
theorem d_X12_mayHave_122 : decode (zmc m_X12_mayHave) 122 = .ok (.iconst 0, 1) := by decide +kernel
theorem d_X12_mayHave_123 : decode (zmc m_X12_mayHave) 123 = .ok (.bipush 9, 2) := by decide +kernel
theorem d_X12_mayHave_125 : decode (zmc m_X12_mayHave) 125 = .ok (.invokestatic 127, 3) := by decide +kernel
theorem d_X12_mayHave_128 : decode (zmc m_X12_mayHave) 128 = .ok (.ireturn, 1) := by decide +kernel
/-! THE REFERENCE: changes are led -/
theorem zmay_any (v : Int32) : (-2147483648 : Int32) ≤ v ∧ v ≤ (2147483647 : Int32) := by
  rw [Int32.le_iff_toInt_le, Int32.le_iff_toInt_le]
  have h1 := Int32.le_toInt v
  have h2 := Int32.toInt_lt v
  have e1 : (-2147483648 : Int32).toInt = -2147483648 := by decide
  have e2 : (2147483647 : Int32).toInt = 2147483647 := by decide
  rw [e1, e2]
  omega
theorem zChg_ne {I : Nat → Nat → Int32} {dn a : Nat} {c o f t : Int32} (h : a < 31 ∨ 35 < a) : zChg I dn c o f t a = I a := by
  unfold zChg
  split
  · unfold zChgW zForg
    rw [zup_ne (by omega), zup_ne (by omega), zup_ne (by omega), zup_ne (by omega), zup_ne (by omega), zup_ne (by omega), zup_ne (by omega), zup_ne (by omega), zup_ne (by omega), zup_ne (by omega)]
  · unfold zChgW
    rw [zup_ne (by omega), zup_ne (by omega), zup_ne (by omega), zup_ne (by omega), zup_ne (by omega)]
def zShl (f : Nat → Int32) (k : Nat) : Nat → Int32 := fun j => if j + 1 < k then f (j + 1) else f j
theorem zShl_1 {f : Nat → Int32} : zShl f 1 = f := by funext j; exact if_neg (by omega)
theorem zShl_step {f : Nat → Int32} {k : Nat} (h : 1 ≤ k) : zup (zShl f k) (k - 1) (zShl f k k) = zShl f (k + 1) := by
  funext j
  unfold zup zShl
  by_cases e : j = k - 1
  · subst e
    rw [if_pos rfl, if_neg (by omega), if_pos (by omega), show k - 1 + 1 = k by omega]
  · rw [if_neg e]
    by_cases e2 : j + 1 < k
    · rw [if_pos e2, if_pos (by omega)]
    · rw [if_neg e2, if_neg (by omega)]
theorem zShl_40 {f : Nat → Int32} : zShl f 40 = va_cpy f f 1 0 39 := by
  funext j
  unfold zShl
  by_cases e : j + 1 < 40
  · rw [if_pos e, pk_cpy_in (Nat.zero_le _) (by omega), show 1 + (j - 0) = j + 1 by omega]
  · rw [if_neg e, pk_cpy_out (by omega)]
/-- each change can be laid -/
def zBc (V : Nat → Nat → Int32) (ns nt nh al : Nat) : Prop := ∀ i, i < al → ∃ j k : Nat, j < 12 ∧ k < zHold ns nt nh (nI j) ∧ V 32 i = nI j ∧ V 33 i = nI k ∧ zMay (nI j) (V 34 i) ∧ zMay (nI j) (V 35 i)
theorem zMc_chg {I J V V1 : Nat → Nat → Int32} {dn : Nat} {c o f t : Int32} (hd : dn < 40) (hC : zMc I V) (v : ∀ a, 14 < a → V1 a = V a) (j64 : J 64 14 = nI (dn + 1) ∧ J 64 15 = 0)
    (h75 : J 75 = zup (I 75) dn c) (h76 : J 76 = zup (I 76) dn o) (h77 : J 77 = zup (I 77) dn f) (h78 : J 78 = zup (I 78) dn t) : zMc J (zChg V1 dn c o f t) := by
  obtain ⟨c1, c2, c3, c4, c5, c6⟩ := hC
  unfold zChg
  rw [if_neg (by omega)]
  unfold zMc
  rw [j64.1, j64.2, h75, h76, h77, h78, c3, c4, c5, c6, ← v 32 (by decide), ← v 33 (by decide), ← v 34 (by decide), ← v 35 (by decide)]
  exact ⟨rfl, (Int32.sub_self _).symm, rfl, rfl, rfl, rfl⟩
theorem zMc_chg40 {I J V V1 : Nat → Nat → Int32} {c o f t : Int32} (hC : zMc I V) (v : ∀ a, 14 < a → V1 a = V a) (j64 : J 64 14 = nI 40 ∧ J 64 15 = 0)
    (h75 : J 75 = zup (zShl (I 75) 40) 39 c) (h76 : J 76 = zup (zShl (I 76) 40) 39 o) (h77 : J 77 = zup (zShl (I 77) 40) 39 f) (h78 : J 78 = zup (zShl (I 78) 40) 39 t) : zMc J (zChg V1 40 c o f t) := by
  obtain ⟨c1, c2, c3, c4, c5, c6⟩ := hC
  unfold zChg
  rw [if_pos rfl]
  unfold zMc
  rw [j64.1, j64.2, h75, h76, h77, h78, c3, c4, c5, c6, zShl_40, zShl_40, zShl_40, zShl_40, ← v 32 (by decide), ← v 33 (by decide), ← v 34 (by decide), ← v 35 (by decide)]
  exact ⟨rfl, (Int32.sub_self _).symm, rfl, rfl, rfl, rfl⟩
section S42
variable {g : zG} {l : Launch} {d : Nat} {I V : Nat → Nat → Int32} {L K : Nat → Nat → Int64} {fs : Nat × Nat × Option Nat} {ns nt nh : Nat} {pg : Option (List zLine)}
theorem sp_X12_isPlace (hd : 3 ≤ d) (hM : zMs I V) (hK : zSky V ns nt nh) {n what : Int32} : zPure g l d m_X12_isPlace [.ref 64, .int n, .int what] I L fs (.int (bi (0 ≤ n ∧ n < nI (zHold ns nt nh what)))) := by
  have h6 := hK.2.2.2
  refine zSp_of (lv := [(0, .ref 64), (1, .int n), (2, .int what)]) k_X12_isPlace rfl (Nat.le_of_ble_eq_true rfl) ?_
  refine zIloadN d_X12_isPlace_0 rfl rfl (q := 1) rfl ?_
  refine zIconst d_X12_isPlace_1 (v := 0) ic_0 (q := 2) rfl ?_
  refine zIconst d_X12_isPlace_2 (v := 5) ic_5 (q := 3) rfl ?_
  refine zCallSP d_X12_isPlace_3 ml_X12_127 k_X12_in kt_X12_in (sp_X12_in (d := d - 1) (by omega) ) rfl rfl (Nat.le_of_ble_eq_true rfl) (by decide) (by omega) zns100 (q := 6) rfl ?_
  refine zIf_eq d_X12_isPlace_6 (tgt := 17) (q := 9) (by decide) rfl (fun h6 => ?_) (fun h6 => ?_)
  · have c := bi_0.mp h6
    refine zIloadN d_X12_isPlace_17 rfl rfl (q := 18) rfl ?_
    refine zBipush d_X12_isPlace_18 (v := 6) bc_6 (q := 20) rfl ?_
    refine zBipush d_X12_isPlace_20 (v := 7) bc_7 (q := 22) rfl ?_
    refine zCallSP d_X12_isPlace_22 ml_X12_127 k_X12_in kt_X12_in (sp_X12_in (d := d - 1) (by omega) ) rfl rfl (Nat.le_of_ble_eq_true rfl) (by decide) (by omega) zns100 (q := 25) rfl ?_
    refine zIf_eq d_X12_isPlace_25 (tgt := 36) (q := 28) (by decide) rfl (fun h25 => ?_) (fun h25 => ?_)
    · have c2 := bi_0.mp h25
      refine zIloadN d_X12_isPlace_36 rfl rfl (q := 37) rfl ?_
      refine zBipush d_X12_isPlace_37 (v := 8) bc_8 (q := 39) rfl ?_
      refine zIcmp_ne d_X12_isPlace_39 (tgt := 56) (q := 42) (by decide) rfl (fun h39 => ?_) (fun h39 => ?_)
      · refine zIloadN d_X12_isPlace_56 rfl rfl (q := 57) rfl ?_
        refine zBipush d_X12_isPlace_57 (v := 9) bc_9 (q := 59) rfl ?_
        refine zBipush d_X12_isPlace_59 (v := 11) bc_11 (q := 61) rfl ?_
        refine zCallSP d_X12_isPlace_61 ml_X12_127 k_X12_in kt_X12_in (sp_X12_in (d := d - 1) (by omega) ) rfl rfl (Nat.le_of_ble_eq_true rfl) (by decide) (by omega) zns100 (q := 64) rfl ?_
        refine zIf_eq d_X12_isPlace_64 (tgt := 75) (q := 67) (by decide) rfl (fun h64 => ?_) (fun h64 => ?_)
        · have c3 := bi_0.mp h64
          have e : zHold ns nt nh what = 0 := by unfold zHold; grind
          refine zIconst d_X12_isPlace_75 (v := 0) ic_0 (q := 76) rfl ?_
          refine zIret d_X12_isPlace_76 rfl (by first | exact zn_bi | rfl) rfl ?_
          rw [e]
          first
          | exact zPi rfl
          | exact zPi (bi_iff (by rw [hM.1.2.2, hK.1.2.2, zle_pred (by omega)]))
          | exact zPi (bi_t ⟨by rw [h68]; decide, by rw [h68]; decide⟩).symm
          | exact zPi (bi_f (fun q => h68 (by have := q.1; have := q.2; have e1 : nI 1 = 1 := rfl; grind))).symm
          | exact zPi (bi_f (fun q => by have := q.1; have := q.2; have e1 : nI 0 = 0 := rfl; grind)).symm
        · have c3 := bi_n0.mp h64
          have e : zHold ns nt nh what = 1 := by unfold zHold; grind
          refine zIloadN d_X12_isPlace_67 rfl rfl (q := 68) rfl ?_
          refine zIf_ne d_X12_isPlace_68 (tgt := 75) (q := 71) (by decide) rfl (fun h68 => ?_) (fun h68 => ?_)
          · refine zIconst d_X12_isPlace_75 (v := 0) ic_0 (q := 76) rfl ?_
            refine zIret d_X12_isPlace_76 rfl (by first | exact zn_bi | rfl) rfl ?_
            rw [e]
            first
            | exact zPi rfl
            | exact zPi (bi_iff (by rw [hM.1.2.2, hK.1.2.2, zle_pred (by omega)]))
            | exact zPi (bi_t ⟨by rw [h68]; decide, by rw [h68]; decide⟩).symm
            | exact zPi (bi_f (fun q => h68 (by have := q.1; have := q.2; have e1 : nI 1 = 1 := rfl; grind))).symm
            | exact zPi (bi_f (fun q => by have := q.1; have := q.2; have e1 : nI 0 = 0 := rfl; grind)).symm
          · refine zIconst d_X12_isPlace_71 (v := 1) ic_1 (q := 72) rfl ?_
            refine zGoto d_X12_isPlace_72 (q := 76) (by decide) ?_
            refine zIret d_X12_isPlace_76 rfl (by first | exact zn_bi | rfl) rfl ?_
            rw [e]
            first
            | exact zPi rfl
            | exact zPi (bi_iff (by rw [hM.1.2.2, hK.1.2.2, zle_pred (by omega)]))
            | exact zPi (bi_t ⟨by rw [h68]; decide, by rw [h68]; decide⟩).symm
            | exact zPi (bi_f (fun q => h68 (by have := q.1; have := q.2; have e1 : nI 1 = 1 := rfl; grind))).symm
            | exact zPi (bi_f (fun q => by have := q.1; have := q.2; have e1 : nI 0 = 0 := rfl; grind)).symm
      · have e : zHold ns nt nh what = nh := by rw [h39]; rfl
        refine zIloadN d_X12_isPlace_42 rfl rfl (q := 43) rfl ?_
        refine zIconst d_X12_isPlace_43 (v := 0) ic_0 (q := 44) rfl ?_
        refine zAloadN d_X12_isPlace_44 rfl rfl (q := 45) rfl ?_
        refine zGetI d_X12_isPlace_45 ff_X12_157 sh_64 (by decide) (q := 48) rfl ?_
        refine zIconst d_X12_isPlace_48 (v := 1) ic_1 (q := 49) rfl ?_
        refine zIsub d_X12_isPlace_49 (q := 50) rfl ?_
        refine zCallSP d_X12_isPlace_50 ml_X12_127 k_X12_in kt_X12_in (sp_X12_in (d := d - 1) (by omega) ) rfl rfl (Nat.le_of_ble_eq_true rfl) (by decide) (by omega) zns100 (q := 53) rfl ?_
        refine zGoto d_X12_isPlace_53 (q := 76) (by decide) ?_
        refine zIret d_X12_isPlace_76 rfl (by first | exact zn_bi | rfl) rfl ?_
        rw [e]
        first
        | exact zPi rfl
        | exact zPi (bi_iff (by rw [hM.1.2.2, hK.1.2.2, zle_pred (by omega)]))
        | exact zPi (bi_t ⟨by rw [h68]; decide, by rw [h68]; decide⟩).symm
        | exact zPi (bi_f (fun q => h68 (by have := q.1; have := q.2; have e1 : nI 1 = 1 := rfl; grind))).symm
        | exact zPi (bi_f (fun q => by have := q.1; have := q.2; have e1 : nI 0 = 0 := rfl; grind)).symm
    · have c2 := bi_n0.mp h25
      have e : zHold ns nt nh what = nt := by unfold zHold; grind
      refine zAloadN d_X12_isPlace_28 rfl rfl (q := 29) rfl ?_
      refine zIloadN d_X12_isPlace_29 rfl rfl (q := 30) rfl ?_
      refine zCallVP d_X12_isPlace_30 ml_X12_138 k_X12_isThrower ki_X12_isThrower ks_X12_isThrower (sp_X12_isThrower (d := d - 1) (by omega) hM hK) rfl rfl sh_64 (by decide) rfl (by decide) (Nat.le_of_ble_eq_true rfl) (by decide) (by omega) zns100 (q := 33) rfl ?_
      refine zGoto d_X12_isPlace_33 (q := 76) (by decide) ?_
      refine zIret d_X12_isPlace_76 rfl (by first | exact zn_bi | rfl) rfl ?_
      rw [e]
      first
      | exact zPi rfl
      | exact zPi (bi_iff (by rw [hM.1.2.2, hK.1.2.2, zle_pred (by omega)]))
      | exact zPi (bi_t ⟨by rw [h68]; decide, by rw [h68]; decide⟩).symm
      | exact zPi (bi_f (fun q => h68 (by have := q.1; have := q.2; have e1 : nI 1 = 1 := rfl; grind))).symm
      | exact zPi (bi_f (fun q => by have := q.1; have := q.2; have e1 : nI 0 = 0 := rfl; grind)).symm
  · have c := bi_n0.mp h6
    have e : zHold ns nt nh what = ns := by unfold zHold; grind
    refine zAloadN d_X12_isPlace_9 rfl rfl (q := 10) rfl ?_
    refine zIloadN d_X12_isPlace_10 rfl rfl (q := 11) rfl ?_
    refine zCallVP d_X12_isPlace_11 ml_X12_134 k_X12_isStar ki_X12_isStar ks_X12_isStar (sp_X12_isStar (d := d - 1) (by omega) hM hK) rfl rfl sh_64 (by decide) rfl (by decide) (Nat.le_of_ble_eq_true rfl) (by decide) (by omega) zns100 (q := 14) rfl ?_
    refine zGoto d_X12_isPlace_14 (q := 76) (by decide) ?_
    refine zIret d_X12_isPlace_76 rfl (by first | exact zn_bi | rfl) rfl ?_
    rw [e]
    first
    | exact zPi rfl
    | exact zPi (bi_iff (by rw [hM.1.2.2, hK.1.2.2, zle_pred (by omega)]))
    | exact zPi (bi_t ⟨by rw [h68]; decide, by rw [h68]; decide⟩).symm
    | exact zPi (bi_f (fun q => h68 (by have := q.1; have := q.2; have e1 : nI 1 = 1 := rfl; grind))).symm
    | exact zPi (bi_f (fun q => by have := q.1; have := q.2; have e1 : nI 0 = 0 := rfl; grind)).symm
theorem sp_X12_mayHave (hd : 3 ≤ d) (hM : zMs I V) (hK : zSky V ns nt nh) {n v : Int32} {j : Nat} (hj : j < 12) : zPure g l d m_X12_mayHave [.ref 64, .int n, .int (nI j), .int v] I L fs (.int (bi (zMay (nI j) v ∧ ¬ (nI j = 0 ∧ ¬ zfind (V 3) v ns 0 = -2 ∧ ¬ zfind (V 3) v ns 0 = n)))) := by
  refine zSp_of (lv := [(0, .ref 64), (1, .int n), (2, .int (nI j)), (3, .int v)]) k_X12_mayHave rfl (Nat.le_of_ble_eq_true rfl) ?_
  refine zIloadN d_X12_mayHave_0 rfl rfl (q := 1) rfl ?_
  rcases Decidable.em (nI j = (0 : Int32)) with s1_0 | s1_0
  · refine zTabAt s1_0 d_X12_mayHave_1 (by decide) (by decide) (off := 63) (by decide) (q := 64) (by decide) ?_
    refine zIloadN d_X12_mayHave_64 rfl rfl (q := 65) rfl ?_
    refine zCallSP d_X12_mayHave_65 ml_X12_145 k_X12_isCell kt_X12_isCell (sp_X12_isCell (d := d - 1) (by omega) ) rfl rfl (Nat.le_of_ble_eq_true rfl) (by decide) (by omega) zns100 (q := 68) rfl ?_
    refine zIf_eq d_X12_mayHave_68 (tgt := 84) (q := 71) (by decide) rfl (fun h68 => ?_) (fun h68 => ?_)
    · refine zIconst d_X12_mayHave_84 (v := 0) ic_0 (q := 85) rfl ?_
      refine zIret d_X12_mayHave_85 rfl (by first | exact zn_bi | rfl) rfl ?_
      rw [s1_0]
      first
      | exact zPi (bi_t ⟨bi_n0.mp h68, fun q => bi_n0.mp h77 q.2⟩).symm
      | exact zPi (bi_f (fun q => bi_0.mp h77 (fun z => q.2 ⟨rfl, z⟩))).symm
      | exact zPi (bi_f (fun q => bi_0.mp h68 q.1)).symm
    · refine zAloadN d_X12_mayHave_71 rfl rfl (q := 72) rfl ?_
      refine zIloadN d_X12_mayHave_72 rfl rfl (q := 73) rfl ?_
      refine zIloadN d_X12_mayHave_73 rfl rfl (q := 74) rfl ?_
      refine zCallVP d_X12_mayHave_74 ml_X12_160 k_X12_isFree ki_X12_isFree ks_X12_isFree (sp_X12_isFree (d := d - 1) (by omega) hM hK) rfl rfl sh_64 (by decide) rfl (by decide) (Nat.le_of_ble_eq_true rfl) (by decide) (by omega) zns100 (q := 77) rfl ?_
      refine zIf_eq d_X12_mayHave_77 (tgt := 84) (q := 80) (by decide) rfl (fun h77 => ?_) (fun h77 => ?_)
      · refine zIconst d_X12_mayHave_84 (v := 0) ic_0 (q := 85) rfl ?_
        refine zIret d_X12_mayHave_85 rfl (by first | exact zn_bi | rfl) rfl ?_
        rw [s1_0]
        first
        | exact zPi (bi_t ⟨bi_n0.mp h68, fun q => bi_n0.mp h77 q.2⟩).symm
        | exact zPi (bi_f (fun q => bi_0.mp h77 (fun z => q.2 ⟨rfl, z⟩))).symm
        | exact zPi (bi_f (fun q => bi_0.mp h68 q.1)).symm
      · refine zIconst d_X12_mayHave_80 (v := 1) ic_1 (q := 81) rfl ?_
        refine zGoto d_X12_mayHave_81 (q := 85) (by decide) ?_
        refine zIret d_X12_mayHave_85 rfl (by first | exact zn_bi | rfl) rfl ?_
        rw [s1_0]
        first
        | exact zPi (bi_t ⟨bi_n0.mp h68, fun q => bi_n0.mp h77 q.2⟩).symm
        | exact zPi (bi_f (fun q => bi_0.mp h77 (fun z => q.2 ⟨rfl, z⟩))).symm
        | exact zPi (bi_f (fun q => bi_0.mp h68 q.1)).symm
  rcases Decidable.em (nI j = (1 : Int32)) with s1_1 | s1_1
  · refine zTabAt s1_1 d_X12_mayHave_1 (by decide) (by decide) (off := 85) (by decide) (q := 86) (by decide) ?_
    refine zIloadN d_X12_mayHave_86 rfl rfl (q := 87) rfl ?_
    refine zIconst d_X12_mayHave_87 (v := 1) ic_1 (q := 88) rfl ?_
    refine zBipush d_X12_mayHave_88 (v := 9) bc_9 (q := 90) rfl ?_
    refine zCallSP d_X12_mayHave_90 ml_X12_127 k_X12_in kt_X12_in (sp_X12_in (d := d - 1) (by omega) ) rfl rfl (Nat.le_of_ble_eq_true rfl) (by decide) (by omega) zns100 (q := 93) rfl ?_
    refine zIret d_X12_mayHave_93 rfl (by first | exact zn_bi | rfl) rfl ?_
    first | (rw [s1_1]; exact zPi (bi_iff ⟨fun q => ⟨⟨by decide, q⟩, fun h => absurd h.1 (by decide)⟩, fun q => q.1.2⟩)) | (rw [s1_7]; exact zPi (bi_iff ⟨fun q => ⟨⟨by decide, q⟩, fun h => absurd h.1 (by decide)⟩, fun q => q.1.2⟩))
  rcases Decidable.em (nI j = (2 : Int32)) with s1_2 | s1_2
  · refine zTabAt s1_2 d_X12_mayHave_1 (by decide) (by decide) (off := 120) (by decide) (q := 121) (by decide) ?_
    refine zIloadN d_X12_mayHave_121 rfl rfl (q := 122) rfl ?_
    refine zIconst d_X12_mayHave_122 (v := 0) ic_0 (q := 123) rfl ?_
    refine zBipush d_X12_mayHave_123 (v := 9) bc_9 (q := 125) rfl ?_
    refine zCallSP d_X12_mayHave_125 ml_X12_127 k_X12_in kt_X12_in (sp_X12_in (d := d - 1) (by omega) ) rfl rfl (Nat.le_of_ble_eq_true rfl) (by decide) (by omega) zns100 (q := 128) rfl ?_
    refine zIret d_X12_mayHave_128 rfl (by first | exact zn_bi | rfl) rfl ?_
    first | (rw [s1_2]; exact zPi (bi_iff ⟨fun q => ⟨⟨by decide, q⟩, fun h => absurd h.1 (by decide)⟩, fun q => q.1.2⟩)) | (rw [s1_3]; exact zPi (bi_iff ⟨fun q => ⟨⟨by decide, q⟩, fun h => absurd h.1 (by decide)⟩, fun q => q.1.2⟩)) | (rw [s1_6]; exact zPi (bi_iff ⟨fun q => ⟨⟨by decide, q⟩, fun h => absurd h.1 (by decide)⟩, fun q => q.1.2⟩))
  rcases Decidable.em (nI j = (3 : Int32)) with s1_3 | s1_3
  · refine zTabAt s1_3 d_X12_mayHave_1 (by decide) (by decide) (off := 120) (by decide) (q := 121) (by decide) ?_
    refine zIloadN d_X12_mayHave_121 rfl rfl (q := 122) rfl ?_
    refine zIconst d_X12_mayHave_122 (v := 0) ic_0 (q := 123) rfl ?_
    refine zBipush d_X12_mayHave_123 (v := 9) bc_9 (q := 125) rfl ?_
    refine zCallSP d_X12_mayHave_125 ml_X12_127 k_X12_in kt_X12_in (sp_X12_in (d := d - 1) (by omega) ) rfl rfl (Nat.le_of_ble_eq_true rfl) (by decide) (by omega) zns100 (q := 128) rfl ?_
    refine zIret d_X12_mayHave_128 rfl (by first | exact zn_bi | rfl) rfl ?_
    first | (rw [s1_2]; exact zPi (bi_iff ⟨fun q => ⟨⟨by decide, q⟩, fun h => absurd h.1 (by decide)⟩, fun q => q.1.2⟩)) | (rw [s1_3]; exact zPi (bi_iff ⟨fun q => ⟨⟨by decide, q⟩, fun h => absurd h.1 (by decide)⟩, fun q => q.1.2⟩)) | (rw [s1_6]; exact zPi (bi_iff ⟨fun q => ⟨⟨by decide, q⟩, fun h => absurd h.1 (by decide)⟩, fun q => q.1.2⟩))
  rcases Decidable.em (nI j = (4 : Int32)) with s1_4 | s1_4
  · refine zTabAt s1_4 d_X12_mayHave_1 (by decide) (by decide) (off := 93) (by decide) (q := 94) (by decide) ?_
    refine zIloadN d_X12_mayHave_94 rfl rfl (q := 95) rfl ?_
    refine zIconst d_X12_mayHave_95 (v := 0) ic_0 (q := 96) rfl ?_
    refine zIconst d_X12_mayHave_96 (v := 1) ic_1 (q := 97) rfl ?_
    refine zCallSP d_X12_mayHave_97 ml_X12_127 k_X12_in kt_X12_in (sp_X12_in (d := d - 1) (by omega) ) rfl rfl (Nat.le_of_ble_eq_true rfl) (by decide) (by omega) zns100 (q := 100) rfl ?_
    refine zIret d_X12_mayHave_100 rfl (by first | exact zn_bi | rfl) rfl ?_
    first | (rw [s1_4]; exact zPi (bi_iff ⟨fun q => ⟨⟨by decide, q⟩, fun h => absurd h.1 (by decide)⟩, fun q => q.1.2⟩)) | (rw [s1_5]; exact zPi (bi_iff ⟨fun q => ⟨⟨by decide, q⟩, fun h => absurd h.1 (by decide)⟩, fun q => q.1.2⟩))
  rcases Decidable.em (nI j = (5 : Int32)) with s1_5 | s1_5
  · refine zTabAt s1_5 d_X12_mayHave_1 (by decide) (by decide) (off := 93) (by decide) (q := 94) (by decide) ?_
    refine zIloadN d_X12_mayHave_94 rfl rfl (q := 95) rfl ?_
    refine zIconst d_X12_mayHave_95 (v := 0) ic_0 (q := 96) rfl ?_
    refine zIconst d_X12_mayHave_96 (v := 1) ic_1 (q := 97) rfl ?_
    refine zCallSP d_X12_mayHave_97 ml_X12_127 k_X12_in kt_X12_in (sp_X12_in (d := d - 1) (by omega) ) rfl rfl (Nat.le_of_ble_eq_true rfl) (by decide) (by omega) zns100 (q := 100) rfl ?_
    refine zIret d_X12_mayHave_100 rfl (by first | exact zn_bi | rfl) rfl ?_
    first | (rw [s1_4]; exact zPi (bi_iff ⟨fun q => ⟨⟨by decide, q⟩, fun h => absurd h.1 (by decide)⟩, fun q => q.1.2⟩)) | (rw [s1_5]; exact zPi (bi_iff ⟨fun q => ⟨⟨by decide, q⟩, fun h => absurd h.1 (by decide)⟩, fun q => q.1.2⟩))
  rcases Decidable.em (nI j = (6 : Int32)) with s1_6 | s1_6
  · refine zTabAt s1_6 d_X12_mayHave_1 (by decide) (by decide) (off := 120) (by decide) (q := 121) (by decide) ?_
    refine zIloadN d_X12_mayHave_121 rfl rfl (q := 122) rfl ?_
    refine zIconst d_X12_mayHave_122 (v := 0) ic_0 (q := 123) rfl ?_
    refine zBipush d_X12_mayHave_123 (v := 9) bc_9 (q := 125) rfl ?_
    refine zCallSP d_X12_mayHave_125 ml_X12_127 k_X12_in kt_X12_in (sp_X12_in (d := d - 1) (by omega) ) rfl rfl (Nat.le_of_ble_eq_true rfl) (by decide) (by omega) zns100 (q := 128) rfl ?_
    refine zIret d_X12_mayHave_128 rfl (by first | exact zn_bi | rfl) rfl ?_
    first | (rw [s1_2]; exact zPi (bi_iff ⟨fun q => ⟨⟨by decide, q⟩, fun h => absurd h.1 (by decide)⟩, fun q => q.1.2⟩)) | (rw [s1_3]; exact zPi (bi_iff ⟨fun q => ⟨⟨by decide, q⟩, fun h => absurd h.1 (by decide)⟩, fun q => q.1.2⟩)) | (rw [s1_6]; exact zPi (bi_iff ⟨fun q => ⟨⟨by decide, q⟩, fun h => absurd h.1 (by decide)⟩, fun q => q.1.2⟩))
  rcases Decidable.em (nI j = (7 : Int32)) with s1_7 | s1_7
  · refine zTabAt s1_7 d_X12_mayHave_1 (by decide) (by decide) (off := 85) (by decide) (q := 86) (by decide) ?_
    refine zIloadN d_X12_mayHave_86 rfl rfl (q := 87) rfl ?_
    refine zIconst d_X12_mayHave_87 (v := 1) ic_1 (q := 88) rfl ?_
    refine zBipush d_X12_mayHave_88 (v := 9) bc_9 (q := 90) rfl ?_
    refine zCallSP d_X12_mayHave_90 ml_X12_127 k_X12_in kt_X12_in (sp_X12_in (d := d - 1) (by omega) ) rfl rfl (Nat.le_of_ble_eq_true rfl) (by decide) (by omega) zns100 (q := 93) rfl ?_
    refine zIret d_X12_mayHave_93 rfl (by first | exact zn_bi | rfl) rfl ?_
    first | (rw [s1_1]; exact zPi (bi_iff ⟨fun q => ⟨⟨by decide, q⟩, fun h => absurd h.1 (by decide)⟩, fun q => q.1.2⟩)) | (rw [s1_7]; exact zPi (bi_iff ⟨fun q => ⟨⟨by decide, q⟩, fun h => absurd h.1 (by decide)⟩, fun q => q.1.2⟩))
  rcases Decidable.em (nI j = (8 : Int32)) with s1_8 | s1_8
  · refine zTabAt s1_8 d_X12_mayHave_1 (by decide) (by decide) (off := 100) (by decide) (q := 101) (by decide) ?_
    refine zIloadN d_X12_mayHave_101 rfl rfl (q := 102) rfl ?_
    refine zIconst d_X12_mayHave_102 (v := 1) ic_1 (q := 103) rfl ?_
    refine zSipush d_X12_mayHave_103 (v := 1023) sc_1023 (q := 106) rfl ?_
    refine zCallSP d_X12_mayHave_106 ml_X12_127 k_X12_in kt_X12_in (sp_X12_in (d := d - 1) (by omega) ) rfl rfl (Nat.le_of_ble_eq_true rfl) (by decide) (by omega) zns100 (q := 109) rfl ?_
    refine zIret d_X12_mayHave_109 rfl (by first | exact zn_bi | rfl) rfl ?_
    first | (rw [s1_8]; exact zPi (bi_iff ⟨fun q => ⟨⟨by decide, q⟩, fun h => absurd h.1 (by decide)⟩, fun q => q.1.2⟩))
  rcases Decidable.em (nI j = (9 : Int32)) with s1_9 | s1_9
  · refine zTabAt s1_9 d_X12_mayHave_1 (by decide) (by decide) (off := 109) (by decide) (q := 110) (by decide) ?_
    refine zIloadN d_X12_mayHave_110 rfl rfl (q := 111) rfl ?_
    refine zIconst d_X12_mayHave_111 (v := 0) ic_0 (q := 112) rfl ?_
    refine zSipush d_X12_mayHave_112 (v := 999) sc_999 (q := 115) rfl ?_
    refine zCallSP d_X12_mayHave_115 ml_X12_127 k_X12_in kt_X12_in (sp_X12_in (d := d - 1) (by omega) ) rfl rfl (Nat.le_of_ble_eq_true rfl) (by decide) (by omega) zns100 (q := 118) rfl ?_
    refine zIret d_X12_mayHave_118 rfl (by first | exact zn_bi | rfl) rfl ?_
    first | (rw [s1_9]; exact zPi (bi_iff ⟨fun q => ⟨⟨by decide, q⟩, fun h => absurd h.1 (by decide)⟩, fun q => q.1.2⟩)) | (rw [s1_10]; exact zPi (bi_iff ⟨fun q => ⟨⟨by decide, q⟩, fun h => absurd h.1 (by decide)⟩, fun q => q.1.2⟩))
  rcases Decidable.em (nI j = (10 : Int32)) with s1_10 | s1_10
  · refine zTabAt s1_10 d_X12_mayHave_1 (by decide) (by decide) (off := 109) (by decide) (q := 110) (by decide) ?_
    refine zIloadN d_X12_mayHave_110 rfl rfl (q := 111) rfl ?_
    refine zIconst d_X12_mayHave_111 (v := 0) ic_0 (q := 112) rfl ?_
    refine zSipush d_X12_mayHave_112 (v := 999) sc_999 (q := 115) rfl ?_
    refine zCallSP d_X12_mayHave_115 ml_X12_127 k_X12_in kt_X12_in (sp_X12_in (d := d - 1) (by omega) ) rfl rfl (Nat.le_of_ble_eq_true rfl) (by decide) (by omega) zns100 (q := 118) rfl ?_
    refine zIret d_X12_mayHave_118 rfl (by first | exact zn_bi | rfl) rfl ?_
    first | (rw [s1_9]; exact zPi (bi_iff ⟨fun q => ⟨⟨by decide, q⟩, fun h => absurd h.1 (by decide)⟩, fun q => q.1.2⟩)) | (rw [s1_10]; exact zPi (bi_iff ⟨fun q => ⟨⟨by decide, q⟩, fun h => absurd h.1 (by decide)⟩, fun q => q.1.2⟩))
  rcases Decidable.em (nI j = (11 : Int32)) with s1_11 | s1_11
  · refine zTabAt s1_11 d_X12_mayHave_1 (by decide) (by decide) (off := 118) (by decide) (q := 119) (by decide) ?_
    refine zIconst d_X12_mayHave_119 (v := 1) ic_1 (q := 120) rfl ?_
    refine zIret d_X12_mayHave_120 rfl (by first | exact zn_bi | rfl) rfl ?_
    rw [s1_11]
    exact zPi (bi_t ⟨⟨by decide, zmay_any v⟩, fun h => absurd h.1 (by decide)⟩).symm
  exact absurd hj (by
  have q0 : j ≠ 0 := fun e => s1_0 (congrArg nI e)
  have q1 : j ≠ 1 := fun e => s1_1 (congrArg nI e)
  have q2 : j ≠ 2 := fun e => s1_2 (congrArg nI e)
  have q3 : j ≠ 3 := fun e => s1_3 (congrArg nI e)
  have q4 : j ≠ 4 := fun e => s1_4 (congrArg nI e)
  have q5 : j ≠ 5 := fun e => s1_5 (congrArg nI e)
  have q6 : j ≠ 6 := fun e => s1_6 (congrArg nI e)
  have q7 : j ≠ 7 := fun e => s1_7 (congrArg nI e)
  have q8 : j ≠ 8 := fun e => s1_8 (congrArg nI e)
  have q9 : j ≠ 9 := fun e => s1_9 (congrArg nI e)
  have q10 : j ≠ 10 := fun e => s1_10 (congrArg nI e)
  have q11 : j ≠ 11 := fun e => s1_11 (congrArg nI e)
  omega)
theorem sp_X12_changes (hd : 4 ≤ d) (hD : zMd I L V K pg) (hK : zSky V ns nt nh) {dn : Nat} (hdn : V 31 4 = nI dn) (h40 : dn ≤ 40) {j k : Nat} (hj : j < 12) (hk : k < zHold ns nt nh (nI j)) {v : Int32} :
    zSp g l d 100 m_X12_changes [.ref 64, .int (nI j), .int (nI k), .int v] (zU I L fs) (zX (fun x w => x = V (3 + j) k ∧ (V (3 + j) k = v ∧ w = zU I L fs ∨ ¬ V (3 + j) k = v ∧ ∃ J, w = zU J L fs ∧ zFrm I J ∧ zMd J L (zChg (zLay V ns nt nh (nI j) (nI k) v) dn (nI j) (nI k) (V (3 + j) k) v) K pg))) := by
  have hM := hD.1
  have hC := hD.2.2.1
  have fin : ∀ J, (∀ a, a < 64 ∨ 78 < a → J a = I a) → (∀ i, i ≠ 14 → i ≠ 15 → J 64 i = I 64 i) → zMs J (zLay V ns nt nh (nI j) (nI k) v) → zMc J (zChg (zLay V ns nt nh (nI j) (nI k) v) dn (nI j) (nI k) (V (3 + j) k) v) →
      zFrm I J ∧ zMd J L (zChg (zLay V ns nt nh (nI j) (nI k) v) dn (nI j) (nI k) (V (3 + j) k) v) K pg := by
    intro J h1 h2 h3 h4
    have e : ∀ a, (14 < a ∧ a < 31) ∨ 35 < a → zChg (zLay V ns nt nh (nI j) (nI k) v) dn (nI j) (nI k) (V (3 + j) k) v a = V a := fun a ha => (zChg_ne (by omega)).trans (zLay_ne (by omega))
    exact ⟨fun a ha => h1 a (Or.inl ha), zMs_ex ⟨rfl, rfl, rfl⟩ (fun _ _ => rfl) (fun a ha => zChg_ne (by omega)) h3, zMt_ex (h2 _ (by decide) (by decide)) (h1 _ (by decide)) ⟨e _ (by decide), e _ (by decide)⟩ hD.2.1, h4,
      zMi_ex (fun i hi => h2 i (by omega) (by omega)) (h1 _ (by decide)) ⟨e _ (by decide), e _ (by decide)⟩ hD.2.2.2.1, zMa_ex ⟨h2 _ (by decide) (by decide), h2 _ (by decide) (by decide)⟩ ⟨h1 _ (by decide), h1 _ (by decide)⟩ ⟨e _ (by decide), e _ (by decide), e _ (by decide)⟩ hD.2.2.2.2.1,
      zMh_ex ⟨h1 _ (by decide), h1 _ (by decide)⟩ (fun a ha => e a (by omega)) hD.2.2.2.2.2.1, zMl_ex (h2 _ (by decide) (by decide)) (fun a ha => h1 a (by omega)) hD.2.2.2.2.2.2⟩
  have tail : ∀ (Q : Option Value → zW → Prop) (J0 : Nat → Nat → Int32) (m : Nat), m < 40 → J0 64 14 = nI m → zMs J0 V → (∀ J, (∀ a, a < 64 ∨ 78 < a → J a = J0 a) → J 64 = zup (J0 64) 14 (nI (m + 1)) → J 75 = zup (J0 75) m (nI j) → J 76 = zup (J0 76) m (nI k) → J 77 = zup (J0 77) m (V (3 + j) k) → J 78 = zup (J0 78) m v → zMs J (zLay V ns nt nh (nI j) (nI k) v) → Q (some (.int (V (3 + j) k))) (zU J L fs)) →
      zA g l d m_X12_changes J0 L fs 121 [(4, .int (V (3 + j) k)), (0, .ref 64), (1, .int (nI j)), (2, .int (nI k)), (3, .int v)] Q := by
    intro Q J0 m hm e0 hM0 KK
    have e1 : J0 64 14 + 1 = nI (m + 1) := by rw [e0, nI_1]
    refine zAloadN d_X12_changes_121 rfl rfl (q := 122) rfl ?_
    refine zGetR d_X12_changes_122 ff_X12_42 sh_64 (by decide) r_64_16 (q := 125) rfl ?_
    refine zAloadN d_X12_changes_125 rfl rfl (q := 126) rfl ?_
    refine zGetI d_X12_changes_126 ff_X12_171 sh_64 (by decide) (q := 129) rfl ?_
    refine zIloadN d_X12_changes_129 rfl rfl (q := 130) rfl ?_
    refine zIast d_X12_changes_130 sh_75 (by decide) e0 hm (q := 131) rfl ?_
    refine zAloadN d_X12_changes_131 rfl rfl (q := 132) rfl ?_
    refine zGetR d_X12_changes_132 ff_X12_45 sh_64 (by decide) r_64_17 (q := 135) rfl ?_
    refine zAloadN d_X12_changes_135 rfl rfl (q := 136) rfl ?_
    refine zGetI d_X12_changes_136 ff_X12_171 sh_64 (by decide) (q := 139) rfl ?_
    refine zIloadN d_X12_changes_139 rfl rfl (q := 140) rfl ?_
    refine zIast d_X12_changes_140 sh_76 (by decide) e0 hm (q := 141) rfl ?_
    refine zAloadN d_X12_changes_141 rfl rfl (q := 142) rfl ?_
    refine zGetR d_X12_changes_142 ff_X12_48 sh_64 (by decide) r_64_18 (q := 145) rfl ?_
    refine zAloadN d_X12_changes_145 rfl rfl (q := 146) rfl ?_
    refine zGetI d_X12_changes_146 ff_X12_171 sh_64 (by decide) (q := 149) rfl ?_
    refine zIload d_X12_changes_149 rfl (q := 151) rfl ?_
    refine zIast d_X12_changes_151 sh_77 (by decide) e0 hm (q := 152) rfl ?_
    refine zAloadN d_X12_changes_152 rfl rfl (q := 153) rfl ?_
    refine zGetR d_X12_changes_153 ff_X12_51 sh_64 (by decide) r_64_19 (q := 156) rfl ?_
    refine zAloadN d_X12_changes_156 rfl rfl (q := 157) rfl ?_
    refine zGetI d_X12_changes_157 ff_X12_171 sh_64 (by decide) (q := 160) rfl ?_
    refine zIloadN d_X12_changes_160 rfl rfl (q := 161) rfl ?_
    refine zIast d_X12_changes_161 sh_78 (by decide) e0 hm (q := 162) rfl ?_
    refine zAloadN d_X12_changes_162 rfl rfl (q := 163) rfl ?_
    refine zDup d_X12_changes_163 rfl (q := 164) rfl ?_
    refine zGetI d_X12_changes_164 ff_X12_171 sh_64 (by decide) (q := 167) rfl ?_
    refine zIconst d_X12_changes_167 (v := 1) ic_1 (q := 168) rfl ?_
    refine zIadd d_X12_changes_168 (q := 169) rfl ?_
    refine zPutI d_X12_changes_169 ff_X12_171 rfl rfl rfl sh_64 (by decide) (q := 172) rfl ?_
    obtain ⟨J1, hJ1⟩ : ∃ J1 : Nat → Nat → Int32, J1 = zup (zup (zup (zup (zup J0 75 (zup (J0 75) m (nI j))) 76 (zup (J0 76) m (nI k))) 77 (zup (J0 77) m (V (3 + j) k))) 78 (zup (J0 78) m v)) 64 (zup (J0 64) 14 (J0 64 14 + 1)) := ⟨_, rfl⟩
    refine (show ∀ (X : Nat → Nat → Int32), X = J1 → zAW g l d 100 100 m_X12_changes (zU J1 L fs) 172 [(4, .int (V (3 + j) k)), (0, .ref 64), (1, .int (nI j)), (2, .int (nI k)), (3, .int v)] [] _ → zAW g l d 100 100 m_X12_changes (zU X L fs) 172 [(4, .int (V (3 + j) k)), (0, .ref 64), (1, .int (nI j)), (2, .int (nI k)), (3, .int v)] [] _ from fun X e q => e ▸ q) _ hJ1.symm ?_
    have hs : zMs J1 V := zMs_ex (I := J0) (by rw [hJ1]; exact ⟨rfl, rfl, rfl⟩) (fun a ha => by rw [hJ1, zup_ne (by omega), zup_ne (by omega), zup_ne (by omega), zup_ne (by omega), zup_ne (by omega)]) (fun _ _ => rfl) hM0
    refine zAloadN d_X12_changes_172 rfl rfl (q := 173) rfl ?_
    refine zIloadN d_X12_changes_173 rfl rfl (q := 174) rfl ?_
    refine zIloadN d_X12_changes_174 rfl rfl (q := 175) rfl ?_
    refine zIloadN d_X12_changes_175 rfl rfl (q := 176) rfl ?_
    refine zCallVV d_X12_changes_176 ml_X12_174 k_X12_lays ki_X12_lays ks_X12_lays (sp_X12_lays (d := d - 1) (by omega) hs hK hj hk) rfl rfl sh_64 (by decide) rfl (by decide) (Nat.le_of_ble_eq_true rfl) (by decide) (by omega) zns100 (q := 179) rfl (fun w' hw' => ?_)
    obtain ⟨J, hJ, hJs, rfl⟩ := hw'
    refine zIload d_X12_changes_179 rfl (q := 181) rfl ?_
    refine zIret d_X12_changes_181 rfl rfl rfl ?_
    refine KK J (fun a ha => ?_) ?_ ?_ ?_ ?_ ?_ hJs
    · rw [hJ a (by omega), hJ1, zup_ne (by omega), zup_ne (by omega), zup_ne (by omega), zup_ne (by omega), zup_ne (by omega)]
    · rw [hJ _ (by decide), hJ1, e1]; rfl
    · rw [hJ _ (by decide), hJ1]; rfl
    · rw [hJ _ (by decide), hJ1]; rfl
    · rw [hJ _ (by decide), hJ1]; rfl
    · rw [hJ _ (by decide), hJ1]; rfl
  have vl : ∀ a, 14 < a → zLay V ns nt nh (nI j) (nI k) v a = V a := fun a ha => zLay_ne (Or.inr ha)
  have loop : ∀ i, i ≤ 40 → 1 ≤ i → V (3 + j) k ≠ v → dn = 40 → ∀ J, (∀ a, a < 75 ∨ 78 < a → J a = (zup I 64 (zup (I 64) 15 0)) a) → J 75 = zShl (I 75) i → J 76 = zShl (I 76) i → J 77 = zShl (I 77) i → J 78 = zShl (I 78) i →
      zA g l d m_X12_changes J L fs 34 [(5, .int (nI i)), (4, .int (V (3 + j) k)), (0, .ref 64), (1, .int (nI j)), (2, .int (nI k)), (3, .int v)] (zX (fun x w => x = V (3 + j) k ∧ (V (3 + j) k = v ∧ w = zU I L fs ∨ ¬ V (3 + j) k = v ∧ ∃ J, w = zU J L fs ∧ zFrm I J ∧ zMd J L (zChg (zLay V ns nt nh (nI j) (nI k) v) dn (nI j) (nI k) (V (3 + j) k) v) K pg))) := by
    refine zloop 40 (fun i hi ih h1 hv e40 J hJ j75 j76 j77 j78 => ?_)
    have hp : ∀ f : Nat → Int32, nI i - 1 = nI (i - 1) := fun f => pk_sub (b := 1) h1
    refine zIload d_X12_changes_34 rfl (q := 36) rfl ?_
    refine zBipush d_X12_changes_36 (v := 40) bc_40 (q := 38) rfl ?_
    refine zIcmp_ge d_X12_changes_38 (tgt := 111) (q := 41) (by decide) rfl (fun h38 => ?_) (fun h38 => ?_)
    · have e : i = 40 := by have := nle (b := 40) h38; omega
      subst e
      refine zAloadN d_X12_changes_111 rfl rfl (q := 112) rfl ?_
      refine zDup d_X12_changes_112 rfl (q := 113) rfl ?_
      refine zGetI d_X12_changes_113 ff_X12_171 sh_64 (by decide) (q := 116) rfl ?_
      refine zIconst d_X12_changes_116 (v := 1) ic_1 (q := 117) rfl ?_
      refine zIsub d_X12_changes_117 (q := 118) rfl ?_
      refine zPutI d_X12_changes_118 ff_X12_171 rfl rfl rfl sh_64 (by decide) (q := 121) rfl ?_
      refine zSub [1, 2, 3, 4, 5] rfl ?_
      have h64 : J 64 14 = nI 40 := by rw [hJ 64 (by decide)]; exact hC.1.trans (hdn.trans (by rw [e40]))
      have hM1 : zMs J V := zMs_ex (I := I) (by rw [hJ 64 (by decide)]; exact ⟨rfl, rfl, rfl⟩) (fun a ha => (hJ a (by omega)).trans (zup_ne (by omega))) (fun _ _ => rfl) hM
      refine tail _ _ 39 (by decide) (show J 64 14 - 1 = nI 39 by rw [h64]; exact nI_pred 39) (zMs_ex (I := J) ⟨rfl, rfl, rfl⟩ (fun a ha => zup_ne (by omega)) (fun _ _ => rfl) hM1) (fun H g1 g64 g75 g76 g77 g78 g9 => ?_)
      refine ⟨_, rfl, rfl, Or.inr ⟨hv, H, ?_⟩⟩
      have gg := fin H (fun a ha => (g1 a ha).trans ((zup_ne (by omega)).trans ((hJ a (by omega)).trans (zup_ne (by omega))))) (fun q q1 q2 => by rw [g64, zup_ne q1]; show (zup (J 64) 14 _) q = _; rw [zup_ne q1, hJ 64 (by decide)]; exact zup_ne q2) g9
        (e40 ▸ zMc_chg40 hC vl ⟨by rw [g64]; rfl, by rw [g64]; show J 64 15 = 0; rw [hJ 64 (by decide)]; rfl⟩ (g75.trans (congrArg (fun f => zup f 39 _) j75)) (g76.trans (congrArg (fun f => zup f 39 _) j76)) (g77.trans (congrArg (fun f => zup f 39 _) j77)) (g78.trans (congrArg (fun f => zup f 39 _) j78)))
      exact ⟨rfl, gg.1, gg.2⟩
    · have hlt : i < 40 := nnle (b := 40) h38
      refine zAloadN d_X12_changes_41 rfl rfl (q := 42) rfl ?_
      refine zGetR d_X12_changes_42 ff_X12_42 sh_64 (by decide) r_64_16 (q := 45) rfl ?_
      refine zIload d_X12_changes_45 rfl (q := 47) rfl ?_
      refine zIconst d_X12_changes_47 (v := 1) ic_1 (q := 48) rfl ?_
      refine zIsub d_X12_changes_48 (q := 49) rfl ?_
      refine zAloadN d_X12_changes_49 rfl rfl (q := 50) rfl ?_
      refine zGetR d_X12_changes_50 ff_X12_42 sh_64 (by decide) r_64_16 (q := 53) rfl ?_
      refine zIload d_X12_changes_53 rfl (q := 55) rfl ?_
      refine zIald d_X12_changes_55 sh_75 (by decide) rfl hlt (q := 56) rfl ?_
      refine zIast d_X12_changes_56 sh_75 (by decide) (hp (J 0)) (by omega) (q := 57) rfl ?_
      refine zAloadN d_X12_changes_57 rfl rfl (q := 58) rfl ?_
      refine zGetR d_X12_changes_58 ff_X12_45 sh_64 (by decide) r_64_17 (q := 61) rfl ?_
      refine zIload d_X12_changes_61 rfl (q := 63) rfl ?_
      refine zIconst d_X12_changes_63 (v := 1) ic_1 (q := 64) rfl ?_
      refine zIsub d_X12_changes_64 (q := 65) rfl ?_
      refine zAloadN d_X12_changes_65 rfl rfl (q := 66) rfl ?_
      refine zGetR d_X12_changes_66 ff_X12_45 sh_64 (by decide) r_64_17 (q := 69) rfl ?_
      refine zIload d_X12_changes_69 rfl (q := 71) rfl ?_
      refine zIald d_X12_changes_71 sh_76 (by decide) rfl hlt (q := 72) rfl ?_
      refine zIast d_X12_changes_72 sh_76 (by decide) (hp (J 0)) (by omega) (q := 73) rfl ?_
      refine zAloadN d_X12_changes_73 rfl rfl (q := 74) rfl ?_
      refine zGetR d_X12_changes_74 ff_X12_48 sh_64 (by decide) r_64_18 (q := 77) rfl ?_
      refine zIload d_X12_changes_77 rfl (q := 79) rfl ?_
      refine zIconst d_X12_changes_79 (v := 1) ic_1 (q := 80) rfl ?_
      refine zIsub d_X12_changes_80 (q := 81) rfl ?_
      refine zAloadN d_X12_changes_81 rfl rfl (q := 82) rfl ?_
      refine zGetR d_X12_changes_82 ff_X12_48 sh_64 (by decide) r_64_18 (q := 85) rfl ?_
      refine zIload d_X12_changes_85 rfl (q := 87) rfl ?_
      refine zIald d_X12_changes_87 sh_77 (by decide) rfl hlt (q := 88) rfl ?_
      refine zIast d_X12_changes_88 sh_77 (by decide) (hp (J 0)) (by omega) (q := 89) rfl ?_
      refine zAloadN d_X12_changes_89 rfl rfl (q := 90) rfl ?_
      refine zGetR d_X12_changes_90 ff_X12_51 sh_64 (by decide) r_64_19 (q := 93) rfl ?_
      refine zIload d_X12_changes_93 rfl (q := 95) rfl ?_
      refine zIconst d_X12_changes_95 (v := 1) ic_1 (q := 96) rfl ?_
      refine zIsub d_X12_changes_96 (q := 97) rfl ?_
      refine zAloadN d_X12_changes_97 rfl rfl (q := 98) rfl ?_
      refine zGetR d_X12_changes_98 ff_X12_51 sh_64 (by decide) r_64_19 (q := 101) rfl ?_
      refine zIload d_X12_changes_101 rfl (q := 103) rfl ?_
      refine zIald d_X12_changes_103 sh_78 (by decide) rfl hlt (q := 104) rfl ?_
      refine zIast d_X12_changes_104 sh_78 (by decide) (hp (J 0)) (by omega) (q := 105) rfl ?_
      refine zIinc d_X12_changes_105 rfl (zinc _) (by decide) rfl (q := 108) rfl ?_
      refine zGoto d_X12_changes_108 (q := 34) (by decide) ?_
      refine zSub [0, 1, 2, 3, 4, 5] rfl ?_
      refine ih hlt (by omega) hv e40 _ (fun a ha => ?_) ?_ ?_ ?_ ?_
      · rw [zup_ne (by omega), zup_ne (by omega), zup_ne (by omega), zup_ne (by omega)]; exact hJ a ha
      · show zup (J 75) (i - 1) (J 75 i) = _; rw [j75, zShl_step h1]
      · show zup (J 76) (i - 1) (J 76 i) = _; rw [j76, zShl_step h1]
      · show zup (J 77) (i - 1) (J 77 i) = _; rw [j77, zShl_step h1]
      · show zup (J 78) (i - 1) (J 78 i) = _; rw [j78, zShl_step h1]
  refine zSp_of (lv := [(0, .ref 64), (1, .int (nI j)), (2, .int (nI k)), (3, .int v)]) k_X12_changes rfl (Nat.le_of_ble_eq_true rfl) ?_
  refine zAloadN d_X12_changes_0 rfl rfl (q := 1) rfl ?_
  refine zIloadN d_X12_changes_1 rfl rfl (q := 2) rfl ?_
  refine zIloadN d_X12_changes_2 rfl rfl (q := 3) rfl ?_
  refine zCallVP d_X12_changes_3 ml_X12_164 k_X12_valueAt ki_X12_valueAt ks_X12_valueAt (sp_X12_valueAt (d := d - 1) (by omega) hM hK hj hk) rfl rfl sh_64 (by decide) rfl (by decide) (Nat.le_of_ble_eq_true rfl) (by decide) (by omega) zns100 (q := 6) rfl ?_
  refine zIstore d_X12_changes_6 (by decide) rfl (q := 8) rfl ?_
  refine zIload d_X12_changes_8 rfl (q := 10) rfl ?_
  refine zIloadN d_X12_changes_10 rfl rfl (q := 11) rfl ?_
  refine zIcmp_ne d_X12_changes_11 (tgt := 17) (q := 14) (by decide) rfl (fun h11 => ?_) (fun h11 => ?_)
  · refine zAloadN d_X12_changes_17 rfl rfl (q := 18) rfl ?_
    refine zIconst d_X12_changes_18 (v := 0) ic_0 (q := 19) rfl ?_
    refine zPutI d_X12_changes_19 ff_X12_168 rfl rfl rfl sh_64 (by decide) (q := 22) rfl ?_
    refine zAloadN d_X12_changes_22 rfl rfl (q := 23) rfl ?_
    refine zGetI d_X12_changes_23 ff_X12_171 sh_64 (by decide) (q := 26) rfl ?_
    refine zBipush d_X12_changes_26 (v := 40) bc_40 (q := 28) rfl ?_
    refine zIcmp_ne d_X12_changes_28 (tgt := 121) (q := 31) (by decide) rfl (fun h28 => ?_) (fun h28 => ?_)
    · have n40 : dn < 40 := by rcases Nat.eq_or_lt_of_le h40 with q | q; exact absurd ((show I 64 14 = nI 40 from hC.1.trans (hdn.trans (by rw [q])))) h28; exact q
      refine zSub [0, 1, 2, 3, 4] rfl ?_
      refine tail _ _ dn n40 (hC.1.trans hdn) (zMs_ex (I := I) ⟨rfl, rfl, rfl⟩ (fun a ha => zup_ne (by omega)) (fun _ _ => rfl) hM) (fun H g1 g64 g75 g76 g77 g78 g9 => ?_)
      refine ⟨_, rfl, rfl, Or.inr ⟨h11, H, ?_⟩⟩
      have gg := fin H (fun a ha => (g1 a ha).trans (zup_ne (by omega))) (fun q q1 q2 => by rw [g64, zup_ne q1]; exact zup_ne q2) g9 (zMc_chg n40 hC vl ⟨by rw [g64]; rfl, by rw [g64]; rfl⟩ g75 g76 g77 g78)
      exact ⟨rfl, gg.1, gg.2⟩
    · have e40 : dn = 40 := (nI_eq (b := 40) (by omega) (by decide)).mp (hdn.symm.trans (hC.1.symm.trans h28))
      refine zIconst d_X12_changes_31 (v := 1) ic_1 (q := 32) rfl ?_
      refine zIstore d_X12_changes_32 (by decide) rfl (q := 34) rfl ?_
      refine zSub [0, 1, 2, 3, 4, 5] rfl ?_
      exact loop 1 (by decide) (by decide) h11 e40 _ (fun a ha => rfl) zShl_1.symm zShl_1.symm zShl_1.symm zShl_1.symm
  · refine zIload d_X12_changes_14 rfl (q := 16) rfl ?_
    refine zIret d_X12_changes_16 rfl rfl rfl ?_
    exact ⟨_, rfl, rfl, Or.inl ⟨h11, rfl⟩⟩
end S42

