theorem d_X11_init_0 : decode (zmc m_X11_init) 0 = .ok (.aload_n 0, 1) := by decide +kernel
theorem d_X11_init_1 : decode (zmc m_X11_init) 1 = .ok (.invokespecial 1, 3) := by decide +kernel
theorem d_X11_init_4 : decode (zmc m_X11_init) 4 = .ok (.new 7, 3) := by decide +kernel
theorem d_X11_init_7 : decode (zmc m_X11_init) 7 = .ok (.dup, 1) := by decide +kernel
theorem d_X11_init_8 : decode (zmc m_X11_init) 8 = .ok (.invokespecial 9, 3) := by decide +kernel
theorem d_X11_init_11 : decode (zmc m_X11_init) 11 = .ok (.astore_n 1, 1) := by decide +kernel
theorem d_X11_init_12 : decode (zmc m_X11_init) 12 = .ok (.aload_n 0, 1) := by decide +kernel
theorem d_X11_init_13 : decode (zmc m_X11_init) 13 = .ok (.aload_n 1, 1) := by decide +kernel
theorem d_X11_init_14 : decode (zmc m_X11_init) 14 = .ok (.putfield 10, 3) := by decide +kernel
theorem d_X11_init_17 : decode (zmc m_X11_init) 17 = .ok (.aload_n 0, 1) := by decide +kernel
theorem d_X11_init_18 : decode (zmc m_X11_init) 18 = .ok (.new 16, 3) := by decide +kernel
theorem d_X11_init_21 : decode (zmc m_X11_init) 21 = .ok (.dup, 1) := by decide +kernel
theorem d_X11_init_22 : decode (zmc m_X11_init) 22 = .ok (.aload_n 1, 1) := by decide +kernel
theorem d_X11_init_23 : decode (zmc m_X11_init) 23 = .ok (.invokespecial 18, 3) := by decide +kernel
theorem d_X11_init_26 : decode (zmc m_X11_init) 26 = .ok (.putfield 21, 3) := by decide +kernel
theorem d_X11_init_29 : decode (zmc m_X11_init) 29 = .ok (.aload_n 0, 1) := by decide +kernel
theorem d_X11_init_30 : decode (zmc m_X11_init) 30 = .ok (.new 25, 3) := by decide +kernel
theorem d_X11_init_33 : decode (zmc m_X11_init) 33 = .ok (.dup, 1) := by decide +kernel
theorem d_X11_init_34 : decode (zmc m_X11_init) 34 = .ok (.aload_n 1, 1) := by decide +kernel
theorem d_X11_init_35 : decode (zmc m_X11_init) 35 = .ok (.invokespecial 27, 3) := by decide +kernel
theorem d_X11_init_38 : decode (zmc m_X11_init) 38 = .ok (.putfield 28, 3) := by decide +kernel
theorem d_X11_init_41 : decode (zmc m_X11_init) 41 = .ok (.aload_n 0, 1) := by decide +kernel
theorem d_X11_init_42 : decode (zmc m_X11_init) 42 = .ok (.new 32, 3) := by decide +kernel
theorem d_X11_init_45 : decode (zmc m_X11_init) 45 = .ok (.dup, 1) := by decide +kernel
theorem d_X11_init_46 : decode (zmc m_X11_init) 46 = .ok (.aload_n 1, 1) := by decide +kernel
theorem d_X11_init_47 : decode (zmc m_X11_init) 47 = .ok (.invokespecial 34, 3) := by decide +kernel
theorem d_X11_init_50 : decode (zmc m_X11_init) 50 = .ok (.putfield 35, 3) := by decide +kernel
theorem d_X11_init_53 : decode (zmc m_X11_init) 53 = .ok (.aload_n 0, 1) := by decide +kernel
theorem d_X11_init_54 : decode (zmc m_X11_init) 54 = .ok (.new 39, 3) := by decide +kernel
theorem d_X11_init_57 : decode (zmc m_X11_init) 57 = .ok (.dup, 1) := by decide +kernel
theorem d_X11_init_58 : decode (zmc m_X11_init) 58 = .ok (.invokespecial 41, 3) := by decide +kernel
theorem d_X11_init_61 : decode (zmc m_X11_init) 61 = .ok (.putfield 42, 3) := by decide +kernel
theorem d_X11_init_64 : decode (zmc m_X11_init) 64 = .ok (.aload_n 0, 1) := by decide +kernel
theorem d_X11_init_65 : decode (zmc m_X11_init) 65 = .ok (.new 46, 3) := by decide +kernel
theorem d_X11_init_68 : decode (zmc m_X11_init) 68 = .ok (.dup, 1) := by decide +kernel
theorem d_X11_init_69 : decode (zmc m_X11_init) 69 = .ok (.invokespecial 48, 3) := by decide +kernel
theorem d_X11_init_72 : decode (zmc m_X11_init) 72 = .ok (.putfield 49, 3) := by decide +kernel
theorem d_X11_init_75 : decode (zmc m_X11_init) 75 = .ok (.aload_n 0, 1) := by decide +kernel
theorem d_X11_init_76 : decode (zmc m_X11_init) 76 = .ok (.new 53, 3) := by decide +kernel
theorem d_X11_init_79 : decode (zmc m_X11_init) 79 = .ok (.dup, 1) := by decide +kernel
theorem d_X11_init_80 : decode (zmc m_X11_init) 80 = .ok (.invokespecial 55, 3) := by decide +kernel
theorem d_X11_init_83 : decode (zmc m_X11_init) 83 = .ok (.putfield 56, 3) := by decide +kernel
theorem d_X11_init_86 : decode (zmc m_X11_init) 86 = .ok (.aload_n 0, 1) := by decide +kernel
theorem d_X11_init_87 : decode (zmc m_X11_init) 87 = .ok (.new 60, 3) := by decide +kernel
theorem d_X11_init_90 : decode (zmc m_X11_init) 90 = .ok (.dup, 1) := by decide +kernel
theorem d_X11_init_91 : decode (zmc m_X11_init) 91 = .ok (.invokespecial 62, 3) := by decide +kernel
theorem d_X11_init_94 : decode (zmc m_X11_init) 94 = .ok (.putfield 63, 3) := by decide +kernel
theorem d_X11_init_97 : decode (zmc m_X11_init) 97 = .ok (.aload_n 0, 1) := by decide +kernel
theorem d_X11_init_98 : decode (zmc m_X11_init) 98 = .ok (.new 67, 3) := by decide +kernel
theorem d_X11_init_101 : decode (zmc m_X11_init) 101 = .ok (.dup, 1) := by decide +kernel
theorem d_X11_init_102 : decode (zmc m_X11_init) 102 = .ok (.invokespecial 69, 3) := by decide +kernel
theorem d_X11_init_105 : decode (zmc m_X11_init) 105 = .ok (.putfield 70, 3) := by decide +kernel
theorem d_X11_init_108 : decode (zmc m_X11_init) 108 = .ok (.aload_n 0, 1) := by decide +kernel
theorem d_X11_init_109 : decode (zmc m_X11_init) 109 = .ok (.bipush 6, 2) := by decide +kernel
theorem d_X11_init_111 : decode (zmc m_X11_init) 111 = .ok (.anewarray 74, 3) := by decide +kernel
theorem d_X11_init_114 : decode (zmc m_X11_init) 114 = .ok (.putfield 76, 3) := by decide +kernel
theorem d_X11_init_117 : decode (zmc m_X11_init) 117 = .ok (.iconst 0, 1) := by decide +kernel
theorem d_X11_init_118 : decode (zmc m_X11_init) 118 = .ok (.istore_n 2, 1) := by decide +kernel
theorem d_X11_init_119 : decode (zmc m_X11_init) 119 = .ok (.iload_n 2, 1) := by decide +kernel
theorem d_X11_init_120 : decode (zmc m_X11_init) 120 = .ok (.bipush 6, 2) := by decide +kernel
theorem d_X11_init_122 : decode (zmc m_X11_init) 122 = .ok (.if_icmp .ge 22, 3) := by decide +kernel
theorem d_X11_init_125 : decode (zmc m_X11_init) 125 = .ok (.aload_n 0, 1) := by decide +kernel
theorem d_X11_init_126 : decode (zmc m_X11_init) 126 = .ok (.getfield 76, 3) := by decide +kernel
theorem d_X11_init_129 : decode (zmc m_X11_init) 129 = .ok (.iload_n 2, 1) := by decide +kernel
theorem d_X11_init_130 : decode (zmc m_X11_init) 130 = .ok (.new 74, 3) := by decide +kernel
theorem d_X11_init_133 : decode (zmc m_X11_init) 133 = .ok (.dup, 1) := by decide +kernel
theorem d_X11_init_134 : decode (zmc m_X11_init) 134 = .ok (.invokespecial 80, 3) := by decide +kernel
theorem d_X11_init_137 : decode (zmc m_X11_init) 137 = .ok (.aastore, 1) := by decide +kernel
theorem d_X11_init_138 : decode (zmc m_X11_init) 138 = .ok (.iinc 2 1, 3) := by decide +kernel
theorem d_X11_init_141 : decode (zmc m_X11_init) 141 = .ok (.goto (-22), 3) := by decide +kernel
theorem d_X11_init_144 : decode (zmc m_X11_init) 144 = .ok (.aload_n 0, 1) := by decide +kernel
theorem d_X11_init_145 : decode (zmc m_X11_init) 145 = .ok (.new 81, 3) := by decide +kernel
theorem d_X11_init_148 : decode (zmc m_X11_init) 148 = .ok (.dup, 1) := by decide +kernel
theorem d_X11_init_149 : decode (zmc m_X11_init) 149 = .ok (.invokespecial 83, 3) := by decide +kernel
theorem d_X11_init_152 : decode (zmc m_X11_init) 152 = .ok (.putfield 84, 3) := by decide +kernel
theorem d_X11_init_155 : decode (zmc m_X11_init) 155 = .ok (.aload_n 0, 1) := by decide +kernel
theorem d_X11_init_156 : decode (zmc m_X11_init) 156 = .ok (.new 81, 3) := by decide +kernel
theorem d_X11_init_159 : decode (zmc m_X11_init) 159 = .ok (.dup, 1) := by decide +kernel
theorem d_X11_init_160 : decode (zmc m_X11_init) 160 = .ok (.invokespecial 83, 3) := by decide +kernel
theorem d_X11_init_163 : decode (zmc m_X11_init) 163 = .ok (.putfield 88, 3) := by decide +kernel
theorem d_X11_init_166 : decode (zmc m_X11_init) 166 = .ok (.return_, 1) := by decide +kernel
theorem d_X12_init_0 : decode (zmc m_X12_init) 0 = .ok (.aload_n 0, 1) := by decide +kernel
theorem d_X12_init_1 : decode (zmc m_X12_init) 1 = .ok (.invokespecial 3, 3) := by decide +kernel
theorem d_X12_init_4 : decode (zmc m_X12_init) 4 = .ok (.aload_n 0, 1) := by decide +kernel
theorem d_X12_init_5 : decode (zmc m_X12_init) 5 = .ok (.bipush 10, 2) := by decide +kernel
theorem d_X12_init_7 : decode (zmc m_X12_init) 7 = .ok (.newarray .int, 2) := by decide +kernel
theorem d_X12_init_9 : decode (zmc m_X12_init) 9 = .ok (.putfield 9, 3) := by decide +kernel
theorem d_X12_init_12 : decode (zmc m_X12_init) 12 = .ok (.aload_n 0, 1) := by decide +kernel
theorem d_X12_init_13 : decode (zmc m_X12_init) 13 = .ok (.bipush 10, 2) := by decide +kernel
theorem d_X12_init_15 : decode (zmc m_X12_init) 15 = .ok (.newarray .int, 2) := by decide +kernel
theorem d_X12_init_17 : decode (zmc m_X12_init) 17 = .ok (.putfield 15, 3) := by decide +kernel
theorem d_X12_init_20 : decode (zmc m_X12_init) 20 = .ok (.aload_n 0, 1) := by decide +kernel
theorem d_X12_init_21 : decode (zmc m_X12_init) 21 = .ok (.bipush 10, 2) := by decide +kernel
theorem d_X12_init_23 : decode (zmc m_X12_init) 23 = .ok (.newarray .int, 2) := by decide +kernel
theorem d_X12_init_25 : decode (zmc m_X12_init) 25 = .ok (.putfield 18, 3) := by decide +kernel
theorem d_X12_init_28 : decode (zmc m_X12_init) 28 = .ok (.aload_n 0, 1) := by decide +kernel
theorem d_X12_init_29 : decode (zmc m_X12_init) 29 = .ok (.bipush 10, 2) := by decide +kernel
theorem d_X12_init_31 : decode (zmc m_X12_init) 31 = .ok (.newarray .int, 2) := by decide +kernel
theorem d_X12_init_33 : decode (zmc m_X12_init) 33 = .ok (.putfield 21, 3) := by decide +kernel
theorem d_X12_init_36 : decode (zmc m_X12_init) 36 = .ok (.aload_n 0, 1) := by decide +kernel
theorem d_X12_init_37 : decode (zmc m_X12_init) 37 = .ok (.bipush 10, 2) := by decide +kernel
theorem d_X12_init_39 : decode (zmc m_X12_init) 39 = .ok (.newarray .int, 2) := by decide +kernel
theorem d_X12_init_41 : decode (zmc m_X12_init) 41 = .ok (.putfield 24, 3) := by decide +kernel
theorem d_X12_init_44 : decode (zmc m_X12_init) 44 = .ok (.aload_n 0, 1) := by decide +kernel
theorem d_X12_init_45 : decode (zmc m_X12_init) 45 = .ok (.bipush 10, 2) := by decide +kernel
theorem d_X12_init_47 : decode (zmc m_X12_init) 47 = .ok (.newarray .int, 2) := by decide +kernel
theorem d_X12_init_49 : decode (zmc m_X12_init) 49 = .ok (.putfield 27, 3) := by decide +kernel
theorem d_X12_init_52 : decode (zmc m_X12_init) 52 = .ok (.aload_n 0, 1) := by decide +kernel
theorem d_X12_init_53 : decode (zmc m_X12_init) 53 = .ok (.iconst 4, 1) := by decide +kernel
theorem d_X12_init_54 : decode (zmc m_X12_init) 54 = .ok (.newarray .int, 2) := by decide +kernel
theorem d_X12_init_56 : decode (zmc m_X12_init) 56 = .ok (.putfield 30, 3) := by decide +kernel
theorem d_X12_init_59 : decode (zmc m_X12_init) 59 = .ok (.aload_n 0, 1) := by decide +kernel
theorem d_X12_init_60 : decode (zmc m_X12_init) 60 = .ok (.iconst 4, 1) := by decide +kernel
theorem d_X12_init_61 : decode (zmc m_X12_init) 61 = .ok (.newarray .int, 2) := by decide +kernel
theorem d_X12_init_63 : decode (zmc m_X12_init) 63 = .ok (.putfield 33, 3) := by decide +kernel
theorem d_X12_init_66 : decode (zmc m_X12_init) 66 = .ok (.aload_n 0, 1) := by decide +kernel
theorem d_X12_init_67 : decode (zmc m_X12_init) 67 = .ok (.bipush 6, 2) := by decide +kernel
theorem d_X12_init_69 : decode (zmc m_X12_init) 69 = .ok (.newarray .int, 2) := by decide +kernel
theorem d_X12_init_71 : decode (zmc m_X12_init) 71 = .ok (.putfield 36, 3) := by decide +kernel
theorem d_X12_init_74 : decode (zmc m_X12_init) 74 = .ok (.aload_n 0, 1) := by decide +kernel
theorem d_X12_init_75 : decode (zmc m_X12_init) 75 = .ok (.iconst 3, 1) := by decide +kernel
theorem d_X12_init_76 : decode (zmc m_X12_init) 76 = .ok (.newarray .int, 2) := by decide +kernel
theorem d_X12_init_78 : decode (zmc m_X12_init) 78 = .ok (.dup, 1) := by decide +kernel
theorem d_X12_init_79 : decode (zmc m_X12_init) 79 = .ok (.iconst 0, 1) := by decide +kernel
theorem d_X12_init_80 : decode (zmc m_X12_init) 80 = .ok (.iconst 0, 1) := by decide +kernel
theorem d_X12_init_81 : decode (zmc m_X12_init) 81 = .ok (.iastore, 1) := by decide +kernel
theorem d_X12_init_82 : decode (zmc m_X12_init) 82 = .ok (.dup, 1) := by decide +kernel
theorem d_X12_init_83 : decode (zmc m_X12_init) 83 = .ok (.iconst 1, 1) := by decide +kernel
theorem d_X12_init_84 : decode (zmc m_X12_init) 84 = .ok (.sipush 480, 3) := by decide +kernel
theorem d_X12_init_87 : decode (zmc m_X12_init) 87 = .ok (.iastore, 1) := by decide +kernel
theorem d_X12_init_88 : decode (zmc m_X12_init) 88 = .ok (.dup, 1) := by decide +kernel
theorem d_X12_init_89 : decode (zmc m_X12_init) 89 = .ok (.iconst 2, 1) := by decide +kernel
theorem d_X12_init_90 : decode (zmc m_X12_init) 90 = .ok (.iconst 1, 1) := by decide +kernel
theorem d_X12_init_91 : decode (zmc m_X12_init) 91 = .ok (.iastore, 1) := by decide +kernel
theorem d_X12_init_92 : decode (zmc m_X12_init) 92 = .ok (.putfield 39, 3) := by decide +kernel
theorem d_X12_init_95 : decode (zmc m_X12_init) 95 = .ok (.aload_n 0, 1) := by decide +kernel
theorem d_X12_init_96 : decode (zmc m_X12_init) 96 = .ok (.bipush 40, 2) := by decide +kernel
theorem d_X12_init_98 : decode (zmc m_X12_init) 98 = .ok (.newarray .int, 2) := by decide +kernel
theorem d_X12_init_100 : decode (zmc m_X12_init) 100 = .ok (.putfield 42, 3) := by decide +kernel
theorem d_X12_init_103 : decode (zmc m_X12_init) 103 = .ok (.aload_n 0, 1) := by decide +kernel
theorem d_X12_init_104 : decode (zmc m_X12_init) 104 = .ok (.bipush 40, 2) := by decide +kernel
theorem d_X12_init_106 : decode (zmc m_X12_init) 106 = .ok (.newarray .int, 2) := by decide +kernel
theorem d_X12_init_108 : decode (zmc m_X12_init) 108 = .ok (.putfield 45, 3) := by decide +kernel
theorem d_X12_init_111 : decode (zmc m_X12_init) 111 = .ok (.aload_n 0, 1) := by decide +kernel
theorem d_X12_init_112 : decode (zmc m_X12_init) 112 = .ok (.bipush 40, 2) := by decide +kernel
theorem d_X12_init_114 : decode (zmc m_X12_init) 114 = .ok (.newarray .int, 2) := by decide +kernel
theorem d_X12_init_116 : decode (zmc m_X12_init) 116 = .ok (.putfield 48, 3) := by decide +kernel
theorem d_X12_init_119 : decode (zmc m_X12_init) 119 = .ok (.aload_n 0, 1) := by decide +kernel
theorem d_X12_init_120 : decode (zmc m_X12_init) 120 = .ok (.bipush 40, 2) := by decide +kernel
theorem d_X12_init_122 : decode (zmc m_X12_init) 122 = .ok (.newarray .int, 2) := by decide +kernel
theorem d_X12_init_124 : decode (zmc m_X12_init) 124 = .ok (.putfield 51, 3) := by decide +kernel
theorem d_X12_init_127 : decode (zmc m_X12_init) 127 = .ok (.aload_n 0, 1) := by decide +kernel
theorem d_X12_init_128 : decode (zmc m_X12_init) 128 = .ok (.bipush 120, 2) := by decide +kernel
theorem d_X12_init_130 : decode (zmc m_X12_init) 130 = .ok (.newarray .byte, 2) := by decide +kernel
theorem d_X12_init_132 : decode (zmc m_X12_init) 132 = .ok (.putfield 54, 3) := by decide +kernel
theorem d_X12_init_135 : decode (zmc m_X12_init) 135 = .ok (.aload_n 0, 1) := by decide +kernel
theorem d_X12_init_136 : decode (zmc m_X12_init) 136 = .ok (.sipush 260, 3) := by decide +kernel
theorem d_X12_init_139 : decode (zmc m_X12_init) 139 = .ok (.newarray .byte, 2) := by decide +kernel
theorem d_X12_init_141 : decode (zmc m_X12_init) 141 = .ok (.putfield 58, 3) := by decide +kernel
theorem d_X12_init_144 : decode (zmc m_X12_init) 144 = .ok (.aload_n 0, 1) := by decide +kernel
theorem d_X12_init_145 : decode (zmc m_X12_init) 145 = .ok (.sipush 260, 3) := by decide +kernel
theorem d_X12_init_148 : decode (zmc m_X12_init) 148 = .ok (.newarray .int, 2) := by decide +kernel
theorem d_X12_init_150 : decode (zmc m_X12_init) 150 = .ok (.putfield 61, 3) := by decide +kernel
theorem d_X12_init_153 : decode (zmc m_X12_init) 153 = .ok (.aload_n 0, 1) := by decide +kernel
theorem d_X12_init_154 : decode (zmc m_X12_init) 154 = .ok (.iconst 2, 1) := by decide +kernel
theorem d_X12_init_155 : decode (zmc m_X12_init) 155 = .ok (.newarray .int, 2) := by decide +kernel
theorem d_X12_init_157 : decode (zmc m_X12_init) 157 = .ok (.putfield 64, 3) := by decide +kernel
theorem d_X12_init_160 : decode (zmc m_X12_init) 160 = .ok (.aload_n 0, 1) := by decide +kernel
theorem d_X12_init_161 : decode (zmc m_X12_init) 161 = .ok (.bipush 122, 2) := by decide +kernel
theorem d_X12_init_163 : decode (zmc m_X12_init) 163 = .ok (.newarray .short, 2) := by decide +kernel
theorem d_X12_init_165 : decode (zmc m_X12_init) 165 = .ok (.putfield 67, 3) := by decide +kernel
theorem d_X12_init_168 : decode (zmc m_X12_init) 168 = .ok (.aload_n 0, 1) := by decide +kernel
theorem d_X12_init_169 : decode (zmc m_X12_init) 169 = .ok (.bipush 122, 2) := by decide +kernel
theorem d_X12_init_171 : decode (zmc m_X12_init) 171 = .ok (.newarray .short, 2) := by decide +kernel
theorem d_X12_init_173 : decode (zmc m_X12_init) 173 = .ok (.putfield 71, 3) := by decide +kernel
theorem d_X12_init_176 : decode (zmc m_X12_init) 176 = .ok (.aload_n 0, 1) := by decide +kernel
theorem d_X12_init_177 : decode (zmc m_X12_init) 177 = .ok (.bipush 6, 2) := by decide +kernel
theorem d_X12_init_179 : decode (zmc m_X12_init) 179 = .ok (.newarray .int, 2) := by decide +kernel
theorem d_X12_init_181 : decode (zmc m_X12_init) 181 = .ok (.putfield 74, 3) := by decide +kernel
theorem d_X12_init_184 : decode (zmc m_X12_init) 184 = .ok (.aload_n 0, 1) := by decide +kernel
theorem d_X12_init_185 : decode (zmc m_X12_init) 185 = .ok (.sipush 130, 3) := by decide +kernel
theorem d_X12_init_188 : decode (zmc m_X12_init) 188 = .ok (.newarray .int, 2) := by decide +kernel
theorem d_X12_init_190 : decode (zmc m_X12_init) 190 = .ok (.putfield 77, 3) := by decide +kernel
theorem d_X12_init_193 : decode (zmc m_X12_init) 193 = .ok (.aload_n 0, 1) := by decide +kernel
theorem d_X12_init_194 : decode (zmc m_X12_init) 194 = .ok (.bipush 10, 2) := by decide +kernel
theorem d_X12_init_196 : decode (zmc m_X12_init) 196 = .ok (.newarray .int, 2) := by decide +kernel
theorem d_X12_init_198 : decode (zmc m_X12_init) 198 = .ok (.putfield 80, 3) := by decide +kernel
theorem d_X12_init_201 : decode (zmc m_X12_init) 201 = .ok (.aload_n 0, 1) := by decide +kernel
theorem d_X12_init_202 : decode (zmc m_X12_init) 202 = .ok (.bipush 10, 2) := by decide +kernel
theorem d_X12_init_204 : decode (zmc m_X12_init) 204 = .ok (.newarray .int, 2) := by decide +kernel
theorem d_X12_init_206 : decode (zmc m_X12_init) 206 = .ok (.putfield 83, 3) := by decide +kernel
theorem d_X12_init_209 : decode (zmc m_X12_init) 209 = .ok (.aload_n 0, 1) := by decide +kernel
theorem d_X12_init_210 : decode (zmc m_X12_init) 210 = .ok (.bipush 10, 2) := by decide +kernel
theorem d_X12_init_212 : decode (zmc m_X12_init) 212 = .ok (.newarray .int, 2) := by decide +kernel
theorem d_X12_init_214 : decode (zmc m_X12_init) 214 = .ok (.putfield 86, 3) := by decide +kernel
theorem d_X12_init_217 : decode (zmc m_X12_init) 217 = .ok (.aload_n 0, 1) := by decide +kernel
theorem d_X12_init_218 : decode (zmc m_X12_init) 218 = .ok (.iconst 4, 1) := by decide +kernel
theorem d_X12_init_219 : decode (zmc m_X12_init) 219 = .ok (.newarray .int, 2) := by decide +kernel
theorem d_X12_init_221 : decode (zmc m_X12_init) 221 = .ok (.putfield 89, 3) := by decide +kernel
theorem d_X12_init_224 : decode (zmc m_X12_init) 224 = .ok (.aload_n 0, 1) := by decide +kernel
theorem d_X12_init_225 : decode (zmc m_X12_init) 225 = .ok (.iconst 4, 1) := by decide +kernel
theorem d_X12_init_226 : decode (zmc m_X12_init) 226 = .ok (.newarray .int, 2) := by decide +kernel
theorem d_X12_init_228 : decode (zmc m_X12_init) 228 = .ok (.putfield 92, 3) := by decide +kernel
theorem d_X12_init_231 : decode (zmc m_X12_init) 231 = .ok (.aload_n 0, 1) := by decide +kernel
theorem d_X12_init_232 : decode (zmc m_X12_init) 232 = .ok (.iconst 5, 1) := by decide +kernel
theorem d_X12_init_233 : decode (zmc m_X12_init) 233 = .ok (.newarray .int, 2) := by decide +kernel
theorem d_X12_init_235 : decode (zmc m_X12_init) 235 = .ok (.putfield 95, 3) := by decide +kernel
theorem d_X12_init_238 : decode (zmc m_X12_init) 238 = .ok (.aload_n 0, 1) := by decide +kernel
theorem d_X12_init_239 : decode (zmc m_X12_init) 239 = .ok (.iconst 5, 1) := by decide +kernel
theorem d_X12_init_240 : decode (zmc m_X12_init) 240 = .ok (.newarray .int, 2) := by decide +kernel
theorem d_X12_init_242 : decode (zmc m_X12_init) 242 = .ok (.putfield 98, 3) := by decide +kernel
theorem d_X12_init_245 : decode (zmc m_X12_init) 245 = .ok (.aload_n 0, 1) := by decide +kernel
theorem d_X12_init_246 : decode (zmc m_X12_init) 246 = .ok (.bipush 50, 2) := by decide +kernel
theorem d_X12_init_248 : decode (zmc m_X12_init) 248 = .ok (.newarray .int, 2) := by decide +kernel
theorem d_X12_init_250 : decode (zmc m_X12_init) 250 = .ok (.putfield 101, 3) := by decide +kernel
theorem d_X12_init_253 : decode (zmc m_X12_init) 253 = .ok (.aload_n 0, 1) := by decide +kernel
theorem d_X12_init_254 : decode (zmc m_X12_init) 254 = .ok (.bipush 24, 2) := by decide +kernel
theorem d_X12_init_256 : decode (zmc m_X12_init) 256 = .ok (.newarray .int, 2) := by decide +kernel
theorem d_X12_init_258 : decode (zmc m_X12_init) 258 = .ok (.putfield 104, 3) := by decide +kernel
theorem d_X12_init_261 : decode (zmc m_X12_init) 261 = .ok (.aload_n 0, 1) := by decide +kernel
theorem d_X12_init_262 : decode (zmc m_X12_init) 262 = .ok (.bipush 6, 2) := by decide +kernel
theorem d_X12_init_264 : decode (zmc m_X12_init) 264 = .ok (.newarray .int, 2) := by decide +kernel
theorem d_X12_init_266 : decode (zmc m_X12_init) 266 = .ok (.dup, 1) := by decide +kernel
theorem d_X12_init_267 : decode (zmc m_X12_init) 267 = .ok (.iconst 0, 1) := by decide +kernel
theorem d_X12_init_268 : decode (zmc m_X12_init) 268 = .ok (.iconst (-1), 1) := by decide +kernel
theorem d_X12_init_269 : decode (zmc m_X12_init) 269 = .ok (.iastore, 1) := by decide +kernel
theorem d_X12_init_270 : decode (zmc m_X12_init) 270 = .ok (.dup, 1) := by decide +kernel
theorem d_X12_init_271 : decode (zmc m_X12_init) 271 = .ok (.iconst 1, 1) := by decide +kernel
theorem d_X12_init_272 : decode (zmc m_X12_init) 272 = .ok (.iconst (-1), 1) := by decide +kernel
theorem d_X12_init_273 : decode (zmc m_X12_init) 273 = .ok (.iastore, 1) := by decide +kernel
theorem d_X12_init_274 : decode (zmc m_X12_init) 274 = .ok (.dup, 1) := by decide +kernel
theorem d_X12_init_275 : decode (zmc m_X12_init) 275 = .ok (.iconst 2, 1) := by decide +kernel
theorem d_X12_init_276 : decode (zmc m_X12_init) 276 = .ok (.iconst (-1), 1) := by decide +kernel
theorem d_X12_init_277 : decode (zmc m_X12_init) 277 = .ok (.iastore, 1) := by decide +kernel
theorem d_X12_init_278 : decode (zmc m_X12_init) 278 = .ok (.dup, 1) := by decide +kernel
theorem d_X12_init_279 : decode (zmc m_X12_init) 279 = .ok (.iconst 3, 1) := by decide +kernel
theorem d_X12_init_280 : decode (zmc m_X12_init) 280 = .ok (.iconst (-1), 1) := by decide +kernel
theorem d_X12_init_281 : decode (zmc m_X12_init) 281 = .ok (.iastore, 1) := by decide +kernel
theorem d_X12_init_282 : decode (zmc m_X12_init) 282 = .ok (.dup, 1) := by decide +kernel
theorem d_X12_init_283 : decode (zmc m_X12_init) 283 = .ok (.iconst 4, 1) := by decide +kernel
theorem d_X12_init_284 : decode (zmc m_X12_init) 284 = .ok (.iconst (-1), 1) := by decide +kernel
theorem d_X12_init_285 : decode (zmc m_X12_init) 285 = .ok (.iastore, 1) := by decide +kernel
theorem d_X12_init_286 : decode (zmc m_X12_init) 286 = .ok (.dup, 1) := by decide +kernel
theorem d_X12_init_287 : decode (zmc m_X12_init) 287 = .ok (.iconst 5, 1) := by decide +kernel
theorem d_X12_init_288 : decode (zmc m_X12_init) 288 = .ok (.iconst (-1), 1) := by decide +kernel
theorem d_X12_init_289 : decode (zmc m_X12_init) 289 = .ok (.iastore, 1) := by decide +kernel
theorem d_X12_init_290 : decode (zmc m_X12_init) 290 = .ok (.putfield 107, 3) := by decide +kernel
theorem d_X12_init_293 : decode (zmc m_X12_init) 293 = .ok (.aload_n 0, 1) := by decide +kernel
theorem d_X12_init_294 : decode (zmc m_X12_init) 294 = .ok (.bipush 6, 2) := by decide +kernel
theorem d_X12_init_296 : decode (zmc m_X12_init) 296 = .ok (.newarray .int, 2) := by decide +kernel
theorem d_X12_init_298 : decode (zmc m_X12_init) 298 = .ok (.putfield 110, 3) := by decide +kernel
theorem d_X12_init_301 : decode (zmc m_X12_init) 301 = .ok (.aload_n 0, 1) := by decide +kernel
theorem d_X12_init_302 : decode (zmc m_X12_init) 302 = .ok (.sipush 360, 3) := by decide +kernel
theorem d_X12_init_305 : decode (zmc m_X12_init) 305 = .ok (.newarray .long, 2) := by decide +kernel
theorem d_X12_init_307 : decode (zmc m_X12_init) 307 = .ok (.putfield 113, 3) := by decide +kernel
theorem d_X12_init_310 : decode (zmc m_X12_init) 310 = .ok (.aload_n 0, 1) := by decide +kernel
theorem d_X12_init_311 : decode (zmc m_X12_init) 311 = .ok (.bipush 60, 2) := by decide +kernel
theorem d_X12_init_313 : decode (zmc m_X12_init) 313 = .ok (.newarray .long, 2) := by decide +kernel
theorem d_X12_init_315 : decode (zmc m_X12_init) 315 = .ok (.putfield 117, 3) := by decide +kernel
theorem d_X12_init_318 : decode (zmc m_X12_init) 318 = .ok (.return_, 1) := by decide +kernel
/-! CONSTRUCTORS: the watch, the reference -/
section S99
variable {g : zG} {l : Launch} {d : Nat}
theorem sp_X11_init (hd : 2 ≤ d) : zSp g l d 64 m_X11_init [.ref 0] (zIl [], zL0, zRl [], 1) (zV (fun w => w = (zIl ((52, 1, -1) :: (50, 1, -1) :: (48, 1, -1) :: (46, 1, -1) :: (44, 1, -1) :: (42, 1, -1) :: (14, 0, 1) :: (13, 0, 480) :: []), zL0, zRl ((0, 11, 59) :: (59, 3, 63) :: (59, 2, 62) :: (59, 1, 61) :: (59, 0, 60) :: (0, 10, 54) :: (54, 3, 58) :: (54, 2, 57) :: (54, 1, 56) :: (54, 0, 55) :: (41, 5, 52) :: (52, 0, 53) :: (41, 4, 50) :: (50, 0, 51) :: (41, 3, 48) :: (48, 0, 49) :: (41, 2, 46) :: (46, 0, 47) :: (41, 1, 44) :: (44, 0, 45) :: (41, 0, 42) :: (42, 0, 43) :: (0, 9, 41) :: (0, 8, 38) :: (38, 1, 40) :: (38, 0, 39) :: (0, 7, 36) :: (36, 0, 37) :: (0, 6, 31) :: (31, 3, 35) :: (31, 2, 34) :: (31, 1, 33) :: (31, 0, 32) :: (0, 5, 29) :: (29, 0, 30) :: (0, 4, 24) :: (24, 3, 28) :: (24, 2, 27) :: (24, 1, 26) :: (24, 0, 25) :: (0, 3, 22) :: (22, 0, 1) :: (22, 1, 23) :: (0, 2, 19) :: (19, 0, 1) :: (19, 2, 21) :: (19, 1, 20) :: (0, 1, 16) :: (16, 0, 1) :: (16, 2, 18) :: (16, 1, 17) :: (0, 0, 1) :: (1, 2, 15) :: (1, 1, 11) :: (1, 0, 2) :: (2, 11, 14) :: (2, 10, 13) :: (2, 9, 12) :: (2, 8, 11) :: (2, 7, 10) :: (2, 6, 9) :: (2, 5, 8) :: (2, 4, 7) :: (2, 3, 6) :: (2, 2, 5) :: (2, 1, 4) :: (2, 0, 3) :: []), 64))) := by
  refine zSp_of (lv := [(0, .ref 0)]) k_X11_init rfl (Nat.le_of_ble_eq_true rfl) ?_
  show zAW g l d 1 64 m_X11_init (zIl [], zL0, zRl [], 1) 0 [(0, .ref 0)] [] _
  refine zAloadN d_X11_init_0 rfl rfl (q := 1) rfl ?_
  refine zObj d_X11_init_1 ml_X11_1 (by omega) (Nat.le_of_ble_eq_true rfl) (q := 4) rfl ?_
  refine yNew (kd := 9) d_X11_init_4 cl_X11_7 in_X9 it_X9 (by decide) sh_1 (by unfold zFi; decide) (by unfold zFp; decide) (by decide) (n2 := 2) rfl (q := 7) rfl ?_
  refine zDup d_X11_init_7 rfl (q := 8) rfl ?_
  refine yCallI d_X11_init_8 ml_X11_9 k_X9_init ki_X9_init rfl rfl (sp_X9_init (d := d - 1) (by omega) (by unfold zFi; decide) (by unfold zFp; decide)) rfl rfl (Nat.le_of_ble_eq_true rfl) (by decide) (by omega) ⟨by decide, by decide, by decide⟩ (q := 11) rfl ?_
  refine zAstoreN d_X11_init_11 rfl (by decide) rfl (q := 12) rfl ?_
  refine zAloadN d_X11_init_12 rfl rfl (q := 13) rfl ?_
  refine zAloadN d_X11_init_13 rfl rfl (q := 14) rfl ?_
  first | refine yPutF d_X11_init_14 ff_X11_10 rfl rfl rfl (fun _ => rfl) (fun _ => rfl) sh_0 (by decide) (q := 17) rfl ?_ | refine yPutR d_X11_init_14 ff_X11_10 rfl (fun _ => rfl) (fun _ => rfl) rfl rfl sh_0 (by decide) (q := 17) rfl ?_
  refine zAloadN d_X11_init_17 rfl rfl (q := 18) rfl ?_
  refine yNew (kd := 4) d_X11_init_18 cl_X11_16 in_X4 it_X4 (by decide) sh_16 (by unfold zFi; decide) (by unfold zFp; decide) (by decide) (n2 := 17) rfl (q := 21) rfl ?_
  refine zDup d_X11_init_21 rfl (q := 22) rfl ?_
  refine zAloadN d_X11_init_22 rfl rfl (q := 23) rfl ?_
  refine yCallI d_X11_init_23 ml_X11_18 k_X4_init ki_X4_init rfl rfl (sp_X4_init (d := d - 1) (by omega) (by unfold zFi; decide) (by unfold zFp; decide)) rfl rfl (Nat.le_of_ble_eq_true rfl) (by decide) (by omega) ⟨by decide, by decide, by decide⟩ (q := 26) rfl ?_
  first | refine yPutF d_X11_init_26 ff_X11_21 rfl rfl rfl (fun _ => rfl) (fun _ => rfl) sh_0 (by decide) (q := 29) rfl ?_ | refine yPutR d_X11_init_26 ff_X11_21 rfl (fun _ => rfl) (fun _ => rfl) rfl rfl sh_0 (by decide) (q := 29) rfl ?_
  refine zAloadN d_X11_init_29 rfl rfl (q := 30) rfl ?_
  refine yNew (kd := 2) d_X11_init_30 cl_X11_25 in_X2 it_X2 (by decide) sh_19 (by unfold zFi; decide) (by unfold zFp; decide) (by decide) (n2 := 20) rfl (q := 33) rfl ?_
  refine zDup d_X11_init_33 rfl (q := 34) rfl ?_
  refine zAloadN d_X11_init_34 rfl rfl (q := 35) rfl ?_
  refine yCallI d_X11_init_35 ml_X11_27 k_X2_init ki_X2_init rfl rfl (sp_X2_init (d := d - 1) (by omega) (by unfold zFi; decide) (by unfold zFp; decide)) rfl rfl (Nat.le_of_ble_eq_true rfl) (by decide) (by omega) ⟨by decide, by decide, by decide⟩ (q := 38) rfl ?_
  first | refine yPutF d_X11_init_38 ff_X11_28 rfl rfl rfl (fun _ => rfl) (fun _ => rfl) sh_0 (by decide) (q := 41) rfl ?_ | refine yPutR d_X11_init_38 ff_X11_28 rfl (fun _ => rfl) (fun _ => rfl) rfl rfl sh_0 (by decide) (q := 41) rfl ?_
  refine zAloadN d_X11_init_41 rfl rfl (q := 42) rfl ?_
  refine yNew (kd := 3) d_X11_init_42 cl_X11_32 in_X3 it_X3 (by decide) sh_22 (by unfold zFi; decide) (by unfold zFp; decide) (by decide) (n2 := 23) rfl (q := 45) rfl ?_
  refine zDup d_X11_init_45 rfl (q := 46) rfl ?_
  refine zAloadN d_X11_init_46 rfl rfl (q := 47) rfl ?_
  refine yCallI d_X11_init_47 ml_X11_34 k_X3_init ki_X3_init rfl rfl (sp_X3_init (d := d - 1) (by omega) (by unfold zFi; decide) (by unfold zFp; decide)) rfl rfl (Nat.le_of_ble_eq_true rfl) (by decide) (by omega) ⟨by decide, by decide, by decide⟩ (q := 50) rfl ?_
  first | refine yPutF d_X11_init_50 ff_X11_35 rfl rfl rfl (fun _ => rfl) (fun _ => rfl) sh_0 (by decide) (q := 53) rfl ?_ | refine yPutR d_X11_init_50 ff_X11_35 rfl (fun _ => rfl) (fun _ => rfl) rfl rfl sh_0 (by decide) (q := 53) rfl ?_
  refine zAloadN d_X11_init_53 rfl rfl (q := 54) rfl ?_
  refine yNew (kd := 7) d_X11_init_54 cl_X11_39 in_X7 it_X7 (by decide) sh_24 (by unfold zFi; decide) (by unfold zFp; decide) (by decide) (n2 := 25) rfl (q := 57) rfl ?_
  refine zDup d_X11_init_57 rfl (q := 58) rfl ?_
  refine yCallN d_X11_init_58 rfl (List.mem_of_getElem? (i := 0) rfl) k_X7_init ki_X7_init rfl rfl (sp_X7_init (d := d - 1) (by omega) (by unfold zFi; decide) (by unfold zFp; decide)) rfl rfl (Nat.le_of_ble_eq_true rfl) (by decide) (by omega) ⟨by decide, by decide, by decide⟩ (q := 61) rfl ?_
  first | refine yPutF d_X11_init_61 ff_X11_42 rfl rfl rfl (fun _ => rfl) (fun _ => rfl) sh_0 (by decide) (q := 64) rfl ?_ | refine yPutR d_X11_init_61 ff_X11_42 rfl (fun _ => rfl) (fun _ => rfl) rfl rfl sh_0 (by decide) (q := 64) rfl ?_
  refine zAloadN d_X11_init_64 rfl rfl (q := 65) rfl ?_
  refine yNew (kd := 10) d_X11_init_65 cl_X11_46 in_X10 it_X10 (by decide) sh_29 (by unfold zFi; decide) (by unfold zFp; decide) (by decide) (n2 := 30) rfl (q := 68) rfl ?_
  refine zDup d_X11_init_68 rfl (q := 69) rfl ?_
  refine yCallN d_X11_init_69 rfl (List.mem_of_getElem? (i := 1) rfl) k_X10_init ki_X10_init rfl rfl (sp_X10_init (d := d - 1) (by omega) (by unfold zFi; decide) (by unfold zFp; decide)) rfl rfl (Nat.le_of_ble_eq_true rfl) (by decide) (by omega) ⟨by decide, by decide, by decide⟩ (q := 72) rfl ?_
  first | refine yPutF d_X11_init_72 ff_X11_49 rfl rfl rfl (fun _ => rfl) (fun _ => rfl) sh_0 (by decide) (q := 75) rfl ?_ | refine yPutR d_X11_init_72 ff_X11_49 rfl (fun _ => rfl) (fun _ => rfl) rfl rfl sh_0 (by decide) (q := 75) rfl ?_
  refine zAloadN d_X11_init_75 rfl rfl (q := 76) rfl ?_
  refine yNew (kd := 1) d_X11_init_76 cl_X11_53 in_X1 it_X1 (by decide) sh_31 (by unfold zFi; decide) (by unfold zFp; decide) (by decide) (n2 := 32) rfl (q := 79) rfl ?_
  refine zDup d_X11_init_79 rfl (q := 80) rfl ?_
  refine yCallN d_X11_init_80 rfl (List.mem_of_getElem? (i := 2) rfl) k_X1_init ki_X1_init rfl rfl (sp_X1_init (d := d - 1) (by omega) (by unfold zFi; decide) (by unfold zFp; decide)) rfl rfl (Nat.le_of_ble_eq_true rfl) (by decide) (by omega) ⟨by decide, by decide, by decide⟩ (q := 83) rfl ?_
  first | refine yPutF d_X11_init_83 ff_X11_56 rfl rfl rfl (fun _ => rfl) (fun _ => rfl) sh_0 (by decide) (q := 86) rfl ?_ | refine yPutR d_X11_init_83 ff_X11_56 rfl (fun _ => rfl) (fun _ => rfl) rfl rfl sh_0 (by decide) (q := 86) rfl ?_
  refine zAloadN d_X11_init_86 rfl rfl (q := 87) rfl ?_
  refine yNew (kd := 5) d_X11_init_87 cl_X11_60 in_X5 it_X5 (by decide) sh_36 (by unfold zFi; decide) (by unfold zFp; decide) (by decide) (n2 := 37) rfl (q := 90) rfl ?_
  refine zDup d_X11_init_90 rfl (q := 91) rfl ?_
  refine yCallN d_X11_init_91 rfl (List.mem_of_getElem? (i := 3) rfl) k_X5_init ki_X5_init rfl rfl (sp_X5_init (d := d - 1) (by omega) (by unfold zFi; decide) (by unfold zFp; decide)) rfl rfl (Nat.le_of_ble_eq_true rfl) (by decide) (by omega) ⟨by decide, by decide, by decide⟩ (q := 94) rfl ?_
  first | refine yPutF d_X11_init_94 ff_X11_63 rfl rfl rfl (fun _ => rfl) (fun _ => rfl) sh_0 (by decide) (q := 97) rfl ?_ | refine yPutR d_X11_init_94 ff_X11_63 rfl (fun _ => rfl) (fun _ => rfl) rfl rfl sh_0 (by decide) (q := 97) rfl ?_
  refine zAloadN d_X11_init_97 rfl rfl (q := 98) rfl ?_
  refine yNew (kd := 0) d_X11_init_98 cl_X11_67 in_X0 it_X0 (by decide) sh_38 (by unfold zFi; decide) (by unfold zFp; decide) (by decide) (n2 := 39) rfl (q := 101) rfl ?_
  refine zDup d_X11_init_101 rfl (q := 102) rfl ?_
  refine yCallN d_X11_init_102 rfl (List.mem_of_getElem? (i := 4) rfl) k_X0_init ki_X0_init rfl rfl (sp_X0_init (d := d - 1) (by omega) (by unfold zFi; decide) (by unfold zFp; decide)) rfl rfl (Nat.le_of_ble_eq_true rfl) (by decide) (by omega) ⟨by decide, by decide, by decide⟩ (q := 105) rfl ?_
  first | refine yPutF d_X11_init_105 ff_X11_70 rfl rfl rfl (fun _ => rfl) (fun _ => rfl) sh_0 (by decide) (q := 108) rfl ?_ | refine yPutR d_X11_init_105 ff_X11_70 rfl (fun _ => rfl) (fun _ => rfl) rfl rfl sh_0 (by decide) (q := 108) rfl ?_
  refine zAloadN d_X11_init_108 rfl rfl (q := 109) rfl ?_
  refine zBipush d_X11_init_109 (v := 6) rfl (q := 111) rfl ?_
  refine yNewQ d_X11_init_111 cl_X11_74 rfl sh_41 (by unfold zFi; decide) (by unfold zFp; decide) (by decide) (n2 := 42) rfl (q := 114) rfl ?_
  first | refine yPutF d_X11_init_114 ff_X11_76 rfl rfl rfl (fun _ => rfl) (fun _ => rfl) sh_0 (by decide) (q := 117) rfl ?_ | refine yPutR d_X11_init_114 ff_X11_76 rfl (fun _ => rfl) (fun _ => rfl) rfl rfl sh_0 (by decide) (q := 117) rfl ?_
  refine zIconst d_X11_init_117 (v := 0) rfl (q := 118) rfl ?_
  refine zIstoreN d_X11_init_118 rfl (by decide) rfl (q := 119) rfl ?_
  refine zIloadN d_X11_init_119 rfl rfl (q := 120) rfl ?_
  refine zBipush d_X11_init_120 (v := 6) rfl (q := 122) rfl ?_
  refine zIcmp_ge d_X11_init_122 (tgt := 144) (q := 125) (by decide) rfl (fun h => absurd h (by decide)) (fun _ => ?_)
  refine zAloadN d_X11_init_125 rfl rfl (q := 126) rfl ?_
  refine zGetR d_X11_init_126 ff_X11_76 sh_0 (by decide) (b := 41) rfl (q := 129) rfl ?_
  refine zIloadN d_X11_init_129 rfl rfl (q := 130) rfl ?_
  refine yNew (kd := 8) d_X11_init_130 cl_X11_74 in_X8 it_X8 (by decide) sh_42 (by unfold zFi; decide) (by unfold zFp; decide) (by decide) (n2 := 43) rfl (q := 133) rfl ?_
  refine zDup d_X11_init_133 rfl (q := 134) rfl ?_
  refine yCallN d_X11_init_134 rfl (List.mem_of_getElem? (i := 5) rfl) k_X8_init ki_X8_init rfl rfl (sp_X8_init (d := d - 1) (a := 42) (by omega) sh_42 sh_43 (by unfold zFi; decide) (by unfold zFp; decide)) rfl rfl (Nat.le_of_ble_eq_true rfl) (by decide) (by omega) ⟨by decide, by decide, by decide⟩ (q := 137) rfl ?_
  refine yAst d_X11_init_137 sh_41 (by decide) (by decide) sh_42 (j := 0) rfl (by decide) (q := 138) rfl ?_
  refine zIinc d_X11_init_138 rfl (v := 1) rfl (by decide) rfl (q := 141) rfl ?_
  refine zGoto d_X11_init_141 (q := 119) (by decide) ?_
  refine zIloadN d_X11_init_119 rfl rfl (q := 120) rfl ?_
  refine zBipush d_X11_init_120 (v := 6) rfl (q := 122) rfl ?_
  refine zIcmp_ge d_X11_init_122 (tgt := 144) (q := 125) (by decide) rfl (fun h => absurd h (by decide)) (fun _ => ?_)
  refine zAloadN d_X11_init_125 rfl rfl (q := 126) rfl ?_
  refine zGetR d_X11_init_126 ff_X11_76 sh_0 (by decide) (b := 41) rfl (q := 129) rfl ?_
  refine zIloadN d_X11_init_129 rfl rfl (q := 130) rfl ?_
  refine yNew (kd := 8) d_X11_init_130 cl_X11_74 in_X8 it_X8 (by decide) sh_44 (by unfold zFi; decide) (by unfold zFp; decide) (by decide) (n2 := 45) rfl (q := 133) rfl ?_
  refine zDup d_X11_init_133 rfl (q := 134) rfl ?_
  refine yCallN d_X11_init_134 rfl (List.mem_of_getElem? (i := 5) rfl) k_X8_init ki_X8_init rfl rfl (sp_X8_init (d := d - 1) (a := 44) (by omega) sh_44 sh_45 (by unfold zFi; decide) (by unfold zFp; decide)) rfl rfl (Nat.le_of_ble_eq_true rfl) (by decide) (by omega) ⟨by decide, by decide, by decide⟩ (q := 137) rfl ?_
  refine yAst d_X11_init_137 sh_41 (by decide) (by decide) sh_44 (j := 1) rfl (by decide) (q := 138) rfl ?_
  refine zIinc d_X11_init_138 rfl (v := 2) rfl (by decide) rfl (q := 141) rfl ?_
  refine zGoto d_X11_init_141 (q := 119) (by decide) ?_
  refine zIloadN d_X11_init_119 rfl rfl (q := 120) rfl ?_
  refine zBipush d_X11_init_120 (v := 6) rfl (q := 122) rfl ?_
  refine zIcmp_ge d_X11_init_122 (tgt := 144) (q := 125) (by decide) rfl (fun h => absurd h (by decide)) (fun _ => ?_)
  refine zAloadN d_X11_init_125 rfl rfl (q := 126) rfl ?_
  refine zGetR d_X11_init_126 ff_X11_76 sh_0 (by decide) (b := 41) rfl (q := 129) rfl ?_
  refine zIloadN d_X11_init_129 rfl rfl (q := 130) rfl ?_
  refine yNew (kd := 8) d_X11_init_130 cl_X11_74 in_X8 it_X8 (by decide) sh_46 (by unfold zFi; decide) (by unfold zFp; decide) (by decide) (n2 := 47) rfl (q := 133) rfl ?_
  refine zDup d_X11_init_133 rfl (q := 134) rfl ?_
  refine yCallN d_X11_init_134 rfl (List.mem_of_getElem? (i := 5) rfl) k_X8_init ki_X8_init rfl rfl (sp_X8_init (d := d - 1) (a := 46) (by omega) sh_46 sh_47 (by unfold zFi; decide) (by unfold zFp; decide)) rfl rfl (Nat.le_of_ble_eq_true rfl) (by decide) (by omega) ⟨by decide, by decide, by decide⟩ (q := 137) rfl ?_
  refine yAst d_X11_init_137 sh_41 (by decide) (by decide) sh_46 (j := 2) rfl (by decide) (q := 138) rfl ?_
  refine zIinc d_X11_init_138 rfl (v := 3) rfl (by decide) rfl (q := 141) rfl ?_
  refine zGoto d_X11_init_141 (q := 119) (by decide) ?_
  refine zIloadN d_X11_init_119 rfl rfl (q := 120) rfl ?_
  refine zBipush d_X11_init_120 (v := 6) rfl (q := 122) rfl ?_
  refine zIcmp_ge d_X11_init_122 (tgt := 144) (q := 125) (by decide) rfl (fun h => absurd h (by decide)) (fun _ => ?_)
  refine zAloadN d_X11_init_125 rfl rfl (q := 126) rfl ?_
  refine zGetR d_X11_init_126 ff_X11_76 sh_0 (by decide) (b := 41) rfl (q := 129) rfl ?_
  refine zIloadN d_X11_init_129 rfl rfl (q := 130) rfl ?_
  refine yNew (kd := 8) d_X11_init_130 cl_X11_74 in_X8 it_X8 (by decide) sh_48 (by unfold zFi; decide) (by unfold zFp; decide) (by decide) (n2 := 49) rfl (q := 133) rfl ?_
  refine zDup d_X11_init_133 rfl (q := 134) rfl ?_
  refine yCallN d_X11_init_134 rfl (List.mem_of_getElem? (i := 5) rfl) k_X8_init ki_X8_init rfl rfl (sp_X8_init (d := d - 1) (a := 48) (by omega) sh_48 sh_49 (by unfold zFi; decide) (by unfold zFp; decide)) rfl rfl (Nat.le_of_ble_eq_true rfl) (by decide) (by omega) ⟨by decide, by decide, by decide⟩ (q := 137) rfl ?_
  refine yAst d_X11_init_137 sh_41 (by decide) (by decide) sh_48 (j := 3) rfl (by decide) (q := 138) rfl ?_
  refine zIinc d_X11_init_138 rfl (v := 4) rfl (by decide) rfl (q := 141) rfl ?_
  refine zGoto d_X11_init_141 (q := 119) (by decide) ?_
  refine zIloadN d_X11_init_119 rfl rfl (q := 120) rfl ?_
  refine zBipush d_X11_init_120 (v := 6) rfl (q := 122) rfl ?_
  refine zIcmp_ge d_X11_init_122 (tgt := 144) (q := 125) (by decide) rfl (fun h => absurd h (by decide)) (fun _ => ?_)
  refine zAloadN d_X11_init_125 rfl rfl (q := 126) rfl ?_
  refine zGetR d_X11_init_126 ff_X11_76 sh_0 (by decide) (b := 41) rfl (q := 129) rfl ?_
  refine zIloadN d_X11_init_129 rfl rfl (q := 130) rfl ?_
  refine yNew (kd := 8) d_X11_init_130 cl_X11_74 in_X8 it_X8 (by decide) sh_50 (by unfold zFi; decide) (by unfold zFp; decide) (by decide) (n2 := 51) rfl (q := 133) rfl ?_
  refine zDup d_X11_init_133 rfl (q := 134) rfl ?_
  refine yCallN d_X11_init_134 rfl (List.mem_of_getElem? (i := 5) rfl) k_X8_init ki_X8_init rfl rfl (sp_X8_init (d := d - 1) (a := 50) (by omega) sh_50 sh_51 (by unfold zFi; decide) (by unfold zFp; decide)) rfl rfl (Nat.le_of_ble_eq_true rfl) (by decide) (by omega) ⟨by decide, by decide, by decide⟩ (q := 137) rfl ?_
  refine yAst d_X11_init_137 sh_41 (by decide) (by decide) sh_50 (j := 4) rfl (by decide) (q := 138) rfl ?_
  refine zIinc d_X11_init_138 rfl (v := 5) rfl (by decide) rfl (q := 141) rfl ?_
  refine zGoto d_X11_init_141 (q := 119) (by decide) ?_
  refine zIloadN d_X11_init_119 rfl rfl (q := 120) rfl ?_
  refine zBipush d_X11_init_120 (v := 6) rfl (q := 122) rfl ?_
  refine zIcmp_ge d_X11_init_122 (tgt := 144) (q := 125) (by decide) rfl (fun h => absurd h (by decide)) (fun _ => ?_)
  refine zAloadN d_X11_init_125 rfl rfl (q := 126) rfl ?_
  refine zGetR d_X11_init_126 ff_X11_76 sh_0 (by decide) (b := 41) rfl (q := 129) rfl ?_
  refine zIloadN d_X11_init_129 rfl rfl (q := 130) rfl ?_
  refine yNew (kd := 8) d_X11_init_130 cl_X11_74 in_X8 it_X8 (by decide) sh_52 (by unfold zFi; decide) (by unfold zFp; decide) (by decide) (n2 := 53) rfl (q := 133) rfl ?_
  refine zDup d_X11_init_133 rfl (q := 134) rfl ?_
  refine yCallN d_X11_init_134 rfl (List.mem_of_getElem? (i := 5) rfl) k_X8_init ki_X8_init rfl rfl (sp_X8_init (d := d - 1) (a := 52) (by omega) sh_52 sh_53 (by unfold zFi; decide) (by unfold zFp; decide)) rfl rfl (Nat.le_of_ble_eq_true rfl) (by decide) (by omega) ⟨by decide, by decide, by decide⟩ (q := 137) rfl ?_
  refine yAst d_X11_init_137 sh_41 (by decide) (by decide) sh_52 (j := 5) rfl (by decide) (q := 138) rfl ?_
  refine zIinc d_X11_init_138 rfl (v := 6) rfl (by decide) rfl (q := 141) rfl ?_
  refine zGoto d_X11_init_141 (q := 119) (by decide) ?_
  refine zIloadN d_X11_init_119 rfl rfl (q := 120) rfl ?_
  refine zBipush d_X11_init_120 (v := 6) rfl (q := 122) rfl ?_
  refine zIcmp_ge d_X11_init_122 (tgt := 144) (q := 125) (by decide) rfl (fun _ => ?_) (fun h => absurd h (by decide))
  refine zAloadN d_X11_init_144 rfl rfl (q := 145) rfl ?_
  refine yNew (kd := 6) d_X11_init_145 cl_X11_81 in_X6 it_X6 (by decide) sh_54 (by unfold zFi; decide) (by unfold zFp; decide) (by decide) (n2 := 55) rfl (q := 148) rfl ?_
  refine zDup d_X11_init_148 rfl (q := 149) rfl ?_
  refine yCallN d_X11_init_149 rfl (List.mem_of_getElem? (i := 6) rfl) k_X6_init ki_X6_init rfl rfl (sp_X6_init (d := d - 1) (a := 54) (by omega) sh_54 sh_55 sh_56 sh_57 sh_58 (by unfold zFi; decide) (by unfold zFp; decide)) rfl rfl (Nat.le_of_ble_eq_true rfl) (by decide) (by omega) ⟨by decide, by decide, by decide⟩ (q := 152) rfl ?_
  first | refine yPutF d_X11_init_152 ff_X11_84 rfl rfl rfl (fun _ => rfl) (fun _ => rfl) sh_0 (by decide) (q := 155) rfl ?_ | refine yPutR d_X11_init_152 ff_X11_84 rfl (fun _ => rfl) (fun _ => rfl) rfl rfl sh_0 (by decide) (q := 155) rfl ?_
  refine zAloadN d_X11_init_155 rfl rfl (q := 156) rfl ?_
  refine yNew (kd := 6) d_X11_init_156 cl_X11_81 in_X6 it_X6 (by decide) sh_59 (by unfold zFi; decide) (by unfold zFp; decide) (by decide) (n2 := 60) rfl (q := 159) rfl ?_
  refine zDup d_X11_init_159 rfl (q := 160) rfl ?_
  refine yCallN d_X11_init_160 rfl (List.mem_of_getElem? (i := 6) rfl) k_X6_init ki_X6_init rfl rfl (sp_X6_init (d := d - 1) (a := 59) (by omega) sh_59 sh_60 sh_61 sh_62 sh_63 (by unfold zFi; decide) (by unfold zFp; decide)) rfl rfl (Nat.le_of_ble_eq_true rfl) (by decide) (by omega) ⟨by decide, by decide, by decide⟩ (q := 163) rfl ?_
  first | refine yPutF d_X11_init_163 ff_X11_88 rfl rfl rfl (fun _ => rfl) (fun _ => rfl) sh_0 (by decide) (q := 166) rfl ?_ | refine yPutR d_X11_init_163 ff_X11_88 rfl (fun _ => rfl) (fun _ => rfl) rfl rfl sh_0 (by decide) (q := 166) rfl ?_
  refine zVret d_X11_init_166 rfl rfl ?_
  exact ⟨rfl, rfl⟩
theorem sp_X12_init {is : List (Nat × Nat × Int32)} {ps : List (Nat × Nat × Nat)} (hd : 1 ≤ d) (hi : zFi is 65) (hp : zFp ps 65) : zSp g l d 100 m_X12_init [.ref 64] (zIl is, zL0, zRl ps, 65) (zV (fun w => w = (zIl ((96, 5, -1) :: (96, 4, -1) :: (96, 3, -1) :: (96, 2, -1) :: (96, 1, -1) :: (96, 0, -1) :: (74, 2, 1) :: (74, 1, 480) :: (74, 0, 0) :: is), zL0, zRl ((64, 56, 99) :: (64, 55, 98) :: (64, 54, 97) :: (64, 53, 96) :: (64, 52, 95) :: (64, 50, 94) :: (64, 48, 93) :: (64, 41, 92) :: (64, 40, 91) :: (64, 38, 90) :: (64, 37, 89) :: (64, 36, 88) :: (64, 35, 87) :: (64, 32, 86) :: (64, 31, 85) :: (64, 30, 84) :: (64, 29, 83) :: (64, 28, 82) :: (64, 27, 81) :: (64, 26, 80) :: (64, 20, 79) :: (64, 19, 78) :: (64, 18, 77) :: (64, 17, 76) :: (64, 16, 75) :: (64, 13, 74) :: (64, 12, 73) :: (64, 10, 72) :: (64, 9, 71) :: (64, 7, 70) :: (64, 6, 69) :: (64, 5, 68) :: (64, 4, 67) :: (64, 3, 66) :: (64, 2, 65) :: ps), 100))) := by
  refine zSp_of (lv := [(0, .ref 64)]) k_X12_init rfl (Nat.le_of_ble_eq_true rfl) ?_
  show zAW g l d 65 100 m_X12_init (zIl is, zL0, zRl ps, 65) 0 [(0, .ref 64)] [] _
  refine zAloadN d_X12_init_0 rfl rfl (q := 1) rfl ?_
  refine zObj d_X12_init_1 ml_X12_3 (by omega) (Nat.le_of_ble_eq_true rfl) (q := 4) rfl ?_
  refine zAloadN d_X12_init_4 rfl rfl (q := 5) rfl ?_
  refine zBipush d_X12_init_5 (v := 10) rfl (q := 7) rfl ?_
  refine yNewI d_X12_init_7 rfl sh_65 hi hp (by decide) (n2 := 66) rfl (q := 9) rfl ?_
  have hi : zFi _ 66 := zFiS hi
  have hp : zFp _ 66 := zFpS hp
  first | refine yPutF d_X12_init_9 ff_X12_9 rfl rfl rfl (fun _ => rfl) (fun _ => rfl) sh_64 (by decide) (q := 12) rfl ?_ | refine yPutR d_X12_init_9 ff_X12_9 rfl (fun _ => rfl) (fun _ => rfl) rfl rfl sh_64 (by decide) (q := 12) rfl ?_
  have hp : zFp _ 66 := zFpC (a := 64) (k := 2) (b := 65) (by decide) hp
  refine zAloadN d_X12_init_12 rfl rfl (q := 13) rfl ?_
  refine zBipush d_X12_init_13 (v := 10) rfl (q := 15) rfl ?_
  refine yNewI d_X12_init_15 rfl sh_66 hi hp (by decide) (n2 := 67) rfl (q := 17) rfl ?_
  have hi : zFi _ 67 := zFiS hi
  have hp : zFp _ 67 := zFpS hp
  first | refine yPutF d_X12_init_17 ff_X12_15 rfl rfl rfl (fun _ => rfl) (fun _ => rfl) sh_64 (by decide) (q := 20) rfl ?_ | refine yPutR d_X12_init_17 ff_X12_15 rfl (fun _ => rfl) (fun _ => rfl) rfl rfl sh_64 (by decide) (q := 20) rfl ?_
  have hp : zFp _ 67 := zFpC (a := 64) (k := 3) (b := 66) (by decide) hp
  refine zAloadN d_X12_init_20 rfl rfl (q := 21) rfl ?_
  refine zBipush d_X12_init_21 (v := 10) rfl (q := 23) rfl ?_
  refine yNewI d_X12_init_23 rfl sh_67 hi hp (by decide) (n2 := 68) rfl (q := 25) rfl ?_
  have hi : zFi _ 68 := zFiS hi
  have hp : zFp _ 68 := zFpS hp
  first | refine yPutF d_X12_init_25 ff_X12_18 rfl rfl rfl (fun _ => rfl) (fun _ => rfl) sh_64 (by decide) (q := 28) rfl ?_ | refine yPutR d_X12_init_25 ff_X12_18 rfl (fun _ => rfl) (fun _ => rfl) rfl rfl sh_64 (by decide) (q := 28) rfl ?_
  have hp : zFp _ 68 := zFpC (a := 64) (k := 4) (b := 67) (by decide) hp
  refine zAloadN d_X12_init_28 rfl rfl (q := 29) rfl ?_
  refine zBipush d_X12_init_29 (v := 10) rfl (q := 31) rfl ?_
  refine yNewI d_X12_init_31 rfl sh_68 hi hp (by decide) (n2 := 69) rfl (q := 33) rfl ?_
  have hi : zFi _ 69 := zFiS hi
  have hp : zFp _ 69 := zFpS hp
  first | refine yPutF d_X12_init_33 ff_X12_21 rfl rfl rfl (fun _ => rfl) (fun _ => rfl) sh_64 (by decide) (q := 36) rfl ?_ | refine yPutR d_X12_init_33 ff_X12_21 rfl (fun _ => rfl) (fun _ => rfl) rfl rfl sh_64 (by decide) (q := 36) rfl ?_
  have hp : zFp _ 69 := zFpC (a := 64) (k := 5) (b := 68) (by decide) hp
  refine zAloadN d_X12_init_36 rfl rfl (q := 37) rfl ?_
  refine zBipush d_X12_init_37 (v := 10) rfl (q := 39) rfl ?_
  refine yNewI d_X12_init_39 rfl sh_69 hi hp (by decide) (n2 := 70) rfl (q := 41) rfl ?_
  have hi : zFi _ 70 := zFiS hi
  have hp : zFp _ 70 := zFpS hp
  first | refine yPutF d_X12_init_41 ff_X12_24 rfl rfl rfl (fun _ => rfl) (fun _ => rfl) sh_64 (by decide) (q := 44) rfl ?_ | refine yPutR d_X12_init_41 ff_X12_24 rfl (fun _ => rfl) (fun _ => rfl) rfl rfl sh_64 (by decide) (q := 44) rfl ?_
  have hp : zFp _ 70 := zFpC (a := 64) (k := 6) (b := 69) (by decide) hp
  refine zAloadN d_X12_init_44 rfl rfl (q := 45) rfl ?_
  refine zBipush d_X12_init_45 (v := 10) rfl (q := 47) rfl ?_
  refine yNewI d_X12_init_47 rfl sh_70 hi hp (by decide) (n2 := 71) rfl (q := 49) rfl ?_
  have hi : zFi _ 71 := zFiS hi
  have hp : zFp _ 71 := zFpS hp
  first | refine yPutF d_X12_init_49 ff_X12_27 rfl rfl rfl (fun _ => rfl) (fun _ => rfl) sh_64 (by decide) (q := 52) rfl ?_ | refine yPutR d_X12_init_49 ff_X12_27 rfl (fun _ => rfl) (fun _ => rfl) rfl rfl sh_64 (by decide) (q := 52) rfl ?_
  have hp : zFp _ 71 := zFpC (a := 64) (k := 7) (b := 70) (by decide) hp
  refine zAloadN d_X12_init_52 rfl rfl (q := 53) rfl ?_
  refine zIconst d_X12_init_53 (v := 4) rfl (q := 54) rfl ?_
  refine yNewI d_X12_init_54 rfl sh_71 hi hp (by decide) (n2 := 72) rfl (q := 56) rfl ?_
  have hi : zFi _ 72 := zFiS hi
  have hp : zFp _ 72 := zFpS hp
  first | refine yPutF d_X12_init_56 ff_X12_30 rfl rfl rfl (fun _ => rfl) (fun _ => rfl) sh_64 (by decide) (q := 59) rfl ?_ | refine yPutR d_X12_init_56 ff_X12_30 rfl (fun _ => rfl) (fun _ => rfl) rfl rfl sh_64 (by decide) (q := 59) rfl ?_
  have hp : zFp _ 72 := zFpC (a := 64) (k := 9) (b := 71) (by decide) hp
  refine zAloadN d_X12_init_59 rfl rfl (q := 60) rfl ?_
  refine zIconst d_X12_init_60 (v := 4) rfl (q := 61) rfl ?_
  refine yNewI d_X12_init_61 rfl sh_72 hi hp (by decide) (n2 := 73) rfl (q := 63) rfl ?_
  have hi : zFi _ 73 := zFiS hi
  have hp : zFp _ 73 := zFpS hp
  first | refine yPutF d_X12_init_63 ff_X12_33 rfl rfl rfl (fun _ => rfl) (fun _ => rfl) sh_64 (by decide) (q := 66) rfl ?_ | refine yPutR d_X12_init_63 ff_X12_33 rfl (fun _ => rfl) (fun _ => rfl) rfl rfl sh_64 (by decide) (q := 66) rfl ?_
  have hp : zFp _ 73 := zFpC (a := 64) (k := 10) (b := 72) (by decide) hp
  refine zAloadN d_X12_init_66 rfl rfl (q := 67) rfl ?_
  refine zBipush d_X12_init_67 (v := 6) rfl (q := 69) rfl ?_
  refine yNewI d_X12_init_69 rfl sh_73 hi hp (by decide) (n2 := 74) rfl (q := 71) rfl ?_
  have hi : zFi _ 74 := zFiS hi
  have hp : zFp _ 74 := zFpS hp
  first | refine yPutF d_X12_init_71 ff_X12_36 rfl rfl rfl (fun _ => rfl) (fun _ => rfl) sh_64 (by decide) (q := 74) rfl ?_ | refine yPutR d_X12_init_71 ff_X12_36 rfl (fun _ => rfl) (fun _ => rfl) rfl rfl sh_64 (by decide) (q := 74) rfl ?_
  have hp : zFp _ 74 := zFpC (a := 64) (k := 12) (b := 73) (by decide) hp
  refine zAloadN d_X12_init_74 rfl rfl (q := 75) rfl ?_
  refine zIconst d_X12_init_75 (v := 3) rfl (q := 76) rfl ?_
  refine yNewI d_X12_init_76 rfl sh_74 hi hp (by decide) (n2 := 75) rfl (q := 78) rfl ?_
  have hi : zFi _ 75 := zFiS hi
  have hp : zFp _ 75 := zFpS hp
  refine zDup d_X12_init_78 rfl (q := 79) rfl ?_
  refine zIconst d_X12_init_79 (v := 0) rfl (q := 80) rfl ?_
  refine zIconst d_X12_init_80 (v := 0) rfl (q := 81) rfl ?_
  refine yIast d_X12_init_81 sh_74 (by decide) (j := 0) rfl (by decide) (q := 82) rfl ?_
  have hi : zFi _ 75 := zFiC (a := 74) (k := 0) (x := 0) (by decide) hi
  refine zDup d_X12_init_82 rfl (q := 83) rfl ?_
  refine zIconst d_X12_init_83 (v := 1) rfl (q := 84) rfl ?_
  refine zSipush d_X12_init_84 (v := 480) rfl (q := 87) rfl ?_
  refine yIast d_X12_init_87 sh_74 (by decide) (j := 1) rfl (by decide) (q := 88) rfl ?_
  have hi : zFi _ 75 := zFiC (a := 74) (k := 1) (x := 480) (by decide) hi
  refine zDup d_X12_init_88 rfl (q := 89) rfl ?_
  refine zIconst d_X12_init_89 (v := 2) rfl (q := 90) rfl ?_
  refine zIconst d_X12_init_90 (v := 1) rfl (q := 91) rfl ?_
  refine yIast d_X12_init_91 sh_74 (by decide) (j := 2) rfl (by decide) (q := 92) rfl ?_
  have hi : zFi _ 75 := zFiC (a := 74) (k := 2) (x := 1) (by decide) hi
  first | refine yPutF d_X12_init_92 ff_X12_39 rfl rfl rfl (fun _ => rfl) (fun _ => rfl) sh_64 (by decide) (q := 95) rfl ?_ | refine yPutR d_X12_init_92 ff_X12_39 rfl (fun _ => rfl) (fun _ => rfl) rfl rfl sh_64 (by decide) (q := 95) rfl ?_
  have hp : zFp _ 75 := zFpC (a := 64) (k := 13) (b := 74) (by decide) hp
  refine zAloadN d_X12_init_95 rfl rfl (q := 96) rfl ?_
  refine zBipush d_X12_init_96 (v := 40) rfl (q := 98) rfl ?_
  refine yNewI d_X12_init_98 rfl sh_75 hi hp (by decide) (n2 := 76) rfl (q := 100) rfl ?_
  have hi : zFi _ 76 := zFiS hi
  have hp : zFp _ 76 := zFpS hp
  first | refine yPutF d_X12_init_100 ff_X12_42 rfl rfl rfl (fun _ => rfl) (fun _ => rfl) sh_64 (by decide) (q := 103) rfl ?_ | refine yPutR d_X12_init_100 ff_X12_42 rfl (fun _ => rfl) (fun _ => rfl) rfl rfl sh_64 (by decide) (q := 103) rfl ?_
  have hp : zFp _ 76 := zFpC (a := 64) (k := 16) (b := 75) (by decide) hp
  refine zAloadN d_X12_init_103 rfl rfl (q := 104) rfl ?_
  refine zBipush d_X12_init_104 (v := 40) rfl (q := 106) rfl ?_
  refine yNewI d_X12_init_106 rfl sh_76 hi hp (by decide) (n2 := 77) rfl (q := 108) rfl ?_
  have hi : zFi _ 77 := zFiS hi
  have hp : zFp _ 77 := zFpS hp
  first | refine yPutF d_X12_init_108 ff_X12_45 rfl rfl rfl (fun _ => rfl) (fun _ => rfl) sh_64 (by decide) (q := 111) rfl ?_ | refine yPutR d_X12_init_108 ff_X12_45 rfl (fun _ => rfl) (fun _ => rfl) rfl rfl sh_64 (by decide) (q := 111) rfl ?_
  have hp : zFp _ 77 := zFpC (a := 64) (k := 17) (b := 76) (by decide) hp
  refine zAloadN d_X12_init_111 rfl rfl (q := 112) rfl ?_
  refine zBipush d_X12_init_112 (v := 40) rfl (q := 114) rfl ?_
  refine yNewI d_X12_init_114 rfl sh_77 hi hp (by decide) (n2 := 78) rfl (q := 116) rfl ?_
  have hi : zFi _ 78 := zFiS hi
  have hp : zFp _ 78 := zFpS hp
  first | refine yPutF d_X12_init_116 ff_X12_48 rfl rfl rfl (fun _ => rfl) (fun _ => rfl) sh_64 (by decide) (q := 119) rfl ?_ | refine yPutR d_X12_init_116 ff_X12_48 rfl (fun _ => rfl) (fun _ => rfl) rfl rfl sh_64 (by decide) (q := 119) rfl ?_
  have hp : zFp _ 78 := zFpC (a := 64) (k := 18) (b := 77) (by decide) hp
  refine zAloadN d_X12_init_119 rfl rfl (q := 120) rfl ?_
  refine zBipush d_X12_init_120 (v := 40) rfl (q := 122) rfl ?_
  refine yNewI d_X12_init_122 rfl sh_78 hi hp (by decide) (n2 := 79) rfl (q := 124) rfl ?_
  have hi : zFi _ 79 := zFiS hi
  have hp : zFp _ 79 := zFpS hp
  first | refine yPutF d_X12_init_124 ff_X12_51 rfl rfl rfl (fun _ => rfl) (fun _ => rfl) sh_64 (by decide) (q := 127) rfl ?_ | refine yPutR d_X12_init_124 ff_X12_51 rfl (fun _ => rfl) (fun _ => rfl) rfl rfl sh_64 (by decide) (q := 127) rfl ?_
  have hp : zFp _ 79 := zFpC (a := 64) (k := 19) (b := 78) (by decide) hp
  refine zAloadN d_X12_init_127 rfl rfl (q := 128) rfl ?_
  refine zBipush d_X12_init_128 (v := 120) rfl (q := 130) rfl ?_
  refine yNewB d_X12_init_130 rfl sh_79 hi hp (by decide) (n2 := 80) rfl (q := 132) rfl ?_
  have hi : zFi _ 80 := zFiS hi
  have hp : zFp _ 80 := zFpS hp
  first | refine yPutF d_X12_init_132 ff_X12_54 rfl rfl rfl (fun _ => rfl) (fun _ => rfl) sh_64 (by decide) (q := 135) rfl ?_ | refine yPutR d_X12_init_132 ff_X12_54 rfl (fun _ => rfl) (fun _ => rfl) rfl rfl sh_64 (by decide) (q := 135) rfl ?_
  have hp : zFp _ 80 := zFpC (a := 64) (k := 20) (b := 79) (by decide) hp
  refine zAloadN d_X12_init_135 rfl rfl (q := 136) rfl ?_
  refine zSipush d_X12_init_136 (v := 260) rfl (q := 139) rfl ?_
  refine yNewB d_X12_init_139 rfl sh_80 hi hp (by decide) (n2 := 81) rfl (q := 141) rfl ?_
  have hi : zFi _ 81 := zFiS hi
  have hp : zFp _ 81 := zFpS hp
  first | refine yPutF d_X12_init_141 ff_X12_58 rfl rfl rfl (fun _ => rfl) (fun _ => rfl) sh_64 (by decide) (q := 144) rfl ?_ | refine yPutR d_X12_init_141 ff_X12_58 rfl (fun _ => rfl) (fun _ => rfl) rfl rfl sh_64 (by decide) (q := 144) rfl ?_
  have hp : zFp _ 81 := zFpC (a := 64) (k := 26) (b := 80) (by decide) hp
  refine zAloadN d_X12_init_144 rfl rfl (q := 145) rfl ?_
  refine zSipush d_X12_init_145 (v := 260) rfl (q := 148) rfl ?_
  refine yNewI d_X12_init_148 rfl sh_81 hi hp (by decide) (n2 := 82) rfl (q := 150) rfl ?_
  have hi : zFi _ 82 := zFiS hi
  have hp : zFp _ 82 := zFpS hp
  first | refine yPutF d_X12_init_150 ff_X12_61 rfl rfl rfl (fun _ => rfl) (fun _ => rfl) sh_64 (by decide) (q := 153) rfl ?_ | refine yPutR d_X12_init_150 ff_X12_61 rfl (fun _ => rfl) (fun _ => rfl) rfl rfl sh_64 (by decide) (q := 153) rfl ?_
  have hp : zFp _ 82 := zFpC (a := 64) (k := 27) (b := 81) (by decide) hp
  refine zAloadN d_X12_init_153 rfl rfl (q := 154) rfl ?_
  refine zIconst d_X12_init_154 (v := 2) rfl (q := 155) rfl ?_
  refine yNewI d_X12_init_155 rfl sh_82 hi hp (by decide) (n2 := 83) rfl (q := 157) rfl ?_
  have hi : zFi _ 83 := zFiS hi
  have hp : zFp _ 83 := zFpS hp
  first | refine yPutF d_X12_init_157 ff_X12_64 rfl rfl rfl (fun _ => rfl) (fun _ => rfl) sh_64 (by decide) (q := 160) rfl ?_ | refine yPutR d_X12_init_157 ff_X12_64 rfl (fun _ => rfl) (fun _ => rfl) rfl rfl sh_64 (by decide) (q := 160) rfl ?_
  have hp : zFp _ 83 := zFpC (a := 64) (k := 28) (b := 82) (by decide) hp
  refine zAloadN d_X12_init_160 rfl rfl (q := 161) rfl ?_
  refine zBipush d_X12_init_161 (v := 122) rfl (q := 163) rfl ?_
  refine yNewS d_X12_init_163 rfl sh_83 hi hp (by decide) (n2 := 84) rfl (q := 165) rfl ?_
  have hi : zFi _ 84 := zFiS hi
  have hp : zFp _ 84 := zFpS hp
  first | refine yPutF d_X12_init_165 ff_X12_67 rfl rfl rfl (fun _ => rfl) (fun _ => rfl) sh_64 (by decide) (q := 168) rfl ?_ | refine yPutR d_X12_init_165 ff_X12_67 rfl (fun _ => rfl) (fun _ => rfl) rfl rfl sh_64 (by decide) (q := 168) rfl ?_
  have hp : zFp _ 84 := zFpC (a := 64) (k := 29) (b := 83) (by decide) hp
  refine zAloadN d_X12_init_168 rfl rfl (q := 169) rfl ?_
  refine zBipush d_X12_init_169 (v := 122) rfl (q := 171) rfl ?_
  refine yNewS d_X12_init_171 rfl sh_84 hi hp (by decide) (n2 := 85) rfl (q := 173) rfl ?_
  have hi : zFi _ 85 := zFiS hi
  have hp : zFp _ 85 := zFpS hp
  first | refine yPutF d_X12_init_173 ff_X12_71 rfl rfl rfl (fun _ => rfl) (fun _ => rfl) sh_64 (by decide) (q := 176) rfl ?_ | refine yPutR d_X12_init_173 ff_X12_71 rfl (fun _ => rfl) (fun _ => rfl) rfl rfl sh_64 (by decide) (q := 176) rfl ?_
  have hp : zFp _ 85 := zFpC (a := 64) (k := 30) (b := 84) (by decide) hp
  refine zAloadN d_X12_init_176 rfl rfl (q := 177) rfl ?_
  refine zBipush d_X12_init_177 (v := 6) rfl (q := 179) rfl ?_
  refine yNewI d_X12_init_179 rfl sh_85 hi hp (by decide) (n2 := 86) rfl (q := 181) rfl ?_
  have hi : zFi _ 86 := zFiS hi
  have hp : zFp _ 86 := zFpS hp
  first | refine yPutF d_X12_init_181 ff_X12_74 rfl rfl rfl (fun _ => rfl) (fun _ => rfl) sh_64 (by decide) (q := 184) rfl ?_ | refine yPutR d_X12_init_181 ff_X12_74 rfl (fun _ => rfl) (fun _ => rfl) rfl rfl sh_64 (by decide) (q := 184) rfl ?_
  have hp : zFp _ 86 := zFpC (a := 64) (k := 31) (b := 85) (by decide) hp
  refine zAloadN d_X12_init_184 rfl rfl (q := 185) rfl ?_
  refine zSipush d_X12_init_185 (v := 130) rfl (q := 188) rfl ?_
  refine yNewI d_X12_init_188 rfl sh_86 hi hp (by decide) (n2 := 87) rfl (q := 190) rfl ?_
  have hi : zFi _ 87 := zFiS hi
  have hp : zFp _ 87 := zFpS hp
  first | refine yPutF d_X12_init_190 ff_X12_77 rfl rfl rfl (fun _ => rfl) (fun _ => rfl) sh_64 (by decide) (q := 193) rfl ?_ | refine yPutR d_X12_init_190 ff_X12_77 rfl (fun _ => rfl) (fun _ => rfl) rfl rfl sh_64 (by decide) (q := 193) rfl ?_
  have hp : zFp _ 87 := zFpC (a := 64) (k := 32) (b := 86) (by decide) hp
  refine zAloadN d_X12_init_193 rfl rfl (q := 194) rfl ?_
  refine zBipush d_X12_init_194 (v := 10) rfl (q := 196) rfl ?_
  refine yNewI d_X12_init_196 rfl sh_87 hi hp (by decide) (n2 := 88) rfl (q := 198) rfl ?_
  have hi : zFi _ 88 := zFiS hi
  have hp : zFp _ 88 := zFpS hp
  first | refine yPutF d_X12_init_198 ff_X12_80 rfl rfl rfl (fun _ => rfl) (fun _ => rfl) sh_64 (by decide) (q := 201) rfl ?_ | refine yPutR d_X12_init_198 ff_X12_80 rfl (fun _ => rfl) (fun _ => rfl) rfl rfl sh_64 (by decide) (q := 201) rfl ?_
  have hp : zFp _ 88 := zFpC (a := 64) (k := 35) (b := 87) (by decide) hp
  refine zAloadN d_X12_init_201 rfl rfl (q := 202) rfl ?_
  refine zBipush d_X12_init_202 (v := 10) rfl (q := 204) rfl ?_
  refine yNewI d_X12_init_204 rfl sh_88 hi hp (by decide) (n2 := 89) rfl (q := 206) rfl ?_
  have hi : zFi _ 89 := zFiS hi
  have hp : zFp _ 89 := zFpS hp
  first | refine yPutF d_X12_init_206 ff_X12_83 rfl rfl rfl (fun _ => rfl) (fun _ => rfl) sh_64 (by decide) (q := 209) rfl ?_ | refine yPutR d_X12_init_206 ff_X12_83 rfl (fun _ => rfl) (fun _ => rfl) rfl rfl sh_64 (by decide) (q := 209) rfl ?_
  have hp : zFp _ 89 := zFpC (a := 64) (k := 36) (b := 88) (by decide) hp
  refine zAloadN d_X12_init_209 rfl rfl (q := 210) rfl ?_
  refine zBipush d_X12_init_210 (v := 10) rfl (q := 212) rfl ?_
  refine yNewI d_X12_init_212 rfl sh_89 hi hp (by decide) (n2 := 90) rfl (q := 214) rfl ?_
  have hi : zFi _ 90 := zFiS hi
  have hp : zFp _ 90 := zFpS hp
  first | refine yPutF d_X12_init_214 ff_X12_86 rfl rfl rfl (fun _ => rfl) (fun _ => rfl) sh_64 (by decide) (q := 217) rfl ?_ | refine yPutR d_X12_init_214 ff_X12_86 rfl (fun _ => rfl) (fun _ => rfl) rfl rfl sh_64 (by decide) (q := 217) rfl ?_
  have hp : zFp _ 90 := zFpC (a := 64) (k := 37) (b := 89) (by decide) hp
  refine zAloadN d_X12_init_217 rfl rfl (q := 218) rfl ?_
  refine zIconst d_X12_init_218 (v := 4) rfl (q := 219) rfl ?_
  refine yNewI d_X12_init_219 rfl sh_90 hi hp (by decide) (n2 := 91) rfl (q := 221) rfl ?_
  have hi : zFi _ 91 := zFiS hi
  have hp : zFp _ 91 := zFpS hp
  first | refine yPutF d_X12_init_221 ff_X12_89 rfl rfl rfl (fun _ => rfl) (fun _ => rfl) sh_64 (by decide) (q := 224) rfl ?_ | refine yPutR d_X12_init_221 ff_X12_89 rfl (fun _ => rfl) (fun _ => rfl) rfl rfl sh_64 (by decide) (q := 224) rfl ?_
  have hp : zFp _ 91 := zFpC (a := 64) (k := 38) (b := 90) (by decide) hp
  refine zAloadN d_X12_init_224 rfl rfl (q := 225) rfl ?_
  refine zIconst d_X12_init_225 (v := 4) rfl (q := 226) rfl ?_
  refine yNewI d_X12_init_226 rfl sh_91 hi hp (by decide) (n2 := 92) rfl (q := 228) rfl ?_
  have hi : zFi _ 92 := zFiS hi
  have hp : zFp _ 92 := zFpS hp
  first | refine yPutF d_X12_init_228 ff_X12_92 rfl rfl rfl (fun _ => rfl) (fun _ => rfl) sh_64 (by decide) (q := 231) rfl ?_ | refine yPutR d_X12_init_228 ff_X12_92 rfl (fun _ => rfl) (fun _ => rfl) rfl rfl sh_64 (by decide) (q := 231) rfl ?_
  have hp : zFp _ 92 := zFpC (a := 64) (k := 40) (b := 91) (by decide) hp
  refine zAloadN d_X12_init_231 rfl rfl (q := 232) rfl ?_
  refine zIconst d_X12_init_232 (v := 5) rfl (q := 233) rfl ?_
  refine yNewI d_X12_init_233 rfl sh_92 hi hp (by decide) (n2 := 93) rfl (q := 235) rfl ?_
  have hi : zFi _ 93 := zFiS hi
  have hp : zFp _ 93 := zFpS hp
  first | refine yPutF d_X12_init_235 ff_X12_95 rfl rfl rfl (fun _ => rfl) (fun _ => rfl) sh_64 (by decide) (q := 238) rfl ?_ | refine yPutR d_X12_init_235 ff_X12_95 rfl (fun _ => rfl) (fun _ => rfl) rfl rfl sh_64 (by decide) (q := 238) rfl ?_
  have hp : zFp _ 93 := zFpC (a := 64) (k := 41) (b := 92) (by decide) hp
  refine zAloadN d_X12_init_238 rfl rfl (q := 239) rfl ?_
  refine zIconst d_X12_init_239 (v := 5) rfl (q := 240) rfl ?_
  refine yNewI d_X12_init_240 rfl sh_93 hi hp (by decide) (n2 := 94) rfl (q := 242) rfl ?_
  have hi : zFi _ 94 := zFiS hi
  have hp : zFp _ 94 := zFpS hp
  first | refine yPutF d_X12_init_242 ff_X12_98 rfl rfl rfl (fun _ => rfl) (fun _ => rfl) sh_64 (by decide) (q := 245) rfl ?_ | refine yPutR d_X12_init_242 ff_X12_98 rfl (fun _ => rfl) (fun _ => rfl) rfl rfl sh_64 (by decide) (q := 245) rfl ?_
  have hp : zFp _ 94 := zFpC (a := 64) (k := 48) (b := 93) (by decide) hp
  refine zAloadN d_X12_init_245 rfl rfl (q := 246) rfl ?_
  refine zBipush d_X12_init_246 (v := 50) rfl (q := 248) rfl ?_
  refine yNewI d_X12_init_248 rfl sh_94 hi hp (by decide) (n2 := 95) rfl (q := 250) rfl ?_
  have hi : zFi _ 95 := zFiS hi
  have hp : zFp _ 95 := zFpS hp
  first | refine yPutF d_X12_init_250 ff_X12_101 rfl rfl rfl (fun _ => rfl) (fun _ => rfl) sh_64 (by decide) (q := 253) rfl ?_ | refine yPutR d_X12_init_250 ff_X12_101 rfl (fun _ => rfl) (fun _ => rfl) rfl rfl sh_64 (by decide) (q := 253) rfl ?_
  have hp : zFp _ 95 := zFpC (a := 64) (k := 50) (b := 94) (by decide) hp
  refine zAloadN d_X12_init_253 rfl rfl (q := 254) rfl ?_
  refine zBipush d_X12_init_254 (v := 24) rfl (q := 256) rfl ?_
  refine yNewI d_X12_init_256 rfl sh_95 hi hp (by decide) (n2 := 96) rfl (q := 258) rfl ?_
  have hi : zFi _ 96 := zFiS hi
  have hp : zFp _ 96 := zFpS hp
  first | refine yPutF d_X12_init_258 ff_X12_104 rfl rfl rfl (fun _ => rfl) (fun _ => rfl) sh_64 (by decide) (q := 261) rfl ?_ | refine yPutR d_X12_init_258 ff_X12_104 rfl (fun _ => rfl) (fun _ => rfl) rfl rfl sh_64 (by decide) (q := 261) rfl ?_
  have hp : zFp _ 96 := zFpC (a := 64) (k := 52) (b := 95) (by decide) hp
  refine zAloadN d_X12_init_261 rfl rfl (q := 262) rfl ?_
  refine zBipush d_X12_init_262 (v := 6) rfl (q := 264) rfl ?_
  refine yNewI d_X12_init_264 rfl sh_96 hi hp (by decide) (n2 := 97) rfl (q := 266) rfl ?_
  have hi : zFi _ 97 := zFiS hi
  have hp : zFp _ 97 := zFpS hp
  refine zDup d_X12_init_266 rfl (q := 267) rfl ?_
  refine zIconst d_X12_init_267 (v := 0) rfl (q := 268) rfl ?_
  refine zIconst d_X12_init_268 (v := -1) rfl (q := 269) rfl ?_
  refine yIast d_X12_init_269 sh_96 (by decide) (j := 0) rfl (by decide) (q := 270) rfl ?_
  have hi : zFi _ 97 := zFiC (a := 96) (k := 0) (x := -1) (by decide) hi
  refine zDup d_X12_init_270 rfl (q := 271) rfl ?_
  refine zIconst d_X12_init_271 (v := 1) rfl (q := 272) rfl ?_
  refine zIconst d_X12_init_272 (v := -1) rfl (q := 273) rfl ?_
  refine yIast d_X12_init_273 sh_96 (by decide) (j := 1) rfl (by decide) (q := 274) rfl ?_
  have hi : zFi _ 97 := zFiC (a := 96) (k := 1) (x := -1) (by decide) hi
  refine zDup d_X12_init_274 rfl (q := 275) rfl ?_
  refine zIconst d_X12_init_275 (v := 2) rfl (q := 276) rfl ?_
  refine zIconst d_X12_init_276 (v := -1) rfl (q := 277) rfl ?_
  refine yIast d_X12_init_277 sh_96 (by decide) (j := 2) rfl (by decide) (q := 278) rfl ?_
  have hi : zFi _ 97 := zFiC (a := 96) (k := 2) (x := -1) (by decide) hi
  refine zDup d_X12_init_278 rfl (q := 279) rfl ?_
  refine zIconst d_X12_init_279 (v := 3) rfl (q := 280) rfl ?_
  refine zIconst d_X12_init_280 (v := -1) rfl (q := 281) rfl ?_
  refine yIast d_X12_init_281 sh_96 (by decide) (j := 3) rfl (by decide) (q := 282) rfl ?_
  have hi : zFi _ 97 := zFiC (a := 96) (k := 3) (x := -1) (by decide) hi
  refine zDup d_X12_init_282 rfl (q := 283) rfl ?_
  refine zIconst d_X12_init_283 (v := 4) rfl (q := 284) rfl ?_
  refine zIconst d_X12_init_284 (v := -1) rfl (q := 285) rfl ?_
  refine yIast d_X12_init_285 sh_96 (by decide) (j := 4) rfl (by decide) (q := 286) rfl ?_
  have hi : zFi _ 97 := zFiC (a := 96) (k := 4) (x := -1) (by decide) hi
  refine zDup d_X12_init_286 rfl (q := 287) rfl ?_
  refine zIconst d_X12_init_287 (v := 5) rfl (q := 288) rfl ?_
  refine zIconst d_X12_init_288 (v := -1) rfl (q := 289) rfl ?_
  refine yIast d_X12_init_289 sh_96 (by decide) (j := 5) rfl (by decide) (q := 290) rfl ?_
  have hi : zFi _ 97 := zFiC (a := 96) (k := 5) (x := -1) (by decide) hi
  first | refine yPutF d_X12_init_290 ff_X12_107 rfl rfl rfl (fun _ => rfl) (fun _ => rfl) sh_64 (by decide) (q := 293) rfl ?_ | refine yPutR d_X12_init_290 ff_X12_107 rfl (fun _ => rfl) (fun _ => rfl) rfl rfl sh_64 (by decide) (q := 293) rfl ?_
  have hp : zFp _ 97 := zFpC (a := 64) (k := 53) (b := 96) (by decide) hp
  refine zAloadN d_X12_init_293 rfl rfl (q := 294) rfl ?_
  refine zBipush d_X12_init_294 (v := 6) rfl (q := 296) rfl ?_
  refine yNewI d_X12_init_296 rfl sh_97 hi hp (by decide) (n2 := 98) rfl (q := 298) rfl ?_
  have hi : zFi _ 98 := zFiS hi
  have hp : zFp _ 98 := zFpS hp
  first | refine yPutF d_X12_init_298 ff_X12_110 rfl rfl rfl (fun _ => rfl) (fun _ => rfl) sh_64 (by decide) (q := 301) rfl ?_ | refine yPutR d_X12_init_298 ff_X12_110 rfl (fun _ => rfl) (fun _ => rfl) rfl rfl sh_64 (by decide) (q := 301) rfl ?_
  have hp : zFp _ 98 := zFpC (a := 64) (k := 54) (b := 97) (by decide) hp
  refine zAloadN d_X12_init_301 rfl rfl (q := 302) rfl ?_
  refine zSipush d_X12_init_302 (v := 360) rfl (q := 305) rfl ?_
  refine yNewL d_X12_init_305 rfl sh_98 hi hp (by decide) (n2 := 99) rfl (q := 307) rfl ?_
  have hi : zFi _ 99 := zFiS hi
  have hp : zFp _ 99 := zFpS hp
  first | refine yPutF d_X12_init_307 ff_X12_113 rfl rfl rfl (fun _ => rfl) (fun _ => rfl) sh_64 (by decide) (q := 310) rfl ?_ | refine yPutR d_X12_init_307 ff_X12_113 rfl (fun _ => rfl) (fun _ => rfl) rfl rfl sh_64 (by decide) (q := 310) rfl ?_
  have hp : zFp _ 99 := zFpC (a := 64) (k := 55) (b := 98) (by decide) hp
  refine zAloadN d_X12_init_310 rfl rfl (q := 311) rfl ?_
  refine zBipush d_X12_init_311 (v := 60) rfl (q := 313) rfl ?_
  refine yNewL d_X12_init_313 rfl sh_99 hi hp (by decide) (n2 := 100) rfl (q := 315) rfl ?_
  have hi : zFi _ 100 := zFiS hi
  have hp : zFp _ 100 := zFpS hp
  first | refine yPutF d_X12_init_315 ff_X12_117 rfl rfl rfl (fun _ => rfl) (fun _ => rfl) sh_64 (by decide) (q := 318) rfl ?_ | refine yPutR d_X12_init_315 ff_X12_117 rfl (fun _ => rfl) (fun _ => rfl) rfl rfl sh_64 (by decide) (q := 318) rfl ?_
  have hp : zFp _ 100 := zFpC (a := 64) (k := 56) (b := 99) (by decide) hp
  refine zVret d_X12_init_318 rfl rfl ?_
  exact ⟨rfl, rfl⟩
end S99
