theorem d_X12_gives_0 : decode (zmc m_X12_gives) 0 = .ok (.iconst 0, 1) := by decide +kernel
theorem d_X12_gives_1 : decode (zmc m_X12_gives) 1 = .ok (.istore_n 2, 1) := by decide +kernel
theorem d_X12_gives_2 : decode (zmc m_X12_gives) 2 = .ok (.bipush 61, 2) := by decide +kernel
theorem d_X12_gives_4 : decode (zmc m_X12_gives) 4 = .ok (.iload_n 1, 1) := by decide +kernel
theorem d_X12_gives_5 : decode (zmc m_X12_gives) 5 = .ok (.imul, 1) := by decide +kernel
theorem d_X12_gives_6 : decode (zmc m_X12_gives) 6 = .ok (.istore_n 3, 1) := by decide +kernel
theorem d_X12_gives_7 : decode (zmc m_X12_gives) 7 = .ok (.iload_n 3, 1) := by decide +kernel
theorem d_X12_gives_8 : decode (zmc m_X12_gives) 8 = .ok (.bipush 61, 2) := by decide +kernel
theorem d_X12_gives_10 : decode (zmc m_X12_gives) 10 = .ok (.iload_n 1, 1) := by decide +kernel
theorem d_X12_gives_11 : decode (zmc m_X12_gives) 11 = .ok (.imul, 1) := by decide +kernel
theorem d_X12_gives_12 : decode (zmc m_X12_gives) 12 = .ok (.aload_n 0, 1) := by decide +kernel
theorem d_X12_gives_13 : decode (zmc m_X12_gives) 13 = .ok (.getfield 64, 3) := by decide +kernel
theorem d_X12_gives_16 : decode (zmc m_X12_gives) 16 = .ok (.iload_n 1, 1) := by decide +kernel
theorem d_X12_gives_17 : decode (zmc m_X12_gives) 17 = .ok (.iaload, 1) := by decide +kernel
theorem d_X12_gives_18 : decode (zmc m_X12_gives) 18 = .ok (.iadd, 1) := by decide +kernel
theorem d_X12_gives_19 : decode (zmc m_X12_gives) 19 = .ok (.if_icmp .ge 59, 3) := by decide +kernel
theorem d_X12_gives_22 : decode (zmc m_X12_gives) 22 = .ok (.aload_n 0, 1) := by decide +kernel
theorem d_X12_gives_23 : decode (zmc m_X12_gives) 23 = .ok (.getfield 67, 3) := by decide +kernel
theorem d_X12_gives_26 : decode (zmc m_X12_gives) 26 = .ok (.iload_n 3, 1) := by decide +kernel
theorem d_X12_gives_27 : decode (zmc m_X12_gives) 27 = .ok (.saload, 1) := by decide +kernel
theorem d_X12_gives_28 : decode (zmc m_X12_gives) 28 = .ok (.iload_n 2, 1) := by decide +kernel
theorem d_X12_gives_29 : decode (zmc m_X12_gives) 29 = .ok (.if_icmp .eq 18, 3) := by decide +kernel
theorem d_X12_gives_32 : decode (zmc m_X12_gives) 32 = .ok (.aload_n 0, 1) := by decide +kernel
theorem d_X12_gives_33 : decode (zmc m_X12_gives) 33 = .ok (.iload_n 1, 1) := by decide +kernel
theorem d_X12_gives_34 : decode (zmc m_X12_gives) 34 = .ok (.iload_n 2, 1) := by decide +kernel
theorem d_X12_gives_35 : decode (zmc m_X12_gives) 35 = .ok (.aload_n 0, 1) := by decide +kernel
theorem d_X12_gives_36 : decode (zmc m_X12_gives) 36 = .ok (.getfield 67, 3) := by decide +kernel
theorem d_X12_gives_39 : decode (zmc m_X12_gives) 39 = .ok (.iload_n 3, 1) := by decide +kernel
theorem d_X12_gives_40 : decode (zmc m_X12_gives) 40 = .ok (.saload, 1) := by decide +kernel
theorem d_X12_gives_41 : decode (zmc m_X12_gives) 41 = .ok (.invokevirtual 248, 3) := by decide +kernel
theorem d_X12_gives_44 : decode (zmc m_X12_gives) 44 = .ok (.ifCond .eq 21, 3) := by decide +kernel
theorem d_X12_gives_47 : decode (zmc m_X12_gives) 47 = .ok (.aload_n 0, 1) := by decide +kernel
theorem d_X12_gives_48 : decode (zmc m_X12_gives) 48 = .ok (.iload_n 1, 1) := by decide +kernel
theorem d_X12_gives_49 : decode (zmc m_X12_gives) 49 = .ok (.aload_n 0, 1) := by decide +kernel
theorem d_X12_gives_50 : decode (zmc m_X12_gives) 50 = .ok (.getfield 67, 3) := by decide +kernel
theorem d_X12_gives_53 : decode (zmc m_X12_gives) 53 = .ok (.iload_n 3, 1) := by decide +kernel
theorem d_X12_gives_54 : decode (zmc m_X12_gives) 54 = .ok (.saload, 1) := by decide +kernel
theorem d_X12_gives_55 : decode (zmc m_X12_gives) 55 = .ok (.aload_n 0, 1) := by decide +kernel
theorem d_X12_gives_56 : decode (zmc m_X12_gives) 56 = .ok (.getfield 71, 3) := by decide +kernel
theorem d_X12_gives_59 : decode (zmc m_X12_gives) 59 = .ok (.iload_n 3, 1) := by decide +kernel
theorem d_X12_gives_60 : decode (zmc m_X12_gives) 60 = .ok (.saload, 1) := by decide +kernel
theorem d_X12_gives_61 : decode (zmc m_X12_gives) 61 = .ok (.invokevirtual 248, 3) := by decide +kernel
theorem d_X12_gives_64 : decode (zmc m_X12_gives) 64 = .ok (.ireturn, 1) := by decide +kernel
theorem d_X12_gives_65 : decode (zmc m_X12_gives) 65 = .ok (.aload_n 0, 1) := by decide +kernel
theorem d_X12_gives_66 : decode (zmc m_X12_gives) 66 = .ok (.getfield 71, 3) := by decide +kernel
theorem d_X12_gives_69 : decode (zmc m_X12_gives) 69 = .ok (.iload_n 3, 1) := by decide +kernel
theorem d_X12_gives_70 : decode (zmc m_X12_gives) 70 = .ok (.saload, 1) := by decide +kernel
theorem d_X12_gives_71 : decode (zmc m_X12_gives) 71 = .ok (.istore_n 2, 1) := by decide +kernel
theorem d_X12_gives_72 : decode (zmc m_X12_gives) 72 = .ok (.iinc 3 1, 3) := by decide +kernel
theorem d_X12_gives_75 : decode (zmc m_X12_gives) 75 = .ok (.goto (-68), 3) := by decide +kernel
theorem d_X12_gives_78 : decode (zmc m_X12_gives) 78 = .ok (.iconst 0, 1) := by decide +kernel
theorem d_X12_gives_79 : decode (zmc m_X12_gives) 79 = .ok (.ireturn, 1) := by decide +kernel
theorem d_X12_twoOf_0 : decode (zmc m_X12_twoOf) 0 = .ok (.iload_n 0, 1) := by decide +kernel
theorem d_X12_twoOf_1 : decode (zmc m_X12_twoOf) 1 = .ok (.tableswitch 217 37 62 #[153, 203, 217, 217, 217, 127, 119, 217, 123, 217, 131, 217, 217, 217, 217, 217, 217, 217, 217, 217, 217, 217, 217, 170, 181, 192], 119) := by decide +kernel
theorem d_X12_twoOf_120 : decode (zmc m_X12_twoOf) 120 = .ok (.iload_n 1, 1) := by decide +kernel
theorem d_X12_twoOf_121 : decode (zmc m_X12_twoOf) 121 = .ok (.iload_n 2, 1) := by decide +kernel
theorem d_X12_twoOf_122 : decode (zmc m_X12_twoOf) 122 = .ok (.iadd, 1) := by decide +kernel
theorem d_X12_twoOf_123 : decode (zmc m_X12_twoOf) 123 = .ok (.ireturn, 1) := by decide +kernel
theorem d_X12_twoOf_124 : decode (zmc m_X12_twoOf) 124 = .ok (.iload_n 1, 1) := by decide +kernel
theorem d_X12_twoOf_125 : decode (zmc m_X12_twoOf) 125 = .ok (.iload_n 2, 1) := by decide +kernel
theorem d_X12_twoOf_126 : decode (zmc m_X12_twoOf) 126 = .ok (.isub, 1) := by decide +kernel
theorem d_X12_twoOf_127 : decode (zmc m_X12_twoOf) 127 = .ok (.ireturn, 1) := by decide +kernel
theorem d_X12_twoOf_128 : decode (zmc m_X12_twoOf) 128 = .ok (.iload_n 1, 1) := by decide +kernel
theorem d_X12_twoOf_129 : decode (zmc m_X12_twoOf) 129 = .ok (.iload_n 2, 1) := by decide +kernel
theorem d_X12_twoOf_130 : decode (zmc m_X12_twoOf) 130 = .ok (.imul, 1) := by decide +kernel
theorem d_X12_twoOf_131 : decode (zmc m_X12_twoOf) 131 = .ok (.ireturn, 1) := by decide +kernel
theorem d_X12_twoOf_132 : decode (zmc m_X12_twoOf) 132 = .ok (.iload_n 2, 1) := by decide +kernel
theorem d_X12_twoOf_133 : decode (zmc m_X12_twoOf) 133 = .ok (.ifCond .ne 7, 3) := by decide +kernel
theorem d_X12_twoOf_136 : decode (zmc m_X12_twoOf) 136 = .ok (.iconst 0, 1) := by decide +kernel
theorem d_X12_twoOf_137 : decode (zmc m_X12_twoOf) 137 = .ok (.goto 16, 3) := by decide +kernel
theorem d_X12_twoOf_140 : decode (zmc m_X12_twoOf) 140 = .ok (.iload_n 2, 1) := by decide +kernel
theorem d_X12_twoOf_141 : decode (zmc m_X12_twoOf) 141 = .ok (.iconst (-1), 1) := by decide +kernel
theorem d_X12_twoOf_142 : decode (zmc m_X12_twoOf) 142 = .ok (.if_icmp .ne 8, 3) := by decide +kernel
theorem d_X12_twoOf_145 : decode (zmc m_X12_twoOf) 145 = .ok (.iload_n 1, 1) := by decide +kernel
theorem d_X12_twoOf_146 : decode (zmc m_X12_twoOf) 146 = .ok (.ineg, 1) := by decide +kernel
theorem d_X12_twoOf_147 : decode (zmc m_X12_twoOf) 147 = .ok (.goto 6, 3) := by decide +kernel
theorem d_X12_twoOf_150 : decode (zmc m_X12_twoOf) 150 = .ok (.iload_n 1, 1) := by decide +kernel
theorem d_X12_twoOf_151 : decode (zmc m_X12_twoOf) 151 = .ok (.iload_n 2, 1) := by decide +kernel
theorem d_X12_twoOf_152 : decode (zmc m_X12_twoOf) 152 = .ok (.idiv, 1) := by decide +kernel
theorem d_X12_twoOf_153 : decode (zmc m_X12_twoOf) 153 = .ok (.ireturn, 1) := by decide +kernel
theorem d_X12_twoOf_154 : decode (zmc m_X12_twoOf) 154 = .ok (.iload_n 2, 1) := by decide +kernel
theorem d_X12_twoOf_155 : decode (zmc m_X12_twoOf) 155 = .ok (.ifCond .eq 8, 3) := by decide +kernel
theorem d_X12_twoOf_158 : decode (zmc m_X12_twoOf) 158 = .ok (.iload_n 2, 1) := by decide +kernel
theorem d_X12_twoOf_159 : decode (zmc m_X12_twoOf) 159 = .ok (.iconst (-1), 1) := by decide +kernel
theorem d_X12_twoOf_160 : decode (zmc m_X12_twoOf) 160 = .ok (.if_icmp .ne 7, 3) := by decide +kernel
theorem d_X12_twoOf_163 : decode (zmc m_X12_twoOf) 163 = .ok (.iconst 0, 1) := by decide +kernel
theorem d_X12_twoOf_164 : decode (zmc m_X12_twoOf) 164 = .ok (.goto 6, 3) := by decide +kernel
theorem d_X12_twoOf_167 : decode (zmc m_X12_twoOf) 167 = .ok (.iload_n 1, 1) := by decide +kernel
theorem d_X12_twoOf_168 : decode (zmc m_X12_twoOf) 168 = .ok (.iload_n 2, 1) := by decide +kernel
theorem d_X12_twoOf_169 : decode (zmc m_X12_twoOf) 169 = .ok (.irem, 1) := by decide +kernel
theorem d_X12_twoOf_170 : decode (zmc m_X12_twoOf) 170 = .ok (.ireturn, 1) := by decide +kernel
theorem d_X12_twoOf_171 : decode (zmc m_X12_twoOf) 171 = .ok (.iload_n 1, 1) := by decide +kernel
theorem d_X12_twoOf_172 : decode (zmc m_X12_twoOf) 172 = .ok (.iload_n 2, 1) := by decide +kernel
theorem d_X12_twoOf_173 : decode (zmc m_X12_twoOf) 173 = .ok (.if_icmp .ge 7, 3) := by decide +kernel
theorem d_X12_twoOf_176 : decode (zmc m_X12_twoOf) 176 = .ok (.iconst 1, 1) := by decide +kernel
theorem d_X12_twoOf_177 : decode (zmc m_X12_twoOf) 177 = .ok (.goto 4, 3) := by decide +kernel
theorem d_X12_twoOf_180 : decode (zmc m_X12_twoOf) 180 = .ok (.iconst 0, 1) := by decide +kernel
theorem d_X12_twoOf_181 : decode (zmc m_X12_twoOf) 181 = .ok (.ireturn, 1) := by decide +kernel
theorem d_X12_twoOf_182 : decode (zmc m_X12_twoOf) 182 = .ok (.iload_n 1, 1) := by decide +kernel
theorem d_X12_twoOf_183 : decode (zmc m_X12_twoOf) 183 = .ok (.iload_n 2, 1) := by decide +kernel
theorem d_X12_twoOf_184 : decode (zmc m_X12_twoOf) 184 = .ok (.if_icmp .ne 7, 3) := by decide +kernel
theorem d_X12_twoOf_187 : decode (zmc m_X12_twoOf) 187 = .ok (.iconst 1, 1) := by decide +kernel
theorem d_X12_twoOf_188 : decode (zmc m_X12_twoOf) 188 = .ok (.goto 4, 3) := by decide +kernel
theorem d_X12_twoOf_191 : decode (zmc m_X12_twoOf) 191 = .ok (.iconst 0, 1) := by decide +kernel
theorem d_X12_twoOf_192 : decode (zmc m_X12_twoOf) 192 = .ok (.ireturn, 1) := by decide +kernel
theorem d_X12_twoOf_193 : decode (zmc m_X12_twoOf) 193 = .ok (.iload_n 1, 1) := by decide +kernel
theorem d_X12_twoOf_194 : decode (zmc m_X12_twoOf) 194 = .ok (.iload_n 2, 1) := by decide +kernel
theorem d_X12_twoOf_195 : decode (zmc m_X12_twoOf) 195 = .ok (.if_icmp .le 7, 3) := by decide +kernel
theorem d_X12_twoOf_198 : decode (zmc m_X12_twoOf) 198 = .ok (.iconst 1, 1) := by decide +kernel
theorem d_X12_twoOf_199 : decode (zmc m_X12_twoOf) 199 = .ok (.goto 4, 3) := by decide +kernel
theorem d_X12_twoOf_202 : decode (zmc m_X12_twoOf) 202 = .ok (.iconst 0, 1) := by decide +kernel
theorem d_X12_twoOf_203 : decode (zmc m_X12_twoOf) 203 = .ok (.ireturn, 1) := by decide +kernel
theorem d_X12_twoOf_204 : decode (zmc m_X12_twoOf) 204 = .ok (.iload_n 1, 1) := by decide +kernel
theorem d_X12_twoOf_205 : decode (zmc m_X12_twoOf) 205 = .ok (.ifCond .eq 11, 3) := by decide +kernel
theorem d_X12_twoOf_208 : decode (zmc m_X12_twoOf) 208 = .ok (.iload_n 2, 1) := by decide +kernel
theorem d_X12_twoOf_209 : decode (zmc m_X12_twoOf) 209 = .ok (.ifCond .eq 7, 3) := by decide +kernel
theorem d_X12_twoOf_212 : decode (zmc m_X12_twoOf) 212 = .ok (.iconst 1, 1) := by decide +kernel
theorem d_X12_twoOf_213 : decode (zmc m_X12_twoOf) 213 = .ok (.goto 4, 3) := by decide +kernel
theorem d_X12_twoOf_216 : decode (zmc m_X12_twoOf) 216 = .ok (.iconst 0, 1) := by decide +kernel
theorem d_X12_twoOf_217 : decode (zmc m_X12_twoOf) 217 = .ok (.ireturn, 1) := by decide +kernel
theorem d_X12_twoOf_218 : decode (zmc m_X12_twoOf) 218 = .ok (.iload_n 1, 1) := by decide +kernel
theorem d_X12_twoOf_219 : decode (zmc m_X12_twoOf) 219 = .ok (.ifCond .ne 7, 3) := by decide +kernel
theorem d_X12_twoOf_222 : decode (zmc m_X12_twoOf) 222 = .ok (.iload_n 2, 1) := by decide +kernel
theorem d_X12_twoOf_223 : decode (zmc m_X12_twoOf) 223 = .ok (.ifCond .eq 7, 3) := by decide +kernel
theorem d_X12_twoOf_226 : decode (zmc m_X12_twoOf) 226 = .ok (.iconst 1, 1) := by decide +kernel
theorem d_X12_twoOf_227 : decode (zmc m_X12_twoOf) 227 = .ok (.goto 4, 3) := by decide +kernel
theorem d_X12_twoOf_230 : decode (zmc m_X12_twoOf) 230 = .ok (.iconst 0, 1) := by decide +kernel
theorem d_X12_twoOf_231 : decode (zmc m_X12_twoOf) 231 = .ok (.ireturn, 1) := by decide +kernel
theorem d_X12_worked_0 : decode (zmc m_X12_worked) 0 = .ok (.iconst 0, 1) := by decide +kernel
theorem d_X12_worked_1 : decode (zmc m_X12_worked) 1 = .ok (.istore 4, 2) := by decide +kernel
theorem d_X12_worked_3 : decode (zmc m_X12_worked) 3 = .ok (.sipush 130, 3) := by decide +kernel
theorem d_X12_worked_6 : decode (zmc m_X12_worked) 6 = .ok (.iload_n 1, 1) := by decide +kernel
theorem d_X12_worked_7 : decode (zmc m_X12_worked) 7 = .ok (.imul, 1) := by decide +kernel
theorem d_X12_worked_8 : decode (zmc m_X12_worked) 8 = .ok (.iload_n 2, 1) := by decide +kernel
theorem d_X12_worked_9 : decode (zmc m_X12_worked) 9 = .ok (.iadd, 1) := by decide +kernel
theorem d_X12_worked_10 : decode (zmc m_X12_worked) 10 = .ok (.istore 5, 2) := by decide +kernel
theorem d_X12_worked_12 : decode (zmc m_X12_worked) 12 = .ok (.iload 5, 2) := by decide +kernel
theorem d_X12_worked_14 : decode (zmc m_X12_worked) 14 = .ok (.sipush 130, 3) := by decide +kernel
theorem d_X12_worked_17 : decode (zmc m_X12_worked) 17 = .ok (.iload_n 1, 1) := by decide +kernel
theorem d_X12_worked_18 : decode (zmc m_X12_worked) 18 = .ok (.imul, 1) := by decide +kernel
theorem d_X12_worked_19 : decode (zmc m_X12_worked) 19 = .ok (.iload_n 3, 1) := by decide +kernel
theorem d_X12_worked_20 : decode (zmc m_X12_worked) 20 = .ok (.iadd, 1) := by decide +kernel
theorem d_X12_worked_21 : decode (zmc m_X12_worked) 21 = .ok (.if_icmp .ge 167, 3) := by decide +kernel
theorem d_X12_worked_24 : decode (zmc m_X12_worked) 24 = .ok (.aload_n 0, 1) := by decide +kernel
theorem d_X12_worked_25 : decode (zmc m_X12_worked) 25 = .ok (.getfield 58, 3) := by decide +kernel
theorem d_X12_worked_28 : decode (zmc m_X12_worked) 28 = .ok (.iload 5, 2) := by decide +kernel
theorem d_X12_worked_30 : decode (zmc m_X12_worked) 30 = .ok (.baload, 1) := by decide +kernel
theorem d_X12_worked_31 : decode (zmc m_X12_worked) 31 = .ok (.istore 6, 2) := by decide +kernel
theorem d_X12_worked_33 : decode (zmc m_X12_worked) 33 = .ok (.iload 6, 2) := by decide +kernel
theorem d_X12_worked_35 : decode (zmc m_X12_worked) 35 = .ok (.iconst 1, 1) := by decide +kernel
theorem d_X12_worked_36 : decode (zmc m_X12_worked) 36 = .ok (.if_icmp .eq 9, 3) := by decide +kernel
theorem d_X12_worked_39 : decode (zmc m_X12_worked) 39 = .ok (.iload 6, 2) := by decide +kernel
theorem d_X12_worked_41 : decode (zmc m_X12_worked) 41 = .ok (.iconst 2, 1) := by decide +kernel
theorem d_X12_worked_42 : decode (zmc m_X12_worked) 42 = .ok (.if_icmp .ne 44, 3) := by decide +kernel
theorem d_X12_worked_45 : decode (zmc m_X12_worked) 45 = .ok (.aload_n 0, 1) := by decide +kernel
theorem d_X12_worked_46 : decode (zmc m_X12_worked) 46 = .ok (.getfield 77, 3) := by decide +kernel
theorem d_X12_worked_49 : decode (zmc m_X12_worked) 49 = .ok (.iload 4, 2) := by decide +kernel
theorem d_X12_worked_51 : decode (zmc m_X12_worked) 51 = .ok (.iload 6, 2) := by decide +kernel
theorem d_X12_worked_53 : decode (zmc m_X12_worked) 53 = .ok (.iconst 1, 1) := by decide +kernel
theorem d_X12_worked_54 : decode (zmc m_X12_worked) 54 = .ok (.if_icmp .ne 13, 3) := by decide +kernel
theorem d_X12_worked_57 : decode (zmc m_X12_worked) 57 = .ok (.aload_n 0, 1) := by decide +kernel
theorem d_X12_worked_58 : decode (zmc m_X12_worked) 58 = .ok (.getfield 61, 3) := by decide +kernel
theorem d_X12_worked_61 : decode (zmc m_X12_worked) 61 = .ok (.iload 5, 2) := by decide +kernel
theorem d_X12_worked_63 : decode (zmc m_X12_worked) 63 = .ok (.iaload, 1) := by decide +kernel
theorem d_X12_worked_64 : decode (zmc m_X12_worked) 64 = .ok (.goto 15, 3) := by decide +kernel
theorem d_X12_worked_67 : decode (zmc m_X12_worked) 67 = .ok (.aload_n 0, 1) := by decide +kernel
theorem d_X12_worked_68 : decode (zmc m_X12_worked) 68 = .ok (.getfield 74, 3) := by decide +kernel
theorem d_X12_worked_71 : decode (zmc m_X12_worked) 71 = .ok (.aload_n 0, 1) := by decide +kernel
theorem d_X12_worked_72 : decode (zmc m_X12_worked) 72 = .ok (.getfield 61, 3) := by decide +kernel
theorem d_X12_worked_75 : decode (zmc m_X12_worked) 75 = .ok (.iload 5, 2) := by decide +kernel
theorem d_X12_worked_77 : decode (zmc m_X12_worked) 77 = .ok (.iaload, 1) := by decide +kernel
theorem d_X12_worked_78 : decode (zmc m_X12_worked) 78 = .ok (.iaload, 1) := by decide +kernel
theorem d_X12_worked_79 : decode (zmc m_X12_worked) 79 = .ok (.iastore, 1) := by decide +kernel
theorem d_X12_worked_80 : decode (zmc m_X12_worked) 80 = .ok (.iinc 4 1, 3) := by decide +kernel
theorem d_X12_worked_83 : decode (zmc m_X12_worked) 83 = .ok (.goto 99, 3) := by decide +kernel
theorem d_X12_worked_86 : decode (zmc m_X12_worked) 86 = .ok (.iload 6, 2) := by decide +kernel
theorem d_X12_worked_88 : decode (zmc m_X12_worked) 88 = .ok (.iconst 3, 1) := by decide +kernel
theorem d_X12_worked_89 : decode (zmc m_X12_worked) 89 = .ok (.if_icmp .ne 32, 3) := by decide +kernel
theorem d_X12_worked_92 : decode (zmc m_X12_worked) 92 = .ok (.aload_n 0, 1) := by decide +kernel
theorem d_X12_worked_93 : decode (zmc m_X12_worked) 93 = .ok (.getfield 77, 3) := by decide +kernel
theorem d_X12_worked_96 : decode (zmc m_X12_worked) 96 = .ok (.iload 4, 2) := by decide +kernel
theorem d_X12_worked_98 : decode (zmc m_X12_worked) 98 = .ok (.iconst 1, 1) := by decide +kernel
theorem d_X12_worked_99 : decode (zmc m_X12_worked) 99 = .ok (.isub, 1) := by decide +kernel
theorem d_X12_worked_100 : decode (zmc m_X12_worked) 100 = .ok (.aload_n 0, 1) := by decide +kernel
theorem d_X12_worked_101 : decode (zmc m_X12_worked) 101 = .ok (.getfield 77, 3) := by decide +kernel
theorem d_X12_worked_104 : decode (zmc m_X12_worked) 104 = .ok (.iload 4, 2) := by decide +kernel
theorem d_X12_worked_106 : decode (zmc m_X12_worked) 106 = .ok (.iconst 1, 1) := by decide +kernel
theorem d_X12_worked_107 : decode (zmc m_X12_worked) 107 = .ok (.isub, 1) := by decide +kernel
theorem d_X12_worked_108 : decode (zmc m_X12_worked) 108 = .ok (.iaload, 1) := by decide +kernel
theorem d_X12_worked_109 : decode (zmc m_X12_worked) 109 = .ok (.ifCond .ne 7, 3) := by decide +kernel
theorem d_X12_worked_112 : decode (zmc m_X12_worked) 112 = .ok (.iconst 1, 1) := by decide +kernel
theorem d_X12_worked_113 : decode (zmc m_X12_worked) 113 = .ok (.goto 4, 3) := by decide +kernel
theorem d_X12_worked_116 : decode (zmc m_X12_worked) 116 = .ok (.iconst 0, 1) := by decide +kernel
theorem d_X12_worked_117 : decode (zmc m_X12_worked) 117 = .ok (.iastore, 1) := by decide +kernel
theorem d_X12_worked_118 : decode (zmc m_X12_worked) 118 = .ok (.goto 64, 3) := by decide +kernel
theorem d_X12_worked_121 : decode (zmc m_X12_worked) 121 = .ok (.iload 6, 2) := by decide +kernel
theorem d_X12_worked_123 : decode (zmc m_X12_worked) 123 = .ok (.iconst 4, 1) := by decide +kernel
theorem d_X12_worked_124 : decode (zmc m_X12_worked) 124 = .ok (.if_icmp .ne 25, 3) := by decide +kernel
theorem d_X12_worked_127 : decode (zmc m_X12_worked) 127 = .ok (.aload_n 0, 1) := by decide +kernel
theorem d_X12_worked_128 : decode (zmc m_X12_worked) 128 = .ok (.getfield 77, 3) := by decide +kernel
theorem d_X12_worked_131 : decode (zmc m_X12_worked) 131 = .ok (.iload 4, 2) := by decide +kernel
theorem d_X12_worked_133 : decode (zmc m_X12_worked) 133 = .ok (.iconst 1, 1) := by decide +kernel
theorem d_X12_worked_134 : decode (zmc m_X12_worked) 134 = .ok (.isub, 1) := by decide +kernel
theorem d_X12_worked_135 : decode (zmc m_X12_worked) 135 = .ok (.aload_n 0, 1) := by decide +kernel
theorem d_X12_worked_136 : decode (zmc m_X12_worked) 136 = .ok (.getfield 77, 3) := by decide +kernel
theorem d_X12_worked_139 : decode (zmc m_X12_worked) 139 = .ok (.iload 4, 2) := by decide +kernel
theorem d_X12_worked_141 : decode (zmc m_X12_worked) 141 = .ok (.iconst 1, 1) := by decide +kernel
theorem d_X12_worked_142 : decode (zmc m_X12_worked) 142 = .ok (.isub, 1) := by decide +kernel
theorem d_X12_worked_143 : decode (zmc m_X12_worked) 143 = .ok (.iaload, 1) := by decide +kernel
theorem d_X12_worked_144 : decode (zmc m_X12_worked) 144 = .ok (.ineg, 1) := by decide +kernel
theorem d_X12_worked_145 : decode (zmc m_X12_worked) 145 = .ok (.iastore, 1) := by decide +kernel
theorem d_X12_worked_146 : decode (zmc m_X12_worked) 146 = .ok (.goto 36, 3) := by decide +kernel
theorem d_X12_worked_149 : decode (zmc m_X12_worked) 149 = .ok (.iinc 4 (-1), 3) := by decide +kernel
theorem d_X12_worked_152 : decode (zmc m_X12_worked) 152 = .ok (.aload_n 0, 1) := by decide +kernel
theorem d_X12_worked_153 : decode (zmc m_X12_worked) 153 = .ok (.getfield 77, 3) := by decide +kernel
theorem d_X12_worked_156 : decode (zmc m_X12_worked) 156 = .ok (.iload 4, 2) := by decide +kernel
theorem d_X12_worked_158 : decode (zmc m_X12_worked) 158 = .ok (.iconst 1, 1) := by decide +kernel
theorem d_X12_worked_159 : decode (zmc m_X12_worked) 159 = .ok (.isub, 1) := by decide +kernel
theorem d_X12_worked_160 : decode (zmc m_X12_worked) 160 = .ok (.iload 6, 2) := by decide +kernel
theorem d_X12_worked_162 : decode (zmc m_X12_worked) 162 = .ok (.aload_n 0, 1) := by decide +kernel
theorem d_X12_worked_163 : decode (zmc m_X12_worked) 163 = .ok (.getfield 77, 3) := by decide +kernel
theorem d_X12_worked_166 : decode (zmc m_X12_worked) 166 = .ok (.iload 4, 2) := by decide +kernel
theorem d_X12_worked_168 : decode (zmc m_X12_worked) 168 = .ok (.iconst 1, 1) := by decide +kernel
theorem d_X12_worked_169 : decode (zmc m_X12_worked) 169 = .ok (.isub, 1) := by decide +kernel
theorem d_X12_worked_170 : decode (zmc m_X12_worked) 170 = .ok (.iaload, 1) := by decide +kernel
theorem d_X12_worked_171 : decode (zmc m_X12_worked) 171 = .ok (.aload_n 0, 1) := by decide +kernel
theorem d_X12_worked_172 : decode (zmc m_X12_worked) 172 = .ok (.getfield 77, 3) := by decide +kernel
theorem d_X12_worked_175 : decode (zmc m_X12_worked) 175 = .ok (.iload 4, 2) := by decide +kernel
theorem d_X12_worked_177 : decode (zmc m_X12_worked) 177 = .ok (.iaload, 1) := by decide +kernel
theorem d_X12_worked_178 : decode (zmc m_X12_worked) 178 = .ok (.invokestatic 245, 3) := by decide +kernel
theorem d_X12_worked_181 : decode (zmc m_X12_worked) 181 = .ok (.iastore, 1) := by decide +kernel
theorem d_X12_worked_182 : decode (zmc m_X12_worked) 182 = .ok (.iinc 5 1, 3) := by decide +kernel
theorem d_X12_worked_185 : decode (zmc m_X12_worked) 185 = .ok (.goto (-173), 3) := by decide +kernel
theorem d_X12_worked_188 : decode (zmc m_X12_worked) 188 = .ok (.aload_n 0, 1) := by decide +kernel
theorem d_X12_worked_189 : decode (zmc m_X12_worked) 189 = .ok (.getfield 77, 3) := by decide +kernel
theorem d_X12_worked_192 : decode (zmc m_X12_worked) 192 = .ok (.iconst 0, 1) := by decide +kernel
theorem d_X12_worked_193 : decode (zmc m_X12_worked) 193 = .ok (.iaload, 1) := by decide +kernel
theorem d_X12_worked_194 : decode (zmc m_X12_worked) 194 = .ok (.ireturn, 1) := by decide +kernel
/-! THE REFERENCE: a law worked out -/
theorem zdivm1 (a : Int32) : a / (-1) = -a := by
  apply Int32.toInt_inj.mp
  have e : (-1 : Int32).toInt = -1 := by decide
  rw [Int32.toInt_div, e, Int.tdiv_neg, Int.tdiv_one, Int32.toInt_neg]
section S59
variable {g : zG} {l : Launch} {d : Nat} {I V : Nat → Nat → Int32} {L K : Nat → Nat → Int64} {fs : Nat × Nat × Option Nat} {ns nt nh nb : Nat} {pg : Option (List zLine)} {Q : Option Value → zW → Prop}
theorem sp_X12_twoOf (hd : 1 ≤ d) {t a b : Int32} (ht : t ∈ ([37, 38, 42, 43, 45, 47, 60, 61, 62, 124] : List Int32)) : zPure g l d m_X12_twoOf [.int t, .int a, .int b] I L fs (.int (zJn t a b)) := by
  simp only [List.mem_cons, List.not_mem_nil, or_false] at ht
  rcases ht with rfl | rfl | rfl | rfl | rfl | rfl | rfl | rfl | rfl | rfl
  ·
    refine zSp_of (lv := [(0, .int 37), (1, .int a), (2, .int b)]) k_X12_twoOf rfl (Nat.le_of_ble_eq_true rfl) ?_
    refine zIloadN d_X12_twoOf_0 rfl rfl (q := 1) rfl ?_
    refine zTabAt (v := 37) rfl d_X12_twoOf_1 (by decide) (by decide) (off := 153) (by decide) (q := 154) (by decide) ?_
    refine zIloadN d_X12_twoOf_154 rfl rfl (q := 155) rfl ?_
    refine zIf_eq d_X12_twoOf_155 (tgt := 163) (q := 158) (by decide) rfl (fun h155 => ?_) (fun h155 => ?_)
    · refine zIconst d_X12_twoOf_163 (v := 0) ic_0 (q := 164) rfl ?_
      refine zGoto d_X12_twoOf_164 (q := 170) (by decide) ?_
      refine zIret d_X12_twoOf_170 rfl rfl rfl ?_
      show zP (.int (if b = 0 then 0 else a - a / b * b)) (zU I L fs) _ _
      first
      | exact zPi (by rw [if_pos h155])
      | (have hb : b = -1 := (by simpa using h160); exact zPi (by rw [if_neg h155, hb, zdivm1]; grind))
      | exact zPi (by rw [if_neg h155])
    · refine zIloadN d_X12_twoOf_158 rfl rfl (q := 159) rfl ?_
      refine zIconst d_X12_twoOf_159 (v := -1) ic_m1 (q := 160) rfl ?_
      refine zIcmp_ne d_X12_twoOf_160 (tgt := 167) (q := 163) (by decide) rfl (fun h160 => ?_) (fun h160 => ?_)
      · refine zIloadN d_X12_twoOf_167 rfl rfl (q := 168) rfl ?_
        refine zIloadN d_X12_twoOf_168 rfl rfl (q := 169) rfl ?_
        refine zIrem d_X12_twoOf_169 h155 (q := 170) rfl ?_
        refine zIret d_X12_twoOf_170 rfl rfl rfl ?_
        show zP (.int (if b = 0 then 0 else a - a / b * b)) (zU I L fs) _ _
        first
        | exact zPi (by rw [if_pos h155])
        | (have hb : b = -1 := (by simpa using h160); exact zPi (by rw [if_neg h155, hb, zdivm1]; grind))
        | exact zPi (by rw [if_neg h155])
      · refine zIconst d_X12_twoOf_163 (v := 0) ic_0 (q := 164) rfl ?_
        refine zGoto d_X12_twoOf_164 (q := 170) (by decide) ?_
        refine zIret d_X12_twoOf_170 rfl rfl rfl ?_
        show zP (.int (if b = 0 then 0 else a - a / b * b)) (zU I L fs) _ _
        first
        | exact zPi (by rw [if_pos h155])
        | (have hb : b = -1 := (by simpa using h160); exact zPi (by rw [if_neg h155, hb, zdivm1]; grind))
        | exact zPi (by rw [if_neg h155])
  ·
    refine zSp_of (lv := [(0, .int 38), (1, .int a), (2, .int b)]) k_X12_twoOf rfl (Nat.le_of_ble_eq_true rfl) ?_
    refine zIloadN d_X12_twoOf_0 rfl rfl (q := 1) rfl ?_
    refine zTabAt (v := 38) rfl d_X12_twoOf_1 (by decide) (by decide) (off := 203) (by decide) (q := 204) (by decide) ?_
    refine zIloadN d_X12_twoOf_204 rfl rfl (q := 205) rfl ?_
    refine zIf_eq d_X12_twoOf_205 (tgt := 216) (q := 208) (by decide) rfl (fun h205 => ?_) (fun h205 => ?_)
    · refine zIconst d_X12_twoOf_216 (v := 0) ic_0 (q := 217) rfl ?_
      refine zIret d_X12_twoOf_217 rfl rfl rfl ?_
      show zP (.int (bi (¬ a = 0 ∧ ¬ b = 0))) (zU I L fs) _ _
      unfold bi
      exact zPi (by grind)
    · refine zIloadN d_X12_twoOf_208 rfl rfl (q := 209) rfl ?_
      refine zIf_eq d_X12_twoOf_209 (tgt := 216) (q := 212) (by decide) rfl (fun h209 => ?_) (fun h209 => ?_)
      · refine zIconst d_X12_twoOf_216 (v := 0) ic_0 (q := 217) rfl ?_
        refine zIret d_X12_twoOf_217 rfl rfl rfl ?_
        show zP (.int (bi (¬ a = 0 ∧ ¬ b = 0))) (zU I L fs) _ _
        unfold bi
        exact zPi (by grind)
      · refine zIconst d_X12_twoOf_212 (v := 1) ic_1 (q := 213) rfl ?_
        refine zGoto d_X12_twoOf_213 (q := 217) (by decide) ?_
        refine zIret d_X12_twoOf_217 rfl rfl rfl ?_
        show zP (.int (bi (¬ a = 0 ∧ ¬ b = 0))) (zU I L fs) _ _
        unfold bi
        exact zPi (by grind)
  ·
    refine zSp_of (lv := [(0, .int 42), (1, .int a), (2, .int b)]) k_X12_twoOf rfl (Nat.le_of_ble_eq_true rfl) ?_
    refine zIloadN d_X12_twoOf_0 rfl rfl (q := 1) rfl ?_
    refine zTabAt (v := 42) rfl d_X12_twoOf_1 (by decide) (by decide) (off := 127) (by decide) (q := 128) (by decide) ?_
    refine zIloadN d_X12_twoOf_128 rfl rfl (q := 129) rfl ?_
    refine zIloadN d_X12_twoOf_129 rfl rfl (q := 130) rfl ?_
    refine zImul d_X12_twoOf_130 (q := 131) rfl ?_
    refine zIret d_X12_twoOf_131 rfl rfl rfl ?_
    exact zPi rfl
  ·
    refine zSp_of (lv := [(0, .int 43), (1, .int a), (2, .int b)]) k_X12_twoOf rfl (Nat.le_of_ble_eq_true rfl) ?_
    refine zIloadN d_X12_twoOf_0 rfl rfl (q := 1) rfl ?_
    refine zTabAt (v := 43) rfl d_X12_twoOf_1 (by decide) (by decide) (off := 119) (by decide) (q := 120) (by decide) ?_
    refine zIloadN d_X12_twoOf_120 rfl rfl (q := 121) rfl ?_
    refine zIloadN d_X12_twoOf_121 rfl rfl (q := 122) rfl ?_
    refine zIadd d_X12_twoOf_122 (q := 123) rfl ?_
    refine zIret d_X12_twoOf_123 rfl rfl rfl ?_
    exact zPi rfl
  ·
    refine zSp_of (lv := [(0, .int 45), (1, .int a), (2, .int b)]) k_X12_twoOf rfl (Nat.le_of_ble_eq_true rfl) ?_
    refine zIloadN d_X12_twoOf_0 rfl rfl (q := 1) rfl ?_
    refine zTabAt (v := 45) rfl d_X12_twoOf_1 (by decide) (by decide) (off := 123) (by decide) (q := 124) (by decide) ?_
    refine zIloadN d_X12_twoOf_124 rfl rfl (q := 125) rfl ?_
    refine zIloadN d_X12_twoOf_125 rfl rfl (q := 126) rfl ?_
    refine zIsub d_X12_twoOf_126 (q := 127) rfl ?_
    refine zIret d_X12_twoOf_127 rfl rfl rfl ?_
    exact zPi rfl
  ·
    refine zSp_of (lv := [(0, .int 47), (1, .int a), (2, .int b)]) k_X12_twoOf rfl (Nat.le_of_ble_eq_true rfl) ?_
    refine zIloadN d_X12_twoOf_0 rfl rfl (q := 1) rfl ?_
    refine zTabAt (v := 47) rfl d_X12_twoOf_1 (by decide) (by decide) (off := 131) (by decide) (q := 132) (by decide) ?_
    refine zIloadN d_X12_twoOf_132 rfl rfl (q := 133) rfl ?_
    refine zIf_ne d_X12_twoOf_133 (tgt := 140) (q := 136) (by decide) rfl (fun h133 => ?_) (fun h133 => ?_)
    · refine zIloadN d_X12_twoOf_140 rfl rfl (q := 141) rfl ?_
      refine zIconst d_X12_twoOf_141 (v := -1) ic_m1 (q := 142) rfl ?_
      refine zIcmp_ne d_X12_twoOf_142 (tgt := 150) (q := 145) (by decide) rfl (fun h142 => ?_) (fun h142 => ?_)
      · refine zIloadN d_X12_twoOf_150 rfl rfl (q := 151) rfl ?_
        refine zIloadN d_X12_twoOf_151 rfl rfl (q := 152) rfl ?_
        refine zIdiv d_X12_twoOf_152 h133 (q := 153) rfl ?_
        refine zIret d_X12_twoOf_153 rfl rfl rfl ?_
        show zP (.int (if b = 0 then 0 else a / b)) (zU I L fs) _ _
        first
        | exact zPi (by rw [if_pos h133])
        | (have hb : b = -1 := (by simpa using h142); exact zPi (by rw [if_neg h133, hb, zdivm1]))
        | exact zPi (by rw [if_neg h133])
      · refine zIloadN d_X12_twoOf_145 rfl rfl (q := 146) rfl ?_
        refine zIneg d_X12_twoOf_146 (q := 147) rfl ?_
        refine zGoto d_X12_twoOf_147 (q := 153) (by decide) ?_
        refine zIret d_X12_twoOf_153 rfl rfl rfl ?_
        show zP (.int (if b = 0 then 0 else a / b)) (zU I L fs) _ _
        first
        | exact zPi (by rw [if_pos h133])
        | (have hb : b = -1 := (by simpa using h142); exact zPi (by rw [if_neg h133, hb, zdivm1]))
        | exact zPi (by rw [if_neg h133])
    · refine zIconst d_X12_twoOf_136 (v := 0) ic_0 (q := 137) rfl ?_
      refine zGoto d_X12_twoOf_137 (q := 153) (by decide) ?_
      refine zIret d_X12_twoOf_153 rfl rfl rfl ?_
      show zP (.int (if b = 0 then 0 else a / b)) (zU I L fs) _ _
      first
      | exact zPi (by rw [if_pos h133])
      | (have hb : b = -1 := (by simpa using h142); exact zPi (by rw [if_neg h133, hb, zdivm1]))
      | exact zPi (by rw [if_neg h133])
  ·
    refine zSp_of (lv := [(0, .int 60), (1, .int a), (2, .int b)]) k_X12_twoOf rfl (Nat.le_of_ble_eq_true rfl) ?_
    refine zIloadN d_X12_twoOf_0 rfl rfl (q := 1) rfl ?_
    refine zTabAt (v := 60) rfl d_X12_twoOf_1 (by decide) (by decide) (off := 170) (by decide) (q := 171) (by decide) ?_
    refine zIloadN d_X12_twoOf_171 rfl rfl (q := 172) rfl ?_
    refine zIloadN d_X12_twoOf_172 rfl rfl (q := 173) rfl ?_
    refine zIcmp_ge d_X12_twoOf_173 (tgt := 180) (q := 176) (by decide) rfl (fun h173 => ?_) (fun h173 => ?_)
    · refine zIconst d_X12_twoOf_180 (v := 0) ic_0 (q := 181) rfl ?_
      refine zIret d_X12_twoOf_181 rfl rfl rfl ?_
      show zP (.int (bi (a < b))) (zU I L fs) _ _
      unfold bi
      exact zPi (by grind)
    · refine zIconst d_X12_twoOf_176 (v := 1) ic_1 (q := 177) rfl ?_
      refine zGoto d_X12_twoOf_177 (q := 181) (by decide) ?_
      refine zIret d_X12_twoOf_181 rfl rfl rfl ?_
      show zP (.int (bi (a < b))) (zU I L fs) _ _
      unfold bi
      exact zPi (by grind)
  ·
    refine zSp_of (lv := [(0, .int 61), (1, .int a), (2, .int b)]) k_X12_twoOf rfl (Nat.le_of_ble_eq_true rfl) ?_
    refine zIloadN d_X12_twoOf_0 rfl rfl (q := 1) rfl ?_
    refine zTabAt (v := 61) rfl d_X12_twoOf_1 (by decide) (by decide) (off := 181) (by decide) (q := 182) (by decide) ?_
    refine zIloadN d_X12_twoOf_182 rfl rfl (q := 183) rfl ?_
    refine zIloadN d_X12_twoOf_183 rfl rfl (q := 184) rfl ?_
    refine zIcmp_ne d_X12_twoOf_184 (tgt := 191) (q := 187) (by decide) rfl (fun h184 => ?_) (fun h184 => ?_)
    · refine zIconst d_X12_twoOf_191 (v := 0) ic_0 (q := 192) rfl ?_
      refine zIret d_X12_twoOf_192 rfl rfl rfl ?_
      show zP (.int (bi (a = b))) (zU I L fs) _ _
      unfold bi
      exact zPi (by grind)
    · refine zIconst d_X12_twoOf_187 (v := 1) ic_1 (q := 188) rfl ?_
      refine zGoto d_X12_twoOf_188 (q := 192) (by decide) ?_
      refine zIret d_X12_twoOf_192 rfl rfl rfl ?_
      show zP (.int (bi (a = b))) (zU I L fs) _ _
      unfold bi
      exact zPi (by grind)
  ·
    refine zSp_of (lv := [(0, .int 62), (1, .int a), (2, .int b)]) k_X12_twoOf rfl (Nat.le_of_ble_eq_true rfl) ?_
    refine zIloadN d_X12_twoOf_0 rfl rfl (q := 1) rfl ?_
    refine zTabAt (v := 62) rfl d_X12_twoOf_1 (by decide) (by decide) (off := 192) (by decide) (q := 193) (by decide) ?_
    refine zIloadN d_X12_twoOf_193 rfl rfl (q := 194) rfl ?_
    refine zIloadN d_X12_twoOf_194 rfl rfl (q := 195) rfl ?_
    refine zIcmp_le d_X12_twoOf_195 (tgt := 202) (q := 198) (by decide) rfl (fun h195 => ?_) (fun h195 => ?_)
    · refine zIconst d_X12_twoOf_202 (v := 0) ic_0 (q := 203) rfl ?_
      refine zIret d_X12_twoOf_203 rfl rfl rfl ?_
      show zP (.int (bi (b < a))) (zU I L fs) _ _
      unfold bi
      exact zPi (by grind)
    · refine zIconst d_X12_twoOf_198 (v := 1) ic_1 (q := 199) rfl ?_
      refine zGoto d_X12_twoOf_199 (q := 203) (by decide) ?_
      refine zIret d_X12_twoOf_203 rfl rfl rfl ?_
      show zP (.int (bi (b < a))) (zU I L fs) _ _
      unfold bi
      exact zPi (by grind)
  ·
    refine zSp_of (lv := [(0, .int 124), (1, .int a), (2, .int b)]) k_X12_twoOf rfl (Nat.le_of_ble_eq_true rfl) ?_
    refine zIloadN d_X12_twoOf_0 rfl rfl (q := 1) rfl ?_
    refine zTabOut d_X12_twoOf_1 (by decide) (q := 218) (by decide) ?_
    refine zIloadN d_X12_twoOf_218 rfl rfl (q := 219) rfl ?_
    refine zIf_ne d_X12_twoOf_219 (tgt := 226) (q := 222) (by decide) rfl (fun h219 => ?_) (fun h219 => ?_)
    · refine zIconst d_X12_twoOf_226 (v := 1) ic_1 (q := 227) rfl ?_
      refine zGoto d_X12_twoOf_227 (q := 231) (by decide) ?_
      refine zIret d_X12_twoOf_231 rfl rfl rfl ?_
      show zP (.int (bi (¬ a = 0 ∨ ¬ b = 0))) (zU I L fs) _ _
      unfold bi
      exact zPi (by grind)
    · refine zIloadN d_X12_twoOf_222 rfl rfl (q := 223) rfl ?_
      refine zIf_eq d_X12_twoOf_223 (tgt := 230) (q := 226) (by decide) rfl (fun h223 => ?_) (fun h223 => ?_)
      · refine zIconst d_X12_twoOf_230 (v := 0) ic_0 (q := 231) rfl ?_
        refine zIret d_X12_twoOf_231 rfl rfl rfl ?_
        show zP (.int (bi (¬ a = 0 ∨ ¬ b = 0))) (zU I L fs) _ _
        unfold bi
        exact zPi (by grind)
      · refine zIconst d_X12_twoOf_226 (v := 1) ic_1 (q := 227) rfl ?_
        refine zGoto d_X12_twoOf_227 (q := 231) (by decide) ?_
        refine zIret d_X12_twoOf_231 rfl rfl rfl ?_
        show zP (.int (bi (¬ a = 0 ∨ ¬ b = 0))) (zU I L fs) _ _
        unfold bi
        exact zPi (by grind)
theorem zRc_op {t : Int32} (h : t ∈ ([37, 38, 42, 43, 45, 47, 60, 61, 62, 124] : List Int32)) : zRc t = t ∧ ¬ t = 1 ∧ ¬ t = 2 ∧ ¬ t = 3 ∧ ¬ t = 4 := by
  simp only [List.mem_cons, List.not_mem_nil, or_false] at h
  rcases h with rfl | rfl | rfl | rfl | rfl | rfl | rfl | rfl | rfl | rfl <;> decide
theorem zstep59 (hd : 2 ≤ d) {p e f : Nat} {c : zSt1} {st : List Int32} {F : Nat → Int32} (hp : p < e) (he : e ≤ 130) (hS : I 80 p = zRc c.1) (hW : I 81 p = c.2) (hF : zStk F st) (hst : st.length ≤ p)
    (ok : c.1 = 0 ∨ (c.1 = 1 ∧ ∃ k : Nat, k < 6 ∧ c.2 = nI k) ∨ ((c.1 = 4 ∨ c.1 = 5) ∧ 1 ≤ st.length) ∨ (c.1 ∈ ([37, 38, 42, 43, 45, 47, 60, 61, 62, 124] : List Int32) ∧ 2 ≤ st.length))
    (KK : ∀ F', zStk F' (zStp (I 85) c st) → zA g l d m_X12_worked (zup I 86 F') L fs 12 [(5, .int (nI (p + 1))), (4, .int (nI (zStp (I 85) c st).length)), (0, .ref 64), (1, .int 0), (2, .int (nI f)), (3, .int (nI e))] Q) :
    zA g l d m_X12_worked (zup I 86 F) L fs 12 [(5, .int (nI p)), (4, .int (nI st.length)), (0, .ref 64), (1, .int 0), (2, .int (nI f)), (3, .int (nI e))] Q := by
  have e80 : ∀ F, (zup I 86 F) 80 = I 80 := fun F => rfl
  have e81 : ∀ F, (zup I 86 F) 81 = I 81 := fun F => rfl
  have e85 : ∀ F, (zup I 86 F) 85 = I 85 := fun F => rfl
  have ee : (130 : Int32) * 0 + nI e = nI e := by rw [show (130 : Int32) * 0 = 0 from by decide, Int32.zero_add]
  rcases ok with h0 | ⟨h1, k, hk, hk2⟩ | ⟨h45, hl⟩ | ⟨hop, hl⟩
  · have eS := (zlen_stp (env := I 85) (c := c) (s := st)).1 h0
    rw [eS] at KK
    refine zIload d_X12_worked_12 rfl (q := 14) rfl ?_
    refine zSipush d_X12_worked_14 (v := 130) sc_130 (q := 17) rfl ?_
    refine zIloadN d_X12_worked_17 rfl rfl (q := 18) rfl ?_
    refine zImul d_X12_worked_18 (q := 19) rfl ?_
    refine zIloadN d_X12_worked_19 rfl rfl (q := 20) rfl ?_
    refine zIadd d_X12_worked_20 (q := 21) rfl ?_
    rw [ee]
    refine zIcmp_ge d_X12_worked_21 (tgt := 188) (q := 24) (by decide) rfl (fun h => absurd h (nI_ge hp (by omega))) (fun h21 => ?_)
    refine zAloadN d_X12_worked_24 rfl rfl (q := 25) rfl ?_
    refine zGetR d_X12_worked_25 ff_X12_58 sh_64 (by decide) r_64_26 (q := 28) rfl ?_
    refine zIload d_X12_worked_28 rfl (q := 30) rfl ?_
    refine zBald d_X12_worked_30 sh_80 (by decide) rfl (by omega) (q := 31) rfl ?_
    rw [e80, hS, h0, show zRc 0 = 1 from rfl]
    refine zIstore d_X12_worked_31 (by decide) rfl (q := 33) rfl ?_
    refine zIload d_X12_worked_33 rfl (q := 35) rfl ?_
    refine zIconst d_X12_worked_35 (v := 1) ic_1 (q := 36) rfl ?_
    refine zIcmp_eq d_X12_worked_36 (tgt := 45) (q := 39) (by decide) rfl (fun h36 => ?_) (fun h => absurd rfl h)
    refine zAloadN d_X12_worked_45 rfl rfl (q := 46) rfl ?_
    refine zGetR d_X12_worked_46 ff_X12_77 sh_64 (by decide) r_64_32 (q := 49) rfl ?_
    refine zIload d_X12_worked_49 rfl (q := 51) rfl ?_
    refine zIload d_X12_worked_51 rfl (q := 53) rfl ?_
    refine zIconst d_X12_worked_53 (v := 1) ic_1 (q := 54) rfl ?_
    refine zIcmp_ne d_X12_worked_54 (tgt := 67) (q := 57) (by decide) rfl (fun h => absurd h (not_not_intro rfl)) (fun h54 => ?_)
    refine zAloadN d_X12_worked_57 rfl rfl (q := 58) rfl ?_
    refine zGetR d_X12_worked_58 ff_X12_61 sh_64 (by decide) r_64_27 (q := 61) rfl ?_
    refine zIload d_X12_worked_61 rfl (q := 63) rfl ?_
    refine zIald d_X12_worked_63 sh_81 (by decide) rfl (by omega) (q := 64) rfl ?_
    rw [e81, hW]
    refine zGoto d_X12_worked_64 (q := 79) (by decide) ?_
    refine zIast d_X12_worked_79 sh_86 (by decide) rfl (by omega) (q := 80) rfl ?_
    rw [zup_zup, zup_eq]
    refine zIinc d_X12_worked_80 rfl (zinc _) (by decide) rfl (q := 83) rfl ?_
    refine zGoto d_X12_worked_83 (q := 182) (by decide) ?_
    refine zIinc d_X12_worked_182 rfl (zinc _) (by decide) rfl (q := 185) rfl ?_
    refine zGoto d_X12_worked_185 (q := 12) (by decide) ?_
    refine zSub [0, 1, 3, 4, 5, 6] rfl ?_
    exact KK _ ⟨zup_eq, zStk_up hF (Nat.le_refl _)⟩
  · have eS := (zlen_stp (env := I 85) (c := c) (s := st)).2 h1
    rw [eS] at KK
    refine zIload d_X12_worked_12 rfl (q := 14) rfl ?_
    refine zSipush d_X12_worked_14 (v := 130) sc_130 (q := 17) rfl ?_
    refine zIloadN d_X12_worked_17 rfl rfl (q := 18) rfl ?_
    refine zImul d_X12_worked_18 (q := 19) rfl ?_
    refine zIloadN d_X12_worked_19 rfl rfl (q := 20) rfl ?_
    refine zIadd d_X12_worked_20 (q := 21) rfl ?_
    rw [ee]
    refine zIcmp_ge d_X12_worked_21 (tgt := 188) (q := 24) (by decide) rfl (fun h => absurd h (nI_ge hp (by omega))) (fun h21 => ?_)
    refine zAloadN d_X12_worked_24 rfl rfl (q := 25) rfl ?_
    refine zGetR d_X12_worked_25 ff_X12_58 sh_64 (by decide) r_64_26 (q := 28) rfl ?_
    refine zIload d_X12_worked_28 rfl (q := 30) rfl ?_
    refine zBald d_X12_worked_30 sh_80 (by decide) rfl (by omega) (q := 31) rfl ?_
    rw [e80, hS, h1, show zRc 1 = 2 from rfl]
    refine zIstore d_X12_worked_31 (by decide) rfl (q := 33) rfl ?_
    refine zIload d_X12_worked_33 rfl (q := 35) rfl ?_
    refine zIconst d_X12_worked_35 (v := 1) ic_1 (q := 36) rfl ?_
    refine zIcmp_eq d_X12_worked_36 (tgt := 45) (q := 39) (by decide) rfl (fun h => absurd h (by decide)) (fun h36 => ?_)
    refine zIload d_X12_worked_39 rfl (q := 41) rfl ?_
    refine zIconst d_X12_worked_41 (v := 2) ic_2 (q := 42) rfl ?_
    refine zIcmp_ne d_X12_worked_42 (tgt := 86) (q := 45) (by decide) rfl (fun h => absurd h (not_not_intro rfl)) (fun h42 => ?_)
    refine zAloadN d_X12_worked_45 rfl rfl (q := 46) rfl ?_
    refine zGetR d_X12_worked_46 ff_X12_77 sh_64 (by decide) r_64_32 (q := 49) rfl ?_
    refine zIload d_X12_worked_49 rfl (q := 51) rfl ?_
    refine zIload d_X12_worked_51 rfl (q := 53) rfl ?_
    refine zIconst d_X12_worked_53 (v := 1) ic_1 (q := 54) rfl ?_
    refine zIcmp_ne d_X12_worked_54 (tgt := 67) (q := 57) (by decide) rfl (fun h54 => ?_) (fun h => absurd h (by decide))
    refine zAloadN d_X12_worked_67 rfl rfl (q := 68) rfl ?_
    refine zGetR d_X12_worked_68 ff_X12_74 sh_64 (by decide) r_64_31 (q := 71) rfl ?_
    refine zAloadN d_X12_worked_71 rfl rfl (q := 72) rfl ?_
    refine zGetR d_X12_worked_72 ff_X12_61 sh_64 (by decide) r_64_27 (q := 75) rfl ?_
    refine zIload d_X12_worked_75 rfl (q := 77) rfl ?_
    refine zIald d_X12_worked_77 sh_81 (by decide) rfl (by omega) (q := 78) rfl ?_
    rw [e81, hW, hk2]
    refine zIald d_X12_worked_78 sh_85 (by decide) rfl hk (q := 79) rfl ?_
    rw [e85]
    refine zIast d_X12_worked_79 sh_86 (by decide) rfl (by omega) (q := 80) rfl ?_
    rw [zup_zup, zup_eq]
    refine zIinc d_X12_worked_80 rfl (zinc _) (by decide) rfl (q := 83) rfl ?_
    refine zGoto d_X12_worked_83 (q := 182) (by decide) ?_
    refine zIinc d_X12_worked_182 rfl (zinc _) (by decide) rfl (q := 185) rfl ?_
    refine zGoto d_X12_worked_185 (q := 12) (by decide) ?_
    refine zSub [0, 1, 3, 4, 5, 6] rfl ?_
    exact KK _ ⟨by rw [zup_eq, hk2, zcl_n (by omega)], zStk_up hF (Nat.le_refl _)⟩
  · obtain ⟨x, r, rfl⟩ : ∃ x r, st = x :: r := by
      cases st with
      | nil => exact absurd hl (by decide)
      | cons x r => exact ⟨x, r, rfl⟩
    have el : (x :: r).length = r.length + 1 := rfl
    rw [el] at hst hl ⊢
    rcases h45 with h4 | h5
    · rw [zstp4 h4] at KK
      refine zIload d_X12_worked_12 rfl (q := 14) rfl ?_
      refine zSipush d_X12_worked_14 (v := 130) sc_130 (q := 17) rfl ?_
      refine zIloadN d_X12_worked_17 rfl rfl (q := 18) rfl ?_
      refine zImul d_X12_worked_18 (q := 19) rfl ?_
      refine zIloadN d_X12_worked_19 rfl rfl (q := 20) rfl ?_
      refine zIadd d_X12_worked_20 (q := 21) rfl ?_
      rw [ee]
      refine zIcmp_ge d_X12_worked_21 (tgt := 188) (q := 24) (by decide) rfl (fun h => absurd h (nI_ge hp (by omega))) (fun h21 => ?_)
      refine zAloadN d_X12_worked_24 rfl rfl (q := 25) rfl ?_
      refine zGetR d_X12_worked_25 ff_X12_58 sh_64 (by decide) r_64_26 (q := 28) rfl ?_
      refine zIload d_X12_worked_28 rfl (q := 30) rfl ?_
      refine zBald d_X12_worked_30 sh_80 (by decide) rfl (by omega) (q := 31) rfl ?_
      rw [e80, hS, h4, show zRc 4 = 3 from rfl]
      refine zIstore d_X12_worked_31 (by decide) rfl (q := 33) rfl ?_
      refine zIload d_X12_worked_33 rfl (q := 35) rfl ?_
      refine zIconst d_X12_worked_35 (v := 1) ic_1 (q := 36) rfl ?_
      refine zIcmp_eq d_X12_worked_36 (tgt := 45) (q := 39) (by decide) rfl (fun h => absurd h (by decide)) (fun h36 => ?_)
      refine zIload d_X12_worked_39 rfl (q := 41) rfl ?_
      refine zIconst d_X12_worked_41 (v := 2) ic_2 (q := 42) rfl ?_
      refine zIcmp_ne d_X12_worked_42 (tgt := 86) (q := 45) (by decide) rfl (fun h42 => ?_) (fun h => absurd h (by decide))
      refine zIload d_X12_worked_86 rfl (q := 88) rfl ?_
      refine zIconst d_X12_worked_88 (v := 3) ic_3 (q := 89) rfl ?_
      refine zIcmp_ne d_X12_worked_89 (tgt := 121) (q := 92) (by decide) rfl (fun h => absurd h (not_not_intro rfl)) (fun h89 => ?_)
      refine zAloadN d_X12_worked_92 rfl rfl (q := 93) rfl ?_
      refine zGetR d_X12_worked_93 ff_X12_77 sh_64 (by decide) r_64_32 (q := 96) rfl ?_
      refine zIload d_X12_worked_96 rfl (q := 98) rfl ?_
      refine zIconst d_X12_worked_98 (v := 1) ic_1 (q := 99) rfl ?_
      refine zIsub d_X12_worked_99 (q := 100) rfl ?_
      refine zAloadN d_X12_worked_100 rfl rfl (q := 101) rfl ?_
      refine zGetR d_X12_worked_101 ff_X12_77 sh_64 (by decide) r_64_32 (q := 104) rfl ?_
      refine zIload d_X12_worked_104 rfl (q := 106) rfl ?_
      refine zIconst d_X12_worked_106 (v := 1) ic_1 (q := 107) rfl ?_
      refine zIsub d_X12_worked_107 (q := 108) rfl ?_
      refine zIald d_X12_worked_108 sh_86 (by decide) (nI_pred _) (by omega) (q := 109) rfl ?_
      rw [zup_eq, hF.1]
      refine zIf_ne d_X12_worked_109 (tgt := 116) (q := 112) (by decide) rfl (fun h109 => ?_) (fun h109 => ?_)
      · refine zIconst d_X12_worked_116 (v := 0) ic_0 (q := 117) rfl ?_
        refine zIast d_X12_worked_117 sh_86 (by decide) (nI_pred _) (by omega) (q := 118) rfl ?_
        rw [zup_zup, zup_eq]
        refine zGoto d_X12_worked_118 (q := 182) (by decide) ?_
        refine zIinc d_X12_worked_182 rfl (zinc _) (by decide) rfl (q := 185) rfl ?_
        refine zGoto d_X12_worked_185 (q := 12) (by decide) ?_
        refine zSub [0, 2, 3, 4, 5, 6] rfl ?_
        first
        | exact KK _ ⟨by rw [zup_eq, if_pos h109], zStk_up hF.2 (Nat.le_refl _)⟩
        | exact KK _ ⟨by rw [zup_eq, if_neg h109], zStk_up hF.2 (Nat.le_refl _)⟩
      · refine zIconst d_X12_worked_112 (v := 1) ic_1 (q := 113) rfl ?_
        refine zGoto d_X12_worked_113 (q := 117) (by decide) ?_
        refine zIast d_X12_worked_117 sh_86 (by decide) (nI_pred _) (by omega) (q := 118) rfl ?_
        rw [zup_zup, zup_eq]
        refine zGoto d_X12_worked_118 (q := 182) (by decide) ?_
        refine zIinc d_X12_worked_182 rfl (zinc _) (by decide) rfl (q := 185) rfl ?_
        refine zGoto d_X12_worked_185 (q := 12) (by decide) ?_
        refine zSub [0, 2, 3, 4, 5, 6] rfl ?_
        first
        | exact KK _ ⟨by rw [zup_eq, if_pos h109], zStk_up hF.2 (Nat.le_refl _)⟩
        | exact KK _ ⟨by rw [zup_eq, if_neg h109], zStk_up hF.2 (Nat.le_refl _)⟩
    · rw [zstp5 h5] at KK
      refine zIload d_X12_worked_12 rfl (q := 14) rfl ?_
      refine zSipush d_X12_worked_14 (v := 130) sc_130 (q := 17) rfl ?_
      refine zIloadN d_X12_worked_17 rfl rfl (q := 18) rfl ?_
      refine zImul d_X12_worked_18 (q := 19) rfl ?_
      refine zIloadN d_X12_worked_19 rfl rfl (q := 20) rfl ?_
      refine zIadd d_X12_worked_20 (q := 21) rfl ?_
      rw [ee]
      refine zIcmp_ge d_X12_worked_21 (tgt := 188) (q := 24) (by decide) rfl (fun h => absurd h (nI_ge hp (by omega))) (fun h21 => ?_)
      refine zAloadN d_X12_worked_24 rfl rfl (q := 25) rfl ?_
      refine zGetR d_X12_worked_25 ff_X12_58 sh_64 (by decide) r_64_26 (q := 28) rfl ?_
      refine zIload d_X12_worked_28 rfl (q := 30) rfl ?_
      refine zBald d_X12_worked_30 sh_80 (by decide) rfl (by omega) (q := 31) rfl ?_
      rw [e80, hS, h5, show zRc 5 = 4 from rfl]
      refine zIstore d_X12_worked_31 (by decide) rfl (q := 33) rfl ?_
      refine zIload d_X12_worked_33 rfl (q := 35) rfl ?_
      refine zIconst d_X12_worked_35 (v := 1) ic_1 (q := 36) rfl ?_
      refine zIcmp_eq d_X12_worked_36 (tgt := 45) (q := 39) (by decide) rfl (fun h => absurd h (by decide)) (fun h36 => ?_)
      refine zIload d_X12_worked_39 rfl (q := 41) rfl ?_
      refine zIconst d_X12_worked_41 (v := 2) ic_2 (q := 42) rfl ?_
      refine zIcmp_ne d_X12_worked_42 (tgt := 86) (q := 45) (by decide) rfl (fun h42 => ?_) (fun h => absurd h (by decide))
      refine zIload d_X12_worked_86 rfl (q := 88) rfl ?_
      refine zIconst d_X12_worked_88 (v := 3) ic_3 (q := 89) rfl ?_
      refine zIcmp_ne d_X12_worked_89 (tgt := 121) (q := 92) (by decide) rfl (fun h89 => ?_) (fun h => absurd h (by decide))
      refine zIload d_X12_worked_121 rfl (q := 123) rfl ?_
      refine zIconst d_X12_worked_123 (v := 4) ic_4 (q := 124) rfl ?_
      refine zIcmp_ne d_X12_worked_124 (tgt := 149) (q := 127) (by decide) rfl (fun h => absurd h (not_not_intro rfl)) (fun h124 => ?_)
      refine zAloadN d_X12_worked_127 rfl rfl (q := 128) rfl ?_
      refine zGetR d_X12_worked_128 ff_X12_77 sh_64 (by decide) r_64_32 (q := 131) rfl ?_
      refine zIload d_X12_worked_131 rfl (q := 133) rfl ?_
      refine zIconst d_X12_worked_133 (v := 1) ic_1 (q := 134) rfl ?_
      refine zIsub d_X12_worked_134 (q := 135) rfl ?_
      refine zAloadN d_X12_worked_135 rfl rfl (q := 136) rfl ?_
      refine zGetR d_X12_worked_136 ff_X12_77 sh_64 (by decide) r_64_32 (q := 139) rfl ?_
      refine zIload d_X12_worked_139 rfl (q := 141) rfl ?_
      refine zIconst d_X12_worked_141 (v := 1) ic_1 (q := 142) rfl ?_
      refine zIsub d_X12_worked_142 (q := 143) rfl ?_
      refine zIald d_X12_worked_143 sh_86 (by decide) (nI_pred _) (by omega) (q := 144) rfl ?_
      rw [zup_eq, hF.1]
      refine zIneg d_X12_worked_144 (q := 145) rfl ?_
      refine zIast d_X12_worked_145 sh_86 (by decide) (nI_pred _) (by omega) (q := 146) rfl ?_
      rw [zup_zup, zup_eq]
      refine zGoto d_X12_worked_146 (q := 182) (by decide) ?_
      refine zIinc d_X12_worked_182 rfl (zinc _) (by decide) rfl (q := 185) rfl ?_
      refine zGoto d_X12_worked_185 (q := 12) (by decide) ?_
      refine zSub [0, 2, 3, 4, 5, 6] rfl ?_
      exact KK _ ⟨zup_eq, zStk_up hF.2 (Nat.le_refl _)⟩
  · obtain ⟨y, x, r, rfl⟩ : ∃ y x r, st = y :: x :: r := by
      match st, hl with
      | y :: x :: r, _ => exact ⟨y, x, r, rfl⟩
    rw [zstpJ (zops hop)] at KK
    obtain ⟨hr0, hr1, hr2, hr3, hr4⟩ := zRc_op hop
    have el : (y :: x :: r).length = r.length + 1 + 1 := rfl
    rw [el] at hst hl ⊢
    refine zIload d_X12_worked_12 rfl (q := 14) rfl ?_
    refine zSipush d_X12_worked_14 (v := 130) sc_130 (q := 17) rfl ?_
    refine zIloadN d_X12_worked_17 rfl rfl (q := 18) rfl ?_
    refine zImul d_X12_worked_18 (q := 19) rfl ?_
    refine zIloadN d_X12_worked_19 rfl rfl (q := 20) rfl ?_
    refine zIadd d_X12_worked_20 (q := 21) rfl ?_
    rw [ee]
    refine zIcmp_ge d_X12_worked_21 (tgt := 188) (q := 24) (by decide) rfl (fun h => absurd h (nI_ge hp (by omega))) (fun h21 => ?_)
    refine zAloadN d_X12_worked_24 rfl rfl (q := 25) rfl ?_
    refine zGetR d_X12_worked_25 ff_X12_58 sh_64 (by decide) r_64_26 (q := 28) rfl ?_
    refine zIload d_X12_worked_28 rfl (q := 30) rfl ?_
    refine zBald d_X12_worked_30 sh_80 (by decide) rfl (by omega) (q := 31) rfl ?_
    rw [e80, hS, hr0]
    refine zIstore d_X12_worked_31 (by decide) rfl (q := 33) rfl ?_
    refine zIload d_X12_worked_33 rfl (q := 35) rfl ?_
    refine zIconst d_X12_worked_35 (v := 1) ic_1 (q := 36) rfl ?_
    refine zIcmp_eq d_X12_worked_36 (tgt := 45) (q := 39) (by decide) rfl (fun h => absurd h hr1) (fun h36 => ?_)
    refine zIload d_X12_worked_39 rfl (q := 41) rfl ?_
    refine zIconst d_X12_worked_41 (v := 2) ic_2 (q := 42) rfl ?_
    refine zIcmp_ne d_X12_worked_42 (tgt := 86) (q := 45) (by decide) rfl (fun h42 => ?_) (fun h => absurd h hr2)
    refine zIload d_X12_worked_86 rfl (q := 88) rfl ?_
    refine zIconst d_X12_worked_88 (v := 3) ic_3 (q := 89) rfl ?_
    refine zIcmp_ne d_X12_worked_89 (tgt := 121) (q := 92) (by decide) rfl (fun h89 => ?_) (fun h => absurd h hr3)
    refine zIload d_X12_worked_121 rfl (q := 123) rfl ?_
    refine zIconst d_X12_worked_123 (v := 4) ic_4 (q := 124) rfl ?_
    refine zIcmp_ne d_X12_worked_124 (tgt := 149) (q := 127) (by decide) rfl (fun h124 => ?_) (fun h => absurd h hr4)
    refine zIinc d_X12_worked_149 rfl (pk_m1 _) (by decide) rfl (q := 152) rfl ?_
    refine zAloadN d_X12_worked_152 rfl rfl (q := 153) rfl ?_
    refine zGetR d_X12_worked_153 ff_X12_77 sh_64 (by decide) r_64_32 (q := 156) rfl ?_
    refine zIload d_X12_worked_156 rfl (q := 158) rfl ?_
    refine zIconst d_X12_worked_158 (v := 1) ic_1 (q := 159) rfl ?_
    refine zIsub d_X12_worked_159 (q := 160) rfl ?_
    refine zIload d_X12_worked_160 rfl (q := 162) rfl ?_
    refine zAloadN d_X12_worked_162 rfl rfl (q := 163) rfl ?_
    refine zGetR d_X12_worked_163 ff_X12_77 sh_64 (by decide) r_64_32 (q := 166) rfl ?_
    refine zIload d_X12_worked_166 rfl (q := 168) rfl ?_
    refine zIconst d_X12_worked_168 (v := 1) ic_1 (q := 169) rfl ?_
    refine zIsub d_X12_worked_169 (q := 170) rfl ?_
    refine zIald d_X12_worked_170 sh_86 (by decide) (nI_pred _) (by omega) (q := 171) rfl ?_
    refine zAloadN d_X12_worked_171 rfl rfl (q := 172) rfl ?_
    refine zGetR d_X12_worked_172 ff_X12_77 sh_64 (by decide) r_64_32 (q := 175) rfl ?_
    refine zIload d_X12_worked_175 rfl (q := 177) rfl ?_
    refine zIald d_X12_worked_177 sh_86 (by decide) rfl (by omega) (q := 178) rfl ?_
    rw [zup_eq, show F (r.length + 1) = y from hF.1, show F r.length = x from hF.2.1]
    refine zCallSP d_X12_worked_178 ml_X12_245 k_X12_twoOf kt_X12_twoOf (sp_X12_twoOf (d := d - 1) (by omega) hop) rfl rfl (Nat.le_of_ble_eq_true rfl) (by decide) (by omega) zns100 (q := 181) rfl ?_
    refine zIast d_X12_worked_181 sh_86 (by decide) (nI_pred _) (by omega) (q := 182) rfl ?_
    rw [zup_zup, zup_eq]
    refine zIinc d_X12_worked_182 rfl (zinc _) (by decide) rfl (q := 185) rfl ?_
    refine zGoto d_X12_worked_185 (q := 12) (by decide) ?_
    refine zSub [0, 1, 3, 4, 5, 6] rfl ?_
    exact KK _ ⟨zup_eq, zStk_up hF.2.2 (Nat.le_refl _)⟩
theorem zLr_app {S W : Nat → Int32} {p : Nat} {a b : List zSt1} (h : zLr S W p (a ++ b)) : zLr S W p a ∧ zLr S W (p + a.length) b := by
  refine ⟨fun i x hx => h i x ?_, fun i x hx => ?_⟩
  · have hi : i < a.length := (List.getElem?_eq_some_iff.mp hx).1
    rw [List.getElem?_append_left hi]; exact hx
  · have := h (a.length + i) x (by rw [List.getElem?_append_right (Nat.le_add_right _ _), Nat.add_sub_cancel_left]; exact hx)
    rw [Nat.add_assoc]; exact this
theorem zLr_cons {S W : Nat → Int32} {p : Nat} {a : zSt1} {b : List zSt1} (h : zLr S W p (a :: b)) : (S p = zRc a.1 ∧ W p = a.2) ∧ zLr S W (p + 1) b := by
  refine ⟨h 0 a rfl, fun i x hx => ?_⟩
  have := h (i + 1) x hx
  rw [show p + 1 + i = p + (i + 1) by omega]; exact this
theorem zrun59 (hd : 2 ≤ d) {e f : Nat} (he : e ≤ 130) : ∀ (c : List zSt1) (p : Nat) (st : List Int32) (F : Nat → Int32) (b : Nat), zLr (I 80) (I 81) p c → p + c.length = e → zWfS c st.length b → zStk F st → st.length ≤ p →
    (∀ F', zStk F' (zRunS (I 85) c st) → (zRunS (I 85) c st).length = b → zA g l d m_X12_worked (zup I 86 F') L fs 12 [(5, .int (nI e)), (4, .int (nI b)), (0, .ref 64), (1, .int 0), (2, .int (nI f)), (3, .int (nI e))] Q) →
    zA g l d m_X12_worked (zup I 86 F) L fs 12 [(5, .int (nI p)), (4, .int (nI st.length)), (0, .ref 64), (1, .int 0), (2, .int (nI f)), (3, .int (nI e))] Q := by
  intro c
  induction c with
  | nil =>
    intro p st F b _ hp hwf hF _ KK
    have e1 : st.length = b := hwf
    have e2 : p = e := hp
    rw [e1, e2]
    exact KK F hF e1
  | cons a c ih =>
    intro p st F b hly hp hwf hF hst KK
    obtain ⟨⟨hS, hW⟩, hly2⟩ := zLr_cons hly
    have hl : (a :: c).length = c.length + 1 := rfl
    rw [hl] at hp
    have hcase : (a.1 = 0 ∨ (a.1 = 1 ∧ ∃ k : Nat, k < 6 ∧ a.2 = nI k) ∨ ((a.1 = 4 ∨ a.1 = 5) ∧ 1 ≤ st.length) ∨ (a.1 ∈ ([37, 38, 42, 43, 45, 47, 60, 61, 62, 124] : List Int32) ∧ 2 ≤ st.length)) ∧ zWfS c (zStp (I 85) a st).length b ∧ (zStp (I 85) a st).length ≤ p + 1 := by
      rcases hwf with ⟨h0, h2⟩ | ⟨h1, hk, h2⟩ | ⟨h45, h1, h2⟩ | ⟨hop, h1, h2⟩
      · rw [zlen_stp.1 h0]
        exact ⟨Or.inl h0, h2, Nat.succ_le_succ hst⟩
      · rw [zlen_stp.2 h1]
        exact ⟨Or.inr (Or.inl ⟨h1, hk⟩), h2, Nat.succ_le_succ hst⟩
      · refine ⟨Or.inr (Or.inr (Or.inl ⟨h45, h1⟩)), ?_⟩
        match st, h1 with
        | x :: r, _ =>
          rcases h45 with h4 | h5
          · rw [zstp4 h4]; exact ⟨h2, Nat.le_succ_of_le hst⟩
          · rw [zstp5 h5]; exact ⟨h2, Nat.le_succ_of_le hst⟩
      · refine ⟨Or.inr (Or.inr (Or.inr ⟨hop, h1⟩)), ?_⟩
        match st, h1 with
        | y :: x :: r, _ =>
          rw [zstpJ (zops hop)]
          refine ⟨h2, ?_⟩
          have e1 : (y :: x :: r).length = r.length + 1 + 1 := rfl
          have e2 : (zJn a.1 x y :: r).length = r.length + 1 := rfl
          omega
    refine zstep59 hd (by omega) he hS hW hF hst hcase.1 (fun F' hF' => ?_)
    exact ih (p + 1) _ F' b hly2 (by omega) hcase.2.1 hF' hcase.2.2 (fun F2 h1 h2 => KK F2 h1 h2)
theorem sp_X12_worked (hd : 2 ≤ d) {f : Nat} {c : List zSt1} (he : f + c.length ≤ 130) (hly : zLr (I 80) (I 81) f c) (hwf : zWfS c 0 1) : zSp g l d 100 m_X12_worked [.ref 64, .int 0, .int (nI f), .int (nI (f + c.length))] (zU I L fs) (zX (fun x w => x = zHd (zRunS (I 85) c []) ∧ ∃ F, w = zU (zup I 86 F) L fs)) := by
  have ee : ∀ e, (130 : Int32) * 0 + nI e = nI e := fun e => by rw [show (130 : Int32) * 0 = 0 from by decide, Int32.zero_add]
  have fin : ∀ F', zStk F' (zRunS (I 85) c []) → (zRunS (I 85) c []).length = 1 → zA g l d m_X12_worked (zup I 86 F') L fs 12 [(5, .int (nI (f + c.length))), (4, .int (nI 1)), (0, .ref 64), (1, .int 0), (2, .int (nI f)), (3, .int (nI (f + c.length)))] (zX (fun x w => x = zHd (zRunS (I 85) c []) ∧ ∃ F, w = zU (zup I 86 F) L fs)) := by
    intro F' hF' hl
    rw [zlen1 hl] at hF'
    refine zIload d_X12_worked_12 rfl (q := 14) rfl ?_
    refine zSipush d_X12_worked_14 (v := 130) sc_130 (q := 17) rfl ?_
    refine zIloadN d_X12_worked_17 rfl rfl (q := 18) rfl ?_
    refine zImul d_X12_worked_18 (q := 19) rfl ?_
    refine zIloadN d_X12_worked_19 rfl rfl (q := 20) rfl ?_
    refine zIadd d_X12_worked_20 (q := 21) rfl ?_
    rw [ee]
    refine zIcmp_ge d_X12_worked_21 (tgt := 188) (q := 24) (by decide) rfl (fun h21 => ?_) (fun h => absurd (Int32.le_refl _) h)
    refine zAloadN d_X12_worked_188 rfl rfl (q := 189) rfl ?_
    refine zGetR d_X12_worked_189 ff_X12_77 sh_64 (by decide) r_64_32 (q := 192) rfl ?_
    refine zIconst d_X12_worked_192 (v := 0) ic_0 (q := 193) rfl ?_
    refine zIald d_X12_worked_193 sh_86 (by decide) (j := 0) rfl (by decide) (q := 194) rfl ?_
    refine zIret d_X12_worked_194 rfl rfl rfl ?_
    exact ⟨_, rfl, by rw [zup_eq]; exact hF'.1, F', rfl⟩
  have h0 := zrun59 (g := g) (l := l) (L := L) (fs := fs) (f := f) (e := f + c.length) (Q := zX (fun x w => x = zHd (zRunS (I 85) c []) ∧ ∃ F, w = zU (zup I 86 F) L fs)) hd he c f [] (I 86) 1 hly rfl hwf trivial (Nat.zero_le _) fin
  rw [zup_self] at h0
  refine zSp_of (lv := [(0, .ref 64), (1, .int 0), (2, .int (nI f)), (3, .int (nI (f + c.length)))]) k_X12_worked rfl (Nat.le_of_ble_eq_true rfl) ?_
  refine zIconst d_X12_worked_0 (v := 0) ic_0 (q := 1) rfl ?_
  refine zIstore d_X12_worked_1 (by decide) rfl (q := 3) rfl ?_
  refine zSipush d_X12_worked_3 (v := 130) sc_130 (q := 6) rfl ?_
  refine zIloadN d_X12_worked_6 rfl rfl (q := 7) rfl ?_
  refine zImul d_X12_worked_7 (q := 8) rfl ?_
  refine zIloadN d_X12_worked_8 rfl rfl (q := 9) rfl ?_
  refine zIadd d_X12_worked_9 (q := 10) rfl ?_
  rw [ee]
  refine zIstore d_X12_worked_10 (by decide) rfl (q := 12) rfl ?_
  refine zSub [0, 1, 2, 3, 4, 5] rfl ?_
  exact h0
theorem zLs_cons {A W T E : Nat → Int32} {b q f : Nat} {x : zLine} {ls : List zLine} (h : zLs A W T E b q f (x :: ls)) : (T q = nI (f + (zTc x).length) ∧ E q = nI (f + ((zTc x).length + x.2.length))) ∧ zLr A W (b + f) (zTc x ++ x.2) ∧ zLs A W T E b (q + 1) (f + ((zTc x).length + x.2.length)) ls := h
theorem zTot_cons {x : zLine} {ls : List zLine} : zTot (x :: ls) = (zTc x).length + x.2.length + zTot ls := rfl
theorem sp_X12_gives (hd : 3 ≤ d) {ls : List zLine} (h82 : I 82 0 = nI ls.length) (h61 : ls.length ≤ 61) (htot : zTot ls ≤ 130) (hls : zLs (I 80) (I 81) (I 83) (I 84) 0 0 0 ls) (hwf : ∀ x ∈ ls, zWfL x) : zSp g l d 100 m_X12_gives [.ref 64, .int 0] (zU I L fs) (zX (fun x w => x = zEvL (I 85) ls ∧ ∃ F, w = zU (zup I 86 F) L fs)) := by
  have e61 : (61 : Int32) * 0 = 0 := by decide
  obtain ⟨n, en⟩ : ∃ n, n = ls.length := ⟨_, rfl⟩
  rw [← en] at h82 h61
  have eN : (61 : Int32) * 0 + nI n = nI n := by rw [e61, Int32.zero_add]
  have loop : ∀ (r : List zLine) (q f : Nat) (F : Nat → Int32), q + r.length = n → f + zTot r ≤ 130 → zLs (I 80) (I 81) (I 83) (I 84) 0 q f r → (∀ x ∈ r, zWfL x) → zA g l d m_X12_gives (zup I 86 F) L fs 7 [(3, .int (nI q)), (2, .int (nI f)), (0, .ref 64), (1, .int 0)] (zX (fun x w => x = zEvL (I 85) r ∧ ∃ F, w = zU (zup I 86 F) L fs)) := by
    intro r
    induction r with
    | nil =>
      intro q f F hq _ _ _
      have hq : q = n := hq
      refine zIloadN d_X12_gives_7 rfl rfl (q := 8) rfl ?_
      refine zBipush d_X12_gives_8 (v := 61) bc_61 (q := 10) rfl ?_
      refine zIloadN d_X12_gives_10 rfl rfl (q := 11) rfl ?_
      refine zImul d_X12_gives_11 (q := 12) rfl ?_
      refine zAloadN d_X12_gives_12 rfl rfl (q := 13) rfl ?_
      refine zGetR d_X12_gives_13 ff_X12_64 sh_64 (by decide) r_64_28 (q := 16) rfl ?_
      refine zIloadN d_X12_gives_16 rfl rfl (q := 17) rfl ?_
      refine zIald d_X12_gives_17 sh_82 (by decide) (j := 0) rfl (by decide) (q := 18) rfl ?_
      rw [show (zup I 86 F) 82 0 = nI n from h82]
      refine zIadd d_X12_gives_18 (q := 19) rfl ?_
      rw [eN]
      refine zIcmp_ge d_X12_gives_19 (tgt := 78) (q := 22) (by decide) rfl (fun h19 => ?_) (fun h => absurd (by rw [hq]; exact Int32.le_refl _) h)
      refine zIconst d_X12_gives_78 (v := 0) ic_0 (q := 79) rfl ?_
      refine zIret d_X12_gives_79 rfl rfl rfl ?_
      exact ⟨_, rfl, rfl, F, rfl⟩
    | cons x r ih =>
      intro q f F hq htot hls hwf
      obtain ⟨⟨h83, h84⟩, hlr, hrest⟩ := zLs_cons hls
      have hq : q + (r.length + 1) = n := hq
      rw [zTot_cons] at htot
      rw [Nat.zero_add] at hlr
      obtain ⟨hl1, hl2⟩ := zLr_app hlr
      obtain ⟨wx, wt⟩ := hwf x List.mem_cons_self
      have lt : nI q < nI n := nI_lt (by omega) (by omega)
      have hnle : ¬ nI n ≤ nI q := Int32.not_le.mpr lt
      have g83 : ∀ F, (zup I 86 F) 83 q = nI (f + (zTc x).length) := fun F => h83
      have g84 : ∀ F, (zup I 86 F) 84 q = nI (f + ((zTc x).length + x.2.length)) := fun F => h84
      have g82 : ∀ F, (zup I 86 F) 82 0 = nI n := fun F => h82
      have val : ∀ F, zSp g l (d - 1) 100 m_X12_worked [.ref 64, .int 0, .int (nI (f + (zTc x).length)), .int (nI (f + ((zTc x).length + x.2.length)))] (zU (zup I 86 F) L fs) (zX (fun y w => y = zHd (zRunS (I 85) x.2 []) ∧ ∃ F2, w = zU (zup (zup I 86 F) 86 F2) L fs)) := by
        intro F
        have h := sp_X12_worked (g := g) (l := l) (L := L) (fs := fs) (d := d - 1) (I := zup I 86 F) (by omega) (f := f + (zTc x).length) (c := x.2) (by omega) hl2 wx
        rw [Nat.add_assoc] at h
        exact h
      obtain ⟨t, v⟩ := x
      cases t with
      | none =>
        have ev : zEvL (I 85) ((none, v) :: r) = zHd (zRunS (I 85) v []) := rfl
        rw [ev]
        refine zIloadN d_X12_gives_7 rfl rfl (q := 8) rfl ?_
        refine zBipush d_X12_gives_8 (v := 61) bc_61 (q := 10) rfl ?_
        refine zIloadN d_X12_gives_10 rfl rfl (q := 11) rfl ?_
        refine zImul d_X12_gives_11 (q := 12) rfl ?_
        refine zAloadN d_X12_gives_12 rfl rfl (q := 13) rfl ?_
        refine zGetR d_X12_gives_13 ff_X12_64 sh_64 (by decide) r_64_28 (q := 16) rfl ?_
        refine zIloadN d_X12_gives_16 rfl rfl (q := 17) rfl ?_
        refine zIald d_X12_gives_17 sh_82 (by decide) (j := 0) rfl (by decide) (q := 18) rfl ?_
        rw [g82]
        refine zIadd d_X12_gives_18 (q := 19) rfl ?_
        rw [eN]
        refine zIcmp_ge d_X12_gives_19 (tgt := 78) (q := 22) (by decide) rfl (fun h => absurd h hnle) (fun h19 => ?_)
        refine zAloadN d_X12_gives_22 rfl rfl (q := 23) rfl ?_
        refine zGetR d_X12_gives_23 ff_X12_67 sh_64 (by decide) r_64_29 (q := 26) rfl ?_
        refine zIloadN d_X12_gives_26 rfl rfl (q := 27) rfl ?_
        refine zSald d_X12_gives_27 sh_83 (by decide) rfl (by omega) (q := 28) rfl ?_
        rw [g83]
        refine zIloadN d_X12_gives_28 rfl rfl (q := 29) rfl ?_
        refine zIcmp_eq d_X12_gives_29 (tgt := 47) (q := 32) (by decide) rfl (fun h29 => ?_) (fun h => absurd rfl h)
        refine zAloadN d_X12_gives_47 rfl rfl (q := 48) rfl ?_
        refine zIloadN d_X12_gives_48 rfl rfl (q := 49) rfl ?_
        refine zAloadN d_X12_gives_49 rfl rfl (q := 50) rfl ?_
        refine zGetR d_X12_gives_50 ff_X12_67 sh_64 (by decide) r_64_29 (q := 53) rfl ?_
        refine zIloadN d_X12_gives_53 rfl rfl (q := 54) rfl ?_
        refine zSald d_X12_gives_54 sh_83 (by decide) rfl (by omega) (q := 55) rfl ?_
        rw [g83]
        refine zAloadN d_X12_gives_55 rfl rfl (q := 56) rfl ?_
        refine zGetR d_X12_gives_56 ff_X12_71 sh_64 (by decide) r_64_30 (q := 59) rfl ?_
        refine zIloadN d_X12_gives_59 rfl rfl (q := 60) rfl ?_
        refine zSald d_X12_gives_60 sh_84 (by decide) rfl (by omega) (q := 61) rfl ?_
        rw [g84]
        refine zCallVX d_X12_gives_61 ml_X12_248 k_X12_worked ki_X12_worked ks_X12_worked (val F) rfl rfl sh_64 (by decide) rfl (by decide) (Nat.le_of_ble_eq_true rfl) (by decide) (by omega) zns100 (q := 64) rfl (fun y w' hw' => ?_)
        obtain ⟨rfl, F2, rfl⟩ := hw'
        rw [zup_zup]
        refine zIret d_X12_gives_64 rfl rfl rfl ?_
        exact ⟨_, rfl, rfl, F2, rfl⟩
      | some t =>
        have wt2 := wt t rfl
        have tlen : 0 < t.length := by
          cases t with
          | nil => exact absurd (show (0 : Nat) = 1 from wt2) (by decide)
          | cons a t => exact Nat.succ_pos _
        have ev : zEvL (I 85) ((some t, v) :: r) = if zHd (zRunS (I 85) t []) = 0 then zEvL (I 85) r else zHd (zRunS (I 85) v []) := rfl
        rw [ev]
        have etc : (zTc (some t, v)).length = t.length := rfl
        have tst := sp_X12_worked (g := g) (l := l) (L := L) (fs := fs) (d := d - 1) (I := zup I 86 F) (by omega) (f := f) (c := t) (by rw [etc] at htot; omega) hl1 wt2
        refine zIloadN d_X12_gives_7 rfl rfl (q := 8) rfl ?_
        refine zBipush d_X12_gives_8 (v := 61) bc_61 (q := 10) rfl ?_
        refine zIloadN d_X12_gives_10 rfl rfl (q := 11) rfl ?_
        refine zImul d_X12_gives_11 (q := 12) rfl ?_
        refine zAloadN d_X12_gives_12 rfl rfl (q := 13) rfl ?_
        refine zGetR d_X12_gives_13 ff_X12_64 sh_64 (by decide) r_64_28 (q := 16) rfl ?_
        refine zIloadN d_X12_gives_16 rfl rfl (q := 17) rfl ?_
        refine zIald d_X12_gives_17 sh_82 (by decide) (j := 0) rfl (by decide) (q := 18) rfl ?_
        rw [g82]
        refine zIadd d_X12_gives_18 (q := 19) rfl ?_
        rw [eN]
        refine zIcmp_ge d_X12_gives_19 (tgt := 78) (q := 22) (by decide) rfl (fun h => absurd h hnle) (fun h19 => ?_)
        refine zAloadN d_X12_gives_22 rfl rfl (q := 23) rfl ?_
        refine zGetR d_X12_gives_23 ff_X12_67 sh_64 (by decide) r_64_29 (q := 26) rfl ?_
        refine zIloadN d_X12_gives_26 rfl rfl (q := 27) rfl ?_
        refine zSald d_X12_gives_27 sh_83 (by decide) rfl (by omega) (q := 28) rfl ?_
        rw [g83]
        refine zIloadN d_X12_gives_28 rfl rfl (q := 29) rfl ?_
        refine zIcmp_eq d_X12_gives_29 (tgt := 47) (q := 32) (by decide) rfl (fun h => absurd h (by rw [etc, nI_eq (by rw [etc] at htot; omega) (by omega)]; omega)) (fun h29 => ?_)
        refine zAloadN d_X12_gives_32 rfl rfl (q := 33) rfl ?_
        refine zIloadN d_X12_gives_33 rfl rfl (q := 34) rfl ?_
        refine zIloadN d_X12_gives_34 rfl rfl (q := 35) rfl ?_
        refine zAloadN d_X12_gives_35 rfl rfl (q := 36) rfl ?_
        refine zGetR d_X12_gives_36 ff_X12_67 sh_64 (by decide) r_64_29 (q := 39) rfl ?_
        refine zIloadN d_X12_gives_39 rfl rfl (q := 40) rfl ?_
        refine zSald d_X12_gives_40 sh_83 (by decide) rfl (by omega) (q := 41) rfl ?_
        rw [g83]
        refine zCallVX d_X12_gives_41 ml_X12_248 k_X12_worked ki_X12_worked ks_X12_worked tst rfl rfl sh_64 (by decide) rfl (by decide) (Nat.le_of_ble_eq_true rfl) (by decide) (by omega) zns100 (q := 44) rfl (fun y w' hw' => ?_)
        obtain ⟨rfl, F1, rfl⟩ := hw'
        rw [zup_zup]
        refine zIf_eq d_X12_gives_44 (tgt := 65) (q := 47) (by decide) rfl (fun h44 => ?_) (fun h44 => ?_)
        · rw [if_pos (show zHd (zRunS (I 85) t []) = 0 from h44)]
          refine zAloadN d_X12_gives_65 rfl rfl (q := 66) rfl ?_
          refine zGetR d_X12_gives_66 ff_X12_71 sh_64 (by decide) r_64_30 (q := 69) rfl ?_
          refine zIloadN d_X12_gives_69 rfl rfl (q := 70) rfl ?_
          refine zSald d_X12_gives_70 sh_84 (by decide) rfl (by omega) (q := 71) rfl ?_
          rw [g84]
          refine zIstoreN d_X12_gives_71 rfl (by decide) rfl (q := 72) rfl ?_
          refine zIinc d_X12_gives_72 rfl (zinc _) (by decide) rfl (q := 75) rfl ?_
          refine zGoto d_X12_gives_75 (q := 7) (by decide) ?_
          refine zSub [0, 1, 2, 3] rfl ?_
          exact ih (q + 1) _ F1 (by omega) (by omega) hrest (fun x hx => hwf x (List.mem_cons_of_mem _ hx))
        · rw [if_neg (show ¬ zHd (zRunS (I 85) t []) = 0 from h44)]
          refine zAloadN d_X12_gives_47 rfl rfl (q := 48) rfl ?_
          refine zIloadN d_X12_gives_48 rfl rfl (q := 49) rfl ?_
          refine zAloadN d_X12_gives_49 rfl rfl (q := 50) rfl ?_
          refine zGetR d_X12_gives_50 ff_X12_67 sh_64 (by decide) r_64_29 (q := 53) rfl ?_
          refine zIloadN d_X12_gives_53 rfl rfl (q := 54) rfl ?_
          refine zSald d_X12_gives_54 sh_83 (by decide) rfl (by omega) (q := 55) rfl ?_
          rw [g83]
          refine zAloadN d_X12_gives_55 rfl rfl (q := 56) rfl ?_
          refine zGetR d_X12_gives_56 ff_X12_71 sh_64 (by decide) r_64_30 (q := 59) rfl ?_
          refine zIloadN d_X12_gives_59 rfl rfl (q := 60) rfl ?_
          refine zSald d_X12_gives_60 sh_84 (by decide) rfl (by omega) (q := 61) rfl ?_
          rw [g84]
          refine zCallVX d_X12_gives_61 ml_X12_248 k_X12_worked ki_X12_worked ks_X12_worked (val F1) rfl rfl sh_64 (by decide) rfl (by decide) (Nat.le_of_ble_eq_true rfl) (by decide) (by omega) zns100 (q := 64) rfl (fun y w' hw' => ?_)
          obtain ⟨rfl, F2, rfl⟩ := hw'
          rw [zup_zup]
          refine zIret d_X12_gives_64 rfl rfl rfl ?_
          exact ⟨_, rfl, rfl, F2, rfl⟩
  have h0 := loop ls 0 0 (I 86) (by omega) (by omega) hls hwf
  rw [zup_self] at h0
  refine zSp_of (lv := [(0, .ref 64), (1, .int 0)]) k_X12_gives rfl (Nat.le_of_ble_eq_true rfl) ?_
  refine zIconst d_X12_gives_0 (v := 0) ic_0 (q := 1) rfl ?_
  refine zIstoreN d_X12_gives_1 rfl (by decide) rfl (q := 2) rfl ?_
  refine zBipush d_X12_gives_2 (v := 61) bc_61 (q := 4) rfl ?_
  refine zIloadN d_X12_gives_4 rfl rfl (q := 5) rfl ?_
  refine zImul d_X12_gives_5 (q := 6) rfl ?_
  rw [e61]
  refine zIstoreN d_X12_gives_6 rfl (by decide) rfl (q := 7) rfl ?_
  refine zSub [0, 1, 2, 3] rfl ?_
  exact h0
end S59

