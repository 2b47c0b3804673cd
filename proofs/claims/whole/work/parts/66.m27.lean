theorem d_X12_count_0 : decode (zmc m_X12_count) 0 = .ok (.iload_n 1, 1) := by decide +kernel
theorem d_X12_count_1 : decode (zmc m_X12_count) 1 = .ok (.tableswitch 90 0 7 #[47, 52, 60, 65, 70, 75, 80, 85], 47) := by decide +kernel
theorem d_X12_count_48 : decode (zmc m_X12_count) 48 = .ok (.aload_n 0, 1) := by decide +kernel
theorem d_X12_count_49 : decode (zmc m_X12_count) 49 = .ok (.getfield 124, 3) := by decide +kernel
theorem d_X12_count_52 : decode (zmc m_X12_count) 52 = .ok (.ireturn, 1) := by decide +kernel
theorem d_X12_count_53 : decode (zmc m_X12_count) 53 = .ok (.aload_n 0, 1) := by decide +kernel
theorem d_X12_count_54 : decode (zmc m_X12_count) 54 = .ok (.invokevirtual 321, 3) := by decide +kernel
theorem d_X12_count_57 : decode (zmc m_X12_count) 57 = .ok (.invokestatic 312, 3) := by decide +kernel
theorem d_X12_count_60 : decode (zmc m_X12_count) 60 = .ok (.ireturn, 1) := by decide +kernel
theorem d_X12_count_61 : decode (zmc m_X12_count) 61 = .ok (.aload_n 0, 1) := by decide +kernel
theorem d_X12_count_62 : decode (zmc m_X12_count) 62 = .ok (.getfield 188, 3) := by decide +kernel
theorem d_X12_count_65 : decode (zmc m_X12_count) 65 = .ok (.ireturn, 1) := by decide +kernel
theorem d_X12_count_66 : decode (zmc m_X12_count) 66 = .ok (.aload_n 0, 1) := by decide +kernel
theorem d_X12_count_67 : decode (zmc m_X12_count) 67 = .ok (.getfield 171, 3) := by decide +kernel
theorem d_X12_count_70 : decode (zmc m_X12_count) 70 = .ok (.ireturn, 1) := by decide +kernel
theorem d_X12_count_71 : decode (zmc m_X12_count) 71 = .ok (.aload_n 0, 1) := by decide +kernel
theorem d_X12_count_72 : decode (zmc m_X12_count) 72 = .ok (.getfield 376, 3) := by decide +kernel
theorem d_X12_count_75 : decode (zmc m_X12_count) 75 = .ok (.ireturn, 1) := by decide +kernel
theorem d_X12_count_76 : decode (zmc m_X12_count) 76 = .ok (.aload_n 0, 1) := by decide +kernel
theorem d_X12_count_77 : decode (zmc m_X12_count) 77 = .ok (.getfield 379, 3) := by decide +kernel
theorem d_X12_count_80 : decode (zmc m_X12_count) 80 = .ok (.ireturn, 1) := by decide +kernel
theorem d_X12_count_81 : decode (zmc m_X12_count) 81 = .ok (.aload_n 0, 1) := by decide +kernel
theorem d_X12_count_82 : decode (zmc m_X12_count) 82 = .ok (.getfield 131, 3) := by decide +kernel
theorem d_X12_count_85 : decode (zmc m_X12_count) 85 = .ok (.ireturn, 1) := by decide +kernel
theorem d_X12_count_86 : decode (zmc m_X12_count) 86 = .ok (.aload_n 0, 1) := by decide +kernel
theorem d_X12_count_87 : decode (zmc m_X12_count) 87 = .ok (.getfield 157, 3) := by decide +kernel
theorem d_X12_count_90 : decode (zmc m_X12_count) 90 = .ok (.ireturn, 1) := by decide +kernel
theorem d_X12_count_91 : decode (zmc m_X12_count) 91 = .ok (.iconst (-1), 1) := by decide +kernel
theorem d_X12_count_92 : decode (zmc m_X12_count) 92 = .ok (.ireturn, 1) := by decide +kernel
theorem d_X12_stars_0 : decode (zmc m_X12_stars) 0 = .ok (.iload_n 1, 1) := by decide +kernel
theorem d_X12_stars_1 : decode (zmc m_X12_stars) 1 = .ok (.invokestatic 152, 3) := by decide +kernel
theorem d_X12_stars_4 : decode (zmc m_X12_stars) 4 = .ok (.ifCond .eq 13, 3) := by decide +kernel
theorem d_X12_stars_7 : decode (zmc m_X12_stars) 7 = .ok (.iload_n 3, 1) := by decide +kernel
theorem d_X12_stars_8 : decode (zmc m_X12_stars) 8 = .ok (.iconst 1, 1) := by decide +kernel
theorem d_X12_stars_9 : decode (zmc m_X12_stars) 9 = .ok (.bipush 10, 2) := by decide +kernel
theorem d_X12_stars_11 : decode (zmc m_X12_stars) 11 = .ok (.invokestatic 127, 3) := by decide +kernel
theorem d_X12_stars_14 : decode (zmc m_X12_stars) 14 = .ok (.ifCond .ne 5, 3) := by decide +kernel
theorem d_X12_stars_17 : decode (zmc m_X12_stars) 17 = .ok (.iconst (-1), 1) := by decide +kernel
theorem d_X12_stars_18 : decode (zmc m_X12_stars) 18 = .ok (.ireturn, 1) := by decide +kernel
theorem d_X12_stars_19 : decode (zmc m_X12_stars) 19 = .ok (.aload_n 0, 1) := by decide +kernel
theorem d_X12_stars_20 : decode (zmc m_X12_stars) 20 = .ok (.getfield 107, 3) := by decide +kernel
theorem d_X12_stars_23 : decode (zmc m_X12_stars) 23 = .ok (.iload_n 1, 1) := by decide +kernel
theorem d_X12_stars_24 : decode (zmc m_X12_stars) 24 = .ok (.iaload, 1) := by decide +kernel
theorem d_X12_stars_25 : decode (zmc m_X12_stars) 25 = .ok (.iconst (-1), 1) := by decide +kernel
theorem d_X12_stars_26 : decode (zmc m_X12_stars) 26 = .ok (.if_icmp .eq 17, 3) := by decide +kernel
theorem d_X12_stars_29 : decode (zmc m_X12_stars) 29 = .ok (.aload_n 0, 1) := by decide +kernel
theorem d_X12_stars_30 : decode (zmc m_X12_stars) 30 = .ok (.getfield 107, 3) := by decide +kernel
theorem d_X12_stars_33 : decode (zmc m_X12_stars) 33 = .ok (.iload_n 1, 1) := by decide +kernel
theorem d_X12_stars_34 : decode (zmc m_X12_stars) 34 = .ok (.iaload, 1) := by decide +kernel
theorem d_X12_stars_35 : decode (zmc m_X12_stars) 35 = .ok (.bipush (-2), 2) := by decide +kernel
theorem d_X12_stars_37 : decode (zmc m_X12_stars) 37 = .ok (.if_icmp .eq 6, 3) := by decide +kernel
theorem d_X12_stars_40 : decode (zmc m_X12_stars) 40 = .ok (.bipush (-12), 2) := by decide +kernel
theorem d_X12_stars_42 : decode (zmc m_X12_stars) 42 = .ok (.ireturn, 1) := by decide +kernel
theorem d_X12_stars_43 : decode (zmc m_X12_stars) 43 = .ok (.aload_n 0, 1) := by decide +kernel
theorem d_X12_stars_44 : decode (zmc m_X12_stars) 44 = .ok (.getfield 107, 3) := by decide +kernel
theorem d_X12_stars_47 : decode (zmc m_X12_stars) 47 = .ok (.iload_n 1, 1) := by decide +kernel
theorem d_X12_stars_48 : decode (zmc m_X12_stars) 48 = .ok (.iaload, 1) := by decide +kernel
theorem d_X12_stars_49 : decode (zmc m_X12_stars) 49 = .ok (.iconst (-1), 1) := by decide +kernel
theorem d_X12_stars_50 : decode (zmc m_X12_stars) 50 = .ok (.if_icmp .ne 5, 3) := by decide +kernel
theorem d_X12_stars_53 : decode (zmc m_X12_stars) 53 = .ok (.iconst 0, 1) := by decide +kernel
theorem d_X12_stars_54 : decode (zmc m_X12_stars) 54 = .ok (.ireturn, 1) := by decide +kernel
theorem d_X12_stars_55 : decode (zmc m_X12_stars) 55 = .ok (.iconst 0, 1) := by decide +kernel
theorem d_X12_stars_56 : decode (zmc m_X12_stars) 56 = .ok (.istore 4, 2) := by decide +kernel
theorem d_X12_stars_58 : decode (zmc m_X12_stars) 58 = .ok (.iload 4, 2) := by decide +kernel
theorem d_X12_stars_60 : decode (zmc m_X12_stars) 60 = .ok (.iload_n 3, 1) := by decide +kernel
theorem d_X12_stars_61 : decode (zmc m_X12_stars) 61 = .ok (.if_icmp .ge 168, 3) := by decide +kernel
theorem d_X12_stars_64 : decode (zmc m_X12_stars) 64 = .ok (.iload_n 2, 1) := by decide +kernel
theorem d_X12_stars_65 : decode (zmc m_X12_stars) 65 = .ok (.i2l, 1) := by decide +kernel
theorem d_X12_stars_66 : decode (zmc m_X12_stars) 66 = .ok (.iconst 3, 1) := by decide +kernel
theorem d_X12_stars_67 : decode (zmc m_X12_stars) 67 = .ok (.iload 4, 2) := by decide +kernel
theorem d_X12_stars_69 : decode (zmc m_X12_stars) 69 = .ok (.imul, 1) := by decide +kernel
theorem d_X12_stars_70 : decode (zmc m_X12_stars) 70 = .ok (.i2l, 1) := by decide +kernel
theorem d_X12_stars_71 : decode (zmc m_X12_stars) 71 = .ok (.ladd, 1) := by decide +kernel
theorem d_X12_stars_72 : decode (zmc m_X12_stars) 72 = .ok (.lstore 5, 2) := by decide +kernel
theorem d_X12_stars_74 : decode (zmc m_X12_stars) 74 = .ok (.lload 5, 2) := by decide +kernel
theorem d_X12_stars_76 : decode (zmc m_X12_stars) 76 = .ok (.lconst 0, 1) := by decide +kernel
theorem d_X12_stars_77 : decode (zmc m_X12_stars) 77 = .ok (.lcmp, 1) := by decide +kernel
theorem d_X12_stars_78 : decode (zmc m_X12_stars) 78 = .ok (.ifCond .lt 29, 3) := by decide +kernel
theorem d_X12_stars_81 : decode (zmc m_X12_stars) 81 = .ok (.lload 5, 2) := by decide +kernel
theorem d_X12_stars_83 : decode (zmc m_X12_stars) 83 = .ok (.ldc2_w 155, 3) := by decide +kernel
theorem d_X12_stars_86 : decode (zmc m_X12_stars) 86 = .ok (.ladd, 1) := by decide +kernel
theorem d_X12_stars_87 : decode (zmc m_X12_stars) 87 = .ok (.aload_n 0, 1) := by decide +kernel
theorem d_X12_stars_88 : decode (zmc m_X12_stars) 88 = .ok (.getfield 110, 3) := by decide +kernel
theorem d_X12_stars_91 : decode (zmc m_X12_stars) 91 = .ok (.iload_n 1, 1) := by decide +kernel
theorem d_X12_stars_92 : decode (zmc m_X12_stars) 92 = .ok (.iaload, 1) := by decide +kernel
theorem d_X12_stars_93 : decode (zmc m_X12_stars) 93 = .ok (.i2l, 1) := by decide +kernel
theorem d_X12_stars_94 : decode (zmc m_X12_stars) 94 = .ok (.lcmp, 1) := by decide +kernel
theorem d_X12_stars_95 : decode (zmc m_X12_stars) 95 = .ok (.ifCond .ge 12, 3) := by decide +kernel
theorem d_X12_stars_98 : decode (zmc m_X12_stars) 98 = .ok (.aload_n 0, 1) := by decide +kernel
theorem d_X12_stars_99 : decode (zmc m_X12_stars) 99 = .ok (.getfield 124, 3) := by decide +kernel
theorem d_X12_stars_102 : decode (zmc m_X12_stars) 102 = .ok (.bipush 10, 2) := by decide +kernel
theorem d_X12_stars_104 : decode (zmc m_X12_stars) 104 = .ok (.if_icmp .ne 6, 3) := by decide +kernel
theorem d_X12_stars_107 : decode (zmc m_X12_stars) 107 = .ok (.iload 4, 2) := by decide +kernel
theorem d_X12_stars_109 : decode (zmc m_X12_stars) 109 = .ok (.ireturn, 1) := by decide +kernel
theorem d_X12_stars_110 : decode (zmc m_X12_stars) 110 = .ok (.bipush 60, 2) := by decide +kernel
theorem d_X12_stars_112 : decode (zmc m_X12_stars) 112 = .ok (.iload_n 1, 1) := by decide +kernel
theorem d_X12_stars_113 : decode (zmc m_X12_stars) 113 = .ok (.imul, 1) := by decide +kernel
theorem d_X12_stars_114 : decode (zmc m_X12_stars) 114 = .ok (.lload 5, 2) := by decide +kernel
theorem d_X12_stars_116 : decode (zmc m_X12_stars) 116 = .ok (.l2i, 1) := by decide +kernel
theorem d_X12_stars_117 : decode (zmc m_X12_stars) 117 = .ok (.iadd, 1) := by decide +kernel
theorem d_X12_stars_118 : decode (zmc m_X12_stars) 118 = .ok (.istore 7, 2) := by decide +kernel
theorem d_X12_stars_120 : decode (zmc m_X12_stars) 120 = .ok (.aload_n 0, 1) := by decide +kernel
theorem d_X12_stars_121 : decode (zmc m_X12_stars) 121 = .ok (.getfield 113, 3) := by decide +kernel
theorem d_X12_stars_124 : decode (zmc m_X12_stars) 124 = .ok (.iload 7, 2) := by decide +kernel
theorem d_X12_stars_126 : decode (zmc m_X12_stars) 126 = .ok (.laload, 1) := by decide +kernel
theorem d_X12_stars_127 : decode (zmc m_X12_stars) 127 = .ok (.l2i, 1) := by decide +kernel
theorem d_X12_stars_128 : decode (zmc m_X12_stars) 128 = .ok (.invokestatic 145, 3) := by decide +kernel
theorem d_X12_stars_131 : decode (zmc m_X12_stars) 131 = .ok (.ifCond .eq 56, 3) := by decide +kernel
theorem d_X12_stars_134 : decode (zmc m_X12_stars) 134 = .ok (.aload_n 0, 1) := by decide +kernel
theorem d_X12_stars_135 : decode (zmc m_X12_stars) 135 = .ok (.aload_n 0, 1) := by decide +kernel
theorem d_X12_stars_136 : decode (zmc m_X12_stars) 136 = .ok (.getfield 113, 3) := by decide +kernel
theorem d_X12_stars_139 : decode (zmc m_X12_stars) 139 = .ok (.iload 7, 2) := by decide +kernel
theorem d_X12_stars_141 : decode (zmc m_X12_stars) 141 = .ok (.laload, 1) := by decide +kernel
theorem d_X12_stars_142 : decode (zmc m_X12_stars) 142 = .ok (.l2i, 1) := by decide +kernel
theorem d_X12_stars_143 : decode (zmc m_X12_stars) 143 = .ok (.invokevirtual 141, 3) := by decide +kernel
theorem d_X12_stars_146 : decode (zmc m_X12_stars) 146 = .ok (.ifCond .ge 41, 3) := by decide +kernel
theorem d_X12_stars_149 : decode (zmc m_X12_stars) 149 = .ok (.aload_n 0, 1) := by decide +kernel
theorem d_X12_stars_150 : decode (zmc m_X12_stars) 150 = .ok (.getfield 113, 3) := by decide +kernel
theorem d_X12_stars_153 : decode (zmc m_X12_stars) 153 = .ok (.iload 7, 2) := by decide +kernel
theorem d_X12_stars_155 : decode (zmc m_X12_stars) 155 = .ok (.iconst 1, 1) := by decide +kernel
theorem d_X12_stars_156 : decode (zmc m_X12_stars) 156 = .ok (.iadd, 1) := by decide +kernel
theorem d_X12_stars_157 : decode (zmc m_X12_stars) 157 = .ok (.laload, 1) := by decide +kernel
theorem d_X12_stars_158 : decode (zmc m_X12_stars) 158 = .ok (.l2i, 1) := by decide +kernel
theorem d_X12_stars_159 : decode (zmc m_X12_stars) 159 = .ok (.iconst 1, 1) := by decide +kernel
theorem d_X12_stars_160 : decode (zmc m_X12_stars) 160 = .ok (.bipush 9, 2) := by decide +kernel
theorem d_X12_stars_162 : decode (zmc m_X12_stars) 162 = .ok (.invokestatic 127, 3) := by decide +kernel
theorem d_X12_stars_165 : decode (zmc m_X12_stars) 165 = .ok (.ifCond .eq 22, 3) := by decide +kernel
theorem d_X12_stars_168 : decode (zmc m_X12_stars) 168 = .ok (.aload_n 0, 1) := by decide +kernel
theorem d_X12_stars_169 : decode (zmc m_X12_stars) 169 = .ok (.getfield 113, 3) := by decide +kernel
theorem d_X12_stars_172 : decode (zmc m_X12_stars) 172 = .ok (.iload 7, 2) := by decide +kernel
theorem d_X12_stars_174 : decode (zmc m_X12_stars) 174 = .ok (.iconst 2, 1) := by decide +kernel
theorem d_X12_stars_175 : decode (zmc m_X12_stars) 175 = .ok (.iadd, 1) := by decide +kernel
theorem d_X12_stars_176 : decode (zmc m_X12_stars) 176 = .ok (.laload, 1) := by decide +kernel
theorem d_X12_stars_177 : decode (zmc m_X12_stars) 177 = .ok (.l2i, 1) := by decide +kernel
theorem d_X12_stars_178 : decode (zmc m_X12_stars) 178 = .ok (.iconst 0, 1) := by decide +kernel
theorem d_X12_stars_179 : decode (zmc m_X12_stars) 179 = .ok (.bipush 9, 2) := by decide +kernel
theorem d_X12_stars_181 : decode (zmc m_X12_stars) 181 = .ok (.invokestatic 127, 3) := by decide +kernel
theorem d_X12_stars_184 : decode (zmc m_X12_stars) 184 = .ok (.ifCond .ne 6, 3) := by decide +kernel
theorem d_X12_stars_187 : decode (zmc m_X12_stars) 187 = .ok (.iload 4, 2) := by decide +kernel
theorem d_X12_stars_189 : decode (zmc m_X12_stars) 189 = .ok (.ireturn, 1) := by decide +kernel
theorem d_X12_stars_190 : decode (zmc m_X12_stars) 190 = .ok (.aload_n 0, 1) := by decide +kernel
theorem d_X12_stars_191 : decode (zmc m_X12_stars) 191 = .ok (.aload_n 0, 1) := by decide +kernel
theorem d_X12_stars_192 : decode (zmc m_X12_stars) 192 = .ok (.getfield 113, 3) := by decide +kernel
theorem d_X12_stars_195 : decode (zmc m_X12_stars) 195 = .ok (.iload 7, 2) := by decide +kernel
theorem d_X12_stars_197 : decode (zmc m_X12_stars) 197 = .ok (.laload, 1) := by decide +kernel
theorem d_X12_stars_198 : decode (zmc m_X12_stars) 198 = .ok (.l2i, 1) := by decide +kernel
theorem d_X12_stars_199 : decode (zmc m_X12_stars) 199 = .ok (.aload_n 0, 1) := by decide +kernel
theorem d_X12_stars_200 : decode (zmc m_X12_stars) 200 = .ok (.getfield 113, 3) := by decide +kernel
theorem d_X12_stars_203 : decode (zmc m_X12_stars) 203 = .ok (.iload 7, 2) := by decide +kernel
theorem d_X12_stars_205 : decode (zmc m_X12_stars) 205 = .ok (.iconst 1, 1) := by decide +kernel
theorem d_X12_stars_206 : decode (zmc m_X12_stars) 206 = .ok (.iadd, 1) := by decide +kernel
theorem d_X12_stars_207 : decode (zmc m_X12_stars) 207 = .ok (.laload, 1) := by decide +kernel
theorem d_X12_stars_208 : decode (zmc m_X12_stars) 208 = .ok (.l2i, 1) := by decide +kernel
theorem d_X12_stars_209 : decode (zmc m_X12_stars) 209 = .ok (.aload_n 0, 1) := by decide +kernel
theorem d_X12_stars_210 : decode (zmc m_X12_stars) 210 = .ok (.getfield 113, 3) := by decide +kernel
theorem d_X12_stars_213 : decode (zmc m_X12_stars) 213 = .ok (.iload 7, 2) := by decide +kernel
theorem d_X12_stars_215 : decode (zmc m_X12_stars) 215 = .ok (.iconst 2, 1) := by decide +kernel
theorem d_X12_stars_216 : decode (zmc m_X12_stars) 216 = .ok (.iadd, 1) := by decide +kernel
theorem d_X12_stars_217 : decode (zmc m_X12_stars) 217 = .ok (.laload, 1) := by decide +kernel
theorem d_X12_stars_218 : decode (zmc m_X12_stars) 218 = .ok (.l2i, 1) := by decide +kernel
theorem d_X12_stars_219 : decode (zmc m_X12_stars) 219 = .ok (.invokevirtual 148, 3) := by decide +kernel
theorem d_X12_stars_222 : decode (zmc m_X12_stars) 222 = .ok (.pop, 1) := by decide +kernel
theorem d_X12_stars_223 : decode (zmc m_X12_stars) 223 = .ok (.iinc 4 1, 3) := by decide +kernel
theorem d_X12_stars_226 : decode (zmc m_X12_stars) 226 = .ok (.goto (-168), 3) := by decide +kernel
theorem d_X12_stars_229 : decode (zmc m_X12_stars) 229 = .ok (.iload_n 3, 1) := by decide +kernel
theorem d_X12_stars_230 : decode (zmc m_X12_stars) 230 = .ok (.ireturn, 1) := by decide +kernel
/-! THE REFERENCE: how many; stars out of a row -/
section S66
variable {g : zG} {l : Launch} {d : Nat} {I V : Nat → Nat → Int32} {L K : Nat → Nat → Int64} {fs : Nat × Nat × Option Nat} {ns nt nh nb : Nat} {pg : Option (List zLine)}
theorem sp_X12_count (hd : 2 ≤ d) (hD : zMd I L V K pg) (hK : zSky V ns nt nh) (hB : zBd V ns nt nh) {k : Int32} : zPure g l d m_X12_count [.ref 64, .int k] I L fs (.int (if k = 0 then nI ns else if k = 1 then zbc (zbits (V 7) ns) else if k = 2 then V 29 1 else if k = 3 then V 31 4 else if k = 4 then V 38 2 else if k = 5 then V 38 3 else if k = 6 then nI nt else if k = 7 then nI nh else -1)) := by
  have hM := hD.1
  have hs := hK.2.1
  refine zSp_of (lv := [(0, .ref 64), (1, .int k)]) k_X12_count rfl (Nat.le_of_ble_eq_true rfl) ?_
  refine zIloadN d_X12_count_0 rfl rfl (q := 1) rfl ?_
  rcases Decidable.em (k = (0 : Int32)) with s1_0 | s1_0
  · refine zTabAt s1_0 d_X12_count_1 (by decide) (by decide) (off := 47) (by decide) (q := 48) (by decide) ?_
    refine zAloadN d_X12_count_48 rfl rfl (q := 49) rfl ?_
    refine zGetI d_X12_count_49 ff_X12_124 sh_64 (by decide) (q := 52) rfl ?_
    refine zIret d_X12_count_52 rfl rfl rfl ?_
    exact zPi (by rw [if_pos s1_0]; exact hM.1.1.trans hK.1.1)
  rcases Decidable.em (k = (1 : Int32)) with s1_1 | s1_1
  · refine zTabAt s1_1 d_X12_count_1 (by decide) (by decide) (off := 52) (by decide) (q := 53) (by decide) ?_
    refine zAloadN d_X12_count_53 rfl rfl (q := 54) rfl ?_
    refine zCallVP d_X12_count_54 ml_X12_321 k_X12_upNow ki_X12_upNow ks_X12_upNow (sp_X12_upNow (d := d - 1) (by omega) hM hK hB) rfl rfl sh_64 (by decide) rfl (by decide) (Nat.le_of_ble_eq_true rfl) (by decide) (by omega) zns100 (q := 57) rfl ?_
    rw [zbits_N (by omega)]
    refine zCallSP d_X12_count_57 ml_X12_312 k_X12_bitsOf kt_X12_bitsOf (sp_X12_bitsOf (d := d - 1) (by omega) (zN_1024 hs)) rfl rfl (Nat.le_of_ble_eq_true rfl) (by decide) (by omega) zns100 (q := 60) rfl ?_
    refine zIret d_X12_count_60 rfl rfl rfl ?_
    exact zPi (by rw [if_neg s1_0, if_pos s1_1])
  rcases Decidable.em (k = (2 : Int32)) with s1_2 | s1_2
  · refine zTabAt s1_2 d_X12_count_1 (by decide) (by decide) (off := 60) (by decide) (q := 61) (by decide) ?_
    refine zAloadN d_X12_count_61 rfl rfl (q := 62) rfl ?_
    refine zGetI d_X12_count_62 ff_X12_188 sh_64 (by decide) (q := 65) rfl ?_
    refine zIret d_X12_count_65 rfl rfl rfl ?_
    exact zPi (by rw [if_neg s1_0, if_neg s1_1, if_pos s1_2]; exact hD.2.1.1)
  rcases Decidable.em (k = (3 : Int32)) with s1_3 | s1_3
  · refine zTabAt s1_3 d_X12_count_1 (by decide) (by decide) (off := 65) (by decide) (q := 66) (by decide) ?_
    refine zAloadN d_X12_count_66 rfl rfl (q := 67) rfl ?_
    refine zGetI d_X12_count_67 ff_X12_171 sh_64 (by decide) (q := 70) rfl ?_
    refine zIret d_X12_count_70 rfl rfl rfl ?_
    exact zPi (by rw [if_neg s1_0, if_neg s1_1, if_neg s1_2, if_pos s1_3]; exact hD.2.2.1.1)
  rcases Decidable.em (k = (4 : Int32)) with s1_4 | s1_4
  · refine zTabAt s1_4 d_X12_count_1 (by decide) (by decide) (off := 70) (by decide) (q := 71) (by decide) ?_
    refine zAloadN d_X12_count_71 rfl rfl (q := 72) rfl ?_
    refine zGetI d_X12_count_72 ff_X12_376 sh_64 (by decide) (q := 75) rfl ?_
    refine zIret d_X12_count_75 rfl rfl rfl ?_
    exact zPi (by rw [if_neg s1_0, if_neg s1_1, if_neg s1_2, if_neg s1_3, if_pos s1_4]; exact hD.2.2.2.2.1.1.1)
  rcases Decidable.em (k = (5 : Int32)) with s1_5 | s1_5
  · refine zTabAt s1_5 d_X12_count_1 (by decide) (by decide) (off := 75) (by decide) (q := 76) (by decide) ?_
    refine zAloadN d_X12_count_76 rfl rfl (q := 77) rfl ?_
    refine zGetI d_X12_count_77 ff_X12_379 sh_64 (by decide) (q := 80) rfl ?_
    refine zIret d_X12_count_80 rfl rfl rfl ?_
    exact zPi (by rw [if_neg s1_0, if_neg s1_1, if_neg s1_2, if_neg s1_3, if_neg s1_4, if_pos s1_5]; exact hD.2.2.2.2.1.1.2)
  rcases Decidable.em (k = (6 : Int32)) with s1_6 | s1_6
  · refine zTabAt s1_6 d_X12_count_1 (by decide) (by decide) (off := 80) (by decide) (q := 81) (by decide) ?_
    refine zAloadN d_X12_count_81 rfl rfl (q := 82) rfl ?_
    refine zGetI d_X12_count_82 ff_X12_131 sh_64 (by decide) (q := 85) rfl ?_
    refine zIret d_X12_count_85 rfl rfl rfl ?_
    exact zPi (by rw [if_neg s1_0, if_neg s1_1, if_neg s1_2, if_neg s1_3, if_neg s1_4, if_neg s1_5, if_pos s1_6]; exact hM.1.2.1.trans hK.1.2.1)
  rcases Decidable.em (k = (7 : Int32)) with s1_7 | s1_7
  · refine zTabAt s1_7 d_X12_count_1 (by decide) (by decide) (off := 85) (by decide) (q := 86) (by decide) ?_
    refine zAloadN d_X12_count_86 rfl rfl (q := 87) rfl ?_
    refine zGetI d_X12_count_87 ff_X12_157 sh_64 (by decide) (q := 90) rfl ?_
    refine zIret d_X12_count_90 rfl rfl rfl ?_
    exact zPi (by rw [if_neg s1_0, if_neg s1_1, if_neg s1_2, if_neg s1_3, if_neg s1_4, if_neg s1_5, if_neg s1_6, if_pos s1_7]; exact hM.1.2.2.trans hK.1.2.2)
  refine zTabOut d_X12_count_1 (by have := lv_neT s1_0 (a := 0) (by decide); have := lv_neT s1_1 (a := 1) (by decide); have := lv_neT s1_2 (a := 2) (by decide); have := lv_neT s1_3 (a := 3) (by decide); have := lv_neT s1_4 (a := 4) (by decide); have := lv_neT s1_5 (a := 5) (by decide); have := lv_neT s1_6 (a := 6) (by decide); have := lv_neT s1_7 (a := 7) (by decide); omega) (q := 91) (by decide) ?_
  refine zIconst d_X12_count_91 (v := -1) ic_m1 (q := 92) rfl ?_
  refine zIret d_X12_count_92 rfl rfl rfl ?_
  exact zPi (by rw [if_neg s1_0, if_neg s1_1, if_neg s1_2, if_neg s1_3, if_neg s1_4, if_neg s1_5, if_neg s1_6, if_neg s1_7])
theorem sp_X12_stars0 {i p n : Int32} (hd : 3 ≤ d) (hi : ¬ (0 ≤ i ∧ i < 6)) : zPure g l d m_X12_stars [.ref 64, .int i, .int p, .int n] I L fs (.int (-1)) := by
  refine zSp_of (lv := [(0, .ref 64), (1, .int i), (2, .int p), (3, .int n)]) k_X12_stars rfl (Nat.le_of_ble_eq_true rfl) ?_
  refine zIloadN d_X12_stars_0 rfl rfl (q := 1) rfl ?_
  refine zCallSP d_X12_stars_1 ml_X12_152 k_X12_isShelf kt_X12_isShelf (sp_X12_isShelf (d := d - 1) (by omega) ) rfl rfl (Nat.le_of_ble_eq_true rfl) (by decide) (by omega) zns100 (q := 4) rfl ?_
  refine zIf_eq d_X12_stars_4 (tgt := 17) (q := 7) (by decide) rfl (fun h4 => ?_) (fun h => absurd (zshelf_out hi) h)
  refine zIconst d_X12_stars_17 (v := -1) ic_m1 (q := 18) rfl ?_
  refine zIret d_X12_stars_18 rfl rfl rfl ?_
  exact zPi rfl
end S66

