theorem d_X12_goesOn_0 : decode (zmc m_X12_goesOn) 0 = .ok (.iload_n 2, 1) := by decide +kernel
theorem d_X12_goesOn_1 : decode (zmc m_X12_goesOn) 1 = .ok (.bipush 10, 2) := by decide +kernel
theorem d_X12_goesOn_3 : decode (zmc m_X12_goesOn) 3 = .ok (.if_icmp .eq 17, 3) := by decide +kernel
theorem d_X12_goesOn_6 : decode (zmc m_X12_goesOn) 6 = .ok (.iconst 2, 1) := by decide +kernel
theorem d_X12_goesOn_7 : decode (zmc m_X12_goesOn) 7 = .ok (.iload_n 2, 1) := by decide +kernel
theorem d_X12_goesOn_8 : decode (zmc m_X12_goesOn) 8 = .ok (.imul, 1) := by decide +kernel
theorem d_X12_goesOn_9 : decode (zmc m_X12_goesOn) 9 = .ok (.iconst 1, 1) := by decide +kernel
theorem d_X12_goesOn_10 : decode (zmc m_X12_goesOn) 10 = .ok (.iadd, 1) := by decide +kernel
theorem d_X12_goesOn_11 : decode (zmc m_X12_goesOn) 11 = .ok (.aload_n 0, 1) := by decide +kernel
theorem d_X12_goesOn_12 : decode (zmc m_X12_goesOn) 12 = .ok (.getfield 110, 3) := by decide +kernel
theorem d_X12_goesOn_15 : decode (zmc m_X12_goesOn) 15 = .ok (.iload_n 1, 1) := by decide +kernel
theorem d_X12_goesOn_16 : decode (zmc m_X12_goesOn) 16 = .ok (.iaload, 1) := by decide +kernel
theorem d_X12_goesOn_17 : decode (zmc m_X12_goesOn) 17 = .ok (.if_icmp .lt 5, 3) := by decide +kernel
theorem d_X12_goesOn_20 : decode (zmc m_X12_goesOn) 20 = .ok (.iconst 0, 1) := by decide +kernel
theorem d_X12_goesOn_21 : decode (zmc m_X12_goesOn) 21 = .ok (.ireturn, 1) := by decide +kernel
theorem d_X12_goesOn_22 : decode (zmc m_X12_goesOn) 22 = .ok (.aload_n 0, 1) := by decide +kernel
theorem d_X12_goesOn_23 : decode (zmc m_X12_goesOn) 23 = .ok (.iload_n 1, 1) := by decide +kernel
theorem d_X12_goesOn_24 : decode (zmc m_X12_goesOn) 24 = .ok (.iconst 2, 1) := by decide +kernel
theorem d_X12_goesOn_25 : decode (zmc m_X12_goesOn) 25 = .ok (.iload_n 2, 1) := by decide +kernel
theorem d_X12_goesOn_26 : decode (zmc m_X12_goesOn) 26 = .ok (.imul, 1) := by decide +kernel
theorem d_X12_goesOn_27 : decode (zmc m_X12_goesOn) 27 = .ok (.invokevirtual 267, 3) := by decide +kernel
theorem d_X12_goesOn_30 : decode (zmc m_X12_goesOn) 30 = .ok (.istore_n 3, 1) := by decide +kernel
theorem d_X12_goesOn_31 : decode (zmc m_X12_goesOn) 31 = .ok (.aload_n 0, 1) := by decide +kernel
theorem d_X12_goesOn_32 : decode (zmc m_X12_goesOn) 32 = .ok (.iload_n 3, 1) := by decide +kernel
theorem d_X12_goesOn_33 : decode (zmc m_X12_goesOn) 33 = .ok (.invokevirtual 134, 3) := by decide +kernel
theorem d_X12_goesOn_36 : decode (zmc m_X12_goesOn) 36 = .ok (.ifCond .eq 30, 3) := by decide +kernel
theorem d_X12_goesOn_39 : decode (zmc m_X12_goesOn) 39 = .ok (.aload_n 0, 1) := by decide +kernel
theorem d_X12_goesOn_40 : decode (zmc m_X12_goesOn) 40 = .ok (.getfield 27, 3) := by decide +kernel
theorem d_X12_goesOn_43 : decode (zmc m_X12_goesOn) 43 = .ok (.iload_n 3, 1) := by decide +kernel
theorem d_X12_goesOn_44 : decode (zmc m_X12_goesOn) 44 = .ok (.iaload, 1) := by decide +kernel
theorem d_X12_goesOn_45 : decode (zmc m_X12_goesOn) 45 = .ok (.iconst 1, 1) := by decide +kernel
theorem d_X12_goesOn_46 : decode (zmc m_X12_goesOn) 46 = .ok (.if_icmp .eq 20, 3) := by decide +kernel
theorem d_X12_goesOn_49 : decode (zmc m_X12_goesOn) 49 = .ok (.aload_n 0, 1) := by decide +kernel
theorem d_X12_goesOn_50 : decode (zmc m_X12_goesOn) 50 = .ok (.aload_n 0, 1) := by decide +kernel
theorem d_X12_goesOn_51 : decode (zmc m_X12_goesOn) 51 = .ok (.iload_n 1, 1) := by decide +kernel
theorem d_X12_goesOn_52 : decode (zmc m_X12_goesOn) 52 = .ok (.iconst 2, 1) := by decide +kernel
theorem d_X12_goesOn_53 : decode (zmc m_X12_goesOn) 53 = .ok (.iload_n 2, 1) := by decide +kernel
theorem d_X12_goesOn_54 : decode (zmc m_X12_goesOn) 54 = .ok (.imul, 1) := by decide +kernel
theorem d_X12_goesOn_55 : decode (zmc m_X12_goesOn) 55 = .ok (.iconst 1, 1) := by decide +kernel
theorem d_X12_goesOn_56 : decode (zmc m_X12_goesOn) 56 = .ok (.iadd, 1) := by decide +kernel
theorem d_X12_goesOn_57 : decode (zmc m_X12_goesOn) 57 = .ok (.invokevirtual 267, 3) := by decide +kernel
theorem d_X12_goesOn_60 : decode (zmc m_X12_goesOn) 60 = .ok (.invokevirtual 138, 3) := by decide +kernel
theorem d_X12_goesOn_63 : decode (zmc m_X12_goesOn) 63 = .ok (.ifCond .ne 5, 3) := by decide +kernel
theorem d_X12_goesOn_66 : decode (zmc m_X12_goesOn) 66 = .ok (.iconst 0, 1) := by decide +kernel
theorem d_X12_goesOn_67 : decode (zmc m_X12_goesOn) 67 = .ok (.ireturn, 1) := by decide +kernel
theorem d_X12_goesOn_68 : decode (zmc m_X12_goesOn) 68 = .ok (.iconst 0, 1) := by decide +kernel
theorem d_X12_goesOn_69 : decode (zmc m_X12_goesOn) 69 = .ok (.istore 4, 2) := by decide +kernel
theorem d_X12_goesOn_71 : decode (zmc m_X12_goesOn) 71 = .ok (.iload 4, 2) := by decide +kernel
theorem d_X12_goesOn_73 : decode (zmc m_X12_goesOn) 73 = .ok (.iload_n 2, 1) := by decide +kernel
theorem d_X12_goesOn_74 : decode (zmc m_X12_goesOn) 74 = .ok (.if_icmp .ge 22, 3) := by decide +kernel
theorem d_X12_goesOn_77 : decode (zmc m_X12_goesOn) 77 = .ok (.aload_n 0, 1) := by decide +kernel
theorem d_X12_goesOn_78 : decode (zmc m_X12_goesOn) 78 = .ok (.getfield 80, 3) := by decide +kernel
theorem d_X12_goesOn_81 : decode (zmc m_X12_goesOn) 81 = .ok (.iload 4, 2) := by decide +kernel
theorem d_X12_goesOn_83 : decode (zmc m_X12_goesOn) 83 = .ok (.iaload, 1) := by decide +kernel
theorem d_X12_goesOn_84 : decode (zmc m_X12_goesOn) 84 = .ok (.iload_n 3, 1) := by decide +kernel
theorem d_X12_goesOn_85 : decode (zmc m_X12_goesOn) 85 = .ok (.if_icmp .ne 5, 3) := by decide +kernel
theorem d_X12_goesOn_88 : decode (zmc m_X12_goesOn) 88 = .ok (.iconst 0, 1) := by decide +kernel
theorem d_X12_goesOn_89 : decode (zmc m_X12_goesOn) 89 = .ok (.ireturn, 1) := by decide +kernel
theorem d_X12_goesOn_90 : decode (zmc m_X12_goesOn) 90 = .ok (.iinc 4 1, 3) := by decide +kernel
theorem d_X12_goesOn_93 : decode (zmc m_X12_goesOn) 93 = .ok (.goto (-22), 3) := by decide +kernel
theorem d_X12_goesOn_96 : decode (zmc m_X12_goesOn) 96 = .ok (.iconst 1, 1) := by decide +kernel
theorem d_X12_goesOn_97 : decode (zmc m_X12_goesOn) 97 = .ok (.ireturn, 1) := by decide +kernel
theorem d_X12_layPlan_0 : decode (zmc m_X12_layPlan) 0 = .ok (.aload_n 0, 1) := by decide +kernel
theorem d_X12_layPlan_1 : decode (zmc m_X12_layPlan) 1 = .ok (.iconst 0, 1) := by decide +kernel
theorem d_X12_layPlan_2 : decode (zmc m_X12_layPlan) 2 = .ok (.putfield 270, 3) := by decide +kernel
theorem d_X12_layPlan_5 : decode (zmc m_X12_layPlan) 5 = .ok (.aload_n 0, 1) := by decide +kernel
theorem d_X12_layPlan_6 : decode (zmc m_X12_layPlan) 6 = .ok (.aload_n 0, 1) := by decide +kernel
theorem d_X12_layPlan_7 : decode (zmc m_X12_layPlan) 7 = .ok (.getfield 39, 3) := by decide +kernel
theorem d_X12_layPlan_10 : decode (zmc m_X12_layPlan) 10 = .ok (.iconst 0, 1) := by decide +kernel
theorem d_X12_layPlan_11 : decode (zmc m_X12_layPlan) 11 = .ok (.iaload, 1) := by decide +kernel
theorem d_X12_layPlan_12 : decode (zmc m_X12_layPlan) 12 = .ok (.putfield 273, 3) := by decide +kernel
theorem d_X12_layPlan_15 : decode (zmc m_X12_layPlan) 15 = .ok (.iconst 0, 1) := by decide +kernel
theorem d_X12_layPlan_16 : decode (zmc m_X12_layPlan) 16 = .ok (.istore_n 2, 1) := by decide +kernel
theorem d_X12_layPlan_17 : decode (zmc m_X12_layPlan) 17 = .ok (.iload_n 2, 1) := by decide +kernel
theorem d_X12_layPlan_18 : decode (zmc m_X12_layPlan) 18 = .ok (.aload_n 0, 1) := by decide +kernel
theorem d_X12_layPlan_19 : decode (zmc m_X12_layPlan) 19 = .ok (.getfield 131, 3) := by decide +kernel
theorem d_X12_layPlan_22 : decode (zmc m_X12_layPlan) 22 = .ok (.if_icmp .ge 21, 3) := by decide +kernel
theorem d_X12_layPlan_25 : decode (zmc m_X12_layPlan) 25 = .ok (.aload_n 0, 1) := by decide +kernel
theorem d_X12_layPlan_26 : decode (zmc m_X12_layPlan) 26 = .ok (.getfield 89, 3) := by decide +kernel
theorem d_X12_layPlan_29 : decode (zmc m_X12_layPlan) 29 = .ok (.iload_n 2, 1) := by decide +kernel
theorem d_X12_layPlan_30 : decode (zmc m_X12_layPlan) 30 = .ok (.aload_n 0, 1) := by decide +kernel
theorem d_X12_layPlan_31 : decode (zmc m_X12_layPlan) 31 = .ok (.getfield 39, 3) := by decide +kernel
theorem d_X12_layPlan_34 : decode (zmc m_X12_layPlan) 34 = .ok (.iconst 0, 1) := by decide +kernel
theorem d_X12_layPlan_35 : decode (zmc m_X12_layPlan) 35 = .ok (.iaload, 1) := by decide +kernel
theorem d_X12_layPlan_36 : decode (zmc m_X12_layPlan) 36 = .ok (.iastore, 1) := by decide +kernel
theorem d_X12_layPlan_37 : decode (zmc m_X12_layPlan) 37 = .ok (.iinc 2 1, 3) := by decide +kernel
theorem d_X12_layPlan_40 : decode (zmc m_X12_layPlan) 40 = .ok (.goto (-23), 3) := by decide +kernel
theorem d_X12_layPlan_43 : decode (zmc m_X12_layPlan) 43 = .ok (.aload_n 0, 1) := by decide +kernel
theorem d_X12_layPlan_44 : decode (zmc m_X12_layPlan) 44 = .ok (.iload_n 1, 1) := by decide +kernel
theorem d_X12_layPlan_45 : decode (zmc m_X12_layPlan) 45 = .ok (.aload_n 0, 1) := by decide +kernel
theorem d_X12_layPlan_46 : decode (zmc m_X12_layPlan) 46 = .ok (.getfield 270, 3) := by decide +kernel
theorem d_X12_layPlan_49 : decode (zmc m_X12_layPlan) 49 = .ok (.invokevirtual 276, 3) := by decide +kernel
theorem d_X12_layPlan_52 : decode (zmc m_X12_layPlan) 52 = .ok (.ifCond .eq 131, 3) := by decide +kernel
theorem d_X12_layPlan_55 : decode (zmc m_X12_layPlan) 55 = .ok (.aload_n 0, 1) := by decide +kernel
theorem d_X12_layPlan_56 : decode (zmc m_X12_layPlan) 56 = .ok (.iload_n 1, 1) := by decide +kernel
theorem d_X12_layPlan_57 : decode (zmc m_X12_layPlan) 57 = .ok (.iconst 2, 1) := by decide +kernel
theorem d_X12_layPlan_58 : decode (zmc m_X12_layPlan) 58 = .ok (.aload_n 0, 1) := by decide +kernel
theorem d_X12_layPlan_59 : decode (zmc m_X12_layPlan) 59 = .ok (.getfield 270, 3) := by decide +kernel
theorem d_X12_layPlan_62 : decode (zmc m_X12_layPlan) 62 = .ok (.imul, 1) := by decide +kernel
theorem d_X12_layPlan_63 : decode (zmc m_X12_layPlan) 63 = .ok (.iconst 1, 1) := by decide +kernel
theorem d_X12_layPlan_64 : decode (zmc m_X12_layPlan) 64 = .ok (.iadd, 1) := by decide +kernel
theorem d_X12_layPlan_65 : decode (zmc m_X12_layPlan) 65 = .ok (.invokevirtual 267, 3) := by decide +kernel
theorem d_X12_layPlan_68 : decode (zmc m_X12_layPlan) 68 = .ok (.istore_n 2, 1) := by decide +kernel
theorem d_X12_layPlan_69 : decode (zmc m_X12_layPlan) 69 = .ok (.aload_n 0, 1) := by decide +kernel
theorem d_X12_layPlan_70 : decode (zmc m_X12_layPlan) 70 = .ok (.getfield 80, 3) := by decide +kernel
theorem d_X12_layPlan_73 : decode (zmc m_X12_layPlan) 73 = .ok (.aload_n 0, 1) := by decide +kernel
theorem d_X12_layPlan_74 : decode (zmc m_X12_layPlan) 74 = .ok (.getfield 270, 3) := by decide +kernel
theorem d_X12_layPlan_77 : decode (zmc m_X12_layPlan) 77 = .ok (.aload_n 0, 1) := by decide +kernel
theorem d_X12_layPlan_78 : decode (zmc m_X12_layPlan) 78 = .ok (.iload_n 1, 1) := by decide +kernel
theorem d_X12_layPlan_79 : decode (zmc m_X12_layPlan) 79 = .ok (.iconst 2, 1) := by decide +kernel
theorem d_X12_layPlan_80 : decode (zmc m_X12_layPlan) 80 = .ok (.aload_n 0, 1) := by decide +kernel
theorem d_X12_layPlan_81 : decode (zmc m_X12_layPlan) 81 = .ok (.getfield 270, 3) := by decide +kernel
theorem d_X12_layPlan_84 : decode (zmc m_X12_layPlan) 84 = .ok (.imul, 1) := by decide +kernel
theorem d_X12_layPlan_85 : decode (zmc m_X12_layPlan) 85 = .ok (.invokevirtual 267, 3) := by decide +kernel
theorem d_X12_layPlan_88 : decode (zmc m_X12_layPlan) 88 = .ok (.iastore, 1) := by decide +kernel
theorem d_X12_layPlan_89 : decode (zmc m_X12_layPlan) 89 = .ok (.aload_n 0, 1) := by decide +kernel
theorem d_X12_layPlan_90 : decode (zmc m_X12_layPlan) 90 = .ok (.getfield 83, 3) := by decide +kernel
theorem d_X12_layPlan_93 : decode (zmc m_X12_layPlan) 93 = .ok (.aload_n 0, 1) := by decide +kernel
theorem d_X12_layPlan_94 : decode (zmc m_X12_layPlan) 94 = .ok (.getfield 270, 3) := by decide +kernel
theorem d_X12_layPlan_97 : decode (zmc m_X12_layPlan) 97 = .ok (.iload_n 2, 1) := by decide +kernel
theorem d_X12_layPlan_98 : decode (zmc m_X12_layPlan) 98 = .ok (.iastore, 1) := by decide +kernel
theorem d_X12_layPlan_99 : decode (zmc m_X12_layPlan) 99 = .ok (.aload_n 0, 1) := by decide +kernel
theorem d_X12_layPlan_100 : decode (zmc m_X12_layPlan) 100 = .ok (.getfield 86, 3) := by decide +kernel
theorem d_X12_layPlan_103 : decode (zmc m_X12_layPlan) 103 = .ok (.aload_n 0, 1) := by decide +kernel
theorem d_X12_layPlan_104 : decode (zmc m_X12_layPlan) 104 = .ok (.getfield 270, 3) := by decide +kernel
theorem d_X12_layPlan_107 : decode (zmc m_X12_layPlan) 107 = .ok (.aload_n 0, 1) := by decide +kernel
theorem d_X12_layPlan_108 : decode (zmc m_X12_layPlan) 108 = .ok (.getfield 89, 3) := by decide +kernel
theorem d_X12_layPlan_111 : decode (zmc m_X12_layPlan) 111 = .ok (.iload_n 2, 1) := by decide +kernel
theorem d_X12_layPlan_112 : decode (zmc m_X12_layPlan) 112 = .ok (.iaload, 1) := by decide +kernel
theorem d_X12_layPlan_113 : decode (zmc m_X12_layPlan) 113 = .ok (.sipush 999, 3) := by decide +kernel
theorem d_X12_layPlan_116 : decode (zmc m_X12_layPlan) 116 = .ok (.if_icmp .le 9, 3) := by decide +kernel
theorem d_X12_layPlan_119 : decode (zmc m_X12_layPlan) 119 = .ok (.sipush 999, 3) := by decide +kernel
theorem d_X12_layPlan_122 : decode (zmc m_X12_layPlan) 122 = .ok (.goto 9, 3) := by decide +kernel
theorem d_X12_layPlan_125 : decode (zmc m_X12_layPlan) 125 = .ok (.aload_n 0, 1) := by decide +kernel
theorem d_X12_layPlan_126 : decode (zmc m_X12_layPlan) 126 = .ok (.getfield 89, 3) := by decide +kernel
theorem d_X12_layPlan_129 : decode (zmc m_X12_layPlan) 129 = .ok (.iload_n 2, 1) := by decide +kernel
theorem d_X12_layPlan_130 : decode (zmc m_X12_layPlan) 130 = .ok (.iaload, 1) := by decide +kernel
theorem d_X12_layPlan_131 : decode (zmc m_X12_layPlan) 131 = .ok (.iastore, 1) := by decide +kernel
theorem d_X12_layPlan_132 : decode (zmc m_X12_layPlan) 132 = .ok (.aload_n 0, 1) := by decide +kernel
theorem d_X12_layPlan_133 : decode (zmc m_X12_layPlan) 133 = .ok (.getfield 89, 3) := by decide +kernel
theorem d_X12_layPlan_136 : decode (zmc m_X12_layPlan) 136 = .ok (.iload_n 2, 1) := by decide +kernel
theorem d_X12_layPlan_137 : decode (zmc m_X12_layPlan) 137 = .ok (.dup2, 1) := by decide +kernel
theorem d_X12_layPlan_138 : decode (zmc m_X12_layPlan) 138 = .ok (.iaload, 1) := by decide +kernel
theorem d_X12_layPlan_139 : decode (zmc m_X12_layPlan) 139 = .ok (.aload_n 0, 1) := by decide +kernel
theorem d_X12_layPlan_140 : decode (zmc m_X12_layPlan) 140 = .ok (.getfield 33, 3) := by decide +kernel
theorem d_X12_layPlan_143 : decode (zmc m_X12_layPlan) 143 = .ok (.iload_n 2, 1) := by decide +kernel
theorem d_X12_layPlan_144 : decode (zmc m_X12_layPlan) 144 = .ok (.iaload, 1) := by decide +kernel
theorem d_X12_layPlan_145 : decode (zmc m_X12_layPlan) 145 = .ok (.iadd, 1) := by decide +kernel
theorem d_X12_layPlan_146 : decode (zmc m_X12_layPlan) 146 = .ok (.iastore, 1) := by decide +kernel
theorem d_X12_layPlan_147 : decode (zmc m_X12_layPlan) 147 = .ok (.aload_n 0, 1) := by decide +kernel
theorem d_X12_layPlan_148 : decode (zmc m_X12_layPlan) 148 = .ok (.getfield 89, 3) := by decide +kernel
theorem d_X12_layPlan_151 : decode (zmc m_X12_layPlan) 151 = .ok (.iload_n 2, 1) := by decide +kernel
theorem d_X12_layPlan_152 : decode (zmc m_X12_layPlan) 152 = .ok (.iaload, 1) := by decide +kernel
theorem d_X12_layPlan_153 : decode (zmc m_X12_layPlan) 153 = .ok (.aload_n 0, 1) := by decide +kernel
theorem d_X12_layPlan_154 : decode (zmc m_X12_layPlan) 154 = .ok (.getfield 273, 3) := by decide +kernel
theorem d_X12_layPlan_157 : decode (zmc m_X12_layPlan) 157 = .ok (.if_icmp .le 13, 3) := by decide +kernel
theorem d_X12_layPlan_160 : decode (zmc m_X12_layPlan) 160 = .ok (.aload_n 0, 1) := by decide +kernel
theorem d_X12_layPlan_161 : decode (zmc m_X12_layPlan) 161 = .ok (.aload_n 0, 1) := by decide +kernel
theorem d_X12_layPlan_162 : decode (zmc m_X12_layPlan) 162 = .ok (.getfield 89, 3) := by decide +kernel
theorem d_X12_layPlan_165 : decode (zmc m_X12_layPlan) 165 = .ok (.iload_n 2, 1) := by decide +kernel
theorem d_X12_layPlan_166 : decode (zmc m_X12_layPlan) 166 = .ok (.iaload, 1) := by decide +kernel
theorem d_X12_layPlan_167 : decode (zmc m_X12_layPlan) 167 = .ok (.putfield 273, 3) := by decide +kernel
theorem d_X12_layPlan_170 : decode (zmc m_X12_layPlan) 170 = .ok (.aload_n 0, 1) := by decide +kernel
theorem d_X12_layPlan_171 : decode (zmc m_X12_layPlan) 171 = .ok (.dup, 1) := by decide +kernel
theorem d_X12_layPlan_172 : decode (zmc m_X12_layPlan) 172 = .ok (.getfield 270, 3) := by decide +kernel
theorem d_X12_layPlan_175 : decode (zmc m_X12_layPlan) 175 = .ok (.iconst 1, 1) := by decide +kernel
theorem d_X12_layPlan_176 : decode (zmc m_X12_layPlan) 176 = .ok (.iadd, 1) := by decide +kernel
theorem d_X12_layPlan_177 : decode (zmc m_X12_layPlan) 177 = .ok (.putfield 270, 3) := by decide +kernel
theorem d_X12_layPlan_180 : decode (zmc m_X12_layPlan) 180 = .ok (.goto (-137), 3) := by decide +kernel
theorem d_X12_layPlan_183 : decode (zmc m_X12_layPlan) 183 = .ok (.return_, 1) := by decide +kernel
/-! THE REFERENCE: a plan is laid -/
theorem zPok_iff {V : Nat → Nat → Int32} {K : Nat → Nat → Int64} {ns nt nh r k : Nat} : zPok V K ns nt nh r k = true ↔ ((0 ≤ zPw V K r k ∧ zPw V K r k < nI ns) ∧ (0 ≤ zPb V K r k ∧ zPb V K r k < nI nt)) ∧ ((zPst V K ns r k).1 >>> (zPw V K r k &&& 31)) &&& 1 = 0 := by
  unfold zPok
  rw [decide_eq_true_eq]
  exact Iff.rfl
theorem zPst_bits {V : Nat → Nat → Int32} {K : Nat → Nat → Int64} {ns nt nh r : Nat} (hs : ns ≤ 10) : ∀ k, (∀ i, i < k → zPok V K ns nt nh r i = true) → ∃ X, X < 2 ^ ns ∧ (zPst V K ns r k).1 = nI X ∧ ∀ s, s < ns → (X.testBit s = true ↔ (¬ V 8 s = 0 ∨ ∃ i, i < k ∧ zPw V K r i = nI s))
  | 0, _ => by
    refine ⟨zN (fun k => decide (¬ V 8 k = 0)) ns, zN_lt _ ns, zbits_N (by omega), fun s hs2 => ?_⟩
    rw [zN_bit, decide_eq_true hs2, Bool.true_and, decide_eq_true_eq]
    exact ⟨Or.inl, fun h => h.elim id (fun ⟨i, hi, _⟩ => absurd hi (Nat.not_lt_zero _))⟩
  | k + 1, h => by
    obtain ⟨X, hX, eX, bX⟩ := zPst_bits (V := V) (K := K) (ns := ns) (nt := nt) (nh := nh) (r := r) hs k (fun i hi => h i (by omega))
    have hk := zPok_iff.mp (h k (Nat.lt_succ_self k))
    obtain ⟨s0, hs0, es0⟩ := zn1 (x := zPw V K r k) (n := ns) (by omega) hk.1.1.1 hk.1.1.2
    refine ⟨X ||| 2 ^ s0, Nat.or_lt_two_pow hX (Nat.pow_lt_pow_right (by decide) hs0), ?_, fun s hs2 => ?_⟩
    · show (zPst V K ns r k).1 ||| ((1 : Int32) <<< (zPw V K r k &&& 31)) = _
      rw [eX, es0, zone (by omega), zorb]
    · rw [Nat.testBit_or, Nat.testBit_two_pow, Bool.or_eq_true, decide_eq_true_eq, bX s hs2]
      constructor
      · rintro ((q | ⟨i, hi, e⟩) | q)
        · exact Or.inl q
        · exact Or.inr ⟨i, by omega, e⟩
        · exact Or.inr ⟨k, Nat.lt_succ_self k, by rw [es0, q]⟩
      · rintro (q | ⟨i, hi, e⟩)
        · exact Or.inl (Or.inl q)
        · rcases Nat.lt_succ_iff_lt_or_eq.mp hi with q | rfl
          · exact Or.inl (Or.inr ⟨i, q, e⟩)
          · exact Or.inr ((nI_eq (by omega) (by omega)).mp (es0.symm.trans e))
def yPJ (I V : Nat → Nat → Int32) (K : Nat → Nat → Int64) (ns nt r k : Nat) (J : Nat → Nat → Int32) : Prop :=
  zScr I J ∧ (J 64 34 = nI k ∧ J 64 39 = (zPst V K ns r k).2.2) ∧ (∀ b, b < nt → J 90 b = (zPst V K ns r k).2.1 b) ∧ ∀ i, i < k → J 87 i = zPw V K r i ∧ J 88 i = zPb V K r i ∧ J 89 i = zPmin V K ns r i
section S61
variable {g : zG} {l : Launch} {d : Nat} {I V : Nat → Nat → Int32} {L K : Nat → Nat → Int64} {fs : Nat × Nat × Option Nat} {ns nt nh nb : Nat} {pg : Option (List zLine)}
theorem sp_X12_goesOn (hd : 3 ≤ d) (hM : zMs I V) (hK : zSky V ns nt nh) (hB : zBd V ns nt nh) (hH : zMh I V L K) {q m k : Nat} (hq : q < 6) (hm : V (42 + 2 * q) 2 = nI m) (hm2 : m ≤ 60) (hk : k ≤ 10) (hpl : ∀ i, i < k → I 87 i = zPw V K (42 + 2 * q) i) (hok : ∀ i, i < k → zPok V K ns nt nh (42 + 2 * q) i = true) : zPure g l d m_X12_goesOn [.ref 64, .int (nI q), .int (nI k)] I L fs (.int (bi (k < 10 ∧ zPok V K ns nt nh (42 + 2 * q) k = true))) := by
  have hs := hK.2.1
  have mg : I 70 = V 8 := hM.2.1.2.2.2.2.2.1
  have e97 : I 97 q = nI m := (hH q hq).1.trans hm
  have e2 : ∀ i, (2 : Int32) * nI i = nI (2 * i) := fun i => by rw [← pk_mul]; rfl
  obtain ⟨X, hX, eX, bX⟩ := zPst_bits hs k hok
  have hX31 : X < 2 ^ 31 := Nat.lt_of_lt_of_le hX (Nat.le_trans (Nat.pow_le_pow_right (by decide) hs) (by decide))
  have loop : k < 10 → ∀ s, s < ns → zPw V K (42 + 2 * q) k = nI s → ¬ V 8 s = 1 → (0 ≤ zPb V K (42 + 2 * q) k ∧ zPb V K (42 + 2 * q) k < nI nt) → ∀ i, i ≤ k → (∀ j, j < i → ¬ zPw V K (42 + 2 * q) j = nI s) → zA g l d m_X12_goesOn I L fs 71 [(4, .int (nI i)), (3, .int (nI s)), (0, .ref 64), (1, .int (nI q)), (2, .int (nI k))] (zP (.int (bi (k < 10 ∧ zPok V K ns nt nh (42 + 2 * q) k = true))) (zU I L fs)) := by
    intro hk10 s hs1 es hg hb
    refine zloop k (fun i hi ih hno => ?_)
    refine zIload d_X12_goesOn_71 rfl (q := 73) rfl ?_
    refine zIloadN d_X12_goesOn_73 rfl rfl (q := 74) rfl ?_
    refine zIcmp_ge d_X12_goesOn_74 (tgt := 96) (q := 77) (by decide) rfl (fun h74 => ?_) (fun h74 => ?_)
    · have e : i = k := by have := nle h74; omega
      have c : zPok V K ns nt nh (42 + 2 * q) k = true := by
        rw [zPok_iff, es, eX, zbit_0 hX31 (by omega)]
        refine ⟨⟨zhas_n hs1 (by omega), hb⟩, ?_⟩
        rw [← Bool.not_eq_true, bX s hs1]
        rintro (z | ⟨j, hj, z⟩)
        · rcases zb_gone hB s with y | y; exact z y; exact hg y
        · exact hno j (by omega) z
      refine zIconst d_X12_goesOn_96 (v := 1) ic_1 (q := 97) rfl ?_
      refine zIret d_X12_goesOn_97 rfl (by first | exact zn_bi | rfl) rfl ?_
      exact zPi (bi_t ⟨hk10, c⟩).symm
    · have hlt := nnle h74
      refine zAloadN d_X12_goesOn_77 rfl rfl (q := 78) rfl ?_
      refine zGetR d_X12_goesOn_78 ff_X12_80 sh_64 (by decide) r_64_35 (q := 81) rfl ?_
      refine zIload d_X12_goesOn_81 rfl (q := 83) rfl ?_
      refine zIald d_X12_goesOn_83 sh_87 (by decide) rfl (by omega) (q := 84) rfl ?_
      rw [hpl i hlt]
      refine zIloadN d_X12_goesOn_84 rfl rfl (q := 85) rfl ?_
      refine zIcmp_ne d_X12_goesOn_85 (tgt := 90) (q := 88) (by decide) rfl (fun h85 => ?_) (fun h85 => ?_)
      · refine zIinc d_X12_goesOn_90 rfl (zinc _) (by decide) rfl (q := 93) rfl ?_
        refine zGoto d_X12_goesOn_93 (q := 71) (by decide) ?_
        refine zSub [0, 1, 2, 3, 4] rfl ?_
        refine ih hlt (fun j hj => ?_)
        rcases Nat.lt_succ_iff_lt_or_eq.mp hj with z | rfl
        · exact hno j z
        · exact h85
      · have c : ¬ zPok V K ns nt nh (42 + 2 * q) k = true := by
          rw [zPok_iff, es, eX, zbit_0 hX31 (by omega), ← Bool.not_eq_true, bX s hs1]
          exact fun z => z.2 (Or.inr ⟨i, hlt, h85⟩)
        refine zIconst d_X12_goesOn_88 (v := 0) ic_0 (q := 89) rfl ?_
        refine zIret d_X12_goesOn_89 rfl (by first | exact zn_bi | rfl) rfl ?_
        exact zPi (bi_f (fun z => c z.2)).symm
  refine zSp_of (lv := [(0, .ref 64), (1, .int (nI q)), (2, .int (nI k))]) k_X12_goesOn rfl (Nat.le_of_ble_eq_true rfl) ?_
  refine zIloadN d_X12_goesOn_0 rfl rfl (q := 1) rfl ?_
  refine zBipush d_X12_goesOn_1 (v := 10) bc_10 (q := 3) rfl ?_
  refine zIcmp_eq d_X12_goesOn_3 (tgt := 20) (q := 6) (by decide) rfl (fun h3 => ?_) (fun h3 => ?_)
  · have c : ¬ (k < 10 ∧ zPok V K ns nt nh (42 + 2 * q) k = true) := fun z => by have := (nI_eq (b := 10) (by omega) (by decide)).mp h3; omega
    refine zIconst d_X12_goesOn_20 (v := 0) ic_0 (q := 21) rfl ?_
    refine zIret d_X12_goesOn_21 rfl (by first | exact zn_bi | rfl) rfl ?_
    exact zPi (bi_f c).symm
  · have hk10 : k < 10 := by rcases Nat.eq_or_lt_of_le hk with z | z; exact absurd (congrArg nI z) h3; exact z
    refine zIconst d_X12_goesOn_6 (v := 2) ic_2 (q := 7) rfl ?_
    refine zIloadN d_X12_goesOn_7 rfl rfl (q := 8) rfl ?_
    refine zImul d_X12_goesOn_8 (q := 9) rfl ?_
    rw [e2]
    refine zIconst d_X12_goesOn_9 (v := 1) ic_1 (q := 10) rfl ?_
    refine zIadd d_X12_goesOn_10 (q := 11) rfl ?_
    refine zAloadN d_X12_goesOn_11 rfl rfl (q := 12) rfl ?_
    refine zGetR d_X12_goesOn_12 ff_X12_110 sh_64 (by decide) r_64_54 (q := 15) rfl ?_
    refine zIloadN d_X12_goesOn_15 rfl rfl (q := 16) rfl ?_
    refine zIald d_X12_goesOn_16 sh_97 (by decide) rfl hq (q := 17) rfl ?_
    rw [nI_1, e97]
    refine zIcmp_lt d_X12_goesOn_17 (tgt := 22) (q := 20) (by decide) rfl (fun h17 => ?_) (fun h17 => ?_)
    · have hlt : 2 * k + 1 < m := nlt h17
      have t1 : zPw V K (42 + 2 * q) k = (K (43 + 2 * q) (2 * k)).toInt32 := zTold_at hm hm2 (by omega)
      have t2 : zPb V K (42 + 2 * q) k = (K (43 + 2 * q) (2 * k + 1)).toInt32 := zTold_at hm hm2 hlt
      refine zAloadN d_X12_goesOn_22 rfl rfl (q := 23) rfl ?_
      refine zIloadN d_X12_goesOn_23 rfl rfl (q := 24) rfl ?_
      refine zIconst d_X12_goesOn_24 (v := 2) ic_2 (q := 25) rfl ?_
      refine zIloadN d_X12_goesOn_25 rfl rfl (q := 26) rfl ?_
      refine zImul d_X12_goesOn_26 (q := 27) rfl ?_
      rw [e2]
      refine zCallVP d_X12_goesOn_27 ml_X12_267 k_X12_at ki_X12_at ks_X12_at (sp_X12_at (d := d - 1) (by omega) hH hq (i := 2 * k) (by omega)) rfl rfl sh_64 (by decide) rfl (by decide) (Nat.le_of_ble_eq_true rfl) (by decide) (by omega) zns100 (q := 30) rfl ?_
      rw [← t1]
      refine zIstoreN d_X12_goesOn_30 rfl (by decide) rfl (q := 31) rfl ?_
      refine zAloadN d_X12_goesOn_31 rfl rfl (q := 32) rfl ?_
      refine zIloadN d_X12_goesOn_32 rfl rfl (q := 33) rfl ?_
      refine zCallVP d_X12_goesOn_33 ml_X12_134 k_X12_isStar ki_X12_isStar ks_X12_isStar (sp_X12_isStar (d := d - 1) (by omega) hM hK) rfl rfl sh_64 (by decide) rfl (by decide) (Nat.le_of_ble_eq_true rfl) (by decide) (by omega) zns100 (q := 36) rfl ?_
      refine zIf_eq d_X12_goesOn_36 (tgt := 66) (q := 39) (by decide) rfl (fun h36 => ?_) (fun h36 => ?_)
      · have c : ¬ (k < 10 ∧ zPok V K ns nt nh (42 + 2 * q) k = true) := fun z => bi_0.mp h36 (zPok_iff.mp z.2).1.1
        refine zIconst d_X12_goesOn_66 (v := 0) ic_0 (q := 67) rfl ?_
        refine zIret d_X12_goesOn_67 rfl (by first | exact zn_bi | rfl) rfl ?_
        exact zPi (bi_f c).symm
      · obtain ⟨s, hs1, es⟩ := zn1 (x := zPw V K (42 + 2 * q) k) (n := ns) (by omega) (bi_n0.mp h36).1 (bi_n0.mp h36).2
        refine zAloadN d_X12_goesOn_39 rfl rfl (q := 40) rfl ?_
        refine zGetR d_X12_goesOn_40 ff_X12_27 sh_64 (by decide) r_64_7 (q := 43) rfl ?_
        refine zIloadN d_X12_goesOn_43 rfl rfl (q := 44) rfl ?_
        refine zIald d_X12_goesOn_44 sh_70 (by decide) es (by omega) (q := 45) rfl ?_
        rw [mg]
        refine zIconst d_X12_goesOn_45 (v := 1) ic_1 (q := 46) rfl ?_
        refine zIcmp_eq d_X12_goesOn_46 (tgt := 66) (q := 49) (by decide) rfl (fun h46 => ?_) (fun h46 => ?_)
        · have c : ¬ (k < 10 ∧ zPok V K ns nt nh (42 + 2 * q) k = true) := fun z => by
            have y := (zPok_iff.mp z.2).2
            rw [es, eX, zbit_0 hX31 (by omega), ← Bool.not_eq_true, bX s hs1] at y
            exact y (Or.inl (by rw [h46]; decide))
          refine zIconst d_X12_goesOn_66 (v := 0) ic_0 (q := 67) rfl ?_
          refine zIret d_X12_goesOn_67 rfl (by first | exact zn_bi | rfl) rfl ?_
          exact zPi (bi_f c).symm
        · refine zAloadN d_X12_goesOn_49 rfl rfl (q := 50) rfl ?_
          refine zAloadN d_X12_goesOn_50 rfl rfl (q := 51) rfl ?_
          refine zIloadN d_X12_goesOn_51 rfl rfl (q := 52) rfl ?_
          refine zIconst d_X12_goesOn_52 (v := 2) ic_2 (q := 53) rfl ?_
          refine zIloadN d_X12_goesOn_53 rfl rfl (q := 54) rfl ?_
          refine zImul d_X12_goesOn_54 (q := 55) rfl ?_
          rw [e2]
          refine zIconst d_X12_goesOn_55 (v := 1) ic_1 (q := 56) rfl ?_
          refine zIadd d_X12_goesOn_56 (q := 57) rfl ?_
          rw [nI_1]
          refine zCallVP d_X12_goesOn_57 ml_X12_267 k_X12_at ki_X12_at ks_X12_at (sp_X12_at (d := d - 1) (by omega) hH hq (i := 2 * k + 1) (by omega)) rfl rfl sh_64 (by decide) rfl (by decide) (Nat.le_of_ble_eq_true rfl) (by decide) (by omega) zns100 (q := 60) rfl ?_
          rw [← t2]
          refine zCallVP d_X12_goesOn_60 ml_X12_138 k_X12_isThrower ki_X12_isThrower ks_X12_isThrower (sp_X12_isThrower (d := d - 1) (by omega) hM hK) rfl rfl sh_64 (by decide) rfl (by decide) (Nat.le_of_ble_eq_true rfl) (by decide) (by omega) zns100 (q := 63) rfl ?_
          refine zIf_ne d_X12_goesOn_63 (tgt := 68) (q := 66) (by decide) rfl (fun h63 => ?_) (fun h63 => ?_)
          · rw [es]
            refine zIconst d_X12_goesOn_68 (v := 0) ic_0 (q := 69) rfl ?_
            refine zIstore d_X12_goesOn_69 (by decide) rfl (q := 71) rfl ?_
            refine zSub [0, 1, 2, 3, 4] rfl ?_
            exact loop hk10 s hs1 es h46 (bi_n0.mp h63) 0 (Nat.zero_le _) (fun j hj => absurd hj (Nat.not_lt_zero _))
          · have c : ¬ (k < 10 ∧ zPok V K ns nt nh (42 + 2 * q) k = true) := fun z => bi_0.mp h63 (zPok_iff.mp z.2).1.2
            refine zIconst d_X12_goesOn_66 (v := 0) ic_0 (q := 67) rfl ?_
            refine zIret d_X12_goesOn_67 rfl (by first | exact zn_bi | rfl) rfl ?_
            exact zPi (bi_f c).symm
    · have hge : m ≤ 2 * k + 1 := nnlt h17
      have c : ¬ (k < 10 ∧ zPok V K ns nt nh (42 + 2 * q) k = true) := fun z => by have y := (zPok_iff.mp z.2).1.2.1; rw [show zPb V K (42 + 2 * q) k = -1 from zTold_out hm hm2 hge (by omega)] at y; exact absurd y (by decide)
      refine zIconst d_X12_goesOn_20 (v := 0) ic_0 (q := 21) rfl ?_
      refine zIret d_X12_goesOn_21 rfl (by first | exact zn_bi | rfl) rfl ?_
      exact zPi (bi_f c).symm
theorem sp_X12_layPlan (hd : 4 ≤ d) (hM : zMs I V) (hK : zSky V ns nt nh) (hB : zBd V ns nt nh) (hH : zMh I V L K) {q m : Nat} (hq : q < 6) (hm : V (42 + 2 * q) 2 = nI m) (hm2 : m ≤ 60) : zSp g l d 100 m_X12_layPlan [.ref 64, .int (nI q)] (zU I L fs) (zV (fun w => ∃ J, w = zU J L fs ∧ yPJ I V K ns nt (42 + 2 * q) (zPn V K ns nt nh (42 + 2 * q)) J)) := by
  have hnt := hK.2.2.1
  have hs := hK.2.1
  have e2 : ∀ i, (2 : Int32) * nI i = nI (2 * i) := fun i => by rw [← pk_mul]; rfl
  have mm : I 74 0 = V 12 0 := hM.2.2.1.1
  have m8 : I 64 8 = nI nt := hM.1.2.1.trans hK.1.2.1
  have tail : ∀ (Q : Option Value → zW → Prop) (J1 : Nat → Nat → Int32) (k t : Nat) (f dn : Int32), t < nt → J1 90 t = f → J1 72 = V 10 → J1 64 34 = nI k → J1 64 39 = dn →
      (∀ J2 : Nat → Nat → Int32, (∀ a, a ≠ 64 → a ≠ 90 → J2 a = J1 a) → (∀ i, i ≠ 34 → i ≠ 39 → J2 64 i = J1 64 i) → J2 64 34 = nI (k + 1) → J2 64 39 = (if dn < f + V 10 t then f + V 10 t else dn) → J2 90 = zup (J1 90) t (f + V 10 t) → zA g l d m_X12_layPlan J2 L fs 43 [(0, .ref 64), (1, .int (nI q))] Q) →
      zA g l d m_X12_layPlan J1 L fs 132 [(2, .int (nI t)), (0, .ref 64), (1, .int (nI q))] Q := by
    intro Q J1 k t f dn ht hf mp h34 h39 KK
    have e34 : J1 64 34 + 1 = nI (k + 1) := by rw [h34, nI_1]
    refine zAloadN d_X12_layPlan_132 rfl rfl (q := 133) rfl ?_
    refine zGetR d_X12_layPlan_133 ff_X12_89 sh_64 (by decide) r_64_38 (q := 136) rfl ?_
    refine zIloadN d_X12_layPlan_136 rfl rfl (q := 137) rfl ?_
    refine zDup2 d_X12_layPlan_137 rfl rfl (q := 138) rfl ?_
    refine zIald d_X12_layPlan_138 sh_90 (by decide) rfl (by omega) (q := 139) rfl ?_
    rw [hf]
    refine zAloadN d_X12_layPlan_139 rfl rfl (q := 140) rfl ?_
    refine zGetR d_X12_layPlan_140 ff_X12_33 sh_64 (by decide) r_64_10 (q := 143) rfl ?_
    refine zIloadN d_X12_layPlan_143 rfl rfl (q := 144) rfl ?_
    refine zIald d_X12_layPlan_144 sh_72 (by decide) rfl (by omega) (q := 145) rfl ?_
    rw [mp]
    refine zIadd d_X12_layPlan_145 (q := 146) rfl ?_
    refine zIast d_X12_layPlan_146 sh_90 (by decide) rfl (by omega) (q := 147) rfl ?_
    refine zAloadN d_X12_layPlan_147 rfl rfl (q := 148) rfl ?_
    refine zGetR d_X12_layPlan_148 ff_X12_89 sh_64 (by decide) r_64_38 (q := 151) rfl ?_
    refine zIloadN d_X12_layPlan_151 rfl rfl (q := 152) rfl ?_
    refine zIald d_X12_layPlan_152 sh_90 (by decide) rfl (by omega) (q := 153) rfl ?_
    rw [zup_eq, zup_eq]
    refine zAloadN d_X12_layPlan_153 rfl rfl (q := 154) rfl ?_
    refine zGetI d_X12_layPlan_154 ff_X12_273 sh_64 (by decide) (q := 157) rfl ?_
    rw [show (zup J1 90 (zup (J1 90) t (f + V 10 t))) 64 39 = dn from h39]
    refine zIcmp_le d_X12_layPlan_157 (tgt := 170) (q := 160) (by decide) rfl (fun h157 => ?_) (fun h157 => ?_)
    · refine zAloadN d_X12_layPlan_170 rfl rfl (q := 171) rfl ?_
      refine zDup d_X12_layPlan_171 rfl (q := 172) rfl ?_
      refine zGetI d_X12_layPlan_172 ff_X12_270 sh_64 (by decide) (q := 175) rfl ?_
      refine zIconst d_X12_layPlan_175 (v := 1) ic_1 (q := 176) rfl ?_
      refine zIadd d_X12_layPlan_176 (q := 177) rfl ?_
      refine zPutI d_X12_layPlan_177 ff_X12_270 rfl rfl rfl sh_64 (by decide) (q := 180) rfl ?_
      refine zGoto d_X12_layPlan_180 (q := 43) (by decide) ?_
      refine zSub [1, 2] rfl ?_
      first
      | exact KK _ (fun a h1 h2 => by rw [zup_ne h1, zup_ne h2]) (fun i h1 h2 => by rw [zup_eq, zup_ne h1]; rfl) e34 (by rw [if_neg (Int32.not_lt.mpr h157)]; exact h39) rfl
      | exact KK _ (fun a h1 h2 => by rw [zup_ne h1, zup_ne h1, zup_ne h2]) (fun i h1 h2 => by rw [zup_eq, zup_ne h1, zup_eq, zup_ne h2]; rfl) e34 (by rw [if_pos (Int32.not_le.mp h157)]; rfl) rfl
    · refine zAloadN d_X12_layPlan_160 rfl rfl (q := 161) rfl ?_
      refine zAloadN d_X12_layPlan_161 rfl rfl (q := 162) rfl ?_
      refine zGetR d_X12_layPlan_162 ff_X12_89 sh_64 (by decide) r_64_38 (q := 165) rfl ?_
      refine zIloadN d_X12_layPlan_165 rfl rfl (q := 166) rfl ?_
      refine zIald d_X12_layPlan_166 sh_90 (by decide) rfl (by omega) (q := 167) rfl ?_
      rw [zup_eq, zup_eq]
      refine zPutI d_X12_layPlan_167 ff_X12_273 rfl rfl rfl sh_64 (by decide) (q := 170) rfl ?_
      refine zAloadN d_X12_layPlan_170 rfl rfl (q := 171) rfl ?_
      refine zDup d_X12_layPlan_171 rfl (q := 172) rfl ?_
      refine zGetI d_X12_layPlan_172 ff_X12_270 sh_64 (by decide) (q := 175) rfl ?_
      refine zIconst d_X12_layPlan_175 (v := 1) ic_1 (q := 176) rfl ?_
      refine zIadd d_X12_layPlan_176 (q := 177) rfl ?_
      refine zPutI d_X12_layPlan_177 ff_X12_270 rfl rfl rfl sh_64 (by decide) (q := 180) rfl ?_
      refine zGoto d_X12_layPlan_180 (q := 43) (by decide) ?_
      refine zSub [1, 2] rfl ?_
      first
      | exact KK _ (fun a h1 h2 => by rw [zup_ne h1, zup_ne h2]) (fun i h1 h2 => by rw [zup_eq, zup_ne h1]; rfl) e34 (by rw [if_neg (Int32.not_lt.mpr h157)]; exact h39) rfl
      | exact KK _ (fun a h1 h2 => by rw [zup_ne h1, zup_ne h1, zup_ne h2]) (fun i h1 h2 => by rw [zup_eq, zup_ne h1, zup_eq, zup_ne h2]; rfl) e34 (by rw [if_pos (Int32.not_le.mp h157)]; rfl) rfl
  have loop : ∀ k, k ≤ 10 → ∀ J, yPJ I V K ns nt (42 + 2 * q) k J → (∀ i, i < k → zPok V K ns nt nh (42 + 2 * q) i = true) → zrun (zPok V K ns nt nh (42 + 2 * q)) 10 k = zPn V K ns nt nh (42 + 2 * q) → zA g l d m_X12_layPlan J L fs 43 [(0, .ref 64), (1, .int (nI q))] (zV (fun w => ∃ J, w = zU J L fs ∧ yPJ I V K ns nt (42 + 2 * q) (zPn V K ns nt nh (42 + 2 * q)) J)) := by
    refine zloop 10 (fun k hk ih J hJ hok hx => ?_)
    obtain ⟨hsc, ⟨j34, j39⟩, j90, jp⟩ := id hJ
    have hM1 := zScr_s hsc hM
    have hH1 := zScr_h hsc hH
    have mp : J 72 = V 10 := hM1.2.1.2.2.2.2.2.2.2.1
    refine zAloadN d_X12_layPlan_43 rfl rfl (q := 44) rfl ?_
    refine zIloadN d_X12_layPlan_44 rfl rfl (q := 45) rfl ?_
    refine zAloadN d_X12_layPlan_45 rfl rfl (q := 46) rfl ?_
    refine zGetI d_X12_layPlan_46 ff_X12_270 sh_64 (by decide) (q := 49) rfl ?_
    rw [j34]
    refine zCallVP d_X12_layPlan_49 ml_X12_276 k_X12_goesOn ki_X12_goesOn ks_X12_goesOn (sp_X12_goesOn (d := d - 1) (by omega) hM1 hK hB hH1 hq hm hm2 hk (fun i hi => (jp i hi).1) hok) rfl rfl sh_64 (by decide) rfl (by decide) (Nat.le_of_ble_eq_true rfl) (by decide) (by omega) zns100 (q := 52) rfl ?_
    refine zIf_eq d_X12_layPlan_52 (tgt := 183) (q := 55) (by decide) rfl (fun h52 => ?_) (fun h52 => ?_)
    · have ek : k = zPn V K ns nt nh (42 + 2 * q) := by
        have c := bi_0.mp h52
        rcases Nat.eq_or_lt_of_le hk with z | z
        · rw [← hx, z, zrun_end (Nat.le_refl _)]
        · rw [← hx, zrun_f (fun y => c ⟨z, y⟩)]
      refine zVret d_X12_layPlan_183 rfl rfl ?_
      exact ⟨rfl, J, rfl, ek ▸ hJ⟩
    · obtain ⟨hlt, hpk⟩ := bi_n0.mp h52
      rw [zrun_t hlt hpk] at hx
      obtain ⟨⟨hw, hb⟩, -⟩ := zPok_iff.mp hpk
      obtain ⟨t, ht, et⟩ := zn1 (x := zPb V K (42 + 2 * q) k) (n := nt) (by omega) hb.1 hb.2
      obtain ⟨s, hs1, es⟩ := zn1 (x := zPw V K (42 + 2 * q) k) (n := ns) (by omega) hw.1 hw.2
      have hb2 : 2 * k + 1 < m := by
        rcases Nat.lt_or_ge (2 * k + 1) m with z | z
        · exact z
        · have y := hb.1; rw [show zPb V K (42 + 2 * q) k = -1 from zTold_out hm hm2 z (by omega)] at y; exact absurd y (by decide)
      have t1 : zPw V K (42 + 2 * q) k = (K (43 + 2 * q) (2 * k)).toInt32 := zTold_at hm hm2 (by omega)
      have t2 : zPb V K (42 + 2 * q) k = (K (43 + 2 * q) (2 * k + 1)).toInt32 := zTold_at hm hm2 hb2
      have et0 : (zPb V K (42 + 2 * q) k).toNatClampNeg = t := by rw [et]; exact zcl_n (by omega)
      have f0 := j90 t ht
      obtain ⟨f, ef⟩ : ∃ f, f = (zPst V K ns (42 + 2 * q) k).2.1 t := ⟨_, rfl⟩
      rw [← ef] at f0
      have epm : zPmin V K ns (42 + 2 * q) k = if f < 999 then f else 999 := by unfold zPmin; rw [et0, ← ef]
      have ep1 : (zPst V K ns (42 + 2 * q) (k + 1)).2.1 = zup (zPst V K ns (42 + 2 * q) k).2.1 t (f + V 10 t) := by show zup _ (zPb V K (42 + 2 * q) k).toNatClampNeg (_ + _) = _; rw [et0, ← ef]
      have ep2 : (zPst V K ns (42 + 2 * q) (k + 1)).2.2 = if (zPst V K ns (42 + 2 * q) k).2.2 < f + V 10 t then f + V 10 t else (zPst V K ns (42 + 2 * q) k).2.2 := by show (if _ < _ then _ else _) = _; rw [et0, ← ef]
      refine zAloadN d_X12_layPlan_55 rfl rfl (q := 56) rfl ?_
      refine zIloadN d_X12_layPlan_56 rfl rfl (q := 57) rfl ?_
      refine zIconst d_X12_layPlan_57 (v := 2) ic_2 (q := 58) rfl ?_
      refine zAloadN d_X12_layPlan_58 rfl rfl (q := 59) rfl ?_
      refine zGetI d_X12_layPlan_59 ff_X12_270 sh_64 (by decide) (q := 62) rfl ?_
      rw [j34]
      refine zImul d_X12_layPlan_62 (q := 63) rfl ?_
      rw [e2]
      refine zIconst d_X12_layPlan_63 (v := 1) ic_1 (q := 64) rfl ?_
      refine zIadd d_X12_layPlan_64 (q := 65) rfl ?_
      rw [nI_1]
      refine zCallVP d_X12_layPlan_65 ml_X12_267 k_X12_at ki_X12_at ks_X12_at (sp_X12_at (d := d - 1) (by omega) hH1 hq (i := 2 * k + 1) (by omega)) rfl rfl sh_64 (by decide) rfl (by decide) (Nat.le_of_ble_eq_true rfl) (by decide) (by omega) zns100 (q := 68) rfl ?_
      rw [← t2, et]
      refine zIstoreN d_X12_layPlan_68 rfl (by decide) rfl (q := 69) rfl ?_
      refine zAloadN d_X12_layPlan_69 rfl rfl (q := 70) rfl ?_
      refine zGetR d_X12_layPlan_70 ff_X12_80 sh_64 (by decide) r_64_35 (q := 73) rfl ?_
      refine zAloadN d_X12_layPlan_73 rfl rfl (q := 74) rfl ?_
      refine zGetI d_X12_layPlan_74 ff_X12_270 sh_64 (by decide) (q := 77) rfl ?_
      refine zAloadN d_X12_layPlan_77 rfl rfl (q := 78) rfl ?_
      refine zIloadN d_X12_layPlan_78 rfl rfl (q := 79) rfl ?_
      refine zIconst d_X12_layPlan_79 (v := 2) ic_2 (q := 80) rfl ?_
      refine zAloadN d_X12_layPlan_80 rfl rfl (q := 81) rfl ?_
      refine zGetI d_X12_layPlan_81 ff_X12_270 sh_64 (by decide) (q := 84) rfl ?_
      refine zImul d_X12_layPlan_84 (q := 85) rfl ?_
      rw [j34, e2]
      refine zCallVP d_X12_layPlan_85 ml_X12_267 k_X12_at ki_X12_at ks_X12_at (sp_X12_at (d := d - 1) (by omega) hH1 hq (i := 2 * k) (by omega)) rfl rfl sh_64 (by decide) rfl (by decide) (Nat.le_of_ble_eq_true rfl) (by decide) (by omega) zns100 (q := 88) rfl ?_
      rw [← t1]
      refine zIast d_X12_layPlan_88 sh_87 (by decide) rfl (by omega) (q := 89) rfl ?_
      refine zAloadN d_X12_layPlan_89 rfl rfl (q := 90) rfl ?_
      refine zGetR d_X12_layPlan_90 ff_X12_83 sh_64 (by decide) r_64_36 (q := 93) rfl ?_
      refine zAloadN d_X12_layPlan_93 rfl rfl (q := 94) rfl ?_
      refine zGetI d_X12_layPlan_94 ff_X12_270 sh_64 (by decide) (q := 97) rfl ?_
      refine zIloadN d_X12_layPlan_97 rfl rfl (q := 98) rfl ?_
      refine zIast d_X12_layPlan_98 sh_88 (by decide) j34 (by omega) (q := 99) rfl ?_
      refine zAloadN d_X12_layPlan_99 rfl rfl (q := 100) rfl ?_
      refine zGetR d_X12_layPlan_100 ff_X12_86 sh_64 (by decide) r_64_37 (q := 103) rfl ?_
      refine zAloadN d_X12_layPlan_103 rfl rfl (q := 104) rfl ?_
      refine zGetI d_X12_layPlan_104 ff_X12_270 sh_64 (by decide) (q := 107) rfl ?_
      refine zAloadN d_X12_layPlan_107 rfl rfl (q := 108) rfl ?_
      refine zGetR d_X12_layPlan_108 ff_X12_89 sh_64 (by decide) r_64_38 (q := 111) rfl ?_
      refine zIloadN d_X12_layPlan_111 rfl rfl (q := 112) rfl ?_
      refine zIald d_X12_layPlan_112 sh_90 (by decide) rfl (by omega) (q := 113) rfl ?_
      rw [show (zup (zup J 87 (zup (J 87) k (zPw V K (42 + 2 * q) k))) 88 (zup ((zup J 87 (zup (J 87) k (zPw V K (42 + 2 * q) k))) 88) k (nI t))) 90 t = f from f0]
      refine zSipush d_X12_layPlan_113 (v := 999) sc_999 (q := 116) rfl ?_
      refine zIcmp_le d_X12_layPlan_116 (tgt := 125) (q := 119) (by decide) rfl (fun h116 => ?_) (fun h116 => ?_)
      · refine zAloadN d_X12_layPlan_125 rfl rfl (q := 126) rfl ?_
        refine zGetR d_X12_layPlan_126 ff_X12_89 sh_64 (by decide) r_64_38 (q := 129) rfl ?_
        refine zIloadN d_X12_layPlan_129 rfl rfl (q := 130) rfl ?_
        refine zIald d_X12_layPlan_130 sh_90 (by decide) rfl (by omega) (q := 131) rfl ?_
        try rw [show (zup (zup J 87 (zup (J 87) k (zPw V K (42 + 2 * q) k))) 88 (zup ((zup J 87 (zup (J 87) k (zPw V K (42 + 2 * q) k))) 88) k (nI t))) 90 t = f from f0]
        refine zIast d_X12_layPlan_131 sh_89 (by decide) j34 (by omega) (q := 132) rfl ?_
        refine zSub [0, 1, 2] rfl ?_
        refine tail _ _ k t f (zPst V K ns (42 + 2 * q) k).2.2 ht f0 mp j34 j39 (fun J2 g1 g2 g3 g4 g5 => ?_)
        refine ih hlt J2 ⟨?_, ⟨g3, by rw [g4, ep2]⟩, fun b hb => ?_, fun i hi => ?_⟩ (fun i hi => ?_) hx
        · refine zScr_trans hsc ⟨fun a h1 h2 => ?_, fun i h1 h2 => g2 i h1 h2⟩
          rw [g1 a h2 (by omega), zup_ne (by omega), zup_ne (by omega), zup_ne (by omega)]
        · rw [g5, ep1]
          by_cases e : b = t
          · subst e; rw [zup_eq, zup_eq]
          · rw [zup_ne e, zup_ne e]; exact j90 b hb
        · rw [g1 87 (by decide) (by decide), g1 88 (by decide) (by decide), g1 89 (by decide) (by decide)]
          show (zup (J 87) k _) i = _ ∧ (zup (J 88) k _) i = _ ∧ (zup (J 89) k _) i = _
          rcases Nat.lt_succ_iff_lt_or_eq.mp hi with z | rfl
          · rw [zup_ne (by omega), zup_ne (by omega), zup_ne (by omega)]; exact jp i z
          · rw [zup_eq, zup_eq, zup_eq, et, epm]; exact ⟨rfl, rfl, by grind⟩
        · rcases Nat.lt_succ_iff_lt_or_eq.mp hi with z | rfl
          · exact hok i z
          · exact hpk
      · refine zSipush d_X12_layPlan_119 (v := 999) sc_999 (q := 122) rfl ?_
        refine zGoto d_X12_layPlan_122 (q := 131) (by decide) ?_
        try rw [show (zup (zup J 87 (zup (J 87) k (zPw V K (42 + 2 * q) k))) 88 (zup ((zup J 87 (zup (J 87) k (zPw V K (42 + 2 * q) k))) 88) k (nI t))) 90 t = f from f0]
        refine zIast d_X12_layPlan_131 sh_89 (by decide) j34 (by omega) (q := 132) rfl ?_
        refine zSub [0, 1, 2] rfl ?_
        refine tail _ _ k t f (zPst V K ns (42 + 2 * q) k).2.2 ht f0 mp j34 j39 (fun J2 g1 g2 g3 g4 g5 => ?_)
        refine ih hlt J2 ⟨?_, ⟨g3, by rw [g4, ep2]⟩, fun b hb => ?_, fun i hi => ?_⟩ (fun i hi => ?_) hx
        · refine zScr_trans hsc ⟨fun a h1 h2 => ?_, fun i h1 h2 => g2 i h1 h2⟩
          rw [g1 a h2 (by omega), zup_ne (by omega), zup_ne (by omega), zup_ne (by omega)]
        · rw [g5, ep1]
          by_cases e : b = t
          · subst e; rw [zup_eq, zup_eq]
          · rw [zup_ne e, zup_ne e]; exact j90 b hb
        · rw [g1 87 (by decide) (by decide), g1 88 (by decide) (by decide), g1 89 (by decide) (by decide)]
          show (zup (J 87) k _) i = _ ∧ (zup (J 88) k _) i = _ ∧ (zup (J 89) k _) i = _
          rcases Nat.lt_succ_iff_lt_or_eq.mp hi with z | rfl
          · rw [zup_ne (by omega), zup_ne (by omega), zup_ne (by omega)]; exact jp i z
          · rw [zup_eq, zup_eq, zup_eq, et, epm]; exact ⟨rfl, rfl, by grind⟩
        · rcases Nat.lt_succ_iff_lt_or_eq.mp hi with z | rfl
          · exact hok i z
          · exact hpk
  have loop0 : ∀ t, t ≤ nt → ∀ J, zScr I J → J 64 34 = 0 → J 64 39 = V 12 0 → (∀ b, b < t → J 90 b = V 12 0) → zA g l d m_X12_layPlan J L fs 17 [(2, .int (nI t)), (0, .ref 64), (1, .int (nI q))] (zV (fun w => ∃ J, w = zU J L fs ∧ yPJ I V K ns nt (42 + 2 * q) (zPn V K ns nt nh (42 + 2 * q)) J)) := by
    refine zloop nt (fun t ht ih J hsc j34 j39 j90 => ?_)
    have hM1 := zScr_s hsc hM
    have m8' : J 64 8 = nI nt := hM1.1.2.1.trans hK.1.2.1
    have mm' : J 74 0 = V 12 0 := hM1.2.2.1.1
    refine zIloadN d_X12_layPlan_17 rfl rfl (q := 18) rfl ?_
    refine zAloadN d_X12_layPlan_18 rfl rfl (q := 19) rfl ?_
    refine zGetI d_X12_layPlan_19 ff_X12_131 sh_64 (by decide) (q := 22) rfl ?_
    rw [m8']
    refine zIcmp_ge d_X12_layPlan_22 (tgt := 43) (q := 25) (by decide) rfl (fun h22 => ?_) (fun h22 => ?_)
    · have e : t = nt := by have := nle h22; omega
      subst e
      refine zSub [1, 2] rfl ?_
      exact loop 0 (Nat.zero_le _) J ⟨hsc, ⟨j34, j39⟩, j90, fun i hi => absurd hi (Nat.not_lt_zero _)⟩ (fun i hi => absurd hi (Nat.not_lt_zero _)) rfl
    · have hlt := nnle h22
      refine zAloadN d_X12_layPlan_25 rfl rfl (q := 26) rfl ?_
      refine zGetR d_X12_layPlan_26 ff_X12_89 sh_64 (by decide) r_64_38 (q := 29) rfl ?_
      refine zIloadN d_X12_layPlan_29 rfl rfl (q := 30) rfl ?_
      refine zAloadN d_X12_layPlan_30 rfl rfl (q := 31) rfl ?_
      refine zGetR d_X12_layPlan_31 ff_X12_39 sh_64 (by decide) r_64_13 (q := 34) rfl ?_
      refine zIconst d_X12_layPlan_34 (v := 0) ic_0 (q := 35) rfl ?_
      refine zIald d_X12_layPlan_35 sh_74 (by decide) (j := 0) rfl (by decide) (q := 36) rfl ?_
      rw [mm']
      refine zIast d_X12_layPlan_36 sh_90 (by decide) rfl (by omega) (q := 37) rfl ?_
      refine zIinc d_X12_layPlan_37 rfl (zinc _) (by decide) rfl (q := 40) rfl ?_
      refine zGoto d_X12_layPlan_40 (q := 17) (by decide) ?_
      refine zSub [0, 1, 2] rfl ?_
      refine ih hlt _ (zScr_up hsc (by decide)) j34 j39 (fun b hb => ?_)
      rw [zup_eq]
      rcases Nat.lt_succ_iff_lt_or_eq.mp hb with z | rfl
      · rw [zup_ne (by omega)]; exact j90 b z
      · exact zup_eq
  refine zSp_of (lv := [(0, .ref 64), (1, .int (nI q))]) k_X12_layPlan rfl (Nat.le_of_ble_eq_true rfl) ?_
  refine zAloadN d_X12_layPlan_0 rfl rfl (q := 1) rfl ?_
  refine zIconst d_X12_layPlan_1 (v := 0) ic_0 (q := 2) rfl ?_
  refine zPutI d_X12_layPlan_2 ff_X12_270 rfl rfl rfl sh_64 (by decide) (q := 5) rfl ?_
  refine zAloadN d_X12_layPlan_5 rfl rfl (q := 6) rfl ?_
  refine zAloadN d_X12_layPlan_6 rfl rfl (q := 7) rfl ?_
  refine zGetR d_X12_layPlan_7 ff_X12_39 sh_64 (by decide) r_64_13 (q := 10) rfl ?_
  refine zIconst d_X12_layPlan_10 (v := 0) ic_0 (q := 11) rfl ?_
  refine zIald d_X12_layPlan_11 sh_74 (by decide) (j := 0) rfl (by decide) (q := 12) rfl ?_
  rw [show (zup I 64 (zup (I 64) 34 0)) 74 0 = V 12 0 from mm]
  refine zPutI d_X12_layPlan_12 ff_X12_273 rfl rfl rfl sh_64 (by decide) (q := 15) rfl ?_
  refine zIconst d_X12_layPlan_15 (v := 0) ic_0 (q := 16) rfl ?_
  refine zIstoreN d_X12_layPlan_16 rfl (by decide) rfl (q := 17) rfl ?_
  refine zSub [0, 1, 2] rfl ?_
  exact loop0 0 (Nat.zero_le _) _ (zScr_fld (zScr_fld zScr_refl (Or.inl rfl)) (Or.inr rfl)) rfl rfl (fun b hb => absurd hb (Nat.not_lt_zero _))
end S61

